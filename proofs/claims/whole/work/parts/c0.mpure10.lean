/-! What a DELETE plans. -/
def r4C (c : Nat) (r : r4T) : Int32 := if c = 0 then r.2.1 else if c = 1 then r.2.2.1 else r.2.2.2
def rLn (P : Int32) (V : Nat → Int32) (n : Nat) : List r4T := (List.range n).map (fun r => (P, V r, V (48 + r), V (96 + r)))
theorem rLn_s (P : Int32) (V : Nat → Int32) (n : Nat) : rLn P V (n + 1) = rLn P V n ++ [(P, V n, V (48 + n), V (96 + n))] := by simp [rLn, List.range_succ]
theorem rLn_len (P : Int32) (V : Nat → Int32) (n : Nat) : (rLn P V n).length = n := by simp [rLn]
def rL (w : rwT) : List r4T := (List.range w.2.1.length).map (fun r => (w.1, w.2.1.getD r 0, w.2.2.1.getD r 0, w.2.2.2.getD r 0))
theorem col_get (V : Nat → Int32) (c : Nat) {n r : Nat} (h : r < n) : (col V c n).getD r 0 = V (48 * c + r) := by
  unfold col
  rw [List.getD_eq_getElem?_getD, List.getElem?_map, List.getElem?_range h]; rfl
theorem rL_of (P : Int32) (V : Nat → Int32) (n : Nat) : rL (rwOf P n V) = rLn P V n := by
  unfold rL rLn rwOf
  simp only [col_len]
  apply List.map_congr_left
  intro r hr
  have hr' := List.mem_range.mp hr
  rw [col_get V 0 hr', col_get V 1 hr', col_get V 2 hr', show 48 * 0 + r = r by omega, show 48 * 1 + r = 48 + r by omega, show 48 * 2 + r = 96 + r by omega]
theorem r4C_at (P : Int32) (V : Nat → Int32) {c : Nat} (hc : c < 3) (r : Nat) : r4C c (P, V r, V (48 + r), V (96 + r)) = V (48 * c + r) := by
  rcases (show c = 0 ∨ c = 1 ∨ c = 2 by omega) with h | h | h <;> subst h
  · show V r = _; rw [show 48 * 0 + r = r by omega]
  · show V (48 + r) = _; rw [show 48 * 1 + r = 48 + r by omega]
  · show V (96 + r) = _; rw [show 48 * 2 + r = 96 + r by omega]
/-- the ROWS that stay -/
def kpL (c : Nat) (wh nu : Int32) (l : List r4T) : List r4T := l.filter (fun r => decide (cdv wh nu (r4C c r) = 0))
theorem kpL_y {c : Nat} {wh nu : Int32} {l : List r4T} {r : r4T} (h : cdv wh nu (r4C c r) = 0) : kpL c wh nu (l ++ [r]) = kpL c wh nu l ++ [r] := by simp [kpL, h]
theorem kpL_n {c : Nat} {wh nu : Int32} {l : List r4T} {r : r4T} (h : ¬ cdv wh nu (r4C c r) = 0) : kpL c wh nu (l ++ [r]) = kpL c wh nu l := by simp [kpL, h]
theorem kpL_le (c : Nat) (wh nu : Int32) (l : List r4T) : (kpL c wh nu l).length ≤ l.length := List.length_filter_le _ _
/-- what a DELETE does for a FILE -/
def dlS (D : rdT) (pt : Int32) (c : Nat) (wh nu : Int32) (s : List rwT × List Int32) (q : Int32 × Int32) : List rwT × List Int32 :=
  if q.2 = pt then (D q.1 q.2).elim s (fun w => if mhF wh nu (rwC w c) = 0 then s else if hitF wh nu (rwC w c) = 0 then s else (s.1 ++ (if kpL c wh nu (rL w) = [] then [] else [rw3 pt (kpL c wh nu (rL w))]), s.2 ++ [q.1])) else s
theorem dlS_o {D : rdT} {pt : Int32} {c : Nat} {wh nu : Int32} {s : List rwT × List Int32} {q : Int32 × Int32} (h : ¬ q.2 = pt) : dlS D pt c wh nu s q = s := if_neg h
theorem dlS_m {D : rdT} {pt : Int32} {c : Nat} {wh nu : Int32} {s : List rwT × List Int32} {q : Int32 × Int32} {w : rwT} (h : q.2 = pt) (hw : D q.1 q.2 = some w) (h1 : mhF wh nu (rwC w c) = 0) : dlS D pt c wh nu s q = s := by
  unfold dlS; rw [if_pos h, hw, Option.elim_some, if_pos h1]
theorem dlS_h {D : rdT} {pt : Int32} {c : Nat} {wh nu : Int32} {s : List rwT × List Int32} {q : Int32 × Int32} {w : rwT} (h : q.2 = pt) (hw : D q.1 q.2 = some w) (h2 : hitF wh nu (rwC w c) = 0) : dlS D pt c wh nu s q = s := by
  unfold dlS; rw [if_pos h, hw, Option.elim_some]
  by_cases h1 : mhF wh nu (rwC w c) = 0
  · rw [if_pos h1]
  · rw [if_neg h1, if_pos h2]
theorem dlS_k {D : rdT} {pt : Int32} {c : Nat} {wh nu : Int32} {s : List rwT × List Int32} {q : Int32 × Int32} {w : rwT} (h : q.2 = pt) (hw : D q.1 q.2 = some w) (h1 : ¬ mhF wh nu (rwC w c) = 0) (h2 : ¬ hitF wh nu (rwC w c) = 0) : dlS D pt c wh nu s q = (s.1 ++ (if kpL c wh nu (rL w) = [] then [] else [rw3 pt (kpL c wh nu (rL w))]), s.2 ++ [q.1]) := by
  unfold dlS; rw [if_pos h, hw, Option.elim_some, if_neg h1, if_neg h2]
/-- the FILES that a WRITE removes -/
def rmM (av : avT) (wn : Nat) (rem : List Int32) : Prop := av 54 wn = nI rem.length ∧ ∀ (j : Nat) (x : Int32), rem[j]? = some x → av 55 (200 * wn + j) = x
theorem rmM_0 {av : avT} {wn : Nat} (h : av 54 wn = 0) : rmM av wn [] := ⟨h, fun j x hj => by simp at hj⟩
theorem rmM_same {av av2 : avT} {wn : Nat} {rem : List Int32} (h : rmM av wn rem) (h1 : av2 54 = av 54) (h2 : av2 55 = av 55) : rmM av2 wn rem := ⟨by rw [h1]; exact h.1, by rw [h2]; exact h.2⟩
theorem rmM_s {av : avT} {wn rl : Nat} {rem : List Int32} {x : Int32} (h : rmM av wn rem) (hr : rl = rem.length) {av2 : avT} (h54 : av2 54 = upd (av 54) wn (nI (rl + 1))) (h55 : av2 55 = upd (av 55) (200 * wn + rl) x) : rmM av2 wn (rem ++ [x]) := by
  subst hr
  refine ⟨by rw [h54, pk_us, List.length_append]; rfl, fun j y hj => ?_⟩
  rw [h55]
  rcases Nat.lt_trichotomy j rem.length with h1 | h1 | h1
  · rw [List.getElem?_append_left h1] at hj
    rw [pk_un (by omega)]; exact h.2 j y hj
  · subst h1
    rw [List.getElem?_append_right (Nat.le_refl _), Nat.sub_self] at hj
    cases hj
    rw [pk_us]
  · rw [List.getElem?_eq_none (by simp; omega)] at hj
    cases hj
def shM (av : avT) (wn : Nat) : Nat → Int32 := fun i => av 45 (14400 * wn + i)
theorem upd_sh (g : Nat → Int32) (b j : Nat) (v : Int32) : (fun i => upd g (b + j) v (b + i)) = upd (fun i => g (b + i)) j v := by
  funext i
  by_cases e : i = j
  · subst e; rw [pk_us, pk_us]
  · rw [pk_un e, pk_un (by omega)]
theorem shM_co (av : avT) (wn k : Nat) (y v1 v2 v3 : Int32) : shM (coA av wn k y v1 v2 v3) wn = upd (upd (upd (shM av wn) (3 * k) v1) (3 * k + 1) v2) (3 * k + 2) v3 := by
  have e : (coA av wn k y v1 v2 v3) 45 = upd (upd (upd (av 45) (14400 * wn + 3 * k) v1) (14400 * wn + (3 * k + 1)) v2) (14400 * wn + (3 * k + 2)) v3 := rfl
  unfold shM
  rw [e, upd_sh, upd_sh, upd_sh]
theorem oth.co {L : List Nat} {wn : Nat} {a b : avT} (h : oth L wn a b) {k : Nat} (hk : k < 4800) (y v1 v2 v3 : Int32) : oth L wn a (coA b wn k y v1 v2 v3) := by
  unfold coA
  refine oth.up (oth.up (oth.up (oth.up (oth.up h 46 _ rfl ?_) 45 _ rfl ?_) 45 _ rfl ?_) 45 _ rfl ?_) 47 _ rfl ?_ <;> (simp only [oz]; omega)
theorem sA.co {L : List Nat} {wn : Nat} {a b : avT} (h : sA L a b) {k : Nat} (y v1 v2 v3 : Int32) (h45 : 45 ∈ L) (h46 : 46 ∈ L) (h47 : 47 ∈ L) : sA L a (coA b wn k y v1 v2 v3) := ((((h.up h46 _).up h45 _).up h45 _).up h45 _).up h47 _
theorem cnt_y {F : flT} {q : Int32 × Int32} {G : flT} {pt : Int32} (hF : F = q :: G) (h : q.2 = pt) : F.countP (fun q => decide (q.2 = pt)) = G.countP (fun q => decide (q.2 = pt)) + 1 := by
  subst hF; simp [List.countP_cons, h]
theorem cnt_n {F : flT} {q : Int32 × Int32} {G : flT} {pt : Int32} (hF : F = q :: G) (h : ¬ q.2 = pt) : F.countP (fun q => decide (q.2 = pt)) = G.countP (fun q => decide (q.2 = pt)) := by
  subst hF; simp [List.countP_cons, h]
