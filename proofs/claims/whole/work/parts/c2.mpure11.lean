/-! What a COMPACT plans. -/
def cmS (D : rdT) (pt : Int32) (s : List r4T × List Int32) (q : Int32 × Int32) : List r4T × List Int32 :=
  if q.2 = pt then (D q.1 q.2).elim s (fun w => (s.1 ++ rL w, s.2 ++ [q.1])) else s
theorem cmS_o {D : rdT} {pt : Int32} {s : List r4T × List Int32} {q : Int32 × Int32} (h : ¬ q.2 = pt) : cmS D pt s q = s := if_neg h
theorem cmS_y {D : rdT} {pt : Int32} {s : List r4T × List Int32} {q : Int32 × Int32} {w : rwT} (h : q.2 = pt) (hw : D q.1 q.2 = some w) : cmS D pt s q = (s.1 ++ rL w, s.2 ++ [q.1]) := by
  unfold cmS; rw [if_pos h, hw, Option.elim_some]
def ch48 (pt : Int32) (R : List r4T) (n : Nat) : List rwT := (List.range n).map (fun i => rw3 pt ((R.drop (48 * i)).take 48))
theorem ch48_s (pt : Int32) (R : List r4T) (n : Nat) : ch48 pt R (n + 1) = ch48 pt R n ++ [rw3 pt ((R.drop (48 * n)).take 48)] := by simp [ch48, List.range_succ]
theorem ch48_len (pt : Int32) (R : List r4T) (n : Nat) : (ch48 pt R n).length = n := by simp [ch48]
theorem so_take {f : Nat → Int32} {l : List r4T} (h : so_at f l) (n : Nat) : so_at f (l.take n) := by
  intro i r hi
  rw [List.getElem?_take] at hi
  by_cases hn : i < n
  · rw [if_pos hn] at hi; exact h i r hi
  · rw [if_neg hn] at hi; cases hi
theorem take_48 (l : List r4T) (n : Nat) : l.take n ++ (l.drop n).take 48 = l.take (n + 48) := (List.take_add).symm
