/-! What a sorted shelf loses below a number. -/
theorem drop_flt (x : Int32) : ∀ {bl : List blT}, bSo bl → bl.drop (bPl bl x) = bl.filter (fun y => decide (¬ bl_nu y < x))
  | [], _ => rfl
  | y :: t, hb => by
    have hb2 : (∀ q ∈ t.map nF, (nF y).1 < q.1) ∧ bSo t := List.pairwise_cons.mp hb
    have hn : (nF y).1 = bl_nu y := rfl
    by_cases h : bl_nu y < x
    · have hp : bPl (y :: t) x = bPl t x + 1 := by
        unfold bPl plc
        rw [List.map_cons, List.takeWhile_cons_of_pos (by rw [hn]; exact decide_eq_true h), List.length_cons]
      rw [hp, List.drop_succ_cons, List.filter_cons_of_neg (by simp [h])]
      exact drop_flt x hb2.2
    · have hp : bPl (y :: t) x = 0 := by
        unfold bPl plc
        rw [List.map_cons, List.takeWhile_cons_of_neg (by rw [hn]; simp [h])]
        rfl
      rw [hp, List.drop_zero]
      symm
      rw [List.filter_eq_self]
      intro z hz
      refine decide_eq_true ?_
      rcases List.mem_cons.mp hz with e | e
      · rw [e]; exact h
      · have h9 := hb2.1 (nF z) (List.mem_map.mpr ⟨z, e, rfl⟩)
        exact fun c => h (Int32.lt_trans h9 c)
/-- takeUnwanted keeps what is wanted -/
theorem wM_flt (L : List Int32) : ∀ (dl : List blT), ((wM L (dl.map (bl_w 0))).filter kpt).map (kO 0) = (dl.filter (fun y => decide (bl_nu y ∈ L))).map (kO 0)
  | [] => rfl
  | y :: t => by
    have ih := wM_flt L t
    have e : wM L ((y :: t).map (bl_w 0)) = (if bl_nu y ∈ L then bl_w 1 (bl_w 0 y) else bl_w 0 y) :: wM L (t.map (bl_w 0)) := rfl
    rw [e]
    by_cases h : bl_nu y ∈ L
    · rw [if_pos h, List.filter_cons_of_pos (show kpt (bl_w 1 (bl_w 0 y)) = true from rfl), List.filter_cons_of_pos (p := fun y => decide (bl_nu y ∈ L)) (by simp [h]), List.map_cons, List.map_cons, ih]
      rfl
    · rw [if_neg h, List.filter_cons_of_neg (show ¬ kpt (bl_w 0 y) = true from fun z => Bool.noConfusion (show false = true from z)), List.filter_cons_of_neg (p := fun y => decide (bl_nu y ∈ L)) (by simp [h]), ih]
