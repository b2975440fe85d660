/-! VACUUM, pure. -/
def dn (i : Nat) : Int32 := nI i + Int32.ofInt (-1)
theorem dn_s (i : Nat) : dn (i + 1) = nI i := by
  have h := inc_m1 (k := i + 1) (by omega)
  rw [Nat.add_sub_cancel] at h
  exact h
theorem dn_0 : dn 0 = -1 := by decide
theorem dn_sub (n : Nat) : nI n - 1 = dn n := by
  unfold dn
  rw [Int32.sub_eq_add_neg]
  rfl
/-- one OBJECT goes, the last takes its place -/
theorem swR_split {l X : List obT} {i : Nat} {o : obT} (hi : l[i]? = some o) : ∃ Y, swR (l.take (i + 1) ++ X) i = l.take i ++ Y ∧ Y.Perm X := by
  have hlt : i < l.length := (List.getElem?_eq_some_iff.mp hi).1
  have ht : l.take (i + 1) = l.take i ++ [o] := take_s hi
  have hl : (l.take i).length = i := by rw [List.length_take]; omega
  unfold swR
  rw [ht, List.append_assoc]
  have hset : ∀ z, (l.take i ++ ([o] ++ X)).set i z = l.take i ++ (z :: X) := by
    intro z
    rw [List.set_append_right _ _ (by omega), hl, Nat.sub_self]
    rfl
  rw [hset]
  rcases List.eq_nil_or_concat X with hX | ⟨Y, z, hX⟩
  · subst hX
    refine ⟨[], ?_, List.Perm.refl _⟩
    rw [List.append_nil, List.dropLast_append_of_ne_nil (by simp)]
    rfl
  · rw [List.concat_eq_append] at hX
    subst hX
    have hz : (l.take i ++ ([o] ++ (Y ++ [z]))).getD ((l.take i ++ ([o] ++ (Y ++ [z]))).length - 1) (0, 0, []) = z := by
      rw [← List.append_assoc, ← List.append_assoc]
      exact getD_of (by rw [List.length_append]; simp)
    rw [hz]
    refine ⟨z :: Y, ?_, ?_⟩
    · rw [List.dropLast_append_of_ne_nil (by simp), List.dropLast_cons_of_ne_nil (by simp), List.dropLast_concat]
    · exact (List.perm_append_comm (l₁ := [z]) (l₂ := Y)).trans (List.Perm.refl _)
theorem drop_s {α : Type} {l : List α} {i : Nat} {o : α} (hi : l[i]? = some o) : l.drop i = o :: l.drop (i + 1) := by
  obtain ⟨h, rfl⟩ := List.getElem?_eq_some_iff.mp hi
  exact List.drop_eq_getElem_cons h
/-- what is left so far: from the end on -/
def rmI (kp : obT → Bool) (ob : List obT) (i : Nat) (oc : List obT) : Prop := ∃ X, oc = ob.take i ++ X ∧ X.Perm ((ob.drop i).filter kp)
theorem rmI_0 (kp : obT → Bool) (ob : List obT) : rmI kp ob ob.length ob := ⟨[], by simp, by simp⟩
theorem rmI_e {kp : obT → Bool} {ob oc : List obT} (h : rmI kp ob 0 oc) : oc.Perm (ob.filter kp) := by
  obtain ⟨X, h1, h2⟩ := h
  rw [List.drop_zero] at h2
  rw [h1, List.take_zero]
  exact h2
theorem rmI_get {kp : obT → Bool} {ob oc : List obT} {i : Nat} (h : rmI kp ob (i + 1) oc) (hi : i < ob.length) : oc[i]? = ob[i]? := by
  obtain ⟨X, h1, _⟩ := h
  rw [h1, List.getElem?_append_left (by rw [List.length_take]; omega), List.getElem?_take, if_pos (by omega)]
theorem rmI_k {kp : obT → Bool} {ob oc : List obT} {i : Nat} {o : obT} (h : rmI kp ob (i + 1) oc) (ho : ob[i]? = some o) (hk : kp o = true) : rmI kp ob i oc := by
  obtain ⟨X, h1, h2⟩ := h
  refine ⟨o :: X, ?_, ?_⟩
  · rw [h1, take_s ho, List.append_assoc]; rfl
  · rw [drop_s ho, List.filter_cons_of_pos hk]
    exact List.Perm.cons _ h2
theorem rmI_g {kp : obT → Bool} {ob oc : List obT} {i : Nat} {o : obT} (h : rmI kp ob (i + 1) oc) (ho : ob[i]? = some o) (hk : ¬ kp o = true) : rmI kp ob i (swR oc i) := by
  obtain ⟨X, h1, h2⟩ := h
  obtain ⟨Y, h3, h4⟩ := swR_split (X := X) ho
  refine ⟨Y, by rw [h1]; exact h3, ?_⟩
  rw [drop_s ho, List.filter_cons_of_neg hk]
  exact h4.trans h2
theorem rmI_len {kp : obT → Bool} {ob oc : List obT} {i : Nat} (h : rmI kp ob i oc) (hi : i ≤ ob.length) : i ≤ oc.length := by
  obtain ⟨X, h1, _⟩ := h
  rw [h1, List.length_append, List.length_take]; omega
/-- DATA that are needed -/
def nd_at (av : avT) (ob : List obT) (NL : List Int32) : Prop := ∀ (k : Nat) (o : obT), ob[k]? = some o → o.1 = 0 → av 59 k = if o.2.1 ∈ NL then 1 else 0
theorem nd_same {av av2 : avT} {ob : List obT} {NL : List Int32} (h : nd_at av ob NL) (e : av2 59 = av 59) : nd_at av2 ob NL := by unfold nd_at; rw [e]; exact h
theorem ndA_59 {ob : List obT} {av : avT} {x : Int32} (j : Nat) (hj : j ≠ 59) : ndA ob av x j = av j := by
  unfold ndA
  cases mFi ob 0 x with
  | none => rfl
  | some k => exact ua_n hj
theorem nd_s {av : avT} {ob : List obT} {NL : List Int32} {x : Int32} (hn : mo_nd ob) (h : nd_at av ob NL) : nd_at (ndA ob av x) ob (NL ++ [x]) := by
  intro k o hk ho
  have h0 := h k o hk ho
  unfold ndA
  cases hf : mFi ob 0 x with
  | none =>
    show av 59 k = _
    rw [h0]
    have hne : o.2.1 ≠ x := fun z => by
      have h9 := mFi_at hn hk
      rw [ho, z, hf] at h9
      cases h9
    simp only [List.mem_append, List.mem_singleton, hne, or_false]
  | some k2 =>
    show (upd (av 59) k2 1) k = _
    obtain ⟨o2, g1, g2, g3⟩ := mFi_get hf
    by_cases e : k = k2
    · subst e
      rw [g1] at hk
      cases hk
      rw [pk_us, if_pos (List.mem_append_right _ (by rw [g3]; exact List.mem_singleton.mpr rfl))]
    · have hne : o.2.1 ≠ x := fun z => by
        have h9 := mFi_at hn hk
        rw [ho, z, hf] at h9
        cases h9
        exact e rfl
      rw [pk_un e, h0]
      simp only [List.mem_append, List.mem_singleton, hne, or_false]
/-- an ENTRY that a WRITER has still to look at -/
def wtd (av : avT) (x : Int32) : Prop := ∃ j, j < 4 ∧ ¬ av 33 j = 0 ∧ ¬ av 34 j = 0 ∧ av 36 j < x
theorem wtd_same {av av2 : avT} {x : Int32} (h33 : av2 33 = av 33) (h34 : av2 34 = av 34) (h36 : av2 36 = av 36) : wtd av2 x ↔ wtd av x := by unfold wtd; rw [h33, h34, h36]
noncomputable def kp1 (av : avT) (v : Int32) (o : obT) : Bool := @decide (¬ ((o.1 = 2 ∧ o.2.1 < v) ∨ (o.1 = 1 ∧ o.2.1 < v ∧ ¬ wtd av o.2.1))) (Classical.propDecidable _)
theorem kp1_y {av : avT} {v : Int32} {o : obT} (h : ¬ ((o.1 = 2 ∧ o.2.1 < v) ∨ (o.1 = 1 ∧ o.2.1 < v ∧ ¬ wtd av o.2.1))) : kp1 av v o = true := @decide_eq_true _ (Classical.propDecidable _) h
theorem kp1_n {av : avT} {v : Int32} {o : obT} (h : (o.1 = 2 ∧ o.2.1 < v) ∨ (o.1 = 1 ∧ o.2.1 < v ∧ ¬ wtd av o.2.1)) : ¬ kp1 av v o = true := fun z => (@of_decide_eq_true _ (Classical.propDecidable _) z) h
def kp2 (NL : List Int32) (o : obT) : Bool := decide (¬ (o.1 = 0 ∧ o.2.1 ∉ NL))
theorem kp2_y {NL : List Int32} {o : obT} (h : ¬ (o.1 = 0 ∧ o.2.1 ∉ NL)) : kp2 NL o = true := by unfold kp2; exact decide_eq_true h
theorem kp2_n {NL : List Int32} {o : obT} (h : o.1 = 0 ∧ o.2.1 ∉ NL) : ¬ kp2 NL o = true := by unfold kp2; rw [decide_eq_true_iff]; exact fun z => z h
