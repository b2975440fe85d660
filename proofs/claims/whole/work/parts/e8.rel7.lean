/-! A plan's bytes. -/
theorem plM_b {av : avT} {wn k : Nat} {os : List rwT} {o : rwT} (h : plM av wn os) (hk : os[k]? = some o) : ∃ (fi N : Nat), av 50 (200 * wn + k) = nI fi ∧ av 51 (200 * wn + k) = nI N ∧ 1 ≤ N ∧ N ≤ 48 ∧ fi + N ≤ 4800 ∧ wB av wn fi N (av 49 (200 * wn + k)) = enW o ∧ o.1 = av 49 (200 * wn + k) := by
  obtain ⟨fi, N, a1, a2, a3, a4, a5, a6⟩ := h.2 k o hk
  have e : wV av wn fi = wVf (fun i => av 45 (14400 * wn + i)) fi := wV_f av wn fi
  refine ⟨fi, N, a1, a2, a3, a4, a5, ?_, by rw [a6]; rfl⟩
  rw [wB_enW av wn fi N _ a4, e, a6]
/-- a plan of one WRITER stays when another one's changes -/
theorem plM_oth {av av2 : avT} {wn w2 : Nat} {L : List Nat} {os : List rwT} (h : plM av wn os) (ho : oth L w2 av av2) (hne : wn ≠ w2) (hL : ∀ j, 45 ≤ j → j ≤ 51 → j ∉ L) (hos : os.length ≤ 200) : plM av2 wn os := by
  have e48 : av2 48 wn = av 48 wn := ho 48 (hL 48 (by omega) (by omega)) wn (by show wn < 1 * w2 ∨ 1 * w2 + 1 ≤ wn; omega)
  have eb : ∀ j, j = 49 ∨ j = 50 ∨ j = 51 → ∀ k, k < 200 → av2 j (200 * wn + k) = av j (200 * wn + k) := by
    intro j hj k hk
    rcases hj with e | e | e <;> subst e <;> exact ho _ (hL _ (by omega) (by omega)) _ (by simp only [oz]; omega)
  have e45 : ∀ i, i < 14400 → av2 45 (14400 * wn + i) = av 45 (14400 * wn + i) := fun i hi => ho 45 (hL 45 (by omega) (by omega)) _ (by simp only [oz]; omega)
  refine ⟨by rw [e48]; exact h.1, fun k o hk => ?_⟩
  obtain ⟨fi, N, a1, a2, a3, a4, a5, a6⟩ := h.2 k o hk
  have hk2 : k < 200 := by
    have := (List.getElem?_eq_some_iff.mp hk).1
    omega
  refine ⟨fi, N, by rw [eb 50 (by omega) k hk2]; exact a1, by rw [eb 51 (by omega) k hk2]; exact a2, a3, a4, a5, ?_⟩
  rw [a6, eb 49 (by omega) k hk2]
  exact (wVf_cong (b := 4800) a5 a4 (fun i hi => e45 i (by omega))).symm
theorem rmM_oth {av av2 : avT} {wn w2 : Nat} {L : List Nat} {rem : List Int32} (h : rmM av wn rem) (ho : oth L w2 av av2) (hne : wn ≠ w2) (h54 : 54 ∉ L) (h55 : 55 ∉ L) (hr : rem.length ≤ 200) : rmM av2 wn rem := by
  refine ⟨by rw [ho 54 h54 wn (by show wn < 1 * w2 ∨ 1 * w2 + 1 ≤ wn; omega)]; exact h.1, fun j x hj => ?_⟩
  have hjl := (List.getElem?_eq_some_iff.mp hj).1
  rw [ho 55 h55 (200 * wn + j) (by simp only [oz]; omega)]
  exact h.2 j x hj
