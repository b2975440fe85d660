/-! WRITERS: what changes of one, what stays of the others. -/
theorem plM_same {av av2 : avT} {i : Nat} {os : List rwT} (h : plM av i os) (h5 : av2 45 = av 45) (h8 : av2 48 = av 48) (h9 : av2 49 = av 49) (h0 : av2 50 = av 50) (h1 : av2 51 = av 51) : plM av2 i os := by
  unfold plM plG at h ⊢
  rw [h5, h8, h9, h0, h1]
  exact h
theorem wRel.sc {k i : Nat} {av av2 : avT} {wa : Nat} {aw sd ml ki pt tr ba wo ve aw2 ml2 ba2 wo2 ve2 : Int32} {nw qa qv cd wl pa : Nat} {c0 c1 c2 : Int32} {fn fp m0 : Nat} {FN FP : Nat → Int32} {qr sh sq qe qp qn SL nr no np n : Nat} {f R E Pp N PA VA : Nat → Int32}
    (h : wRel k av i ((wa, (aw, sd, ml, ki, pt, tr, ba, wo, ve), nw, qa, qv, cd, wl, pa), (c0, c1, c2), (fn, fp, m0, FN, FP), (qr, sh, sq, qe, qp, qn), (SL, nr, no, np, n), (f, R, E, Pp, N), (PA, VA)))
    (e33 : av2 33 i = aw2) (e34 : av2 34 = av 34) (e35 : av2 35 = av 35) (e36 : av2 36 i = ba2) (e37 : av2 37 i = wo2) (e38 : av2 38 = av 38) (e39 : av2 39 i = ve2) (e40 : av2 40 i = ml2) (hx : ∀ x, 41 ≤ x → x ≤ 57 → av2 x = av x) (haw : ¬ aw2 = 0 → ¬ aw = 0)
    (hb : ¬ aw2 = 0 → ¬ sd = 0 → ∃ b, ba2 + 1 = nI b ∧ b ≤ k + 1) (hl : ¬ aw2 = 0 → (∃ a b, wo2 = nI a ∧ tr = nI b ∧ a < b ∧ b ≤ 8) ∧ (¬ ml2 = 0 → np = no)) (hm7 : ¬ aw2 = 0 → sd = 0 → ml2 = 0) :
    wRel (k + 1) av2 i ((wa, (aw2, sd, ml2, ki, pt, tr, ba2, wo2, ve2), nw, qa, qv, cd, wl, pa), (c0, c1, c2), (fn, fp, m0, FN, FP), (qr, sh, sq, qe, qp, qn), (SL, nr, no, np, n), (f, R, E, Pp, N), (PA, VA)) := by
  obtain ⟨⟨a1, a2, a3, a4, a5, a6, a7, a8⟩, h2, h3, h4, ⟨os, rs, p1, p2, p3, p4, p5⟩, ⟨q1, q2⟩, h7, h8, h9⟩ := h
  have e : ∀ x, 41 ≤ x → x ≤ 57 → ∀ j, av2 x j = av x j := fun x x1 x2 j => congrFun (hx x x1 x2) j
  refine ⟨⟨e33, by rw [e34]; exact a2, by rw [e35]; exact a3, e36, e37, by rw [e38]; exact a6, e39, e40⟩, fun z => by rw [e 41 (by omega) (by omega)]; exact h2 z, fun z => by rw [e 42 (by omega) (by omega), e 43 (by omega) (by omega), e 44 (by omega) (by omega)]; exact h3 z, h4, ⟨os, rs, p1, p2, p3, plM_same p4 (hx 45 (by omega) (by omega)) (hx 48 (by omega) (by omega)) (hx 49 (by omega) (by omega)) (hx 50 (by omega) (by omega)) (hx 51 (by omega) (by omega)), rmM_same p5 (hx 54 (by omega) (by omega)) (hx 55 (by omega) (by omega))⟩, ⟨by rw [e 53 (by omega) (by omega)]; exact q1, fun j hj => by rw [e 52 (by omega) (by omega)]; exact q2 j hj⟩, fun z1 z2 => ?_, fun z1 z2 => ?_, fun z => ⟨(hl z).1, (hl z).2, (h9 (haw z)).2.2⟩⟩
  · obtain ⟨b1, b2, b3, b4, b5, b6, b7, b8⟩ := h7 (haw z1) z2
    refine ⟨b1, b2, by rw [e 47 (by omega) (by omega)]; exact b3, ?_, b5, b6, by rw [e 56 (by omega) (by omega)]; exact b7, hm7 z1 z2⟩
    rw [← b4]
    unfold rowsM
    rw [hx 45 (by omega) (by omega), hx 46 (by omega) (by omega)]
  · obtain ⟨-, b3, b4⟩ := h8 (haw z1) z2
    exact ⟨hb z1 z2, by rw [e 56 (by omega) (by omega)]; exact b3, fun j hj => by rw [e 57 (by omega) (by omega)]; exact b4 j hj⟩
theorem sum_set : ∀ {ws : List wrT} {i : Nat} {w w2 : wrT}, ws[i]? = some w → ((ws.set i w2).map slR).sum + slR w = (ws.map slR).sum + slR w2
  | [], i, w, w2, h => by simp at h
  | x :: ws, 0, w, w2, h => by
    simp only [List.getElem?_cons_zero, Option.some.injEq] at h
    subst h
    simp only [List.set_cons_zero, List.map_cons, List.sum_cons]
    omega
  | x :: ws, i + 1, w, w2, h => by
    have ih := sum_set (ws := ws) (i := i) (w := w) (w2 := w2) (by simpa using h)
    simp only [List.set_cons_succ, List.map_cons, List.sum_cons]
    omega
theorem wsOk_set {wv : Nat → Option Nat} {ws : List wrT} {i : Nat} {w w2 : wrT} (h : wsOk wv ws) (hw : ws[i]? = some w) (e : wr_ad w2 = wr_ad w) : wsOk wv (ws.set i w2) := by
  refine ⟨by rw [List.length_set]; exact h.1, fun j x hx => ?_⟩
  rw [List.getElem?_set] at hx
  by_cases hij : i = j
  · subst hij
    rw [if_pos rfl] at hx
    split at hx
    · cases hx; rw [e]; exact h.2 i w hw
    · cases hx
  · rw [if_neg hij] at hx
    exact h.2 j x hx
theorem wr_set {k : Nat} {av av2 : avT} {ws : List wrT} {i : Nat} {w2 : wrT} {L : List Nat} (h : ∀ i w, ws[i]? = some w → wRel k av i w) (h2 : wRel (k + 1) av2 i w2) (ho : oth L i av av2) (hL : ∀ x, 33 ≤ x → x ≤ 57 → x ∉ L) : ∀ j w, (ws.set i w2)[j]? = some w → wRel (k + 1) av2 j w := by
  intro j x hx
  rw [List.getElem?_set] at hx
  by_cases hij : i = j
  · subst hij
    rw [if_pos rfl] at hx
    split at hx
    · cases hx; exact h2
    · cases hx
  · rw [if_neg hij] at hx
    exact (h j x hx).oth ho hL (fun z => hij z.symm)
theorem wrI_out {wv : Nat → Option Nat} {x : Int32} (h : ¬ (0 ≤ x ∧ x < 4)) : wrI wv x = none := by
  unfold wrI
  by_cases h0 : x < 0
  · rw [if_pos h0]
  · rw [if_neg h0, if_neg (fun z => h ⟨Int32.not_lt.mp h0, z⟩)]
theorem w_in {x : Int32} (h : 0 ≤ x ∧ x < 4) : ∃ wn, wn < 4 ∧ x = nI wn := by
  obtain ⟨j, hj, ej⟩ := nI_of (x := x) (Int32.not_lt.mpr h.1)
  have h2 := h.2
  rw [ej] at h2
  exact ⟨j, (nI_ltI (b := 4) hj (by omega)).mp h2, ej⟩
theorem oth_ua {i x : Nat} {av : avT} (v : Int32) (hz : oz x = 1) : oth [] i av (ua av x (upd (av x) i v)) := oth.rf.up x v rfl (by rw [hz]; omega)
theorem le_7 {y : Int32} : y < 8 ↔ y ≤ 7 := by
  constructor
  · intro h
    by_cases h0 : y < 0
    · exact Int32.le_of_lt (Int32.lt_trans h0 (by decide))
    · obtain ⟨j, hj, ej⟩ := nI_of h0
      rw [ej] at h ⊢
      have := (nI_ltI (b := 8) hj (by omega)).mp h
      exact nI_le (b := 7) (by omega) (by omega)
  · intro h; exact Int32.lt_of_le_of_lt h (by decide)
theorem le_2i {y : Int32} : y < 3 ↔ y ≤ 2 := ⟨le_2, fun h => Int32.lt_of_le_of_lt h (by decide)⟩
