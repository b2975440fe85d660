/-! THE STORE: an OBJECT comes, a byte is spoilt. -/
theorem mem_ins {bl : List blT} {x y : blT} (h : y ∈ bIns bl x) : y = x ∨ y ∈ bl := List.mem_cons.mp ((bIns_pm bl x).mem_iff.mp h)
theorem stoI.insK {Z : zT} {k : Nat} {dq : Nat} {dr : arT} {dl : List blT} {eq : Nat} {er : arT} {el : List blT} {kq : Nat} {kr : arT} {kl : List blT} {SA : Nat} {ga : Nat → Int32} (h : stoI Z k dq dr dl eq er el kq kr kl SA ga) {q9 b q8 m L : Nat} {r9 : arT} {v : Int32} {g8 : Nat → Int32} (hok : shOk Z q9 r9 (bIns kl (b, q8, v, L, g8, 0, 0, none, 0))) (hn : bFd kl v = none) (hm : m ≤ k) (hv : v = nI m) (hL : 10 ≤ L) (hL2 : L ≤ 1010) (hg : ∀ i, fits .byte (.int (g8 i)) = true) : stoI Z k dq dr dl eq er el q9 r9 (bIns kl (b, q8, v, L, g8, 0, 0, none, 0)) SA ga := by
  obtain ⟨h1, h2, ⟨c1, c2, c3, c4, c5⟩, h4⟩ := h
  refine ⟨h1, h2, ⟨hok, c2.ins hn, c3.ins hm hv, fun y hy => ?_, fun y hy => ?_⟩, h4⟩
  · rcases mem_ins hy with e | e
    · rw [e]; exact ⟨Or.inl rfl, hL, by show L < 2 ^ 20; omega, hg⟩
    · exact c4 y e
  · rcases mem_ins hy with e | e
    · rw [e]; exact hL2
    · exact c5 y e
theorem stoI.insE {Z : zT} {k : Nat} {dq : Nat} {dr : arT} {dl : List blT} {eq : Nat} {er : arT} {el : List blT} {kq : Nat} {kr : arT} {kl : List blT} {SA : Nat} {ga : Nat → Int32} (h : stoI Z k dq dr dl eq er el kq kr kl SA ga) {q9 b q8 m L : Nat} {r9 : arT} {v : Int32} {g8 : Nat → Int32} (hok : shOk Z q9 r9 (bIns el (b, q8, v, L, g8, 0, 0, none, 0))) (hn : bFd el v = none) (hm : m ≤ k) (hv : v = nI m) (hL : 10 ≤ L) (hL2 : L ≤ 1400) (hg : ∀ i, fits .byte (.int (g8 i)) = true) : stoI Z k dq dr dl q9 r9 (bIns el (b, q8, v, L, g8, 0, 0, none, 0)) kq kr kl SA ga := by
  obtain ⟨h1, ⟨c1, c2, c3, c4⟩, h3, h4⟩ := h
  refine ⟨h1, ⟨hok, c2.ins hn, c3.ins hm hv, fun y hy => ?_⟩, h3, h4⟩
  rcases mem_ins hy with e | e
  · rw [e]; exact ⟨Or.inl rfl, hL, by show L < 2 ^ 20; omega, hg⟩
  · exact c4 y e
theorem stoI.insD {Z : zT} {k : Nat} {dq : Nat} {dr : arT} {dl : List blT} {eq : Nat} {er : arT} {el : List blT} {kq : Nat} {kr : arT} {kl : List blT} {SA : Nat} {ga : Nat → Int32} (h : stoI Z k dq dr dl eq er el kq kr kl SA ga) {q9 b q8 m L : Nat} {r9 : arT} {v : Int32} {g8 : Nat → Int32} (hok : shOk Z q9 r9 (bIns dl (b, q8, v, L, g8, 0, 0, none, 0))) (hn : bFd dl v = none) (hm : m ≤ k) (hv : v = nI m) (hL : 10 ≤ L) (hL2 : L ≤ 1400) (hg : ∀ i, fits .byte (.int (g8 i)) = true) : stoI Z k q9 r9 (bIns dl (b, q8, v, L, g8, 0, 0, none, 0)) eq er el kq kr kl SA ga := by
  obtain ⟨⟨c1, c2, c3⟩, h2, h3, ⟨d1, d2, d3, d4⟩⟩ := h
  refine ⟨⟨hok, c2.ins hn, c3.ins hm hv⟩, h2, h3, ⟨rfl, fun y hy => ?_, fun y hy => ?_, d4⟩⟩
  · rcases mem_ins hy with e | e
    · rw [e]; exact ⟨by show 4 ≤ L; omega, by show L < 2 ^ 20; omega, hg, (fun b hb => by cases hb), Or.inl rfl⟩
    · exact d2 y e
  · rcases mem_ins hy with e | e
    · rw [e]; intro z; exact absurd z (by show ¬ (0 : Int32) = 1; decide)
    · exact d3 y e
theorem fU_ins (dl : List blT) (b q8 L : Nat) (v : Int32) (g8 : Nat → Int32) : fU (fg (bIns dl (b, q8, v, L, g8, 0, 0, none, 0))) = fU (fg dl) + 1 := by
  unfold fU fg
  rw [(((bIns_pm dl (b, q8, v, L, g8, 0, 0, none, 0)).map _).filter _).length_eq, List.map_cons, List.filter_cons]
  exact congrArg (fun z => z) rfl
theorem baW_ins {Z : zT} (dl : List blT) (b q8 L : Nat) (v : Int32) (g8 : Nat → Int32) : (baW Z (bIns dl (b, q8, v, L, g8, 0, 0, none, 0))).Perm (baW Z dl) := by
  have h := baW_perm (Z := Z) (bIns_pm dl (b, q8, v, L, g8, 0, 0, none, 0))
  exact h
theorem map_set {α : Type} {f : blT → α} {bl : List blT} {p : Nat} {y y2 : blT} (hp : bl[p]? = some y) (e : f y2 = f y) : (bl.set p y2).map f = bl.map f := by
  rw [List.map_set, e]
  apply List.ext_getElem?
  intro j
  rw [List.getElem?_set]
  by_cases hj : p = j
  · subst hj
    rw [if_pos rfl, List.getElem?_map, hp]
    have hlt := (List.getElem?_eq_some_iff.mp hp).1
    rw [List.length_map, if_pos hlt]; rfl
  · rw [if_neg hj]
theorem fits_up {f : Nat → Int32} (h : ∀ i, fits .byte (.int (f i)) = true) (j : Nat) (b : Int8) : ∀ i, fits .byte (.int (upd f j b.toInt32 i)) = true := by
  intro i
  by_cases e : i = j
  · subst e; rw [pk_us]; exact by_fit b
  · rw [pk_un e]; exact h i
theorem mem_set {bl : List blT} {p : Nat} {y2 z : blT} (h : z ∈ bl.set p y2) : z = y2 ∨ z ∈ bl := by
  rcases List.mem_or_eq_of_mem_set h with e | e
  · exact Or.inr e
  · exact Or.inl e
theorem okB_rp {q : blT → Prop} {y : blT} (h : okB q y) (j : Nat) (b : Int8) : okB q (bl_rp j b.toInt32 y) := ⟨Or.inl rfl, h.2.1, h.2.2.1, fits_up h.2.2.2 j b⟩
theorem okD_rp {y : blT} (h : okD y) (j : Nat) (b : Int8) : okD (bl_rp j b.toInt32 y) := ⟨h.1, h.2.1, fits_up h.2.2.1 j b, h.2.2.2.1, Or.inl rfl⟩
theorem stoI.rpD {Z : zT} {k : Nat} {dq : Nat} {dr : arT} {dl : List blT} {eq : Nat} {er : arT} {el : List blT} {kq : Nat} {kr : arT} {kl : List blT} {SA : Nat} {ga : Nat → Int32} (h : stoI Z k dq dr dl eq er el kq kr kl SA ga) {p : Nat} {y : blT} (hp : dl[p]? = some y) (j : Nat) (b : Int8) : stoI Z k dq dr (dl.set p (bl_rp j b.toInt32 y)) eq er el kq kr kl SA ga := by
  obtain ⟨⟨c1, c2, c3⟩, h2, h3, ⟨d1, d2, d3, d4⟩⟩ := h
  refine ⟨⟨c1.set (map_set hp rfl), c2.same (map_set hp rfl), c3.same (map_set hp rfl)⟩, h2, h3, ⟨rfl, fun z hz => ?_, fun z hz => ?_, d4⟩⟩
  · rcases mem_set hz with e | e
    · rw [e]; exact okD_rp (d2 y (List.mem_of_getElem? hp)) j b
    · exact d2 z e
  · rcases mem_set hz with e | e
    · rw [e]; intro z0; exact absurd z0 (by show ¬ (0 : Int32) = 1; decide)
    · exact d3 z e
theorem stoI.rpE {Z : zT} {k : Nat} {dq : Nat} {dr : arT} {dl : List blT} {eq : Nat} {er : arT} {el : List blT} {kq : Nat} {kr : arT} {kl : List blT} {SA : Nat} {ga : Nat → Int32} (h : stoI Z k dq dr dl eq er el kq kr kl SA ga) {p : Nat} {y : blT} (hp : el[p]? = some y) (j : Nat) (b : Int8) : stoI Z k dq dr dl eq er (el.set p (bl_rp j b.toInt32 y)) kq kr kl SA ga := by
  obtain ⟨h1, ⟨c1, c2, c3, c4⟩, h3, h4⟩ := h
  refine ⟨h1, ⟨c1.set (map_set hp rfl), c2.same (map_set hp rfl), c3.same (map_set hp rfl), fun z hz => ?_⟩, h3, h4⟩
  rcases mem_set hz with e | e
  · rw [e]; exact okB_rp (c4 y (List.mem_of_getElem? hp)) j b
  · exact c4 z e
theorem stoI.rpK {Z : zT} {k : Nat} {dq : Nat} {dr : arT} {dl : List blT} {eq : Nat} {er : arT} {el : List blT} {kq : Nat} {kr : arT} {kl : List blT} {SA : Nat} {ga : Nat → Int32} (h : stoI Z k dq dr dl eq er el kq kr kl SA ga) {p : Nat} {y : blT} (hp : kl[p]? = some y) (j : Nat) (b : Int8) : stoI Z k dq dr dl eq er el kq kr (kl.set p (bl_rp j b.toInt32 y)) SA ga := by
  obtain ⟨h1, h2, ⟨c1, c2, c3, c4, c5⟩, h4⟩ := h
  refine ⟨h1, h2, ⟨c1.set (map_set hp rfl), c2.same (map_set hp rfl), c3.same (map_set hp rfl), fun z hz => ?_, le_same c5 (map_set hp rfl)⟩, h4⟩
  rcases mem_set hz with e | e
  · rw [e]; exact okB_rp (c4 y (List.mem_of_getElem? hp)) j b
  · exact c4 z e
theorem bsOf_up {f : Nat → Int32} {L i : Nat} (v : Int32) : bsOf (upd f i v) L = (bsOf f L).set i v.toInt8 := by
  apply List.ext_getElem
  · rw [List.length_set, bsOf_len, bsOf_len]
  · intro j h1 h2
    rw [List.getElem_set]
    simp only [bsOf, List.getElem_map, List.getElem_range]
    by_cases e : i = j
    · subst e; rw [if_pos rfl, pk_us]
    · rw [if_neg e, pk_un (fun z => e z.symm)]
theorem i8_back (b : Int8) : b.toInt32.toInt8 = b := by simp
theorem bsOf_set {f : Nat → Int32} {L i : Nat} (b : Int32) : bsOf (upd f i b.toInt8.toInt32) L = spB (bsOf f L) i b := by
  unfold spB
  rw [bsOf_up, i8_back]
theorem kO_rp {y : blT} {s : Int32} {i : Nat} {b : Int32} (_ : i < bl_le y) : kO s (bl_rp i b.toInt8.toInt32 y) = (s, bl_nu y, spB (bsOf (bl_fn y) (bl_le y)) i b) := by
  show (s, bl_nu y, bsOf (upd (bl_fn y) i b.toInt8.toInt32) (bl_le y)) = _
  rw [bsOf_set b]
theorem perm_rp {α : Type} {A B : List α} {i j : Nat} {x x2 : α} (h : A.Perm B) (hi : A[i]? = some x) (hj : B[j]? = some x) : (A.set i x2).Perm (B.set j x2) := by
  have h1 := (perm_erG hi).symm.trans (h.trans (perm_erG hj))
  exact (perm_stG hi).trans ((h1.cons_inv.cons x2).trans (perm_stG hj).symm)
theorem mo_ok.rp {iv : ivT} {av : avT} {ob : List obT} {k i : Nat} {o : obT} {b : Int32} (h : mo_ok iv av ob) (hk : ob[k]? = some o) (hi : i < o.2.2.length) : mo_ok iv (ua av 3 (upd (av 3) (1400 * k + i) b.toInt8.toInt32)) (ob.set k (o.1, o.2.1, spB o.2.2 i b)) := by
  obtain ⟨h1, h2, h3, h4⟩ := h
  refine ⟨by rw [List.length_set]; exact h1, by rw [List.length_set]; exact h2, ?_, h4.spoil hk hi trivial⟩
  rw [h3]
  unfold oSz
  have e : (ob.set k (o.1, o.2.1, spB o.2.2 i b)).map (fun o : obT => o.2.2.length) = ob.map (fun o : obT => o.2.2.length) := by
    rw [List.map_set]
    apply List.ext_getElem?
    intro j
    rw [List.getElem?_set]
    by_cases hj : k = j
    · subst hj
      rw [if_pos rfl, List.getElem?_map, hk, List.length_map, if_pos (List.getElem?_eq_some_iff.mp hk).1]
      show some (spB o.2.2 i b).length = some o.2.2.length
      unfold spB
      rw [List.length_set]
    · rw [if_neg hj]
  first | rw [e] | (show nI _ = nI _; rw [e])
