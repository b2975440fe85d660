/-! STEPS: what the two sides' plans and looks have alike. -/
theorem rmB_cg {R S : Nat → Int32} {p q : Int32} : ∀ n, (∀ j, j < n → R j = S j) → (n = 0 ∨ p = q) → rmB R p n = rmB S q n
  | 0, _, _ => by simp [rmB]
  | n + 1, h, hp => by
    rcases hp with e | e
    · omega
    · subst e
      rw [rmB_s, rmB_s, rmB_cg (S := S) (q := p) n (fun j hj => h j (by omega)) (Or.inr rfl), h n (by omega)]
theorem adB_cg {N M P Q : Nat → Int32} : ∀ n, (∀ j, j < n → N j = M j) → (∀ j, j < n → P j = Q j) → adB N P n = adB M Q n
  | 0, _, _ => by simp [adB]
  | n + 1, h, h2 => by rw [adB_s, adB_s, adB_cg n (fun j hj => h j (by omega)) (fun j hj => h2 j (by omega)), h n (by omega), h2 n (by omega)]
theorem enE_cg {v p q : Int32} {nr np : Nat} {R S N M P Q : Nat → Int32} (h1 : ∀ j, j < nr → R j = S j) (h2 : nr = 0 ∨ p = q) (h3 : ∀ j, j < np → N j = M j) (h4 : ∀ j, j < np → P j = Q j) : enE v p nr np R N P = enE v q nr np S M Q := by
  have e : enB v p nr np R N P = enB v q nr np S M Q := by unfold enB; rw [rmB_cg nr h1 h2, adB_cg np h3 h4]
  unfold enE
  rw [e]
theorem lkF_pt {el : List blT} {x ki p q : Int32} (h : ¬ ki = 0 → p = q) : lkF el x ki p = lkF el x ki q := by
  by_cases e : ki = 0
  · unfold lkF
    cases oQ enQ (bFd el x) with
    | none => rfl
    | some y =>
      show (if _ then _ else _) = (if _ then _ else _)
      rw [if_neg (fun z => z.1 e), if_neg (fun z => z.1 e)]
  · rw [h e]
theorem oth_mk {M L : List Nat} {wn : Nat} {av av2 : avT} (hs : sA M av av2) (h : ∀ k ∈ M, k ∈ L ∨ ∀ j, (j < oz k * wn ∨ oz k * wn + oz k ≤ j) → av2 k j = av k j) : oth L wn av av2 := by
  intro k hk j hj
  by_cases e : k ∈ M
  · rcases h k e with z | z
    · exact absurd z hk
    · exact z j hj
  · rw [hs k e]
theorem out1 {av av2 : avT} {k wn i : Nat} {v : Int32} (e : av2 k = upd (av k) i v) (hi : oz k * wn ≤ i ∧ i < oz k * wn + oz k) : ∀ j, (j < oz k * wn ∨ oz k * wn + oz k ≤ j) → av2 k j = av k j := fun j hj => by rw [e, pk_un (by omega)]
theorem out0 {av av2 : avT} {k wn : Nat} (e : av2 k = av k) : ∀ j, (j < oz k * wn ∨ oz k * wn + oz k ≤ j) → av2 k j = av k j := fun j _ => by rw [e]
theorem wRel.wr {k i : Nat} {av av2 : avT} {wa : Nat} {aw sd ml ki pt tr ba wo ve nd : Int32} {nw qa qv cd wl pa : Nat} {c0 c1 c2 : Int32} {fn fp m0 : Nat} {FN FP : Nat → Int32} {qr sh sq qe qp qn SL nr no np n : Nat} {f R E Pp N PA VA : Nat → Int32}
    (h : wRel k av i ((wa, (aw, sd, ml, ki, pt, tr, ba, wo, ve), nw, qa, qv, cd, wl, pa), (c0, c1, c2), (fn, fp, m0, FN, FP), (qr, sh, sq, qe, qp, qn), (SL, nr, no, np, n), (f, R, E, Pp, N), (PA, VA))) (hsd : ¬ sd = 0) (hml : ml = 0) (hnp : np < no) (hx : ∀ x, 33 ≤ x → x ≤ 57 → ¬ x = 52 → ¬ x = 53 → av2 x = av x) (e52 : av2 52 = upd (av 52) (200 * i + np) nd) (e53 : av2 53 i = nI (np + 1)) :
    wRel (k + 1) av2 i ((wa, (aw, sd, ml, ki, pt, tr, ba, wo, ve), nw, qa, qv, cd, wl, pa), (c0, c1, c2), (fn, fp, m0, FN, FP), (qr, sh, sq, qe, qp, qn), (SL, nr, no, np + 1, n), (f, R, E, Pp, upd N np nd), (PA, VA)) := by
  obtain ⟨⟨a1, a2, a3, a4, a5, a6, a7, a8⟩, h2, h3, h4, ⟨os, rs, p1, p2, p3, p4, p5⟩, ⟨q1, q2⟩, h7, h8, h9⟩ := h
  have e : ∀ x, 33 ≤ x → x ≤ 57 → ¬ x = 52 → ¬ x = 53 → ∀ j, av2 x j = av x j := fun x x1 x2 x3 x4 j => congrFun (hx x x1 x2 x3 x4) j
  refine ⟨⟨?_, ?_, ?_, ?_, ?_, ?_, ?_, ?_⟩, fun z => by rw [e 41 (by omega) (by omega) (by omega) (by omega)]; exact h2 z, fun z => by rw [e 42 (by omega) (by omega) (by omega) (by omega), e 43 (by omega) (by omega) (by omega) (by omega), e 44 (by omega) (by omega) (by omega) (by omega)]; exact h3 z, ⟨h4.1, h4.2.1, hnp⟩, ⟨os, rs, p1, p2, p3, plM_same p4 (hx 45 (by omega) (by omega) (by omega) (by omega)) (hx 48 (by omega) (by omega) (by omega) (by omega)) (hx 49 (by omega) (by omega) (by omega) (by omega)) (hx 50 (by omega) (by omega) (by omega) (by omega)) (hx 51 (by omega) (by omega) (by omega) (by omega)), rmM_same p5 (hx 54 (by omega) (by omega) (by omega) (by omega)) (hx 55 (by omega) (by omega) (by omega) (by omega))⟩, ⟨e53, fun j hj => ?_⟩, fun z1 z2 => absurd z2 hsd, fun z1 z2 => ?_, fun z => ⟨(h9 z).1, fun z2 => absurd hml z2, (h9 z).2.2⟩⟩
  · rw [e 33 (by omega) (by omega) (by omega) (by omega)]; exact a1
  · rw [e 34 (by omega) (by omega) (by omega) (by omega)]; exact a2
  · rw [e 35 (by omega) (by omega) (by omega) (by omega)]; exact a3
  · rw [e 36 (by omega) (by omega) (by omega) (by omega)]; exact a4
  · rw [e 37 (by omega) (by omega) (by omega) (by omega)]; exact a5
  · rw [e 38 (by omega) (by omega) (by omega) (by omega)]; exact a6
  · rw [e 39 (by omega) (by omega) (by omega) (by omega)]; exact a7
  · rw [e 40 (by omega) (by omega) (by omega) (by omega)]; exact a8
  · rw [e52]
    by_cases z : j = np
    · subst z; rw [pk_us, pk_us]
    · rw [pk_un (by omega), pk_un z]; exact q2 j (by omega)
  · obtain ⟨⟨b, b1, b2⟩, b3, b4⟩ := h8 z1 z2
    exact ⟨⟨b, b1, by omega⟩, by rw [e 56 (by omega) (by omega) (by omega) (by omega)]; exact b3, fun j hj => by rw [e 57 (by omega) (by omega) (by omega) (by omega)]; exact b4 j hj⟩
theorem map_getE {os : List rwT} {k : Nat} {w : rwT} (h : os[k]? = some w) : (os.map enW)[k]? = some (enW w) := by rw [List.getElem?_map, h]; rfl
theorem Ki.frX {Z : zT} {l : Launch} {y : MethodName} {cc : ByteArray} {n : Nat} {rt : Option FieldType} {rm rm2 : Room} {av : List Value} {W0 W1 : va_W} {post : Int32 → va_W → Prop} (h : Ki Z l y cc n rt rm av W0 post) (X : va_W) (hW : W1.Perm (W0 ++ X)) (hf : rm.frames ≤ rm2.frames) (hc : rm.cells ≤ rm2.cells) (hs : rm.slots ≤ rm2.slots) (hl : rm.locals ≤ rm2.locals) : Ki Z l y cc n rt rm2 av W1 (fun r v => ∃ u0, post r u0 ∧ v = u0 ++ X) := Ki.frm h hW hf hc hs hl (fun r u hp => ⟨u ++ X, [], by rw [List.append_nil], u, hp, rfl⟩)
