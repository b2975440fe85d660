/-! A CHECKPOINT put: VERSIONS stay as they were. -/
theorem ckF_bat {f : Nat → Int32} : ∀ (F : flT) (a : Nat), bat f a (ckF F) → ∀ (j : Nat) (q : Int32 × Int32), F[j]? = some q → r4 f (a + 5 * j) = q.1 ∧ f (a + 5 * j + 4) = q.2.toInt8.toInt32
  | [], _, _, j, q, h => by simp at h
  | p :: F, a, hb, j, q, h => by
    have e : ckF (p :: F) = (u4b p.1 ++ [p.2.toInt8]) ++ ckF F := rfl
    rw [e] at hb
    cases j with
    | zero =>
      rw [List.getElem?_cons_zero] at h
      cases h
      exact ⟨r4_u4 hb.left.left, hb.left.right.one⟩
    | succ j =>
      rw [List.getElem?_cons_succ] at h
      have hl : (u4b p.1 ++ [p.2.toInt8]).length = 5 := rfl
      have h1 := hb.right
      rw [hl] at h1
      have h2 := ckF_bat F (a + 5) h1 j q h
      rw [show a + 5 * (j + 1) = a + 5 + 5 * j by omega]
      exact h2
theorem ckE_back {v : Int32} {F : flT} (hl : F.length ≤ 200) (hp : pts F) : ckL (fnB (ckE v F)) (ub (fnB (ckE v F) 5)) = F := by
  have hb : bat (fnB (ckE v F)) 0 (ckE v F) := fun i _ => by rw [Nat.zero_add]; rfl
  generalize fnB (ckE v F) = f at hb ⊢
  have h1 : bat f 0 (ckB v F) := hb.left
  have h2 : bat f 6 (ckF F) := by
    have h := h1.right
    exact h
  have h3 : f 5 = (nI F.length).toInt8.toInt32 := by
    have h := h1.left.right.one
    exact h
  have h4 : ub (f 5) = F.length := by rw [h3]; exact ub_8 (by omega)
  rw [h4]
  apply List.ext_getElem?
  intro i
  by_cases hi : i < F.length
  · have hg : F[i]? = some F[i] := List.getElem?_eq_getElem hi
    obtain ⟨g1, g2⟩ := ckF_bat F 6 h2 i _ hg
    obtain ⟨p, hp8, hpe⟩ := hp F[i] (List.getElem_mem hi)
    unfold ckL
    rw [List.getElem?_map, List.getElem?_range hi, hg]
    show some (cN f i, nI (cP f i)) = some F[i]
    have e1 : cN f i = F[i].1 := g1
    have e2 : nI (cP f i) = F[i].2 := by
      unfold cP
      rw [g2, hpe, ub_8 (by omega)]
    rw [e1, e2]
  · rw [List.getElem?_eq_none (by rw [ckL_len]; omega), List.getElem?_eq_none (by omega)]
theorem mVr_fl {ob : List obT} {flo : Int32} {w : Nat} {F : flT} (hw : w < 2 ^ 20) (h : mVr ob flo (nI w) = some F) : ¬ nI w < flo ∧ ¬ mLt ob < nI w := by
  unfold mVr at h
  rw [if_neg (nI_neg1 (by omega))] at h
  by_cases e : nI w < flo ∨ mLt ob < nI w
  · rw [if_pos e] at h; cases h
  · exact ⟨fun z => e (Or.inl z), fun z => e (Or.inr z)⟩
theorem mLk_app {ob : List obT} {s n s2 n2 : Int32} {bs : List Int8} (h : mo_nd ob) (h2 : mo_nd (ob ++ [(s, n, bs)])) (hne : ¬ (s2 = s ∧ n2 = n)) : mLk (ob ++ [(s, n, bs)]) s2 n2 = mLk ob s2 n2 := by
  have key : ∀ b2, mLk (ob ++ [(s, n, bs)]) s2 n2 = some b2 ↔ mLk ob s2 n2 = some b2 := by
    intro b2
    rw [mLk_iff h, mLk_iff h2, List.mem_append, List.mem_singleton]
    constructor
    · intro z
      rcases z with z | z
      · exact z
      · exact absurd ⟨(Prod.mk.inj z).1, (Prod.mk.inj (Prod.mk.inj z).2).1⟩ hne
    · exact Or.inl
  cases h9 : mLk ob s2 n2 with
  | some b2 => exact (key b2).mpr h9
  | none =>
    cases h8 : mLk (ob ++ [(s, n, bs)]) s2 n2 with
    | none => rfl
    | some b2 => rw [(key b2).mp h8] at h9; cases h9
theorem mLt_app2 {ob : List obT} {n : Int32} {bs : List Int8} : mLt (ob ++ [(2, n, bs)]) = mLt ob := by
  unfold mLt
  rw [List.foldl_append, List.foldl_cons, List.foldl_nil, if_neg (fun z => absurd z.1 (show ¬ (2 : Int32) = 1 by decide))]
/-- with the CHECKPOINT of a VERSION put, the VERSIONS from it on are read as before -/
theorem mVr_put {ob : List obT} {flo : Int32} {o0 nw : Nat} {Fv : Nat → flT} (hin : mo_in ob) (hnw : nw < 2 ^ 20) (ho0 : o0 ≤ nw) (hvl : vall ob flo o0 nw Fv) (hf : mFi ob 2 (nI o0) = none) (hl : (Fv o0).length ≤ 200) (h1 : mo_in (ob ++ [(2, nI o0, ckE (nI o0) (Fv o0))])) : vall (ob ++ [(2, nI o0, ckE (nI o0) (Fv o0))]) flo o0 nw Fv := by
  intro w hw1 hw2
  have hv0 := hvl o0 (Nat.le_refl _) ho0
  have hvw := hvl w hw1 hw2
  obtain ⟨f1, f2⟩ := mVr_fl (by omega) hvw
  obtain ⟨f3, _⟩ := mVr_fl (by omega) hv0
  obtain ⟨ob1, hob1⟩ : ∃ ob1, ob1 = ob ++ [(2, nI o0, ckE (nI o0) (Fv o0))] := ⟨_, rfl⟩
  have hlk : ∀ (s : Int32) (j : Nat), ¬ (s = 2 ∧ nI j = nI o0) → mLk ob1 s (nI j) = mLk ob s (nI j) := fun s j hne => by rw [hob1]; exact mLk_app hin.1 h1.1 hne
  have hl0 : mLk ob1 2 (nI o0) = some (ckE (nI o0) (Fv o0)) := by
    rw [hob1]
    exact (mLk_iff h1.1).mpr (List.mem_append_right _ (List.mem_singleton.mpr rfl))
  have hm : mLt ob1 = mLt ob := by rw [hob1]; exact mLt_app2
  rw [← hob1]
  have hrd : ∀ n k F, rdM ob1 n k F = rdM ob n k F := fun n k F => rdM_eq n k F (fun j _ _ => hlk 1 j (fun z => absurd z.1 (by decide)))
  have hlow : ∀ b, b ≤ o0 → ckM ob1 b = ckM ob b := by
    intro b
    induction b with
    | zero => intro _; rfl
    | succ b ih =>
      intro hb
      rw [ckM, ckM, hlk 2 b (fun z => absurd (nb_eq z.2 (by omega) (by omega)) (by omega)), ih (by omega)]
  have hup : ∀ d, o0 + 1 + d ≤ nw + 1 → (ckM ob1 (o0 + 1) = ckM ob (o0 + 1) → ckM ob1 (o0 + 1 + d) = ckM ob (o0 + 1 + d)) := by
    intro d hd h0
    exact ckM_eq h0 d (fun j a b => hlk 2 j (fun z => absurd (nb_eq z.2 (by omega) (by omega)) (by omega)))
  rw [mVr_at (by omega) f1 (by rw [hm]; exact f2)]
  by_cases hck : ckS (fnB (ckE (nI o0) (Fv o0))) (ckE (nI o0) (Fv o0)).length (nI o0)
  · have hc1 : ckM ob1 (o0 + 1) = some (o0, ckE (nI o0) (Fv o0)) := ckM_y hl0 hck
    have key : ∀ d, o0 + 1 + d ≤ nw + 1 → (∃ p, ckM ob1 (o0 + 1 + d) = some p ∧ ckM ob (o0 + 1 + d) = some p ∧ o0 < p.1) ∨ (ckM ob1 (o0 + 1 + d) = some (o0, ckE (nI o0) (Fv o0)) ∧ ∀ j, o0 < j → j ≤ o0 + d → ∀ bs, mLk ob 2 (nI j) = some bs → ¬ ckS (fnB bs) bs.length (nI j)) := by
      intro d
      induction d with
      | zero => intro _; exact Or.inr ⟨hc1, fun j a b => absurd a (by omega)⟩
      | succ d ih =>
        intro hd
        have hk := hlk 2 (o0 + 1 + d) (fun z => absurd (nb_eq z.2 (by omega) (by omega)) (by omega))
        rw [← Nat.add_assoc]
        have ih2 := ih (by omega)
        cases hb : mLk ob 2 (nI (o0 + 1 + d)) with
        | none =>
          rw [ckM_n hb, ckM_n (hk.trans hb)]
          rcases ih2 with e | ⟨e1, e2⟩
          · exact Or.inl e
          · refine Or.inr ⟨e1, fun j a b bs hbs => ?_⟩
            by_cases ej : j = o0 + 1 + d
            · rw [ej, hb] at hbs; cases hbs
            · exact e2 j a (by omega) bs hbs
        | some bs =>
          by_cases hc : ckS (fnB bs) bs.length (nI (o0 + 1 + d))
          · exact Or.inl ⟨(o0 + 1 + d, bs), ckM_y (hk.trans hb) hc, ckM_y hb hc, by show o0 < o0 + 1 + d; omega⟩
          · rw [ckM_u hb hc, ckM_u (hk.trans hb) hc]
            rcases ih2 with e | ⟨e1, e2⟩
            · exact Or.inl e
            · refine Or.inr ⟨e1, fun j a b bs2 hbs => ?_⟩
              by_cases ej : j = o0 + 1 + d
              · rw [ej, hb] at hbs
                cases hbs
                rw [ej]
                exact hc
              · exact e2 j a (by omega) bs2 hbs
    have hk := key (w - o0) (by omega)
    rw [show o0 + 1 + (w - o0) = w + 1 by omega] at hk
    rcases hk with ⟨p, e1, e2, _⟩ | ⟨e1, e2⟩
    · rw [mVr_at (by omega) f1 f2, e2] at hvw
      rw [e1, ← hvw]
      exact hrd _ _ _
    · rw [e1, ← hvw, mVr_on (by omega) hw1 f3 f2 hv0 (fun j a b => e2 j a (by omega))]
      show rdM ob1 (w - o0) (o0 + 1) (ckL _ _) = _
      rw [ckE_back hl (pts_mVr hv0)]
      exact hrd _ _ _
  · have h0 : ckM ob1 (o0 + 1) = ckM ob (o0 + 1) := by
      rw [ckM_u hl0 hck, ckM_n (mLk_n hf)]
      exact hlow o0 (Nat.le_refl _)
    have he := hup (w - o0) (by omega) h0
    rw [show o0 + 1 + (w - o0) = w + 1 by omega] at he
    rw [mVr_at (by omega) f1 f2] at hvw
    rw [he, ← hvw]
    cases ckM ob (w + 1) with
    | none => exact hrd _ _ _
    | some p => exact hrd _ _ _
/-- VERSIONS stay as they were through a VACUUM -/
theorem vStb_ok {ob : List obT} {flo ro : Int32} {av : avT} {o0 nw : Nat} (hin : mo_in ob) (hlt : mLt ob = nI nw) (hnw : nw < 2 ^ 20) (ho0 : o0 ≤ nw) (hl : ∀ F, mVr ob flo (nI o0) = some F → F.length ≤ 200) : vStb ob flo ro av o0 nw := by
  intro Fv hvl ob1 hvo kc q hf hq
  have hl0 := hl _ (hvl o0 (Nat.le_refl _) ho0)
  have key : mo_in ob1 ∧ mLt ob1 = nI nw ∧ vall ob1 flo o0 nw Fv := by
    rcases hvo with ⟨_, e⟩ | ⟨e1, e2⟩
    · rw [e]; exact ⟨hin, hlt, hvl⟩
    · have hin1 : mo_in (ob ++ [(2, nI o0, ckE (nI o0) (Fv o0))]) := mo_in_add hin e1.1 (by omega) (fun _ => by rw [ckE_len]; omega)
      rw [e2]
      exact ⟨hin1, by rw [mLt_app2]; exact hlt, mVr_put hin hnw ho0 hvl e1.1 hl0 hin1⟩
  obtain ⟨k1, k2, k3⟩ := key
  exact ⟨fun hck ob2 hp w a b => (mVr_gone k1 hp hnw k2 hf hq hck a b (mVr_fl (by omega) (k3 w a b)).1).trans (k3 w a b), fun _ => k3⟩
