/-! VERSIONS when older OBJECTS go: the statement for vacuum. -/
theorem mVr_at {ob : List obT} {flo : Int32} {w : Nat} (hw : w < 2 ^ 20) (h1 : ¬ nI w < flo) (h2 : ¬ mLt ob < nI w) : mVr ob flo (nI w) = (ckM ob (w + 1)).elim (rdM ob (w + 1) 0 []) (fun q => rdM ob (w - q.1) (q.1 + 1) (ckL (fnB q.2) (ub (fnB q.2 5)))) := by
  unfold mVr
  rw [if_neg (nI_neg1 (by omega)), if_neg (fun z => z.elim h1 h2), nI_clamp (by omega)]
theorem kp1_ge {av : avT} {o0 j : Nat} (hj : o0 ≤ j) (hj2 : j < 2 ^ 31) {s : Int32} {bs : List Int8} : kp1 av (nI o0) (s, nI j, bs) = true := by
  have hn : ¬ nI j < nI o0 := fun z => absurd (nb_lt z hj2 (by omega)) (by omega)
  exact kp1_y (fun z => z.elim (fun a => hn a.2) (fun a => hn a.2.1))
theorem mVr_gone {ob1 ob2 : List obT} {av : avT} {flo : Int32} {o0 nw kc : Nat} {q : obT} (hin : mo_in ob1) (hp : ob2.Perm (ob1.filter (kp1 av (nI o0)))) (hnw : nw < 2 ^ 20) (hlt : mLt ob1 = nI nw) (hf : mFi ob1 2 (nI o0) = some kc) (hq : ob1[kc]? = some q) (hck : ckS (fnB q.2.2) q.2.2.length q.2.1) {w : Nat} (hw1 : o0 ≤ w) (hw2 : w ≤ nw) (hfl : ¬ nI w < flo) : mVr ob2 (nI o0) (nI w) = mVr ob1 flo (nI w) := by
  have hin2 := mo_in_perm hin hp
  have hq2 : q.2.1 = nI o0 := by
    obtain ⟨o, h1, _, h3⟩ := mFi_get hf
    rw [hq] at h1
    cases h1
    exact h3
  have hl1 : mLk ob1 2 (nI o0) = some q.2.2 := mLk_s hf hq
  have hlk : ∀ (s : Int32) (j : Nat), o0 ≤ j → j < 2 ^ 31 → mLk ob2 s (nI j) = mLk ob1 s (nI j) := fun s j a b => mLk_perm hin.1 hin2.1 hp (fun bs _ => kp1_ge a b)
  have hl2 : mLk ob2 2 (nI o0) = some q.2.2 := (hlk 2 o0 (Nat.le_refl _) (by omega)).trans hl1
  have hm2 : ¬ mLt ob2 < nI w := by
    obtain ⟨o, g1, g2, g3⟩ := mLt_mem (ob := ob1) (by rw [hlt]; exact nI_neg1 (by omega))
    have hk : o ∈ ob2 := by
      rw [hp.mem_iff, List.mem_filter]
      refine ⟨g1, ?_⟩
      have e : o.2.1 = nI nw := by rw [← g3, hlt]
      obtain ⟨o1, o2, o3⟩ := o
      replace e : o2 = nI nw := e
      subst e
      exact kp1_ge (by omega) (by omega)
    have := mLt_le hk g2
    rw [← g3, hlt] at this
    exact Int32.not_lt.mpr (Int32.le_trans (nI_le hw2 (by omega)) this)
  have hm1 : ¬ mLt ob1 < nI w := by rw [hlt]; exact Int32.not_lt.mpr (nI_le hw2 (by omega))
  rw [mVr_at (by omega) (Int32.not_lt.mpr (nI_le hw1 (by omega))) hm2, mVr_at (by omega) hfl hm1]
  have c1 : ckM ob1 (o0 + 1) = some (o0, q.2.2) := ckM_y hl1 (by rw [← hq2]; exact hck)
  have c2 : ckM ob2 (o0 + 1) = some (o0, q.2.2) := ckM_y hl2 (by rw [← hq2]; exact hck)
  have ce := ckM_eq (ob := ob1) (ob2 := ob2) (a := o0 + 1) (c2.trans c1.symm) (w - o0) (fun j a b => hlk 2 j (by omega) (by omega))
  rw [show o0 + 1 + (w - o0) = w + 1 by omega] at ce
  rw [ce]
  obtain ⟨p, d1, d2, d3⟩ := ckM_ge c1 rfl (w - o0)
  rw [show o0 + 1 + (w - o0) = w + 1 by omega] at d1
  rw [d1]
  exact rdM_eq _ _ _ (fun j a b => hlk 1 j (by omega) (by omega))
theorem rdM_add (ob : List obT) (m : Nat) : ∀ (n k : Nat) (F : flT), rdM ob (n + m) k F = (rdM ob n k F).bind (rdM ob m (k + n))
  | 0, k, F => by rw [Nat.zero_add]; rfl
  | n + 1, k, F => by
    rw [show n + 1 + m = n + m + 1 by omega, rdM, rdM]
    cases mLk ob 1 (nI k) with
    | none => rfl
    | some bs =>
      rw [Option.bind_some, Option.bind_some]
      by_cases he : enS (fnB bs) bs.length (nI k)
      · rw [if_pos he, if_pos he]
        cases apF (fnB bs) F (ub (fnB bs 5)) with
        | none => rfl
        | some F2 =>
          rw [Option.bind_some, Option.bind_some, rdM_add ob m n (k + 1) F2, show k + (n + 1) = k + 1 + n by omega]
      · rw [if_neg he, if_neg he]
        rfl
/-- a VERSION is read on from an older one -/
theorem mVr_on {ob : List obT} {flo : Int32} {o0 w : Nat} {F : flT} (hw : w < 2 ^ 20) (h0 : o0 ≤ w) (hfl : ¬ nI o0 < flo) (h2 : ¬ mLt ob < nI w) (hF : mVr ob flo (nI o0) = some F) (hc : ∀ j, o0 < j → j ≤ w → ∀ bs, mLk ob 2 (nI j) = some bs → ¬ ckS (fnB bs) bs.length (nI j)) : mVr ob flo (nI w) = rdM ob (w - o0) (o0 + 1) F := by
  have hle : nI o0 ≤ nI w := nI_le h0 (by omega)
  have h2' : ¬ mLt ob < nI o0 := fun z => h2 (Int32.lt_of_lt_of_le z hle)
  have hfl' : ¬ nI w < flo := fun z => hfl (Int32.lt_of_le_of_lt hle z)
  rw [mVr_at (by omega) hfl h2'] at hF
  rw [mVr_at hw hfl' h2]
  have hcm : ∀ d, o0 + d ≤ w → ckM ob (o0 + 1 + d) = ckM ob (o0 + 1) := by
    intro d
    induction d with
    | zero => intro _; rfl
    | succ d ih =>
      intro hd
      rw [← Nat.add_assoc]
      cases hb : mLk ob 2 (nI (o0 + 1 + d)) with
      | none => rw [ckM_n hb]; exact ih (by omega)
      | some bs => rw [ckM_u hb (hc (o0 + 1 + d) (by omega) (by omega) bs hb)]; exact ih (by omega)
  have he := hcm (w - o0) (by omega)
  rw [show o0 + 1 + (w - o0) = w + 1 by omega] at he
  rw [he]
  cases hk : ckM ob (o0 + 1) with
  | none =>
    rw [hk] at hF
    replace hF : rdM ob (o0 + 1) 0 [] = some F := hF
    show rdM ob (w + 1) 0 [] = _
    rw [show w + 1 = (o0 + 1) + (w - o0) by omega, rdM_add, hF, Option.bind_some, Nat.zero_add]
  | some p =>
    rw [hk] at hF
    replace hF : rdM ob (o0 - p.1) (p.1 + 1) (ckL (fnB p.2) (ub (fnB p.2 5))) = some F := hF
    have hp := (ckM_mem hk).1
    show rdM ob (w - p.1) (p.1 + 1) (ckL (fnB p.2) (ub (fnB p.2 5))) = _
    rw [show w - p.1 = (o0 - p.1) + (w - o0) by omega, rdM_add, hF, Option.bind_some, show p.1 + 1 + (o0 - p.1) = o0 + 1 by omega]
