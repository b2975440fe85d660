/-! The CHECKPOINT that a VERSION is read from. -/
theorem ckM_max (ob : List obT) : ∀ b, (ckM ob b = none ∧ ∀ j, j < b → ∀ bs, mLk ob 2 (nI j) = some bs → ¬ ckS (fnB bs) bs.length (nI j)) ∨ ∃ p, ckM ob b = some p ∧ p.1 < b ∧ mLk ob 2 (nI p.1) = some p.2 ∧ ckS (fnB p.2) p.2.length (nI p.1) ∧ ∀ j, p.1 < j → j < b → ∀ bs, mLk ob 2 (nI j) = some bs → ¬ ckS (fnB bs) bs.length (nI j)
  | 0 => Or.inl ⟨rfl, fun j hj => absurd hj (by omega)⟩
  | b + 1 => by
    have step : (∀ bs, mLk ob 2 (nI b) = some bs → ¬ ckS (fnB bs) bs.length (nI b)) → ckM ob (b + 1) = ckM ob b := by
      intro h
      cases hb : mLk ob 2 (nI b) with
      | none => exact ckM_n hb
      | some bs => exact ckM_u hb (h bs hb)
    by_cases hs : ∃ bs, mLk ob 2 (nI b) = some bs ∧ ckS (fnB bs) bs.length (nI b)
    · obtain ⟨bs, h1, h2⟩ := hs
      exact Or.inr ⟨(b, bs), ckM_y h1 h2, Nat.lt_succ_self b, h1, h2, fun j a c => absurd (show b < j from a) (by omega)⟩
    · have hn : ∀ bs, mLk ob 2 (nI b) = some bs → ¬ ckS (fnB bs) bs.length (nI b) := fun bs h1 h2 => hs ⟨bs, h1, h2⟩
      rw [step hn]
      rcases ckM_max ob b with ⟨h1, h2⟩ | ⟨p, h1, h2, h3, h4, h5⟩
      · refine Or.inl ⟨h1, fun j hj => ?_⟩
        by_cases e : j = b
        · rw [e]; exact hn
        · exact h2 j (by omega)
      · refine Or.inr ⟨p, h1, by omega, h3, h4, fun j a c => ?_⟩
        by_cases e : j = b
        · rw [e]; exact hn
        · exact h5 j a (by omega)
theorem ckU_max (q : blT → Prop) (bl : List blT) : ∀ k, k ≤ bl.length → (ckU q bl k = none ∧ ∀ i, i < k → ∀ y, bl[i]? = some y → ¬ q y) ∨ ∃ i y, ckU q bl k = some y ∧ i < k ∧ bl[i]? = some y ∧ q y ∧ ∀ j, i < j → j < k → ∀ z, bl[j]? = some z → ¬ q z
  | 0, _ => Or.inl ⟨rfl, fun j hj => absurd hj (by omega)⟩
  | k + 1, hk => by
    have hg : bl[k]? = some bl[k] := List.getElem?_eq_getElem (by omega)
    by_cases hq : q bl[k]
    · exact Or.inr ⟨k, bl[k], ckU_y hg hq, Nat.lt_succ_self k, hg, hq, fun j a c => absurd a (by omega)⟩
    · rw [ckU_n hg hq]
      have hn : ∀ y, bl[k]? = some y → ¬ q y := fun y hy => by
        rw [hg] at hy
        cases hy
        exact hq
      rcases ckU_max q bl k (by omega) with ⟨h1, h2⟩ | ⟨i, y, h1, h2, h3, h4, h5⟩
      · refine Or.inl ⟨h1, fun j hj => ?_⟩
        by_cases e : j = k
        · rw [e]; exact hn
        · exact h2 j (by omega)
      · refine Or.inr ⟨i, y, h1, by omega, h3, h4, fun j a c => ?_⟩
        by_cases e : j = k
        · rw [e]; exact hn
        · exact h5 j a (by omega)
theorem bCn_iff {bl : List blT} (hb : bSo bl) {x : Int32} {i : Nat} {y : blT} (hi : bl[i]? = some y) : i < bCn bl x ↔ bl_nu y ≤ x := by
  have hil := (List.getElem?_eq_some_iff.mp hi).1
  have hlo : i < bPl bl x → bl_nu y < x := fun z => by
    have := plc_lo (F := bl.map nF) (x := x) i z
    rw [bl_getD hi] at this
    exact this
  have hhi : bPl bl x < i → x < bl_nu y := fun z => by
    have hpl : bPl bl x < bl.length := by omega
    have h1 := plc_hi (F := bl.map nF) (x := x) (by rw [List.length_map]; exact hpl)
    have h2 := fl_mono hb (i := bPl bl x) (j := i) z (by rw [List.length_map]; exact hil)
    rw [bl_getD hi] at h2
    exact Int32.lt_of_le_of_lt (Int32.not_lt.mp h1) h2
  unfold bCn
  by_cases hs : (bFd bl x).isSome = true
  · rw [if_pos hs]
    obtain ⟨z, hz⟩ := Option.isSome_iff_exists.mp hs
    obtain ⟨z1, z2⟩ := bFd_get hz
    constructor
    · intro h
      by_cases e : i = bPl bl x
      · rw [← e, hi] at z1
        cases z1
        rw [z2]; exact Int32.le_refl _
      · exact Int32.le_of_lt (hlo (by omega))
    · intro h
      refine Nat.lt_succ_of_le (Nat.le_of_not_lt (fun z => ?_))
      exact absurd (hhi z) (Int32.not_lt.mpr h)
  · rw [if_neg hs]
    constructor
    · intro h; exact Int32.le_of_lt (hlo h)
    · intro h
      rcases Nat.lt_trichotomy i (bPl bl x) with e | e | e
      · exact e
      · exfalso
        have h1 := plc_hi (F := bl.map nF) (x := x) (by rw [List.length_map, show plc (bl.map nF) x = i from e.symm]; exact hil)
        rw [show plc (bl.map nF) x = i from e.symm, bl_getD hi] at h1
        have hx : bl_nu y = x := Int32.le_antisymm h (Int32.not_lt.mp h1)
        exact hs (by rw [bFd_some (by rw [← e]; exact hi) hx]; rfl)
      · exact absurd (hhi e) (Int32.not_lt.mpr h)
/-- the FILES of a VERSION: the same on both sides -/
theorem rel.vr {dl el kl : List blT} {ob : List obT} (h : rel dl el kl ob) (hn : mo_nd ob) (hck : mo_ck ob) (hbe : bSo el) (hbk : bSo kl) (hnu : nuS el) (hnk : nuS kl) (hoe : blO el) (hok : blO kl) (flo x : Int32) (hflo : ¬ flo < 0) : mVr ob flo x = vrF el kl flo x := by
  have hlt := h.lt hbe hnu
  unfold mVr vrF
  rw [hlt]
  by_cases e : x = -1
  · rw [if_pos e, if_pos e]
  · rw [if_neg e, if_neg e]
    by_cases e2 : x < flo ∨ ltF el < x
    · rw [if_pos e2, if_pos e2]
    · rw [if_neg e2, if_neg e2]
      have hx0 : ¬ x < 0 := fun z => e2 (Or.inl (Int32.lt_of_lt_of_le z (Int32.not_lt.mp hflo)))
      obtain ⟨w, hw31, rfl⟩ := nI_of hx0
      rw [nI_clamp hw31]
      have hlk := h.k hn hbk
      have num : ∀ y ∈ kl, ∃ n, n < 2 ^ 20 ∧ bl_nu y = nI n := hnk
      have snd : ∀ (y : blT) (n : Nat), y ∈ kl → bl_nu y = nI n → (ckS (fnB (bsOf (bl_fn y) (bl_le y))) (bsOf (bl_fn y) (bl_le y)).length (nI n) ↔ ckQ y) := by
        intro y n hy hyn
        obtain ⟨h10, hf⟩ := hok y hy
        rw [bsOf_len]
        unfold ckQ
        rw [hyn]
        exact ckS_iff (by omega) (fun i hi => fnB_bs hf hi)
      have look : ∀ (j : Nat) bs, mLk ob 2 (nI j) = some bs → ∃ y, y ∈ kl ∧ bl_nu y = nI j ∧ bs = bsOf (bl_fn y) (bl_le y) := by
        intro j bs hj
        rw [hlk] at hj
        obtain ⟨y, h1, h2⟩ := Option.map_eq_some_iff.mp hj
        obtain ⟨h3, h4⟩ := (bFd_mem hbk).mp h1
        exact ⟨y, h3, h4, h2.symm⟩
      rcases ckU_max ckQ kl (bCn kl (nI w)) (bCn_le kl (nI w)) with ⟨u1, u2⟩ | ⟨i, y, u1, u2, u3, u4, u5⟩
      · rw [u1]
        have hm : ckM ob (w + 1) = none := by
          rcases ckM_max ob (w + 1) with ⟨m1, _⟩ | ⟨p, m1, m2, m3, m4, m5⟩
          · exact m1
          · exfalso
            obtain ⟨y, y1, y2, y3⟩ := look p.1 p.2 m3
            obtain ⟨i, hi⟩ := List.getElem?_of_mem y1
            rw [y3] at m4
            exact u2 i ((bCn_iff hbk hi).mpr (by rw [y2]; exact nI_le (by omega) hw31)) y hi ((snd y p.1 y1 y2).mp m4)
        rw [hm]
        exact h.rd hn hbe hoe _ _ _
      · rw [u1]
        have hy := List.mem_of_getElem? u3
        obtain ⟨n, hn20, hyn⟩ := num y hy
        have hnw : n ≤ w := by
          have h9 := (bCn_iff hbk u3).mp u2
          rw [hyn] at h9
          exact nb_le h9 (by omega) hw31
        have hl : mLk ob 2 (nI n) = some (bsOf (bl_fn y) (bl_le y)) := by
          rw [hlk, (bFd_mem hbk).mpr ⟨hy, hyn⟩]; rfl
        have hm : ckM ob (w + 1) = some (n, bsOf (bl_fn y) (bl_le y)) := by
          rcases ckM_max ob (w + 1) with ⟨_, m2⟩ | ⟨p, m1, m2, m3, m4, m5⟩
          · exact absurd ((snd y n hy hyn).mpr u4) (m2 n (by omega) _ hl)
          · obtain ⟨y2, z1, z2, z3⟩ := look p.1 p.2 m3
            rcases Nat.lt_trichotomy p.1 n with c | c | c
            · exact absurd ((snd y n hy hyn).mpr u4) (m5 n c (by omega) _ hl)
            · rw [m1]
              rw [c, hl] at m3
              rw [← c, Option.some.inj m3]
            · exfalso
              obtain ⟨i2, hi2⟩ := List.getElem?_of_mem z1
              rw [z3] at m4
              have hq2 := (snd y2 p.1 z1 z2).mp m4
              have hb2 := (bCn_iff hbk (x := nI w) hi2).mpr (by rw [z2]; exact nI_le (by omega) hw31)
              have hii : i < i2 := by
                refine Nat.lt_of_not_le (fun c2 => ?_)
                rcases Nat.lt_or_eq_of_le c2 with c3 | c3
                · have h9 := fl_mono hbk (i := i2) (j := i) c3 (by rw [List.length_map]; exact (List.getElem?_eq_some_iff.mp u3).1)
                  rw [bl_getD hi2, bl_getD u3, z2, hyn] at h9
                  exact absurd (nb_lt h9 (by omega) (by omega)) (by omega)
                · rw [c3, u3] at hi2
                  cases hi2
                  rw [hyn] at z2
                  exact absurd (nb_eq z2 (by omega) (by omega)) (by omega)
              exact u5 i2 hii hb2 y2 hi2 hq2
        rw [hm]
        obtain ⟨h10, hf⟩ := hok y hy
        have hg : ∀ i, i < bl_le y → fnB (bsOf (bl_fn y) (bl_le y)) i = bl_fn y i := fun i hi => fnB_bs hf hi
        have hL := u4.1.1
        have hb : (bsOf (bl_fn y) (bl_le y)).length ≤ 1010 := hck _ ((mLk_iff hn).mp hl) rfl
        rw [bsOf_len] at hb
        show rdM ob (w - n) (n + 1) (ckL (fnB (bsOf (bl_fn y) (bl_le y))) (ub (fnB (bsOf (bl_fn y) (bl_le y)) 5))) = rdE el (w - (bl_nu y).toNatClampNeg) ((bl_nu y).toNatClampNeg + 1) (liF (bl_fn y) [] (ub (bl_fn y 5)))
        rw [hyn, nI_clamp (by omega), hg 5 (by omega), ckL_eq (n := ub (bl_fn y 5)) (fun i hi => hg i (by omega)), liF_ckL u4.2 (by omega)]
        exact h.rd hn hbe hoe _ _ _
