/-! VACUUM: the two sides' OBJECTS. -/
theorem vc_rel {dl el kl k3 : List blT} {ob ob1 : List obT} {fl o : Nat} {ro : Int32} {F : flT} (hR : rel dl el kl ob) (hv : vob ob ro o F ob1) (hP : vcP dl el kl (nI fl) ro o k3) (hF : vrF el kl (nI fl) (nI o) = some F) (hkn : mFi ob 2 (nI o) = none ↔ bFd kl (nI o) = none) : rel dl el k3 ob1 := by
  rcases hP with ⟨z1, z2⟩ | ⟨z1, F2, b, q8, g8, k2, z2, z3, z4, z5, z6, z7⟩
  · rcases hv with ⟨y1, y2⟩ | ⟨y1, y2⟩
    · rw [y2]; exact hR.same rfl rfl (kO_vE 2 z2)
    · exact absurd (hkn.mp y1.1) z1
  · rcases hv with ⟨y1, y2⟩ | ⟨y1, y2⟩
    · exact absurd (hkn.mpr z1) y1
    · rw [hF] at z2
      cases z2
      have hkO : kO 2 (b, q8, nI o, (ckE (nI o) F).length, g8, 0, 0, none, 0) = (2, nI o, ckE (nI o) F) := by
        show ((2 : Int32), nI o, bsOf g8 (ckE (nI o) F).length) = _
        rw [by_bs z5]
      rw [y2, z7, ← hkO]
      exact (hR.same rfl rfl (kO_vE 2 z6)).insK _
theorem vc_k3 {dl el kl k3 : List blT} {k fl o : Nat} {ro : Int32} (hP : vcP dl el kl (nI fl) ro o k3) (hb : bSo kl) (hn : nuK k kl) (hl : ∀ y ∈ kl, bl_le y ≤ 1010) (ho : blO kl) (hok : o ≤ k) : bSo k3 ∧ nuK k k3 ∧ (∀ y ∈ k3, bl_le y ≤ 1010) ∧ blO k3 := by
  have same : ∀ k2 : List blT, k2.map vE = kl.map vE → bSo k2 ∧ nuK k k2 ∧ (∀ y ∈ k2, bl_le y ≤ 1010) ∧ blO k2 := by
    intro k2 e
    refine ⟨hb.same (vE_nu e), hn.same (vE_nu e), le_same hl (vE_le e), fun y hy => ?_⟩
    have h1 : vE y ∈ k2.map vE := List.mem_map.mpr ⟨y, hy, rfl⟩
    rw [e] at h1
    obtain ⟨z, hz, ez⟩ := List.mem_map.mp h1
    have e1 : bl_le z = bl_le y := congrArg (fun v => v.2.2.2.1) ez
    have e2 : bl_fn z = bl_fn y := congrArg (fun v => v.2.2.2.2.1) ez
    have := ho z hz
    rw [e1, e2] at this
    exact this
  rcases hP with ⟨z1, z2⟩ | ⟨z1, F2, b, q8, g8, k2, z2, z3, z4, z5, z6, z7⟩
  · exact same k3 z2
  · obtain ⟨s1, s2, s3, s4⟩ := same k2 z6
    rw [z7]
    have hlen := ckE_len (nI o) F2
    refine ⟨s1.ins ((vE_none z6 _).mpr z1), s2.ins hok rfl, fun y hy => ?_, fun y hy => ?_⟩
    · rcases mem_ins hy with e | e
      · rw [e]; show (ckE (nI o) F2).length ≤ 1010; omega
      · exact s3 y e
    · rcases mem_ins hy with e | e
      · rw [e]; exact ⟨by show 10 ≤ (ckE (nI o) F2).length; omega, z5.2⟩
      · exact s4 y e
theorem vc_snd {dl el k3 : List blT} {ob1 : List obT} {o kc : Nat} {q : obT} (hR : rel dl el k3 ob1) (hd : bSo dl) (he : bSo el) (hb : bSo k3) (ho : blO k3) (hk : mFi ob1 2 (nI o) = some kc) (hq : ob1[kc]? = some q) : ckS (fnB q.2.2) q.2.2.length q.2.1 ↔ ¬ oQ ckQ (bFd k3 (nI o)) = none := by
  have h1 := hR.k (hR.nd hd he hb) hb (nI o)
  rw [mLk_s hk hq] at h1
  cases hy : bFd k3 (nI o) with
  | none => rw [hy] at h1; cases h1
  | some y =>
    rw [hy] at h1
    have hbs : q.2.2 = bsOf (bl_fn y) (bl_le y) := Option.some.inj h1
    obtain ⟨p, g1, g2, g3⟩ := mFi_get hk
    rw [hq] at g1
    cases g1
    have hyb := ho y (List.mem_of_getElem? (bFd_get hy).1)
    have hiff : ckS (fnB q.2.2) q.2.2.length q.2.1 ↔ ckQ y := by
      rw [hbs, bsOf_len, g3, ← (bFd_get hy).2]
      exact ckS_iff (by omega) (fun i hi => fnB_bs hyb.2 hi)
    rw [hiff]
    constructor
    · intro z z2; rw [oQ_pos z] at z2; cases z2
    · intro z
      cases h9 : oQ ckQ (some y) with
      | none => exact absurd h9 z
      | some y2 =>
        obtain ⟨a, b⟩ := oQ_some h9
        cases a
        exact b
theorem flt_vE {bl bl2 : List blT} (h : bl2.map vE = bl.map vE) (P : Int32 → Bool) : (bl2.filter (fun y => P (bl_nu y))).map vE = (bl.filter (fun y => P (bl_nu y))).map vE := by
  have f : ∀ l : List blT, (l.filter (fun y => P (bl_nu y))).map vE = (l.map vE).filter (fun v => P v.2.2.1) := by
    intro l; rw [List.filter_map]; rfl
  rw [f, f, h]
def pnF (ws : List wrT) (j : Nat) : Nat := ((ws[j]?).map wr_np).getD 0
def bnF (ws : List wrT) (j : Nat) : Nat := ((ws[j]?).map (fun w => if wr_sd w = 0 then 0 else wr_m0 w)).getD 0
theorem wr_view {k i : Nat} {av : avT} {w : wrT} (h : wRel k av i w) : av 33 i = wr_aw w ∧ av 34 i = wr_sd w ∧ av 36 i = wr_ba w ∧ av 53 i = nI (wr_np w) ∧ (∀ j, j < wr_np w → av 52 (200 * i + j) = wr_N w j) ∧ wr_m0 w ≤ 200 ∧ wr_np w ≤ 100 ∧ (¬ wr_aw w = 0 → wr_sd w = 0 → wr_np w = 0 ∧ av 56 i = 0) ∧ (actW w → (∃ b, wr_ba w + 1 = nI b ∧ b ≤ k) ∧ av 56 i = nI (wr_m0 w) ∧ ∀ j, j < wr_m0 w → av 57 (200 * i + j) = wr_FN w j) := by
  obtain ⟨⟨wa, ⟨aw, sd, ml, ki, pt, tr, ba, wo, ve⟩, nw, qa, qv, cd, wl, pa⟩, ⟨c0, c1, c2⟩, ⟨fn, fp, m0, FN, FP⟩, ⟨qr, sh, sq, qe, qp, qn⟩, ⟨SL, nr, no, np, n⟩, ⟨f, R, E, Pp, N⟩, ⟨PA, VA⟩⟩ := w
  obtain ⟨⟨a1, a2, a3, a4, a5, a6, a7, a8⟩, h2, h3, h4, ⟨os, rs, p1, p2, p3, p4, p5⟩, ⟨q1, q2⟩, h7, h8, h9⟩ := h
  refine ⟨a1, a2, a4, q1, q2, h4.1, ?_, fun z1 z2 => ?_, fun z => h8 z.1 z.2⟩
  · have h5 := h4.2.2; have h6 := p1.1; show np ≤ 100; omega
  · have h5 := h7 z1 z2; have h6 := h4.2.2; exact ⟨by show np = 0; omega, h5.2.2.2.2.2.2.1⟩
theorem ww_mem {k : Nat} {av : avT} {ws : List wrT} (hl : ws.length = 4) (h : ∀ i w, ws[i]? = some w → wRel k av i w) (n : Int32) : n ∈ wwL ws ↔ n ∈ wnS av (pnF ws) (bnF ws) 4 := by
  unfold wwL wnS
  rw [List.mem_flatMap, List.mem_flatMap]
  constructor
  · rintro ⟨w, hw, hn⟩
    obtain ⟨j, hj⟩ := List.getElem?_of_mem hw
    obtain ⟨v1, v2, v3, v4, v5, v6, v7, v8, v9⟩ := wr_view (h j w hj)
    have hj4 : j < 4 := by have := (List.getElem?_eq_some_iff.mp hj).1; omega
    refine ⟨j, List.mem_range.mpr hj4, ?_⟩
    by_cases ha : ¬ wr_aw w = 0 ∧ ¬ wr_sd w = 0
    · rw [if_pos ha] at hn
      unfold wnL
      rw [if_neg (by rw [v1]; exact ha.1)]
      have ep : pnF ws j = wr_np w := by unfold pnF; rw [hj]; rfl
      have eb : bnF ws j = wr_m0 w := by unfold bnF; rw [hj]; show (if wr_sd w = 0 then 0 else wr_m0 w) = _; rw [if_neg ha.2]
      rw [ep, eb]
      obtain ⟨-, w5, w6⟩ := v9 ha
      rcases List.mem_append.mp hn with z | z
      · obtain ⟨t, ht, e⟩ := List.mem_map.mp z
        exact List.mem_append_right _ (List.mem_map.mpr ⟨t, ht, by rw [w6 t (List.mem_range.mp ht)]; exact e⟩)
      · obtain ⟨t, ht, e⟩ := List.mem_map.mp z
        exact List.mem_append_left _ (List.mem_map.mpr ⟨t, ht, by rw [v5 t (List.mem_range.mp ht)]; exact e⟩)
    · rw [if_neg ha] at hn; simp at hn
  · rintro ⟨j, hj, hn⟩
    have hj4 := List.mem_range.mp hj
    obtain ⟨w, hw⟩ : ∃ w, ws[j]? = some w := ⟨_, List.getElem?_eq_getElem (by omega)⟩
    obtain ⟨v1, v2, v3, v4, v5, v6, v7, v8, v9⟩ := wr_view (h j w hw)
    refine ⟨w, List.mem_of_getElem? hw, ?_⟩
    have ep : pnF ws j = wr_np w := by unfold pnF; rw [hw]; rfl
    have eb : bnF ws j = (if wr_sd w = 0 then 0 else wr_m0 w) := by unfold bnF; rw [hw]; rfl
    unfold wnL at hn
    by_cases h0 : av 33 j = 0
    · rw [if_pos h0] at hn; simp at hn
    · rw [if_neg h0, ep, eb] at hn
      have haw : ¬ wr_aw w = 0 := fun z => h0 (v1.trans z)
      by_cases hs : wr_sd w = 0
      · rw [if_pos hs, (v8 haw hs).1] at hn; simp at hn
      · rw [if_neg hs] at hn
        obtain ⟨-, w5, w6⟩ := v9 ⟨haw, hs⟩
        rw [if_pos ⟨haw, hs⟩]
        rcases List.mem_append.mp hn with z | z
        · obtain ⟨t, ht, e⟩ := List.mem_map.mp z
          exact List.mem_append_right _ (List.mem_map.mpr ⟨t, ht, by rw [← v5 t (List.mem_range.mp ht)]; exact e⟩)
        · obtain ⟨t, ht, e⟩ := List.mem_map.mp z
          exact List.mem_append_left _ (List.mem_map.mpr ⟨t, ht, by rw [← w6 t (List.mem_range.mp ht)]; exact e⟩)
theorem wtd_iff {k : Nat} {av : avT} {ws : List wrT} (hl : ws.length = 4) (h : ∀ i w, ws[i]? = some w → wRel k av i w) (x : Int32) : wtd av x ↔ ∃ w ∈ ws, actW w ∧ wr_ba w < x := by
  constructor
  · rintro ⟨j, hj, a, b, c⟩
    obtain ⟨w, hw⟩ : ∃ w, ws[j]? = some w := ⟨_, List.getElem?_eq_getElem (by omega)⟩
    obtain ⟨v1, v2, v3, -⟩ := wr_view (h j w hw)
    exact ⟨w, List.mem_of_getElem? hw, ⟨fun z => a (v1.trans z), fun z => b (v2.trans z)⟩, by rw [← v3]; exact c⟩
  · rintro ⟨w, hw, ha, hc⟩
    obtain ⟨j, hj⟩ := List.getElem?_of_mem hw
    obtain ⟨v1, v2, v3, -⟩ := wr_view (h j w hj)
    exact ⟨j, by have := (List.getElem?_eq_some_iff.mp hj).1; omega, fun z => ha.1 (v1.symm.trans z), fun z => ha.2 (v2.symm.trans z), by rw [v3]; exact hc⟩
theorem vac_k1 {k : Nat} {av : avT} {ws : List wrT} {dl el k3 : List blT} {ob1 ob2 : List obT} {o : Nat} (hl : ws.length = 4) (h : ∀ i w, ws[i]? = some w → wRel k av i w) (hk : k < 2 ^ 19) (ho : o < 2 ^ 20) (hn : nuK k el) (hR : rel dl el k3 ob1) (hp : ob2.Perm (ob1.filter (kp1 av (nI o)))) : rel dl (el.filter (fun y => decide (¬ bl_nu y < vcB ws (nI o)))) (k3.filter (fun y => decide (¬ bl_nu y < nI o))) ob2 := by
  have h1 := hR.flt hp
  have e0 : dl.filter (fun y => kp1 av (nI o) (kO 0 y)) = dl := by
    rw [List.filter_eq_self]
    intro y _
    unfold kp1
    refine @decide_eq_true _ (Classical.propDecidable _) ?_
    rintro (z | z)
    · exact absurd (show (0 : Int32) = 2 from z.1) (by decide)
    · exact absurd (show (0 : Int32) = 1 from z.1) (by decide)
  have hb : ∀ w ∈ ws, actW w → ∃ b, wr_ba w + 1 = nI b ∧ b ≤ k := by
    intro w hw ha
    obtain ⟨j, hj⟩ := List.getElem?_of_mem hw
    obtain ⟨-, -, -, -, -, -, -, -, v9⟩ := wr_view (h j w hj)
    exact (v9 ha).1
  have e1 : el.filter (fun y => kp1 av (nI o) (kO 1 y)) = el.filter (fun y => decide (¬ bl_nu y < vcB ws (nI o))) := by
    apply List.filter_congr
    intro y hy
    obtain ⟨m, hm, em⟩ := hn y hy
    have hiff := vcB_iff (ws := ws) (o := o) (m := m) ho (by omega) hk hb
    have hcl : (¬ (((kO 1 y).1 = 2 ∧ (kO 1 y).2.1 < nI o) ∨ ((kO 1 y).1 = 1 ∧ (kO 1 y).2.1 < nI o ∧ ¬ wtd av (kO 1 y).2.1))) ↔ ¬ bl_nu y < vcB ws (nI o) := by
      rw [em, hiff]
      show (¬ (((1 : Int32) = 2 ∧ bl_nu y < nI o) ∨ ((1 : Int32) = 1 ∧ bl_nu y < nI o ∧ ¬ wtd av (bl_nu y)))) ↔ _
      rw [em, wtd_iff hl h]
      constructor
      · rintro z ⟨z1, z2⟩
        exact z (Or.inr ⟨rfl, z1, fun ⟨w, a, b, c⟩ => z2 w a b c⟩)
      · rintro z (⟨z1, -⟩ | ⟨-, z1, z2⟩)
        · exact absurd z1 (by decide)
        · exact z ⟨z1, fun w a b c => z2 ⟨w, a, b, c⟩⟩
    unfold kp1
    rw [Bool.eq_iff_iff, @decide_eq_true_iff _ (Classical.propDecidable _), decide_eq_true_iff]
    exact hcl
  have e2 : k3.filter (fun y => kp1 av (nI o) (kO 2 y)) = k3.filter (fun y => decide (¬ bl_nu y < nI o)) := by
    apply List.filter_congr
    intro y hy
    unfold kp1
    rw [Bool.eq_iff_iff, @decide_eq_true_iff _ (Classical.propDecidable _), decide_eq_true_iff]
    show (¬ (((2 : Int32) = 2 ∧ bl_nu y < nI o) ∨ ((2 : Int32) = 1 ∧ _))) ↔ _
    constructor
    · intro z z1; exact z (Or.inl ⟨rfl, z1⟩)
    · rintro z (⟨-, z1⟩ | ⟨z1, -⟩)
      · exact z z1
      · exact absurd z1 (by decide)
  rw [e0, e1, e2] at h1
  exact h1
theorem vac_k2 {dl el k3 : List blT} {ob2 ob3 : List obT} {NL ML : List Int32} (hm : ∀ n, n ∈ ML ↔ n ∈ NL) (hR : rel dl el k3 ob2) (hp : ob3.Perm (ob2.filter (kp2 NL))) : rel (dl.filter (fun y => decide (bl_nu y ∈ ML))) el k3 ob3 := by
  have h1 := hR.flt hp
  have e0 : dl.filter (fun y => kp2 NL (kO 0 y)) = dl.filter (fun y => decide (bl_nu y ∈ ML)) := by
    apply List.filter_congr
    intro y hy
    unfold kp2
    rw [Bool.eq_iff_iff, decide_eq_true_iff, decide_eq_true_iff, hm]
    show ¬ ((0 : Int32) = 0 ∧ bl_nu y ∉ NL) ↔ _
    constructor
    · intro z; exact Classical.byContradiction (fun z1 => z ⟨rfl, z1⟩)
    · rintro z ⟨-, z1⟩; exact z1 z
  have e1 : el.filter (fun y => kp2 NL (kO 1 y)) = el := by
    rw [List.filter_eq_self]
    intro y _
    unfold kp2
    exact decide_eq_true (fun z => absurd (show (1 : Int32) = 0 from z.1) (by decide))
  have e2 : k3.filter (fun y => kp2 NL (kO 2 y)) = k3 := by
    rw [List.filter_eq_self]
    intro y _
    unfold kp2
    exact decide_eq_true (fun z => absurd (show (2 : Int32) = 0 from z.1) (by decide))
  rw [e0, e1, e2] at h1
  exact h1
theorem d2_ok {Z : zT} {dl : List blT} {k SA : Nat} {ga : Nat → Int32} (L : List Int32) (hb : bSo dl) (hn : nuK k dl) (hd : dtI dl dl SA ga) : bSo ((wM L (dl.map (bl_w 0))).filter kpt) ∧ nuK k ((wM L (dl.map (bl_w 0))).filter kpt) ∧ dtI ((wM L (dl.map (bl_w 0))).filter kpt) ((wM L (dl.map (bl_w 0))).filter kpt) SA ga ∧ fU (fg ((wM L (dl.map (bl_w 0))).filter kpt)) ≤ fU (fg dl) ∧ (∃ w, (baW Z dl).Perm (baW Z ((wM L (dl.map (bl_w 0))).filter kpt) ++ w)) ∧ (wM L (dl.map (bl_w 0))).length = dl.length := by
  have hv : (wM L (dl.map (bl_w 0))).map vW = dl.map vW := by
    rw [wM_vW, List.map_map]
    rfl
  refine ⟨(hb.same (vW_nu hv)).sub List.filter_sublist, (hn.same (vW_nu hv)).sub (fun y hy => (List.mem_filter.mp hy).1), dtI_sub (vW_ok hv hd) (fun y hy => (List.mem_filter.mp hy).1), ?_, ?_, map_len hv⟩
  · rw [← vW_fg hv]; exact fU_flt _ _
  · rw [← vW_ba hv]; exact baW_flt _ _
