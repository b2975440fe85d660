/-! CLASS AND REFERENCE: numbers, the store, the reference's OBJECTS. -/
def nuK (k : Nat) (bl : List blT) : Prop := ∀ y ∈ bl, ∃ n, n ≤ k ∧ bl_nu y = nI n
theorem nuK.mo {k k2 : Nat} {bl : List blT} (h : nuK k bl) (hk : k ≤ k2) : nuK k2 bl := fun y hy => by
  obtain ⟨n, h1, h2⟩ := h y hy
  exact ⟨n, by omega, h2⟩
theorem nuK.s {k : Nat} {bl : List blT} (h : nuK k bl) (hk : k < 2 ^ 20) : nuS bl := fun y hy => by
  obtain ⟨n, h1, h2⟩ := h y hy
  exact ⟨n, by omega, h2⟩
theorem nuK.same {k : Nat} {bl bl2 : List blT} (h : nuK k bl) (he : bl2.map bl_nu = bl.map bl_nu) : nuK k bl2 := by
  intro y hy
  have h1 : bl_nu y ∈ bl2.map bl_nu := List.mem_map.mpr ⟨y, hy, rfl⟩
  rw [he] at h1
  obtain ⟨z, hz, e⟩ := List.mem_map.mp h1
  obtain ⟨n, hn, e2⟩ := h z hz
  exact ⟨n, hn, by rw [← e, e2]⟩
theorem nuK.ins {k : Nat} {bl : List blT} {x : blT} (h : nuK k bl) {n : Nat} (hn : n ≤ k) (e : bl_nu x = nI n) : nuK k (bIns bl x) := fun y hy => by
  rcases List.mem_cons.mp ((bIns_pm bl x).mem_iff.mp hy) with h1 | h1
  · rw [h1]; exact ⟨n, hn, e⟩
  · exact h y h1
theorem nuK.sub {k : Nat} {bl bl2 : List blT} (h : nuK k bl) (hs : ∀ y ∈ bl2, y ∈ bl) : nuK k bl2 := fun y hy => h y (hs y hy)
theorem nil_v {α : Type} {f : blT → α} {bl bl2 : List blT} (h : bl2.map f = bl.map f) (z : bl2 = []) : bl = [] := by
  rw [z] at h
  exact List.map_eq_nil_iff.mp h.symm
theorem kO_vE {bl bl2 : List blT} (s : Int32) (h : bl2.map vE = bl.map vE) : bl2.map (kO s) = bl.map (kO s) := map_of vE (fun v => (s, v.2.2.1, bsOf v.2.2.2.2.1 v.2.2.2.1)) h
theorem kO_vD {bl bl2 : List blT} (s : Int32) (h : bl2.map vD = bl.map vD) : bl2.map (kO s) = bl.map (kO s) := map_of vD (fun v => (s, v.2.2.1, bsOf v.2.2.2.2.1 v.2.2.2.1)) h
theorem kO_vW {bl bl2 : List blT} (s : Int32) (h : bl2.map vW = bl.map vW) : bl2.map (kO s) = bl.map (kO s) := map_of vW (fun v => (s, v.2.2.1, bsOf v.2.2.2.2.1 v.2.2.2.1)) h
theorem blO_of {q : blT → Prop} {bl : List blT} (h : ∀ y ∈ bl, okB q y) : blO bl := fun y hy => ⟨(h y hy).2.1, (h y hy).2.2.2⟩
theorem le_same {bl bl2 : List blT} {M : Nat} (h : ∀ y ∈ bl, bl_le y ≤ M) (he : bl2.map bl_le = bl.map bl_le) : ∀ y ∈ bl2, bl_le y ≤ M := by
  intro y hy
  have h1 : bl_le y ∈ bl2.map bl_le := List.mem_map.mpr ⟨y, hy, rfl⟩
  rw [he] at h1
  obtain ⟨z, hz, e⟩ := List.mem_map.mp h1
  rw [← e]
  exact h z hz
/-- the class's store in order -/
def stoI (Z : zT) (k : Nat) (dq : Nat) (dr : arT) (dl : List blT) (eq : Nat) (er : arT) (el : List blT) (kq : Nat) (kr : arT) (kl : List blT) (SA : Nat) (ga : Nat → Int32) : Prop :=
  (shOk Z dq dr dl ∧ bSo dl ∧ nuK k dl) ∧ (shOk Z eq er el ∧ bSo el ∧ nuK k el ∧ ∀ y ∈ el, okB enQ y) ∧ (shOk Z kq kr kl ∧ bSo kl ∧ nuK k kl ∧ (∀ y ∈ kl, okB ckQ y) ∧ ∀ y ∈ kl, bl_le y ≤ 1010) ∧ dtI dl dl SA ga
theorem stoI.rd {Z : zT} {k : Nat} {dq : Nat} {dr : arT} {dl : List blT} {eq : Nat} {er : arT} {el : List blT} {kq : Nat} {kr : arT} {kl : List blT} {SA : Nat} {ga : Nat → Int32} (h : stoI Z k dq dr dl eq er el kq kr kl SA ga) {d2 e2 k2 : List blT} {SA2 : Nat} {ga2 : Nat → Int32} (hd : dtI dl d2 SA2 ga2) (he : e2.map vE = el.map vE) (hae : ∀ y ∈ e2, okB enQ y) (hk : k2.map vE = kl.map vE) (hak : ∀ y ∈ k2, okB ckQ y) : stoI Z (k + 1) dq dr d2 eq er e2 kq kr k2 SA2 ga2 := by
  obtain ⟨⟨a1, a2, a3⟩, ⟨b1, b2, b3, b4⟩, ⟨c1, c2, c3, c4, c5⟩, d1⟩ := h
  exact ⟨⟨a1.set (vD_ad hd.1), a2.same (vD_nu hd.1), (a3.same (vD_nu hd.1)).mo (Nat.le_succ k)⟩, ⟨b1.set (vE_ad he), b2.same (vE_nu he), (b3.same (vE_nu he)).mo (Nat.le_succ k), hae⟩, ⟨c1.set (vE_ad hk), c2.same (vE_nu hk), (c3.same (vE_nu hk)).mo (Nat.le_succ k), hak, le_same c5 (vE_le hk)⟩, ⟨rfl, hd.2⟩⟩
theorem stoI.mo {Z : zT} {k : Nat} {dq : Nat} {dr : arT} {dl : List blT} {eq : Nat} {er : arT} {el : List blT} {kq : Nat} {kr : arT} {kl : List blT} {SA : Nat} {ga : Nat → Int32} (h : stoI Z k dq dr dl eq er el kq kr kl SA ga) : stoI Z (k + 1) dq dr dl eq er el kq kr kl SA ga := h.rd h.2.2.2 rfl h.2.1.2.2.2 rfl h.2.2.1.2.2.2.1
theorem rel.rd2 {dl el kl d2 e2 k2 : List blT} {ob : List obT} {SA2 : Nat} {ga2 : Nat → Int32} (h : rel dl el kl ob) (hd : dtI dl d2 SA2 ga2) (he : e2.map vE = el.map vE) (hk : k2.map vE = kl.map vE) : rel d2 e2 k2 ob := h.same (kO_vD 0 hd.1) (kO_vE 1 he) (kO_vE 2 hk)
theorem bSo_nd {bl : List blT} (h : bSo bl) (s : Int32) : ((bl.map (kO s)).map (fun o : obT => (o.1, o.2.1))).Nodup := by
  rw [List.map_map, List.nodup_iff_pairwise_ne, List.pairwise_map]
  unfold bSo fl_so at h
  rw [List.pairwise_map] at h
  refine h.imp ?_
  intro a b hab z
  have h2 : bl_nu a = bl_nu b := congrArg Prod.snd z
  have h3 : bl_nu a < bl_nu b := hab
  rw [h2] at h3
  exact Int32.lt_irrefl h3
theorem key_s {bl : List blT} {s : Int32} {q : Int32 × Int32} (h : q ∈ (bl.map (kO s)).map (fun o : obT => (o.1, o.2.1))) : q.1 = s := by
  obtain ⟨o, ho, e⟩ := List.mem_map.mp h
  obtain ⟨y, hy, e2⟩ := List.mem_map.mp ho
  rw [← e, ← e2]; rfl
theorem rel.nd {dl el kl : List blT} {ob : List obT} (h : rel dl el kl ob) (hd : bSo dl) (he : bSo el) (hk : bSo kl) : mo_nd ob := by
  rw [mo_nd_iff, (h.map _).nodup_iff, List.map_append, List.map_append, List.nodup_append, List.nodup_append]
  refine ⟨bSo_nd hd 0, ⟨bSo_nd he 1, bSo_nd hk 2, ?_⟩, ?_⟩
  · intro a ha b hb z
    have h1 := key_s ha
    have h2 := key_s hb
    rw [z, h2] at h1
    exact absurd h1 (by decide)
  · intro a ha b hb z
    have h1 := key_s ha
    rcases List.mem_append.mp hb with h3 | h3
    · have h2 := key_s h3
      rw [z, h2] at h1
      exact absurd h1 (by decide)
    · have h2 := key_s h3
      rw [z, h2] at h1
      exact absurd h1 (by decide)
theorem rel.in {dl el kl : List blT} {ob : List obT} (h : rel dl el kl ob) (hd : bSo dl) (he : bSo el) (hk : bSo kl) (nd : nuS dl) (ne : nuS el) (nk : nuS kl) (hc : ∀ y ∈ kl, bl_le y ≤ 1010) : mo_in ob := by
  refine ⟨h.nd hd he hk, fun o ho => ?_, fun o ho hs => ?_⟩
  · rcases List.mem_append.mp (h.mem_iff.mp ho) with h1 | h1
    · obtain ⟨y, hy, e⟩ := List.mem_map.mp h1
      rw [← e]; exact nd y hy
    · rcases List.mem_append.mp h1 with h2 | h2
      · obtain ⟨y, hy, e⟩ := List.mem_map.mp h2
        rw [← e]; exact ne y hy
      · obtain ⟨y, hy, e⟩ := List.mem_map.mp h2
        rw [← e]; exact nk y hy
  · rcases List.mem_append.mp (h.mem_iff.mp ho) with h1 | h1
    · obtain ⟨y, hy, e⟩ := List.mem_map.mp h1
      rw [← e] at hs; exact absurd (show (0 : Int32) = 2 from hs) (by decide)
    · rcases List.mem_append.mp h1 with h2 | h2
      · obtain ⟨y, hy, e⟩ := List.mem_map.mp h2
        rw [← e] at hs; exact absurd (show (1 : Int32) = 2 from hs) (by decide)
      · obtain ⟨y, hy, e⟩ := List.mem_map.mp h2
        rw [← e]
        show (bsOf (bl_fn y) (bl_le y)).length ≤ 1010
        rw [bsOf_len]; exact hc y hy
theorem stoI.in {Z : zT} {k : Nat} {dq : Nat} {dr : arT} {dl : List blT} {eq : Nat} {er : arT} {el : List blT} {kq : Nat} {kr : arT} {kl : List blT} {SA : Nat} {ga : Nat → Int32} {ob : List obT} (h : stoI Z k dq dr dl eq er el kq kr kl SA ga) (hr : rel dl el kl ob) (hk : k < 2 ^ 20) : mo_in ob := hr.in h.1.2.1 h.2.1.2.1 h.2.2.1.2.1 (h.1.2.2.s hk) (h.2.1.2.2.1.s hk) (h.2.2.1.2.2.1.s hk) h.2.2.1.2.2.2.2
/-! WRITERS of the class and of the reference. -/
/-- a WRITER of the class and the reference's -/
def wRel (k : Nat) (av : avT) (i : Nat) : wrT → Prop := fun ((_, (aw, sd, ml, ki, pt, tr, ba, wo, ve), nw, _, _, _, _, _), (c0, c1, c2), (_, _, m0, FN, _), _, (SL, nr, no, np, n), (f, R, E, Pp, N), (PA, VA)) =>
  (av 33 i = aw ∧ av 34 i = sd ∧ av 35 i = ki ∧ av 36 i = ba ∧ av 37 i = wo ∧ av 38 i = tr ∧ av 39 i = ve ∧ av 40 i = ml) ∧
  (¬ ki = 0 → av 41 i = pt) ∧
  (ki = 1 → av 42 i = c0 ∧ av 43 i = c1 ∧ av 44 i = c2 ∧ ∃ j, j < 3 ∧ c0 = nI j) ∧
  (m0 ≤ 200 ∧ nw ≤ 96 ∧ np ≤ no) ∧
  (∃ os rs, plQ SL nr no n f R E Pp os rs ∧ os.length ≤ 100 ∧ rs.length ≤ 100 ∧ plM av i os ∧ rmM av i rs) ∧
  (av 53 i = nI np ∧ ∀ j, j < np → av 52 (200 * i + j) = N j) ∧
  (¬ aw = 0 → sd = 0 → no = 0 ∧ nr = 0 ∧ av 47 i = nI nw ∧ rowsM av i nw = rwsC PA VA nw ∧ (ki = 0 → ∀ p, p < 8 → cntF PA (nI p) nw ≤ 48) ∧ (¬ ki = 0 → nw = 0) ∧ av 56 i = 0 ∧ ml = 0) ∧
  (¬ aw = 0 → ¬ sd = 0 → (∃ b, ba + 1 = nI b ∧ b ≤ k) ∧ av 56 i = nI m0 ∧ ∀ j, j < m0 → av 57 (200 * i + j) = FN j) ∧
  (¬ aw = 0 → (∃ a b, wo = nI a ∧ tr = nI b ∧ a < b ∧ b ≤ 8) ∧ (¬ ml = 0 → np = no) ∧ (ki = 0 → nr = 0))
theorem oth1 {L : List Nat} {i j x : Nat} {av av2 : avT} (h : oth L i av av2) (hx : x ∉ L) (hz : oz x = 1) (hne : j ≠ i) : av2 x j = av x j := h x hx j (by rw [hz]; omega)
theorem oth2 {L : List Nat} {i j x t : Nat} {av av2 : avT} (h : oth L i av av2) (hx : x ∉ L) (hz : oz x = 200) (ht : t < 200) (hne : j ≠ i) : av2 x (200 * j + t) = av x (200 * j + t) := h x hx _ (by rw [hz]; omega)
theorem rowsM_oth {L : List Nat} {i j : Nat} {av av2 : avT} (h : oth L i av av2) (h5 : 45 ∉ L) (h6 : 46 ∉ L) (hne : j ≠ i) {n : Nat} (hn : n ≤ 96) : rowsM av2 j n = rowsM av j n := by
  unfold rowsM
  apply List.map_congr_left
  intro t ht
  have ht' := List.mem_range.mp ht
  have z5 : oz 45 = 14400 := rfl
  have z6 : oz 46 = 4800 := rfl
  rw [h 46 h6 (4800 * j + t) (by rw [z6]; omega), h 45 h5 (14400 * j + 3 * t) (by rw [z5]; omega), h 45 h5 (14400 * j + 3 * t + 1) (by rw [z5]; omega), h 45 h5 (14400 * j + 3 * t + 2) (by rw [z5]; omega)]
theorem wRel.oth {k i j : Nat} {av av2 : avT} {w : wrT} {L : List Nat} (h : wRel k av j w) (ho : oth L i av av2) (hL : ∀ x, 33 ≤ x → x ≤ 57 → x ∉ L) (hne : j ≠ i) : wRel (k + 1) av2 j w := by
  obtain ⟨⟨wa, ⟨aw, sd, ml, ki, pt, tr, ba, wo, ve⟩, nw, qa, qv, cd, wl, pa⟩, ⟨c0, c1, c2⟩, ⟨fn, fp, m0, FN, FP⟩, ⟨qr, sh, sq, qe, qp, qn⟩, ⟨SL, nr, no, np, n⟩, ⟨f, R, E, Pp, N⟩, ⟨PA, VA⟩⟩ := w
  obtain ⟨⟨a1, a2, a3, a4, a5, a6, a7, a8⟩, h2, h3, h4, ⟨os, rs, p1, p2, p3, p4, p5⟩, ⟨q1, q2⟩, h7, h8, h9⟩ := h
  have e : ∀ x, 33 ≤ x → x ≤ 57 → oz x = 1 → av2 x j = av x j := fun x x1 x2 x3 => oth1 ho (hL x x1 x2) x3 hne
  refine ⟨⟨?_, ?_, ?_, ?_, ?_, ?_, ?_, ?_⟩, ?_, ?_, h4, ⟨os, rs, p1, p2, p3, plM_oth p4 ho hne (fun x x1 x2 => hL x (by omega) (by omega)) (by omega), rmM_oth p5 ho hne (hL 54 (by omega) (by omega)) (hL 55 (by omega) (by omega)) (by omega)⟩, ⟨?_, ?_⟩, ?_, ?_, h9⟩
  · rw [e 33 (by omega) (by omega) rfl]; exact a1
  · rw [e 34 (by omega) (by omega) rfl]; exact a2
  · rw [e 35 (by omega) (by omega) rfl]; exact a3
  · rw [e 36 (by omega) (by omega) rfl]; exact a4
  · rw [e 37 (by omega) (by omega) rfl]; exact a5
  · rw [e 38 (by omega) (by omega) rfl]; exact a6
  · rw [e 39 (by omega) (by omega) rfl]; exact a7
  · rw [e 40 (by omega) (by omega) rfl]; exact a8
  · intro z; rw [e 41 (by omega) (by omega) rfl]; exact h2 z
  · intro z; rw [e 42 (by omega) (by omega) rfl, e 43 (by omega) (by omega) rfl, e 44 (by omega) (by omega) rfl]; exact h3 z
  · rw [e 53 (by omega) (by omega) rfl]; exact q1
  · intro t ht
    have h10 : np ≤ no := h4.2.2
    have h11 : no = os.length := p1.1
    rw [oth2 ho (hL 52 (by omega) (by omega)) rfl (by omega) hne]; exact q2 t ht
  · intro z1 z2
    obtain ⟨b1, b2, b3, b4, b5, b6, b7, b8⟩ := h7 z1 z2
    refine ⟨b1, b2, ?_, ?_, b5, b6, ?_, b8⟩
    · rw [e 47 (by omega) (by omega) rfl]; exact b3
    · rw [rowsM_oth ho (hL 45 (by omega) (by omega)) (hL 46 (by omega) (by omega)) hne h4.2.1]; exact b4
    · rw [e 56 (by omega) (by omega) rfl]; exact b7
  · intro z1 z2
    obtain ⟨⟨b, b1, b2⟩, b3, b4⟩ := h8 z1 z2
    refine ⟨⟨b, b1, by omega⟩, ?_, fun t ht => ?_⟩
    · rw [e 56 (by omega) (by omega) rfl]; exact b3
    · have h10 : m0 ≤ 200 := h4.1
      rw [oth2 ho (hL 57 (by omega) (by omega)) rfl (by omega) hne]; exact b4 t ht
theorem wRel.sA {k j : Nat} {av av2 : avT} {w : wrT} {L : List Nat} (h : wRel k av j w) (hs : sA L av av2) (hL : ∀ x, 33 ≤ x → x ≤ 57 → x ∉ L) : wRel (k + 1) av2 j w := h.oth (oth.of (wn := j + 1) hs) hL (by omega)
