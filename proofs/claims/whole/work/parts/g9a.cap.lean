/-! WHAT A WRITE PLANS fits into a plan. -/
theorem so_apF {f : Nat → Int32} {F : flT} (h : fl_so F) : ∀ (n : Nat) (F2 : flT), apF f F n = some F2 → fl_so F2
  | 0, F2, h2 => by
    cases h2
    exact h
  | n + 1, F2, h2 => by
    rw [apF] at h2
    cases h3 : apF f F n with
    | none => rw [h3] at h2; cases h2
    | some F3 =>
      rw [h3, Option.bind_some, apX_A] at h2
      have ih := so_apF h n F3 h3
      unfold apX at h2
      by_cases e1 : aK f n = 2
      · rw [if_pos e1] at h2
        by_cases e2 : fl_hB F3 (aN f n) = true
        · rw [if_pos e2] at h2
          cases h2
          exact fl_so_del ih
        · rw [if_neg e2] at h2
          cases h2
          exact ih
      · rw [if_neg e1] at h2
        by_cases e2 : fl_hB F3 (aN f n) = true
        · rw [if_pos e2] at h2
          cases h2
          exact ih
        · rw [if_neg e2] at h2
          by_cases e3 : F3.length = 200
          · rw [if_pos e3] at h2; cases h2
          · rw [if_neg e3] at h2
            cases h2
            exact fl_so_ins ih (fun z => e2 (fl_hB_iff.mpr z))
theorem so_rdM {ob : List obT} : ∀ (n k : Nat) (F F2 : flT), fl_so F → rdM ob n k F = some F2 → fl_so F2
  | 0, _, F, F2, h, h2 => by
    cases h2
    exact h
  | n + 1, k, F, F2, h, h2 => by
    rw [rdM] at h2
    cases hb : mLk ob 1 (nI k) with
    | none => rw [hb] at h2; cases h2
    | some bs =>
      rw [hb, Option.bind_some] at h2
      by_cases he : enS (fnB bs) bs.length (nI k)
      · rw [if_pos he] at h2
        cases h3 : apF (fnB bs) F (ub (fnB bs 5)) with
        | none => rw [h3] at h2; cases h2
        | some F3 =>
          rw [h3, Option.bind_some] at h2
          exact so_rdM n (k + 1) F3 F2 (so_apF h _ F3 h3) h2
      · rw [if_neg he] at h2; cases h2
theorem mVr_so {ob : List obT} {flo x : Int32} {F : flT} (h : mVr ob flo x = some F) : fl_so F := by
  unfold mVr at h
  by_cases e : x = -1
  · rw [if_pos e] at h
    cases h
    exact List.Pairwise.nil
  · rw [if_neg e] at h
    by_cases e2 : x < flo ∨ mLt ob < x
    · rw [if_pos e2] at h; cases h
    · rw [if_neg e2] at h
      cases hc : ckM ob (x.toNatClampNeg + 1) with
      | none =>
        rw [hc] at h
        exact so_rdM _ _ _ _ List.Pairwise.nil h
      | some p =>
        rw [hc] at h
        have hm := (ckM_mem hc).2
        exact so_rdM _ _ _ _ (ckL_so hm.2.2) h
theorem dW_48 {dl : List blT} (hf : ∀ y ∈ dl, okD y) {x pt : Int32} {w : rwT} (h : dW dl x pt = some w) : w.2.1.length ≤ 48 := by
  unfold dW at h
  cases hb : bFd dl x with
  | none => rw [hb] at h; cases h
  | some y =>
    rw [hb, Option.bind_some] at h
    cases hd : dD (bl_fn y) (bl_le y) with
    | none => rw [hd] at h; cases h
    | some w2 =>
      rw [hd] at h
      have hw : w2 = w := by
        rw [Option.filter] at h
        split at h
        · exact Option.some.inj h
        · cases h
      subst hw
      obtain ⟨p, N, V, h1, h2, h3, h4, h5⟩ := (dD_iff (hf y (List.mem_of_getElem? (bFd_get hb).1)).2.2.1).mp hd
      first | (rw [h5]; show (col V 0 N).length ≤ 48; rw [col_len]; omega) | (rw [h4]; show (col V 0 N).length ≤ 48; rw [col_len]; omega)
theorem dl_cap (D : rdT) (pt : Int32) (c : Nat) (wh nu : Int32) : ∀ (L : flT) (s : List rwT × List Int32), (L.foldl (dlS D pt c wh nu) s).1.length ≤ s.1.length + L.countP (fun q => decide (q.2 = pt)) ∧ (L.foldl (dlS D pt c wh nu) s).2.length ≤ s.2.length + L.countP (fun q => decide (q.2 = pt))
  | [], s => ⟨Nat.le_refl _, Nat.le_refl _⟩
  | q :: L, s => by
    have ih := dl_cap D pt c wh nu L (dlS D pt c wh nu s q)
    have hs : (dlS D pt c wh nu s q).1.length ≤ s.1.length + (if q.2 = pt then 1 else 0) ∧ (dlS D pt c wh nu s q).2.length ≤ s.2.length + (if q.2 = pt then 1 else 0) := by
      unfold dlS
      by_cases e : q.2 = pt
      · rw [if_pos e, if_pos e]
        cases D q.1 q.2 with
        | none => exact ⟨Nat.le_succ _, Nat.le_succ _⟩
        | some w =>
          rw [Option.elim_some]
          by_cases e2 : mhF wh nu (rwC w c) = 0
          · rw [if_pos e2]; exact ⟨Nat.le_succ _, Nat.le_succ _⟩
          · rw [if_neg e2]
            by_cases e3 : hitF wh nu (rwC w c) = 0
            · rw [if_pos e3]; exact ⟨Nat.le_succ _, Nat.le_succ _⟩
            · rw [if_neg e3]
              refine ⟨?_, by simp⟩
              show (s.1 ++ _).length ≤ _
              rw [List.length_append]
              split
              · simp
              · simp
      · rw [if_neg e, if_neg e]; exact ⟨Nat.le_refl _, Nat.le_refl _⟩
    rw [List.foldl_cons, List.countP_cons]
    by_cases e : q.2 = pt
    · rw [if_pos e] at hs
      rw [if_pos (by simp [e])]
      omega
    · rw [if_neg e] at hs
      rw [if_neg (by simp [e])]
      omega
theorem cm_cap {D : rdT} {pt : Int32} (hD : ∀ x y w, D x y = some w → w.2.1.length ≤ 48) : ∀ (L : flT) (s : List r4T × List Int32), s.1.length ≤ 48 * s.2.length → (L.foldl (cmS D pt) s).1.length ≤ 48 * (L.foldl (cmS D pt) s).2.length ∧ (L.foldl (cmS D pt) s).2.length ≤ s.2.length + L.countP (fun q => decide (q.2 = pt))
  | [], s, h => ⟨h, Nat.le_refl _⟩
  | q :: L, s, h => by
    rw [List.foldl_cons, List.countP_cons]
    by_cases e : q.2 = pt
    · rw [if_pos (by simp [e])]
      cases hd : D q.1 q.2 with
      | none =>
        have e2 : cmS D pt s q = s := by unfold cmS; rw [if_pos e, hd]; rfl
        rw [e2]
        have ih := cm_cap (pt := pt) hD L s h
        exact ⟨ih.1, by have := ih.2; omega⟩
      | some w =>
        rw [cmS_y e hd]
        have hl : (rL w).length ≤ 48 := by have := hD _ _ _ hd; simp [rL]; omega
        have ih := cm_cap (pt := pt) hD L (s.1 ++ rL w, s.2 ++ [q.1]) (by simp only [List.length_append, List.length_cons, List.length_nil]; omega)
        refine ⟨ih.1, ?_⟩
        have h2 := ih.2
        simp only [List.length_append, List.length_cons, List.length_nil] at h2
        omega
    · rw [if_neg (by simp [e]), cmS_o e]
      exact cm_cap hD L s h
theorem pln_cap {D : rdT} {F : flT} {ki pt : Int32} {c : Nat} {wh nu : Int32} {rs : List r4T} (hD : ∀ x y w, D x y = some w → w.2.1.length ≤ 48) (hc : ¬ ki = 0 → F.countP (fun q => decide (q.2 = pt)) ≤ 100) : (plnF D F ki pt c wh nu rs).1.length ≤ 100 ∧ (plnF D F ki pt c wh nu rs).2.length ≤ 100 := by
  unfold plnF
  by_cases h0 : ki = 0
  · rw [if_pos h0]
    exact ⟨Nat.le_trans (apO_le rs 8) (by omega), Nat.zero_le _⟩
  · rw [if_neg h0]
    have hc := hc h0
    by_cases h1 : ki = 1
    · rw [if_pos h1]
      have := dl_cap D pt c wh nu F ([], [])
      simp only [List.length_nil] at this
      omega
    · rw [if_neg h1]
      by_cases h2 : F.countP (fun q => decide (q.2 = pt)) ≤ 1
      · rw [if_pos h2]; exact ⟨Nat.zero_le _, Nat.zero_le _⟩
      · rw [if_neg h2]
        have := cm_cap (pt := pt) hD F ([], []) (Nat.zero_le _)
        simp only [List.length_nil] at this
        refine ⟨?_, by show (F.foldl (cmS D pt) ([], [])).2.length ≤ 100; omega⟩
        show (ch48 pt _ _).length ≤ 100
        rw [ch48_len]
        omega
theorem htA_01 (dl : List blT) (pt : Int32) : ∀ (F : flT), ¬ htA dl pt F = 0 ↔ ∃ q ∈ F, q.2 = pt ∧ dW dl q.1 q.2 = none
  | [] => by simp [htA]
  | q :: F => by
    have ih := htA_01 dl pt F
    rw [htA]
    by_cases e : q.2 = pt
    · rw [if_pos e]
      cases hd : dW dl q.1 pt with
      | none =>
        simp only [Option.elim_none]
        exact ⟨fun _ => ⟨q, List.mem_cons_self, e, by rw [e]; exact hd⟩, fun _ => by decide⟩
      | some w =>
        simp only [Option.elim_some]
        rw [ih]
        constructor
        · rintro ⟨q2, a, b⟩; exact ⟨q2, List.mem_cons_of_mem _ a, b⟩
        · rintro ⟨q2, a, b, c⟩
          rcases List.mem_cons.mp a with z | z
          · rw [z, e, hd] at c; cases c
          · exact ⟨q2, z, b, c⟩
    · rw [if_neg e, ih]
      constructor
      · rintro ⟨q2, a, b⟩; exact ⟨q2, List.mem_cons_of_mem _ a, b⟩
      · rintro ⟨q2, a, b, c⟩
        rcases List.mem_cons.mp a with z | z
        · rw [z] at b; exact absurd b e
        · exact ⟨q2, z, b, c⟩
theorem plnF_pt {D : rdT} {F : flT} {ki p q : Int32} {c : Nat} {wh nu wh2 nu2 : Int32} {rs : List r4T} (hp : ¬ ki = 0 → p = q) (h1 : ki = 1 → wh = wh2 ∧ nu = nu2) : plnF D F ki p c wh nu rs = plnF D F ki q c wh2 nu2 rs := by
  unfold plnF
  by_cases h0 : ki = 0
  · rw [if_pos h0, if_pos h0]
  · rw [if_neg h0, if_neg h0, hp h0]
    by_cases e : ki = 1
    · rw [if_pos e, if_pos e, (h1 e).1, (h1 e).2]
    · rw [if_neg e, if_neg e]
theorem enW_le {w : rwT} (h : w.2.1.length ≤ 48) : (enW w).length ≤ 628 := encB_le _ _ _ _ _ h
set_option maxRecDepth 100000 in
theorem slE_le : ∀ (os : List rwT) (SL n : Nat), (∀ w ∈ os, (enW w).length ≤ 628) → n + 628 * os.length ≤ 62800 → SL ≤ 125600 → slE os SL n ≤ 125600
  | [], SL, n, _, _, h => h
  | w :: os, SL, n, h1, h2, h3 => by
    have hw := h1 w List.mem_cons_self
    rw [List.length_cons] at h2
    have h4 : gL SL (n + 628) ≤ 125600 := gL_lt h3 (by omega)
    have h5 := slE_le os (gL SL (n + 628)) (n + (enW w).length) (fun x hx => h1 x (List.mem_cons_of_mem _ hx)) (by omega) h4
    rw [slE]
    exact h5
theorem rw3_len (p : Int32) (l : List r4T) : (rw3 p l).2.1.length = l.length := by simp [rw3]
theorem dl_48 {D : rdT} {pt : Int32} {c : Nat} {wh nu : Int32} (hD : ∀ x y w, D x y = some w → w.2.1.length ≤ 48) : ∀ (L : flT) (s : List rwT × List Int32), (∀ w ∈ s.1, w.2.1.length ≤ 48) → ∀ w ∈ (L.foldl (dlS D pt c wh nu) s).1, w.2.1.length ≤ 48
  | [], s, h => h
  | q :: L, s, h => by
    rw [List.foldl_cons]
    refine dl_48 hD L _ ?_
    unfold dlS
    by_cases e : q.2 = pt
    · rw [if_pos e]
      cases hd : D q.1 q.2 with
      | none => exact h
      | some w =>
        rw [Option.elim_some]
        by_cases e2 : mhF wh nu (rwC w c) = 0
        · rw [if_pos e2]; exact h
        · rw [if_neg e2]
          by_cases e3 : hitF wh nu (rwC w c) = 0
          · rw [if_pos e3]; exact h
          · rw [if_neg e3]
            intro x hx
            rcases List.mem_append.mp hx with z | z
            · exact h x z
            · split at z
              · simp at z
              · rw [List.mem_singleton.mp z, rw3_len]
                have h1 := kpL_le c wh nu (rL w)
                have h2 : (rL w).length = w.2.1.length := by simp [rL]
                have h3 := hD _ _ _ hd
                omega
    · rw [if_neg e]; exact h
theorem pln_48 {D : rdT} {F : flT} {ki pt : Int32} {c : Nat} {wh nu : Int32} {rs : List r4T} (hD : ∀ x y w, D x y = some w → w.2.1.length ≤ 48) (hg : ki = 0 → ∀ p, p < 8 → (gp rs (nI p)).length ≤ 48) : ∀ w ∈ (plnF D F ki pt c wh nu rs).1, w.2.1.length ≤ 48 := by
  unfold plnF
  by_cases h0 : ki = 0
  · rw [if_pos h0]
    intro w hw
    obtain ⟨p, hp, hw2⟩ := List.mem_flatMap.mp hw
    split at hw2
    · simp at hw2
    · rw [List.mem_singleton.mp hw2, rw3_len]; exact hg h0 p (List.mem_range.mp hp)
  · rw [if_neg h0]
    by_cases h1 : ki = 1
    · rw [if_pos h1]; exact dl_48 hD F ([], []) (fun w hw => by simp at hw)
    · rw [if_neg h1]
      split
      · intro w hw; simp at hw
      · intro w hw
        obtain ⟨i, hi, e⟩ := List.mem_map.mp hw
        rw [← e, rw3_len, List.length_take]
        omega
theorem sum_mem : ∀ {ws : List wrT} {i : Nat} {w : wrT}, ws[i]? = some w → slR w ≤ (ws.map slR).sum
  | [], i, w, h => by simp at h
  | x :: ws, 0, w, h => by
    simp only [List.getElem?_cons_zero, Option.some.injEq] at h
    subst h
    rw [List.map_cons, List.sum_cons]; omega
  | x :: ws, i + 1, w, h => by
    have ih := sum_mem (ws := ws) (i := i) (w := w) (by simpa using h)
    rw [List.map_cons, List.sum_cons]; omega
