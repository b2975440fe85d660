/-! A plan of the class, as lists. -/
/-- how far a Sink grows for these outputs -/
noncomputable def slE : List rwT → Nat → Nat → Nat
  | [], SL, _ => SL
  | w :: os, SL, n => slE os (gL SL (n + 628)) (n + (enW w).length)
noncomputable def slK : List rwT → Nat → Nat → Nat
  | [], _, _ => 0
  | w :: os, SL, n => gC SL (n + 628) + slK os (gL SL (n + 628)) (n + (enW w).length)
noncomputable def slT : List rwT → Nat → Nat → Nat
  | [], _, _ => 0
  | w :: os, SL, n => gS SL (n + 628) + slT os (gL SL (n + 628)) (n + (enW w).length)
theorem gL_geL (L n : Nat) : L ≤ gL L n := by
  unfold gL
  by_cases h : n ≤ L
  · rw [if_pos h]; exact Nat.le_refl _
  · rw [if_neg h]; omega
theorem gS_pay (L n : Nat) : gS L n + 2 * L ≤ 2 * gL L n := by
  unfold gL gS
  by_cases h : n ≤ L
  · rw [if_pos h, if_pos h]; omega
  · rw [if_neg h, if_neg h]; omega
theorem gC_pay {L : Nat} (n : Nat) (hL : 64 ≤ L) : 64 * gC L n + L ≤ gL L n := by
  unfold gL gC
  by_cases h : n ≤ L
  · rw [if_pos h, if_pos h]; omega
  · rw [if_neg h, if_neg h]; omega
theorem slT_le : ∀ (os : List rwT) (SL n : Nat), slT os SL n + 2 * SL ≤ 2 * slE os SL n
  | [], SL, n => by show 0 + 2 * SL ≤ 2 * SL; omega
  | w :: os, SL, n => by
    have h1 := slT_le os (gL SL (n + 628)) (n + (enW w).length)
    have h2 := gS_pay SL (n + 628)
    show gS SL (n + 628) + slT os (gL SL (n + 628)) (n + (enW w).length) + 2 * SL ≤ 2 * slE os (gL SL (n + 628)) (n + (enW w).length)
    omega
theorem slK_le : ∀ (os : List rwT) (SL n : Nat), 64 ≤ SL → 64 * slK os SL n + SL ≤ slE os SL n
  | [], SL, n, _ => by show 64 * 0 + SL ≤ SL; omega
  | w :: os, SL, n, h => by
    have h1 := slK_le os (gL SL (n + 628)) (n + (enW w).length) (Nat.le_trans h (gL_geL _ _))
    have h2 := gC_pay (n + 628) h
    show 64 * (gC SL (n + 628) + slK os (gL SL (n + 628)) (n + (enW w).length)) + SL ≤ slE os (gL SL (n + 628)) (n + (enW w).length)
    omega
/-- a plan of these outputs and of these FILES taken away -/
def plQ (SL nr no n : Nat) (f R E Pp : Nat → Int32) (os : List rwT) (rs : List Int32) : Prop :=
  no = os.length ∧ nr = rs.length ∧ n = (os.map enW).flatten.length ∧ by_at f (os.map enW).flatten ∧ plE E (os.map enW) ∧ (∀ k w, os[k]? = some w → Pp k = w.1) ∧ (∀ k x, rs[k]? = some x → R k = x) ∧ n ≤ SL ∧ (∀ w ∈ os, (enW w).length ≤ 628) ∧ SL ≤ 125600 ∧ 64 ≤ SL
theorem plQ_0 {SL : Nat} {f R E Pp : Nat → Int32} (hf : ∀ i, fits .byte (.int (f i)) = true) (h1 : SL ≤ 125600) (h2 : 64 ≤ SL) : plQ SL 0 0 0 f R E Pp [] [] :=
  ⟨rfl, rfl, rfl, by_nil hf, fun k hk => absurd hk (Nat.not_lt_zero k), fun k w h => by simp at h, fun k w h => by simp at h, Nat.zero_le _, fun w hw => by simp at hw, h1, h2⟩
theorem flat_le : ∀ {os : List rwT}, (∀ w ∈ os, (enW w).length ≤ 628) → (os.map enW).flatten.length ≤ 628 * os.length
  | [], _ => Nat.le_refl _
  | w :: os, h => by
    have h1 := flat_le (os := os) (fun x hx => h x (List.mem_cons_of_mem _ hx))
    have h2 := h w List.mem_cons_self
    simp only [List.map_cons, List.flatten_cons, List.length_append, List.length_cons]
    omega
theorem flat_s (os : List rwT) (w : rwT) : ((os ++ [w]).map enW).flatten = (os.map enW).flatten ++ enW w := by simp
theorem plE_s {E : Nat → Int32} {os : List rwT} {w : rwT} {no n : Nat} (h : plE E (os.map enW)) (hno : no = os.length) (hn : n = (os.map enW).flatten.length) : plE (upd E no (nI (n + (enW w).length))) ((os ++ [w]).map enW) := by
  intro k hk
  rw [List.length_map, List.length_append] at hk
  have hk2 : k < os.length + 1 := hk
  subst hno
  by_cases e : k = os.length
  · subst e
    rw [pk_us, List.take_of_length_le (by rw [List.length_map, List.length_append]; exact Nat.le_refl _), flat_s, List.length_append, ← hn]
  · rw [pk_un e, h k (by rw [List.length_map]; omega), List.map_append, List.take_append_of_le_length (by rw [List.length_map]; omega)]
theorem plQ_out {SL nr no n : Nat} {f R E Pp : Nat → Int32} {os : List rwT} {rs : List Int32} (h : plQ SL nr no n f R E Pp os rs) {w : rwT} {f2 : Nat → Int32} (hf : by_at f2 ((os.map enW).flatten ++ enW w)) (hl : (enW w).length ≤ 628) (ho : os.length < 100) : plQ (gL SL (n + 628)) nr (no + 1) (n + (enW w).length) f2 R (upd E no (nI (n + (enW w).length))) (upd Pp no w.1) (os ++ [w]) rs := by
  obtain ⟨h1, h2, h3, h4, h5, h6, h7, h8, h9, h10, h11⟩ := h
  have hfl := flat_le h9
  refine ⟨by rw [List.length_append, h1]; rfl, h2, by rw [flat_s, List.length_append, h3], by rw [flat_s]; exact hf, plE_s h5 h1 h3, fun k x hk => ?_, h7, Nat.le_trans (by omega) (gL_le (L := SL) (n := n + 628)), fun x hx => ?_, gL_lt h10 (by omega), Nat.le_trans h11 (gL_geL _ _)⟩
  · rcases Nat.lt_trichotomy k os.length with e | e | e
    · rw [List.getElem?_append_left e] at hk
      rw [pk_un (by omega)]; exact h6 k x hk
    · rw [List.getElem?_append_right (by omega), e, Nat.sub_self] at hk
      cases hk
      rw [e, ← h1, pk_us]
    · rw [List.getElem?_eq_none (by rw [List.length_append]; exact e)] at hk
      cases hk
  · rcases List.mem_append.mp hx with e | e
    · exact h9 x e
    · rw [List.mem_singleton.mp e]; exact hl
theorem plQ_rem {SL nr no n : Nat} {f R E Pp : Nat → Int32} {os : List rwT} {rs : List Int32} (h : plQ SL nr no n f R E Pp os rs) (x : Int32) : plQ SL (nr + 1) no n f (upd R nr x) E Pp os (rs ++ [x]) := by
  obtain ⟨h1, h2, h3, h4, h5, h6, h7, h8, h9, h10, h11⟩ := h
  refine ⟨h1, by rw [List.length_append, h2]; rfl, h3, h4, h5, h6, fun k y hk => ?_, h8, h9, h10, h11⟩
  rcases Nat.lt_trichotomy k rs.length with e | e | e
  · rw [List.getElem?_append_left e] at hk
    rw [pk_un (by omega)]; exact h7 k y hk
  · rw [List.getElem?_append_right (by omega), e, Nat.sub_self] at hk
    cases hk
    rw [e, ← h2, pk_us]
  · rw [List.getElem?_eq_none (by rw [List.length_append]; exact e)] at hk
    cases hk
theorem c_addOut (Z : zT) (l : Launch) (pa qr sh sq qe qp qn SL nr no np n : Nat) (f R E Pp N : Nat → Int32) (b bv bp bq bg k : Nat) (P : Int32) (V pr le gr : Nat → Int32) (os : List rwT) (rs : List Int32) (r4 : List r4T) (hq : plQ SL nr no n f R E Pp os rs) (hs : shT k V r4) (hb : bt_ok V pr le gr (fun _ => k)) (hk : k ≤ 48) (ho : os.length < 100) : Kv Z l yX4_addOutput cX4_addOutput 2 none ({ frames := 4, cells := gC SL (n + 628), slots := gS SL (n + 628), locals := 130 }) [.ref pa, .ref b] (plW Z pa qr sh sq qe qp qn SL nr no np n f R E Pp N ++ btW Z b bv bp bq bg P (nI k) V pr le gr) (fun u => ∃ q2 f2 E2 Pp2, plQ (gL SL (n + 628)) nr (no + 1) (n + (enW (rw3 P r4)).length) f2 R E2 Pp2 (os ++ [rw3 P r4]) rs ∧ u = plW Z pa qr sh q2 qe qp qn (gL SL (n + 628)) nr (no + 1) np (n + (enW (rw3 P r4)).length) f2 R E2 Pp2 N ++ btW Z b bv bp bq bg P (nI k) V pr le gr) := by
  have he : encB P k V le gr = enW (rw3 P r4) := by rw [encB_ok hb, enW_of P V hk, hs.2 P]
  have h0 := hq
  obtain ⟨h1, h2, h3, h4, h5, h6, h7, h8, h9, h10, h11⟩ := hq
  have K := c_X4_addOutput Z l pa qr sh sq qe qp qn SL nr no np f R E Pp N b bv bp bq bg k P V pr le gr (os.map enW).flatten (by omega) hk h4 (by omega) (by omega)
  rw [he, ← h3] at K
  refine Kv.frm (X := []) K (by rw [List.append_nil]) (Nat.le_refl _) (Nat.le_refl _) (Nat.le_refl _) (Nat.le_refl _) ?_
  rintro u ⟨q2, f2, hf2, rfl⟩
  have hl : (enW (rw3 P r4)).length ≤ 628 := by rw [← he]; exact encB_le P k V le gr hk
  exact ⟨_, [], List.Perm.refl _, q2, f2, _, _, plQ_out h0 hf2 hl ho, rfl⟩
theorem kpL_hit (wh nu : Int32) {c0 : Nat} (hc : c0 < 3) (P : Int32) (V : Nat → Int32) : ∀ n, (kpL c0 wh nu (rLn P V n)).length + hitF wh nu (col V c0 n) = n
  | 0 => rfl
  | n + 1 => by
    have ih := kpL_hit wh nu hc P V n
    rw [rLn_s, col_s, hitF_s, hitS]
    by_cases h : cdv wh nu (V (48 * c0 + n)) = 0
    · rw [kpL_y (by rw [r4C_at P V hc]; exact h), List.length_append, if_pos h]
      show _ + 1 + _ = _
      omega
    · rw [kpL_n (by rw [r4C_at P V hc]; exact h), if_neg h]
      omega
theorem dl_pre (D : rdT) (pt : Int32) (c : Nat) (wh nu : Int32) : ∀ (L : flT) (s : List rwT × List Int32), ∃ t u, L.foldl (dlS D pt c wh nu) s = (s.1 ++ t, s.2 ++ u)
  | [], s => ⟨[], [], by simp⟩
  | q :: L, s => by
    obtain ⟨t, u, h⟩ := dl_pre D pt c wh nu L (dlS D pt c wh nu s q)
    rw [List.foldl_cons, h]
    unfold dlS
    by_cases h1 : q.2 = pt
    · rw [if_pos h1]
      cases hD : D q.1 q.2 with
      | none => exact ⟨t, u, rfl⟩
      | some w =>
        rw [Option.elim_some]
        by_cases h2 : mhF wh nu (rwC w c) = 0
        · rw [if_pos h2]; exact ⟨t, u, rfl⟩
        · rw [if_neg h2]
          by_cases h3 : hitF wh nu (rwC w c) = 0
          · rw [if_pos h3]; exact ⟨t, u, rfl⟩
          · rw [if_neg h3]; exact ⟨_, _, by rw [List.append_assoc, List.append_assoc]⟩
    · rw [if_neg h1]; exact ⟨t, u, rfl⟩
/-- a ROW more on the sheet of a COMPACT -/
def cmR (pt : Int32) (s : List rwT × List r4T) (r : r4T) : List rwT × List r4T := if s.2.length + 1 = 48 then (s.1 ++ [rw3 pt (s.2 ++ [r])], []) else (s.1, s.2 ++ [r])
def cmE (pt : Int32) (s : List rwT × List r4T) : List rwT := if s.2 = [] then s.1 else s.1 ++ [rw3 pt s.2]
theorem cm_pre (pt : Int32) : ∀ (L : List r4T) (s : List rwT × List r4T), ∃ t, cmE pt (L.foldl (cmR pt) s) = s.1 ++ t
  | [], s => by
    show ∃ t, cmE pt s = s.1 ++ t
    unfold cmE
    by_cases h : s.2 = []
    · rw [if_pos h]; exact ⟨[], by simp⟩
    · rw [if_neg h]; exact ⟨_, rfl⟩
  | r :: L, s => by
    obtain ⟨t, h⟩ := cm_pre pt L (cmR pt s r)
    rw [List.foldl_cons, h]
    unfold cmR
    by_cases h1 : s.2.length + 1 = 48
    · rw [if_pos h1]; exact ⟨_, by rw [List.append_assoc]⟩
    · rw [if_neg h1]; exact ⟨t, rfl⟩
theorem ch48_app (pt : Int32) (R S : List r4T) {m : Nat} (h : 48 * m ≤ R.length) : ch48 pt (R ++ S) m = ch48 pt R m := by
  unfold ch48
  apply List.map_congr_left
  intro i hi
  have hi' := List.mem_range.mp hi
  rw [List.drop_append_of_le_length (by omega), List.take_append_of_le_length (by rw [List.length_drop]; omega)]
theorem cm_inv (pt : Int32) : ∀ (n : Nat) (R : List r4T), R.length = n → R.foldl (cmR pt) ([], []) = (ch48 pt R (n / 48), R.drop (48 * (n / 48)))
  | 0, R, h => by
    have : R = [] := List.eq_nil_of_length_eq_zero h
    subst this
    rfl
  | n + 1, R, h => by
    obtain ⟨S, r, rfl⟩ : ∃ S r, R = S ++ [r] := ⟨R.dropLast, R.getLast (by intro z; rw [z] at h; simp at h), (List.dropLast_concat_getLast _).symm⟩
    have hS : S.length = n := by rw [List.length_append] at h; exact Nat.succ.inj h
    have ih := cm_inv pt n S hS
    rw [List.foldl_append, ih]
    show cmR pt _ r = _
    unfold cmR
    have hm : 48 * (n / 48) ≤ n := Nat.mul_div_le n 48
    have hl : (S.drop (48 * (n / 48))).length = n - 48 * (n / 48) := by rw [List.length_drop, hS]
    by_cases e : n - 48 * (n / 48) + 1 = 48
    · rw [if_pos (by rw [hl]; exact e)]
      have e2 : (n + 1) / 48 = n / 48 + 1 := by omega
      rw [e2, ch48_s, ch48_app pt S [r] (by omega)]
      refine Prod.ext ?_ ?_
      · show ch48 pt S (n / 48) ++ [rw3 pt (S.drop (48 * (n / 48)) ++ [r])] = ch48 pt S (n / 48) ++ [rw3 pt (((S ++ [r]).drop (48 * (n / 48))).take 48)]
        rw [List.drop_append_of_le_length (by omega), List.take_of_length_le (by rw [List.length_append, hl]; show _ + 1 ≤ 48; omega)]
      · show [] = (S ++ [r]).drop (48 * (n / 48 + 1))
        rw [List.drop_eq_nil_of_le (by rw [List.length_append, hS]; show n + 1 ≤ _; omega)]
    · rw [if_neg (by rw [hl]; exact e)]
      have e2 : (n + 1) / 48 = n / 48 := by omega
      rw [e2, ch48_app pt S [r] (by omega), List.drop_append_of_le_length (by omega)]
theorem cm_end (pt : Int32) (R : List r4T) : cmE pt (R.foldl (cmR pt) ([], [])) = ch48 pt R ((R.length + 47) / 48) := by
  rw [cm_inv pt R.length R rfl]
  unfold cmE
  have hl : (R.drop (48 * (R.length / 48))).length = R.length - 48 * (R.length / 48) := List.length_drop
  by_cases e : R.length - 48 * (R.length / 48) = 0
  · rw [if_pos (List.eq_nil_of_length_eq_zero (by rw [hl]; exact e)), show (R.length + 47) / 48 = R.length / 48 by omega]
  · rw [if_neg (fun z => e (by rw [← hl]; exact congrArg List.length z)), show (R.length + 47) / 48 = R.length / 48 + 1 by omega, ch48_s, List.take_of_length_le (by rw [hl]; omega)]
theorem cm_acc (D : rdT) (pt : Int32) : ∀ (L : flT) (s : List r4T × List Int32), L.foldl (cmS D pt) s = (s.1 ++ (L.foldl (cmS D pt) ([], [])).1, s.2 ++ (L.foldl (cmS D pt) ([], [])).2)
  | [], s => by simp
  | q :: L, s => by
    have h1 := cm_acc D pt L (cmS D pt s q)
    have h2 := cm_acc D pt L (cmS D pt ([], []) q)
    rw [List.foldl_cons, List.foldl_cons, h1, h2]
    unfold cmS
    by_cases e : q.2 = pt
    · rw [if_pos e, if_pos e]
      cases hD : D q.1 q.2 with
      | none => simp
      | some w => simp
    · rw [if_neg e, if_neg e]; simp
