/-! MODULE Store (X8), third part: an OBJECT of a shelf is looked at. -/
abbrev btV (Z : zT) (b : btT) : va_W := btW Z b.1.1 b.1.2.1 b.1.2.2.1 b.1.2.2.2.1 b.1.2.2.2.2 b.2.1.1 (nI b.2.1.2) b.2.2.1 b.2.2.2.1 b.2.2.2.2.1 b.2.2.2.2.2
def bcW (Z : zT) : Option btT → va_W
  | none => []
  | some b => btV Z b
/-- the batches of the DATA objects -/
def baW (Z : zT) (dl : List blT) : va_W := dl.flatMap (fun x => bcW Z (bl_bt x))
/-- a batch holds these ROWS -/
def btM (b : btT) (w : rwT) : Prop := w = rwOf b.2.1.1 b.2.1.2 b.2.2.1 ∧ bt_ok b.2.2.1 b.2.2.2.1 b.2.2.2.2.1 b.2.2.2.2.2 (fun _ => b.2.1.2)
def vD (x : blT) : Nat × Nat × Int32 × Nat × (Nat → Int32) × Int32 := (bl_ad x, bl_qa x, bl_nu x, bl_le x, bl_fn x, bl_wt x)
def vE (x : blT) : Nat × Nat × Int32 × Nat × (Nat → Int32) × Option btT × Int32 := (bl_ad x, bl_qa x, bl_nu x, bl_le x, bl_fn x, bl_bt x, bl_wt x)
def okD (x : blT) : Prop := 4 ≤ bl_le x ∧ bl_le x < 2 ^ 20 ∧ (∀ i, fits .byte (.int (bl_fn x i)) = true) ∧ (∀ b, bl_bt x = some b → b.2.1.2 ≤ 48) ∧ (bl_ex x = 0 ∨ (bl_ex x = 1 ∧ (bl_bt x).isSome = true ∧ bl_so x = sD (bl_fn x) (bl_le x) ∧ ∀ w b, dD (bl_fn x) (bl_le x) = some w → bl_bt x = some b → btM b w))
def okB (q : blT → Prop) (x : blT) : Prop := (bl_ex x = 0 ∨ (bl_ex x = 1 ∧ bl_so x = pI (q x))) ∧ 10 ≤ bl_le x ∧ bl_le x < 2 ^ 20 ∧ ∀ i, fits .byte (.int (bl_fn x i)) = true
def enQ (x : blT) : Prop := enS (bl_fn x) (bl_le x) (bl_nu x)
def ckQ (x : blT) : Prop := ckS (bl_fn x) (bl_le x) (bl_nu x)
def nbB (y : blT) : Nat := if (bl_bt y).isSome = true then 0 else 1
theorem c_isSoundD (Z : zT) (l : Launch) (sa dh eh kh : Nat) (ro : Int32) (sr ag : Nat) (y : blT) (q0 aq SL : Nat) (i1 i2 i3 n0 : Int32) (fa : Nat → Int32) (hy : okD y) (hfa : ∀ i, fits .byte (.int (fa i)) = true) (hSL : SL < 2 ^ 27) (hag : bl_ex y = 1 → 628 ≤ SL) :
    Ki Z l yX8_isSound cX8_isSound 4 (some .boolean) ({ frames := 4, cells := 5 * nbB y + gC SL 628, slots := 159 * nbB y + gS SL 628, locals := 130 }) [.ref sa, .int 0, .ref (bl_ad y)] ([stC sa dh eh kh ro sr ag, (sr, .inr (8, [.ref q0, .int i1, .int i2, .int i3]))] ++ skW Z ag aq SL fa n0 ++ [bO y, bA Z y] ++ bcW Z (bl_bt y))
      (fun r u => ∃ (y2 : blT) (q2 aq2 : Nat) (fa2 : Nat → Int32) (n2 j1 j2 j3 : Int32), r = sD (bl_fn y) (bl_le y) ∧ vD y2 = vD y ∧ okD y2 ∧ bl_ex y2 = 1 ∧ (bl_bt y2).isSome = true ∧ (∀ i, fits .byte (.int (fa2 i)) = true) ∧ u = [stC sa dh eh kh ro sr ag, (sr, .inr (8, [.ref q2, .int j1, .int j2, .int j3]))] ++ skW Z ag aq2 (gL SL 628) fa2 n2 ++ [bO y2, bA Z y2] ++ bcW Z (bl_bt y2)) := by
  obtain ⟨ad, qa, nu, le, fn, ex, so, bt, wt⟩ := y
  have h0 := hy
  obtain ⟨h1, h2, h3, h4, h5⟩ := hy
  have h2a : le < 2 ^ 20 := h2
  by_cases hex : ex = 0
  · subst hex
    cases bt with
    | none =>
      refine Ki.up (c_isSoundDN Z l sa dh eh kh ro sr ag ad qa le nu so wt fn q0 aq SL i1 i2 i3 n0 fa (by omega) h1 h3 hfa hSL) (Nat.le_refl _) (by show 5 + gC SL 628 ≤ 5 * 1 + gC SL 628; omega) (by show 159 + gS SL 628 ≤ 159 * 1 + gS SL 628; omega) (Nat.le_refl _) ?_
      rintro r u ⟨bh, qv, qp, ql, qg, P2, n2, V2, pr2, le2, gr2, aq2, fa2, as2, j1, j2, j3, hr, hn, hd, hb, hl, rfl⟩
      exact ⟨(ad, qa, nu, le, fn, 1, sD fn le, some ((bh, qv, qp, ql, qg), (P2, n2), V2, pr2, le2, gr2), wt), qa, aq2, fa2, nI as2.length, j1, j2, j3, hr, rfl, ⟨h1, h2, h3, fun b hb2 => by cases hb2; exact hn, Or.inr ⟨rfl, rfl, rfl, fun w b hw hb2 => by cases hb2; exact hd w hw⟩⟩, rfl, rfl, hb.2, rfl⟩
    | some b =>
      obtain ⟨⟨bh, qv, qp, ql, qg⟩, ⟨P1, n1⟩, V1, pr1, le1, gr1⟩ := b
      refine Ki.up (c_isSoundDS Z l sa dh eh kh ro sr ag ad qa le nu so wt fn q0 aq SL i1 i2 i3 n0 fa bh qv qp ql qg n1 P1 V1 pr1 le1 gr1 (by omega) h1 h3 hfa hSL) (Nat.le_refl _) (by show gC SL 628 ≤ 5 * 0 + gC SL 628; omega) (by show gS SL 628 ≤ 159 * 0 + gS SL 628; omega) (Nat.le_refl _) ?_
      rintro r u ⟨P2, n2, V2, pr2, le2, gr2, aq2, fa2, as2, j1, j2, j3, hr, hn, hd, hb, hl, rfl⟩
      exact ⟨(ad, qa, nu, le, fn, 1, sD fn le, some ((bh, qv, qp, ql, qg), (P2, n2), V2, pr2, le2, gr2), wt), qa, aq2, fa2, nI as2.length, j1, j2, j3, hr, rfl, ⟨h1, h2, h3, fun b hb2 => by cases hb2; exact hn, Or.inr ⟨rfl, rfl, rfl, fun w b hw hb2 => by cases hb2; exact hd w hw⟩⟩, rfl, rfl, hb.2, rfl⟩
  · obtain ⟨h6, h7, h8, h9⟩ := h5.resolve_left hex
    have h6a : ex = 1 := h6
    have h8a : so = sD fn le := h8
    have h9a := h9
    clear h5 h6 h8 h9 hex
    subst h6a
    subst h8a
    have hg : gL SL 628 = SL := by unfold gL; rw [if_pos (hag rfl)]
    refine Ki.frm (X := [(sr, .inr (8, [.ref q0, .int i1, .int i2, .int i3])), (ag, .inr (7, [.ref aq, .int n0])), (aq, aB Z SL fa)] ++ bcW Z bt) (c_isSoundD1 Z l sa dh eh kh ro sr ag ad qa le nu (sD fn le) (bt.map (fun b => b.1.1)) wt fn (sD_or fn le)) (perm_sg [[stC sa dh eh kh ro sr ag], [(sr, .inr (8, [.ref q0, .int i1, .int i2, .int i3]))], [(ag, .inr (7, [.ref aq, .int n0]))], [(aq, aB Z SL fa)], [bO (ad, qa, nu, le, fn, 1, sD fn le, bt, wt)], [bA Z (ad, qa, nu, le, fn, 1, sD fn le, bt, wt)], bcW Z bt] [[stC sa dh eh kh ro sr ag], [bO (ad, qa, nu, le, fn, 1, sD fn le, bt, wt)], [bA Z (ad, qa, nu, le, fn, 1, sD fn le, bt, wt)]] [[(sr, .inr (8, [.ref q0, .int i1, .int i2, .int i3]))], [(ag, .inr (7, [.ref aq, .int n0]))], [(aq, aB Z SL fa)], bcW Z bt] [0, 4, 5, 1, 2, 3, 6] rfl 7 (by decide) rfl rfl rfl rfl) (Nat.zero_le _) (Nat.zero_le _) (Nat.zero_le _) (Nat.zero_le _) ?_
    rintro r u ⟨hr, rfl⟩
    refine ⟨_, [], ?_, ⟨(ad, qa, nu, le, fn, 1, sD fn le, bt, wt), q0, aq, fa, n0, i1, i2, i3, hr, rfl, h0, rfl, h7, hfa, rfl⟩⟩
    rw [hg, List.append_nil]
    exact (perm_sg [[stC sa dh eh kh ro sr ag], [(sr, .inr (8, [.ref q0, .int i1, .int i2, .int i3]))], [(ag, .inr (7, [.ref aq, .int n0]))], [(aq, aB Z SL fa)], [bO (ad, qa, nu, le, fn, 1, sD fn le, bt, wt)], [bA Z (ad, qa, nu, le, fn, 1, sD fn le, bt, wt)], bcW Z bt] [[stC sa dh eh kh ro sr ag], [bO (ad, qa, nu, le, fn, 1, sD fn le, bt, wt)], [bA Z (ad, qa, nu, le, fn, 1, sD fn le, bt, wt)]] [[(sr, .inr (8, [.ref q0, .int i1, .int i2, .int i3]))], [(ag, .inr (7, [.ref aq, .int n0]))], [(aq, aB Z SL fa)], bcW Z bt] [0, 4, 5, 1, 2, 3, 6] rfl 7 (by decide) rfl rfl rfl rfl).symm
/-- the same of an ENTRY or a CHECKPOINT -/
def bl_es (e s : Int32) (x : blT) : blT := (bl_ad x, bl_qa x, bl_nu x, bl_le x, bl_fn x, e, s, bl_bt x, bl_wt x)
theorem c_isSoundE2 (Z : zT) (l : Launch) (sa dh eh kh : Nat) (ro : Int32) (sr ag : Nat) (y : blT) (hy : okB enQ y) :
    Ki Z l yX8_isSound cX8_isSound 4 (some .boolean) ({ frames := 3, cells := 0, slots := 0, locals := 90 }) [.ref sa, .int 1, .ref (bl_ad y)] ([stC sa dh eh kh ro sr ag, bO y, bA Z y]) (fun r u => r = pI (enQ y) ∧ u = [stC sa dh eh kh ro sr ag, bO (bl_es 1 (pI (enQ y)) y), bA Z (bl_es 1 (pI (enQ y)) y)]) :=
  c_isSoundE Z l sa dh eh kh ro sr ag (bl_ad y) (bl_qa y) (bl_le y) (bl_nu y) (bl_ex y) (bl_so y) (bl_ba y) (bl_wt y) (bl_fn y) (Nat.lt_of_lt_of_le hy.2.2.1 (by decide)) (Nat.le_trans (by decide) hy.2.1) hy.1
theorem c_isSoundK2 (Z : zT) (l : Launch) (sa dh eh kh : Nat) (ro : Int32) (sr ag : Nat) (y : blT) (hy : okB ckQ y) :
    Ki Z l yX8_isSound cX8_isSound 4 (some .boolean) ({ frames := 3, cells := 0, slots := 0, locals := 90 }) [.ref sa, .int 2, .ref (bl_ad y)] ([stC sa dh eh kh ro sr ag, bO y, bA Z y]) (fun r u => r = pI (ckQ y) ∧ u = [stC sa dh eh kh ro sr ag, bO (bl_es 1 (pI (ckQ y)) y), bA Z (bl_es 1 (pI (ckQ y)) y)]) :=
  c_isSoundK Z l sa dh eh kh ro sr ag (bl_ad y) (bl_qa y) (bl_le y) (bl_nu y) (bl_ex y) (bl_so y) (bl_ba y) (bl_wt y) (bl_fn y) (Nat.lt_of_lt_of_le hy.2.2.1 (by decide)) (Nat.le_trans (by decide) hy.2.1) hy.1
theorem perm_sgA {X Y : va_W} (S S2 : List va_W) (is : List Nat) (h : is.map (fun i => S[i]?) = S2.map some) (n : Nat) (hn : is.isPerm (List.range n) = true) (hl : S.length = n) (hX : X = sg S) (h1 : Y = sg S2) : X.Perm Y := perm_sg1 S S2 is h n hn hl hX h1
theorem set_map {α : Type} (f : blT → α) {bl : List blT} {j : Nat} {y y2 : blT} (h : bl[j]? = some y) (he : f y2 = f y) : (bl.set j y2).map f = bl.map f := by
  rw [List.map_set, he]
  apply List.ext_getElem?
  intro i
  by_cases hi : i = j
  · subst hi
    have hk := (List.getElem?_eq_some_iff.mp h).1
    rw [List.getElem?_set_self (by simpa using hk), List.getElem?_map, h]; rfl
  · rw [List.getElem?_set_ne (by omega)]
theorem set_all {q : blT → Prop} {bl : List blT} {j : Nat} {y2 : blT} (h : ∀ y ∈ bl, q y) (h2 : q y2) : ∀ y ∈ bl.set j y2, q y := by
  intro y hy
  rcases List.mem_or_eq_of_mem_set hy with h9 | h9
  · exact h y h9
  · rw [h9]; exact h2
/-- one OBJECT of a shelf looked at: the same shelf -/
theorem c_lookE (Z : zT) (l : Launch) (sa dh eh kh : Nat) (ro : Int32) (sr ag : Nat) (h a qe : Nat) (mc : Int32) (ar : arT) (bl : List blT) (j : Nat) (y : blT) (hj : bl[j]? = some y) (hy : okB enQ y) :
    Ki Z l yX8_isSound cX8_isSound 4 (some .boolean) ({ frames := 3, cells := 0, slots := 0, locals := 90 }) [.ref sa, .int 1, .ref (bl_ad y)] ([stC sa dh eh kh ro sr ag] ++ shW Z h a mc qe ar bl) (fun r u => r = pI (enQ y) ∧ u = [stC sa dh eh kh ro sr ag] ++ shW Z h a mc qe ar (bl.set j (bl_es 1 (pI (enQ y)) y))) := by
  refine Ki.frm (X := [shC h a, liC a mc qe bl.length] ++ ((bl.eraseIdx j).map bO ++ ((bl.eraseIdx j).map (bA Z) ++ arE Z qe ar))) (c_isSoundE2 Z l sa dh eh kh ro sr ag y hy) ?_ (Nat.le_refl _) (Nat.le_refl _) (Nat.le_refl _) (Nat.le_refl _) ?_
  · refine (List.Perm.append_left [stC sa dh eh kh ro sr ag, shC h a, liC a mc qe bl.length] (blW_perm (perm_er hj))).trans ?_
    exact perm_sg [[stC sa dh eh kh ro sr ag], [shC h a], [liC a mc qe bl.length], [bO y], [bA Z y], (bl.eraseIdx j).map bO ++ ((bl.eraseIdx j).map (bA Z) ++ arE Z qe ar)] [[stC sa dh eh kh ro sr ag], [bO y], [bA Z y]] [[shC h a], [liC a mc qe bl.length], (bl.eraseIdx j).map bO ++ ((bl.eraseIdx j).map (bA Z) ++ arE Z qe ar)] [0, 3, 4, 1, 2, 5] rfl 6 (by decide) rfl rfl rfl rfl
  · rintro r u ⟨hr, rfl⟩
    refine ⟨_, [], ?_, hr, rfl⟩
    rw [List.append_nil]
    refine List.Perm.symm ?_
    show ([stC sa dh eh kh ro sr ag, shC h a, liC a mc qe (bl.set j (bl_es 1 (pI (enQ y)) y)).length] ++ ((bl.set j (bl_es 1 (pI (enQ y)) y)).map bO ++ ((bl.set j (bl_es 1 (pI (enQ y)) y)).map (bA Z) ++ arE Z qe ar))).Perm _
    rw [List.length_set]
    refine (List.Perm.append_left [stC sa dh eh kh ro sr ag, shC h a, liC a mc qe bl.length] (blW_perm (perm_st (x2 := bl_es 1 (pI (enQ y)) y) hj))).trans ?_
    exact perm_sg [[stC sa dh eh kh ro sr ag], [shC h a], [liC a mc qe bl.length], [bO (bl_es 1 (pI (enQ y)) y)], [bA Z (bl_es 1 (pI (enQ y)) y)], (bl.eraseIdx j).map bO ++ ((bl.eraseIdx j).map (bA Z) ++ arE Z qe ar)] [[stC sa dh eh kh ro sr ag], [bO (bl_es 1 (pI (enQ y)) y)], [bA Z (bl_es 1 (pI (enQ y)) y)]] [[shC h a], [liC a mc qe bl.length], (bl.eraseIdx j).map bO ++ ((bl.eraseIdx j).map (bA Z) ++ arE Z qe ar)] [0, 3, 4, 1, 2, 5] rfl 6 (by decide) rfl rfl rfl rfl
theorem c_lookK (Z : zT) (l : Launch) (sa dh eh kh : Nat) (ro : Int32) (sr ag : Nat) (h a qe : Nat) (mc : Int32) (ar : arT) (bl : List blT) (j : Nat) (y : blT) (hj : bl[j]? = some y) (hy : okB ckQ y) :
    Ki Z l yX8_isSound cX8_isSound 4 (some .boolean) ({ frames := 3, cells := 0, slots := 0, locals := 90 }) [.ref sa, .int 2, .ref (bl_ad y)] ([stC sa dh eh kh ro sr ag] ++ shW Z h a mc qe ar bl) (fun r u => r = pI (ckQ y) ∧ u = [stC sa dh eh kh ro sr ag] ++ shW Z h a mc qe ar (bl.set j (bl_es 1 (pI (ckQ y)) y))) := by
  refine Ki.frm (X := [shC h a, liC a mc qe bl.length] ++ ((bl.eraseIdx j).map bO ++ ((bl.eraseIdx j).map (bA Z) ++ arE Z qe ar))) (c_isSoundK2 Z l sa dh eh kh ro sr ag y hy) ?_ (Nat.le_refl _) (Nat.le_refl _) (Nat.le_refl _) (Nat.le_refl _) ?_
  · refine (List.Perm.append_left [stC sa dh eh kh ro sr ag, shC h a, liC a mc qe bl.length] (blW_perm (perm_er hj))).trans ?_
    exact perm_sg [[stC sa dh eh kh ro sr ag], [shC h a], [liC a mc qe bl.length], [bO y], [bA Z y], (bl.eraseIdx j).map bO ++ ((bl.eraseIdx j).map (bA Z) ++ arE Z qe ar)] [[stC sa dh eh kh ro sr ag], [bO y], [bA Z y]] [[shC h a], [liC a mc qe bl.length], (bl.eraseIdx j).map bO ++ ((bl.eraseIdx j).map (bA Z) ++ arE Z qe ar)] [0, 3, 4, 1, 2, 5] rfl 6 (by decide) rfl rfl rfl rfl
  · rintro r u ⟨hr, rfl⟩
    refine ⟨_, [], ?_, hr, rfl⟩
    rw [List.append_nil]
    refine List.Perm.symm ?_
    show ([stC sa dh eh kh ro sr ag, shC h a, liC a mc qe (bl.set j (bl_es 1 (pI (ckQ y)) y)).length] ++ ((bl.set j (bl_es 1 (pI (ckQ y)) y)).map bO ++ ((bl.set j (bl_es 1 (pI (ckQ y)) y)).map (bA Z) ++ arE Z qe ar))).Perm _
    rw [List.length_set]
    refine (List.Perm.append_left [stC sa dh eh kh ro sr ag, shC h a, liC a mc qe bl.length] (blW_perm (perm_st (x2 := bl_es 1 (pI (ckQ y)) y) hj))).trans ?_
    exact perm_sg [[stC sa dh eh kh ro sr ag], [shC h a], [liC a mc qe bl.length], [bO (bl_es 1 (pI (ckQ y)) y)], [bA Z (bl_es 1 (pI (ckQ y)) y)], (bl.eraseIdx j).map bO ++ ((bl.eraseIdx j).map (bA Z) ++ arE Z qe ar)] [[stC sa dh eh kh ro sr ag], [bO (bl_es 1 (pI (ckQ y)) y)], [bA Z (bl_es 1 (pI (ckQ y)) y)]] [[shC h a], [liC a mc qe bl.length], (bl.eraseIdx j).map bO ++ ((bl.eraseIdx j).map (bA Z) ++ arE Z qe ar)] [0, 3, 4, 1, 2, 5] rfl 6 (by decide) rfl rfl rfl rfl
theorem baW_perm {Z : zT} {bl bl2 : List blT} {x : blT} (h : bl.Perm (x :: bl2)) : (baW Z bl).Perm (bcW Z (bl_bt x) ++ baW Z bl2) := h.flatMap_right _
theorem c_lookD (Z : zT) (l : Launch) (sa dh eh kh : Nat) (ro : Int32) (sr ag : Nat) (h a qe : Nat) (mc : Int32) (ar : arT) (bl : List blT) (j : Nat) (y : blT) (q0 aq SL : Nat) (i1 i2 i3 n0 : Int32) (fa : Nat → Int32) (hj : bl[j]? = some y) (hy : okD y) (hfa : ∀ i, fits .byte (.int (fa i)) = true) (hSL : SL < 2 ^ 27) (hag : bl_ex y = 1 → 628 ≤ SL) :
    Ki Z l yX8_isSound cX8_isSound 4 (some .boolean) ({ frames := 4, cells := 5 * nbB y + gC SL 628, slots := 159 * nbB y + gS SL 628, locals := 130 }) [.ref sa, .int 0, .ref (bl_ad y)] ([stC sa dh eh kh ro sr ag, (sr, .inr (8, [.ref q0, .int i1, .int i2, .int i3]))] ++ (skW Z ag aq SL fa n0 ++ (shW Z h a mc qe ar bl ++ baW Z bl)))
      (fun r u => ∃ (y2 : blT) (q2 aq2 : Nat) (fa2 : Nat → Int32) (n2 j1 j2 j3 : Int32), r = sD (bl_fn y) (bl_le y) ∧ vD y2 = vD y ∧ okD y2 ∧ bl_ex y2 = 1 ∧ (bl_bt y2).isSome = true ∧ (∀ i, fits .byte (.int (fa2 i)) = true) ∧ u = [stC sa dh eh kh ro sr ag, (sr, .inr (8, [.ref q2, .int j1, .int j2, .int j3]))] ++ (skW Z ag aq2 (gL SL 628) fa2 n2 ++ (shW Z h a mc qe ar (bl.set j y2) ++ baW Z (bl.set j y2)))) := by
  have key : ∀ (y1 : blT) (bl1 : List blT) (L1 : Nat) (q1 a1 S1 : Nat) (f1 : Nat → Int32) (m1 k1 k2 k3 : Int32), bl1.Perm (y1 :: bl.eraseIdx j) → bl1.length = L1 → ([stC sa dh eh kh ro sr ag, (sr, .inr (8, [.ref q1, .int k1, .int k2, .int k3]))] ++ (skW Z ag a1 S1 f1 m1 ++ (shW Z h a mc qe ar bl1 ++ baW Z bl1))).Perm (([stC sa dh eh kh ro sr ag, (sr, .inr (8, [.ref q1, .int k1, .int k2, .int k3]))] ++ skW Z ag a1 S1 f1 m1 ++ [bO y1, bA Z y1] ++ bcW Z (bl_bt y1)) ++ ([shC h a, liC a mc qe L1] ++ (((bl.eraseIdx j).map bO ++ ((bl.eraseIdx j).map (bA Z) ++ arE Z qe ar)) ++ baW Z (bl.eraseIdx j)))) := by
    intro y1 bl1 L1 q1 a1 S1 f1 m1 k1 k2 k3 hp hl
    subst hl
    have e1 := (blW_perm (Z := Z) (E := arE Z qe ar) hp).append (baW_perm (Z := Z) hp)
    refine (List.Perm.append_left ([stC sa dh eh kh ro sr ag, (sr, .inr (8, [.ref q1, .int k1, .int k2, .int k3]))] ++ (skW Z ag a1 S1 f1 m1 ++ [shC h a, liC a mc qe bl1.length])) e1).trans ?_
    exact perm_sgA [[stC sa dh eh kh ro sr ag], [(sr, .inr (8, [.ref q1, .int k1, .int k2, .int k3]))], [(ag, .inr (7, [.ref a1, .int m1]))], [(a1, aB Z S1 f1)], [shC h a], [liC a mc qe bl1.length], [bO y1], [bA Z y1], (bl.eraseIdx j).map bO ++ ((bl.eraseIdx j).map (bA Z) ++ arE Z qe ar), bcW Z (bl_bt y1), baW Z (bl.eraseIdx j)] [[stC sa dh eh kh ro sr ag], [(sr, .inr (8, [.ref q1, .int k1, .int k2, .int k3]))], [(ag, .inr (7, [.ref a1, .int m1]))], [(a1, aB Z S1 f1)], [bO y1], [bA Z y1], bcW Z (bl_bt y1), [shC h a], [liC a mc qe bl1.length], (bl.eraseIdx j).map bO ++ ((bl.eraseIdx j).map (bA Z) ++ arE Z qe ar), baW Z (bl.eraseIdx j)] [0, 1, 2, 3, 6, 7, 9, 4, 5, 8, 10] rfl 11 (by decide) rfl (by simp only [sg, List.append_assoc, List.cons_append, List.nil_append]) (by simp only [sg, List.append_assoc, List.cons_append, List.nil_append])
  refine Ki.frm (c_isSoundD Z l sa dh eh kh ro sr ag y q0 aq SL i1 i2 i3 n0 fa hy hfa hSL hag) (key y bl bl.length q0 aq SL fa n0 i1 i2 i3 (perm_er hj) rfl) (Nat.le_refl _) (Nat.le_refl _) (Nat.le_refl _) (Nat.le_refl _) ?_
  rintro r u ⟨y2, q2, aq2, fa2, n2, j1, j2, j3, hr, hv, ho, he, hs, hf, rfl⟩
  refine ⟨_, [], ?_, y2, q2, aq2, fa2, n2, j1, j2, j3, hr, hv, ho, he, hs, hf, rfl⟩
  rw [List.append_nil]
  exact (key y2 (bl.set j y2) bl.length q2 aq2 (gL SL 628) fa2 n2 j1 j2 j3 (perm_st hj) List.length_set).symm
