/-! THE LAW: a call of the loop. -/
theorem cl_mem {Z : zT} {t k : Nat} {iv : ivT} {av : avT} {ob : List obT} {pc ps : Nat} {u : va_W} (hV : clV Z t k iv av ob pc ps u) : ∃ fs, (t, .inr (11, fs)) ∈ u := by
  obtain ⟨c9, hV⟩ := hV
  obtain ⟨⟨sa, wq, fl, trn, nd, cm, lo, fa, vc, tq, lf, ac, sb, pp, dh, eh, kh, ro, sr, ag⟩, ⟨da, dq, dm, dr, dl⟩, ⟨ea, eq, em, er, el⟩, ⟨ka, kq, km, kr, kl⟩, ⟨q0, aq, SA, ga, n0, i1, i2, i3⟩, ⟨a0, a1, a2, ty⟩, ⟨ln, lp, m0, N, Pt⟩, ⟨b1, b2, b3, b4, SP, Sn, SW, Sp, Sl, Sg⟩, ⟨pq, QL, g, gn⟩, ⟨wv, ws, jw⟩⟩ := c9
  obtain ⟨hu, -⟩ := hV
  exact ⟨_, hu.mem_iff.mpr List.mem_cons_self⟩
/-- what comes behind a call -/
def lawK (p : Program) (l : Launch) (e : Env) (s : State) (m : MethodId) (args : Array Value) (below : List Frame) (meth : Method) (c : Code) (Z : zT) (A : Nat → Prop) (Q : State → Prop) (b k t h : Nat) (ad : Nat → Nat) (pc ps cc cs : Nat) : Prop := ∀ (u : va_W) (iv : ivT) (av : avT) (ob : List obT) (pc2 ps2 cc2 cs2 : Nat) (H : Heap) (locs : List Loc) (ls : Array Slot), wd Z A s (u ++ mdW Z h ad iv av) H locs → clV Z t (k + 1) iv av ob pc2 ps2 u → cc2 + pc2 ≤ cc + pc + 9 → cs2 + ps2 ≤ cs + ps + 3945 → lv_has ls 4 [(3, .int (nI (6 * k))), (2, .ref h), (1, .ref t), (0, .ref b)] → W p l e room_1 s m args below meth c H locs cc2 cs2 Q (F0 m 825 ls [])
set_option maxRecDepth 100000 in
set_option maxHeartbeats 4000000 in
theorem law_room {p : Program} {l : Launch} {e : Env} {s : State} {m : MethodId} {args : Array Value} {below : List Frame} {meth : Method} {c : Code} {Z : zT} {A : Nat → Prop} {Q : State → Prop} {b L k t h : Nat} {ad : Nat → Nat} {xs : Nat → Int32} {nm9 : String} {iv : ivT} {av : avT} {ob : List obT} {pc ps cc cs : Nat} {u : va_W} {H : Heap} {locs : List Loc} {ls : Array Slot} (C : cx p s m args meth c cL_law 4 (some .boolean) RL nm9) (hX : va_X b L xs s s.heap) (hbl : b < s.heap.size) (hbA : ¬ A b) (hL : L ≤ 3072) (hk : 6 * k + 6 ≤ L) (G : wd Z A s (u ++ mdW Z h ad iv av) H locs) (hV : clV Z t k iv av ob pc ps u) (hcc : cc + pc + 9 ≤ 600000) (hcs : cs + ps + 3945 ≤ 7302250) (hl : lv_has ls 4 [(3, .int (nI (6 * k))), (2, .ref h), (1, .ref t), (0, .ref b)]) (kk : lawK p l e s m args below meth c Z A Q b k t h ad pc ps cc cs) : W p l e room_1 s m args below meth c H locs cc cs Q (F0 m 132 ls []) := by
  have hx := C.1
  have hb := C.2.1
  obtain ⟨mc, ms, post, postM, K, Km, hm1, hm2, hH⟩ := op_room (l := l) (h := h) (ad := ad) (by omega : k ≤ 512) hV (xs (6 * k + 1))
  obtain ⟨fs9, hmem⟩ := cl_mem hV
  obtain ⟨q9, hq9⟩ := List.getElem?_of_mem hmem
  refine lv_aload_n hx hb dL_law_132 rfl (lv_at hl 2 rfl) ?_
  refine lv_aload_n hx hb dL_law_133 rfl (lv_at hl 3 rfl) ?_
  refine lv_iload_n hx hb dL_law_134 rfl (lv_at hl 0 rfl) ?_
  refine lv_iconst (v := 1) hx hb dL_law_135 (by decide) ?_
  refine lv_iadd hx hb dL_law_136 ?_
  refine k_topi (y := nI (6 * k + 1)) (nI_add _ 1) ?_
  refine va_sld C.1 C.2.1 hX hbl hbA G.2.2.2.1 (vp_in_nI (show 6 * k + 1 < L by omega) (by omega)) dL_law_137 ?_
  refine k_topi (y := xs (6 * k + 1)) (by rw [nI_clamp (by omega)]) ?_
  refine kc_i (Wc := u) (Wr := mdW Z h ad iv av) G (List.Perm.refl _) (krV 1 rfl (As := [.int (xs (6 * k + 1))]) (rest := []) (ci := 11) (CC := RX10) (T := TX10) (N := 14) C G (List.Perm.refl _) (K _) (gdV ml_L_13 im_X10_room se_X10_room ii_X10 co_X10_room) (by decide +kernel) ⟨Nat.le_of_ble_eq_true rfl, Nat.le_of_ble_eq_true rfl⟩ rfl q9 hq9 hl rfl (Nat.le_of_ble_eq_true rfl) ⟨by show cc + mc ≤ 600000; omega, by show cs + ms ≤ 7302250; omega⟩ dL_law_138) (fun r v H locs hp G => ?_)
  refine lv_aload_n hx hb dL_law_141 rfl (lv_at hl 1 rfl) ?_
  refine lv_aload_n hx hb dL_law_142 rfl (lv_at hl 3 rfl) ?_
  refine lv_iload_n hx hb dL_law_143 rfl (lv_at hl 0 rfl) ?_
  refine lv_iconst (v := 1) hx hb dL_law_144 (by decide) ?_
  refine lv_iadd hx hb dL_law_145 ?_
  refine k_topi (y := nI (6 * k + 1)) (nI_add _ 1) ?_
  refine va_sld C.1 C.2.1 hX hbl hbA G.2.2.2.1 (vp_in_nI (show 6 * k + 1 < L by omega) (by omega)) dL_law_146 ?_
  refine k_topi (y := xs (6 * k + 1)) (by rw [nI_clamp (by omega)]) ?_
  refine kc_i (Wc := mdW Z h ad iv av) (Wr := v) G List.perm_append_comm (krV 1 rfl (As := [.int (xs (6 * k + 1))]) (rest := [.int r]) (ci := 12) (CC := RX11) (T := TX11) (N := 61) C G List.perm_append_comm (Km _) (gdV ml_L_17 im_X11_room se_X11_room ii_X11 co_X11_room) (by decide +kernel) ⟨Nat.le_of_ble_eq_true rfl, Nat.le_of_ble_eq_true rfl⟩ rfl 0 rfl hl rfl (Nat.le_of_ble_eq_true rfl) ⟨by show cc + mc + 0 ≤ 600000; omega, by show cs + ms + 0 ≤ 7302250; omega⟩ dL_law_147) (fun r2 v2 H locs hp2 G => ?_)
  obtain ⟨he, iv2, av2, ob2, pc2, ps2, rfl, hV2, hb1, hb2⟩ := hH r v r2 v2 hp hp2
  refine lv_icmp_eq (tgt := 825) hx hb dL_law_150 (by decide) (fun c9 => ?_) (fun c9 => absurd he c9)
  exact kk v iv2 av2 ob2 pc2 ps2 _ _ H locs ls (G.perm List.perm_append_comm) hV2 (by show cc + mc + 0 + pc2 ≤ _; omega) (by show cs + ms + 0 + ps2 ≤ _; omega) hl
set_option maxRecDepth 100000 in
set_option maxHeartbeats 4000000 in
theorem law_tries {p : Program} {l : Launch} {e : Env} {s : State} {m : MethodId} {args : Array Value} {below : List Frame} {meth : Method} {c : Code} {Z : zT} {A : Nat → Prop} {Q : State → Prop} {b L k t h : Nat} {ad : Nat → Nat} {xs : Nat → Int32} {nm9 : String} {iv : ivT} {av : avT} {ob : List obT} {pc ps cc cs : Nat} {u : va_W} {H : Heap} {locs : List Loc} {ls : Array Slot} (C : cx p s m args meth c cL_law 4 (some .boolean) RL nm9) (hX : va_X b L xs s s.heap) (hbl : b < s.heap.size) (hbA : ¬ A b) (hL : L ≤ 3072) (hk : 6 * k + 6 ≤ L) (G : wd Z A s (u ++ mdW Z h ad iv av) H locs) (hV : clV Z t k iv av ob pc ps u) (hcc : cc + pc + 9 ≤ 600000) (hcs : cs + ps + 3945 ≤ 7302250) (hl : lv_has ls 4 [(3, .int (nI (6 * k))), (2, .ref h), (1, .ref t), (0, .ref b)]) (kk : lawK p l e s m args below meth c Z A Q b k t h ad pc ps cc cs) : W p l e room_1 s m args below meth c H locs cc cs Q (F0 m 155 ls []) := by
  have hx := C.1
  have hb := C.2.1
  obtain ⟨mc, ms, post, postM, K, Km, hm1, hm2, hH⟩ := op_tries (l := l) (h := h) (ad := ad) (by omega : k ≤ 512) hV (xs (6 * k + 1))
  obtain ⟨fs9, hmem⟩ := cl_mem hV
  obtain ⟨q9, hq9⟩ := List.getElem?_of_mem hmem
  refine lv_aload_n hx hb dL_law_155 rfl (lv_at hl 2 rfl) ?_
  refine lv_aload_n hx hb dL_law_156 rfl (lv_at hl 3 rfl) ?_
  refine lv_iload_n hx hb dL_law_157 rfl (lv_at hl 0 rfl) ?_
  refine lv_iconst (v := 1) hx hb dL_law_158 (by decide) ?_
  refine lv_iadd hx hb dL_law_159 ?_
  refine k_topi (y := nI (6 * k + 1)) (nI_add _ 1) ?_
  refine va_sld C.1 C.2.1 hX hbl hbA G.2.2.2.1 (vp_in_nI (show 6 * k + 1 < L by omega) (by omega)) dL_law_160 ?_
  refine k_topi (y := xs (6 * k + 1)) (by rw [nI_clamp (by omega)]) ?_
  refine kc_i (Wc := u) (Wr := mdW Z h ad iv av) G (List.Perm.refl _) (krV 1 rfl (As := [.int (xs (6 * k + 1))]) (rest := []) (ci := 11) (CC := RX10) (T := TX10) (N := 14) C G (List.Perm.refl _) (K _) (gdV ml_L_18 im_X10_tries se_X10_tries ii_X10 co_X10_tries) (by decide +kernel) ⟨Nat.le_of_ble_eq_true rfl, Nat.le_of_ble_eq_true rfl⟩ rfl q9 hq9 hl rfl (Nat.le_of_ble_eq_true rfl) ⟨by show cc + mc ≤ 600000; omega, by show cs + ms ≤ 7302250; omega⟩ dL_law_161) (fun r v H locs hp G => ?_)
  refine lv_aload_n hx hb dL_law_164 rfl (lv_at hl 1 rfl) ?_
  refine lv_aload_n hx hb dL_law_165 rfl (lv_at hl 3 rfl) ?_
  refine lv_iload_n hx hb dL_law_166 rfl (lv_at hl 0 rfl) ?_
  refine lv_iconst (v := 1) hx hb dL_law_167 (by decide) ?_
  refine lv_iadd hx hb dL_law_168 ?_
  refine k_topi (y := nI (6 * k + 1)) (nI_add _ 1) ?_
  refine va_sld C.1 C.2.1 hX hbl hbA G.2.2.2.1 (vp_in_nI (show 6 * k + 1 < L by omega) (by omega)) dL_law_169 ?_
  refine k_topi (y := xs (6 * k + 1)) (by rw [nI_clamp (by omega)]) ?_
  refine kc_i (Wc := mdW Z h ad iv av) (Wr := v) G List.perm_append_comm (krV 1 rfl (As := [.int (xs (6 * k + 1))]) (rest := [.int r]) (ci := 12) (CC := RX11) (T := TX11) (N := 61) C G List.perm_append_comm (Km _) (gdV ml_L_21 im_X11_tries se_X11_tries ii_X11 co_X11_tries) (by decide +kernel) ⟨Nat.le_of_ble_eq_true rfl, Nat.le_of_ble_eq_true rfl⟩ rfl 0 rfl hl rfl (Nat.le_of_ble_eq_true rfl) ⟨by show cc + mc + 0 ≤ 600000; omega, by show cs + ms + 0 ≤ 7302250; omega⟩ dL_law_170) (fun r2 v2 H locs hp2 G => ?_)
  obtain ⟨he, iv2, av2, ob2, pc2, ps2, rfl, hV2, hb1, hb2⟩ := hH r v r2 v2 hp hp2
  refine lv_icmp_eq (tgt := 825) hx hb dL_law_173 (by decide) (fun c9 => ?_) (fun c9 => absurd he c9)
  exact kk v iv2 av2 ob2 pc2 ps2 _ _ H locs ls (G.perm List.perm_append_comm) hV2 (by show cc + mc + 0 + pc2 ≤ _; omega) (by show cs + ms + 0 + ps2 ≤ _; omega) hl
set_option maxRecDepth 100000 in
set_option maxHeartbeats 4000000 in
theorem law_append {p : Program} {l : Launch} {e : Env} {s : State} {m : MethodId} {args : Array Value} {below : List Frame} {meth : Method} {c : Code} {Z : zT} {A : Nat → Prop} {Q : State → Prop} {b L k t h : Nat} {ad : Nat → Nat} {xs : Nat → Int32} {nm9 : String} {iv : ivT} {av : avT} {ob : List obT} {pc ps cc cs : Nat} {u : va_W} {H : Heap} {locs : List Loc} {ls : Array Slot} (C : cx p s m args meth c cL_law 4 (some .boolean) RL nm9) (hX : va_X b L xs s s.heap) (hbl : b < s.heap.size) (hbA : ¬ A b) (hL : L ≤ 3072) (hk : 6 * k + 6 ≤ L) (G : wd Z A s (u ++ mdW Z h ad iv av) H locs) (hV : clV Z t k iv av ob pc ps u) (hcc : cc + pc + 9 ≤ 600000) (hcs : cs + ps + 3945 ≤ 7302250) (hl : lv_has ls 4 [(3, .int (nI (6 * k))), (2, .ref h), (1, .ref t), (0, .ref b)]) (kk : lawK p l e s m args below meth c Z A Q b k t h ad pc ps cc cs) : W p l e room_1 s m args below meth c H locs cc cs Q (F0 m 178 ls []) := by
  have hx := C.1
  have hb := C.2.1
  obtain ⟨mc, ms, post, postM, K, Km, hm1, hm2, hH⟩ := op_append (l := l) (h := h) (ad := ad) (by omega : k ≤ 512) hV (xs (6 * k + 1))
  obtain ⟨fs9, hmem⟩ := cl_mem hV
  obtain ⟨q9, hq9⟩ := List.getElem?_of_mem hmem
  refine lv_aload_n hx hb dL_law_178 rfl (lv_at hl 2 rfl) ?_
  refine lv_aload_n hx hb dL_law_179 rfl (lv_at hl 3 rfl) ?_
  refine lv_iload_n hx hb dL_law_180 rfl (lv_at hl 0 rfl) ?_
  refine lv_iconst (v := 1) hx hb dL_law_181 (by decide) ?_
  refine lv_iadd hx hb dL_law_182 ?_
  refine k_topi (y := nI (6 * k + 1)) (nI_add _ 1) ?_
  refine va_sld C.1 C.2.1 hX hbl hbA G.2.2.2.1 (vp_in_nI (show 6 * k + 1 < L by omega) (by omega)) dL_law_183 ?_
  refine k_topi (y := xs (6 * k + 1)) (by rw [nI_clamp (by omega)]) ?_
  refine kc_i (Wc := u) (Wr := mdW Z h ad iv av) G (List.Perm.refl _) (krV 1 rfl (As := [.int (xs (6 * k + 1))]) (rest := []) (ci := 11) (CC := RX10) (T := TX10) (N := 14) C G (List.Perm.refl _) (K _) (gdV ml_L_22 im_X10_append se_X10_append ii_X10 co_X10_append) (by decide +kernel) ⟨Nat.le_of_ble_eq_true rfl, Nat.le_of_ble_eq_true rfl⟩ rfl q9 hq9 hl rfl (Nat.le_of_ble_eq_true rfl) ⟨by show cc + mc ≤ 600000; omega, by show cs + ms ≤ 7302250; omega⟩ dL_law_184) (fun r v H locs hp G => ?_)
  refine lv_aload_n hx hb dL_law_187 rfl (lv_at hl 1 rfl) ?_
  refine lv_aload_n hx hb dL_law_188 rfl (lv_at hl 3 rfl) ?_
  refine lv_iload_n hx hb dL_law_189 rfl (lv_at hl 0 rfl) ?_
  refine lv_iconst (v := 1) hx hb dL_law_190 (by decide) ?_
  refine lv_iadd hx hb dL_law_191 ?_
  refine k_topi (y := nI (6 * k + 1)) (nI_add _ 1) ?_
  refine va_sld C.1 C.2.1 hX hbl hbA G.2.2.2.1 (vp_in_nI (show 6 * k + 1 < L by omega) (by omega)) dL_law_192 ?_
  refine k_topi (y := xs (6 * k + 1)) (by rw [nI_clamp (by omega)]) ?_
  refine kc_i (Wc := mdW Z h ad iv av) (Wr := v) G List.perm_append_comm (krV 1 rfl (As := [.int (xs (6 * k + 1))]) (rest := [.int r]) (ci := 12) (CC := RX11) (T := TX11) (N := 61) C G List.perm_append_comm (Km _) (gdV ml_L_26 im_X11_append se_X11_append ii_X11 co_X11_append) (by decide +kernel) ⟨Nat.le_of_ble_eq_true rfl, Nat.le_of_ble_eq_true rfl⟩ rfl 0 rfl hl rfl (Nat.le_of_ble_eq_true rfl) ⟨by show cc + mc + 0 ≤ 600000; omega, by show cs + ms + 0 ≤ 7302250; omega⟩ dL_law_193) (fun r2 v2 H locs hp2 G => ?_)
  obtain ⟨he, iv2, av2, ob2, pc2, ps2, rfl, hV2, hb1, hb2⟩ := hH r v r2 v2 hp hp2
  refine lv_icmp_eq (tgt := 825) hx hb dL_law_196 (by decide) (fun c9 => ?_) (fun c9 => absurd he c9)
  exact kk v iv2 av2 ob2 pc2 ps2 _ _ H locs ls (G.perm List.perm_append_comm) hV2 (by show cc + mc + 0 + pc2 ≤ _; omega) (by show cs + ms + 0 + ps2 ≤ _; omega) hl
set_option maxRecDepth 100000 in
set_option maxHeartbeats 4000000 in
theorem law_row {p : Program} {l : Launch} {e : Env} {s : State} {m : MethodId} {args : Array Value} {below : List Frame} {meth : Method} {c : Code} {Z : zT} {A : Nat → Prop} {Q : State → Prop} {b L k t h : Nat} {ad : Nat → Nat} {xs : Nat → Int32} {nm9 : String} {iv : ivT} {av : avT} {ob : List obT} {pc ps cc cs : Nat} {u : va_W} {H : Heap} {locs : List Loc} {ls : Array Slot} (C : cx p s m args meth c cL_law 4 (some .boolean) RL nm9) (hX : va_X b L xs s s.heap) (hbl : b < s.heap.size) (hbA : ¬ A b) (hL : L ≤ 3072) (hk : 6 * k + 6 ≤ L) (G : wd Z A s (u ++ mdW Z h ad iv av) H locs) (hV : clV Z t k iv av ob pc ps u) (hcc : cc + pc + 9 ≤ 600000) (hcs : cs + ps + 3945 ≤ 7302250) (hl : lv_has ls 4 [(3, .int (nI (6 * k))), (2, .ref h), (1, .ref t), (0, .ref b)]) (kk : lawK p l e s m args below meth c Z A Q b k t h ad pc ps cc cs) : W p l e room_1 s m args below meth c H locs cc cs Q (F0 m 201 ls []) := by
  have hx := C.1
  have hb := C.2.1
  obtain ⟨mc, ms, post, postM, K, Km, hm1, hm2, hH⟩ := op_row (l := l) (h := h) (ad := ad) (by omega : k ≤ 512) hV (xs (6 * k + 1)) (xs (6 * k + 2)) (xs (6 * k + 3)) (xs (6 * k + 4)) (xs (6 * k + 5))
  obtain ⟨fs9, hmem⟩ := cl_mem hV
  obtain ⟨q9, hq9⟩ := List.getElem?_of_mem hmem
  refine lv_aload_n hx hb dL_law_201 rfl (lv_at hl 2 rfl) ?_
  refine lv_aload_n hx hb dL_law_202 rfl (lv_at hl 3 rfl) ?_
  refine lv_iload_n hx hb dL_law_203 rfl (lv_at hl 0 rfl) ?_
  refine lv_iconst (v := 1) hx hb dL_law_204 (by decide) ?_
  refine lv_iadd hx hb dL_law_205 ?_
  refine k_topi (y := nI (6 * k + 1)) (nI_add _ 1) ?_
  refine va_sld C.1 C.2.1 hX hbl hbA G.2.2.2.1 (vp_in_nI (show 6 * k + 1 < L by omega) (by omega)) dL_law_206 ?_
  refine k_topi (y := xs (6 * k + 1)) (by rw [nI_clamp (by omega)]) ?_
  refine lv_aload_n hx hb dL_law_207 rfl (lv_at hl 3 rfl) ?_
  refine lv_iload_n hx hb dL_law_208 rfl (lv_at hl 0 rfl) ?_
  refine lv_iconst (v := 2) hx hb dL_law_209 (by decide) ?_
  refine lv_iadd hx hb dL_law_210 ?_
  refine k_topi (y := nI (6 * k + 2)) (nI_add _ 2) ?_
  refine va_sld C.1 C.2.1 hX hbl hbA G.2.2.2.1 (vp_in_nI (show 6 * k + 2 < L by omega) (by omega)) dL_law_211 ?_
  refine k_topi (y := xs (6 * k + 2)) (by rw [nI_clamp (by omega)]) ?_
  refine lv_aload_n hx hb dL_law_212 rfl (lv_at hl 3 rfl) ?_
  refine lv_iload_n hx hb dL_law_213 rfl (lv_at hl 0 rfl) ?_
  refine lv_iconst (v := 3) hx hb dL_law_214 (by decide) ?_
  refine lv_iadd hx hb dL_law_215 ?_
  refine k_topi (y := nI (6 * k + 3)) (nI_add _ 3) ?_
  refine va_sld C.1 C.2.1 hX hbl hbA G.2.2.2.1 (vp_in_nI (show 6 * k + 3 < L by omega) (by omega)) dL_law_216 ?_
  refine k_topi (y := xs (6 * k + 3)) (by rw [nI_clamp (by omega)]) ?_
  refine lv_aload_n hx hb dL_law_217 rfl (lv_at hl 3 rfl) ?_
  refine lv_iload_n hx hb dL_law_218 rfl (lv_at hl 0 rfl) ?_
  refine lv_iconst (v := 4) hx hb dL_law_219 (by decide) ?_
  refine lv_iadd hx hb dL_law_220 ?_
  refine k_topi (y := nI (6 * k + 4)) (nI_add _ 4) ?_
  refine va_sld C.1 C.2.1 hX hbl hbA G.2.2.2.1 (vp_in_nI (show 6 * k + 4 < L by omega) (by omega)) dL_law_221 ?_
  refine k_topi (y := xs (6 * k + 4)) (by rw [nI_clamp (by omega)]) ?_
  refine lv_aload_n hx hb dL_law_222 rfl (lv_at hl 3 rfl) ?_
  refine lv_iload_n hx hb dL_law_223 rfl (lv_at hl 0 rfl) ?_
  refine lv_iconst (v := 5) hx hb dL_law_224 (by decide) ?_
  refine lv_iadd hx hb dL_law_225 ?_
  refine k_topi (y := nI (6 * k + 5)) (nI_add _ 5) ?_
  refine va_sld C.1 C.2.1 hX hbl hbA G.2.2.2.1 (vp_in_nI (show 6 * k + 5 < L by omega) (by omega)) dL_law_226 ?_
  refine k_topi (y := xs (6 * k + 5)) (by rw [nI_clamp (by omega)]) ?_
  refine kc_i (Wc := u) (Wr := mdW Z h ad iv av) G (List.Perm.refl _) (krV 5 rfl (As := [.int (xs (6 * k + 1)), .int (xs (6 * k + 2)), .int (xs (6 * k + 3)), .int (xs (6 * k + 4)), .int (xs (6 * k + 5))]) (rest := []) (ci := 11) (CC := RX10) (T := TX10) (N := 14) C G (List.Perm.refl _) (K _) (gdV ml_L_27 im_X10_row se_X10_row ii_X10 co_X10_row) (by decide +kernel) ⟨Nat.le_of_ble_eq_true rfl, Nat.le_of_ble_eq_true rfl⟩ rfl q9 hq9 hl rfl (Nat.le_of_ble_eq_true rfl) ⟨by show cc + mc ≤ 600000; omega, by show cs + ms ≤ 7302250; omega⟩ dL_law_227) (fun r v H locs hp G => ?_)
  refine lv_aload_n hx hb dL_law_230 rfl (lv_at hl 1 rfl) ?_
  refine lv_aload_n hx hb dL_law_231 rfl (lv_at hl 3 rfl) ?_
  refine lv_iload_n hx hb dL_law_232 rfl (lv_at hl 0 rfl) ?_
  refine lv_iconst (v := 1) hx hb dL_law_233 (by decide) ?_
  refine lv_iadd hx hb dL_law_234 ?_
  refine k_topi (y := nI (6 * k + 1)) (nI_add _ 1) ?_
  refine va_sld C.1 C.2.1 hX hbl hbA G.2.2.2.1 (vp_in_nI (show 6 * k + 1 < L by omega) (by omega)) dL_law_235 ?_
  refine k_topi (y := xs (6 * k + 1)) (by rw [nI_clamp (by omega)]) ?_
  refine lv_aload_n hx hb dL_law_236 rfl (lv_at hl 3 rfl) ?_
  refine lv_iload_n hx hb dL_law_237 rfl (lv_at hl 0 rfl) ?_
  refine lv_iconst (v := 2) hx hb dL_law_238 (by decide) ?_
  refine lv_iadd hx hb dL_law_239 ?_
  refine k_topi (y := nI (6 * k + 2)) (nI_add _ 2) ?_
  refine va_sld C.1 C.2.1 hX hbl hbA G.2.2.2.1 (vp_in_nI (show 6 * k + 2 < L by omega) (by omega)) dL_law_240 ?_
  refine k_topi (y := xs (6 * k + 2)) (by rw [nI_clamp (by omega)]) ?_
  refine lv_aload_n hx hb dL_law_241 rfl (lv_at hl 3 rfl) ?_
  refine lv_iload_n hx hb dL_law_242 rfl (lv_at hl 0 rfl) ?_
  refine lv_iconst (v := 3) hx hb dL_law_243 (by decide) ?_
  refine lv_iadd hx hb dL_law_244 ?_
  refine k_topi (y := nI (6 * k + 3)) (nI_add _ 3) ?_
  refine va_sld C.1 C.2.1 hX hbl hbA G.2.2.2.1 (vp_in_nI (show 6 * k + 3 < L by omega) (by omega)) dL_law_245 ?_
  refine k_topi (y := xs (6 * k + 3)) (by rw [nI_clamp (by omega)]) ?_
  refine lv_aload_n hx hb dL_law_246 rfl (lv_at hl 3 rfl) ?_
  refine lv_iload_n hx hb dL_law_247 rfl (lv_at hl 0 rfl) ?_
  refine lv_iconst (v := 4) hx hb dL_law_248 (by decide) ?_
  refine lv_iadd hx hb dL_law_249 ?_
  refine k_topi (y := nI (6 * k + 4)) (nI_add _ 4) ?_
  refine va_sld C.1 C.2.1 hX hbl hbA G.2.2.2.1 (vp_in_nI (show 6 * k + 4 < L by omega) (by omega)) dL_law_250 ?_
  refine k_topi (y := xs (6 * k + 4)) (by rw [nI_clamp (by omega)]) ?_
  refine lv_aload_n hx hb dL_law_251 rfl (lv_at hl 3 rfl) ?_
  refine lv_iload_n hx hb dL_law_252 rfl (lv_at hl 0 rfl) ?_
  refine lv_iconst (v := 5) hx hb dL_law_253 (by decide) ?_
  refine lv_iadd hx hb dL_law_254 ?_
  refine k_topi (y := nI (6 * k + 5)) (nI_add _ 5) ?_
  refine va_sld C.1 C.2.1 hX hbl hbA G.2.2.2.1 (vp_in_nI (show 6 * k + 5 < L by omega) (by omega)) dL_law_255 ?_
  refine k_topi (y := xs (6 * k + 5)) (by rw [nI_clamp (by omega)]) ?_
  refine kc_i (Wc := mdW Z h ad iv av) (Wr := v) G List.perm_append_comm (krV 5 rfl (As := [.int (xs (6 * k + 1)), .int (xs (6 * k + 2)), .int (xs (6 * k + 3)), .int (xs (6 * k + 4)), .int (xs (6 * k + 5))]) (rest := [.int r]) (ci := 12) (CC := RX11) (T := TX11) (N := 61) C G List.perm_append_comm (Km _) (gdV ml_L_31 im_X11_row se_X11_row ii_X11 co_X11_row) (by decide +kernel) ⟨Nat.le_of_ble_eq_true rfl, Nat.le_of_ble_eq_true rfl⟩ rfl 0 rfl hl rfl (Nat.le_of_ble_eq_true rfl) ⟨by show cc + mc + 0 ≤ 600000; omega, by show cs + ms + 0 ≤ 7302250; omega⟩ dL_law_256) (fun r2 v2 H locs hp2 G => ?_)
  obtain ⟨he, iv2, av2, ob2, pc2, ps2, rfl, hV2, hb1, hb2⟩ := hH r v r2 v2 hp hp2
  refine lv_icmp_eq (tgt := 825) hx hb dL_law_259 (by decide) (fun c9 => ?_) (fun c9 => absurd he c9)
  exact kk v iv2 av2 ob2 pc2 ps2 _ _ H locs ls (G.perm List.perm_append_comm) hV2 (by show cc + mc + 0 + pc2 ≤ _; omega) (by show cs + ms + 0 + ps2 ≤ _; omega) hl
set_option maxRecDepth 100000 in
set_option maxHeartbeats 4000000 in
theorem law_delete {p : Program} {l : Launch} {e : Env} {s : State} {m : MethodId} {args : Array Value} {below : List Frame} {meth : Method} {c : Code} {Z : zT} {A : Nat → Prop} {Q : State → Prop} {b L k t h : Nat} {ad : Nat → Nat} {xs : Nat → Int32} {nm9 : String} {iv : ivT} {av : avT} {ob : List obT} {pc ps cc cs : Nat} {u : va_W} {H : Heap} {locs : List Loc} {ls : Array Slot} (C : cx p s m args meth c cL_law 4 (some .boolean) RL nm9) (hX : va_X b L xs s s.heap) (hbl : b < s.heap.size) (hbA : ¬ A b) (hL : L ≤ 3072) (hk : 6 * k + 6 ≤ L) (G : wd Z A s (u ++ mdW Z h ad iv av) H locs) (hV : clV Z t k iv av ob pc ps u) (hcc : cc + pc + 9 ≤ 600000) (hcs : cs + ps + 3945 ≤ 7302250) (hl : lv_has ls 4 [(3, .int (nI (6 * k))), (2, .ref h), (1, .ref t), (0, .ref b)]) (kk : lawK p l e s m args below meth c Z A Q b k t h ad pc ps cc cs) : W p l e room_1 s m args below meth c H locs cc cs Q (F0 m 264 ls []) := by
  have hx := C.1
  have hb := C.2.1
  obtain ⟨mc, ms, post, postM, K, Km, hm1, hm2, hH⟩ := op_delete (l := l) (h := h) (ad := ad) (by omega : k ≤ 512) hV (xs (6 * k + 1)) (xs (6 * k + 2)) (xs (6 * k + 3)) (xs (6 * k + 4)) (xs (6 * k + 5))
  obtain ⟨fs9, hmem⟩ := cl_mem hV
  obtain ⟨q9, hq9⟩ := List.getElem?_of_mem hmem
  refine lv_aload_n hx hb dL_law_264 rfl (lv_at hl 2 rfl) ?_
  refine lv_aload_n hx hb dL_law_265 rfl (lv_at hl 3 rfl) ?_
  refine lv_iload_n hx hb dL_law_266 rfl (lv_at hl 0 rfl) ?_
  refine lv_iconst (v := 1) hx hb dL_law_267 (by decide) ?_
  refine lv_iadd hx hb dL_law_268 ?_
  refine k_topi (y := nI (6 * k + 1)) (nI_add _ 1) ?_
  refine va_sld C.1 C.2.1 hX hbl hbA G.2.2.2.1 (vp_in_nI (show 6 * k + 1 < L by omega) (by omega)) dL_law_269 ?_
  refine k_topi (y := xs (6 * k + 1)) (by rw [nI_clamp (by omega)]) ?_
  refine lv_aload_n hx hb dL_law_270 rfl (lv_at hl 3 rfl) ?_
  refine lv_iload_n hx hb dL_law_271 rfl (lv_at hl 0 rfl) ?_
  refine lv_iconst (v := 2) hx hb dL_law_272 (by decide) ?_
  refine lv_iadd hx hb dL_law_273 ?_
  refine k_topi (y := nI (6 * k + 2)) (nI_add _ 2) ?_
  refine va_sld C.1 C.2.1 hX hbl hbA G.2.2.2.1 (vp_in_nI (show 6 * k + 2 < L by omega) (by omega)) dL_law_274 ?_
  refine k_topi (y := xs (6 * k + 2)) (by rw [nI_clamp (by omega)]) ?_
  refine lv_aload_n hx hb dL_law_275 rfl (lv_at hl 3 rfl) ?_
  refine lv_iload_n hx hb dL_law_276 rfl (lv_at hl 0 rfl) ?_
  refine lv_iconst (v := 3) hx hb dL_law_277 (by decide) ?_
  refine lv_iadd hx hb dL_law_278 ?_
  refine k_topi (y := nI (6 * k + 3)) (nI_add _ 3) ?_
  refine va_sld C.1 C.2.1 hX hbl hbA G.2.2.2.1 (vp_in_nI (show 6 * k + 3 < L by omega) (by omega)) dL_law_279 ?_
  refine k_topi (y := xs (6 * k + 3)) (by rw [nI_clamp (by omega)]) ?_
  refine lv_aload_n hx hb dL_law_280 rfl (lv_at hl 3 rfl) ?_
  refine lv_iload_n hx hb dL_law_281 rfl (lv_at hl 0 rfl) ?_
  refine lv_iconst (v := 4) hx hb dL_law_282 (by decide) ?_
  refine lv_iadd hx hb dL_law_283 ?_
  refine k_topi (y := nI (6 * k + 4)) (nI_add _ 4) ?_
  refine va_sld C.1 C.2.1 hX hbl hbA G.2.2.2.1 (vp_in_nI (show 6 * k + 4 < L by omega) (by omega)) dL_law_284 ?_
  refine k_topi (y := xs (6 * k + 4)) (by rw [nI_clamp (by omega)]) ?_
  refine lv_aload_n hx hb dL_law_285 rfl (lv_at hl 3 rfl) ?_
  refine lv_iload_n hx hb dL_law_286 rfl (lv_at hl 0 rfl) ?_
  refine lv_iconst (v := 5) hx hb dL_law_287 (by decide) ?_
  refine lv_iadd hx hb dL_law_288 ?_
  refine k_topi (y := nI (6 * k + 5)) (nI_add _ 5) ?_
  refine va_sld C.1 C.2.1 hX hbl hbA G.2.2.2.1 (vp_in_nI (show 6 * k + 5 < L by omega) (by omega)) dL_law_289 ?_
  refine k_topi (y := xs (6 * k + 5)) (by rw [nI_clamp (by omega)]) ?_
  refine kc_i (Wc := u) (Wr := mdW Z h ad iv av) G (List.Perm.refl _) (krV 5 rfl (As := [.int (xs (6 * k + 1)), .int (xs (6 * k + 2)), .int (xs (6 * k + 3)), .int (xs (6 * k + 4)), .int (xs (6 * k + 5))]) (rest := []) (ci := 11) (CC := RX10) (T := TX10) (N := 14) C G (List.Perm.refl _) (K _) (gdV ml_L_32 im_X10_delete se_X10_delete ii_X10 co_X10_delete) (by decide +kernel) ⟨Nat.le_of_ble_eq_true rfl, Nat.le_of_ble_eq_true rfl⟩ rfl q9 hq9 hl rfl (Nat.le_of_ble_eq_true rfl) ⟨by show cc + mc ≤ 600000; omega, by show cs + ms ≤ 7302250; omega⟩ dL_law_290) (fun r v H locs hp G => ?_)
  refine lv_aload_n hx hb dL_law_293 rfl (lv_at hl 1 rfl) ?_
  refine lv_aload_n hx hb dL_law_294 rfl (lv_at hl 3 rfl) ?_
  refine lv_iload_n hx hb dL_law_295 rfl (lv_at hl 0 rfl) ?_
  refine lv_iconst (v := 1) hx hb dL_law_296 (by decide) ?_
  refine lv_iadd hx hb dL_law_297 ?_
  refine k_topi (y := nI (6 * k + 1)) (nI_add _ 1) ?_
  refine va_sld C.1 C.2.1 hX hbl hbA G.2.2.2.1 (vp_in_nI (show 6 * k + 1 < L by omega) (by omega)) dL_law_298 ?_
  refine k_topi (y := xs (6 * k + 1)) (by rw [nI_clamp (by omega)]) ?_
  refine lv_aload_n hx hb dL_law_299 rfl (lv_at hl 3 rfl) ?_
  refine lv_iload_n hx hb dL_law_300 rfl (lv_at hl 0 rfl) ?_
  refine lv_iconst (v := 2) hx hb dL_law_301 (by decide) ?_
  refine lv_iadd hx hb dL_law_302 ?_
  refine k_topi (y := nI (6 * k + 2)) (nI_add _ 2) ?_
  refine va_sld C.1 C.2.1 hX hbl hbA G.2.2.2.1 (vp_in_nI (show 6 * k + 2 < L by omega) (by omega)) dL_law_303 ?_
  refine k_topi (y := xs (6 * k + 2)) (by rw [nI_clamp (by omega)]) ?_
  refine lv_aload_n hx hb dL_law_304 rfl (lv_at hl 3 rfl) ?_
  refine lv_iload_n hx hb dL_law_305 rfl (lv_at hl 0 rfl) ?_
  refine lv_iconst (v := 3) hx hb dL_law_306 (by decide) ?_
  refine lv_iadd hx hb dL_law_307 ?_
  refine k_topi (y := nI (6 * k + 3)) (nI_add _ 3) ?_
  refine va_sld C.1 C.2.1 hX hbl hbA G.2.2.2.1 (vp_in_nI (show 6 * k + 3 < L by omega) (by omega)) dL_law_308 ?_
  refine k_topi (y := xs (6 * k + 3)) (by rw [nI_clamp (by omega)]) ?_
  refine lv_aload_n hx hb dL_law_309 rfl (lv_at hl 3 rfl) ?_
  refine lv_iload_n hx hb dL_law_310 rfl (lv_at hl 0 rfl) ?_
  refine lv_iconst (v := 4) hx hb dL_law_311 (by decide) ?_
  refine lv_iadd hx hb dL_law_312 ?_
  refine k_topi (y := nI (6 * k + 4)) (nI_add _ 4) ?_
  refine va_sld C.1 C.2.1 hX hbl hbA G.2.2.2.1 (vp_in_nI (show 6 * k + 4 < L by omega) (by omega)) dL_law_313 ?_
  refine k_topi (y := xs (6 * k + 4)) (by rw [nI_clamp (by omega)]) ?_
  refine lv_aload_n hx hb dL_law_314 rfl (lv_at hl 3 rfl) ?_
  refine lv_iload_n hx hb dL_law_315 rfl (lv_at hl 0 rfl) ?_
  refine lv_iconst (v := 5) hx hb dL_law_316 (by decide) ?_
  refine lv_iadd hx hb dL_law_317 ?_
  refine k_topi (y := nI (6 * k + 5)) (nI_add _ 5) ?_
  refine va_sld C.1 C.2.1 hX hbl hbA G.2.2.2.1 (vp_in_nI (show 6 * k + 5 < L by omega) (by omega)) dL_law_318 ?_
  refine k_topi (y := xs (6 * k + 5)) (by rw [nI_clamp (by omega)]) ?_
  refine kc_i (Wc := mdW Z h ad iv av) (Wr := v) G List.perm_append_comm (krV 5 rfl (As := [.int (xs (6 * k + 1)), .int (xs (6 * k + 2)), .int (xs (6 * k + 3)), .int (xs (6 * k + 4)), .int (xs (6 * k + 5))]) (rest := [.int r]) (ci := 12) (CC := RX11) (T := TX11) (N := 61) C G List.perm_append_comm (Km _) (gdV ml_L_36 im_X11_delete se_X11_delete ii_X11 co_X11_delete) (by decide +kernel) ⟨Nat.le_of_ble_eq_true rfl, Nat.le_of_ble_eq_true rfl⟩ rfl 0 rfl hl rfl (Nat.le_of_ble_eq_true rfl) ⟨by show cc + mc + 0 ≤ 600000; omega, by show cs + ms + 0 ≤ 7302250; omega⟩ dL_law_319) (fun r2 v2 H locs hp2 G => ?_)
  obtain ⟨he, iv2, av2, ob2, pc2, ps2, rfl, hV2, hb1, hb2⟩ := hH r v r2 v2 hp hp2
  refine lv_icmp_eq (tgt := 825) hx hb dL_law_322 (by decide) (fun c9 => ?_) (fun c9 => absurd he c9)
  exact kk v iv2 av2 ob2 pc2 ps2 _ _ H locs ls (G.perm List.perm_append_comm) hV2 (by show cc + mc + 0 + pc2 ≤ _; omega) (by show cs + ms + 0 + ps2 ≤ _; omega) hl
set_option maxRecDepth 100000 in
set_option maxHeartbeats 4000000 in
theorem law_compact {p : Program} {l : Launch} {e : Env} {s : State} {m : MethodId} {args : Array Value} {below : List Frame} {meth : Method} {c : Code} {Z : zT} {A : Nat → Prop} {Q : State → Prop} {b L k t h : Nat} {ad : Nat → Nat} {xs : Nat → Int32} {nm9 : String} {iv : ivT} {av : avT} {ob : List obT} {pc ps cc cs : Nat} {u : va_W} {H : Heap} {locs : List Loc} {ls : Array Slot} (C : cx p s m args meth c cL_law 4 (some .boolean) RL nm9) (hX : va_X b L xs s s.heap) (hbl : b < s.heap.size) (hbA : ¬ A b) (hL : L ≤ 3072) (hk : 6 * k + 6 ≤ L) (G : wd Z A s (u ++ mdW Z h ad iv av) H locs) (hV : clV Z t k iv av ob pc ps u) (hcc : cc + pc + 9 ≤ 600000) (hcs : cs + ps + 3945 ≤ 7302250) (hl : lv_has ls 4 [(3, .int (nI (6 * k))), (2, .ref h), (1, .ref t), (0, .ref b)]) (kk : lawK p l e s m args below meth c Z A Q b k t h ad pc ps cc cs) : W p l e room_1 s m args below meth c H locs cc cs Q (F0 m 327 ls []) := by
  have hx := C.1
  have hb := C.2.1
  obtain ⟨mc, ms, post, postM, K, Km, hm1, hm2, hH⟩ := op_compact (l := l) (h := h) (ad := ad) (by omega : k ≤ 512) hV (xs (6 * k + 1)) (xs (6 * k + 2))
  obtain ⟨fs9, hmem⟩ := cl_mem hV
  obtain ⟨q9, hq9⟩ := List.getElem?_of_mem hmem
  refine lv_aload_n hx hb dL_law_327 rfl (lv_at hl 2 rfl) ?_
  refine lv_aload_n hx hb dL_law_328 rfl (lv_at hl 3 rfl) ?_
  refine lv_iload_n hx hb dL_law_329 rfl (lv_at hl 0 rfl) ?_
  refine lv_iconst (v := 1) hx hb dL_law_330 (by decide) ?_
  refine lv_iadd hx hb dL_law_331 ?_
  refine k_topi (y := nI (6 * k + 1)) (nI_add _ 1) ?_
  refine va_sld C.1 C.2.1 hX hbl hbA G.2.2.2.1 (vp_in_nI (show 6 * k + 1 < L by omega) (by omega)) dL_law_332 ?_
  refine k_topi (y := xs (6 * k + 1)) (by rw [nI_clamp (by omega)]) ?_
  refine lv_aload_n hx hb dL_law_333 rfl (lv_at hl 3 rfl) ?_
  refine lv_iload_n hx hb dL_law_334 rfl (lv_at hl 0 rfl) ?_
  refine lv_iconst (v := 2) hx hb dL_law_335 (by decide) ?_
  refine lv_iadd hx hb dL_law_336 ?_
  refine k_topi (y := nI (6 * k + 2)) (nI_add _ 2) ?_
  refine va_sld C.1 C.2.1 hX hbl hbA G.2.2.2.1 (vp_in_nI (show 6 * k + 2 < L by omega) (by omega)) dL_law_337 ?_
  refine k_topi (y := xs (6 * k + 2)) (by rw [nI_clamp (by omega)]) ?_
  refine kc_i (Wc := u) (Wr := mdW Z h ad iv av) G (List.Perm.refl _) (krV 2 rfl (As := [.int (xs (6 * k + 1)), .int (xs (6 * k + 2))]) (rest := []) (ci := 11) (CC := RX10) (T := TX10) (N := 14) C G (List.Perm.refl _) (K _) (gdV ml_L_37 im_X10_compact se_X10_compact ii_X10 co_X10_compact) (by decide +kernel) ⟨Nat.le_of_ble_eq_true rfl, Nat.le_of_ble_eq_true rfl⟩ rfl q9 hq9 hl rfl (Nat.le_of_ble_eq_true rfl) ⟨by show cc + mc ≤ 600000; omega, by show cs + ms ≤ 7302250; omega⟩ dL_law_338) (fun r v H locs hp G => ?_)
  refine lv_aload_n hx hb dL_law_341 rfl (lv_at hl 1 rfl) ?_
  refine lv_aload_n hx hb dL_law_342 rfl (lv_at hl 3 rfl) ?_
  refine lv_iload_n hx hb dL_law_343 rfl (lv_at hl 0 rfl) ?_
  refine lv_iconst (v := 1) hx hb dL_law_344 (by decide) ?_
  refine lv_iadd hx hb dL_law_345 ?_
  refine k_topi (y := nI (6 * k + 1)) (nI_add _ 1) ?_
  refine va_sld C.1 C.2.1 hX hbl hbA G.2.2.2.1 (vp_in_nI (show 6 * k + 1 < L by omega) (by omega)) dL_law_346 ?_
  refine k_topi (y := xs (6 * k + 1)) (by rw [nI_clamp (by omega)]) ?_
  refine lv_aload_n hx hb dL_law_347 rfl (lv_at hl 3 rfl) ?_
  refine lv_iload_n hx hb dL_law_348 rfl (lv_at hl 0 rfl) ?_
  refine lv_iconst (v := 2) hx hb dL_law_349 (by decide) ?_
  refine lv_iadd hx hb dL_law_350 ?_
  refine k_topi (y := nI (6 * k + 2)) (nI_add _ 2) ?_
  refine va_sld C.1 C.2.1 hX hbl hbA G.2.2.2.1 (vp_in_nI (show 6 * k + 2 < L by omega) (by omega)) dL_law_351 ?_
  refine k_topi (y := xs (6 * k + 2)) (by rw [nI_clamp (by omega)]) ?_
  refine kc_i (Wc := mdW Z h ad iv av) (Wr := v) G List.perm_append_comm (krV 2 rfl (As := [.int (xs (6 * k + 1)), .int (xs (6 * k + 2))]) (rest := [.int r]) (ci := 12) (CC := RX11) (T := TX11) (N := 61) C G List.perm_append_comm (Km _) (gdV ml_L_41 im_X11_compact se_X11_compact ii_X11 co_X11_compact) (by decide +kernel) ⟨Nat.le_of_ble_eq_true rfl, Nat.le_of_ble_eq_true rfl⟩ rfl 0 rfl hl rfl (Nat.le_of_ble_eq_true rfl) ⟨by show cc + mc + 0 ≤ 600000; omega, by show cs + ms + 0 ≤ 7302250; omega⟩ dL_law_352) (fun r2 v2 H locs hp2 G => ?_)
  obtain ⟨he, iv2, av2, ob2, pc2, ps2, rfl, hV2, hb1, hb2⟩ := hH r v r2 v2 hp hp2
  refine lv_icmp_eq (tgt := 825) hx hb dL_law_355 (by decide) (fun c9 => ?_) (fun c9 => absurd he c9)
  exact kk v iv2 av2 ob2 pc2 ps2 _ _ H locs ls (G.perm List.perm_append_comm) hV2 (by show cc + mc + 0 + pc2 ≤ _; omega) (by show cs + ms + 0 + ps2 ≤ _; omega) hl
set_option maxRecDepth 100000 in
set_option maxHeartbeats 4000000 in
theorem law_step {p : Program} {l : Launch} {e : Env} {s : State} {m : MethodId} {args : Array Value} {below : List Frame} {meth : Method} {c : Code} {Z : zT} {A : Nat → Prop} {Q : State → Prop} {b L k t h : Nat} {ad : Nat → Nat} {xs : Nat → Int32} {nm9 : String} {iv : ivT} {av : avT} {ob : List obT} {pc ps cc cs : Nat} {u : va_W} {H : Heap} {locs : List Loc} {ls : Array Slot} (C : cx p s m args meth c cL_law 4 (some .boolean) RL nm9) (hX : va_X b L xs s s.heap) (hbl : b < s.heap.size) (hbA : ¬ A b) (hL : L ≤ 3072) (hk : 6 * k + 6 ≤ L) (G : wd Z A s (u ++ mdW Z h ad iv av) H locs) (hV : clV Z t k iv av ob pc ps u) (hcc : cc + pc + 9 ≤ 600000) (hcs : cs + ps + 3945 ≤ 7302250) (hl : lv_has ls 4 [(3, .int (nI (6 * k))), (2, .ref h), (1, .ref t), (0, .ref b)]) (kk : lawK p l e s m args below meth c Z A Q b k t h ad pc ps cc cs) : W p l e room_1 s m args below meth c H locs cc cs Q (F0 m 360 ls []) := by
  have hx := C.1
  have hb := C.2.1
  obtain ⟨mc, ms, post, postM, K, Km, hm1, hm2, hH⟩ := op_step (l := l) (h := h) (ad := ad) (by omega : k ≤ 512) hV (xs (6 * k + 1))
  obtain ⟨fs9, hmem⟩ := cl_mem hV
  obtain ⟨q9, hq9⟩ := List.getElem?_of_mem hmem
  refine lv_aload_n hx hb dL_law_360 rfl (lv_at hl 2 rfl) ?_
  refine lv_aload_n hx hb dL_law_361 rfl (lv_at hl 3 rfl) ?_
  refine lv_iload_n hx hb dL_law_362 rfl (lv_at hl 0 rfl) ?_
  refine lv_iconst (v := 1) hx hb dL_law_363 (by decide) ?_
  refine lv_iadd hx hb dL_law_364 ?_
  refine k_topi (y := nI (6 * k + 1)) (nI_add _ 1) ?_
  refine va_sld C.1 C.2.1 hX hbl hbA G.2.2.2.1 (vp_in_nI (show 6 * k + 1 < L by omega) (by omega)) dL_law_365 ?_
  refine k_topi (y := xs (6 * k + 1)) (by rw [nI_clamp (by omega)]) ?_
  refine kc_i (Wc := u) (Wr := mdW Z h ad iv av) G (List.Perm.refl _) (krV 1 rfl (As := [.int (xs (6 * k + 1))]) (rest := []) (ci := 11) (CC := RX10) (T := TX10) (N := 14) C G (List.Perm.refl _) (K _) (gdV ml_L_42 im_X10_step se_X10_step ii_X10 co_X10_step) (by decide +kernel) ⟨Nat.le_of_ble_eq_true rfl, Nat.le_of_ble_eq_true rfl⟩ rfl q9 hq9 hl rfl (Nat.le_of_ble_eq_true rfl) ⟨by show cc + mc ≤ 600000; omega, by show cs + ms ≤ 7302250; omega⟩ dL_law_366) (fun r v H locs hp G => ?_)
  refine lv_aload_n hx hb dL_law_369 rfl (lv_at hl 1 rfl) ?_
  refine lv_aload_n hx hb dL_law_370 rfl (lv_at hl 3 rfl) ?_
  refine lv_iload_n hx hb dL_law_371 rfl (lv_at hl 0 rfl) ?_
  refine lv_iconst (v := 1) hx hb dL_law_372 (by decide) ?_
  refine lv_iadd hx hb dL_law_373 ?_
  refine k_topi (y := nI (6 * k + 1)) (nI_add _ 1) ?_
  refine va_sld C.1 C.2.1 hX hbl hbA G.2.2.2.1 (vp_in_nI (show 6 * k + 1 < L by omega) (by omega)) dL_law_374 ?_
  refine k_topi (y := xs (6 * k + 1)) (by rw [nI_clamp (by omega)]) ?_
  refine kc_i (Wc := mdW Z h ad iv av) (Wr := v) G List.perm_append_comm (krV 1 rfl (As := [.int (xs (6 * k + 1))]) (rest := [.int r]) (ci := 12) (CC := RX11) (T := TX11) (N := 61) C G List.perm_append_comm (Km _) (gdV ml_L_45 im_X11_step se_X11_step ii_X11 co_X11_step) (by decide +kernel) ⟨Nat.le_of_ble_eq_true rfl, Nat.le_of_ble_eq_true rfl⟩ rfl 0 rfl hl rfl (Nat.le_of_ble_eq_true rfl) ⟨by show cc + mc + 0 ≤ 600000; omega, by show cs + ms + 0 ≤ 7302250; omega⟩ dL_law_375) (fun r2 v2 H locs hp2 G => ?_)
  obtain ⟨he, iv2, av2, ob2, pc2, ps2, rfl, hV2, hb1, hb2⟩ := hH r v r2 v2 hp hp2
  refine lv_icmp_eq (tgt := 825) hx hb dL_law_378 (by decide) (fun c9 => ?_) (fun c9 => absurd he c9)
  exact kk v iv2 av2 ob2 pc2 ps2 _ _ H locs ls (G.perm List.perm_append_comm) hV2 (by show cc + mc + 0 + pc2 ≤ _; omega) (by show cs + ms + 0 + ps2 ≤ _; omega) hl
set_option maxRecDepth 100000 in
set_option maxHeartbeats 4000000 in
theorem law_crash {p : Program} {l : Launch} {e : Env} {s : State} {m : MethodId} {args : Array Value} {below : List Frame} {meth : Method} {c : Code} {Z : zT} {A : Nat → Prop} {Q : State → Prop} {b L k t h : Nat} {ad : Nat → Nat} {xs : Nat → Int32} {nm9 : String} {iv : ivT} {av : avT} {ob : List obT} {pc ps cc cs : Nat} {u : va_W} {H : Heap} {locs : List Loc} {ls : Array Slot} (C : cx p s m args meth c cL_law 4 (some .boolean) RL nm9) (hX : va_X b L xs s s.heap) (hbl : b < s.heap.size) (hbA : ¬ A b) (hL : L ≤ 3072) (hk : 6 * k + 6 ≤ L) (G : wd Z A s (u ++ mdW Z h ad iv av) H locs) (hV : clV Z t k iv av ob pc ps u) (hcc : cc + pc + 9 ≤ 600000) (hcs : cs + ps + 3945 ≤ 7302250) (hl : lv_has ls 4 [(3, .int (nI (6 * k))), (2, .ref h), (1, .ref t), (0, .ref b)]) (kk : lawK p l e s m args below meth c Z A Q b k t h ad pc ps cc cs) : W p l e room_1 s m args below meth c H locs cc cs Q (F0 m 383 ls []) := by
  have hx := C.1
  have hb := C.2.1
  obtain ⟨mc, ms, post, postM, K, Km, hm1, hm2, hH⟩ := op_crash (l := l) (h := h) (ad := ad) (by omega : k ≤ 512) hV (xs (6 * k + 1))
  obtain ⟨fs9, hmem⟩ := cl_mem hV
  obtain ⟨q9, hq9⟩ := List.getElem?_of_mem hmem
  refine lv_aload_n hx hb dL_law_383 rfl (lv_at hl 2 rfl) ?_
  refine lv_aload_n hx hb dL_law_384 rfl (lv_at hl 3 rfl) ?_
  refine lv_iload_n hx hb dL_law_385 rfl (lv_at hl 0 rfl) ?_
  refine lv_iconst (v := 1) hx hb dL_law_386 (by decide) ?_
  refine lv_iadd hx hb dL_law_387 ?_
  refine k_topi (y := nI (6 * k + 1)) (nI_add _ 1) ?_
  refine va_sld C.1 C.2.1 hX hbl hbA G.2.2.2.1 (vp_in_nI (show 6 * k + 1 < L by omega) (by omega)) dL_law_388 ?_
  refine k_topi (y := xs (6 * k + 1)) (by rw [nI_clamp (by omega)]) ?_
  refine kc_i (Wc := u) (Wr := mdW Z h ad iv av) G (List.Perm.refl _) (krV 1 rfl (As := [.int (xs (6 * k + 1))]) (rest := []) (ci := 11) (CC := RX10) (T := TX10) (N := 14) C G (List.Perm.refl _) (K _) (gdV ml_L_46 im_X10_crash se_X10_crash ii_X10 co_X10_crash) (by decide +kernel) ⟨Nat.le_of_ble_eq_true rfl, Nat.le_of_ble_eq_true rfl⟩ rfl q9 hq9 hl rfl (Nat.le_of_ble_eq_true rfl) ⟨by show cc + mc ≤ 600000; omega, by show cs + ms ≤ 7302250; omega⟩ dL_law_389) (fun r v H locs hp G => ?_)
  refine lv_aload_n hx hb dL_law_392 rfl (lv_at hl 1 rfl) ?_
  refine lv_aload_n hx hb dL_law_393 rfl (lv_at hl 3 rfl) ?_
  refine lv_iload_n hx hb dL_law_394 rfl (lv_at hl 0 rfl) ?_
  refine lv_iconst (v := 1) hx hb dL_law_395 (by decide) ?_
  refine lv_iadd hx hb dL_law_396 ?_
  refine k_topi (y := nI (6 * k + 1)) (nI_add _ 1) ?_
  refine va_sld C.1 C.2.1 hX hbl hbA G.2.2.2.1 (vp_in_nI (show 6 * k + 1 < L by omega) (by omega)) dL_law_397 ?_
  refine k_topi (y := xs (6 * k + 1)) (by rw [nI_clamp (by omega)]) ?_
  refine kc_i (Wc := mdW Z h ad iv av) (Wr := v) G List.perm_append_comm (krV 1 rfl (As := [.int (xs (6 * k + 1))]) (rest := [.int r]) (ci := 12) (CC := RX11) (T := TX11) (N := 61) C G List.perm_append_comm (Km _) (gdV ml_L_49 im_X11_crash se_X11_crash ii_X11 co_X11_crash) (by decide +kernel) ⟨Nat.le_of_ble_eq_true rfl, Nat.le_of_ble_eq_true rfl⟩ rfl 0 rfl hl rfl (Nat.le_of_ble_eq_true rfl) ⟨by show cc + mc + 0 ≤ 600000; omega, by show cs + ms + 0 ≤ 7302250; omega⟩ dL_law_398) (fun r2 v2 H locs hp2 G => ?_)
  obtain ⟨he, iv2, av2, ob2, pc2, ps2, rfl, hV2, hb1, hb2⟩ := hH r v r2 v2 hp hp2
  refine lv_icmp_eq (tgt := 825) hx hb dL_law_401 (by decide) (fun c9 => ?_) (fun c9 => absurd he c9)
  exact kk v iv2 av2 ob2 pc2 ps2 _ _ H locs ls (G.perm List.perm_append_comm) hV2 (by show cc + mc + 0 + pc2 ≤ _; omega) (by show cs + ms + 0 + ps2 ≤ _; omega) hl
set_option maxRecDepth 100000 in
set_option maxHeartbeats 4000000 in
theorem law_writer {p : Program} {l : Launch} {e : Env} {s : State} {m : MethodId} {args : Array Value} {below : List Frame} {meth : Method} {c : Code} {Z : zT} {A : Nat → Prop} {Q : State → Prop} {b L k t h : Nat} {ad : Nat → Nat} {xs : Nat → Int32} {nm9 : String} {iv : ivT} {av : avT} {ob : List obT} {pc ps cc cs : Nat} {u : va_W} {H : Heap} {locs : List Loc} {ls : Array Slot} (C : cx p s m args meth c cL_law 4 (some .boolean) RL nm9) (hX : va_X b L xs s s.heap) (hbl : b < s.heap.size) (hbA : ¬ A b) (hL : L ≤ 3072) (hk : 6 * k + 6 ≤ L) (G : wd Z A s (u ++ mdW Z h ad iv av) H locs) (hV : clV Z t k iv av ob pc ps u) (hcc : cc + pc + 9 ≤ 600000) (hcs : cs + ps + 3945 ≤ 7302250) (hl : lv_has ls 4 [(3, .int (nI (6 * k))), (2, .ref h), (1, .ref t), (0, .ref b)]) (kk : lawK p l e s m args below meth c Z A Q b k t h ad pc ps cc cs) : W p l e room_1 s m args below meth c H locs cc cs Q (F0 m 406 ls []) := by
  have hx := C.1
  have hb := C.2.1
  obtain ⟨mc, ms, post, postM, K, Km, hm1, hm2, hH⟩ := op_writer (l := l) (h := h) (ad := ad) (by omega : k ≤ 512) hV (xs (6 * k + 1)) (xs (6 * k + 2))
  obtain ⟨fs9, hmem⟩ := cl_mem hV
  obtain ⟨q9, hq9⟩ := List.getElem?_of_mem hmem
  refine lv_aload_n hx hb dL_law_406 rfl (lv_at hl 2 rfl) ?_
  refine lv_aload_n hx hb dL_law_407 rfl (lv_at hl 3 rfl) ?_
  refine lv_iload_n hx hb dL_law_408 rfl (lv_at hl 0 rfl) ?_
  refine lv_iconst (v := 1) hx hb dL_law_409 (by decide) ?_
  refine lv_iadd hx hb dL_law_410 ?_
  refine k_topi (y := nI (6 * k + 1)) (nI_add _ 1) ?_
  refine va_sld C.1 C.2.1 hX hbl hbA G.2.2.2.1 (vp_in_nI (show 6 * k + 1 < L by omega) (by omega)) dL_law_411 ?_
  refine k_topi (y := xs (6 * k + 1)) (by rw [nI_clamp (by omega)]) ?_
  refine lv_aload_n hx hb dL_law_412 rfl (lv_at hl 3 rfl) ?_
  refine lv_iload_n hx hb dL_law_413 rfl (lv_at hl 0 rfl) ?_
  refine lv_iconst (v := 2) hx hb dL_law_414 (by decide) ?_
  refine lv_iadd hx hb dL_law_415 ?_
  refine k_topi (y := nI (6 * k + 2)) (nI_add _ 2) ?_
  refine va_sld C.1 C.2.1 hX hbl hbA G.2.2.2.1 (vp_in_nI (show 6 * k + 2 < L by omega) (by omega)) dL_law_416 ?_
  refine k_topi (y := xs (6 * k + 2)) (by rw [nI_clamp (by omega)]) ?_
  refine kc_i (Wc := u) (Wr := mdW Z h ad iv av) G (List.Perm.refl _) (krV 2 rfl (As := [.int (xs (6 * k + 1)), .int (xs (6 * k + 2))]) (rest := []) (ci := 11) (CC := RX10) (T := TX10) (N := 14) C G (List.Perm.refl _) (K _) (gdV ml_L_50 im_X10_writer se_X10_writer ii_X10 co_X10_writer) (by decide +kernel) ⟨Nat.le_of_ble_eq_true rfl, Nat.le_of_ble_eq_true rfl⟩ rfl q9 hq9 hl rfl (Nat.le_of_ble_eq_true rfl) ⟨by show cc + mc ≤ 600000; omega, by show cs + ms ≤ 7302250; omega⟩ dL_law_417) (fun r v H locs hp G => ?_)
  refine lv_aload_n hx hb dL_law_420 rfl (lv_at hl 1 rfl) ?_
  refine lv_aload_n hx hb dL_law_421 rfl (lv_at hl 3 rfl) ?_
  refine lv_iload_n hx hb dL_law_422 rfl (lv_at hl 0 rfl) ?_
  refine lv_iconst (v := 1) hx hb dL_law_423 (by decide) ?_
  refine lv_iadd hx hb dL_law_424 ?_
  refine k_topi (y := nI (6 * k + 1)) (nI_add _ 1) ?_
  refine va_sld C.1 C.2.1 hX hbl hbA G.2.2.2.1 (vp_in_nI (show 6 * k + 1 < L by omega) (by omega)) dL_law_425 ?_
  refine k_topi (y := xs (6 * k + 1)) (by rw [nI_clamp (by omega)]) ?_
  refine lv_aload_n hx hb dL_law_426 rfl (lv_at hl 3 rfl) ?_
  refine lv_iload_n hx hb dL_law_427 rfl (lv_at hl 0 rfl) ?_
  refine lv_iconst (v := 2) hx hb dL_law_428 (by decide) ?_
  refine lv_iadd hx hb dL_law_429 ?_
  refine k_topi (y := nI (6 * k + 2)) (nI_add _ 2) ?_
  refine va_sld C.1 C.2.1 hX hbl hbA G.2.2.2.1 (vp_in_nI (show 6 * k + 2 < L by omega) (by omega)) dL_law_430 ?_
  refine k_topi (y := xs (6 * k + 2)) (by rw [nI_clamp (by omega)]) ?_
  refine kc_i (Wc := mdW Z h ad iv av) (Wr := v) G List.perm_append_comm (krV 2 rfl (As := [.int (xs (6 * k + 1)), .int (xs (6 * k + 2))]) (rest := [.int r]) (ci := 12) (CC := RX11) (T := TX11) (N := 61) C G List.perm_append_comm (Km _) (gdV ml_L_54 im_X11_writer se_X11_writer ii_X11 co_X11_writer) (by decide +kernel) ⟨Nat.le_of_ble_eq_true rfl, Nat.le_of_ble_eq_true rfl⟩ rfl 0 rfl hl rfl (Nat.le_of_ble_eq_true rfl) ⟨by show cc + mc + 0 ≤ 600000; omega, by show cs + ms + 0 ≤ 7302250; omega⟩ dL_law_431) (fun r2 v2 H locs hp2 G => ?_)
  obtain ⟨he, iv2, av2, ob2, pc2, ps2, rfl, hV2, hb1, hb2⟩ := hH r v r2 v2 hp hp2
  refine lv_icmp_eq (tgt := 825) hx hb dL_law_434 (by decide) (fun c9 => ?_) (fun c9 => absurd he c9)
  exact kk v iv2 av2 ob2 pc2 ps2 _ _ H locs ls (G.perm List.perm_append_comm) hV2 (by show cc + mc + 0 + pc2 ≤ _; omega) (by show cs + ms + 0 + ps2 ≤ _; omega) hl
set_option maxRecDepth 100000 in
set_option maxHeartbeats 4000000 in
theorem law_checkpoint {p : Program} {l : Launch} {e : Env} {s : State} {m : MethodId} {args : Array Value} {below : List Frame} {meth : Method} {c : Code} {Z : zT} {A : Nat → Prop} {Q : State → Prop} {b L k t h : Nat} {ad : Nat → Nat} {xs : Nat → Int32} {nm9 : String} {iv : ivT} {av : avT} {ob : List obT} {pc ps cc cs : Nat} {u : va_W} {H : Heap} {locs : List Loc} {ls : Array Slot} (C : cx p s m args meth c cL_law 4 (some .boolean) RL nm9) (hX : va_X b L xs s s.heap) (hbl : b < s.heap.size) (hbA : ¬ A b) (hL : L ≤ 3072) (hk : 6 * k + 6 ≤ L) (G : wd Z A s (u ++ mdW Z h ad iv av) H locs) (hV : clV Z t k iv av ob pc ps u) (hcc : cc + pc + 9 ≤ 600000) (hcs : cs + ps + 3945 ≤ 7302250) (hl : lv_has ls 4 [(3, .int (nI (6 * k))), (2, .ref h), (1, .ref t), (0, .ref b)]) (kk : lawK p l e s m args below meth c Z A Q b k t h ad pc ps cc cs) : W p l e room_1 s m args below meth c H locs cc cs Q (F0 m 439 ls []) := by
  have hx := C.1
  have hb := C.2.1
  obtain ⟨mc, ms, post, postM, K, Km, hm1, hm2, hH⟩ := op_checkpoint (l := l) (h := h) (ad := ad) (by omega : k ≤ 512) hV (xs (6 * k + 1))
  obtain ⟨fs9, hmem⟩ := cl_mem hV
  obtain ⟨q9, hq9⟩ := List.getElem?_of_mem hmem
  refine lv_aload_n hx hb dL_law_439 rfl (lv_at hl 2 rfl) ?_
  refine lv_aload_n hx hb dL_law_440 rfl (lv_at hl 3 rfl) ?_
  refine lv_iload_n hx hb dL_law_441 rfl (lv_at hl 0 rfl) ?_
  refine lv_iconst (v := 1) hx hb dL_law_442 (by decide) ?_
  refine lv_iadd hx hb dL_law_443 ?_
  refine k_topi (y := nI (6 * k + 1)) (nI_add _ 1) ?_
  refine va_sld C.1 C.2.1 hX hbl hbA G.2.2.2.1 (vp_in_nI (show 6 * k + 1 < L by omega) (by omega)) dL_law_444 ?_
  refine k_topi (y := xs (6 * k + 1)) (by rw [nI_clamp (by omega)]) ?_
  refine kc_i (Wc := u) (Wr := mdW Z h ad iv av) G (List.Perm.refl _) (krV 1 rfl (As := [.int (xs (6 * k + 1))]) (rest := []) (ci := 11) (CC := RX10) (T := TX10) (N := 14) C G (List.Perm.refl _) (K _) (gdV ml_L_55 im_X10_checkpoint se_X10_checkpoint ii_X10 co_X10_checkpoint) (by decide +kernel) ⟨Nat.le_of_ble_eq_true rfl, Nat.le_of_ble_eq_true rfl⟩ rfl q9 hq9 hl rfl (Nat.le_of_ble_eq_true rfl) ⟨by show cc + mc ≤ 600000; omega, by show cs + ms ≤ 7302250; omega⟩ dL_law_445) (fun r v H locs hp G => ?_)
  refine lv_aload_n hx hb dL_law_448 rfl (lv_at hl 1 rfl) ?_
  refine lv_aload_n hx hb dL_law_449 rfl (lv_at hl 3 rfl) ?_
  refine lv_iload_n hx hb dL_law_450 rfl (lv_at hl 0 rfl) ?_
  refine lv_iconst (v := 1) hx hb dL_law_451 (by decide) ?_
  refine lv_iadd hx hb dL_law_452 ?_
  refine k_topi (y := nI (6 * k + 1)) (nI_add _ 1) ?_
  refine va_sld C.1 C.2.1 hX hbl hbA G.2.2.2.1 (vp_in_nI (show 6 * k + 1 < L by omega) (by omega)) dL_law_453 ?_
  refine k_topi (y := xs (6 * k + 1)) (by rw [nI_clamp (by omega)]) ?_
  refine kc_i (Wc := mdW Z h ad iv av) (Wr := v) G List.perm_append_comm (krV 1 rfl (As := [.int (xs (6 * k + 1))]) (rest := [.int r]) (ci := 12) (CC := RX11) (T := TX11) (N := 61) C G List.perm_append_comm (Km _) (gdV ml_L_58 im_X11_checkpoint se_X11_checkpoint ii_X11 co_X11_checkpoint) (by decide +kernel) ⟨Nat.le_of_ble_eq_true rfl, Nat.le_of_ble_eq_true rfl⟩ rfl 0 rfl hl rfl (Nat.le_of_ble_eq_true rfl) ⟨by show cc + mc + 0 ≤ 600000; omega, by show cs + ms + 0 ≤ 7302250; omega⟩ dL_law_454) (fun r2 v2 H locs hp2 G => ?_)
  obtain ⟨he, iv2, av2, ob2, pc2, ps2, rfl, hV2, hb1, hb2⟩ := hH r v r2 v2 hp hp2
  refine lv_icmp_eq (tgt := 825) hx hb dL_law_457 (by decide) (fun c9 => ?_) (fun c9 => absurd he c9)
  exact kk v iv2 av2 ob2 pc2 ps2 _ _ H locs ls (G.perm List.perm_append_comm) hV2 (by show cc + mc + 0 + pc2 ≤ _; omega) (by show cs + ms + 0 + ps2 ≤ _; omega) hl
set_option maxRecDepth 100000 in
set_option maxHeartbeats 4000000 in
theorem law_vacuum {p : Program} {l : Launch} {e : Env} {s : State} {m : MethodId} {args : Array Value} {below : List Frame} {meth : Method} {c : Code} {Z : zT} {A : Nat → Prop} {Q : State → Prop} {b L k t h : Nat} {ad : Nat → Nat} {xs : Nat → Int32} {nm9 : String} {iv : ivT} {av : avT} {ob : List obT} {pc ps cc cs : Nat} {u : va_W} {H : Heap} {locs : List Loc} {ls : Array Slot} (C : cx p s m args meth c cL_law 4 (some .boolean) RL nm9) (hX : va_X b L xs s s.heap) (hbl : b < s.heap.size) (hbA : ¬ A b) (hL : L ≤ 3072) (hk : 6 * k + 6 ≤ L) (G : wd Z A s (u ++ mdW Z h ad iv av) H locs) (hV : clV Z t k iv av ob pc ps u) (hcc : cc + pc + 9 ≤ 600000) (hcs : cs + ps + 3945 ≤ 7302250) (hl : lv_has ls 4 [(3, .int (nI (6 * k))), (2, .ref h), (1, .ref t), (0, .ref b)]) (kk : lawK p l e s m args below meth c Z A Q b k t h ad pc ps cc cs) : W p l e room_1 s m args below meth c H locs cc cs Q (F0 m 462 ls []) := by
  have hx := C.1
  have hb := C.2.1
  obtain ⟨mc, ms, post, postM, K, Km, hm1, hm2, hH⟩ := op_vacuum (l := l) (h := h) (ad := ad) (by omega : k ≤ 512) hV (xs (6 * k + 1))
  obtain ⟨fs9, hmem⟩ := cl_mem hV
  obtain ⟨q9, hq9⟩ := List.getElem?_of_mem hmem
  refine lv_aload_n hx hb dL_law_462 rfl (lv_at hl 2 rfl) ?_
  refine lv_aload_n hx hb dL_law_463 rfl (lv_at hl 3 rfl) ?_
  refine lv_iload_n hx hb dL_law_464 rfl (lv_at hl 0 rfl) ?_
  refine lv_iconst (v := 1) hx hb dL_law_465 (by decide) ?_
  refine lv_iadd hx hb dL_law_466 ?_
  refine k_topi (y := nI (6 * k + 1)) (nI_add _ 1) ?_
  refine va_sld C.1 C.2.1 hX hbl hbA G.2.2.2.1 (vp_in_nI (show 6 * k + 1 < L by omega) (by omega)) dL_law_467 ?_
  refine k_topi (y := xs (6 * k + 1)) (by rw [nI_clamp (by omega)]) ?_
  refine kc_i (Wc := u) (Wr := mdW Z h ad iv av) G (List.Perm.refl _) (krV 1 rfl (As := [.int (xs (6 * k + 1))]) (rest := []) (ci := 11) (CC := RX10) (T := TX10) (N := 14) C G (List.Perm.refl _) (K _) (gdV ml_L_59 im_X10_vacuum se_X10_vacuum ii_X10 co_X10_vacuum) (by decide +kernel) ⟨Nat.le_of_ble_eq_true rfl, Nat.le_of_ble_eq_true rfl⟩ rfl q9 hq9 hl rfl (Nat.le_of_ble_eq_true rfl) ⟨by show cc + mc ≤ 600000; omega, by show cs + ms ≤ 7302250; omega⟩ dL_law_468) (fun r v H locs hp G => ?_)
  refine lv_aload_n hx hb dL_law_471 rfl (lv_at hl 1 rfl) ?_
  refine lv_aload_n hx hb dL_law_472 rfl (lv_at hl 3 rfl) ?_
  refine lv_iload_n hx hb dL_law_473 rfl (lv_at hl 0 rfl) ?_
  refine lv_iconst (v := 1) hx hb dL_law_474 (by decide) ?_
  refine lv_iadd hx hb dL_law_475 ?_
  refine k_topi (y := nI (6 * k + 1)) (nI_add _ 1) ?_
  refine va_sld C.1 C.2.1 hX hbl hbA G.2.2.2.1 (vp_in_nI (show 6 * k + 1 < L by omega) (by omega)) dL_law_476 ?_
  refine k_topi (y := xs (6 * k + 1)) (by rw [nI_clamp (by omega)]) ?_
  refine kc_i (Wc := mdW Z h ad iv av) (Wr := v) G List.perm_append_comm (krV 1 rfl (As := [.int (xs (6 * k + 1))]) (rest := [.int r]) (ci := 12) (CC := RX11) (T := TX11) (N := 61) C G List.perm_append_comm (Km _) (gdV ml_L_62 im_X11_vacuum se_X11_vacuum ii_X11 co_X11_vacuum) (by decide +kernel) ⟨Nat.le_of_ble_eq_true rfl, Nat.le_of_ble_eq_true rfl⟩ rfl 0 rfl hl rfl (Nat.le_of_ble_eq_true rfl) ⟨by show cc + mc + 0 ≤ 600000; omega, by show cs + ms + 0 ≤ 7302250; omega⟩ dL_law_477) (fun r2 v2 H locs hp2 G => ?_)
  obtain ⟨he, iv2, av2, ob2, pc2, ps2, rfl, hV2, hb1, hb2⟩ := hH r v r2 v2 hp hp2
  refine lv_icmp_eq (tgt := 825) hx hb dL_law_480 (by decide) (fun c9 => ?_) (fun c9 => absurd he c9)
  exact kk v iv2 av2 ob2 pc2 ps2 _ _ H locs ls (G.perm List.perm_append_comm) hV2 (by show cc + mc + 0 + pc2 ≤ _; omega) (by show cs + ms + 0 + ps2 ≤ _; omega) hl
set_option maxRecDepth 100000 in
set_option maxHeartbeats 4000000 in
theorem law_latest {p : Program} {l : Launch} {e : Env} {s : State} {m : MethodId} {args : Array Value} {below : List Frame} {meth : Method} {c : Code} {Z : zT} {A : Nat → Prop} {Q : State → Prop} {b L k t h : Nat} {ad : Nat → Nat} {xs : Nat → Int32} {nm9 : String} {iv : ivT} {av : avT} {ob : List obT} {pc ps cc cs : Nat} {u : va_W} {H : Heap} {locs : List Loc} {ls : Array Slot} (C : cx p s m args meth c cL_law 4 (some .boolean) RL nm9) (hX : va_X b L xs s s.heap) (hbl : b < s.heap.size) (hbA : ¬ A b) (hL : L ≤ 3072) (hk : 6 * k + 6 ≤ L) (G : wd Z A s (u ++ mdW Z h ad iv av) H locs) (hV : clV Z t k iv av ob pc ps u) (hcc : cc + pc + 9 ≤ 600000) (hcs : cs + ps + 3945 ≤ 7302250) (hl : lv_has ls 4 [(3, .int (nI (6 * k))), (2, .ref h), (1, .ref t), (0, .ref b)]) (kk : lawK p l e s m args below meth c Z A Q b k t h ad pc ps cc cs) : W p l e room_1 s m args below meth c H locs cc cs Q (F0 m 485 ls []) := by
  have hx := C.1
  have hb := C.2.1
  obtain ⟨mc, ms, post, postM, K, Km, hm1, hm2, hH⟩ := op_latest (l := l) (h := h) (ad := ad) (by omega : k ≤ 512) hV 
  obtain ⟨fs9, hmem⟩ := cl_mem hV
  obtain ⟨q9, hq9⟩ := List.getElem?_of_mem hmem
  refine lv_aload_n hx hb dL_law_485 rfl (lv_at hl 2 rfl) ?_
  refine kc_i (Wc := u) (Wr := mdW Z h ad iv av) G (List.Perm.refl _) (krV 0 rfl (As := []) (rest := []) (ci := 11) (CC := RX10) (T := TX10) (N := 14) C G (List.Perm.refl _) (K _) (gdV ml_L_63 im_X10_latest se_X10_latest ii_X10 co_X10_latest) (by decide +kernel) ⟨Nat.le_of_ble_eq_true rfl, Nat.le_of_ble_eq_true rfl⟩ rfl q9 hq9 hl rfl (Nat.le_of_ble_eq_true rfl) ⟨by show cc + mc ≤ 600000; omega, by show cs + ms ≤ 7302250; omega⟩ dL_law_486) (fun r v H locs hp G => ?_)
  refine lv_aload_n hx hb dL_law_489 rfl (lv_at hl 1 rfl) ?_
  refine kc_i (Wc := mdW Z h ad iv av) (Wr := v) G List.perm_append_comm (krV 0 rfl (As := []) (rest := [.int r]) (ci := 12) (CC := RX11) (T := TX11) (N := 61) C G List.perm_append_comm (Km _) (gdV ml_L_67 im_X11_latest se_X11_latest ii_X11 co_X11_latest) (by decide +kernel) ⟨Nat.le_of_ble_eq_true rfl, Nat.le_of_ble_eq_true rfl⟩ rfl 0 rfl hl rfl (Nat.le_of_ble_eq_true rfl) ⟨by show cc + mc + 0 ≤ 600000; omega, by show cs + ms + 0 ≤ 7302250; omega⟩ dL_law_490) (fun r2 v2 H locs hp2 G => ?_)
  obtain ⟨he, iv2, av2, ob2, pc2, ps2, rfl, hV2, hb1, hb2⟩ := hH r v r2 v2 hp hp2
  refine lv_icmp_eq (tgt := 825) hx hb dL_law_493 (by decide) (fun c9 => ?_) (fun c9 => absurd he c9)
  exact kk v iv2 av2 ob2 pc2 ps2 _ _ H locs ls (G.perm List.perm_append_comm) hV2 (by show cc + mc + 0 + pc2 ≤ _; omega) (by show cs + ms + 0 + ps2 ≤ _; omega) hl
set_option maxRecDepth 100000 in
set_option maxHeartbeats 4000000 in
theorem law_files {p : Program} {l : Launch} {e : Env} {s : State} {m : MethodId} {args : Array Value} {below : List Frame} {meth : Method} {c : Code} {Z : zT} {A : Nat → Prop} {Q : State → Prop} {b L k t h : Nat} {ad : Nat → Nat} {xs : Nat → Int32} {nm9 : String} {iv : ivT} {av : avT} {ob : List obT} {pc ps cc cs : Nat} {u : va_W} {H : Heap} {locs : List Loc} {ls : Array Slot} (C : cx p s m args meth c cL_law 4 (some .boolean) RL nm9) (hX : va_X b L xs s s.heap) (hbl : b < s.heap.size) (hbA : ¬ A b) (hL : L ≤ 3072) (hk : 6 * k + 6 ≤ L) (G : wd Z A s (u ++ mdW Z h ad iv av) H locs) (hV : clV Z t k iv av ob pc ps u) (hcc : cc + pc + 9 ≤ 600000) (hcs : cs + ps + 3945 ≤ 7302250) (hl : lv_has ls 4 [(3, .int (nI (6 * k))), (2, .ref h), (1, .ref t), (0, .ref b)]) (kk : lawK p l e s m args below meth c Z A Q b k t h ad pc ps cc cs) : W p l e room_1 s m args below meth c H locs cc cs Q (F0 m 498 ls []) := by
  have hx := C.1
  have hb := C.2.1
  obtain ⟨mc, ms, post, postM, K, Km, hm1, hm2, hH⟩ := op_files (l := l) (h := h) (ad := ad) (by omega : k ≤ 512) hV (xs (6 * k + 1))
  obtain ⟨fs9, hmem⟩ := cl_mem hV
  obtain ⟨q9, hq9⟩ := List.getElem?_of_mem hmem
  refine lv_aload_n hx hb dL_law_498 rfl (lv_at hl 2 rfl) ?_
  refine lv_aload_n hx hb dL_law_499 rfl (lv_at hl 3 rfl) ?_
  refine lv_iload_n hx hb dL_law_500 rfl (lv_at hl 0 rfl) ?_
  refine lv_iconst (v := 1) hx hb dL_law_501 (by decide) ?_
  refine lv_iadd hx hb dL_law_502 ?_
  refine k_topi (y := nI (6 * k + 1)) (nI_add _ 1) ?_
  refine va_sld C.1 C.2.1 hX hbl hbA G.2.2.2.1 (vp_in_nI (show 6 * k + 1 < L by omega) (by omega)) dL_law_503 ?_
  refine k_topi (y := xs (6 * k + 1)) (by rw [nI_clamp (by omega)]) ?_
  refine kc_i (Wc := u) (Wr := mdW Z h ad iv av) G (List.Perm.refl _) (krV 1 rfl (As := [.int (xs (6 * k + 1))]) (rest := []) (ci := 11) (CC := RX10) (T := TX10) (N := 14) C G (List.Perm.refl _) (K _) (gdV ml_L_68 im_X10_files se_X10_files ii_X10 co_X10_files) (by decide +kernel) ⟨Nat.le_of_ble_eq_true rfl, Nat.le_of_ble_eq_true rfl⟩ rfl q9 hq9 hl rfl (Nat.le_of_ble_eq_true rfl) ⟨by show cc + mc ≤ 600000; omega, by show cs + ms ≤ 7302250; omega⟩ dL_law_504) (fun r v H locs hp G => ?_)
  refine lv_aload_n hx hb dL_law_507 rfl (lv_at hl 1 rfl) ?_
  refine lv_aload_n hx hb dL_law_508 rfl (lv_at hl 3 rfl) ?_
  refine lv_iload_n hx hb dL_law_509 rfl (lv_at hl 0 rfl) ?_
  refine lv_iconst (v := 1) hx hb dL_law_510 (by decide) ?_
  refine lv_iadd hx hb dL_law_511 ?_
  refine k_topi (y := nI (6 * k + 1)) (nI_add _ 1) ?_
  refine va_sld C.1 C.2.1 hX hbl hbA G.2.2.2.1 (vp_in_nI (show 6 * k + 1 < L by omega) (by omega)) dL_law_512 ?_
  refine k_topi (y := xs (6 * k + 1)) (by rw [nI_clamp (by omega)]) ?_
  refine kc_i (Wc := mdW Z h ad iv av) (Wr := v) G List.perm_append_comm (krV 1 rfl (As := [.int (xs (6 * k + 1))]) (rest := [.int r]) (ci := 12) (CC := RX11) (T := TX11) (N := 61) C G List.perm_append_comm (Km _) (gdV ml_L_71 im_X11_files se_X11_files ii_X11 co_X11_files) (by decide +kernel) ⟨Nat.le_of_ble_eq_true rfl, Nat.le_of_ble_eq_true rfl⟩ rfl 0 rfl hl rfl (Nat.le_of_ble_eq_true rfl) ⟨by show cc + mc + 0 ≤ 600000; omega, by show cs + ms + 0 ≤ 7302250; omega⟩ dL_law_513) (fun r2 v2 H locs hp2 G => ?_)
  obtain ⟨he, iv2, av2, ob2, pc2, ps2, rfl, hV2, hb1, hb2⟩ := hH r v r2 v2 hp hp2
  refine lv_icmp_eq (tgt := 825) hx hb dL_law_516 (by decide) (fun c9 => ?_) (fun c9 => absurd he c9)
  exact kk v iv2 av2 ob2 pc2 ps2 _ _ H locs ls (G.perm List.perm_append_comm) hV2 (by show cc + mc + 0 + pc2 ≤ _; omega) (by show cs + ms + 0 + ps2 ≤ _; omega) hl
set_option maxRecDepth 100000 in
set_option maxHeartbeats 4000000 in
theorem law_file {p : Program} {l : Launch} {e : Env} {s : State} {m : MethodId} {args : Array Value} {below : List Frame} {meth : Method} {c : Code} {Z : zT} {A : Nat → Prop} {Q : State → Prop} {b L k t h : Nat} {ad : Nat → Nat} {xs : Nat → Int32} {nm9 : String} {iv : ivT} {av : avT} {ob : List obT} {pc ps cc cs : Nat} {u : va_W} {H : Heap} {locs : List Loc} {ls : Array Slot} (C : cx p s m args meth c cL_law 4 (some .boolean) RL nm9) (hX : va_X b L xs s s.heap) (hbl : b < s.heap.size) (hbA : ¬ A b) (hL : L ≤ 3072) (hk : 6 * k + 6 ≤ L) (G : wd Z A s (u ++ mdW Z h ad iv av) H locs) (hV : clV Z t k iv av ob pc ps u) (hcc : cc + pc + 9 ≤ 600000) (hcs : cs + ps + 3945 ≤ 7302250) (hl : lv_has ls 4 [(3, .int (nI (6 * k))), (2, .ref h), (1, .ref t), (0, .ref b)]) (kk : lawK p l e s m args below meth c Z A Q b k t h ad pc ps cc cs) : W p l e room_1 s m args below meth c H locs cc cs Q (F0 m 521 ls []) := by
  have hx := C.1
  have hb := C.2.1
  obtain ⟨mc, ms, post, postM, K, Km, hm1, hm2, hH⟩ := op_file (l := l) (h := h) (ad := ad) (by omega : k ≤ 512) hV (xs (6 * k + 1)) (xs (6 * k + 2))
  obtain ⟨fs9, hmem⟩ := cl_mem hV
  obtain ⟨q9, hq9⟩ := List.getElem?_of_mem hmem
  refine lv_aload_n hx hb dL_law_521 rfl (lv_at hl 2 rfl) ?_
  refine lv_aload_n hx hb dL_law_522 rfl (lv_at hl 3 rfl) ?_
  refine lv_iload_n hx hb dL_law_523 rfl (lv_at hl 0 rfl) ?_
  refine lv_iconst (v := 1) hx hb dL_law_524 (by decide) ?_
  refine lv_iadd hx hb dL_law_525 ?_
  refine k_topi (y := nI (6 * k + 1)) (nI_add _ 1) ?_
  refine va_sld C.1 C.2.1 hX hbl hbA G.2.2.2.1 (vp_in_nI (show 6 * k + 1 < L by omega) (by omega)) dL_law_526 ?_
  refine k_topi (y := xs (6 * k + 1)) (by rw [nI_clamp (by omega)]) ?_
  refine lv_aload_n hx hb dL_law_527 rfl (lv_at hl 3 rfl) ?_
  refine lv_iload_n hx hb dL_law_528 rfl (lv_at hl 0 rfl) ?_
  refine lv_iconst (v := 2) hx hb dL_law_529 (by decide) ?_
  refine lv_iadd hx hb dL_law_530 ?_
  refine k_topi (y := nI (6 * k + 2)) (nI_add _ 2) ?_
  refine va_sld C.1 C.2.1 hX hbl hbA G.2.2.2.1 (vp_in_nI (show 6 * k + 2 < L by omega) (by omega)) dL_law_531 ?_
  refine k_topi (y := xs (6 * k + 2)) (by rw [nI_clamp (by omega)]) ?_
  refine kc_i (Wc := u) (Wr := mdW Z h ad iv av) G (List.Perm.refl _) (krV 2 rfl (As := [.int (xs (6 * k + 1)), .int (xs (6 * k + 2))]) (rest := []) (ci := 11) (CC := RX10) (T := TX10) (N := 14) C G (List.Perm.refl _) (K _) (gdV ml_L_72 im_X10_file se_X10_file ii_X10 co_X10_file) (by decide +kernel) ⟨Nat.le_of_ble_eq_true rfl, Nat.le_of_ble_eq_true rfl⟩ rfl q9 hq9 hl rfl (Nat.le_of_ble_eq_true rfl) ⟨by show cc + mc ≤ 600000; omega, by show cs + ms ≤ 7302250; omega⟩ dL_law_532) (fun r v H locs hp G => ?_)
  refine lv_aload_n hx hb dL_law_535 rfl (lv_at hl 1 rfl) ?_
  refine lv_aload_n hx hb dL_law_536 rfl (lv_at hl 3 rfl) ?_
  refine lv_iload_n hx hb dL_law_537 rfl (lv_at hl 0 rfl) ?_
  refine lv_iconst (v := 1) hx hb dL_law_538 (by decide) ?_
  refine lv_iadd hx hb dL_law_539 ?_
  refine k_topi (y := nI (6 * k + 1)) (nI_add _ 1) ?_
  refine va_sld C.1 C.2.1 hX hbl hbA G.2.2.2.1 (vp_in_nI (show 6 * k + 1 < L by omega) (by omega)) dL_law_540 ?_
  refine k_topi (y := xs (6 * k + 1)) (by rw [nI_clamp (by omega)]) ?_
  refine lv_aload_n hx hb dL_law_541 rfl (lv_at hl 3 rfl) ?_
  refine lv_iload_n hx hb dL_law_542 rfl (lv_at hl 0 rfl) ?_
  refine lv_iconst (v := 2) hx hb dL_law_543 (by decide) ?_
  refine lv_iadd hx hb dL_law_544 ?_
  refine k_topi (y := nI (6 * k + 2)) (nI_add _ 2) ?_
  refine va_sld C.1 C.2.1 hX hbl hbA G.2.2.2.1 (vp_in_nI (show 6 * k + 2 < L by omega) (by omega)) dL_law_545 ?_
  refine k_topi (y := xs (6 * k + 2)) (by rw [nI_clamp (by omega)]) ?_
  refine kc_i (Wc := mdW Z h ad iv av) (Wr := v) G List.perm_append_comm (krV 2 rfl (As := [.int (xs (6 * k + 1)), .int (xs (6 * k + 2))]) (rest := [.int r]) (ci := 12) (CC := RX11) (T := TX11) (N := 61) C G List.perm_append_comm (Km _) (gdV ml_L_75 im_X11_file se_X11_file ii_X11 co_X11_file) (by decide +kernel) ⟨Nat.le_of_ble_eq_true rfl, Nat.le_of_ble_eq_true rfl⟩ rfl 0 rfl hl rfl (Nat.le_of_ble_eq_true rfl) ⟨by show cc + mc + 0 ≤ 600000; omega, by show cs + ms + 0 ≤ 7302250; omega⟩ dL_law_546) (fun r2 v2 H locs hp2 G => ?_)
  obtain ⟨he, iv2, av2, ob2, pc2, ps2, rfl, hV2, hb1, hb2⟩ := hH r v r2 v2 hp hp2
  refine lv_icmp_eq (tgt := 825) hx hb dL_law_549 (by decide) (fun c9 => ?_) (fun c9 => absurd he c9)
  exact kk v iv2 av2 ob2 pc2 ps2 _ _ H locs ls (G.perm List.perm_append_comm) hV2 (by show cc + mc + 0 + pc2 ≤ _; omega) (by show cs + ms + 0 + ps2 ≤ _; omega) hl
set_option maxRecDepth 100000 in
set_option maxHeartbeats 4000000 in
theorem law_at {p : Program} {l : Launch} {e : Env} {s : State} {m : MethodId} {args : Array Value} {below : List Frame} {meth : Method} {c : Code} {Z : zT} {A : Nat → Prop} {Q : State → Prop} {b L k t h : Nat} {ad : Nat → Nat} {xs : Nat → Int32} {nm9 : String} {iv : ivT} {av : avT} {ob : List obT} {pc ps cc cs : Nat} {u : va_W} {H : Heap} {locs : List Loc} {ls : Array Slot} (C : cx p s m args meth c cL_law 4 (some .boolean) RL nm9) (hX : va_X b L xs s s.heap) (hbl : b < s.heap.size) (hbA : ¬ A b) (hL : L ≤ 3072) (hk : 6 * k + 6 ≤ L) (G : wd Z A s (u ++ mdW Z h ad iv av) H locs) (hV : clV Z t k iv av ob pc ps u) (hcc : cc + pc + 9 ≤ 600000) (hcs : cs + ps + 3945 ≤ 7302250) (hl : lv_has ls 4 [(3, .int (nI (6 * k))), (2, .ref h), (1, .ref t), (0, .ref b)]) (kk : lawK p l e s m args below meth c Z A Q b k t h ad pc ps cc cs) : W p l e room_1 s m args below meth c H locs cc cs Q (F0 m 554 ls []) := by
  have hx := C.1
  have hb := C.2.1
  obtain ⟨mc, ms, post, postM, K, Km, hm1, hm2, hH⟩ := op_at (l := l) (h := h) (ad := ad) (by omega : k ≤ 512) hV (xs (6 * k + 1)) (xs (6 * k + 2)) (xs (6 * k + 3))
  obtain ⟨fs9, hmem⟩ := cl_mem hV
  obtain ⟨q9, hq9⟩ := List.getElem?_of_mem hmem
  refine lv_aload_n hx hb dL_law_554 rfl (lv_at hl 2 rfl) ?_
  refine lv_aload_n hx hb dL_law_555 rfl (lv_at hl 3 rfl) ?_
  refine lv_iload_n hx hb dL_law_556 rfl (lv_at hl 0 rfl) ?_
  refine lv_iconst (v := 1) hx hb dL_law_557 (by decide) ?_
  refine lv_iadd hx hb dL_law_558 ?_
  refine k_topi (y := nI (6 * k + 1)) (nI_add _ 1) ?_
  refine va_sld C.1 C.2.1 hX hbl hbA G.2.2.2.1 (vp_in_nI (show 6 * k + 1 < L by omega) (by omega)) dL_law_559 ?_
  refine k_topi (y := xs (6 * k + 1)) (by rw [nI_clamp (by omega)]) ?_
  refine lv_aload_n hx hb dL_law_560 rfl (lv_at hl 3 rfl) ?_
  refine lv_iload_n hx hb dL_law_561 rfl (lv_at hl 0 rfl) ?_
  refine lv_iconst (v := 2) hx hb dL_law_562 (by decide) ?_
  refine lv_iadd hx hb dL_law_563 ?_
  refine k_topi (y := nI (6 * k + 2)) (nI_add _ 2) ?_
  refine va_sld C.1 C.2.1 hX hbl hbA G.2.2.2.1 (vp_in_nI (show 6 * k + 2 < L by omega) (by omega)) dL_law_564 ?_
  refine k_topi (y := xs (6 * k + 2)) (by rw [nI_clamp (by omega)]) ?_
  refine lv_aload_n hx hb dL_law_565 rfl (lv_at hl 3 rfl) ?_
  refine lv_iload_n hx hb dL_law_566 rfl (lv_at hl 0 rfl) ?_
  refine lv_iconst (v := 3) hx hb dL_law_567 (by decide) ?_
  refine lv_iadd hx hb dL_law_568 ?_
  refine k_topi (y := nI (6 * k + 3)) (nI_add _ 3) ?_
  refine va_sld C.1 C.2.1 hX hbl hbA G.2.2.2.1 (vp_in_nI (show 6 * k + 3 < L by omega) (by omega)) dL_law_569 ?_
  refine k_topi (y := xs (6 * k + 3)) (by rw [nI_clamp (by omega)]) ?_
  refine kc_i (Wc := u) (Wr := mdW Z h ad iv av) G (List.Perm.refl _) (krV 3 rfl (As := [.int (xs (6 * k + 1)), .int (xs (6 * k + 2)), .int (xs (6 * k + 3))]) (rest := []) (ci := 11) (CC := RX10) (T := TX10) (N := 14) C G (List.Perm.refl _) (K _) (gdV ml_L_76 im_X10_at se_X10_at ii_X10 co_X10_at) (by decide +kernel) ⟨Nat.le_of_ble_eq_true rfl, Nat.le_of_ble_eq_true rfl⟩ rfl q9 hq9 hl rfl (Nat.le_of_ble_eq_true rfl) ⟨by show cc + mc ≤ 600000; omega, by show cs + ms ≤ 7302250; omega⟩ dL_law_570) (fun r v H locs hp G => ?_)
  refine lv_aload_n hx hb dL_law_573 rfl (lv_at hl 1 rfl) ?_
  refine lv_aload_n hx hb dL_law_574 rfl (lv_at hl 3 rfl) ?_
  refine lv_iload_n hx hb dL_law_575 rfl (lv_at hl 0 rfl) ?_
  refine lv_iconst (v := 1) hx hb dL_law_576 (by decide) ?_
  refine lv_iadd hx hb dL_law_577 ?_
  refine k_topi (y := nI (6 * k + 1)) (nI_add _ 1) ?_
  refine va_sld C.1 C.2.1 hX hbl hbA G.2.2.2.1 (vp_in_nI (show 6 * k + 1 < L by omega) (by omega)) dL_law_578 ?_
  refine k_topi (y := xs (6 * k + 1)) (by rw [nI_clamp (by omega)]) ?_
  refine lv_aload_n hx hb dL_law_579 rfl (lv_at hl 3 rfl) ?_
  refine lv_iload_n hx hb dL_law_580 rfl (lv_at hl 0 rfl) ?_
  refine lv_iconst (v := 2) hx hb dL_law_581 (by decide) ?_
  refine lv_iadd hx hb dL_law_582 ?_
  refine k_topi (y := nI (6 * k + 2)) (nI_add _ 2) ?_
  refine va_sld C.1 C.2.1 hX hbl hbA G.2.2.2.1 (vp_in_nI (show 6 * k + 2 < L by omega) (by omega)) dL_law_583 ?_
  refine k_topi (y := xs (6 * k + 2)) (by rw [nI_clamp (by omega)]) ?_
  refine lv_aload_n hx hb dL_law_584 rfl (lv_at hl 3 rfl) ?_
  refine lv_iload_n hx hb dL_law_585 rfl (lv_at hl 0 rfl) ?_
  refine lv_iconst (v := 3) hx hb dL_law_586 (by decide) ?_
  refine lv_iadd hx hb dL_law_587 ?_
  refine k_topi (y := nI (6 * k + 3)) (nI_add _ 3) ?_
  refine va_sld C.1 C.2.1 hX hbl hbA G.2.2.2.1 (vp_in_nI (show 6 * k + 3 < L by omega) (by omega)) dL_law_588 ?_
  refine k_topi (y := xs (6 * k + 3)) (by rw [nI_clamp (by omega)]) ?_
  refine kc_i (Wc := mdW Z h ad iv av) (Wr := v) G List.perm_append_comm (krV 3 rfl (As := [.int (xs (6 * k + 1)), .int (xs (6 * k + 2)), .int (xs (6 * k + 3))]) (rest := [.int r]) (ci := 12) (CC := RX11) (T := TX11) (N := 61) C G List.perm_append_comm (Km _) (gdV ml_L_80 im_X11_at se_X11_at ii_X11 co_X11_at) (by decide +kernel) ⟨Nat.le_of_ble_eq_true rfl, Nat.le_of_ble_eq_true rfl⟩ rfl 0 rfl hl rfl (Nat.le_of_ble_eq_true rfl) ⟨by show cc + mc + 0 ≤ 600000; omega, by show cs + ms + 0 ≤ 7302250; omega⟩ dL_law_589) (fun r2 v2 H locs hp2 G => ?_)
  obtain ⟨he, iv2, av2, ob2, pc2, ps2, rfl, hV2, hb1, hb2⟩ := hH r v r2 v2 hp hp2
  refine lv_icmp_eq (tgt := 825) hx hb dL_law_592 (by decide) (fun c9 => ?_) (fun c9 => absurd he c9)
  exact kk v iv2 av2 ob2 pc2 ps2 _ _ H locs ls (G.perm List.perm_append_comm) hV2 (by show cc + mc + 0 + pc2 ≤ _; omega) (by show cs + ms + 0 + ps2 ≤ _; omega) hl
set_option maxRecDepth 100000 in
set_option maxHeartbeats 4000000 in
theorem law_find {p : Program} {l : Launch} {e : Env} {s : State} {m : MethodId} {args : Array Value} {below : List Frame} {meth : Method} {c : Code} {Z : zT} {A : Nat → Prop} {Q : State → Prop} {b L k t h : Nat} {ad : Nat → Nat} {xs : Nat → Int32} {nm9 : String} {iv : ivT} {av : avT} {ob : List obT} {pc ps cc cs : Nat} {u : va_W} {H : Heap} {locs : List Loc} {ls : Array Slot} (C : cx p s m args meth c cL_law 4 (some .boolean) RL nm9) (hX : va_X b L xs s s.heap) (hbl : b < s.heap.size) (hbA : ¬ A b) (hL : L ≤ 3072) (hk : 6 * k + 6 ≤ L) (G : wd Z A s (u ++ mdW Z h ad iv av) H locs) (hV : clV Z t k iv av ob pc ps u) (hcc : cc + pc + 9 ≤ 600000) (hcs : cs + ps + 3945 ≤ 7302250) (hl : lv_has ls 4 [(3, .int (nI (6 * k))), (2, .ref h), (1, .ref t), (0, .ref b)]) (kk : lawK p l e s m args below meth c Z A Q b k t h ad pc ps cc cs) : W p l e room_1 s m args below meth c H locs cc cs Q (F0 m 597 ls []) := by
  have hx := C.1
  have hb := C.2.1
  obtain ⟨mc, ms, post, postM, K, Km, hm1, hm2, hH⟩ := op_find (l := l) (h := h) (ad := ad) (by omega : k ≤ 512) hV (xs (6 * k + 1)) (xs (6 * k + 2)) (xs (6 * k + 3)) (xs (6 * k + 4))
  obtain ⟨fs9, hmem⟩ := cl_mem hV
  obtain ⟨q9, hq9⟩ := List.getElem?_of_mem hmem
  refine lv_aload_n hx hb dL_law_597 rfl (lv_at hl 2 rfl) ?_
  refine lv_aload_n hx hb dL_law_598 rfl (lv_at hl 3 rfl) ?_
  refine lv_iload_n hx hb dL_law_599 rfl (lv_at hl 0 rfl) ?_
  refine lv_iconst (v := 1) hx hb dL_law_600 (by decide) ?_
  refine lv_iadd hx hb dL_law_601 ?_
  refine k_topi (y := nI (6 * k + 1)) (nI_add _ 1) ?_
  refine va_sld C.1 C.2.1 hX hbl hbA G.2.2.2.1 (vp_in_nI (show 6 * k + 1 < L by omega) (by omega)) dL_law_602 ?_
  refine k_topi (y := xs (6 * k + 1)) (by rw [nI_clamp (by omega)]) ?_
  refine lv_aload_n hx hb dL_law_603 rfl (lv_at hl 3 rfl) ?_
  refine lv_iload_n hx hb dL_law_604 rfl (lv_at hl 0 rfl) ?_
  refine lv_iconst (v := 2) hx hb dL_law_605 (by decide) ?_
  refine lv_iadd hx hb dL_law_606 ?_
  refine k_topi (y := nI (6 * k + 2)) (nI_add _ 2) ?_
  refine va_sld C.1 C.2.1 hX hbl hbA G.2.2.2.1 (vp_in_nI (show 6 * k + 2 < L by omega) (by omega)) dL_law_607 ?_
  refine k_topi (y := xs (6 * k + 2)) (by rw [nI_clamp (by omega)]) ?_
  refine lv_aload_n hx hb dL_law_608 rfl (lv_at hl 3 rfl) ?_
  refine lv_iload_n hx hb dL_law_609 rfl (lv_at hl 0 rfl) ?_
  refine lv_iconst (v := 3) hx hb dL_law_610 (by decide) ?_
  refine lv_iadd hx hb dL_law_611 ?_
  refine k_topi (y := nI (6 * k + 3)) (nI_add _ 3) ?_
  refine va_sld C.1 C.2.1 hX hbl hbA G.2.2.2.1 (vp_in_nI (show 6 * k + 3 < L by omega) (by omega)) dL_law_612 ?_
  refine k_topi (y := xs (6 * k + 3)) (by rw [nI_clamp (by omega)]) ?_
  refine lv_aload_n hx hb dL_law_613 rfl (lv_at hl 3 rfl) ?_
  refine lv_iload_n hx hb dL_law_614 rfl (lv_at hl 0 rfl) ?_
  refine lv_iconst (v := 4) hx hb dL_law_615 (by decide) ?_
  refine lv_iadd hx hb dL_law_616 ?_
  refine k_topi (y := nI (6 * k + 4)) (nI_add _ 4) ?_
  refine va_sld C.1 C.2.1 hX hbl hbA G.2.2.2.1 (vp_in_nI (show 6 * k + 4 < L by omega) (by omega)) dL_law_617 ?_
  refine k_topi (y := xs (6 * k + 4)) (by rw [nI_clamp (by omega)]) ?_
  refine kc_i (Wc := u) (Wr := mdW Z h ad iv av) G (List.Perm.refl _) (krV 4 rfl (As := [.int (xs (6 * k + 1)), .int (xs (6 * k + 2)), .int (xs (6 * k + 3)), .int (xs (6 * k + 4))]) (rest := []) (ci := 11) (CC := RX10) (T := TX10) (N := 14) C G (List.Perm.refl _) (K _) (gdV ml_L_81 im_X10_find se_X10_find ii_X10 co_X10_find) (by decide +kernel) ⟨Nat.le_of_ble_eq_true rfl, Nat.le_of_ble_eq_true rfl⟩ rfl q9 hq9 hl rfl (Nat.le_of_ble_eq_true rfl) ⟨by show cc + mc ≤ 600000; omega, by show cs + ms ≤ 7302250; omega⟩ dL_law_618) (fun r v H locs hp G => ?_)
  refine lv_aload_n hx hb dL_law_621 rfl (lv_at hl 1 rfl) ?_
  refine lv_aload_n hx hb dL_law_622 rfl (lv_at hl 3 rfl) ?_
  refine lv_iload_n hx hb dL_law_623 rfl (lv_at hl 0 rfl) ?_
  refine lv_iconst (v := 1) hx hb dL_law_624 (by decide) ?_
  refine lv_iadd hx hb dL_law_625 ?_
  refine k_topi (y := nI (6 * k + 1)) (nI_add _ 1) ?_
  refine va_sld C.1 C.2.1 hX hbl hbA G.2.2.2.1 (vp_in_nI (show 6 * k + 1 < L by omega) (by omega)) dL_law_626 ?_
  refine k_topi (y := xs (6 * k + 1)) (by rw [nI_clamp (by omega)]) ?_
  refine lv_aload_n hx hb dL_law_627 rfl (lv_at hl 3 rfl) ?_
  refine lv_iload_n hx hb dL_law_628 rfl (lv_at hl 0 rfl) ?_
  refine lv_iconst (v := 2) hx hb dL_law_629 (by decide) ?_
  refine lv_iadd hx hb dL_law_630 ?_
  refine k_topi (y := nI (6 * k + 2)) (nI_add _ 2) ?_
  refine va_sld C.1 C.2.1 hX hbl hbA G.2.2.2.1 (vp_in_nI (show 6 * k + 2 < L by omega) (by omega)) dL_law_631 ?_
  refine k_topi (y := xs (6 * k + 2)) (by rw [nI_clamp (by omega)]) ?_
  refine lv_aload_n hx hb dL_law_632 rfl (lv_at hl 3 rfl) ?_
  refine lv_iload_n hx hb dL_law_633 rfl (lv_at hl 0 rfl) ?_
  refine lv_iconst (v := 3) hx hb dL_law_634 (by decide) ?_
  refine lv_iadd hx hb dL_law_635 ?_
  refine k_topi (y := nI (6 * k + 3)) (nI_add _ 3) ?_
  refine va_sld C.1 C.2.1 hX hbl hbA G.2.2.2.1 (vp_in_nI (show 6 * k + 3 < L by omega) (by omega)) dL_law_636 ?_
  refine k_topi (y := xs (6 * k + 3)) (by rw [nI_clamp (by omega)]) ?_
  refine lv_aload_n hx hb dL_law_637 rfl (lv_at hl 3 rfl) ?_
  refine lv_iload_n hx hb dL_law_638 rfl (lv_at hl 0 rfl) ?_
  refine lv_iconst (v := 4) hx hb dL_law_639 (by decide) ?_
  refine lv_iadd hx hb dL_law_640 ?_
  refine k_topi (y := nI (6 * k + 4)) (nI_add _ 4) ?_
  refine va_sld C.1 C.2.1 hX hbl hbA G.2.2.2.1 (vp_in_nI (show 6 * k + 4 < L by omega) (by omega)) dL_law_641 ?_
  refine k_topi (y := xs (6 * k + 4)) (by rw [nI_clamp (by omega)]) ?_
  refine kc_i (Wc := mdW Z h ad iv av) (Wr := v) G List.perm_append_comm (krV 4 rfl (As := [.int (xs (6 * k + 1)), .int (xs (6 * k + 2)), .int (xs (6 * k + 3)), .int (xs (6 * k + 4))]) (rest := [.int r]) (ci := 12) (CC := RX11) (T := TX11) (N := 61) C G List.perm_append_comm (Km _) (gdV ml_L_85 im_X11_find se_X11_find ii_X11 co_X11_find) (by decide +kernel) ⟨Nat.le_of_ble_eq_true rfl, Nat.le_of_ble_eq_true rfl⟩ rfl 0 rfl hl rfl (Nat.le_of_ble_eq_true rfl) ⟨by show cc + mc + 0 ≤ 600000; omega, by show cs + ms + 0 ≤ 7302250; omega⟩ dL_law_642) (fun r2 v2 H locs hp2 G => ?_)
  obtain ⟨he, iv2, av2, ob2, pc2, ps2, rfl, hV2, hb1, hb2⟩ := hH r v r2 v2 hp hp2
  refine lv_icmp_eq (tgt := 825) hx hb dL_law_645 (by decide) (fun c9 => ?_) (fun c9 => absurd he c9)
  exact kk v iv2 av2 ob2 pc2 ps2 _ _ H locs ls (G.perm List.perm_append_comm) hV2 (by show cc + mc + 0 + pc2 ≤ _; omega) (by show cs + ms + 0 + ps2 ≤ _; omega) hl
set_option maxRecDepth 100000 in
set_option maxHeartbeats 4000000 in
theorem law_found {p : Program} {l : Launch} {e : Env} {s : State} {m : MethodId} {args : Array Value} {below : List Frame} {meth : Method} {c : Code} {Z : zT} {A : Nat → Prop} {Q : State → Prop} {b L k t h : Nat} {ad : Nat → Nat} {xs : Nat → Int32} {nm9 : String} {iv : ivT} {av : avT} {ob : List obT} {pc ps cc cs : Nat} {u : va_W} {H : Heap} {locs : List Loc} {ls : Array Slot} (C : cx p s m args meth c cL_law 4 (some .boolean) RL nm9) (hX : va_X b L xs s s.heap) (hbl : b < s.heap.size) (hbA : ¬ A b) (hL : L ≤ 3072) (hk : 6 * k + 6 ≤ L) (G : wd Z A s (u ++ mdW Z h ad iv av) H locs) (hV : clV Z t k iv av ob pc ps u) (hcc : cc + pc + 9 ≤ 600000) (hcs : cs + ps + 3945 ≤ 7302250) (hl : lv_has ls 4 [(3, .int (nI (6 * k))), (2, .ref h), (1, .ref t), (0, .ref b)]) (kk : lawK p l e s m args below meth c Z A Q b k t h ad pc ps cc cs) : W p l e room_1 s m args below meth c H locs cc cs Q (F0 m 650 ls []) := by
  have hx := C.1
  have hb := C.2.1
  obtain ⟨mc, ms, post, postM, K, Km, hm1, hm2, hH⟩ := op_found (l := l) (h := h) (ad := ad) (by omega : k ≤ 512) hV (xs (6 * k + 1))
  obtain ⟨fs9, hmem⟩ := cl_mem hV
  obtain ⟨q9, hq9⟩ := List.getElem?_of_mem hmem
  refine lv_aload_n hx hb dL_law_650 rfl (lv_at hl 2 rfl) ?_
  refine lv_aload_n hx hb dL_law_651 rfl (lv_at hl 3 rfl) ?_
  refine lv_iload_n hx hb dL_law_652 rfl (lv_at hl 0 rfl) ?_
  refine lv_iconst (v := 1) hx hb dL_law_653 (by decide) ?_
  refine lv_iadd hx hb dL_law_654 ?_
  refine k_topi (y := nI (6 * k + 1)) (nI_add _ 1) ?_
  refine va_sld C.1 C.2.1 hX hbl hbA G.2.2.2.1 (vp_in_nI (show 6 * k + 1 < L by omega) (by omega)) dL_law_655 ?_
  refine k_topi (y := xs (6 * k + 1)) (by rw [nI_clamp (by omega)]) ?_
  refine kc_i (Wc := u) (Wr := mdW Z h ad iv av) G (List.Perm.refl _) (krV 1 rfl (As := [.int (xs (6 * k + 1))]) (rest := []) (ci := 11) (CC := RX10) (T := TX10) (N := 14) C G (List.Perm.refl _) (K _) (gdV ml_L_86 im_X10_found se_X10_found ii_X10 co_X10_found) (by decide +kernel) ⟨Nat.le_of_ble_eq_true rfl, Nat.le_of_ble_eq_true rfl⟩ rfl q9 hq9 hl rfl (Nat.le_of_ble_eq_true rfl) ⟨by show cc + mc ≤ 600000; omega, by show cs + ms ≤ 7302250; omega⟩ dL_law_656) (fun r v H locs hp G => ?_)
  refine lv_aload_n hx hb dL_law_659 rfl (lv_at hl 1 rfl) ?_
  refine lv_aload_n hx hb dL_law_660 rfl (lv_at hl 3 rfl) ?_
  refine lv_iload_n hx hb dL_law_661 rfl (lv_at hl 0 rfl) ?_
  refine lv_iconst (v := 1) hx hb dL_law_662 (by decide) ?_
  refine lv_iadd hx hb dL_law_663 ?_
  refine k_topi (y := nI (6 * k + 1)) (nI_add _ 1) ?_
  refine va_sld C.1 C.2.1 hX hbl hbA G.2.2.2.1 (vp_in_nI (show 6 * k + 1 < L by omega) (by omega)) dL_law_664 ?_
  refine k_topi (y := xs (6 * k + 1)) (by rw [nI_clamp (by omega)]) ?_
  refine kc_i (Wc := mdW Z h ad iv av) (Wr := v) G List.perm_append_comm (krV 1 rfl (As := [.int (xs (6 * k + 1))]) (rest := [.int r]) (ci := 12) (CC := RX11) (T := TX11) (N := 61) C G List.perm_append_comm (Km _) (gdV ml_L_89 im_X11_found se_X11_found ii_X11 co_X11_found) (by decide +kernel) ⟨Nat.le_of_ble_eq_true rfl, Nat.le_of_ble_eq_true rfl⟩ rfl 0 rfl hl rfl (Nat.le_of_ble_eq_true rfl) ⟨by show cc + mc + 0 ≤ 600000; omega, by show cs + ms + 0 ≤ 7302250; omega⟩ dL_law_665) (fun r2 v2 H locs hp2 G => ?_)
  obtain ⟨he, iv2, av2, ob2, pc2, ps2, rfl, hV2, hb1, hb2⟩ := hH r v r2 v2 hp hp2
  refine lv_icmp_eq (tgt := 825) hx hb dL_law_668 (by decide) (fun c9 => ?_) (fun c9 => absurd he c9)
  exact kk v iv2 av2 ob2 pc2 ps2 _ _ H locs ls (G.perm List.perm_append_comm) hV2 (by show cc + mc + 0 + pc2 ≤ _; omega) (by show cs + ms + 0 + ps2 ≤ _; omega) hl
set_option maxRecDepth 100000 in
set_option maxHeartbeats 4000000 in
theorem law_size {p : Program} {l : Launch} {e : Env} {s : State} {m : MethodId} {args : Array Value} {below : List Frame} {meth : Method} {c : Code} {Z : zT} {A : Nat → Prop} {Q : State → Prop} {b L k t h : Nat} {ad : Nat → Nat} {xs : Nat → Int32} {nm9 : String} {iv : ivT} {av : avT} {ob : List obT} {pc ps cc cs : Nat} {u : va_W} {H : Heap} {locs : List Loc} {ls : Array Slot} (C : cx p s m args meth c cL_law 4 (some .boolean) RL nm9) (hX : va_X b L xs s s.heap) (hbl : b < s.heap.size) (hbA : ¬ A b) (hL : L ≤ 3072) (hk : 6 * k + 6 ≤ L) (G : wd Z A s (u ++ mdW Z h ad iv av) H locs) (hV : clV Z t k iv av ob pc ps u) (hcc : cc + pc + 9 ≤ 600000) (hcs : cs + ps + 3945 ≤ 7302250) (hl : lv_has ls 4 [(3, .int (nI (6 * k))), (2, .ref h), (1, .ref t), (0, .ref b)]) (kk : lawK p l e s m args below meth c Z A Q b k t h ad pc ps cc cs) : W p l e room_1 s m args below meth c H locs cc cs Q (F0 m 673 ls []) := by
  have hx := C.1
  have hb := C.2.1
  obtain ⟨mc, ms, post, postM, K, Km, hm1, hm2, hH⟩ := op_size (l := l) (h := h) (ad := ad) (by omega : k ≤ 512) hV (xs (6 * k + 1)) (xs (6 * k + 2))
  obtain ⟨fs9, hmem⟩ := cl_mem hV
  obtain ⟨q9, hq9⟩ := List.getElem?_of_mem hmem
  refine lv_aload_n hx hb dL_law_673 rfl (lv_at hl 2 rfl) ?_
  refine lv_aload_n hx hb dL_law_674 rfl (lv_at hl 3 rfl) ?_
  refine lv_iload_n hx hb dL_law_675 rfl (lv_at hl 0 rfl) ?_
  refine lv_iconst (v := 1) hx hb dL_law_676 (by decide) ?_
  refine lv_iadd hx hb dL_law_677 ?_
  refine k_topi (y := nI (6 * k + 1)) (nI_add _ 1) ?_
  refine va_sld C.1 C.2.1 hX hbl hbA G.2.2.2.1 (vp_in_nI (show 6 * k + 1 < L by omega) (by omega)) dL_law_678 ?_
  refine k_topi (y := xs (6 * k + 1)) (by rw [nI_clamp (by omega)]) ?_
  refine lv_aload_n hx hb dL_law_679 rfl (lv_at hl 3 rfl) ?_
  refine lv_iload_n hx hb dL_law_680 rfl (lv_at hl 0 rfl) ?_
  refine lv_iconst (v := 2) hx hb dL_law_681 (by decide) ?_
  refine lv_iadd hx hb dL_law_682 ?_
  refine k_topi (y := nI (6 * k + 2)) (nI_add _ 2) ?_
  refine va_sld C.1 C.2.1 hX hbl hbA G.2.2.2.1 (vp_in_nI (show 6 * k + 2 < L by omega) (by omega)) dL_law_683 ?_
  refine k_topi (y := xs (6 * k + 2)) (by rw [nI_clamp (by omega)]) ?_
  refine kc_i (Wc := u) (Wr := mdW Z h ad iv av) G (List.Perm.refl _) (krV 2 rfl (As := [.int (xs (6 * k + 1)), .int (xs (6 * k + 2))]) (rest := []) (ci := 11) (CC := RX10) (T := TX10) (N := 14) C G (List.Perm.refl _) (K _) (gdV ml_L_90 im_X10_size se_X10_size ii_X10 co_X10_size) (by decide +kernel) ⟨Nat.le_of_ble_eq_true rfl, Nat.le_of_ble_eq_true rfl⟩ rfl q9 hq9 hl rfl (Nat.le_of_ble_eq_true rfl) ⟨by show cc + mc ≤ 600000; omega, by show cs + ms ≤ 7302250; omega⟩ dL_law_684) (fun r v H locs hp G => ?_)
  refine lv_aload_n hx hb dL_law_687 rfl (lv_at hl 1 rfl) ?_
  refine lv_aload_n hx hb dL_law_688 rfl (lv_at hl 3 rfl) ?_
  refine lv_iload_n hx hb dL_law_689 rfl (lv_at hl 0 rfl) ?_
  refine lv_iconst (v := 1) hx hb dL_law_690 (by decide) ?_
  refine lv_iadd hx hb dL_law_691 ?_
  refine k_topi (y := nI (6 * k + 1)) (nI_add _ 1) ?_
  refine va_sld C.1 C.2.1 hX hbl hbA G.2.2.2.1 (vp_in_nI (show 6 * k + 1 < L by omega) (by omega)) dL_law_692 ?_
  refine k_topi (y := xs (6 * k + 1)) (by rw [nI_clamp (by omega)]) ?_
  refine lv_aload_n hx hb dL_law_693 rfl (lv_at hl 3 rfl) ?_
  refine lv_iload_n hx hb dL_law_694 rfl (lv_at hl 0 rfl) ?_
  refine lv_iconst (v := 2) hx hb dL_law_695 (by decide) ?_
  refine lv_iadd hx hb dL_law_696 ?_
  refine k_topi (y := nI (6 * k + 2)) (nI_add _ 2) ?_
  refine va_sld C.1 C.2.1 hX hbl hbA G.2.2.2.1 (vp_in_nI (show 6 * k + 2 < L by omega) (by omega)) dL_law_697 ?_
  refine k_topi (y := xs (6 * k + 2)) (by rw [nI_clamp (by omega)]) ?_
  refine kc_i (Wc := mdW Z h ad iv av) (Wr := v) G List.perm_append_comm (krV 2 rfl (As := [.int (xs (6 * k + 1)), .int (xs (6 * k + 2))]) (rest := [.int r]) (ci := 12) (CC := RX11) (T := TX11) (N := 61) C G List.perm_append_comm (Km _) (gdV ml_L_93 im_X11_size se_X11_size ii_X11 co_X11_size) (by decide +kernel) ⟨Nat.le_of_ble_eq_true rfl, Nat.le_of_ble_eq_true rfl⟩ rfl 0 rfl hl rfl (Nat.le_of_ble_eq_true rfl) ⟨by show cc + mc + 0 ≤ 600000; omega, by show cs + ms + 0 ≤ 7302250; omega⟩ dL_law_698) (fun r2 v2 H locs hp2 G => ?_)
  obtain ⟨he, iv2, av2, ob2, pc2, ps2, rfl, hV2, hb1, hb2⟩ := hH r v r2 v2 hp hp2
  refine lv_icmp_eq (tgt := 825) hx hb dL_law_701 (by decide) (fun c9 => ?_) (fun c9 => absurd he c9)
  exact kk v iv2 av2 ob2 pc2 ps2 _ _ H locs ls (G.perm List.perm_append_comm) hV2 (by show cc + mc + 0 + pc2 ≤ _; omega) (by show cs + ms + 0 + ps2 ≤ _; omega) hl
set_option maxRecDepth 100000 in
set_option maxHeartbeats 4000000 in
theorem law_octet {p : Program} {l : Launch} {e : Env} {s : State} {m : MethodId} {args : Array Value} {below : List Frame} {meth : Method} {c : Code} {Z : zT} {A : Nat → Prop} {Q : State → Prop} {b L k t h : Nat} {ad : Nat → Nat} {xs : Nat → Int32} {nm9 : String} {iv : ivT} {av : avT} {ob : List obT} {pc ps cc cs : Nat} {u : va_W} {H : Heap} {locs : List Loc} {ls : Array Slot} (C : cx p s m args meth c cL_law 4 (some .boolean) RL nm9) (hX : va_X b L xs s s.heap) (hbl : b < s.heap.size) (hbA : ¬ A b) (hL : L ≤ 3072) (hk : 6 * k + 6 ≤ L) (G : wd Z A s (u ++ mdW Z h ad iv av) H locs) (hV : clV Z t k iv av ob pc ps u) (hcc : cc + pc + 9 ≤ 600000) (hcs : cs + ps + 3945 ≤ 7302250) (hl : lv_has ls 4 [(3, .int (nI (6 * k))), (2, .ref h), (1, .ref t), (0, .ref b)]) (kk : lawK p l e s m args below meth c Z A Q b k t h ad pc ps cc cs) : W p l e room_1 s m args below meth c H locs cc cs Q (F0 m 706 ls []) := by
  have hx := C.1
  have hb := C.2.1
  obtain ⟨mc, ms, post, postM, K, Km, hm1, hm2, hH⟩ := op_octet (l := l) (h := h) (ad := ad) (by omega : k ≤ 512) hV (xs (6 * k + 1)) (xs (6 * k + 2)) (xs (6 * k + 3))
  obtain ⟨fs9, hmem⟩ := cl_mem hV
  obtain ⟨q9, hq9⟩ := List.getElem?_of_mem hmem
  refine lv_aload_n hx hb dL_law_706 rfl (lv_at hl 2 rfl) ?_
  refine lv_aload_n hx hb dL_law_707 rfl (lv_at hl 3 rfl) ?_
  refine lv_iload_n hx hb dL_law_708 rfl (lv_at hl 0 rfl) ?_
  refine lv_iconst (v := 1) hx hb dL_law_709 (by decide) ?_
  refine lv_iadd hx hb dL_law_710 ?_
  refine k_topi (y := nI (6 * k + 1)) (nI_add _ 1) ?_
  refine va_sld C.1 C.2.1 hX hbl hbA G.2.2.2.1 (vp_in_nI (show 6 * k + 1 < L by omega) (by omega)) dL_law_711 ?_
  refine k_topi (y := xs (6 * k + 1)) (by rw [nI_clamp (by omega)]) ?_
  refine lv_aload_n hx hb dL_law_712 rfl (lv_at hl 3 rfl) ?_
  refine lv_iload_n hx hb dL_law_713 rfl (lv_at hl 0 rfl) ?_
  refine lv_iconst (v := 2) hx hb dL_law_714 (by decide) ?_
  refine lv_iadd hx hb dL_law_715 ?_
  refine k_topi (y := nI (6 * k + 2)) (nI_add _ 2) ?_
  refine va_sld C.1 C.2.1 hX hbl hbA G.2.2.2.1 (vp_in_nI (show 6 * k + 2 < L by omega) (by omega)) dL_law_716 ?_
  refine k_topi (y := xs (6 * k + 2)) (by rw [nI_clamp (by omega)]) ?_
  refine lv_aload_n hx hb dL_law_717 rfl (lv_at hl 3 rfl) ?_
  refine lv_iload_n hx hb dL_law_718 rfl (lv_at hl 0 rfl) ?_
  refine lv_iconst (v := 3) hx hb dL_law_719 (by decide) ?_
  refine lv_iadd hx hb dL_law_720 ?_
  refine k_topi (y := nI (6 * k + 3)) (nI_add _ 3) ?_
  refine va_sld C.1 C.2.1 hX hbl hbA G.2.2.2.1 (vp_in_nI (show 6 * k + 3 < L by omega) (by omega)) dL_law_721 ?_
  refine k_topi (y := xs (6 * k + 3)) (by rw [nI_clamp (by omega)]) ?_
  refine kc_i (Wc := u) (Wr := mdW Z h ad iv av) G (List.Perm.refl _) (krV 3 rfl (As := [.int (xs (6 * k + 1)), .int (xs (6 * k + 2)), .int (xs (6 * k + 3))]) (rest := []) (ci := 11) (CC := RX10) (T := TX10) (N := 14) C G (List.Perm.refl _) (K _) (gdV ml_L_94 im_X10_octet se_X10_octet ii_X10 co_X10_octet) (by decide +kernel) ⟨Nat.le_of_ble_eq_true rfl, Nat.le_of_ble_eq_true rfl⟩ rfl q9 hq9 hl rfl (Nat.le_of_ble_eq_true rfl) ⟨by show cc + mc ≤ 600000; omega, by show cs + ms ≤ 7302250; omega⟩ dL_law_722) (fun r v H locs hp G => ?_)
  refine lv_aload_n hx hb dL_law_725 rfl (lv_at hl 1 rfl) ?_
  refine lv_aload_n hx hb dL_law_726 rfl (lv_at hl 3 rfl) ?_
  refine lv_iload_n hx hb dL_law_727 rfl (lv_at hl 0 rfl) ?_
  refine lv_iconst (v := 1) hx hb dL_law_728 (by decide) ?_
  refine lv_iadd hx hb dL_law_729 ?_
  refine k_topi (y := nI (6 * k + 1)) (nI_add _ 1) ?_
  refine va_sld C.1 C.2.1 hX hbl hbA G.2.2.2.1 (vp_in_nI (show 6 * k + 1 < L by omega) (by omega)) dL_law_730 ?_
  refine k_topi (y := xs (6 * k + 1)) (by rw [nI_clamp (by omega)]) ?_
  refine lv_aload_n hx hb dL_law_731 rfl (lv_at hl 3 rfl) ?_
  refine lv_iload_n hx hb dL_law_732 rfl (lv_at hl 0 rfl) ?_
  refine lv_iconst (v := 2) hx hb dL_law_733 (by decide) ?_
  refine lv_iadd hx hb dL_law_734 ?_
  refine k_topi (y := nI (6 * k + 2)) (nI_add _ 2) ?_
  refine va_sld C.1 C.2.1 hX hbl hbA G.2.2.2.1 (vp_in_nI (show 6 * k + 2 < L by omega) (by omega)) dL_law_735 ?_
  refine k_topi (y := xs (6 * k + 2)) (by rw [nI_clamp (by omega)]) ?_
  refine lv_aload_n hx hb dL_law_736 rfl (lv_at hl 3 rfl) ?_
  refine lv_iload_n hx hb dL_law_737 rfl (lv_at hl 0 rfl) ?_
  refine lv_iconst (v := 3) hx hb dL_law_738 (by decide) ?_
  refine lv_iadd hx hb dL_law_739 ?_
  refine k_topi (y := nI (6 * k + 3)) (nI_add _ 3) ?_
  refine va_sld C.1 C.2.1 hX hbl hbA G.2.2.2.1 (vp_in_nI (show 6 * k + 3 < L by omega) (by omega)) dL_law_740 ?_
  refine k_topi (y := xs (6 * k + 3)) (by rw [nI_clamp (by omega)]) ?_
  refine kc_i (Wc := mdW Z h ad iv av) (Wr := v) G List.perm_append_comm (krV 3 rfl (As := [.int (xs (6 * k + 1)), .int (xs (6 * k + 2)), .int (xs (6 * k + 3))]) (rest := [.int r]) (ci := 12) (CC := RX11) (T := TX11) (N := 61) C G List.perm_append_comm (Km _) (gdV ml_L_97 im_X11_octet se_X11_octet ii_X11 co_X11_octet) (by decide +kernel) ⟨Nat.le_of_ble_eq_true rfl, Nat.le_of_ble_eq_true rfl⟩ rfl 0 rfl hl rfl (Nat.le_of_ble_eq_true rfl) ⟨by show cc + mc + 0 ≤ 600000; omega, by show cs + ms + 0 ≤ 7302250; omega⟩ dL_law_741) (fun r2 v2 H locs hp2 G => ?_)
  obtain ⟨he, iv2, av2, ob2, pc2, ps2, rfl, hV2, hb1, hb2⟩ := hH r v r2 v2 hp hp2
  refine lv_icmp_eq (tgt := 825) hx hb dL_law_744 (by decide) (fun c9 => ?_) (fun c9 => absurd he c9)
  exact kk v iv2 av2 ob2 pc2 ps2 _ _ H locs ls (G.perm List.perm_append_comm) hV2 (by show cc + mc + 0 + pc2 ≤ _; omega) (by show cs + ms + 0 + ps2 ≤ _; omega) hl
set_option maxRecDepth 100000 in
set_option maxHeartbeats 4000000 in
theorem law_spoil {p : Program} {l : Launch} {e : Env} {s : State} {m : MethodId} {args : Array Value} {below : List Frame} {meth : Method} {c : Code} {Z : zT} {A : Nat → Prop} {Q : State → Prop} {b L k t h : Nat} {ad : Nat → Nat} {xs : Nat → Int32} {nm9 : String} {iv : ivT} {av : avT} {ob : List obT} {pc ps cc cs : Nat} {u : va_W} {H : Heap} {locs : List Loc} {ls : Array Slot} (C : cx p s m args meth c cL_law 4 (some .boolean) RL nm9) (hX : va_X b L xs s s.heap) (hbl : b < s.heap.size) (hbA : ¬ A b) (hL : L ≤ 3072) (hk : 6 * k + 6 ≤ L) (G : wd Z A s (u ++ mdW Z h ad iv av) H locs) (hV : clV Z t k iv av ob pc ps u) (hcc : cc + pc + 9 ≤ 600000) (hcs : cs + ps + 3945 ≤ 7302250) (hl : lv_has ls 4 [(3, .int (nI (6 * k))), (2, .ref h), (1, .ref t), (0, .ref b)]) (kk : lawK p l e s m args below meth c Z A Q b k t h ad pc ps cc cs) : W p l e room_1 s m args below meth c H locs cc cs Q (F0 m 749 ls []) := by
  have hx := C.1
  have hb := C.2.1
  obtain ⟨mc, ms, post, postM, K, Km, hm1, hm2, hH⟩ := op_spoil (l := l) (h := h) (ad := ad) (by omega : k ≤ 512) hV (xs (6 * k + 1)) (xs (6 * k + 2)) (xs (6 * k + 3)) (xs (6 * k + 4))
  obtain ⟨fs9, hmem⟩ := cl_mem hV
  obtain ⟨q9, hq9⟩ := List.getElem?_of_mem hmem
  refine lv_aload_n hx hb dL_law_749 rfl (lv_at hl 2 rfl) ?_
  refine lv_aload_n hx hb dL_law_750 rfl (lv_at hl 3 rfl) ?_
  refine lv_iload_n hx hb dL_law_751 rfl (lv_at hl 0 rfl) ?_
  refine lv_iconst (v := 1) hx hb dL_law_752 (by decide) ?_
  refine lv_iadd hx hb dL_law_753 ?_
  refine k_topi (y := nI (6 * k + 1)) (nI_add _ 1) ?_
  refine va_sld C.1 C.2.1 hX hbl hbA G.2.2.2.1 (vp_in_nI (show 6 * k + 1 < L by omega) (by omega)) dL_law_754 ?_
  refine k_topi (y := xs (6 * k + 1)) (by rw [nI_clamp (by omega)]) ?_
  refine lv_aload_n hx hb dL_law_755 rfl (lv_at hl 3 rfl) ?_
  refine lv_iload_n hx hb dL_law_756 rfl (lv_at hl 0 rfl) ?_
  refine lv_iconst (v := 2) hx hb dL_law_757 (by decide) ?_
  refine lv_iadd hx hb dL_law_758 ?_
  refine k_topi (y := nI (6 * k + 2)) (nI_add _ 2) ?_
  refine va_sld C.1 C.2.1 hX hbl hbA G.2.2.2.1 (vp_in_nI (show 6 * k + 2 < L by omega) (by omega)) dL_law_759 ?_
  refine k_topi (y := xs (6 * k + 2)) (by rw [nI_clamp (by omega)]) ?_
  refine lv_aload_n hx hb dL_law_760 rfl (lv_at hl 3 rfl) ?_
  refine lv_iload_n hx hb dL_law_761 rfl (lv_at hl 0 rfl) ?_
  refine lv_iconst (v := 3) hx hb dL_law_762 (by decide) ?_
  refine lv_iadd hx hb dL_law_763 ?_
  refine k_topi (y := nI (6 * k + 3)) (nI_add _ 3) ?_
  refine va_sld C.1 C.2.1 hX hbl hbA G.2.2.2.1 (vp_in_nI (show 6 * k + 3 < L by omega) (by omega)) dL_law_764 ?_
  refine k_topi (y := xs (6 * k + 3)) (by rw [nI_clamp (by omega)]) ?_
  refine lv_aload_n hx hb dL_law_765 rfl (lv_at hl 3 rfl) ?_
  refine lv_iload_n hx hb dL_law_766 rfl (lv_at hl 0 rfl) ?_
  refine lv_iconst (v := 4) hx hb dL_law_767 (by decide) ?_
  refine lv_iadd hx hb dL_law_768 ?_
  refine k_topi (y := nI (6 * k + 4)) (nI_add _ 4) ?_
  refine va_sld C.1 C.2.1 hX hbl hbA G.2.2.2.1 (vp_in_nI (show 6 * k + 4 < L by omega) (by omega)) dL_law_769 ?_
  refine k_topi (y := xs (6 * k + 4)) (by rw [nI_clamp (by omega)]) ?_
  refine kc_i (Wc := u) (Wr := mdW Z h ad iv av) G (List.Perm.refl _) (krV 4 rfl (As := [.int (xs (6 * k + 1)), .int (xs (6 * k + 2)), .int (xs (6 * k + 3)), .int (xs (6 * k + 4))]) (rest := []) (ci := 11) (CC := RX10) (T := TX10) (N := 14) C G (List.Perm.refl _) (K _) (gdV ml_L_98 im_X10_spoil se_X10_spoil ii_X10 co_X10_spoil) (by decide +kernel) ⟨Nat.le_of_ble_eq_true rfl, Nat.le_of_ble_eq_true rfl⟩ rfl q9 hq9 hl rfl (Nat.le_of_ble_eq_true rfl) ⟨by show cc + mc ≤ 600000; omega, by show cs + ms ≤ 7302250; omega⟩ dL_law_770) (fun r v H locs hp G => ?_)
  refine lv_aload_n hx hb dL_law_773 rfl (lv_at hl 1 rfl) ?_
  refine lv_aload_n hx hb dL_law_774 rfl (lv_at hl 3 rfl) ?_
  refine lv_iload_n hx hb dL_law_775 rfl (lv_at hl 0 rfl) ?_
  refine lv_iconst (v := 1) hx hb dL_law_776 (by decide) ?_
  refine lv_iadd hx hb dL_law_777 ?_
  refine k_topi (y := nI (6 * k + 1)) (nI_add _ 1) ?_
  refine va_sld C.1 C.2.1 hX hbl hbA G.2.2.2.1 (vp_in_nI (show 6 * k + 1 < L by omega) (by omega)) dL_law_778 ?_
  refine k_topi (y := xs (6 * k + 1)) (by rw [nI_clamp (by omega)]) ?_
  refine lv_aload_n hx hb dL_law_779 rfl (lv_at hl 3 rfl) ?_
  refine lv_iload_n hx hb dL_law_780 rfl (lv_at hl 0 rfl) ?_
  refine lv_iconst (v := 2) hx hb dL_law_781 (by decide) ?_
  refine lv_iadd hx hb dL_law_782 ?_
  refine k_topi (y := nI (6 * k + 2)) (nI_add _ 2) ?_
  refine va_sld C.1 C.2.1 hX hbl hbA G.2.2.2.1 (vp_in_nI (show 6 * k + 2 < L by omega) (by omega)) dL_law_783 ?_
  refine k_topi (y := xs (6 * k + 2)) (by rw [nI_clamp (by omega)]) ?_
  refine lv_aload_n hx hb dL_law_784 rfl (lv_at hl 3 rfl) ?_
  refine lv_iload_n hx hb dL_law_785 rfl (lv_at hl 0 rfl) ?_
  refine lv_iconst (v := 3) hx hb dL_law_786 (by decide) ?_
  refine lv_iadd hx hb dL_law_787 ?_
  refine k_topi (y := nI (6 * k + 3)) (nI_add _ 3) ?_
  refine va_sld C.1 C.2.1 hX hbl hbA G.2.2.2.1 (vp_in_nI (show 6 * k + 3 < L by omega) (by omega)) dL_law_788 ?_
  refine k_topi (y := xs (6 * k + 3)) (by rw [nI_clamp (by omega)]) ?_
  refine lv_aload_n hx hb dL_law_789 rfl (lv_at hl 3 rfl) ?_
  refine lv_iload_n hx hb dL_law_790 rfl (lv_at hl 0 rfl) ?_
  refine lv_iconst (v := 4) hx hb dL_law_791 (by decide) ?_
  refine lv_iadd hx hb dL_law_792 ?_
  refine k_topi (y := nI (6 * k + 4)) (nI_add _ 4) ?_
  refine va_sld C.1 C.2.1 hX hbl hbA G.2.2.2.1 (vp_in_nI (show 6 * k + 4 < L by omega) (by omega)) dL_law_793 ?_
  refine k_topi (y := xs (6 * k + 4)) (by rw [nI_clamp (by omega)]) ?_
  refine kc_i (Wc := mdW Z h ad iv av) (Wr := v) G List.perm_append_comm (krV 4 rfl (As := [.int (xs (6 * k + 1)), .int (xs (6 * k + 2)), .int (xs (6 * k + 3)), .int (xs (6 * k + 4))]) (rest := [.int r]) (ci := 12) (CC := RX11) (T := TX11) (N := 61) C G List.perm_append_comm (Km _) (gdV ml_L_101 im_X11_spoil se_X11_spoil ii_X11 co_X11_spoil) (by decide +kernel) ⟨Nat.le_of_ble_eq_true rfl, Nat.le_of_ble_eq_true rfl⟩ rfl 0 rfl hl rfl (Nat.le_of_ble_eq_true rfl) ⟨by show cc + mc + 0 ≤ 600000; omega, by show cs + ms + 0 ≤ 7302250; omega⟩ dL_law_794) (fun r2 v2 H locs hp2 G => ?_)
  obtain ⟨he, iv2, av2, ob2, pc2, ps2, rfl, hV2, hb1, hb2⟩ := hH r v r2 v2 hp hp2
  refine lv_icmp_eq (tgt := 825) hx hb dL_law_797 (by decide) (fun c9 => ?_) (fun c9 => absurd he c9)
  exact kk v iv2 av2 ob2 pc2 ps2 _ _ H locs ls (G.perm List.perm_append_comm) hV2 (by show cc + mc + 0 + pc2 ≤ _; omega) (by show cs + ms + 0 + ps2 ≤ _; omega) hl
set_option maxRecDepth 100000 in
set_option maxHeartbeats 4000000 in
theorem law_count {p : Program} {l : Launch} {e : Env} {s : State} {m : MethodId} {args : Array Value} {below : List Frame} {meth : Method} {c : Code} {Z : zT} {A : Nat → Prop} {Q : State → Prop} {b L k t h : Nat} {ad : Nat → Nat} {xs : Nat → Int32} {nm9 : String} {iv : ivT} {av : avT} {ob : List obT} {pc ps cc cs : Nat} {u : va_W} {H : Heap} {locs : List Loc} {ls : Array Slot} (C : cx p s m args meth c cL_law 4 (some .boolean) RL nm9) (hX : va_X b L xs s s.heap) (hbl : b < s.heap.size) (hbA : ¬ A b) (hL : L ≤ 3072) (hk : 6 * k + 6 ≤ L) (G : wd Z A s (u ++ mdW Z h ad iv av) H locs) (hV : clV Z t k iv av ob pc ps u) (hcc : cc + pc + 9 ≤ 600000) (hcs : cs + ps + 3945 ≤ 7302250) (hl : lv_has ls 4 [(3, .int (nI (6 * k))), (2, .ref h), (1, .ref t), (0, .ref b)]) (kk : lawK p l e s m args below meth c Z A Q b k t h ad pc ps cc cs) : W p l e room_1 s m args below meth c H locs cc cs Q (F0 m 802 ls []) := by
  have hx := C.1
  have hb := C.2.1
  obtain ⟨mc, ms, post, postM, K, Km, hm1, hm2, hH⟩ := op_count (l := l) (h := h) (ad := ad) (by omega : k ≤ 512) hV (xs (6 * k + 1))
  obtain ⟨fs9, hmem⟩ := cl_mem hV
  obtain ⟨q9, hq9⟩ := List.getElem?_of_mem hmem
  refine lv_aload_n hx hb dL_law_802 rfl (lv_at hl 2 rfl) ?_
  refine lv_aload_n hx hb dL_law_803 rfl (lv_at hl 3 rfl) ?_
  refine lv_iload_n hx hb dL_law_804 rfl (lv_at hl 0 rfl) ?_
  refine lv_iconst (v := 1) hx hb dL_law_805 (by decide) ?_
  refine lv_iadd hx hb dL_law_806 ?_
  refine k_topi (y := nI (6 * k + 1)) (nI_add _ 1) ?_
  refine va_sld C.1 C.2.1 hX hbl hbA G.2.2.2.1 (vp_in_nI (show 6 * k + 1 < L by omega) (by omega)) dL_law_807 ?_
  refine k_topi (y := xs (6 * k + 1)) (by rw [nI_clamp (by omega)]) ?_
  refine kc_i (Wc := u) (Wr := mdW Z h ad iv av) G (List.Perm.refl _) (krV 1 rfl (As := [.int (xs (6 * k + 1))]) (rest := []) (ci := 11) (CC := RX10) (T := TX10) (N := 14) C G (List.Perm.refl _) (K _) (gdV ml_L_102 im_X10_count se_X10_count ii_X10 co_X10_count) (by decide +kernel) ⟨Nat.le_of_ble_eq_true rfl, Nat.le_of_ble_eq_true rfl⟩ rfl q9 hq9 hl rfl (Nat.le_of_ble_eq_true rfl) ⟨by show cc + mc ≤ 600000; omega, by show cs + ms ≤ 7302250; omega⟩ dL_law_808) (fun r v H locs hp G => ?_)
  refine lv_aload_n hx hb dL_law_811 rfl (lv_at hl 1 rfl) ?_
  refine lv_aload_n hx hb dL_law_812 rfl (lv_at hl 3 rfl) ?_
  refine lv_iload_n hx hb dL_law_813 rfl (lv_at hl 0 rfl) ?_
  refine lv_iconst (v := 1) hx hb dL_law_814 (by decide) ?_
  refine lv_iadd hx hb dL_law_815 ?_
  refine k_topi (y := nI (6 * k + 1)) (nI_add _ 1) ?_
  refine va_sld C.1 C.2.1 hX hbl hbA G.2.2.2.1 (vp_in_nI (show 6 * k + 1 < L by omega) (by omega)) dL_law_816 ?_
  refine k_topi (y := xs (6 * k + 1)) (by rw [nI_clamp (by omega)]) ?_
  refine kc_i (Wc := mdW Z h ad iv av) (Wr := v) G List.perm_append_comm (krV 1 rfl (As := [.int (xs (6 * k + 1))]) (rest := [.int r]) (ci := 12) (CC := RX11) (T := TX11) (N := 61) C G List.perm_append_comm (Km _) (gdV ml_L_105 im_X11_count se_X11_count ii_X11 co_X11_count) (by decide +kernel) ⟨Nat.le_of_ble_eq_true rfl, Nat.le_of_ble_eq_true rfl⟩ rfl 0 rfl hl rfl (Nat.le_of_ble_eq_true rfl) ⟨by show cc + mc + 0 ≤ 600000; omega, by show cs + ms + 0 ≤ 7302250; omega⟩ dL_law_817) (fun r2 v2 H locs hp2 G => ?_)
  obtain ⟨he, iv2, av2, ob2, pc2, ps2, rfl, hV2, hb1, hb2⟩ := hH r v r2 v2 hp hp2
  refine lv_icmp_eq (tgt := 825) hx hb dL_law_820 (by decide) (fun c9 => ?_) (fun c9 => absurd he c9)
  exact kk v iv2 av2 ob2 pc2 ps2 _ _ H locs ls (G.perm List.perm_append_comm) hV2 (by show cc + mc + 0 + pc2 ≤ _; omega) (by show cs + ms + 0 + ps2 ≤ _; omega) hl
