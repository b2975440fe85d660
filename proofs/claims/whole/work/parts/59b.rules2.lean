/-! RULES, second part: worlds in segments, reads by membership, arrays of references, the JDK's list. -/
def sg : List va_W → va_W
  | [] => []
  | [t] => t
  | t :: u :: r => t ++ sg (u :: r)
theorem sg_flat : ∀ S : List va_W, sg S = S.flatten
  | [] => rfl
  | [t] => by simp [sg]
  | t :: u :: r => by
    have h := sg_flat (u :: r)
    show t ++ sg (u :: r) = _
    rw [h]; rfl
theorem perm_sg {X Y1 Y2 : va_W} (S Sc Sr : List va_W) (is : List Nat) (h : is.map (fun i => S[i]?) = (Sc ++ Sr).map some) (n : Nat) (hn : is.isPerm (List.range n) = true) (hl : S.length = n) (hX : X = sg S) (h1 : Y1 = sg Sc) (h2 : Y2 = sg Sr) : X.Perm (Y1 ++ Y2) := by
  have hr : is.Perm (List.range S.length) := by rw [hl]; exact List.isPerm_iff.mp hn
  have h2' := hr.map (fun i => S[i]?)
  rw [h] at h2'
  have h3 : (List.range S.length).map (fun i => S[i]?) = S.map some := by
    apply List.ext_getElem?
    intro i
    simp only [List.getElem?_map]
    by_cases hi : i < S.length
    · simp [hi]
    · rw [List.getElem?_eq_none (by simp; omega), List.getElem?_eq_none (by omega : S.length ≤ i)]; rfl
  rw [h3] at h2'
  have h4 := h2'.filterMap id
  have h5 : ∀ L : List va_W, (L.map some).filterMap id = L := fun L => by
    rw [List.filterMap_map]
    exact List.filterMap_some
  rw [h5, h5] at h4
  rw [hX, h1, h2, sg_flat, sg_flat, sg_flat, ← List.flatten_append]
  exact h4.symm.flatten
theorem wd.sub {Z : zT} {A : Nat → Prop} {s : State} {X Y : va_W} {H : Heap} {locs : List Loc} (h : wd Z A s (X ++ Y) H locs) : wd Z A s X H locs := by
  refine ⟨fun k q hk => va_at_mem h.1 (List.mem_append_left _ (List.mem_of_getElem? hk)), h.2.1, va_D.of_nd ?_ (fun q hq => h.2.2.1.mem (List.mem_append_left _ hq)), h.2.2.2⟩
  have h1 := h.2.2.1.nd
  rw [List.map_append, List.nodup_append] at h1
  exact h1.1
theorem declGC {args : Array Value} {s : State} (hnat : (Cond.native ⟨"java/lang/Object", "getClass", "()Ljava/lang/Class;"⟩).before args s = true) (hinst : (Cond.instanceMethod ⟨"java/lang/Object", "getClass", "()Ljava/lang/Class;"⟩).before args s = true) : (Cond.declares ⟨"java/lang/Object", "getClass", "()Ljava/lang/Class;"⟩).before args s = true := by
  obtain ⟨m, meth, h1, h2, h3, h4, h5, hsig⟩ := Cond.native_spec hnat
  obtain ⟨m', meth', a1, a2, a3, -⟩ := Cond.instanceMethod_spec hinst
  cases h1.symm.trans a1
  cases h2.symm.trans a2
  have e : (s.methodNamed? ⟨"java/lang/Object", "getClass", "()Ljava/lang/Class;"⟩).bind s.vm.method? = some meth := by rw [h1]; exact h2
  show (Cond.declares _).holds args s none s [] = true
  simp only [Cond.holds, Cond.value, e, Option.map_some, a3]
  simp only at hsig
  simp [hsig]
abbrev liC (a : Nat) (mc : Int32) (qe n : Nat) : Nat × va_E := (a, .inr (0, [.int mc, .ref qe, .int (nI n)]))
section RLB
variable {p : Program} {l : Launch} {e : Env} {R : Room} {s : State} {m : MethodId} {args : Array Value} {below : List Frame} {meth : Method} {c : Code} {H : Heap} {locs : List Loc} {cells slots : Nat} {Q : State → Prop}
variable {cc : ByteArray} {pc nL : Nat} {ls : Array Slot} {rest st0 : List Value} {Z : zT} {A : Nat → Prop} {a : Nat} {ws X Wc Wr : va_W} {own nm : String} {ret : Option FieldType} {mc ms : Nat} {av : Array Value}
variable {y : MethodName} {b index maxL ci N : Nat} {CC : String} {T : u_T} {fs : List Value} {lv : List (Nat × Value)} {f : Nat → Int32} {g : Nat → Option Nat} {n : Nat} {i x : Int32}
theorem k_getM {ref : String} {v : Value} (C : cx p s m args meth c cc nL ret own nm) (G : wd Z A s ws H locs) (hm : (a, .inr (ci, fs)) ∈ ws) (hc : vwCl[ci]? = some (CC, T, N)) (hin : ∀ w ∈ u_ws CC T N, w ∈ allW) (k : Nat) (hk : k < N) (hlink : Cond.fieldLink own index ref (T k).2.1 (T k).2.2.1 ∈ allW) (href : (T k).1 = ref) (hv : fs[k]? = some v) (hdg : decode cc pc = .ok (.getfield index, 3))
    (kk : W p l e R s m args below meth c H locs cells slots Q (F0 m (pc + 3) ls (v :: rest))) : W p l e R s m args below meth c H locs cells slots Q (F0 m pc ls (.ref a :: rest)) := by
  obtain ⟨q0, he⟩ := List.getElem?_of_mem hm
  exact k_get C G q0 he hc hin k hk hlink href hv hdg kk
theorem sameF (C : cx p s m args meth c cc nL ret own nm) : ∀ x, s.fieldFound? "java/util/AbstractList" "modCount" "I" = some x → s.fieldFound? "java/util/ArrayList" "modCount" "I" = some x := by
  intro x hx
  have h := C.2.2.2.2.2.2.1 _ sf_modCount
  cases hj : s.fieldFound? "java/util/ArrayList" "modCount" "I" with
  | none => simp [Cond.before, Cond.holds, Cond.value, hj] at h
  | some y =>
    obtain ⟨y1, y2, y3, y4⟩ := y
    have h2 := Cond.sameField_spec hj h
    rw [hx] at h2
    exact h2.symm
theorem k_getMC {v : Value} (C : cx p s m args meth c cc nL ret own nm) (G : wd Z A s ws H locs) (q0 : Nat) (he : ws[q0]? = some (a, .inr (0, fs))) (hlink : Cond.fieldLink own index "java/util/ArrayList" "modCount" "I" ∈ allW) (hv : fs[0]? = some v) (hdg : decode cc pc = .ok (.getfield index, 3))
    (kk : W p l e R s m args below meth c H locs cells slots Q (F0 m (pc + 3) ls (v :: rest))) : W p l e R s m args below meth c H locs cells slots Q (F0 m pc ls (.ref a :: rest)) :=
  va_get (T := TJx4a65c) (N := 3) C.1 C.2.1 C.2.2.2.2.2.2.1 in_0 C.2.2.2.2.2.1 G.2.1 G.1 q0 he (show vwCl[0]? = some (RJx4a65c, TJx4a65c, 3) from rfl) 0 (by decide) (C.2.2.2.2.2.2.1 _ hlink) (sameF C) hv hdg kk
theorem k_putMC {v : Int32} (C : cx p s m args meth c cc nL ret own nm) (G : wd Z A s ws H locs) (q0 : Nat) (he : ws[q0]? = some (a, .inr (0, fs))) (hlink : Cond.fieldLink own index "java/util/ArrayList" "modCount" "I" ∈ allW) (hl : 0 < fs.length) (hdg : decode cc pc = .ok (.putfield index, 3))
    (kk : ∀ (H1 : Heap) (locs1 : List Loc), wd Z A s (ws.set q0 (a, .inr (0, fs.set 0 (.int v)))) H1 locs1 → W p l e R s m args below meth c H1 locs1 cells slots Q (F0 m (pc + 3) ls rest)) : W p l e R s m args below meth c H locs cells slots Q (F0 m pc ls (.int v :: .ref a :: rest)) :=
  va_put (T := TJx4a65c) (N := 3) C.1 C.2.1 C.2.2.2.2.2.2.1 in_0 tyJx4a65c tyJx4a65c_ok nmJx4a65c C.2.2.2.2.2.1 G.2.1 G.1 G.2.2.1 G.2.2.2.1 q0 he (show vwCl[0]? = some (RJx4a65c, TJx4a65c, 3) from rfl) 0 (by decide) (C.2.2.2.2.2.2.1 _ hlink) (sameF C) rfl (ty := .int) (by rw [tyJx4a65c_ok 0 (by decide)]; rfl) rfl rfl hl hdg (fun H1 locs1 hP hD hS => kk H1 locs1 (G.mk2 hP hD hS))
theorem k_alenM (C : cx p s m args meth c cc nL ret own nm) (G : wd Z A s ws H locs) (t0 : Nat) {vx : (Nat → Int32) ⊕ (Nat → Int64) ⊕ (Nat → UInt32) ⊕ (Nat → UInt64) ⊕ (Nat → Option Nat)} (hm : (a, .inl (Z.2.1 t0, n, vx)) ∈ ws) {ty : FieldType} (ht : (tyA Z.2.1)[t0]? = some (Z.2.1 t0, ty)) (hdg : decode cc pc = .ok (.arraylength, 1))
    (kk : W p l e R s m args below meth c H locs cells slots Q (F0 m (pc + 1) ls (.int (nI n) :: rest))) : W p l e R s m args below meth c H locs cells slots Q (F0 m pc ls (.ref a :: rest)) := by
  obtain ⟨q0, he⟩ := List.getElem?_of_mem hm
  exact k_alen C G q0 t0 he ht hdg kk
theorem k_oaldM (C : cx p s m args meth c cc nL ret own nm) (G : wd Z A s ws H locs) (hm : (a, aO Z n g) ∈ ws) (hin : vp_in i n) (hdg : decode cc pc = .ok (.aaload, 1))
    (kk : W p l e R s m args below meth c H locs cells slots Q (F0 m (pc + 1) ls (va_rf (g i.toNatClampNeg) :: rest))) : W p l e R s m args below meth c H locs cells slots Q (F0 m pc ls (.int i :: .ref a :: rest)) := by
  obtain ⟨q0, he⟩ := List.getElem?_of_mem hm
  exact k_oald C G q0 he hin hdg kk
theorem k_newO {N' : Nat} (C : cx p s m args meth c cc nL ret own nm) (G : wd Z A s ws H locs) (hcl : Cond.classLink own index "java/lang/Object" ∈ allW) (hn : ¬ i < 0) (hN : i.toNatClampNeg = N') (hbytes : N' * 4 ≤ 536870912) (hcells : cells + 1 ≤ R.cells) (hslots : slots + N' ≤ R.slots) (hdg : decode cc pc = .ok (.anewarray index, 3))
    (kk : ∀ (q : Nat) (H1 : Heap), wd Z A s (ws ++ [(q, aO Z N' (fun _ => none))]) H1 locs → W p l e R s m args below meth c H1 locs (cells + 1) (slots + N') Q (F0 m (pc + 3) ls (.ref q :: rest))) : W p l e R s m args below meth c H locs cells slots Q (F0 m pc ls (.int i :: rest)) := by
  refine va_newq C.1 C.2.1 C.2.2.2.2.2.1 (C.2.2.2.2.2.2.1 _ hcl) G.2.2.2.2.2.2.2.2.2.2.2.1 G.2.1 G.1 G.2.2.1 G.2.2.2.1 G.2.2.2.2.1 hn hN hbytes hcells hslots hdg (fun q cA H1 hK hP hD hS => ?_)
  have h1 := tyA_one hK 4 rfl
  subst h1
  exact kk q H1 (G.mk2 hP hD hS)
theorem k_newWr {N' : Nat} (C : cx p s m args meth c cc nL ret own nm) (G : wd Z A s ws H locs) (hcl : Cond.classLink own index "LakeTable$Writer" ∈ allW) (hn : ¬ i < 0) (hN : i.toNatClampNeg = N') (hbytes : N' * 4 ≤ 536870912) (hcells : cells + 1 ≤ R.cells) (hslots : slots + N' ≤ R.slots) (hdg : decode cc pc = .ok (.anewarray index, 3))
    (kk : ∀ (q : Nat) (H1 : Heap), wd Z A s (ws ++ [(q, aW Z N' (fun _ => none))]) H1 locs → W p l e R s m args below meth c H1 locs (cells + 1) (slots + N') Q (F0 m (pc + 3) ls (.ref q :: rest))) : W p l e R s m args below meth c H locs cells slots Q (F0 m pc ls (.int i :: rest)) := by
  refine va_newq C.1 C.2.1 C.2.2.2.2.2.1 (C.2.2.2.2.2.2.1 _ hcl) G.2.2.2.2.2.2.2.2.2.2.2.2 G.2.1 G.1 G.2.2.1 G.2.2.2.1 G.2.2.2.2.1 hn hN hbytes hcells hslots hdg (fun q cA H1 hK hP hD hS => ?_)
  have h1 := tyA_one hK 3 rfl
  subst h1
  exact kk q H1 (G.mk2 hP hD hS)
theorem k_oastO {v : Nat} (C : cx p s m args meth c cc nL ret own nm) (G : wd Z A s ws H locs) (q0 : Nat) (he : ws[q0]? = some (a, aO Z n g)) (hm : (v, .inr (2, fs)) ∈ ws) (hin : vp_in i n) (hdg : decode cc pc = .ok (.aastore, 1))
    (kk : ∀ (H1 : Heap) (locs1 : List Loc), wd Z A s (ws.set q0 (a, aO Z n (va_up g i.toNatClampNeg (some v)))) H1 locs1 → W p l e R s m args below meth c H1 locs1 cells slots Q (F0 m (pc + 1) ls rest)) : W p l e R s m args below meth c H locs cells slots Q (F0 m pc ls (.ref v :: .int i :: .ref a :: rest)) := by
  obtain ⟨qk, hk⟩ := List.getElem?_of_mem hm
  exact va_astqO C.1 C.2.1 G.2.1 G.1 G.2.2.1 G.2.2.2.1 q0 4 qk 2 (E := "java/lang/Object") (r := (RX1, TX1, 6)) he rfl (G.2.2.2.2.2.2.2.2.2.2.1 (Cond.castable "LakeTable$Blob" "java/lang/Object") (by decide)) hk rfl hin hdg (fun H1 locs1 hP hD hS => kk H1 locs1 (G.mk2 hP hD hS))
theorem k_oastN (C : cx p s m args meth c cc nL ret own nm) (G : wd Z A s ws H locs) (q0 : Nat) (he : ws[q0]? = some (a, aO Z n g)) (hin : vp_in i n) (hdg : decode cc pc = .ok (.aastore, 1))
    (kk : ∀ (H1 : Heap) (locs1 : List Loc), wd Z A s (ws.set q0 (a, aO Z n (va_up g i.toNatClampNeg none))) H1 locs1 → W p l e R s m args below meth c H1 locs1 cells slots Q (F0 m (pc + 1) ls rest)) : W p l e R s m args below meth c H locs cells slots Q (F0 m pc ls (.null :: .int i :: .ref a :: rest)) :=
  va_astqN C.1 C.2.1 G.2.1 G.1 G.2.2.1 G.2.2.2.1 q0 4 (C := "java/lang/Object") he rfl hin hdg (fun H1 locs1 hP hD hS => kk H1 locs1 (G.mk2 hP hD hS))
theorem wd.blob {v : Nat} (G : wd Z A s ws H locs) (hm : (v, .inr (2, fs)) ∈ ws) : ∃ cell : Cell, H[v]? = some cell ∧ cell.vm.isStatics = false ∧ s.vm.findClass "LakeTable$Blob" = some cell.cls := by
  obtain ⟨qk, hk⟩ := List.getElem?_of_mem hm
  exact va_recv (q := (RX1, TX1, 6)) G.2.1 G.1 rfl hk
theorem k_copyO {index q0 q1 a0 n0 n1 : Nat} {f g : Nat → Option Nat} {sp dp n : Int32} (C : cx p s m args meth c cc nL ret own nm) (G : wd Z A s ws H locs) (hl : ls.size = nL) (h1 : Cond.methodLink own index arraycopyName ∈ allW) (ha0 : ws[q0]? = some (a0, aO Z n0 f)) (ha1 : ws[q1]? = some (a, aO Z n1 g)) (g1 : ¬ sp < 0) (g2 : ¬ dp < 0) (g3 : ¬ n < 0) (g4 : sp.toNatClampNeg + n.toNatClampNeg ≤ n0) (g5 : dp.toNatClampNeg + n.toNatClampNeg ≤ n1) (hel : ∀ i : Nat, i < n.toNatClampNeg → ∀ y : Nat, f (sp.toNatClampNeg + i) = some y → ∃ fs, (y, .inr (2, fs)) ∈ ws)
    (hframes : 1 ≤ R.frames) (hlocals : (rest.map fun v => v.category).sum + (nativeFrameWords "java/lang/System" "arraycopy" 5 + 11) ≤ R.locals) (hdg : decode cc pc = .ok (.invokestatic index, 3))
    (kk : ∀ (H1 : Heap) (locs1 : List Loc), wd Z A s (ws.set q1 (a, aO Z n1 (va_cpy f g sp.toNatClampNeg dp.toNatClampNeg n.toNatClampNeg))) H1 locs1 → W p l e R s m args below meth c H1 locs1 cells slots Q (F0 m (pc + 3) ls rest)) : W p l e R s m args below meth c H locs cells slots Q (F0 m pc ls (.int n :: .int dp :: .ref a :: .int sp :: .ref a0 :: rest)) :=
  va_copyq C.1 C.2.1 (by rw [hl]; exact C.2.2.2.2.1) C.2.2.2.2.2.1 (C.2.2.2.2.2.2.1 _ h1) (C.2.2.2.2.2.2.1 _ nt_System_arraycopy__Ljava_lang_Object_ILjava_lang_Object_II_V) (C.2.2.2.2.2.2.1 _ sm_System_arraycopy__Ljava_lang_Object_ILjava_lang_Object_II_V) (C.2.2.2.2.2.2.1 _ ii_J10) G.2.1 G.1 G.2.2.1 G.2.2.2.1 q0 q1 4 4 (E0 := "java/lang/Object") (E1 := "java/lang/Object") (C := "LakeTable$Blob") ha0 ha1 rfl rfl g1 g2 g3 g4 g5 (fun i hi y hy => by
      obtain ⟨fs, hm⟩ := hel i hi y hy
      exact G.blob hm) (fun comp c0 hc1 hc2 => by
      obtain ⟨c1, t1, f1, f2, f3⟩ := Cond.castable_spec (va_Nw.use (A := args) rfl (G.2.2.2.2.2.2.2.2.2.2.1 (Cond.castable "LakeTable$Blob" "java/lang/Object") (by decide)))
      cases hc1.symm.trans f2
      cases hc2.symm.trans f1
      exact f3) hframes hlocals hdg (fun H1 locs1 hP hD hS => kk H1 locs1 (G.mk2 hP hD hS))
theorem k_ldcO (C : cx p s m args meth c cc nL ret own nm) (G : wd Z A s ws H locs) (hcl : Cond.classLink own index "[Ljava/lang/Object;" ∈ allW) (hdg : decode cc pc = .ok (.ldc index, 2))
    (kk : W p l e R s m args below meth c H locs cells slots Q (F0 m (pc + 2) ls (.ref Z.2.2.2.2 :: rest))) : W p l e R s m args below meth c H locs cells slots Q (F0 m pc ls rest) :=
  va_ldcM C.1 C.2.1 C.2.2.2.2.2.1 (C.2.2.2.2.2.2.1 _ hcl) G.2.2.2.2.2.2.2.2.2.1 hdg kk
theorem k_getCO (C : cx p s m args meth c cc nL ret own nm) (G : wd Z A s ws H locs) (hl : ls.size = nL) (h1 : Cond.methodLink own index ⟨"java/lang/Object", "getClass", "()Ljava/lang/Class;"⟩ ∈ allW) (q0 : Nat) (he : ws[q0]? = some (a, aO Z n g)) (hframes : 1 ≤ R.frames) (hlocals : (rest.map fun v => v.category).sum + 14 ≤ R.locals) (hdg : decode cc pc = .ok (.invokevirtual index, 3))
    (kk : W p l e R s m args below meth c H locs cells slots Q (F0 m (pc + 3) ls (.ref Z.2.2.2.2 :: rest))) : W p l e R s m args below meth c H locs cells slots Q (F0 m pc ls (.ref a :: rest)) :=
  va_getC C.1 C.2.1 (by rw [hl]; exact C.2.2.2.2.1) C.2.2.2.2.2.1 (C.2.2.2.2.2.2.1 _ h1) (declGC (C.2.2.2.2.2.2.1 _ nt_Object_getClass___Ljava_lang_Class_) (C.2.2.2.2.2.2.1 _ im_Object_getClass___Ljava_lang_Class_)) (C.2.2.2.2.2.2.1 _ se_getClassO) (C.2.2.2.2.2.2.1 _ im_Object_getClass___Ljava_lang_Class_) (C.2.2.2.2.2.2.1 _ nt_Object_getClass___Ljava_lang_Class_) G.2.2.2.2.2.2.2.2.2.1
    ⟨vp_cell (Z.2.1 4) (n, .inr (.inr (.inr (.inr g)))), G.1 q0 _ he, rfl, va_nmO (G.2.1.2 4 _ rfl).2 (by decide +kernel)⟩ hframes hlocals hdg kk
/-- the empty array of a fresh list -/
theorem k_gsE (C : cx p s m args meth c cc nL ret own nm) (G : wd Z A s ws H locs) (hlink : Cond.fieldLink own index "java/util/ArrayList" "DEFAULTCAPACITY_EMPTY_ELEMENTDATA" "[Ljava/lang/Object;" ∈ allW) (hdg : decode cc pc = .ok (.getstatic index, 3))
    (kk : W p l e R s m args below meth c H locs cells slots Q (F0 m (pc + 3) ls (.ref Z.2.2.2.1 :: rest))) : W p l e R s m args below meth c H locs cells slots Q (F0 m pc ls rest) :=
  va_gets C.1 C.2.1 G.2.2.2.2.2.2.2.1 G.2.2.2.1 C.2.2.2.2.2.1 (C.2.2.2.2.2.2.1 _ hlink) (fun _ h9 => h9) hdg kk
theorem k_lenE (C : cx p s m args meth c cc nL ret own nm) (G : wd Z A s ws H locs) (hdg : decode cc pc = .ok (.arraylength, 1))
    (kk : W p l e R s m args below meth c H locs cells slots Q (F0 m (pc + 1) ls (.int 0 :: rest))) : W p l e R s m args below meth c H locs cells slots Q (F0 m pc ls (.ref Z.2.2.2.1 :: rest)) :=
  va_tlen C.1 C.2.1 G.2.2.2.2.2.2.2.2.1 G.2.2.2.1 rfl hdg kk
theorem k_castBl {v : Nat} (C : cx p s m args meth c cc nL ret own nm) (G : wd Z A s ws H locs) (hcl : Cond.classLink own index "LakeTable$Blob" ∈ allW) (hm : (v, .inr (2, fs)) ∈ ws) (hdg : decode cc pc = .ok (.checkcast index, 3))
    (kk : W p l e R s m args below meth c H locs cells slots Q (F0 m (pc + 3) ls (.ref v :: rest))) : W p l e R s m args below meth c H locs cells slots Q (F0 m pc ls (.ref v :: rest)) :=
  va_castY C.1 C.2.1 C.2.2.2.2.2.1 (C.2.2.2.2.2.2.1 _ hcl) (G.2.2.2.2.2.2.2.2.2.2.1 (Cond.castable "LakeTable$Blob" "LakeTable$Blob") (by decide)) (G.blob hm) hdg kk
theorem k_acmp_eq {rx ry : Nat} {off : Int} {tgt : Nat} (C : cx p s m args meth c cc nL ret own nm) (hdg : decode cc pc = .ok (.if_acmp .eq off, 3)) (ht : (pc : Int) + off = (tgt : Int)) (hr : rx = ry)
    (kk : W p l e R s m args below meth c H locs cells slots Q (F0 m tgt ls rest)) : W p l e R s m args below meth c H locs cells slots Q (F0 m pc ls (.ref ry :: .ref rx :: rest)) :=
  lv_acmp_eq (rx := some rx) (ry := some ry) C.1 C.2.1 hdg ht (fun _ => kk) (fun h => absurd (by rw [hr]) h)
theorem k_acmp_ne {rx ry : Nat} {off : Int} {tgt : Nat} (C : cx p s m args meth c cc nL ret own nm) (hdg : decode cc pc = .ok (.if_acmp .ne off, 3)) (ht : (pc : Int) + off = (tgt : Int)) (hr : rx = ry)
    (kk : W p l e R s m args below meth c H locs cells slots Q (F0 m (pc + 3) ls rest)) : W p l e R s m args below meth c H locs cells slots Q (F0 m pc ls (.ref ry :: .ref rx :: rest)) :=
  lv_acmp_ne (rx := some rx) (ry := some ry) C.1 C.2.1 hdg ht (fun h => absurd (by rw [hr]) h) (fun _ => kk)
/-- a write into one of the cells of a segment -/
theorem k_putT {ref : String} {ty : FieldType} {v : Value} {α : Type} {Y : va_W} (bO : α → Nat × va_E) (bl : List α) (j : Nat) (x x' : α) (C : cx p s m args meth c cc nL ret own nm) (G : wd Z A s (X ++ (bl.map bO ++ Y)) H locs) (hj : bl[j]? = some x) (hx : bO x = (a, .inr (ci, fs))) (hc : vwCl[ci]? = some (CC, T, N)) (hin : ∀ w ∈ u_ws CC T N, w ∈ allW) (ty0 : Nat → FieldType) (hty : ∀ k, k < N → parseFieldDescriptor (T k).2.2.1 = some (ty0 k)) (hnm : ∀ a, a < N → ∀ b, b < N → a ≠ b → (T a).2.1 ≠ (T b).2.1) (k : Nat) (hx' : bO x' = (a, .inr (ci, fs.set k v))) (hk : k < N) (hlink : Cond.fieldLink own index ref (T k).2.1 (T k).2.2.1 ∈ allW) (href : (T k).1 = ref) (hfin : (T k).2.2.2 = false) (htk : ty0 k = ty) (hn : narrow ty v = v) (hfit : fits ty v = true) (hl : k < fs.length) (hdg : decode cc pc = .ok (.putfield index, 3))
    (kk : ∀ (H1 : Heap) (locs1 : List Loc), wd Z A s (X ++ ((bl.set j x').map bO ++ Y)) H1 locs1 → W p l e R s m args below meth c H1 locs1 cells slots Q (F0 m (pc + 3) ls rest)) : W p l e R s m args below meth c H locs cells slots Q (F0 m pc ls (v :: .ref a :: rest)) := by
  have hlt := (List.getElem?_eq_some_iff.mp hj).1
  have h1 : (X ++ (bl.map bO ++ Y))[X.length + j]? = some (a, .inr (ci, fs)) := by
    rw [List.getElem?_append_right (by omega), Nat.add_sub_cancel_left, List.getElem?_append_left (by simpa using hlt), List.getElem?_map, hj, ← hx]; rfl
  refine k_put C G (X.length + j) h1 hc hin ty0 hty hnm k hk hlink href hfin htk hn hfit hl hdg (fun H1 locs1 G1 => kk H1 locs1 ?_)
  have h2 : (X ++ (bl.map bO ++ Y)).set (X.length + j) (a, .inr (ci, fs.set k v)) = X ++ ((bl.set j x').map bO ++ Y) := by
    rw [List.set_append_right _ _ (by omega), Nat.add_sub_cancel_left, List.set_append_left _ _ (by simpa using hlt), List.map_set, hx']
  rw [← h2]; exact G1
theorem k_topv {x y : Value} (h : x = y) (k : W p l e R s m args below meth c H locs cells slots Q (F0 m pc ls (y :: rest))) : W p l e R s m args below meth c H locs cells slots Q (F0 m pc ls (x :: rest)) := h ▸ k
end RLB
