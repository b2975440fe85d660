/-! LAYER: one form of contract for all methods, the frame rule by permutation, and one row for each memory instruction and call. -/
/-- the class's table of half bytes, as the Statement gives it -/
def hbT : List Int32 := [0, 498536548, 997073096, 651767980, 1994146192, 1802195444, 1303535960, 1342533948, -306674912, -267414716, -690576408, -882789492, -1687895376, -2032938284, -1609899400, -1111625188]
/-- the links between nest mates -/
def nsW : List Cond := [.methodLinkNest "LakeTable" 13 ⟨"LakeTable$Store", "<init>", "()V"⟩ "LakeTable", .methodLinkNest "LakeTable$Store" 11 ⟨"LakeTable$Shelf", "<init>", "()V"⟩ "LakeTable", .methodLinkNest "LakeTable$Store" 30 ⟨"LakeTable$Source", "<init>", "()V"⟩ "LakeTable", .methodLinkNest "LakeTable$Store" 37 ⟨"LakeTable$Sink", "<init>", "()V"⟩ "LakeTable", .methodLinkNest "LakeTable" 24 ⟨"LakeTable$Writer", "<init>", "()V"⟩ "LakeTable", .methodLinkNest "LakeTable$Writer" 27 ⟨"LakeTable$Condition", "<init>", "()V"⟩ "LakeTable", .methodLinkNest "LakeTable$Writer" 34 ⟨"LakeTable$FileList", "<init>", "()V"⟩ "LakeTable", .methodLinkNest "LakeTable$Writer" 41 ⟨"LakeTable$Plan", "<init>", "()V"⟩ "LakeTable", .methodLinkNest "LakeTable$Plan" 17 ⟨"LakeTable$Sink", "<init>", "()V"⟩ "LakeTable", .methodLinkNest "LakeTable" 35 ⟨"LakeTable$FileList", "<init>", "()V"⟩ "LakeTable", .methodLinkNest "LakeTable" 42 ⟨"LakeTable$Condition", "<init>", "()V"⟩ "LakeTable", .methodLinkNest "LakeTable" 49 ⟨"LakeTable$Batch", "<init>", "()V"⟩ "LakeTable", .methodLinkNest "LakeTable" 56 ⟨"LakeTable$Sink", "<init>", "()V"⟩ "LakeTable", .methodLinkNest "LakeTable$Blob" 44 ⟨"LakeTable", "isPartition", "(I)Z"⟩ "LakeTable", .methodLinkNest "LakeTable$Store" 112 ⟨"LakeTable$Batch", "<init>", "()V"⟩ "LakeTable", .methodLinkNest "LakeTable$Batch" 101 ⟨"LakeTable", "isPartition", "(I)Z"⟩ "LakeTable", .fieldLinkNest "LakeTable$Sink" 37 "LakeTable" "HALF_BYTE_CHECKS" "[I" "LakeTable", .castable "[B" "java/lang/Cloneable", .castable "LakeTable$Blob" "LakeTable$Blob", .castable "LakeTable$Writer" "java/lang/Object", .castable "LakeTable$Blob" "java/lang/Object"]
abbrev zT : Type := va_G × (Nat → ClassId) × (Nat × Nat × Nat)
/-- the array classes -/
def tyA (cy : Nat → ClassId) : List (ClassId × FieldType) := [(cy 0, .byte), (cy 1, .int), (cy 2, .boolean), (cy 3, .object "LakeTable$Writer"), (cy 4, .object "java/lang/Object")]
/-- what stands outside the worlds and never changes: the statics, the mirror, the nest's links -/
def mS (st : Nat × Nat × Nat) (A : Nat → Prop) (U : State) (H : Heap) : Prop :=
  va_Z "LakeTable" "HALF_BYTE_CHECKS" "[I" (.ref st.1) A U H ∧ va_T .int st.1 16 (fun j => .int (hbT.getD j 0)) A U H ∧
  va_Z "java/util/ArrayList" "DEFAULTCAPACITY_EMPTY_ELEMENTDATA" "[Ljava/lang/Object;" (.ref st.2.1) A U H ∧ va_T (.object "java/lang/Object") st.2.1 0 (fun _ => .null) A U H ∧
  va_Mi "[Ljava/lang/Object;" st.2.2 U ∧ (∀ w ∈ nsW, va_Nw w U) ∧ va_AO "java/lang/Object" U ∧ va_AO "LakeTable$Writer" U
theorem mS.kept {st : Nat × Nat × Nat} {A : Nat → Prop} {U : State} {H H1 : Heap} (h : mS st A U H) (hq : ∀ a : Nat, a < H.size → ¬ A a → H1[a]? = H[a]?) : mS st A U H1 :=
  ⟨h.1.kept hq, h.2.1.kept hq, h.2.2.1.kept hq, h.2.2.2.1.kept hq, h.2.2.2.2⟩
theorem mS.narrow {st : Nat × Nat × Nat} {A B : Nat → Prop} {U : State} {H : Heap} (h : mS st A U H) (hAB : ∀ q, B q → A q) : mS st B U H :=
  ⟨h.1.narrow hAB, h.2.1.narrow hAB, h.2.2.1.narrow hAB, h.2.2.2.1.narrow hAB, h.2.2.2.2⟩
theorem nsW_warm {s U : State} (hW : s.WarmedH U.vm) (h : ∀ w ∈ nsW, va_Nw w s) : ∀ w ∈ nsW, va_Nw w U := by
  intro w hw
  have h0 := h w hw
  simp only [nsW, List.mem_cons, List.mem_nil_iff, or_false] at hw
  rcases hw with rfl | rfl | rfl | rfl | rfl | rfl | rfl | rfl | rfl | rfl | rfl | rfl | rfl | rfl | rfl | rfl | rfl | rfl | rfl | rfl | rfl <;> first | exact va_Nw.warmM hW h0 | exact va_Nw.warmF hW h0 | exact va_Nw.warmC hW h0
theorem mS.warm {st : Nat × Nat × Nat} {A : Nat → Prop} {s U : State} {H : Heap} (hW : s.WarmedH U.vm) (h : mS st A s H) : mS st A U H :=
  ⟨h.1.moved hW.alike, h.2.1.moved hW.alike, h.2.2.1.moved hW.alike, h.2.2.2.1.moved hW.alike, h.2.2.2.2.1.moved hW.alike, nsW_warm hW h.2.2.2.2.2.1, h.2.2.2.2.2.2.1.moved hW.alike, h.2.2.2.2.2.2.2.moved hW.alike⟩
/-- a method's world on its way: cells, tables, apart, frame, statics -/
def wd (Z : zT) (A : Nat → Prop) (s : State) (ws : va_W) (H : Heap) (locs : List Loc) : Prop :=
  va_P Z.1 vwCl ws H ∧ va_K Z.1 vwCl (tyA Z.2.1) s ∧ va_D A ws ∧ va_S A s.heap H locs ∧ (∀ q, s.heap.size ≤ q → A q) ∧ mS Z.2.2 A s s.heap
/-- a contract's start -/
def mA (Z : zT) (W0 : va_W) (sz : Nat) (U : State) : Prop :=
  U.heap.size = sz ∧ va_P Z.1 vwCl W0 U.heap ∧ va_K Z.1 vwCl (tyA Z.2.1) U ∧ va_D (fun _ => True) W0 ∧ mS Z.2.2 (va_A W0 sz) U U.heap
/-- a contract's end -/
def mB (Z : zT) (A : Nat → Prop) (u : va_W) (t : State) : Prop := va_P Z.1 vwCl u t.heap ∧ va_D A u
def Kv (Z : zT) (l : Launch) (y : MethodName) (cc : ByteArray) (n : Nat) (rt : Option FieldType) (rm : Room) (av : List Value) (W0 : va_W) (post : va_W → Prop) : Prop :=
  ∀ sz, Met l y (wq y cc n rt) rm (va_Pc av (mA Z W0 sz)) (va_Qv post (mB Z (va_A W0 sz)) (va_A W0 sz)) rm.cells rm.slots (va_A W0 sz)
def Ki (Z : zT) (l : Launch) (y : MethodName) (cc : ByteArray) (n : Nat) (rt : Option FieldType) (rm : Room) (av : List Value) (W0 : va_W) (post : Int32 → va_W → Prop) : Prop :=
  ∀ sz, Met l y (wq y cc n rt) rm (va_Pc av (mA Z W0 sz)) (va_Qi post (mB Z (va_A W0 sz)) (va_A W0 sz)) rm.cells rm.slots (va_A W0 sz)
def Kl (Z : zT) (l : Launch) (y : MethodName) (cc : ByteArray) (n : Nat) (rt : Option FieldType) (rm : Room) (av : List Value) (W0 : va_W) (post : Int64 → va_W → Prop) : Prop :=
  ∀ sz, Met l y (wq y cc n rt) rm (va_Pc av (mA Z W0 sz)) (va_Ql post (mB Z (va_A W0 sz)) (va_A W0 sz)) rm.cells rm.slots (va_A W0 sz)
def Kq (Z : zT) (l : Launch) (y : MethodName) (cc : ByteArray) (n : Nat) (rt : Option FieldType) (rm : Room) (av : List Value) (W0 : va_W) (post : Option Nat → va_W → Prop) : Prop :=
  ∀ sz, Met l y (wq y cc n rt) rm (va_Pc av (mA Z W0 sz)) (va_Qq post (mB Z (va_A W0 sz)) (va_A W0 sz)) rm.cells rm.slots (va_A W0 sz)
/-- what stands fast in a method's walk -/
def cx (p : Program) (s : State) (m : MethodId) (args : Array Value) (meth : Method) (c : Code) (cc : ByteArray) (nL : Nat) (ret : Option FieldType) (own nm : String) : Prop :=
  p.tables.exec = Jvm.exec ∧ c.code = cc ∧ meth.sig.returnType = ret ∧ meth.locks = false ∧ c.maxLocals = nL ∧ s.vm.findClass own = some m.cls ∧ (∀ w ∈ allW, w.before args s = true) ∧ meth.name = nm
theorem wd.start {Z : zT} {W0 : va_W} {s : State} {sz : Nat} (h : mA Z W0 sz s) : wd Z (va_A W0 sz) s W0 s.heap [] := by
  obtain ⟨h1, h2, h3, h4, h5⟩ := h
  exact ⟨h2, h3, h4.self, va_S.rf, fun q hq => Or.inr (by omega), h5⟩
theorem Met.ofK {l : Launch} {y : MethodName} {rm : Room} {Qc : Array Value → State → Outcome → State → Prop} {Z : zT} {av : List Value} {W0 : va_W} {sz : Nat} {cc : ByteArray} {maxL : Nat} {ret : Option FieldType}
    (hy : plainName y.cls = true) (hav : (lg_sl av).length ≤ maxL)
    (body : ∀ (p : Program) (e : Env) (s : State) (m : MethodId) (below : List Frame) (meth : Method) (c : Code) (ls : Array Slot), cx p s m av.toArray meth c cc maxL ret y.cls y.name → wd Z (va_A W0 sz) s W0 s.heap [] → lv_has ls maxL (lv_args 0 av) →
      W p l e rm s m av.toArray below meth c s.heap [] 0 0 (MQ below Qc av.toArray s rm.cells rm.slots (va_A W0 sz)) (F0 m 0 ls [])) :
    Met l y (wq y cc maxL ret) rm (va_Pc av (mA Z W0 sz)) Qc rm.cells rm.slots (va_A W0 sz) := by
  refine Met.ofW (cc := cc) (maxL := maxL) (ret := ret) hy rfl ?_
  intro p e s m args below meth c s₁ B hml hv
  obtain ⟨rfl, hm⟩ := hv
  have hl := lv_entry av (n := maxL) hav
  rw [lg_entry_eq]
  exact body p e s m below meth c _ ⟨B.exec, B.bytes, B.returns, B.notSynchronized, hml, findClass_of_methodNamed B.named, fun w hw => atoms_spec (ws := wq y cc maxL ret) B.pre w (List.mem_cons_of_mem _ hw), (name_of_methodNamed B.named B.method).1⟩ (wd.start hm) hl
theorem va_P.perm {D : va_G} {cl : List vw_C} {X Y : va_W} {H : Heap} (h : va_P D cl X H) (hp : X.Perm Y) : va_P D cl Y H := by
  intro k q hk
  obtain ⟨i, hi⟩ := List.getElem?_of_mem (hp.mem_iff.mpr (List.mem_of_getElem? hk))
  exact h i q hi
theorem va_D.nd {A : Nat → Prop} {X : va_W} (h : va_D A X) : (X.map Prod.fst).Nodup := by
  rw [List.nodup_iff_pairwise_ne, List.pairwise_iff_getElem]
  intro i j hi hj hij he
  have hi' : i < X.length := by simpa using hi
  have hj' : j < X.length := by simpa using hj
  have := h.1 i j X[i] X[j] (List.getElem?_eq_getElem hi') (List.getElem?_eq_getElem hj') (by simpa using he)
  omega
theorem va_D.of_nd {A : Nat → Prop} {X : va_W} (h : (X.map Prod.fst).Nodup) (hA : ∀ q ∈ X, A q.1) : va_D A X := by
  refine ⟨fun i j p q hi hj he => ?_, fun k q hk => hA q (List.mem_of_getElem? hk)⟩
  rw [List.nodup_iff_pairwise_ne, List.pairwise_iff_getElem] at h
  obtain ⟨hi1, hi2⟩ := List.getElem?_eq_some_iff.mp hi
  obtain ⟨hj1, hj2⟩ := List.getElem?_eq_some_iff.mp hj
  rcases Nat.lt_trichotomy i j with hl | hl | hl
  · have h9 := h i j (by simpa using hi1) (by simpa using hj1) hl
    simp only [List.getElem_map, hi2, hj2] at h9
    exact absurd he h9
  · exact hl
  · have h9 := h j i (by simpa using hj1) (by simpa using hi1) hl
    simp only [List.getElem_map, hi2, hj2] at h9
    exact absurd he.symm h9
theorem va_D.mem {A : Nat → Prop} {X : va_W} (h : va_D A X) {q : Nat × va_E} (hq : q ∈ X) : A q.1 := by
  obtain ⟨i, hi⟩ := List.getElem?_of_mem hq
  exact h.2 i q hi
theorem va_D.perm {A : Nat → Prop} {X Y : va_W} (h : va_D A X) (hp : X.Perm Y) : va_D A Y :=
  va_D.of_nd ((hp.map Prod.fst).nodup_iff.mp h.nd) (fun _ hq => h.mem (hp.mem_iff.mpr hq))
theorem wd.perm {Z : zT} {A : Nat → Prop} {s : State} {X Y : va_W} {H : Heap} {locs : List Loc} (h : wd Z A s X H locs) (hp : X.Perm Y) : wd Z A s Y H locs :=
  ⟨h.1.perm hp, h.2.1, h.2.2.1.perm hp, h.2.2.2⟩
theorem va_at_mem {D : va_G} {cl : List vw_C} {X : va_W} {H : Heap} (h : va_P D cl X H) {q : Nat × va_E} (hq : q ∈ X) : va_at D cl q H := by
  obtain ⟨i, hi⟩ := List.getElem?_of_mem hq
  exact h i q hi
/-- the cells by their places: a permutation -/
theorem perm_ix {X Y : va_W} (is : List Nat) (h : is.map (fun i => X[i]?) = Y.map some) (n : Nat) (hn : is.isPerm (List.range n) = true) (hl : X.length = n) : X.Perm Y := by
  have hr : is.Perm (List.range X.length) := by rw [hl]; exact List.isPerm_iff.mp hn
  have h2 := hr.map (fun i => X[i]?)
  rw [h] at h2
  have h3 : (List.range X.length).map (fun i => X[i]?) = X.map some := by
    apply List.ext_getElem?
    intro i
    simp only [List.getElem?_map]
    by_cases hi : i < X.length
    · simp [hi]
    · rw [List.getElem?_eq_none (by simp; omega), List.getElem?_eq_none (by omega : X.length ≤ i)]; rfl
  rw [h3] at h2
  have h4 := h2.filterMap id
  have h5 : ∀ L : va_W, (L.map some).filterMap id = L := fun L => by
    rw [List.filterMap_map]
    exact List.filterMap_some
  rw [h5, h5] at h4
  exact h4.symm
theorem perm_ixT {X Y T : va_W} (is : List Nat) (h : is.map (fun i => X[i]?) = Y.map some) (n : Nat) (hn : is.isPerm (List.range n) = true) (hl : X.length = n) : (X ++ T).Perm (Y ++ T) := (perm_ix is h n hn hl).append_right T
section LYA
variable {p : Program} {l : Launch} {e : Env} {R : Room} {s : State} {m : MethodId} {args : Array Value} {below : List Frame} {meth : Method} {c : Code} {H : Heap} {locs : List Loc} {cells slots : Nat} {Q : State → Prop}
variable {cc : ByteArray} {pc nL : Nat} {ls : Array Slot} {rest : List Value} {Z : zT} {A : Nat → Prop} {a : Nat} {ws : va_W} {own nm : String} {ret : Option FieldType}
theorem wd.mk2 {X Y : va_W} {H1 : Heap} {locs1 : List Loc} (G : wd Z A s X H locs) (hP : va_P Z.1 vwCl Y H1) (hD : va_D A Y) (hS : va_S A s.heap H1 locs1) : wd Z A s Y H1 locs1 := ⟨hP, G.2.1, hD, hS, G.2.2.2.2⟩
/-- what a callee is given, out of the caller's world -/
theorem wd.give {X Wc Wr : va_W} (G : wd Z A s X H locs) (hX : X.Perm (Wc ++ Wr)) : ∀ U : State, U.heap = H → s.WarmedH U.vm → mA Z Wc H.size U := by
  intro U hU hW
  have G2 := G.perm hX
  obtain ⟨hP, hK, hD, hS, hA, hM⟩ := G2
  have hin : ∀ q, va_A Wc H.size q → A q := by
    intro q h
    rcases h with ⟨k, e, h⟩ | h
    · exact hD.mem (q := (q, e)) (List.mem_append_left _ (List.mem_of_getElem? h))
    · exact hA q (Nat.le_trans hS.1 h)
  refine ⟨by rw [hU], ?_, hK.moved hW.alike, ?_, ?_⟩
  · rw [hU]
    intro k q hk
    exact va_at_mem hP (List.mem_append_left _ (List.mem_of_getElem? hk))
  · refine va_D.of_nd ?_ (fun _ _ => trivial)
    have h1 := hD.nd
    rw [List.map_append] at h1
    exact (List.nodup_append.mp h1).1
  · rw [hU]
    exact ((hM.kept (fun a h1 h2 => hS.2.1 a h1 h2)).narrow hin).warm hW
theorem mA.blind {Wc : va_W} {sz : Nat} {av : List Value} : FrameBlind (va_Pc av (mA Z Wc sz)) := by
  intro a U g mk h
  obtain ⟨h1, h2, h3, h4, h5, h6⟩ := h
  exact ⟨h1, h2, h3, va_K.moved (u := U) (U := U.calling g mk a) (Vm.Alike.refl U.vm) h4, h5, (h6.1.moved (Vm.Alike.refl U.vm)), (h6.2.1.moved (Vm.Alike.refl U.vm)), (h6.2.2.1.moved (Vm.Alike.refl U.vm)), (h6.2.2.2.1.moved (Vm.Alike.refl U.vm)), (h6.2.2.2.2.1.moved (Vm.Alike.refl U.vm)), (fun w hw => va_Nw.same (u := U) (U := U.calling g mk a) (by
    simp only [nsW, List.mem_cons, List.mem_nil_iff, or_false] at hw
    rcases hw with rfl | rfl | rfl | rfl | rfl | rfl | rfl | rfl | rfl | rfl | rfl | rfl | rfl | rfl | rfl | rfl | rfl | rfl | rfl | rfl | rfl <;> rfl) rfl (h6.2.2.2.2.2.1 w hw)), h6.2.2.2.2.2.2.1.moved (Vm.Alike.refl U.vm), h6.2.2.2.2.2.2.2.moved (Vm.Alike.refl U.vm)⟩
theorem wd.mine {X Wc Wr : va_W} (G : wd Z A s X H locs) (hX : X.Perm (Wc ++ Wr)) : ∀ q, va_A Wc H.size q → A q := by
  intro q h
  obtain ⟨hP, hK, hD, hS, hA, hM⟩ := G.perm hX
  rcases h with ⟨k, e, h⟩ | h
  · exact hD.mem (q := (q, e)) (List.mem_append_left _ (List.mem_of_getElem? h))
  · exact hA q (Nat.le_trans hS.1 h)
/-- the frame rule -/
theorem wd.back {X Wc Wr u : va_W} {H1 : Heap} {locs1 : List Loc} {t : State} (G : wd Z A s X H locs) (hX : X.Perm (Wc ++ Wr)) (ht : t.heap = H1) (hB : mB Z (va_A Wc H.size) u t) (hk : ∀ q : Nat, q < H.size → ¬ va_A Wc H.size q → H1[q]? = H[q]?) (hS1 : va_S A s.heap H1 locs1) : wd Z A s (u ++ Wr) H1 locs1 := by
  have hin := G.mine hX
  obtain ⟨hP, hK, hD, hS, hA, hM⟩ := G.perm hX
  obtain ⟨hP1, hD1⟩ := hB
  rw [ht] at hP1
  have hnd := hD.nd
  rw [List.map_append, List.nodup_append] at hnd
  have apart : ∀ q ∈ Wr, q.1 < H.size ∧ ¬ va_A Wc H.size q.1 := by
    intro q hq
    have hl := (va_at_mem hP (List.mem_append_right _ hq)).lt
    refine ⟨hl, fun h => ?_⟩
    rcases h with ⟨k2, e, h⟩ | h
    · exact hnd.2.2 q.1 (List.mem_map.mpr ⟨_, List.mem_of_getElem? h, rfl⟩) q.1 (List.mem_map.mpr ⟨_, hq, rfl⟩) rfl
    · omega
  refine G.mk2 (hP1.app (fun k q hk2 => ?_)) (va_D.of_nd ?_ ?_) hS1
  · have hq := List.mem_of_getElem? hk2
    obtain ⟨g1, g2⟩ := apart q hq
    exact (va_at_mem hP (List.mem_append_right _ hq)).kept (hk q.1 g1 g2)
  · rw [List.map_append, List.nodup_append]
    refine ⟨hD1.nd, hnd.2.1, ?_⟩
    intro x hx y hy hxy
    obtain ⟨q, hq, rfl⟩ := List.mem_map.mp hx
    obtain ⟨q2, hq2, rfl⟩ := List.mem_map.mp hy
    exact (apart q2 hq2).2 (by rw [← hxy]; exact hD1.mem hq)
  · intro q hq
    rcases List.mem_append.mp hq with h | h
    · exact hin _ (hD1.mem h)
    · exact hD.mem (List.mem_append_right _ h)
end LYA
