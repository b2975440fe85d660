/-! MODEL: the reference's world: one object with its numbers, and its arrays. -/
/-- the array fields: index, kind (0 byte, 1 int, 2 boolean), length -/
def mdL : List (Nat × Nat × Nat) := [(0, 1, 100), (1, 1, 100), (2, 1, 100), (3, 0, 140000), (14, 0, 1500), (21, 1, 144), (22, 2, 3), (23, 1, 3), (24, 1, 3), (25, 1, 48), (27, 1, 256), (28, 1, 256), (29, 1, 256), (31, 1, 260), (32, 1, 260), (33, 2, 4), (34, 2, 4), (35, 1, 4), (36, 1, 4), (37, 1, 4), (38, 1, 4), (39, 1, 4), (40, 2, 4), (41, 1, 4), (42, 1, 4), (43, 1, 4), (44, 1, 4), (45, 1, 57600), (46, 1, 19200), (47, 1, 4), (48, 1, 4), (49, 1, 800), (50, 1, 800), (51, 1, 800), (52, 1, 800), (53, 1, 4), (54, 1, 4), (55, 1, 800), (56, 1, 4), (57, 1, 800), (58, 1, 288), (59, 2, 100), (60, 1, 4)]
def mdR (k : Nat) : Bool := mdL.any (fun q => q.1 == k)
abbrev ivT : Type := Nat → Int32
abbrev avT : Type := Nat → Nat → Int32
def mF (ad : Nat → Nat) (iv : ivT) : List Value := (List.range 61).map (fun k => if mdR k = true then .ref (ad k) else .int (iv k))
def mC (Z : zT) (ad : Nat → Nat) (av : avT) (q : Nat × Nat × Nat) : Nat × va_E := (ad q.1, .inl (Z.2.1 q.2.1, q.2.2, .inl (av q.1)))
def mdW (Z : zT) (h : Nat) (ad : Nat → Nat) (iv : ivT) (av : avT) : va_W := (h, .inr (12, mF ad iv)) :: mdL.map (mC Z ad av)
def ua (av : avT) (k : Nat) (f : Nat → Int32) : avT := fun j => if j = k then f else av j
theorem ua_s {av : avT} {k : Nat} {f : Nat → Int32} : ua av k f k = f := if_pos rfl
theorem ua_n {av : avT} {k j : Nat} {f : Nat → Int32} (h : j ≠ k) : ua av k f j = av j := if_neg h
theorem mF_len (ad : Nat → Nat) (iv : ivT) : (mF ad iv).length = 61 := by simp [mF]
theorem mF_i {ad : Nat → Nat} {iv : ivT} {k : Nat} (hk : k < 61) (hr : mdR k = false) : (mF ad iv)[k]? = some (.int (iv k)) := by
  unfold mF
  rw [List.getElem?_map, List.getElem?_range hk, Option.map_some, hr]; rfl
theorem mF_a {ad : Nat → Nat} {iv : ivT} {k : Nat} (hk : k < 61) (hr : mdR k = true) : (mF ad iv)[k]? = some (.ref (ad k)) := by
  unfold mF
  rw [List.getElem?_map, List.getElem?_range hk, Option.map_some, hr]; rfl
theorem mF_set {ad : Nat → Nat} {iv : ivT} {k : Nat} (hk : k < 61) (hr : mdR k = false) (v : Int32) : (mF ad iv).set k (.int v) = mF ad (upd iv k v) := by
  apply List.ext_getElem?
  intro j
  by_cases e : j = k
  · subst e
    rw [List.getElem?_set_self (by rw [mF_len]; exact hk), mF_i hk hr, pk_us]
  · rw [List.getElem?_set_ne (Ne.symm e)]
    unfold mF
    rw [List.getElem?_map, List.getElem?_map]
    by_cases hj : j < 61
    · rw [List.getElem?_range hj, Option.map_some, Option.map_some, pk_un e]
    · rw [List.getElem?_eq_none (by simpa using Nat.le_of_not_lt hj)]; rfl
theorem mdL_nd : (mdL.map Prod.fst).Nodup := by decide +kernel
theorem mdL_inj {i j : Nat} {q r : Nat × Nat × Nat} (hi : mdL[i]? = some q) (hj : mdL[j]? = some r) (h : q.1 = r.1) : i = j := by
  have hnd := mdL_nd
  rw [List.nodup_iff_pairwise_ne, List.pairwise_iff_getElem] at hnd
  obtain ⟨hi1, hi2⟩ := List.getElem?_eq_some_iff.mp hi
  obtain ⟨hj1, hj2⟩ := List.getElem?_eq_some_iff.mp hj
  rcases Nat.lt_trichotomy i j with hl | hl | hl
  · have h9 := hnd i j (by simpa using hi1) (by simpa using hj1) hl
    simp only [List.getElem_map, hi2, hj2] at h9
    exact absurd h h9
  · exact hl
  · have h9 := hnd j i (by simpa using hj1) (by simpa using hi1) hl
    simp only [List.getElem_map, hi2, hj2] at h9
    exact absurd h.symm h9
theorem mC_set {Z : zT} {ad : Nat → Nat} {av : avT} {p k t n : Nat} {f : Nat → Int32} (hp : mdL[p]? = some (k, t, n)) : (mdL.map (mC Z ad av)).set p (ad k, .inl (Z.2.1 t, n, .inl f)) = mdL.map (mC Z ad (ua av k f)) := by
  apply List.ext_getElem?
  intro j
  by_cases e : j = p
  · subst e
    have hlt := (List.getElem?_eq_some_iff.mp hp).1
    rw [List.getElem?_set_self (by rw [List.length_map]; exact hlt), List.getElem?_map, hp, Option.map_some]
    simp only [mC, ua_s]
  · rw [List.getElem?_set_ne (Ne.symm e), List.getElem?_map, List.getElem?_map]
    cases hj : mdL[j]? with
    | none => rfl
    | some q =>
      have hne : q.1 ≠ k := fun z => e (mdL_inj hj hp z)
      simp only [Option.map_some, mC, ua_n hne]
section MRL
variable {p : Program} {l : Launch} {e : Env} {R : Room} {s : State} {m : MethodId} {args : Array Value} {below : List Frame} {meth : Method} {c : Code} {H : Heap} {locs : List Loc} {cells slots : Nat} {Q : State → Prop}
variable {cc : ByteArray} {pc nL : Nat} {ls : Array Slot} {rest st0 : List Value} {Z : zT} {A : Nat → Prop} {h : Nat} {ad : Nat → Nat} {iv : ivT} {av : avT} {own nm ref : String} {ret : Option FieldType} {mc ms index : Nat} {X : va_W} {avl : Array Value}
theorem k_mgi {v : Int32} (C : cx p s m args meth c cc nL ret own nm) (G : wd Z A s (mdW Z h ad iv av) H locs) (k : Nat) (hk : k < 61) (hr : mdR k = false) (hv : iv k = v) (hlink : Cond.fieldLink own index ref (TX11 k).2.1 (TX11 k).2.2.1 ∈ allW) (href : (TX11 k).1 = ref) (hdg : decode cc pc = .ok (.getfield index, 3))
    (kk : W p l e R s m args below meth c H locs cells slots Q (F0 m (pc + 3) ls (.int v :: rest))) : W p l e R s m args below meth c H locs cells slots Q (F0 m pc ls (.ref h :: rest)) :=
  k_get (ci := 12) (CC := RX11) (T := TX11) (N := 61) C G 0 rfl rfl in_12 k hk hlink href (by rw [← hv]; exact mF_i hk hr) hdg kk
theorem k_mga (C : cx p s m args meth c cc nL ret own nm) (G : wd Z A s (mdW Z h ad iv av) H locs) (k : Nat) (hk : k < 61) (hr : mdR k = true) (hlink : Cond.fieldLink own index ref (TX11 k).2.1 (TX11 k).2.2.1 ∈ allW) (href : (TX11 k).1 = ref) (hdg : decode cc pc = .ok (.getfield index, 3))
    (kk : W p l e R s m args below meth c H locs cells slots Q (F0 m (pc + 3) ls (.ref (ad k) :: rest))) : W p l e R s m args below meth c H locs cells slots Q (F0 m pc ls (.ref h :: rest)) :=
  k_get (ci := 12) (CC := RX11) (T := TX11) (N := 61) C G 0 rfl rfl in_12 k hk hlink href (mF_a hk hr) hdg kk
theorem k_mpi {v : Int32} {ty : FieldType} (C : cx p s m args meth c cc nL ret own nm) (G : wd Z A s (mdW Z h ad iv av) H locs) (k : Nat) (hk : k < 61) (hr : mdR k = false) (hlink : Cond.fieldLink own index ref (TX11 k).2.1 (TX11 k).2.2.1 ∈ allW) (href : (TX11 k).1 = ref) (hfin : (TX11 k).2.2.2 = false) (htk : tyX11 k = ty) (hn : narrow ty (.int v) = .int v) (hfit : fits ty (.int v) = true) (hdg : decode cc pc = .ok (.putfield index, 3))
    (kk : ∀ (H1 : Heap) (locs1 : List Loc), wd Z A s (mdW Z h ad (upd iv k v) av) H1 locs1 → W p l e R s m args below meth c H1 locs1 cells slots Q (F0 m (pc + 3) ls rest)) : W p l e R s m args below meth c H locs cells slots Q (F0 m pc ls (.int v :: .ref h :: rest)) :=
  k_put (ci := 12) (CC := RX11) (T := TX11) (N := 61) (ty := ty) C G 0 rfl rfl in_12 tyX11 tyX11_ok nmX11 k hk hlink href hfin htk hn hfit (by rw [mF_len]; exact hk) hdg (fun H1 locs1 G1 => kk H1 locs1 (by
    have h1 : (mdW Z h ad iv av).set 0 (h, .inr (12, (mF ad iv).set k (.int v))) = mdW Z h ad (upd iv k v) av := by rw [mF_set hk hr]; rfl
    rw [← h1]; exact G1))
theorem mdW_get {p0 k t n : Nat} (hp : mdL[p0]? = some (k, t, n)) : (mdW Z h ad iv av)[p0 + 1]? = some (ad k, .inl (Z.2.1 t, n, .inl (av k))) := by
  show (mdL.map (mC Z ad av))[p0]? = _
  rw [List.getElem?_map, hp]; rfl
theorem mdW_st {p0 k t n : Nat} {f : Nat → Int32} (hp : mdL[p0]? = some (k, t, n)) : (mdW Z h ad iv av).set (p0 + 1) (ad k, .inl (Z.2.1 t, n, .inl f)) = mdW Z h ad iv (ua av k f) := by
  show (h, .inr (12, mF ad iv)) :: (mdL.map (mC Z ad av)).set p0 _ = _
  rw [mC_set hp]; rfl
theorem k_mil {v : Int32} {i : Nat} (C : cx p s m args meth c cc nL ret own nm) (G : wd Z A s (mdW Z h ad iv av) H locs) (p0 : Nat) {k n : Nat} (hp : mdL[p0]? = some (k, 1, n)) (hn : n < 2 ^ 31) (hi : i < n) (hv : av k i = v) (hdg : decode cc pc = .ok (.iaload, 1))
    (kk : W p l e R s m args below meth c H locs cells slots Q (F0 m (pc + 1) ls (.int v :: rest))) : W p l e R s m args below meth c H locs cells slots Q (F0 m pc ls (.int (nI i) :: .ref (ad k) :: rest)) :=
  k_iald C G (p0 + 1) (mdW_get hp) (in_lt hi hn) hdg (by rw [nI_clamp (by omega), hv]; exact kk)
theorem k_mbl {v : Int32} {i : Nat} (C : cx p s m args meth c cc nL ret own nm) (G : wd Z A s (mdW Z h ad iv av) H locs) (p0 : Nat) {k n : Nat} (hp : mdL[p0]? = some (k, 0, n)) (hn : n < 2 ^ 31) (hi : i < n) (hv : av k i = v) (hdg : decode cc pc = .ok (.baload, 1))
    (kk : W p l e R s m args below meth c H locs cells slots Q (F0 m (pc + 1) ls (.int v :: rest))) : W p l e R s m args below meth c H locs cells slots Q (F0 m pc ls (.int (nI i) :: .ref (ad k) :: rest)) :=
  k_bald C G (p0 + 1) (mdW_get hp) (in_lt hi hn) hdg (by rw [nI_clamp (by omega), hv]; exact kk)
theorem k_mzl {v : Int32} {i : Nat} (C : cx p s m args meth c cc nL ret own nm) (G : wd Z A s (mdW Z h ad iv av) H locs) (p0 : Nat) {k n : Nat} (hp : mdL[p0]? = some (k, 2, n)) (hn : n < 2 ^ 31) (hi : i < n) (hv : av k i = v) (hdg : decode cc pc = .ok (.baload, 1))
    (kk : W p l e R s m args below meth c H locs cells slots Q (F0 m (pc + 1) ls (.int v :: rest))) : W p l e R s m args below meth c H locs cells slots Q (F0 m pc ls (.int (nI i) :: .ref (ad k) :: rest)) :=
  k_zald C G (p0 + 1) (mdW_get hp) (in_lt hi hn) hdg (by rw [nI_clamp (by omega), hv]; exact kk)
theorem k_mis {x : Int32} {i : Nat} (C : cx p s m args meth c cc nL ret own nm) (G : wd Z A s (mdW Z h ad iv av) H locs) (p0 : Nat) {k n : Nat} (hp : mdL[p0]? = some (k, 1, n)) (hn : n < 2 ^ 31) (hi : i < n) (hdg : decode cc pc = .ok (.iastore, 1))
    (kk : ∀ (H1 : Heap) (locs1 : List Loc), wd Z A s (mdW Z h ad iv (ua av k (upd (av k) i x))) H1 locs1 → W p l e R s m args below meth c H1 locs1 cells slots Q (F0 m (pc + 1) ls rest)) : W p l e R s m args below meth c H locs cells slots Q (F0 m pc ls (.int x :: .int (nI i) :: .ref (ad k) :: rest)) :=
  k_iast C G (p0 + 1) (mdW_get hp) (in_lt hi hn) hdg (fun H1 locs1 G1 => kk H1 locs1 (by rw [nI_clamp (by omega), mdW_st hp] at G1; exact G1))
theorem k_mbs {x : Int32} {i : Nat} (C : cx p s m args meth c cc nL ret own nm) (G : wd Z A s (mdW Z h ad iv av) H locs) (p0 : Nat) {k n : Nat} (hp : mdL[p0]? = some (k, 0, n)) (hn : n < 2 ^ 31) (hi : i < n) (hx : vp_nar .byte x = x) (hdg : decode cc pc = .ok (.bastore, 1))
    (kk : ∀ (H1 : Heap) (locs1 : List Loc), wd Z A s (mdW Z h ad iv (ua av k (upd (av k) i x))) H1 locs1 → W p l e R s m args below meth c H1 locs1 cells slots Q (F0 m (pc + 1) ls rest)) : W p l e R s m args below meth c H locs cells slots Q (F0 m pc ls (.int x :: .int (nI i) :: .ref (ad k) :: rest)) :=
  k_bast C G (p0 + 1) (mdW_get hp) (in_lt hi hn) hx hdg (fun H1 locs1 G1 => kk H1 locs1 (by rw [nI_clamp (by omega), mdW_st hp] at G1; exact G1))
theorem k_mzs {x : Int32} {i : Nat} (C : cx p s m args meth c cc nL ret own nm) (G : wd Z A s (mdW Z h ad iv av) H locs) (p0 : Nat) {k n : Nat} (hp : mdL[p0]? = some (k, 2, n)) (hn : n < 2 ^ 31) (hi : i < n) (hx : vp_nar .boolean x = x) (hdg : decode cc pc = .ok (.bastore, 1))
    (kk : ∀ (H1 : Heap) (locs1 : List Loc), wd Z A s (mdW Z h ad iv (ua av k (upd (av k) i x))) H1 locs1 → W p l e R s m args below meth c H1 locs1 cells slots Q (F0 m (pc + 1) ls rest)) : W p l e R s m args below meth c H locs cells slots Q (F0 m pc ls (.int x :: .int (nI i) :: .ref (ad k) :: rest)) :=
  k_zast C G (p0 + 1) (mdW_get hp) (in_lt hi hn) hx hdg (fun H1 locs1 G1 => kk H1 locs1 (by rw [nI_clamp (by omega), mdW_st hp] at G1; exact G1))
theorem kcM_v {post : va_W → Prop} (G : wd Z A s X H locs) (hr : va_Run p l e R s m args below meth c H locs cells slots 0 0 (F0 m pc ls st0) rest (va_Qv post (mB Z (va_A X H.size)) (va_A X H.size) avl) (va_A X H.size))
    (kk : ∀ (u : va_W) (H1 : Heap) (locs1 : List Loc), post u → wd Z A s u H1 locs1 → W p l e R s m args below meth c H1 locs1 cells slots Q (F0 m (pc + 3) ls rest)) : W p l e R s m args below meth c H locs cells slots Q (F0 m pc ls st0) :=
  kc_v (Wr := []) G (by rw [List.append_nil]) hr (fun u H1 locs1 hp hG => kk u H1 locs1 hp (by rw [List.append_nil] at hG; exact hG))
theorem kcM_i {post : Int32 → va_W → Prop} (G : wd Z A s X H locs) (hr : va_Run p l e R s m args below meth c H locs cells slots 0 0 (F0 m pc ls st0) rest (va_Qi post (mB Z (va_A X H.size)) (va_A X H.size) avl) (va_A X H.size))
    (kk : ∀ (r : Int32) (u : va_W) (H1 : Heap) (locs1 : List Loc), post r u → wd Z A s u H1 locs1 → W p l e R s m args below meth c H1 locs1 cells slots Q (F0 m (pc + 3) ls (.int r :: rest))) : W p l e R s m args below meth c H locs cells slots Q (F0 m pc ls st0) :=
  kc_i (Wr := []) G (by rw [List.append_nil]) hr (fun r u H1 locs1 hp hG => kk r u H1 locs1 hp (by rw [List.append_nil] at hG; exact hG))
theorem kcM_l {post : Int64 → va_W → Prop} (G : wd Z A s X H locs) (hr : va_Run p l e R s m args below meth c H locs cells slots 0 0 (F0 m pc ls st0) rest (va_Ql post (mB Z (va_A X H.size)) (va_A X H.size) avl) (va_A X H.size))
    (kk : ∀ (r : Int64) (u : va_W) (H1 : Heap) (locs1 : List Loc), post r u → wd Z A s u H1 locs1 → W p l e R s m args below meth c H1 locs1 cells slots Q (F0 m (pc + 3) ls (.long r :: rest))) : W p l e R s m args below meth c H locs cells slots Q (F0 m pc ls st0) :=
  kc_l (Wr := []) G (by rw [List.append_nil]) hr (fun r u H1 locs1 hp hG => kk r u H1 locs1 hp (by rw [List.append_nil] at hG; exact hG))
end MRL
/-- the same but for these -/
def sI (L : List Nat) (f g : ivT) : Prop := ∀ j, j ∉ L → g j = f j
def sA (L : List Nat) (f g : avT) : Prop := ∀ j, j ∉ L → g j = f j
theorem sI.rf {L : List Nat} {f : ivT} : sI L f f := fun _ _ => rfl
theorem sA.rf {L : List Nat} {f : avT} : sA L f f := fun _ _ => rfl
theorem sI.up {L : List Nat} {f g : ivT} (h : sI L f g) {k : Nat} (hk : k ∈ L) (v : Int32) : sI L f (upd g k v) := fun j hj => by
  have e : j ≠ k := fun z => hj (by rw [z]; exact hk)
  rw [pk_un e]; exact h j hj
theorem sA.up {L : List Nat} {f g : avT} (h : sA L f g) {k : Nat} (hk : k ∈ L) (v : Nat → Int32) : sA L f (ua g k v) := fun j hj => by
  have e : j ≠ k := fun z => hj (by rw [z]; exact hk)
  rw [ua_n e]; exact h j hj
theorem sI.tr {L M : List Nat} {f g k : ivT} (h : sI L f g) (h2 : sI M g k) (hs : ∀ j ∈ M, j ∈ L) : sI L f k := fun j hj => by rw [h2 j (fun z => hj (hs j z)), h j hj]
theorem sA.tr {L M : List Nat} {f g k : avT} (h : sA L f g) (h2 : sA M g k) (hs : ∀ j ∈ M, j ∈ L) : sA L f k := fun j hj => by rw [h2 j (fun z => hj (hs j z)), h j hj]
theorem sI.mo {L M : List Nat} {f g : ivT} (h : sI M f g) (hs : ∀ j ∈ M, j ∈ L) : sI L f g := sI.rf.tr h hs
theorem sA.mo {L M : List Nat} {f g : avT} (h : sA M f g) (hs : ∀ j ∈ M, j ∈ L) : sA L f g := sA.rf.tr h hs
