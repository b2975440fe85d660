/-! LAYER, second part: more room, a weaker end; a list's add in one contract. -/
theorem hasRoom_wide {s : State} {pl : Platform} {r r2 : Room} (h : s.hasRoom pl r2 = true) (hf : r.frames ≤ r2.frames) (hc : r.cells ≤ r2.cells) (hs : r.slots ≤ r2.slots) (hl : r.locals ≤ r2.locals) : s.hasRoom pl r = true := by
  unfold State.hasRoom at *
  simp only [Bool.and_eq_true, decide_eq_true_eq] at *
  obtain ⟨⟨⟨⟨h1, h2⟩, h3⟩, h4⟩, h5⟩ := h
  exact ⟨⟨⟨⟨by omega, by omega⟩, by omega⟩, by omega⟩, h5⟩
theorem Met.wide {l : Launch} {y : MethodName} {ws : List Cond} {rm rm2 : Room} {Pc : Array Value → State → Prop} {Qc Qc2 : Array Value → State → Outcome → State → Prop} {mc ms mc2 ms2 : Nat} {free : Addr → Prop} (h : Met l y ws rm Pc Qc mc ms free) (hf : rm.frames ≤ rm2.frames) (hc : rm.cells ≤ rm2.cells) (hs : rm.slots ≤ rm2.slots) (hl : rm.locals ≤ rm2.locals) (hmc : mc ≤ mc2) (hms : ms ≤ ms2) (hQ : ∀ a st o t, Qc a st o t → Qc2 a st o t) : Met l y ws rm2 Pc Qc2 mc2 ms2 free := by
  intro p e ha hfc hfk s m args below hfr happ hP hK
  have happ2 : (headSpec ws rm).appliesLoose y e.platform s = true := by
    unfold Spec.appliesLoose at *
    rw [hfr] at happ ⊢
    simp only [Bool.and_eq_true] at happ ⊢
    obtain ⟨⟨h1, h2⟩, h3⟩ := happ
    exact ⟨⟨h1, hasRoom_wide (r2 := rm2) h2 hf hc hs hl⟩, h3⟩
  obtain ⟨n, o, h1, h2, h3, h4, L, h5, h6⟩ := h p e ha hfc hfk s m args below hfr happ2 hP hK
  exact ⟨n, o, h1, h2, h3, hQ _ _ _ _ h4, L, ⟨h5.1, h5.2.1, h5.2.2.mono hmc hms⟩, h6⟩
theorem Kv.up {Z : zT} {l : Launch} {y : MethodName} {cc : ByteArray} {n : Nat} {rt : Option FieldType} {rm rm2 : Room} {av : List Value} {W0 : va_W} {post post2 : va_W → Prop} (h : Kv Z l y cc n rt rm av W0 post) (hf : rm.frames ≤ rm2.frames) (hc : rm.cells ≤ rm2.cells) (hs : rm.slots ≤ rm2.slots) (hl : rm.locals ≤ rm2.locals) (hp : ∀ u, post u → post2 u) : Kv Z l y cc n rt rm2 av W0 post2 :=
  fun sz => (h sz).wide hf hc hs hl hc hs (fun _ _ _ _ ⟨⟨u, h1, h2, h3⟩, h4⟩ => ⟨⟨u, h1, hp u h2, h3⟩, h4⟩)
theorem Ki.up {Z : zT} {l : Launch} {y : MethodName} {cc : ByteArray} {n : Nat} {rt : Option FieldType} {rm rm2 : Room} {av : List Value} {W0 : va_W} {post post2 : Int32 → va_W → Prop} (h : Ki Z l y cc n rt rm av W0 post) (hf : rm.frames ≤ rm2.frames) (hc : rm.cells ≤ rm2.cells) (hs : rm.slots ≤ rm2.slots) (hl : rm.locals ≤ rm2.locals) (hp : ∀ r u, post r u → post2 r u) : Ki Z l y cc n rt rm2 av W0 post2 :=
  fun sz => (h sz).wide hf hc hs hl hc hs (fun _ _ _ _ ⟨⟨r, u, h1, h2, h3⟩, h4⟩ => ⟨⟨r, u, h1, hp r u h2, h3⟩, h4⟩)
theorem Kq.up {Z : zT} {l : Launch} {y : MethodName} {cc : ByteArray} {n : Nat} {rt : Option FieldType} {rm rm2 : Room} {av : List Value} {W0 : va_W} {post post2 : Option Nat → va_W → Prop} (h : Kq Z l y cc n rt rm av W0 post) (hf : rm.frames ≤ rm2.frames) (hc : rm.cells ≤ rm2.cells) (hs : rm.slots ≤ rm2.slots) (hl : rm.locals ≤ rm2.locals) (hp : ∀ r u, post r u → post2 r u) : Kq Z l y cc n rt rm2 av W0 post2 :=
  fun sz => (h sz).wide hf hc hs hl hc hs (fun _ _ _ _ ⟨⟨r, u, h1, h2, h3⟩, h4⟩ => ⟨⟨r, u, h1, hp r u h2, h3⟩, h4⟩)
/-- a list's add, whatever its array -/
theorem c_addS (Z : zT) (l : Launch) (a qe k : Nat) (mc : Int32) (ar : arT) (bl : List blT) (T : va_W) (x : blT) (hv : bO x ∈ T) (hT : ∀ y ∈ bl, bO y ∈ T) (hok : shOk Z qe ar bl) (hk : k ≤ bl.length) (hn : bl.length < 100) :
    Kv Z l yJx4a65c_add_7a177 cJx4a65c_add_7a177 5 none ({ frames := 5, cells := 1, slots := 150, locals := 160 }) [.ref a, .int (nI k), .ref (bl_ad x)] ([liC a mc qe bl.length] ++ (arE Z qe ar ++ T)) (fun u => ∃ qe2 ar2, shOk Z qe2 ar2 (bl.take k ++ x :: bl.drop k) ∧ u = [liC a (mc + 1) qe2 (bl.length + 1)] ++ (arE Z qe2 ar2 ++ T)) := by
  have hlen : (bl.take k ++ x :: bl.drop k).length = bl.length + 1 := by simp only [List.length_append, List.length_take, List.length_cons, List.length_drop]; omega
  rcases hok with ⟨rfl, rfl, rfl⟩ | ⟨cap, g, rfl, h1, h2, h3, h4⟩
  · have hk0 : k = 0 := by simpa using hk
    subst hk0
    refine Kv.up (c_addA Z l a mc T _ _ hv) (by decide) (by decide) (by decide) (by decide) ?_
    rintro u ⟨qn, g2, hg, rfl⟩
    refine ⟨qn, some (10, g2), Or.inr ⟨10, g2, rfl, by omega, by omega, by simp, fun i y hy => ?_⟩, rfl⟩
    cases i with
    | zero => simp at hy; subst hy; exact hg
    | succ i => simp at hy
  · by_cases hc : bl.length < cap
    · refine Kv.up (c_addB Z l a qe bl.length k cap mc g T _ _ hv (fun j hj y hy => ?_) hk hc (by omega)) (by decide) (by decide) (by decide) (by decide) ?_
      · have hb : bl[j]? = some bl[j] := List.getElem?_eq_getElem hj
        rw [h4 j _ hb] at hy
        simp only [Option.some.injEq] at hy
        subst hy
        exact ⟨_, hT _ (List.getElem_mem hj)⟩
      · rintro u ⟨g2, hg, rfl⟩
        exact ⟨qe, some (cap, g2), Or.inr ⟨cap, g2, rfl, h1, h2, by omega, insG_bl hk hg h4⟩, rfl⟩
    · have hcap : cap = bl.length := by omega
      subst hcap
      refine Kv.up (c_addC Z l a qe k bl.length mc g T _ _ hv (fun j hj y hy => ?_) hk (by omega) (by omega)) (Nat.le_of_ble_eq_true rfl) (Nat.le_of_ble_eq_true rfl) (by show bl.length + bl.length / 2 ≤ 150; omega) (Nat.le_of_ble_eq_true rfl) ?_
      · have hb : bl[j]? = some bl[j] := List.getElem?_eq_getElem hj
        rw [h4 j _ hb] at hy
        simp only [Option.some.injEq] at hy
        subst hy
        exact ⟨_, hT _ (List.getElem_mem hj)⟩
      · rintro u ⟨qn, g2, hg, rfl⟩
        exact ⟨qn, some (bl.length + bl.length / 2, g2), Or.inr ⟨_, g2, rfl, by omega, by omega, by omega, insG_bl hk hg h4⟩, rfl⟩
/-- a list's remove -/
theorem c_remS (Z : zT) (l : Launch) (a qe k : Nat) (mc : Int32) (ar : arT) (bl : List blT) (T : va_W) (x : blT) (hx : bl[k]? = some x) (hT : ∀ y ∈ bl, bO y ∈ T) (hok : shOk Z qe ar bl) :
    Kq Z l yJx4a65c_remove_915e3 cJx4a65c_remove_915e3 4 (some (.object "java/lang/Object")) ({ frames := 2, cells := 0, slots := 0, locals := 70 }) [.ref a, .int (nI k)] ([liC a mc qe bl.length] ++ (arE Z qe ar ++ T)) (fun r u => ∃ ar2, shOk Z qe ar2 (bl.eraseIdx k) ∧ u = [liC a (mc + 1) qe (bl.length - 1)] ++ (arE Z qe ar2 ++ T)) := by
  obtain ⟨cap, g, rfl, h1, h2, h3, h4⟩ := hok.arr hx
  have hk := (List.getElem?_eq_some_iff.mp hx).1
  have hlen : (bl.eraseIdx k).length = bl.length - 1 := List.length_eraseIdx_of_lt hk
  refine Kq.up (c_Jx4a65c_remove Z l a qe bl.length k cap mc g T (fun j hj y hy => ?_) hk h3 (by omega) (bl_ad x) (h4 k x hx)) (by decide) (by decide) (by decide) (by decide) ?_
  · have hb : bl[j]? = some bl[j] := List.getElem?_eq_getElem hj
    rw [h4 j _ hb] at hy
    simp only [Option.some.injEq] at hy
    subst hy
    exact ⟨_, hT _ (List.getElem_mem hj)⟩
  · rintro r u ⟨g2, hg, rfl⟩
    exact ⟨some (cap, g2), Or.inr ⟨cap, g2, rfl, h1, h2, by omega, delG_bl hg h4⟩, rfl⟩
