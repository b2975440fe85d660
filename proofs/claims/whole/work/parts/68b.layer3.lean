/-! LAYER, third part: a contract in a greater world. -/
theorem va_A_mem {W : va_W} {sz q : Nat} : va_A W sz q ↔ q ∈ W.map Prod.fst ∨ sz ≤ q := by
  constructor
  · rintro (⟨k, e, h⟩ | h)
    · exact Or.inl (List.mem_map.mpr ⟨_, List.mem_of_getElem? h, rfl⟩)
    · exact Or.inr h
  · rintro (h | h)
    · obtain ⟨p, hp, rfl⟩ := List.mem_map.mp h
      obtain ⟨k, hk⟩ := List.getElem?_of_mem hp
      exact Or.inl ⟨k, p.2, hk⟩
    · exact Or.inr h
/-- what a contract over W0 gives over W1, where W1 is W0 and X in some order -/
theorem Met.frm {Z : zT} {l : Launch} {y : MethodName} {ws : List Cond} {rm rm2 : Room} {av : List Value} {W0 W1 X : va_W} {sz : Nat} {Q0 : State → Outcome → State → Prop} {Qc2 : Array Value → State → Outcome → State → Prop} (hW : W1.Perm (W0 ++ X)) (hf : rm.frames ≤ rm2.frames) (hc : rm.cells ≤ rm2.cells) (hs : rm.slots ≤ rm2.slots) (hl : rm.locals ≤ rm2.locals)
    (h : Met l y ws rm (va_Pc av (mA Z W0 sz)) (fun _ st o t => Q0 st o t ∧ va_F (va_A W0 sz) st t) rm.cells rm.slots (va_A W0 sz))
    (hQ : ∀ a st o t, Q0 st o t → va_F (va_A W1 sz) st t → (∀ u, mB Z (va_A W0 sz) u t → mB Z (va_A W1 sz) (u ++ X) t) → Qc2 a st o t) : Met l y ws rm2 (va_Pc av (mA Z W1 sz)) Qc2 rm2.cells rm2.slots (va_A W1 sz) := by
  have hsub : ∀ q, va_A W0 sz q → va_A W1 sz q := by
    intro q hq
    rw [va_A_mem] at hq ⊢
    rcases hq with hq | hq
    · left
      exact (hW.map Prod.fst).mem_iff.mpr (by rw [List.map_append]; exact List.mem_append_left _ hq)
    · exact Or.inr hq
  intro p e ha hfc hfk s m args below hfr happ hP hK
  obtain ⟨hP1, hsz, hP2, hP3, hP4, hP5⟩ := hP
  have happ2 : (headSpec ws rm).appliesLoose y e.platform s = true := by
    unfold Spec.appliesLoose at *
    rw [hfr] at happ ⊢
    simp only [Bool.and_eq_true] at happ ⊢
    obtain ⟨⟨h1, h2⟩, h3⟩ := happ
    exact ⟨⟨h1, hasRoom_wide (r2 := rm2) h2 hf hc hs hl⟩, h3⟩
  have hPX := hP2.perm hW
  have hDX := hP4.perm hW
  have hnd := hDX.nd
  rw [List.map_append, List.nodup_append] at hnd
  obtain ⟨n, o, h1, h2, h3, ⟨h4, h4b⟩, L, h5, h6⟩ := h p e ha hfc hfk s m args below hfr happ2 ⟨hP1, hsz, fun k q hk => va_at_mem hPX (List.mem_append_left _ (List.mem_of_getElem? hk)), hP3, va_D.of_nd hnd.1 (fun _ _ => trivial), hP5.narrow hsub⟩ hK
  have hF : va_F (va_A W1 sz) s (stepsAlone p.tables e n s) := ⟨h4b.1, fun q hq hn => h4b.2 q hq (fun z => hn (hsub q z))⟩
  refine ⟨n, o, h1, h2, h3, hQ _ _ _ _ h4 hF ?_, L, ⟨h5.1, h5.2.1, h5.2.2.mono hc hs⟩, fun q hq => hsub _ (h6 q hq)⟩
  intro u hB
  have apart : ∀ q ∈ X, q.1 < sz ∧ ¬ va_A W0 sz q.1 := by
    intro q hq
    have hlt := (va_at_mem hPX (List.mem_append_right _ hq)).lt
    rw [hsz] at hlt
    refine ⟨hlt, fun z => ?_⟩
    rw [va_A_mem] at z
    rcases z with z | z
    · exact hnd.2.2 q.1 z q.1 (List.mem_map.mpr ⟨q, hq, rfl⟩) rfl
    · omega
  refine ⟨hB.1.app (fun k q hk => ?_), va_D.of_nd ?_ ?_⟩
  · have hq := List.mem_of_getElem? hk
    obtain ⟨g1, g2⟩ := apart q hq
    exact (va_at_mem hPX (List.mem_append_right _ hq)).kept (h4b.2 q.1 (by rw [hsz]; exact g1) g2)
  · rw [List.map_append, List.nodup_append]
    refine ⟨hB.2.nd, hnd.2.1, ?_⟩
    intro a ha1 b hb hab
    obtain ⟨q, hq, rfl⟩ := List.mem_map.mp ha1
    obtain ⟨q2, hq2, rfl⟩ := List.mem_map.mp hb
    exact (apart q2 hq2).2 (by rw [← hab]; exact hB.2.mem hq)
  · intro q hq
    rcases List.mem_append.mp hq with h9 | h9
    · exact hsub _ (hB.2.mem h9)
    · rw [va_A_mem]
      left
      exact (hW.map Prod.fst).mem_iff.mpr (by rw [List.map_append]; exact List.mem_append_right _ (List.mem_map.mpr ⟨q, h9, rfl⟩))
theorem mB.perm {Z : zT} {A : Nat → Prop} {u u2 : va_W} {t : State} (h : mB Z A u t) (hp : u.Perm u2) : mB Z A u2 t := ⟨h.1.perm hp, h.2.perm hp⟩
theorem mB.sub {Z : zT} {A : Nat → Prop} {u v : va_W} {t : State} (h : mB Z A (u ++ v) t) : mB Z A u t := by
  refine ⟨fun k q hk => va_at_mem h.1 (List.mem_append_left _ (List.mem_of_getElem? hk)), va_D.of_nd ?_ (fun q hq => h.2.mem (List.mem_append_left _ hq))⟩
  have h1 := h.2.nd
  rw [List.map_append, List.nodup_append] at h1
  exact h1.1
section FRK
variable {Z : zT} {l : Launch} {y : MethodName} {cc : ByteArray} {n : Nat} {rt : Option FieldType} {rm rm2 : Room} {av : List Value} {W0 W1 X : va_W}
theorem Kv.frm {post post2 : va_W → Prop} (h : Kv Z l y cc n rt rm av W0 post) (hW : W1.Perm (W0 ++ X)) (hf : rm.frames ≤ rm2.frames) (hc : rm.cells ≤ rm2.cells) (hs : rm.slots ≤ rm2.slots) (hl : rm.locals ≤ rm2.locals) (hp : ∀ u, post u → ∃ v w, (u ++ X).Perm (v ++ w) ∧ post2 v) : Kv Z l y cc n rt rm2 av W1 post2 :=
  fun sz => Met.frm (Q0 := fun _ o t => ∃ u, o = .returned none ∧ post u ∧ mB Z (va_A W0 sz) u t) hW hf hc hs hl (h sz) (fun a st o t ⟨u, h1, h2, h3⟩ hF hB => by
    obtain ⟨v, w, h4, h5⟩ := hp u h2
    exact ⟨⟨v, h1, h5, ((hB u h3).perm h4).sub⟩, hF⟩)
theorem Ki.frm {post post2 : Int32 → va_W → Prop} (h : Ki Z l y cc n rt rm av W0 post) (hW : W1.Perm (W0 ++ X)) (hf : rm.frames ≤ rm2.frames) (hc : rm.cells ≤ rm2.cells) (hs : rm.slots ≤ rm2.slots) (hl : rm.locals ≤ rm2.locals) (hp : ∀ r u, post r u → ∃ v w, (u ++ X).Perm (v ++ w) ∧ post2 r v) : Ki Z l y cc n rt rm2 av W1 post2 :=
  fun sz => Met.frm (Q0 := fun _ o t => ∃ (r : Int32) (u : va_W), o = .returned (some (.int r)) ∧ post r u ∧ mB Z (va_A W0 sz) u t) hW hf hc hs hl (h sz) (fun a st o t ⟨r, u, h1, h2, h3⟩ hF hB => by
    obtain ⟨v, w, h4, h5⟩ := hp r u h2
    exact ⟨⟨r, v, h1, h5, ((hB u h3).perm h4).sub⟩, hF⟩)
theorem Kq.frm {post post2 : Option Nat → va_W → Prop} (h : Kq Z l y cc n rt rm av W0 post) (hW : W1.Perm (W0 ++ X)) (hf : rm.frames ≤ rm2.frames) (hc : rm.cells ≤ rm2.cells) (hs : rm.slots ≤ rm2.slots) (hl : rm.locals ≤ rm2.locals) (hp : ∀ r u, post r u → ∃ v w, (u ++ X).Perm (v ++ w) ∧ post2 r v) : Kq Z l y cc n rt rm2 av W1 post2 :=
  fun sz => Met.frm (Q0 := fun _ o t => ∃ (r : Option Nat) (u : va_W), o = .returned (some (va_rf r)) ∧ post r u ∧ mB Z (va_A W0 sz) u t) hW hf hc hs hl (h sz) (fun a st o t ⟨r, u, h1, h2, h3⟩ hF hB => by
    obtain ⟨v, w, h4, h5⟩ := hp r u h2
    exact ⟨⟨r, v, h1, h5, ((hB u h3).perm h4).sub⟩, hF⟩)
end FRK
