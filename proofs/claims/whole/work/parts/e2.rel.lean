/-! The class's OBJECTS and the reference's. -/
def kO (s : Int32) (x : blT) : obT := (s, bl_nu x, bsOf (bl_fn x) (bl_le x))
def rel (dl el kl : List blT) (ob : List obT) : Prop := ob.Perm (dl.map (kO 0) ++ (el.map (kO 1) ++ kl.map (kO 2)))
theorem bFd_mem {bl : List blT} (h : bSo bl) {x : Int32} {y : blT} : bFd bl x = some y ↔ y ∈ bl ∧ bl_nu y = x := by
  constructor
  · intro hf
    obtain ⟨h1, h2⟩ := bFd_get hf
    exact ⟨List.mem_of_getElem? h1, h2⟩
  · rintro ⟨hm, hx⟩
    obtain ⟨i, hi⟩ := List.getElem?_of_mem hm
    have hl : i < bl.length := (List.getElem?_eq_some_iff.mp hi).1
    have hp : bPl bl x = i := by
      unfold bPl
      refine plc_eq _ _ _ (by rw [List.length_map]; omega) (fun j hj => ?_) (fun _ => ?_)
      · have h9 := fl_mono h hj (by rw [List.length_map]; exact hl)
        rw [bl_getD hi, hx] at h9
        exact h9
      · rw [bl_getD hi, hx]; exact Int32.lt_irrefl
    exact bFd_some (by rw [hp]; exact hi) hx
theorem lk_of {ob : List obT} {bl : List blT} {s n : Int32} (hn : mo_nd ob) (hb : bSo bl) (hm : ∀ bs, (s, n, bs) ∈ ob ↔ (s, n, bs) ∈ bl.map (kO s)) : mLk ob s n = (bFd bl n).map (fun y => bsOf (bl_fn y) (bl_le y)) := by
  have key : ∀ bs, mLk ob s n = some bs ↔ (bFd bl n).map (fun y => bsOf (bl_fn y) (bl_le y)) = some bs := by
    intro bs
    rw [mLk_iff hn, hm bs, List.mem_map, Option.map_eq_some_iff]
    constructor
    · rintro ⟨y, h1, h2⟩
      have h3 : bl_nu y = n := (Prod.mk.inj (Prod.mk.inj h2).2).1
      exact ⟨y, (bFd_mem hb).mpr ⟨h1, h3⟩, (Prod.mk.inj (Prod.mk.inj h2).2).2⟩
    · rintro ⟨y, h1, h2⟩
      obtain ⟨h3, h4⟩ := (bFd_mem hb).mp h1
      refine ⟨y, h3, ?_⟩
      unfold kO
      rw [h4, h2]
  cases h9 : (bFd bl n).map (fun y => bsOf (bl_fn y) (bl_le y)) with
  | some bs => exact (key bs).mpr h9
  | none =>
    cases h8 : mLk ob s n with
    | none => rfl
    | some bs => rw [(key bs).mp h8] at h9; cases h9
theorem kO_ne {s s2 n : Int32} {bs : List Int8} {bl : List blT} (h : ¬ s = s2) : (s, n, bs) ∉ bl.map (kO s2) := fun z => by
  obtain ⟨y, _, h2⟩ := List.mem_map.mp z
  exact h (Prod.mk.inj h2).1.symm
theorem rel.d {dl el kl : List blT} {ob : List obT} (h : rel dl el kl ob) (hn : mo_nd ob) (hb : bSo dl) (n : Int32) : mLk ob 0 n = (bFd dl n).map (fun y => bsOf (bl_fn y) (bl_le y)) := lk_of hn hb (fun bs => by
  rw [h.mem_iff, List.mem_append, List.mem_append]
  exact ⟨fun z => z.elim id (fun z => z.elim (fun a => absurd a (kO_ne (by decide))) (fun a => absurd a (kO_ne (by decide)))), Or.inl⟩)
theorem rel.e {dl el kl : List blT} {ob : List obT} (h : rel dl el kl ob) (hn : mo_nd ob) (hb : bSo el) (n : Int32) : mLk ob 1 n = (bFd el n).map (fun y => bsOf (bl_fn y) (bl_le y)) := lk_of hn hb (fun bs => by
  rw [h.mem_iff, List.mem_append, List.mem_append]
  exact ⟨fun z => z.elim (fun a => absurd a (kO_ne (by decide))) (fun z => z.elim id (fun a => absurd a (kO_ne (by decide)))), fun z => Or.inr (Or.inl z)⟩)
theorem rel.k {dl el kl : List blT} {ob : List obT} (h : rel dl el kl ob) (hn : mo_nd ob) (hb : bSo kl) (n : Int32) : mLk ob 2 n = (bFd kl n).map (fun y => bsOf (bl_fn y) (bl_le y)) := lk_of hn hb (fun bs => by
  rw [h.mem_iff, List.mem_append, List.mem_append]
  exact ⟨fun z => z.elim (fun a => absurd a (kO_ne (by decide))) (fun z => z.elim (fun a => absurd a (kO_ne (by decide))) id), fun z => Or.inr (Or.inr z)⟩)
theorem rel.len {dl el kl : List blT} {ob : List obT} (h : rel dl el kl ob) : ob.length = dl.length + el.length + kl.length := by
  rw [h.length_eq, List.length_append, List.length_append, List.length_map, List.length_map, List.length_map]; omega
theorem rel.sz {dl el kl : List blT} {ob : List obT} (h : rel dl el kl ob) : oSz ob = (dl.map bl_le).sum + (el.map bl_le).sum + (kl.map bl_le).sum := by
  have e : ∀ (s : Int32) (bl : List blT), ((bl.map (kO s)).map (fun o => o.2.2.length)) = bl.map bl_le := by
    intro s bl
    rw [List.map_map]
    apply List.map_congr_left
    intro y _
    exact bsOf_len _ _
  unfold oSz
  rw [(h.map _).sum_nat, List.map_append, List.map_append, e, e, e, List.sum_append, List.sum_append]; omega
