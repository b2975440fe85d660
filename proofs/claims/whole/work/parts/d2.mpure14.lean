/-! OBJECTS: what stays true when some go or one comes. -/
theorem mo_nd_iff {ob : List obT} : mo_nd ob ↔ (ob.map (fun o => (o.1, o.2.1))).Nodup := by
  rw [List.nodup_iff_pairwise_ne, List.pairwise_map, List.pairwise_iff_getElem]
  constructor
  · intro h i j hi hj hij z
    have := h i j _ _ (List.getElem?_eq_getElem hi) (List.getElem?_eq_getElem hj) (Prod.mk.inj z).1 (Prod.mk.inj z).2
    omega
  · intro h i j o p hi hj h1 h2
    obtain ⟨hi', rfl⟩ := List.getElem?_eq_some_iff.mp hi
    obtain ⟨hj', rfl⟩ := List.getElem?_eq_some_iff.mp hj
    rcases Nat.lt_trichotomy i j with e | e | e
    · exact absurd (by rw [h1, h2]) (h i j hi' hj' e)
    · exact e
    · exact absurd (by rw [h1, h2]) (h j i hj' hi' e)
theorem mo_in_perm {ob ob2 : List obT} {kp : obT → Bool} (h : mo_in ob) (hp : ob2.Perm (ob.filter kp)) : mo_in ob2 := by
  refine ⟨?_, fun o ho => h.2.1 o (List.mem_filter.mp (hp.mem_iff.mp ho)).1, fun o ho => h.2.2 o (List.mem_filter.mp (hp.mem_iff.mp ho)).1⟩
  rw [mo_nd_iff, (hp.map _).nodup_iff]
  exact List.Nodup.sublist (List.filter_sublist.map _) (mo_nd_iff.mp h.1)
theorem mo_in_add {ob : List obT} {s : Int32} {v : Nat} {bs : List Int8} (h : mo_in ob) (hf : mFi ob s (nI v) = none) (hv : v < 2 ^ 20) (hs : s = 2 → bs.length ≤ 1010) : mo_in (ob ++ [(s, nI v, bs)]) := by
  refine ⟨?_, ?_, ?_⟩
  · rw [mo_nd_iff, List.map_append, List.nodup_append]
    refine ⟨mo_nd_iff.mp h.1, by simp, ?_⟩
    intro a ha b hb z
    rw [List.map_cons, List.map_nil, List.mem_singleton] at hb
    obtain ⟨o, ho, rfl⟩ := List.mem_map.mp ha
    obtain ⟨k, hk⟩ := List.getElem?_of_mem ho
    have h9 := mFi_at h.1 hk
    rw [hb] at z
    rw [show o.1 = s from congrArg Prod.fst z, show o.2.1 = nI v from congrArg Prod.snd z, hf] at h9
    cases h9
  · intro o ho
    rcases List.mem_append.mp ho with h1 | h1
    · exact h.2.1 o h1
    · rw [List.mem_singleton.mp h1]; exact ⟨v, hv, rfl⟩
  · intro o ho h2
    rcases List.mem_append.mp ho with h1 | h1
    · exact h.2.2 o h1 h2
    · rw [List.mem_singleton.mp h1] at h2 ⊢; exact hs h2
theorem wnS_cong {av av2 : avT} {pn bn : Nat → Nat} (h33 : av2 33 = av 33) (h52 : av2 52 = av 52) (h57 : av2 57 = av 57) (k : Nat) : wnS av2 pn bn k = wnS av pn bn k := by
  unfold wnS wnL
  rw [h33, h52, h57]
theorem sub_back (a b : Int32) : a + b - a = b := by rw [Int32.add_comm, Int32.add_sub_cancel]
