/-! What a WRITE plans at its start. -/
theorem sub_len {α : Type} [DecidableEq α] : ∀ (l m : List α), l.Nodup → (∀ x ∈ l, x ∈ m) → l.length ≤ m.length
  | [], _, _, _ => Nat.zero_le _
  | a :: l, m, hn, hs => by
    have ha : a ∈ m := hs a List.mem_cons_self
    have hn2 := List.nodup_cons.mp hn
    have := sub_len l (m.erase a) hn2.2 (fun x hx => (List.mem_erase_of_ne (fun (z : x = a) => hn2.1 (by rw [← z]; exact hx))).mpr (hs x (List.mem_cons_of_mem _ hx)))
    have h2 := List.length_erase_of_mem ha
    have h3 := List.length_pos_of_mem ha
    show l.length + 1 ≤ m.length
    omega
theorem mW_mem {ob : List obT} {x pt : Int32} (h : ¬ mW ob x pt = none) : x ∈ ob.map (fun o => o.2.1) := by
  cases hb : mLk ob 0 x with
  | none => exact absurd (by unfold mW; rw [hb]; rfl) h
  | some bs =>
    obtain ⟨k, o, _, h2, _, h4, _⟩ := mLk_mem hb
    exact List.mem_map.mpr ⟨o, List.mem_of_getElem? h2, h4⟩
theorem mW_count {ob : List obT} {F : flT} {pt : Int32} (hF : fl_so F) (ho : ob.length ≤ 100) (h : ∀ q ∈ F, q.2 = pt → ¬ mW ob q.1 q.2 = none) : F.countP (fun q => decide (q.2 = pt)) ≤ 100 := by
  rw [List.countP_eq_length_filter]
  have h1 := sub_len ((F.filter (fun q => decide (q.2 = pt))).map (fun q => q.1)) (ob.map (fun o => o.2.1)) (by
    rw [List.nodup_iff_pairwise_ne, List.pairwise_map]
    refine List.Pairwise.imp ?_ (List.Pairwise.sublist List.filter_sublist hF)
    intro a b hab z
    rw [z] at hab
    exact Int32.lt_irrefl hab) (by
    intro x hx
    obtain ⟨q, hq, rfl⟩ := List.mem_map.mp hx
    have hq2 := List.mem_filter.mp hq
    exact mW_mem (h q hq2.1 (by simpa using hq2.2)))
  rw [List.length_map, List.length_map] at h1
  omega
/-- FILES of the WRITE's PARTITION that cannot be read -/
def hurt (D : rdT) (F : flT) (ki pt : Int32) : Prop := ¬ ki = 0 ∧ ∃ q ∈ F, q.2 = pt ∧ D q.1 q.2 = none
/-- what a WRITE plans -/
def plnF (D : rdT) (F : flT) (ki pt : Int32) (c : Nat) (wh nu : Int32) (rs : List r4T) : List rwT × List Int32 :=
  if ki = 0 then (apO rs 8, []) else if ki = 1 then F.foldl (dlS D pt c wh nu) ([], []) else if F.countP (fun q => decide (q.2 = pt)) ≤ 1 then ([], []) else
  (ch48 pt (F.foldl (cmS D pt) ([], [])).1 (((F.foldl (cmS D pt) ([], [])).1.length + 47) / 48), (F.foldl (cmS D pt) ([], [])).2)
theorem cntT_y {F : flT} {k : Nat} {q : Int32 × Int32} {pt : Int32} (hk : F[k]? = some q) (h : q.2 = pt) : (F.take (k + 1)).countP (fun q => decide (q.2 = pt)) = (F.take k).countP (fun q => decide (q.2 = pt)) + 1 := by
  rw [take_s hk, List.countP_append]; simp [h]
theorem cntT_n {F : flT} {k : Nat} {q : Int32 × Int32} {pt : Int32} (hk : F[k]? = some q) (h : ¬ q.2 = pt) : (F.take (k + 1)).countP (fun q => decide (q.2 = pt)) = (F.take k).countP (fun q => decide (q.2 = pt)) := by
  rw [take_s hk, List.countP_append]; simp [h]
theorem mem_take_s {F : flT} {k : Nat} {q : Int32 × Int32} {P : Int32 × Int32 → Prop} (hk : F[k]? = some q) (h : ∀ x ∈ F.take k, P x) (hq : P q) : ∀ x ∈ F.take (k + 1), P x := by
  intro x hx
  rw [take_s hk] at hx
  rcases List.mem_append.mp hx with h1 | h1
  · exact h x h1
  · rw [List.mem_singleton.mp h1]; exact hq
theorem flS_get {iv : ivT} {av : avT} {F : flT} {k : Nat} (h : flS iv av F) (hk : k < F.length) : F[k]? = some (av 31 k, av 32 k) := by
  have h1 := flget h hk
  have h2 : (F.drop k)[0]? = some (av 31 k, av 32 k) := by rw [h1]; rfl
  rw [List.getElem?_drop] at h2
  exact h2
