/-! MODEL, PURE: a column as the reference writes it. -/
/-- the reference's VALUES, column by column -/
def mV (av : avT) : Nat → Int32 := fun j => av 21 (3 * (j % 48) + j / 48)
theorem mV_at (av : avT) {c r : Nat} (hr : r < 48) : mV av (48 * c + r) = av 21 (3 * r + c) := by
  unfold mV
  rw [show (48 * c + r) % 48 = r by omega, show (48 * c + r) / 48 = c by omega]
theorem mV_same {av av2 : avT} (h : av2 21 = av 21) : mV av2 = mV av := by unfold mV; rw [h]
/-- those that are there -/
def tf (l : List Int32) : List Int32 := l.filter (fun v => decide (¬ v = MIS))
theorem tf_len (l : List Int32) : (tf l).length ≤ l.length := List.length_filter_le _ _
theorem tf_y {l : List Int32} {v : Int32} (h : ¬ v = MIS) : tf (l ++ [v]) = tf l ++ [v] := by simp [tf, h]
theorem tf_n {l : List Int32} {v : Int32} (h : v = MIS) : tf (l ++ [v]) = tf l := by simp [tf, h]
theorem tf_mem {l : List Int32} {v : Int32} (h : v ∈ tf l) : ¬ v = MIS := by
  have := (List.mem_filter.mp h).2
  simpa using this
theorem tf_fold {β : Type} (F : β → Int32 → β) (hF : ∀ s, F s MIS = s) (l : List Int32) (s : β) : (tf l).foldl F s = l.foldl F s := by
  unfold tf
  rw [List.foldl_filter]
  congr 1
  funext x y
  by_cases h : y = MIS
  · subst h; simp [hF]
  · simp [h]
theorem tf_sw (l : List Int32) : swF (tf l) = swF l := tf_fold swS (fun _ => if_pos rfl) l _
theorem tf_st (l : List Int32) : stF (tf l) = stF l := tf_fold stS (fun _ => if_pos rfl) l _
theorem tf_ob (w : Nat) (l : List Int32) : obF w (tf l) = obF w l := tf_fold (obS w) (fun _ => if_pos rfl) l _
theorem tf_rn (l : List Int32) : rnF (tf l) = rnF l := tf_fold rnS (fun _ => if_pos rfl) l _
theorem getD_app_lt {l : List Int32} {v : Int32} {i : Nat} (h : i < l.length) : (l ++ [v]).getD i 0 = l.getD i 0 := by
  rw [List.getD_eq_getElem?_getD, List.getD_eq_getElem?_getD, List.getElem?_append_left h]
theorem getD_app_eq {l : List Int32} {v : Int32} : (l ++ [v]).getD l.length 0 = v := by
  rw [List.getD_eq_getElem?_getD, List.getElem?_append_right (Nat.le_refl _), Nat.sub_self]; rfl
theorem take_getD {l : List Int32} {k : Nat} (h : k < l.length) : l.take (k + 1) = l.take k ++ [l.getD k 0] := by
  rw [List.take_succ, List.getElem?_eq_getElem h, List.getD_eq_getElem?_getD, List.getElem?_eq_getElem h]; rfl
theorem getD_mem {l : List Int32} {k : Nat} (h : k < l.length) : l.getD k 0 ∈ l := by
  rw [List.getD_eq_getElem?_getD, List.getElem?_eq_getElem h]; exact List.getElem_mem h
/-- the value ahead -/
def ahd (l : List Int32) (k : Nat) : Int32 := if k = 0 then 0 else l.getD (k - 1) 0
theorem sw_k {th : List Int32} (hm : ∀ v ∈ th, ¬ v = MIS) {k ru va : Nat} (hk : k < th.length) (h : swF (th.take k) = (4 * k, 5 * ru, va, ahd th k)) : swF (th.take (k + 1)) = (4 * (k + 1), 5 * (if k = 0 ∨ ¬ th.getD k 0 = th.getD (k - 1) 0 then ru + 1 else ru), va + (vbs (th.getD k 0 - ahd th k)).length, ahd th (k + 1)) := by
  rw [take_getD hk, swF_s, h, swS, if_neg (hm _ (getD_mem hk))]
  have ha : ahd th (k + 1) = th.getD k 0 := by unfold ahd; rw [if_neg (by omega), Nat.add_sub_cancel]
  rw [ha]
  dsimp only
  have e1 : (4 * k = 0) ↔ k = 0 := by omega
  by_cases h0 : k = 0
  · subst h0
    rw [if_pos (Or.inl rfl), if_pos (Or.inl rfl)]
    rfl
  · have e2 : ahd th k = th.getD (k - 1) 0 := by unfold ahd; rw [if_neg h0]
    rw [e2]
    by_cases h1 : th.getD k 0 = th.getD (k - 1) 0
    · rw [if_neg (by rintro (z | z); exact h0 (e1.mp z); exact z h1), if_neg (by rintro (z | z); exact h0 z; exact z h1)]
      rfl
    · rw [if_pos (Or.inr h1), if_pos (Or.inr h1)]
      rfl
theorem ob_k (w : Nat) {th : List Int32} (hm : ∀ v ∈ th, ¬ v = MIS) {k : Nat} (hk : k < th.length) : obF w (th.take k) = ((obF w (th.take k)).1, ahd th k) ∧ (obF w (th.take (k + 1))).1 = (obF w (th.take k)).1 ++ (if w = 0 then u4b (th.getD k 0) else vbs (th.getD k 0 - ahd th k)) := by
  have h1 : ∀ j, j ≤ th.length → (obF w (th.take j)).2 = ahd th j := by
    intro j
    cases j with
    | zero => intro _; simp [obF, ahd]
    | succ j =>
      intro hj
      rw [take_getD (by omega), obF_s, obS, if_neg (hm _ (getD_mem (by omega)))]
      show th.getD j 0 = ahd th (j + 1)
      unfold ahd; rw [if_neg (by omega), Nat.add_sub_cancel]
  have h2 := h1 k (by omega)
  refine ⟨by rw [← h2], ?_⟩
  rw [take_getD hk, obF_s, obS, if_neg (hm _ (getD_mem hk)), h2]
/-- runs as the reference writes them -/
def emR (p : Option Int32) : List Int32 → List Int8
  | [] => []
  | v :: t => (if p = some v then [] else [(nI (1 + (t.takeWhile (fun x => decide (x = v))).length)).toInt8] ++ u4b v) ++ emR (some v) t
theorem emR_rn : ∀ (l : List Int32) (o : List Int8) (len : Nat) (like : Int32), (∀ v ∈ l, ¬ v = MIS) → 0 < len → rnE (l.foldl rnS (o, len, like)) = o ++ [(nI (len + (l.takeWhile (fun x => decide (x = like))).length)).toInt8] ++ u4b like ++ emR (some like) l
  | [], o, len, like, _, h => by simp [rnE, h, emR]
  | v :: t, o, len, like, hm, h => by
    have hv := hm v (List.mem_cons_self ..)
    have ht : ∀ x ∈ t, ¬ x = MIS := fun x hx => hm x (List.mem_cons_of_mem _ hx)
    rw [List.foldl_cons]
    by_cases e : v = like
    · subst e
      have h1 : rnS (o, len, v) v = (o, len + 1, v) := by
        unfold rnS
        rw [if_neg hv, if_neg (by simp)]
      rw [h1, emR_rn t o (len + 1) v ht (by omega), List.takeWhile_cons, if_pos (by simp), List.length_cons, emR, if_pos rfl, List.nil_append, show len + 1 + (t.takeWhile (fun x => decide (x = v))).length = len + ((t.takeWhile (fun x => decide (x = v))).length + 1) by omega]
    · have h1 : rnS (o, len, like) v = (o ++ [(nI len).toInt8] ++ u4b like, 1, v) := by
        unfold rnS
        rw [if_neg hv, if_pos ⟨h, e⟩]
      rw [h1, emR_rn t _ 1 v ht (by omega), List.takeWhile_cons, if_neg (by simpa using e), List.length_nil, Nat.add_zero]
      conv => rhs; rw [emR]
      rw [if_neg (by intro z; exact e (Option.some.inj z).symm)]
      simp only [List.append_assoc]
theorem emR_B {l : List Int32} (hm : ∀ v ∈ l, ¬ v = MIS) : rnB l = emR none l := by
  cases l with
  | nil => rfl
  | cons v t =>
    have hv := hm v (List.mem_cons_self ..)
    unfold rnB rnF
    rw [List.foldl_cons]
    have h1 : rnS ([], 0, 0) v = ([], 1, v) := by
      unfold rnS
      rw [if_neg hv, if_neg (by simp)]
    rw [h1, emR_rn t [] 1 v (fun x hx => hm x (List.mem_cons_of_mem _ hx)) (by omega), emR, if_neg (by simp)]
    simp only [List.nil_append, List.append_assoc]
/-- what stands ahead, as the runs see it -/
def prv (l : List Int32) (k : Nat) : Option Int32 := if k = 0 then none else some (l.getD (k - 1) 0)
theorem drop_getD {l : List Int32} {k : Nat} (h : k < l.length) : l.drop k = l.getD k 0 :: l.drop (k + 1) := by
  rw [List.drop_eq_getElem_cons h, List.getD_eq_getElem?_getD, List.getElem?_eq_getElem h]; rfl
theorem emR_k {th : List Int32} {k : Nat} (hk : k < th.length) : emR (prv th k) (th.drop k) = (if k = 0 ∨ ¬ th.getD k 0 = th.getD (k - 1) 0 then [(nI (1 + ((th.drop (k + 1)).takeWhile (fun x => decide (x = th.getD k 0))).length)).toInt8] ++ u4b (th.getD k 0) else []) ++ emR (prv th (k + 1)) (th.drop (k + 1)) := by
  rw [drop_getD hk, emR]
  have h1 : prv th (k + 1) = some (th.getD k 0) := by unfold prv; rw [if_neg (by omega), Nat.add_sub_cancel]
  rw [h1]
  congr 1
  by_cases h0 : k = 0
  · subst h0
    rw [if_neg (by unfold prv; simp), if_pos (Or.inl rfl)]
  · have h2 : prv th k = some (th.getD (k - 1) 0) := by unfold prv; rw [if_neg h0]
    rw [h2]
    by_cases e : th.getD k 0 = th.getD (k - 1) 0
    · rw [if_pos (by rw [e]), if_neg (by rintro (z | z); exact h0 z; exact z e)]
    · rw [if_neg (fun z => e (Option.some.inj z).symm), if_pos (Or.inr e)]
/-- how far a run goes -/
theorem run_len {th : List Int32} {k m : Nat} {v : Int32} (hm : 1 ≤ m) (hle : k + m ≤ th.length) (hall : ∀ j, 1 ≤ j → j < m → th.getD (k + j) 0 = v) (hend : k + m < th.length → ¬ th.getD (k + m) 0 = v) : m = 1 + ((th.drop (k + 1)).takeWhile (fun x => decide (x = v))).length := by
  have h : ∀ (d : Nat) (j : Nat), j + d = m → 1 ≤ j → ((th.drop (k + j)).takeWhile (fun x => decide (x = v))).length = d := by
    intro d
    induction d with
    | zero =>
      intro j hj h1
      have : j = m := by omega
      subst this
      by_cases hlt : k + j < th.length
      · rw [drop_getD hlt, List.takeWhile_cons, if_neg (by simpa using hend hlt)]; rfl
      · rw [List.drop_eq_nil_of_le (by omega)]; rfl
    | succ d ih =>
      intro j hj h1
      rw [drop_getD (by omega), List.takeWhile_cons, if_pos (by simpa using hall j h1 (by omega)), List.length_cons]
      rw [show k + j + 1 = k + (j + 1) by omega, ih (j + 1) (by omega) (by omega)]
  have := h (m - 1) 1 (by omega) (by omega)
  omega
/-- MISSING bits as the reference makes them -/
def mB1 (V : Nat → Int32) (c n first i : Nat) : Nat := if first + i < n ∧ V (48 * c + (first + i)) = MIS then 1 else 0
def mBn (V : Nat → Int32) (c n first : Nat) : Nat → Nat
  | 0 => 0
  | i + 1 => 2 * mBn V c n first i + mB1 V c n first i
theorem mB1_le (V : Nat → Int32) (c n first i : Nat) : mB1 V c n first i ≤ 1 := by unfold mB1; split <;> omega
theorem mBn_lt (V : Nat → Int32) (c n first : Nat) : ∀ i, mBn V c n first i < 2 ^ i
  | 0 => by simp [mBn]
  | i + 1 => by
    have := mBn_lt V c n first i
    have h2 := mB1_le V c n first i
    rw [mBn, Nat.pow_succ]; omega
theorem nI_or {a b k : Nat} (hb : b < 2 ^ k) : nI (2 ^ k * a) ||| nI b = nI (2 ^ k * a + b) := by
  apply Int32.toBitVec_inj.mp
  apply BitVec.eq_of_toNat_eq
  show (BitVec.ofNat 32 (2 ^ k * a) ||| BitVec.ofNat 32 b).toNat = (BitVec.ofNat 32 (2 ^ k * a + b)).toNat
  rw [BitVec.toNat_or, BitVec.toNat_ofNat, BitVec.toNat_ofNat, BitVec.toNat_ofNat, ← Nat.or_mod_two_pow, Nat.two_pow_add_eq_or_of_lt hb]
theorem mb_128 : ∀ j, j < 8 → (128 : Int32) >>> (nI j &&& 31) = nI (2 ^ (7 - j)) := by decide
theorem mbits_Bn (V : Nat → Int32) (c n first : Nat) : ∀ j, j ≤ 8 → first + j ≤ n → mbits V c first j = nI (2 ^ (8 - j) * mBn V c n first j)
  | 0, _, _ => rfl
  | j + 1, h8, hn => by
    rw [mbits, mbits_Bn V c n first j (by omega) (by omega), mBn]
    have e : 2 ^ (8 - j) = 2 * 2 ^ (7 - j) := by rw [show 8 - j = (7 - j) + 1 by omega, Nat.pow_succ]; omega
    have e8 : 8 - (j + 1) = 7 - j := by omega
    rw [e8]
    by_cases h : V (48 * c + (first + j)) = MIS
    · have h1 : mB1 V c n first j = 1 := by unfold mB1; rw [if_pos ⟨by omega, h⟩]
      rw [if_pos h, mb_128 j (by omega), h1, nI_or (k := 8 - j) (by rw [e]; have := Nat.two_pow_pos (7 - j); omega), e]
      congr 1
      rw [Nat.mul_add, Nat.mul_one, Nat.mul_comm 2 (2 ^ (7 - j)), Nat.mul_assoc]
    · have h1 : mB1 V c n first j = 0 := by unfold mB1; rw [if_neg (fun z => h z.2)]
      rw [if_neg h, h1, Int32.or_zero, e, Nat.add_zero, Nat.mul_comm 2 (2 ^ (7 - j)), Nat.mul_assoc]
theorem mBn_tail (V : Nat → Int32) (c n first : Nat) {j : Nat} (hj : n ≤ first + j) : ∀ d, mBn V c n first (j + d) = 2 ^ d * mBn V c n first j
  | 0 => by simp
  | d + 1 => by
    rw [← Nat.add_assoc, mBn, mBn_tail V c n first hj d]
    have h1 : mB1 V c n first (j + d) = 0 := by unfold mB1; rw [if_neg (by omega)]
    rw [h1, Nat.pow_succ, Nat.add_zero, Nat.mul_comm (2 ^ d) 2, Nat.mul_assoc]
theorem mbits_8 (V : Nat → Int32) (c n first : Nat) (h : first ≤ n) : mbits V c first (min 8 (n - first)) = nI (mBn V c n first 8) := by
  by_cases h8 : 8 ≤ n - first
  · rw [Nat.min_eq_left h8, mbits_Bn V c n first 8 (by omega) (by omega)]; simp
  · have h1 := mBn_tail V c n first (j := n - first) (by omega) (8 - (n - first))
    rw [show n - first + (8 - (n - first)) = 8 by omega] at h1
    rw [Nat.min_eq_right (by omega), mbits_Bn V c n first (n - first) (by omega) (by omega), h1]
/-- bounds -/
theorem st_k {th : List Int32} (hm : ∀ v ∈ th, ¬ v = MIS) {k : Nat} (hk : k < th.length) (h1 : (stF (th.take k)).1 = k) : stF (th.take (k + 1)) = (k + 1, (if k = 0 ∨ th.getD k 0 < (stF (th.take k)).2.1 then th.getD k 0 else (stF (th.take k)).2.1), (if k = 0 ∨ (stF (th.take k)).2.2 < th.getD k 0 then th.getD k 0 else (stF (th.take k)).2.2)) := by
  rw [take_getD hk, stF_s, stS, if_neg (hm _ (getD_mem hk)), h1]
theorem sw_le {l : List Int32} {n : Nat} (h : l.length ≤ n) : (swF l).2.1 ≤ 5 * n ∧ (swF l).2.2.1 ≤ 5 * n := by
  have key : ∀ (l : List Int32) (s : Nat × Nat × Nat × Int32), (l.foldl swS s).2.1 ≤ s.2.1 + 5 * l.length ∧ (l.foldl swS s).2.2.1 ≤ s.2.2.1 + 5 * l.length := by
    intro l
    induction l with
    | nil => intro s; exact ⟨Nat.le_refl _, Nat.le_refl _⟩
    | cons v l ih =>
      intro s
      have h1 := ih (swS s v)
      rw [List.foldl_cons, List.length_cons]
      have h2 : (swS s v).2.1 ≤ s.2.1 + 5 ∧ (swS s v).2.2.1 ≤ s.2.2.1 + 5 := by
        unfold swS
        split
        · omega
        · have := vbs_le (v - s.2.2.2)
          refine ⟨?_, ?_⟩
          · show s.2.1 + (if _ then 5 else 0) ≤ _; split <;> omega
          · show s.2.2.1 + _ ≤ _; omega
      omega
  have := key l (0, 0, 0, 0)
  unfold swF
  simp only [Nat.zero_add] at this
  omega
