/-! Plans of a WRITE, as the reference keeps them. -/
abbrev r4T := Int32 × Int32 × Int32 × Int32
def rowsM (av : avT) (wn M : Nat) : List r4T := (List.range M).map (fun k => (av 46 (4800 * wn + k), av 45 (14400 * wn + 3 * k), av 45 (14400 * wn + 3 * k + 1), av 45 (14400 * wn + 3 * k + 2)))
theorem rowsM_s (av : avT) (wn k : Nat) : rowsM av wn (k + 1) = rowsM av wn k ++ [(av 46 (4800 * wn + k), av 45 (14400 * wn + 3 * k), av 45 (14400 * wn + 3 * k + 1), av 45 (14400 * wn + 3 * k + 2))] := by simp [rowsM, List.range_succ]
theorem rowsM_len (av : avT) (wn M : Nat) : (rowsM av wn M).length = M := by simp [rowsM]
theorem rowsM_cong {av av2 : avT} {wn M : Nat} (h1 : av2 45 = av 45) (h2 : av2 46 = av 46) : rowsM av2 wn M = rowsM av wn M := by unfold rowsM; rw [h1, h2]
def gp (l : List r4T) (p : Int32) : List r4T := l.filter (fun r => decide (r.1 = p))
theorem gp_y {l : List r4T} {r : r4T} {p : Int32} (h : r.1 = p) : gp (l ++ [r]) p = gp l p ++ [r] := by simp [gp, h]
theorem gp_n {l : List r4T} {r : r4T} {p : Int32} (h : ¬ r.1 = p) : gp (l ++ [r]) p = gp l p := by simp [gp, h]
theorem gp_mono (av : avT) (wn : Nat) (p : Int32) {k : Nat} : ∀ d, (gp (rowsM av wn k) p).length ≤ (gp (rowsM av wn (k + d)) p).length
  | 0 => Nat.le_refl _
  | d + 1 => by
    refine Nat.le_trans (gp_mono av wn p d) ?_
    rw [← Nat.add_assoc, rowsM_s]
    unfold gp
    rw [List.filter_append, List.length_append]
    omega
def gpS (l : List r4T) (p : Nat) : List r4T := (List.range p).flatMap (fun q => gp l (nI q))
theorem gpS_s (l : List r4T) (p : Nat) : gpS l (p + 1) = gpS l p ++ gp l (nI p) := by simp [gpS, List.range_succ, List.flatMap_append]
theorem nI_inj {a b : Nat} (ha : a < 2 ^ 31) (hb : b < 2 ^ 31) (h : nI a = nI b) : a = b := nb_eq h ha hb
theorem gp_cy {l : List r4T} {r : r4T} {p : Int32} (h : r.1 = p) : (gp (r :: l) p).length = (gp l p).length + 1 := by simp [gp, h]
theorem gp_cn {l : List r4T} {r : r4T} {p : Int32} (h : ¬ r.1 = p) : (gp (r :: l) p).length = (gp l p).length := by simp [gp, h]
theorem gpS_no {l : List r4T} {r : r4T} : ∀ p, (∀ j, j < p → ¬ r.1 = nI j) → (gpS (r :: l) p).length = (gpS l p).length
  | 0, _ => rfl
  | p + 1, h => by
    rw [gpS_s, gpS_s, List.length_append, List.length_append, gpS_no p (fun j hj => h j (by omega)), gp_cn (h p (by omega))]
theorem gpS_c {l : List r4T} {r : r4T} : ∀ p, p ≤ 8 → (gpS (r :: l) p).length ≤ (gpS l p).length + 1
  | 0, _ => Nat.le_succ _
  | p + 1, hp => by
    rw [gpS_s, gpS_s, List.length_append, List.length_append]
    by_cases h : r.1 = nI p
    · rw [gp_cy h, gpS_no p (fun j hj z => absurd (nI_inj (by omega) (by omega) (h.symm.trans z)) (by omega))]
      omega
    · rw [gp_cn h]
      have := gpS_c (l := l) (r := r) p (by omega)
      omega
theorem gpS_le : ∀ (l : List r4T) {p : Nat}, p ≤ 8 → (gpS l p).length ≤ l.length
  | [], p, _ => by
    have : gpS [] p = [] := by simp [gpS, gp]
    rw [this]; exact Nat.le_refl _
  | r :: l, p, hp => Nat.le_trans (gpS_c p hp) (Nat.succ_le_succ (gpS_le l hp))
/-- ROWS one behind the other -/
def so_at (f : Nat → Int32) (l : List r4T) : Prop := ∀ (i : Nat) (r : r4T), l[i]? = some r → f (3 * i) = r.2.1 ∧ f (3 * i + 1) = r.2.2.1 ∧ f (3 * i + 2) = r.2.2.2
theorem so_0 (f : Nat → Int32) : so_at f [] := fun i r h => by simp at h
theorem so_s {f : Nat → Int32} {l : List r4T} {q : Nat} (a b c d : Int32) (h : so_at f l) (hq : q = l.length) : so_at (upd (upd (upd f (3 * q) b) (3 * q + 1) c) (3 * q + 2) d) (l ++ [(a, b, c, d)]) := by
  intro i r hi
  rcases Nat.lt_trichotomy i l.length with h1 | h1 | h1
  · rw [List.getElem?_append_left h1] at hi
    rw [pk_un (by omega), pk_un (by omega), pk_un (by omega), pk_un (by omega), pk_un (by omega), pk_un (by omega), pk_un (by omega), pk_un (by omega), pk_un (by omega)]
    exact h i r hi
  · subst h1
    subst hq
    rw [List.getElem?_append_right (Nat.le_refl _), Nat.sub_self] at hi
    cases hi
    refine ⟨?_, ?_, ?_⟩
    · rw [pk_un (by omega), pk_un (by omega), pk_us]
    · rw [pk_un (by omega), pk_us]
    · rw [pk_us]
  · rw [List.getElem?_eq_none (by simp; omega)] at hi
    cases hi
theorem so_cong {f g : Nat → Int32} {l : List r4T} (h : so_at f l) (he : ∀ i, i < 3 * l.length → g i = f i) : so_at g l := by
  intro i r hi
  have hl : i < l.length := (List.getElem?_eq_some_iff.mp hi).1
  rw [he _ (by omega), he _ (by omega), he _ (by omega)]
  exact h i r hi
/-- ROWS as columns -/
def rw3 (p : Int32) (l : List r4T) : rwT := (p, l.map (fun r => r.2.1), l.map (fun r => r.2.2.1), l.map (fun r => r.2.2.2))
def wVf (f : Nat → Int32) (fi : Nat) : Nat → Int32 := fun j => f (3 * (fi + j % 48) + j / 48)
theorem so_rw {f : Nat → Int32} {S G : List r4T} (p : Int32) (h : so_at f (S ++ G)) (hG : G.length ≤ 48) : rwOf p G.length (wVf f S.length) = rw3 p G := by
  have key : ∀ (c : Nat) (g : r4T → Int32), c < 3 → (∀ (i : Nat) (r : r4T), (S ++ G)[i]? = some r → f (3 * i + c) = g r) → col (wVf f S.length) c G.length = G.map g := by
    intro c g hc hg
    apply List.ext_getElem?
    intro i
    unfold col
    by_cases hi : i < G.length
    · rw [List.getElem?_map, List.getElem?_range hi, List.getElem?_map, List.getElem?_eq_getElem hi]
      show some (wVf f S.length (48 * c + i)) = some (g G[i])
      rw [← hg (S.length + i) G[i] (by rw [List.getElem?_append_right (by omega), Nat.add_sub_cancel_left, List.getElem?_eq_getElem hi])]
      unfold wVf
      rw [show (48 * c + i) % 48 = i by omega, show (48 * c + i) / 48 = c by omega]
    · rw [List.getElem?_eq_none (by simp; omega), List.getElem?_eq_none (by simp; omega)]
  unfold rwOf rw3
  rw [key 0 (fun r => r.2.1) (by omega) (fun i r hi => (h i r hi).1), key 1 (fun r => r.2.2.1) (by omega) (fun i r hi => (h i r hi).2.1), key 2 (fun r => r.2.2.2) (by omega) (fun i r hi => (h i r hi).2.2)]
theorem wVf_cong {f g : Nat → Int32} {p : Int32} {fi N b : Nat} (hb : fi + N ≤ b) (hN : N ≤ 48) (he : ∀ i, i < 3 * b → g i = f i) : rwOf p N (wVf g fi) = rwOf p N (wVf f fi) := by
  refine rwOf_cong (fun c hc => List.map_congr_left (fun r hr => ?_))
  have := List.mem_range.mp hr
  unfold wVf
  rw [show (48 * c + r) % 48 = r by omega, show (48 * c + r) / 48 = c by omega, he _ (by omega)]
/-- a plan: what a WRITE adds -/
def plG (f : Nat → Int32) (b : Nat) (av : avT) (wn : Nat) (os : List rwT) : Prop := av 48 wn = nI os.length ∧ ∀ (k : Nat) (o : rwT), os[k]? = some o → ∃ (fi N : Nat), av 50 (200 * wn + k) = nI fi ∧ av 51 (200 * wn + k) = nI N ∧ 1 ≤ N ∧ N ≤ 48 ∧ fi + N ≤ b ∧ o = rwOf (av 49 (200 * wn + k)) N (wVf f fi)
theorem plG_0 {f : Nat → Int32} {b : Nat} {av : avT} {wn : Nat} (h : av 48 wn = 0) : plG f b av wn [] := ⟨h, fun k o hk => by simp at hk⟩
theorem plG_cong {f g : Nat → Int32} {b b2 : Nat} {av av2 : avT} {wn : Nat} {os : List rwT} (h : plG f b av wn os) (hb : b ≤ b2) (he : ∀ i, i < 3 * b → g i = f i) (h48 : av2 48 = av 48) (h49 : av2 49 = av 49) (h50 : av2 50 = av 50) (h51 : av2 51 = av 51) : plG g b2 av2 wn os := by
  refine ⟨by rw [h48]; exact h.1, fun k o hk => ?_⟩
  obtain ⟨fi, N, a1, a2, a3, a4, a5, a6⟩ := h.2 k o hk
  exact ⟨fi, N, by rw [h50]; exact a1, by rw [h51]; exact a2, a3, a4, by omega, by rw [a6, h49]; exact (wVf_cong a5 a4 he).symm⟩
theorem plG_add {f : Nat → Int32} {b b2 : Nat} {av : avT} {wn : Nat} {os : List rwT} {S G : List r4T} (y : Int32) (h : plG f b av wn os) (hb : b ≤ b2) (hso : so_at f (S ++ G)) (h1 : 1 ≤ G.length) (h48 : G.length ≤ 48) (hS : S.length + G.length ≤ b2) {fi N : Nat} (hfi : fi = S.length) (hN : N = G.length) : plG f b2 (adA av wn os.length y (nI fi) (nI N)) wn (os ++ [rw3 y G]) := by
  subst hfi
  subst hN
  have e48 : (adA av wn os.length y (nI S.length) (nI G.length)) 48 = upd (av 48) wn (nI (os.length + 1)) := rfl
  have e49 : (adA av wn os.length y (nI S.length) (nI G.length)) 49 = upd (av 49) (200 * wn + os.length) y := rfl
  have e50 : (adA av wn os.length y (nI S.length) (nI G.length)) 50 = upd (av 50) (200 * wn + os.length) (nI S.length) := rfl
  have e51 : (adA av wn os.length y (nI S.length) (nI G.length)) 51 = upd (av 51) (200 * wn + os.length) (nI G.length) := rfl
  refine ⟨by rw [e48, pk_us, List.length_append]; rfl, fun k o hk => ?_⟩
  rw [e49, e50, e51]
  rcases Nat.lt_trichotomy k os.length with h9 | h9 | h9
  · rw [List.getElem?_append_left h9] at hk
    obtain ⟨fi, N, a1, a2, a3, a4, a5, a6⟩ := h.2 k o hk
    exact ⟨fi, N, by rw [pk_un (by omega)]; exact a1, by rw [pk_un (by omega)]; exact a2, a3, a4, by omega, by rw [pk_un (by omega)]; exact a6⟩
  · subst h9
    rw [List.getElem?_append_right (Nat.le_refl _), Nat.sub_self] at hk
    cases hk
    exact ⟨S.length, G.length, by rw [pk_us], by rw [pk_us], h1, h48, hS, by rw [pk_us]; exact (so_rw y hso h48).symm⟩
  · rw [List.getElem?_eq_none (by simp; omega)] at hk
    cases hk
def plM (av : avT) (wn : Nat) (os : List rwT) : Prop := plG (fun i => av 45 (14400 * wn + i)) 4800 av wn os
/-- nothing of another WRITER changes -/
def oz : Nat → Nat
  | 33 => 1 | 34 => 1 | 35 => 1 | 36 => 1 | 37 => 1 | 38 => 1 | 39 => 1 | 40 => 1 | 41 => 1 | 42 => 1 | 43 => 1 | 44 => 1 | 45 => 14400 | 46 => 4800 | 47 => 1 | 48 => 1 | 49 => 200 | 50 => 200 | 51 => 200 | 52 => 200 | 53 => 1 | 54 => 1 | 55 => 200 | 56 => 1 | 57 => 200 | _ => 0
def oth (L : List Nat) (wn : Nat) (av av2 : avT) : Prop := ∀ k, k ∉ L → ∀ j, (j < oz k * wn ∨ oz k * wn + oz k ≤ j) → av2 k j = av k j
theorem oth.rf {L : List Nat} {wn : Nat} {av : avT} : oth L wn av av := fun _ _ _ _ => rfl
theorem oth.tr {L M : List Nat} {wn : Nat} {a b c : avT} (h : oth L wn a b) (h2 : oth M wn b c) (hs : ∀ j ∈ M, j ∈ L) : oth L wn a c := fun k hk j hj => (h2 k (fun z => hk (hs k z)) j hj).trans (h k hk j hj)
theorem oth.of {L : List Nat} {wn : Nat} {a b : avT} (h : sA L a b) : oth L wn a b := fun k hk j _ => congrFun (h k hk) j
theorem oth.up {L : List Nat} {wn : Nat} {a b : avT} (h : oth L wn a b) (k : Nat) {i : Nat} (v : Int32) {g : Nat → Int32} (hg : g = b k) (hi : oz k * wn ≤ i ∧ i < oz k * wn + oz k) : oth L wn a (ua b k (upd g i v)) := by
  intro k2 hk j hj
  by_cases e : k2 = k
  · subst e
    rw [ua_s, pk_un (by omega), hg]
    exact h k2 hk j hj
  · rw [ua_n e]
    exact h k2 hk j hj
theorem oth.all {L : List Nat} {wn : Nat} {a b : avT} (h : oth L wn a b) {k : Nat} (hk : k ∈ L) (g : Nat → Int32) : oth L wn a (ua b k g) := by
  intro k2 hk2 j hj
  rw [ua_n (fun z => hk2 (by rw [z]; exact hk))]
  exact h k2 hk2 j hj
theorem oth.ad {L : List Nat} {wn : Nat} {a b : avT} (h : oth L wn a b) {k : Nat} (hk : k < 200) (y v1 v2 : Int32) : oth L wn a (adA b wn k y v1 v2) := by
  unfold adA
  refine oth.up (oth.up (oth.up (oth.up h 49 _ rfl ?_) 50 _ rfl ?_) 51 _ rfl ?_) 48 _ rfl ?_ <;> (simp only [oz]; omega)
theorem sA.ad {L : List Nat} {wn : Nat} {a b : avT} (h : sA L a b) {k : Nat} (y v1 v2 : Int32) (h48 : 48 ∈ L) (h49 : 49 ∈ L) (h50 : 50 ∈ L) (h51 : 51 ∈ L) : sA L a (adA b wn k y v1 v2) := (((h.up h49 _).up h50 _).up h51 _).up h48 _
/-- what an APPEND adds -/
def apO (l : List r4T) (p : Nat) : List rwT := (List.range p).flatMap (fun q => if gp l (nI q) = [] then [] else [rw3 (nI q) (gp l (nI q))])
theorem apO_e {l : List r4T} {p : Nat} (h : gp l (nI p) = []) : apO l (p + 1) = apO l p := by simp [apO, List.range_succ, List.flatMap_append, h]
theorem apO_n {l : List r4T} {p : Nat} (h : ¬ gp l (nI p) = []) : apO l (p + 1) = apO l p ++ [rw3 (nI p) (gp l (nI p))] := by simp [apO, List.range_succ, List.flatMap_append, h]
theorem apO_le (l : List r4T) : ∀ p, (apO l p).length ≤ p
  | 0 => Nat.le_refl _
  | p + 1 => by
    have := apO_le l p
    by_cases h : gp l (nI p) = []
    · rw [apO_e h]; omega
    · rw [apO_n h, List.length_append]; simp; omega
