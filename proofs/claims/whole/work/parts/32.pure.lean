/-! PURE: bytes, as a list of Int8 that the front of an array holds. -/
abbrev ush (x y : Int32) : Int32 := (x.toUInt32 >>> (y.toUInt32 &&& Int32.toUInt32 31)).toInt32
abbrev lush (x : Int64) (y : Int32) : Int64 := (x.toUInt64 >>> (y.toInt64.toUInt64 &&& Int64.toUInt64 63)).toInt64
/-- the array's first places hold these bytes, and all its places hold bytes -/
def by_at (f : Nat → Int32) (bs : List Int8) : Prop := (∀ i, i < bs.length → f i = (bs.getD i 0).toInt32) ∧ ∀ i, fits .byte (.int (f i)) = true
theorem by_fit (b : Int8) : fits .byte (.int b.toInt32) = true := by
  have := pk_fb b.toInt32
  rwa [show b.toInt32.toInt8 = b by simp] at this
theorem by_nil {f : Nat → Int32} (h : ∀ i, fits .byte (.int (f i)) = true) : by_at f [] := ⟨fun i h => absurd h (Nat.not_lt_zero i), h⟩
theorem by_push {f : Nat → Int32} {bs : List Int8} (h : by_at f bs) (b : Int8) : by_at (upd f bs.length b.toInt32) (bs ++ [b]) := by
  refine ⟨fun i hi => ?_, fun i => ?_⟩
  · rw [List.length_append, List.length_singleton] at hi
    by_cases e : i = bs.length
    · subst e; simp [upd]
    · rw [pk_un e, h.1 i (by omega), List.getD_eq_getElem?_getD, List.getD_eq_getElem?_getD, List.getElem?_append_left (by omega)]
  · by_cases e : i = bs.length
    · subst e; rw [pk_us]; exact by_fit b
    · rw [pk_un e]; exact h.2 i
theorem by_prefix {f : Nat → Int32} {bs cs : List Int8} (h : by_at f (bs ++ cs)) : by_at f bs := by
  refine ⟨fun i hi => ?_, h.2⟩
  rw [h.1 i (by rw [List.length_append]; omega), List.getD_eq_getElem?_getD, List.getD_eq_getElem?_getD, List.getElem?_append_left hi]
def u4b (x : Int32) : List Int8 := [(ush x 24).toInt8, (ush x 16).toInt8, (ush x 8).toInt8, x.toInt8]
theorem u4b_len (x : Int32) : (u4b x).length = 4 := rfl
abbrev skW (Z : zT) (h q L : Nat) (f : Nat → Int32) (n : Int32) : va_W := [(h, .inr (7, [.ref q, .int n])), (q, aB Z L f)]
theorem in_lt {a N : Nat} (h : a < N) (hN : N < 2 ^ 31) : vp_in (nI a) N := vp_in_nI h hN
theorem k_le4 {k L : Nat} (h : k + 4 ≤ L) (hL : L < 2 ^ 31) : ¬ nI L - 4 < nI k := by
  rw [show (4 : Int32) = nI 4 from rfl, pk_sub (by omega)]
  exact nI_nlt (by omega) (by omega)
theorem in_u4 {k L : Nat} (h : k + 4 ≤ L) (hL : L < 2 ^ 31) (j : Nat) (hj : j < 4) : vp_in (nI k + nI j) L := by
  rw [nI_add]; exact vp_in_nI (by omega) hL
/-- the CHECK, by half bytes, as the class goes -/
def crS (c b : Int32) : Int32 := ush (ush c 4 ^^^ hbT.getD ((c ^^^ b) &&& 15).toNatClampNeg 0) 4 ^^^ hbT.getD (((ush c 4 ^^^ hbT.getD ((c ^^^ b) &&& 15).toNatClampNeg 0) ^^^ (b >>> ((4 : Int32) &&& 31))) &&& 15).toNatClampNeg 0
def crF (f : Nat → Int32) (c : Int32) (a : Nat) : Nat → Int32
  | 0 => c
  | n + 1 => crF f (crS c (f a)) (a + 1) n
theorem in15 (x : Int32) : vp_in (x &&& 15) 16 := pk_andIn x 4 rfl (by decide)
theorem nI_sub1 {x : Int32} : x + 1 = x + 1 := rfl
/-- a number's bytes, seven bits each, the lowest first -/
def vb : Nat → Nat → List Int8
  | 0, n => [(nI n).toInt8]
  | k + 1, n => if n / 128 = 0 then [(nI n).toInt8] else (nI n &&& 127 ||| 128).toInt8 :: vb k (n / 128)
abbrev vzI (x : Int32) : Int32 := (x <<< ((1 : Int32) &&& 31)) ^^^ (x >>> ((31 : Int32) &&& 31))
def vzN (x : Int32) : Nat := (vzI x).toBitVec.toNat
theorem vzN_lt (x : Int32) : vzN x < 2 ^ 32 := (vzI x).toBitVec.isLt
theorem nI_bv (x : Int32) : nI x.toBitVec.toNat = x := by
  show Int32.ofNat _ = x
  apply Int32.toBitVec_inj.mp
  simp
theorem vzI_nI (x : Int32) : vzI x = nI (vzN x) := (nI_bv _).symm
def vbs (x : Int32) : List Int8 := vb 4 (vzN x)
theorem ush_nI {n : Nat} (hn : n < 2 ^ 32) (k : Nat) (hk : k < 32) : ush (nI n) (nI k) = nI (n / 2 ^ k) := by
  have h : ∀ k, k < 32 → (((nI k).toUInt32 &&& Int32.toUInt32 31).toBitVec % 32).toNat = k := by decide
  exact pk_ushrN hn _ k (h k hk)
theorem nI_z {n : Nat} (hn : n < 2 ^ 32) : nI n = 0 ↔ n = 0 := by
  constructor
  · intro h
    have := congrArg (fun z : Int32 => z.toBitVec.toNat) h
    simpa [pk_tn hn] using this
  · intro h; subst h; rfl
theorem ush_z {n : Nat} (hn : n < 2 ^ 32) (k : Nat) (hk : k < 32) : ush (nI n) (nI k) = 0 ↔ n / 2 ^ k = 0 := by
  rw [ush_nI hn k hk]
  exact nI_z (Nat.lt_of_le_of_lt (Nat.div_le_self _ _) hn)
theorem vb_pos : ∀ (k n : Nat), 1 ≤ (vb k n).length
  | 0, n => Nat.le_refl 1
  | k + 1, n => by
    simp only [vb]
    split
    · exact Nat.le_refl 1
    · simp
theorem vb_le : ∀ (k n : Nat), (vb k n).length ≤ k + 1
  | 0, n => Nat.le_refl 1
  | k + 1, n => by
    simp only [vb]
    split
    · simp
    · have := vb_le k (n / 128)
      simp only [List.length_cons]
      omega
theorem vb_1 {k n : Nat} (h : n / 128 = 0) : vb (k + 1) n = [(nI n).toInt8] := by simp [vb, h]
theorem vb_2 {k n : Nat} (h : ¬ n / 128 = 0) : vb (k + 1) n = (nI n &&& 127 ||| 128).toInt8 :: vb k (n / 128) := by simp only [vb, if_neg h]
theorem vb_len1 {n : Nat} (h : n / 2 ^ 7 = 0) : (vb 4 n).length = 1 := by rw [vb_1 h]; rfl
theorem vb_len2 {n : Nat} (h : ¬ n / 2 ^ 7 = 0) (h2 : n / 2 ^ 14 = 0) : (vb 4 n).length = 2 := by
  rw [vb_2 h, vb_1 (by rw [Nat.div_div_eq_div_mul]; exact h2)]; rfl
theorem vb_len3 {n : Nat} (h : ¬ n / 2 ^ 7 = 0) (h2 : ¬ n / 2 ^ 14 = 0) (h3 : n / 2 ^ 21 = 0) : (vb 4 n).length = 3 := by
  rw [vb_2 h, vb_2 (by rw [Nat.div_div_eq_div_mul]; exact h2), vb_1 (by rw [Nat.div_div_eq_div_mul, Nat.div_div_eq_div_mul]; exact h3)]; rfl
theorem vb_len4 {n : Nat} (h : ¬ n / 2 ^ 7 = 0) (h2 : ¬ n / 2 ^ 14 = 0) (h3 : ¬ n / 2 ^ 21 = 0) (h4 : n / 2 ^ 28 = 0) : (vb 4 n).length = 4 := by
  rw [vb_2 h, vb_2 (by rw [Nat.div_div_eq_div_mul]; exact h2), vb_2 (by rw [Nat.div_div_eq_div_mul, Nat.div_div_eq_div_mul]; exact h3), vb_1 (by rw [Nat.div_div_eq_div_mul, Nat.div_div_eq_div_mul, Nat.div_div_eq_div_mul]; exact h4)]; rfl
theorem vb_len5 {n : Nat} (h : ¬ n / 2 ^ 7 = 0) (h2 : ¬ n / 2 ^ 14 = 0) (h3 : ¬ n / 2 ^ 21 = 0) (h4 : ¬ n / 2 ^ 28 = 0) : (vb 4 n).length = 5 := by
  rw [vb_2 h, vb_2 (by rw [Nat.div_div_eq_div_mul]; exact h2), vb_2 (by rw [Nat.div_div_eq_div_mul, Nat.div_div_eq_div_mul]; exact h3), vb_2 (by rw [Nat.div_div_eq_div_mul, Nat.div_div_eq_div_mul, Nat.div_div_eq_div_mul]; exact h4)]; rfl
theorem by_pushN {f : Nat → Int32} {bs : List Int8} {n : Nat} (h : by_at f bs) (hn : bs.length = n) (b : Int8) : by_at (upd f n b.toInt32) (bs ++ [b]) := by subst hn; exact by_push h b
def crL (c : Int32) (l : List Int8) : Int32 := l.foldl (fun c b => crS c b.toInt32) c
def crc (l : List Int8) : Int32 := crL (-1) l ^^^ (-1)
theorem crF_L : ∀ (l : List Int8) (f : Nat → Int32) (c : Int32) (a : Nat), (∀ i, i < l.length → f (a + i) = (l.getD i 0).toInt32) → crF f c a l.length = crL c l
  | [], f, c, a, h => rfl
  | b :: l, f, c, a, h => by
    have h0 := h 0 (by simp)
    show crF f (crS c (f a)) (a + 1) l.length = crL (crS c b.toInt32) l
    rw [show f a = b.toInt32 from h0]
    exact crF_L l f _ (a + 1) (fun i hi => by
      have := h (i + 1) (by simp; omega)
      rw [show a + 1 + i = a + (i + 1) by omega, this]
      rfl)
theorem crF_by {f : Nat → Int32} {bs : List Int8} (h : by_at f bs) (c : Int32) {a : Nat} (ha : a ≤ bs.length) : crF f c a (bs.length - a) = crL c (bs.drop a) := by
  rw [← List.length_drop]
  refine crF_L _ f c a (fun i hi => ?_)
  rw [List.length_drop] at hi
  rw [h.1 (a + i) (by omega), List.getD_eq_getElem?_getD, List.getD_eq_getElem?_getD, List.getElem?_drop]
theorem vb_0 {n : Nat} : vb 0 n = [(nI n).toInt8] := rfl
/-- how an array of bytes grows -/
def gL (L n : Nat) : Nat := if n ≤ L then L else max n (2 * L)
def gS (L n : Nat) : Nat := if n ≤ L then 0 else max n (2 * L)
def gC (L n : Nat) : Nat := if n ≤ L then 0 else 1
theorem gL_ge (L n : Nat) : n ≤ gL L n := by unfold gL; split <;> omega
theorem by_len {f g : Nat → Int32} {bs : List Int8} (h : by_at f bs) (e : ∀ i, i < bs.length → g i = f i) (hg : ∀ i, fits .byte (.int (g i)) = true) : by_at g bs := ⟨fun i hi => by rw [e i hi, h.1 i hi], hg⟩
theorem by_cpy {f : Nat → Int32} {bs : List Int8} {L : Nat} (h : by_at f bs) (hl : bs.length ≤ L) : by_at (va_cpy f (fun _ => 0) 0 0 L) bs :=
  by_len h (fun i hi => by rw [pk_cpy_in (by omega) (by omega)]; simp) (sb_fitC h.2 sb_fit0)
theorem by_slice {f g : Nat → Int32} {bs : List Int8} {a b : Nat} (h : by_at f bs) (ha : a ≤ b) (hb : b ≤ bs.length) (e : ∀ i, i < b - a → g i = f (a + i)) (hg : sb_Fit g) : by_at g ((bs.drop a).take (b - a)) := by
  refine ⟨fun i hi => ?_, hg⟩
  have h1 : i < b - a := by rw [List.length_take] at hi; omega
  rw [e i h1, h.1 (a + i) (by omega), List.getD_eq_getElem?_getD, List.getD_eq_getElem?_getD, List.getElem?_take_of_lt h1, List.getElem?_drop]
theorem i8_inj {a b : Int8} (h : a.toInt32 = b.toInt32) : a = b := by
  have := congrArg Int32.toInt8 h
  simpa using this
theorem by_eq {f g : Nat → Int32} {bs os : List Int8} (h : by_at f bs) (k : by_at g os) : bs = os ↔ bs.length = os.length ∧ ∀ i, i < os.length → f i = g i := by
  constructor
  · rintro rfl
    exact ⟨rfl, fun i hi => by rw [h.1 i hi, k.1 i hi]⟩
  · rintro ⟨hl, he⟩
    apply List.ext_getElem hl
    intro i h1 h2
    have := he i h2
    rw [h.1 i h1, k.1 i h2] at this
    have := i8_inj this
    simpa [List.getD_eq_getElem?_getD, h1, h2] using this
/-- a part of a world -/
theorem wd.drop {Z : zT} {A : Nat → Prop} {s : State} {X Y : va_W} {H : Heap} {locs : List Loc} (h : wd Z A s (X ++ Y) H locs) : wd Z A s X H locs :=
  ⟨fun k q hk => va_at_mem h.1 (List.mem_append_left _ (List.mem_of_getElem? hk)), h.2.1, va_D.of_nd (by
    have h1 := h.2.2.1.nd
    rw [List.map_append] at h1
    exact (List.nodup_append.mp h1).1) (fun q hq => h.2.2.1.mem (List.mem_append_left _ hq)), h.2.2.2⟩
/-- reading -/
def rvL (f : Nat → Int32) (E : Nat) (br : Int32) : Nat → Nat → Int32 → Nat → Int32 × Nat × Int32
  | 0, _, _, k => (0, k, 1)
  | n + 1, i, z, k => if k < E then (if f k < 0 then rvL f E br n (i + 1) (z ||| ((f k &&& 127) <<< ((7 * nI i) &&& 31))) (k + 1) else (ush (z ||| ((f k &&& 127) <<< ((7 * nI i) &&& 31))) 1 ^^^ -((z ||| ((f k &&& 127) <<< ((7 * nI i) &&& 31))) &&& 1), k + 1, br)) else (0, k, 1)
def r4 (f : Nat → Int32) (k : Nat) : Int32 := ((f k &&& 255) <<< ((24 : Int32) &&& 31)) ||| ((f (k + 1) &&& 255) <<< ((16 : Int32) &&& 31)) ||| ((f (k + 2) &&& 255) <<< ((8 : Int32) &&& 31)) ||| (f (k + 3) &&& 255)
abbrev scW (Z : zT) (h q L : Nat) (f : Nat → Int32) (k E : Nat) (br : Int32) : va_W := [(h, .inr (8, [.ref q, .int (nI k), .int (nI E), .int br])), (q, aB Z L f)]
theorem k_le4b {k E : Nat} (h : k + 4 ≤ E) (hE : E < 2 ^ 31) : nI k ≤ nI E - 4 := by
  rw [show (4 : Int32) = nI 4 from rfl, pk_sub (by omega)]
  exact nI_le (by omega) (by omega)
theorem k_le4c {k E : Nat} (h : nI k ≤ nI E - 4) (hk : k < 2 ^ 30) (hE : E < 2 ^ 30) : k + 4 ≤ E := by
  rw [Int32.le_iff_toInt_le, show (4 : Int32) = nI 4 from rfl, pk_sub_toInt hE (by omega), nI_toInt (by omega)] at h
  omega
theorem min_nI {x y : Nat} (h : x ≤ y) (hy : y < 2 ^ 31) : (if nI x < nI y then nI x else nI y) = nI x := by
  by_cases e : x = y
  · subst e; split <;> rfl
  · rw [if_pos (nI_lt (by omega) hy)]
theorem max_nI {x y : Nat} (hx : x < 2 ^ 31) (hy : y < 2 ^ 31) : (if nI x < nI y then nI y else nI x) = nI (max x y) := by
  by_cases z : x < y
  · rw [if_pos (nI_lt z hy), Nat.max_eq_right (by omega)]
  · rw [if_neg (nI_nlt (by omega) hx), Nat.max_eq_left (by omega)]
theorem nI_nle_lt {a b : Nat} (h : ¬ nI b ≤ nI a) (ha : a < 2 ^ 31) : a < b := by
  rcases Nat.lt_or_ge a b with z | z
  · exact z
  · exact absurd (nI_le z ha) h
