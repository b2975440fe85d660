/-! ROWS of a sheet, as lists: the class's side of a plan. -/
theorem enW_of (P : Int32) {n : Nat} (V : Nat → Int32) (hn : n ≤ 48) : encB P n V (leF V n) (grF V n) = enW (rwOf P n V) := by
  unfold enW
  have hl : (rwOf P n V).2.1.length = n := col_len V 0 n
  rw [hl]
  refine encF_cong (fun c hc => List.map_congr_left (fun r hr => ?_))
  have hr' := List.mem_range.mp hr
  unfold vOf
  rw [show (48 * c + r) / 48 = c by omega, show (48 * c + r) % 48 = r by omega, rwC_of P n V hc, col_get V c hr']
theorem wB_enW (av : avT) (wn fi N : Nat) (P : Int32) (hN : N ≤ 48) : wB av wn fi N P = enW (rwOf P N (wV av wn fi)) := enW_of P _ hN
theorem wV_f (av : avT) (wn fi : Nat) : wV av wn fi = wVf (shM av wn) fi := by
  funext j
  unfold wV wVf shM
  rw [Nat.add_assoc]
/-- a sheet that holds these ROWS -/
def shT (k : Nat) (W : Nat → Int32) (l : List r4T) : Prop := k = l.length ∧ ∀ P, rwOf P k W = rw3 P l
theorem shT_0 (W : Nat → Int32) : shT 0 W [] := ⟨rfl, fun _ => rfl⟩
theorem col_u3 {W : Nat → Int32} {k c : Nat} (hk : k < 48) (x y z : Int32) : col (upd (upd (upd W (48 * 0 + k) x) (48 * 1 + k) y) (48 * 2 + k) z) c k = col W c k := by
  rw [col_upd (by omega), col_upd (by omega), col_upd (by omega)]
theorem shT_s {k : Nat} {W : Nat → Int32} {l : List r4T} (p a b c : Int32) (h : shT k W l) (hk : k < 48) : shT (k + 1) (upd3 W k a b c) (l ++ [(p, a, b, c)]) := by
  refine ⟨by rw [List.length_append, ← h.1]; rfl, fun P => ?_⟩
  have hw := h.2 P
  unfold rwOf rw3 at hw ⊢
  have e0 := (Prod.mk.inj (Prod.mk.inj hw).2).1
  have e1 := (Prod.mk.inj (Prod.mk.inj (Prod.mk.inj hw).2).2).1
  have e2 := (Prod.mk.inj (Prod.mk.inj (Prod.mk.inj hw).2).2).2
  have u0 : upd3 W k a b c (48 * 0 + k) = a := by unfold upd3; rw [pk_un (by omega), pk_un (by omega), pk_us]
  have u1 : upd3 W k a b c (48 * 1 + k) = b := by unfold upd3; rw [pk_un (by omega), pk_us]
  have u2 : upd3 W k a b c (48 * 2 + k) = c := by unfold upd3; rw [pk_us]
  have cc : ∀ d, col (upd3 W k a b c) d k = col W d k := fun d => col_u3 hk a b c
  rw [col_s, col_s, col_s, cc, cc, cc, u0, u1, u2, e0, e1, e2, List.map_append, List.map_append, List.map_append]
  rfl
/-- ROWS that a WRITER holds -/
def rwsC (PA VA : Nat → Int32) (n : Nat) : List r4T := (List.range n).map (fun i => (PA i, VA (3 * i), VA (3 * i + 1), VA (3 * i + 2)))
theorem rwsC_s (PA VA : Nat → Int32) (n : Nat) : rwsC PA VA (n + 1) = rwsC PA VA n ++ [(PA n, VA (3 * n), VA (3 * n + 1), VA (3 * n + 2))] := by simp [rwsC, List.range_succ]
theorem cntF_gp (PA VA : Nat → Int32) (P : Int32) : ∀ n, (gp (rwsC PA VA n) P).length = cntF PA P n
  | 0 => rfl
  | n + 1 => by
    rw [rwsC_s, cntF]
    by_cases h : PA n = P
    · rw [gp_y h, List.length_append, cntF_gp PA VA P n, if_pos h]; rfl
    · rw [gp_n h, cntF_gp PA VA P n, if_neg h]; rfl
theorem cwR_sh (PA VA : Nat → Int32) (P : Int32) (V : Nat → Int32) : ∀ n, cntF PA P n ≤ 48 → shT (cwR PA VA P n (0, V)).1 (cwR PA VA P n (0, V)).2 (gp (rwsC PA VA n) P)
  | 0, _ => shT_0 V
  | n + 1, hc => by
    have hle : cntF PA P n ≤ cntF PA P (n + 1) := by rw [cntF]; exact Nat.le_add_right _ _
    have ih := cwR_sh PA VA P V n (Nat.le_trans hle hc)
    rw [rwsC_s, cwR]
    by_cases h : PA n = P
    · rw [if_pos h, gp_y h]
      refine shT_s _ _ _ _ ih ?_
      rw [cwR_cnt]
      rw [cntF, if_pos h] at hc
      omega
    · rw [if_neg h, gp_n h]
      exact ih
theorem cpF_sh (wh nu : Int32) {c0 : Nat} (hc : c0 < 3) (P : Int32) (V2 V : Nat → Int32) : ∀ n, n ≤ 48 → shT (cpF wh nu c0 V2 n (0, V)).1 (cpF wh nu c0 V2 n (0, V)).2 (kpL c0 wh nu (rLn P V2 n))
  | 0, _ => shT_0 V
  | n + 1, hn => by
    have ih := cpF_sh wh nu hc P V2 V n (by omega)
    rw [rLn_s, cpF]
    by_cases h : cdv wh nu (V2 (48 * c0 + n)) = 0
    · rw [if_pos h, kpL_y (by rw [r4C_at P V2 hc]; exact h), show 48 * 0 + n = n by omega, show 48 * 1 + n = 48 + n by omega, show 48 * 2 + n = 96 + n by omega]
      have hl := cpF_le wh nu c0 V2 V n
      exact shT_s _ _ _ _ ih (by omega)
    · rw [if_neg h, kpL_n (by rw [r4C_at P V2 hc]; exact h)]
      exact ih
