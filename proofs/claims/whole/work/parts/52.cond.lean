/-! MODULE Condition (X2). -/
/-- whether a value is such one, as 1 or 0 -/
def cdv (wh nu v : Int32) : Int32 := if v = MIS then 0 else if wh = 0 then (if v < nu then 1 else 0) else if wh = 1 then (if nu ≤ v then 1 else 0) else (if v = nu then 1 else 0)
/-- whether some may be, by the bounds -/
def cmv (wh nu pr le gr : Int32) : Int32 := if ¬ 0 < pr then 0 else if wh = 0 then (if le < nu then 1 else 0) else if wh = 1 then (if nu ≤ gr then 1 else 0) else (if nu ≤ gr ∧ le ≤ nu then 1 else 0)
theorem cdv_01 (wh nu v : Int32) : cdv wh nu v = 0 ∨ cdv wh nu v = 1 := by unfold cdv; (repeat' split) <;> simp
abbrev cdW (Z : zT) (g : Nat) (c0 : Nat) (wh nu : Int32) : va_W := [(g, .inr (3, [.int (nI c0), .int wh, .int nu]))]
def hitS (wh nu : Int32) (s : Nat) (v : Int32) : Nat := if cdv wh nu v = 0 then s else s + 1
def hitF (wh nu : Int32) (l : List Int32) : Nat := l.foldl (hitS wh nu) 0
theorem hitF_s (wh nu : Int32) (l : List Int32) (v : Int32) : hitF wh nu (l ++ [v]) = hitS wh nu (hitF wh nu l) v := by simp [hitF]
theorem hitF_le (wh nu : Int32) (V : Nat → Int32) (c : Nat) : ∀ n, hitF wh nu (col V c n) ≤ n
  | 0 => Nat.le_refl _
  | n + 1 => by
    have := hitF_le wh nu V c n
    rw [col_s, hitF_s, hitS]
    split <;> omega
def sumS (wh nu : Int32) (s v : Int32) : Int32 := s + (if cdv wh nu v = 0 then 0 else v)
def sumF (wh nu : Int32) (l : List Int32) : Int32 := l.foldl (sumS wh nu) 0
theorem sumF_s (wh nu : Int32) (l : List Int32) (v : Int32) : sumF wh nu (l ++ [v]) = sumS wh nu (sumF wh nu l) v := by simp [sumF]
abbrev upd3 (V : Nat → Int32) (k0 : Nat) (a b c : Int32) : Nat → Int32 := upd (upd (upd V (48 * 0 + k0) a) (48 * 1 + k0) b) (48 * 2 + k0) c
/-- the rows that are no such ones, one behind the other -/
def cpF (wh nu : Int32) (c0 : Nat) (V2 : Nat → Int32) : Nat → Nat × (Nat → Int32) → Nat × (Nat → Int32)
  | 0, s => s
  | i + 1, s => if cdv wh nu (V2 (48 * c0 + i)) = 0 then ((cpF wh nu c0 V2 i s).1 + 1, upd3 (cpF wh nu c0 V2 i s).2 (cpF wh nu c0 V2 i s).1 (V2 (48 * 0 + i)) (V2 (48 * 1 + i)) (V2 (48 * 2 + i))) else cpF wh nu c0 V2 i s
theorem cpF_le (wh nu : Int32) (c0 : Nat) (V2 V : Nat → Int32) : ∀ i, (cpF wh nu c0 V2 i (0, V)).1 ≤ i
  | 0 => Nat.le_refl _
  | i + 1 => by
    have := cpF_le wh nu c0 V2 V i
    unfold cpF
    split
    · show _ + 1 ≤ _; omega
    · omega
set_option maxRecDepth 100000 in
set_option maxHeartbeats 4000000 in
theorem c_X2_init (Z : zT) (l : Launch) (g : Nat) : Kv Z l yX2_init cX2_init 1 none ({ frames := 1, cells := 0, slots := 0, locals := 12 }) [.ref g] [(g, .inr (3, [.int 0, .int 0, .int 0]))] (fun u => u = cdW Z g 0 0 0) := by
  intro sz
  refine Met.ofK (cc := cX2_init) (maxL := 1) (ret := none) (by decide) (Nat.le_of_ble_eq_true rfl) ?_
  intro p e s m below meth c ls C G hl
  generalize va_A _ sz = A at G ⊢
  have hx := C.1
  have hb := C.2.1
  have hown := C.2.2.2.2.2.1
  have hts := C.2.2.2.2.2.2.1
  refine lv_aload_n hx hb dX2_init_0 rfl (lv_at hl 0 rfl) ?_
  refine k_objInit C hl.1 ml_X2_3 im_Object__init____V co_obj (Nat.le_of_ble_eq_true rfl) (Nat.le_of_ble_eq_true rfl) dX2_init_1 ?_
  exact kr_v C G rfl (Nat.le_refl _) (Nat.le_refl _) dX2_init_4
set_option maxRecDepth 100000 in
set_option maxHeartbeats 4000000 in
theorem c_X2_become (Z : zT) (l : Launch) (g c1 : Nat) (a b d wh nu : Int32) : Kv Z l yX2_become cX2_become 4 none ({ frames := 0, cells := 0, slots := 0, locals := 0 }) [.ref g, .int (nI c1), .int wh, .int nu] [(g, .inr (3, [.int a, .int b, .int d]))] (fun u => u = cdW Z g c1 wh nu) := by
  intro sz
  refine Met.ofK (cc := cX2_become) (maxL := 4) (ret := none) (by decide) (Nat.le_of_ble_eq_true rfl) ?_
  intro p e s m below meth c ls C G hl
  generalize va_A _ sz = A at G ⊢
  have hx := C.1
  have hb := C.2.1
  have hown := C.2.2.2.2.2.1
  have hts := C.2.2.2.2.2.2.1
  refine lv_aload_n hx hb dX2_become_0 rfl (lv_at hl 0 rfl) ?_
  refine lv_iload_n hx hb dX2_become_1 rfl (lv_at hl 1 rfl) ?_
  refine k_put (ci := 3) (CC := RX2) (T := TX2) (N := 3) (ty := .int) (v := .int (nI c1)) C G 0 rfl rfl in_3 tyX2 tyX2_ok nmX2 0 (by decide) fl_X2_9 rfl rfl rfl rfl rfl (Nat.le_of_ble_eq_true rfl) dX2_become_2 (fun H locs (G : wd Z A s ([(g, .inr (3, [.int (nI c1), .int b, .int d]))]) H locs) => ?_)
  refine lv_aload_n hx hb dX2_become_5 rfl (lv_at hl 0 rfl) ?_
  refine lv_iload_n hx hb dX2_become_6 rfl (lv_at hl 2 rfl) ?_
  refine k_put (ci := 3) (CC := RX2) (T := TX2) (N := 3) (ty := .int) (v := .int wh) C G 0 rfl rfl in_3 tyX2 tyX2_ok nmX2 1 (by decide) fl_X2_15 rfl rfl rfl rfl rfl (Nat.le_of_ble_eq_true rfl) dX2_become_7 (fun H locs (G : wd Z A s ([(g, .inr (3, [.int (nI c1), .int wh, .int d]))]) H locs) => ?_)
  refine lv_aload_n hx hb dX2_become_10 rfl (lv_at hl 0 rfl) ?_
  refine lv_iload_n hx hb dX2_become_11 rfl (lv_at hl 3 rfl) ?_
  refine k_put (ci := 3) (CC := RX2) (T := TX2) (N := 3) (ty := .int) (v := .int nu) C G 0 rfl rfl in_3 tyX2 tyX2_ok nmX2 2 (by decide) fl_X2_18 rfl rfl rfl rfl rfl (Nat.le_of_ble_eq_true rfl) dX2_become_12 (fun H locs (G : wd Z A s ([(g, .inr (3, [.int (nI c1), .int wh, .int nu]))]) H locs) => ?_)
  exact kr_v C G rfl (Nat.le_refl _) (Nat.le_refl _) dX2_become_15
set_option maxRecDepth 100000 in
set_option maxHeartbeats 4000000 in
theorem c_X2_holdsFor (Z : zT) (l : Launch) (g c0 : Nat) (wh nu v : Int32) : Ki Z l yX2_holdsFor cX2_holdsFor 2 (some .boolean) ({ frames := 0, cells := 0, slots := 0, locals := 0 }) [.ref g, .int v] (cdW Z g c0 wh nu) (fun r u => r = cdv wh nu v ∧ u = cdW Z g c0 wh nu) := by
  intro sz
  refine Met.ofK (cc := cX2_holdsFor) (maxL := 2) (ret := (some .boolean)) (by decide) (Nat.le_of_ble_eq_true rfl) ?_
  intro p e s m below meth c ls C G hl
  generalize va_A _ sz = A at G ⊢
  have hx := C.1
  have hb := C.2.1
  have hown := C.2.2.2.2.2.1
  have hts := C.2.2.2.2.2.2.1
  refine lv_iload_n hx hb dX2_holdsFor_0 rfl (lv_at hl 1 rfl) ?_
  refine lv_ldc (v := (-2147483648)) hx hb hown (hts _ kn_X2_21) dX2_holdsFor_1 ?_
  refine lv_icmp_ne (tgt := 8) hx hb dX2_holdsFor_3 (by decide) (fun c_3 => ?_) (fun c_3 => ?_)
  · refine lv_aload_n hx hb dX2_holdsFor_8 rfl (lv_at hl 0 rfl) ?_
    refine k_get (ci := 3) (CC := RX2) (T := TX2) (N := 3) (v := .int wh) C G 0 rfl rfl in_3 1 (by decide) fl_X2_15 rfl rfl dX2_holdsFor_9 ?_
    refine lv_if_ne (tgt := 29) hx hb dX2_holdsFor_12 (by decide) (fun c_12 => ?_) (fun c_12 => ?_)
    · refine lv_aload_n hx hb dX2_holdsFor_29 rfl (lv_at hl 0 rfl) ?_
      refine k_get (ci := 3) (CC := RX2) (T := TX2) (N := 3) (v := .int wh) C G 0 rfl rfl in_3 1 (by decide) fl_X2_15 rfl rfl dX2_holdsFor_30 ?_
      refine lv_iconst (v := 1) hx hb dX2_holdsFor_33 (by decide) ?_
      refine lv_icmp_ne (tgt := 53) hx hb dX2_holdsFor_34 (by decide) (fun c_34 => ?_) (fun c_34 => ?_)
      · refine lv_iload_n hx hb dX2_holdsFor_53 rfl (lv_at hl 1 rfl) ?_
        refine lv_aload_n hx hb dX2_holdsFor_54 rfl (lv_at hl 0 rfl) ?_
        refine k_get (ci := 3) (CC := RX2) (T := TX2) (N := 3) (v := .int nu) C G 0 rfl rfl in_3 2 (by decide) fl_X2_18 rfl rfl dX2_holdsFor_55 ?_
        refine lv_icmp_ne (tgt := 65) hx hb dX2_holdsFor_58 (by decide) (fun c_58 => ?_) (fun c_58 => ?_)
        · refine lv_iconst (v := 0) hx hb dX2_holdsFor_65 (by decide) ?_
          exact kr_z C G (by decide) ⟨by rw [cdv, if_neg c_3, if_neg c_12, if_neg c_34, if_neg c_58], rfl⟩ (Nat.le_refl _) (Nat.le_refl _) dX2_holdsFor_66
        · refine lv_iconst (v := 1) hx hb dX2_holdsFor_61 (by decide) ?_
          refine lv_goto (tgt := 66) hx hb dX2_holdsFor_62 (by decide) ?_
          exact kr_z C G (by decide) ⟨by rw [cdv, if_neg c_3, if_neg c_12, if_neg c_34, if_pos c_58], rfl⟩ (Nat.le_refl _) (Nat.le_refl _) dX2_holdsFor_66
      · refine lv_iload_n hx hb dX2_holdsFor_37 rfl (lv_at hl 1 rfl) ?_
        refine lv_aload_n hx hb dX2_holdsFor_38 rfl (lv_at hl 0 rfl) ?_
        refine k_get (ci := 3) (CC := RX2) (T := TX2) (N := 3) (v := .int nu) C G 0 rfl rfl in_3 2 (by decide) fl_X2_18 rfl rfl dX2_holdsFor_39 ?_
        refine lv_icmp_lt (tgt := 49) hx hb dX2_holdsFor_42 (by decide) (fun c_42 => ?_) (fun c_42 => ?_)
        · refine lv_iconst (v := 0) hx hb dX2_holdsFor_49 (by decide) ?_
          refine lv_goto (tgt := 66) hx hb dX2_holdsFor_50 (by decide) ?_
          exact kr_z C G (by decide) ⟨by rw [cdv, if_neg c_3, if_neg c_12, if_pos c_34, if_neg (Int32.not_le.mpr c_42)], rfl⟩ (Nat.le_refl _) (Nat.le_refl _) dX2_holdsFor_66
        · refine lv_iconst (v := 1) hx hb dX2_holdsFor_45 (by decide) ?_
          refine lv_goto (tgt := 66) hx hb dX2_holdsFor_46 (by decide) ?_
          exact kr_z C G (by decide) ⟨by rw [cdv, if_neg c_3, if_neg c_12, if_pos c_34, if_pos (Int32.not_lt.mp c_42)], rfl⟩ (Nat.le_refl _) (Nat.le_refl _) dX2_holdsFor_66
    · refine lv_iload_n hx hb dX2_holdsFor_15 rfl (lv_at hl 1 rfl) ?_
      refine lv_aload_n hx hb dX2_holdsFor_16 rfl (lv_at hl 0 rfl) ?_
      refine k_get (ci := 3) (CC := RX2) (T := TX2) (N := 3) (v := .int nu) C G 0 rfl rfl in_3 2 (by decide) fl_X2_18 rfl rfl dX2_holdsFor_17 ?_
      refine lv_icmp_ge (tgt := 27) hx hb dX2_holdsFor_20 (by decide) (fun c_20 => ?_) (fun c_20 => ?_)
      · refine lv_iconst (v := 0) hx hb dX2_holdsFor_27 (by decide) ?_
        exact kr_z C G (by decide) ⟨by rw [cdv, if_neg c_3, if_pos c_12, if_neg (Int32.not_lt.mpr c_20)], rfl⟩ (Nat.le_refl _) (Nat.le_refl _) dX2_holdsFor_28
      · refine lv_iconst (v := 1) hx hb dX2_holdsFor_23 (by decide) ?_
        refine lv_goto (tgt := 28) hx hb dX2_holdsFor_24 (by decide) ?_
        exact kr_z C G (by decide) ⟨by rw [cdv, if_neg c_3, if_pos c_12, if_pos (Int32.not_le.mp c_20)], rfl⟩ (Nat.le_refl _) (Nat.le_refl _) dX2_holdsFor_28
  · refine lv_iconst (v := 0) hx hb dX2_holdsFor_6 (by decide) ?_
    exact kr_z C G (by decide) ⟨by rw [cdv, if_pos c_3], rfl⟩ (Nat.le_refl _) (Nat.le_refl _) dX2_holdsFor_7
set_option maxRecDepth 100000 in
set_option maxHeartbeats 4000000 in
theorem c_X2_mayHoldIn (Z : zT) (l : Launch) (g c0 h qv qp ql qg : Nat) (P n wh nu : Int32) (V pr le gr : Nat → Int32) (hc : c0 < 3) : Ki Z l yX2_mayHoldIn cX2_mayHoldIn 3 (some .boolean) ({ frames := 1, cells := 0, slots := 0, locals := 30 }) [.ref g, .ref h] (cdW Z g c0 wh nu ++ btW Z h qv qp ql qg P n V pr le gr) (fun r u => r = cmv wh nu (pr c0) (le c0) (gr c0) ∧ u = cdW Z g c0 wh nu ++ btW Z h qv qp ql qg P n V pr le gr) := by
  intro sz
  refine Met.ofK (cc := cX2_mayHoldIn) (maxL := 3) (ret := (some .boolean)) (by decide) (Nat.le_of_ble_eq_true rfl) ?_
  intro p e s m below meth c ls C G hl
  generalize va_A _ sz = A at G ⊢
  have hx := C.1
  have hb := C.2.1
  have hown := C.2.2.2.2.2.1
  have hts := C.2.2.2.2.2.2.1
  refine lv_aload_n hx hb dX2_mayHoldIn_0 rfl (lv_at hl 1 rfl) ?_
  refine lv_aload_n hx hb dX2_mayHoldIn_1 rfl (lv_at hl 0 rfl) ?_
  refine k_get (ci := 3) (CC := RX2) (T := TX2) (N := 3) (v := .int (nI c0)) C G 0 rfl rfl in_3 0 (by decide) fl_X2_9 rfl rfl dX2_mayHoldIn_2 ?_
  have hX : List.Perm ([(g, .inr (3, [.int (nI c0), .int wh, .int nu])), (h, .inr (1, [.int P, .int n, .ref qv, .ref qp, .ref ql, .ref qg])), (qv, aI Z 144 V), (qp, aI Z 3 pr), (ql, aI Z 3 le), (qg, aI Z 3 gr)]) ([(h, .inr (1, [.int P, .int n, .ref qv, .ref qp, .ref ql, .ref qg])), (qv, aI Z 144 V), (qp, aI Z 3 pr), (ql, aI Z 3 le), (qg, aI Z 3 gr)] ++ ([(g, .inr (3, [.int (nI c0), .int wh, .int nu]))])) := (perm_ix [1, 2, 3, 4, 5, 0] rfl 6 (by decide) rfl)
  refine kc_i (Wc := [(h, .inr (1, [.int P, .int n, .ref qv, .ref qp, .ref ql, .ref qg])), (qv, aI Z 144 V), (qp, aI Z 3 pr), (ql, aI Z 3 le), (qg, aI Z 3 gr)]) (Wr := [(g, .inr (3, [.int (nI c0), .int wh, .int nu]))]) G hX (krV 1 rfl (As := [.int (nI c0)]) (rest := []) (ci := 1) (CC := RX0) (T := TX0) (N := 6) C G hX (c_X0_hasValueIn Z l h qv qp ql qg c0 P n V pr le gr hc _) (gdV ml_X2_22 im_X0_hasValueIn se_X0_hasValueIn ii_X0 co_X0_hasValueIn) (by decide +kernel) ⟨Nat.le_of_ble_eq_true rfl, Nat.le_of_ble_eq_true rfl⟩ rfl 0 rfl hl rfl (Nat.le_of_ble_eq_true rfl) ⟨Nat.le_of_ble_eq_true rfl, Nat.le_of_ble_eq_true rfl⟩ dX2_mayHoldIn_5) (fun r_5 u H locs hu G => ?_)
  obtain ⟨r_5_e, rfl⟩ := hu
  subst r_5_e
  have G : wd Z A s ([(g, .inr (3, [.int (nI c0), .int wh, .int nu])), (h, .inr (1, [.int P, .int n, .ref qv, .ref qp, .ref ql, .ref qg])), (qv, aI Z 144 V), (qp, aI Z 3 pr), (ql, aI Z 3 le), (qg, aI Z 3 gr)]) H locs := G.perm (perm_ix [5, 0, 1, 2, 3, 4] rfl 6 (by decide) rfl)
  refine lv_if_ne (tgt := 13) hx hb dX2_mayHoldIn_8 (by decide) (fun c_8 => ?_) (fun c_8 => ?_)
  · refine lv_aload_n hx hb dX2_mayHoldIn_13 rfl (lv_at hl 0 rfl) ?_
    refine k_get (ci := 3) (CC := RX2) (T := TX2) (N := 3) (v := .int wh) C G 0 rfl rfl in_3 1 (by decide) fl_X2_15 rfl rfl dX2_mayHoldIn_14 ?_
    refine lv_if_ne (tgt := 41) hx hb dX2_mayHoldIn_17 (by decide) (fun c_17 => ?_) (fun c_17 => ?_)
    · refine lv_aload_n hx hb dX2_mayHoldIn_41 rfl (lv_at hl 1 rfl) ?_
      refine lv_aload_n hx hb dX2_mayHoldIn_42 rfl (lv_at hl 0 rfl) ?_
      refine k_get (ci := 3) (CC := RX2) (T := TX2) (N := 3) (v := .int (nI c0)) C G 0 rfl rfl in_3 0 (by decide) fl_X2_9 rfl rfl dX2_mayHoldIn_43 ?_
      have hX : List.Perm ([(g, .inr (3, [.int (nI c0), .int wh, .int nu])), (h, .inr (1, [.int P, .int n, .ref qv, .ref qp, .ref ql, .ref qg])), (qv, aI Z 144 V), (qp, aI Z 3 pr), (ql, aI Z 3 le), (qg, aI Z 3 gr)]) ([(h, .inr (1, [.int P, .int n, .ref qv, .ref qp, .ref ql, .ref qg])), (qv, aI Z 144 V), (qp, aI Z 3 pr), (ql, aI Z 3 le), (qg, aI Z 3 gr)] ++ ([(g, .inr (3, [.int (nI c0), .int wh, .int nu]))])) := (perm_ix [1, 2, 3, 4, 5, 0] rfl 6 (by decide) rfl)
      refine kc_i (Wc := [(h, .inr (1, [.int P, .int n, .ref qv, .ref qp, .ref ql, .ref qg])), (qv, aI Z 144 V), (qp, aI Z 3 pr), (ql, aI Z 3 le), (qg, aI Z 3 gr)]) (Wr := [(g, .inr (3, [.int (nI c0), .int wh, .int nu]))]) G hX (krV 1 rfl (As := [.int (nI c0)]) (rest := []) (ci := 1) (CC := RX0) (T := TX0) (N := 6) C G hX (c_X0_greatestOf Z l h qv qp ql qg c0 P n V pr le gr hc _) (gdV ml_X2_32 im_X0_greatestOf se_X0_greatestOf ii_X0 co_X0_greatestOf) (by decide +kernel) ⟨Nat.le_of_ble_eq_true rfl, Nat.le_of_ble_eq_true rfl⟩ rfl 0 rfl hl rfl (Nat.le_of_ble_eq_true rfl) ⟨Nat.le_of_ble_eq_true rfl, Nat.le_of_ble_eq_true rfl⟩ dX2_mayHoldIn_46) (fun r_46 u H locs hu G => ?_)
      obtain ⟨r_46_e, rfl⟩ := hu
      subst r_46_e
      have G : wd Z A s ([(g, .inr (3, [.int (nI c0), .int wh, .int nu])), (h, .inr (1, [.int P, .int n, .ref qv, .ref qp, .ref ql, .ref qg])), (qv, aI Z 144 V), (qp, aI Z 3 pr), (ql, aI Z 3 le), (qg, aI Z 3 gr)]) H locs := G.perm (perm_ix [5, 0, 1, 2, 3, 4] rfl 6 (by decide) rfl)
      refine lv_aload_n hx hb dX2_mayHoldIn_49 rfl (lv_at hl 0 rfl) ?_
      refine k_get (ci := 3) (CC := RX2) (T := TX2) (N := 3) (v := .int nu) C G 0 rfl rfl in_3 2 (by decide) fl_X2_18 rfl rfl dX2_mayHoldIn_50 ?_
      refine lv_icmp_lt (tgt := 60) hx hb dX2_mayHoldIn_53 (by decide) (fun c_53 => ?_) (fun c_53 => ?_)
      · refine lv_iconst (v := 0) hx hb dX2_mayHoldIn_60 (by decide) ?_
        refine lv_istore_n (lv' := [(2, .int 0), (0, .ref g), (1, .ref h)]) hx hb dX2_mayHoldIn_61 rfl hl (by decide) rfl (fun ls hl => ?_)
        refine lv_aload_n hx hb dX2_mayHoldIn_62 rfl (lv_at hl 1 rfl) ?_
        refine k_get (ci := 3) (CC := RX2) (T := TX2) (N := 3) (v := .int wh) C G 0 rfl rfl in_3 1 (by decide) fl_X2_15 rfl rfl dX2_mayHoldIn_63 ?_
        refine lv_iconst (v := 1) hx hb dX2_mayHoldIn_66 (by decide) ?_
        refine lv_icmp_ne (tgt := 74) hx hb dX2_mayHoldIn_67 (by decide) (fun c_67 => ?_) (fun c_67 => ?_)
        · refine lv_iload_n hx hb dX2_mayHoldIn_74 rfl (lv_at hl 0 rfl) ?_
          refine lv_if_eq (tgt := 97) hx hb dX2_mayHoldIn_75 (by decide) (fun c_75 => ?_) (fun c_75 => ?_)
          · refine lv_iconst (v := 0) hx hb dX2_mayHoldIn_97 (by decide) ?_
            exact kr_z C G (by decide) ⟨by rw [cmv, if_neg (fun z => c_8 (by rw [if_neg z])), if_neg c_17, if_neg c_67, if_neg (fun z => absurd c_53 (Int32.not_lt.mpr z.1))], rfl⟩ (Nat.le_of_ble_eq_true rfl) (Nat.le_of_ble_eq_true rfl) dX2_mayHoldIn_98
          · exact absurd c_75 (by decide)
        · refine lv_iload_n hx hb dX2_mayHoldIn_70 rfl (lv_at hl 0 rfl) ?_
          refine lv_goto (tgt := 98) hx hb dX2_mayHoldIn_71 (by decide) ?_
          exact kr_z C G (by decide) ⟨by rw [cmv, if_neg (fun z => c_8 (by rw [if_neg z])), if_neg c_17, if_pos c_67, if_neg (Int32.not_le.mpr c_53)], rfl⟩ (Nat.le_of_ble_eq_true rfl) (Nat.le_of_ble_eq_true rfl) dX2_mayHoldIn_98
      · refine lv_iconst (v := 1) hx hb dX2_mayHoldIn_56 (by decide) ?_
        refine lv_goto (tgt := 61) hx hb dX2_mayHoldIn_57 (by decide) ?_
        refine lv_istore_n (lv' := [(2, .int 1), (0, .ref g), (1, .ref h)]) hx hb dX2_mayHoldIn_61 rfl hl (by decide) rfl (fun ls hl => ?_)
        refine lv_aload_n hx hb dX2_mayHoldIn_62 rfl (lv_at hl 1 rfl) ?_
        refine k_get (ci := 3) (CC := RX2) (T := TX2) (N := 3) (v := .int wh) C G 0 rfl rfl in_3 1 (by decide) fl_X2_15 rfl rfl dX2_mayHoldIn_63 ?_
        refine lv_iconst (v := 1) hx hb dX2_mayHoldIn_66 (by decide) ?_
        refine lv_icmp_ne (tgt := 74) hx hb dX2_mayHoldIn_67 (by decide) (fun c_67 => ?_) (fun c_67 => ?_)
        · refine lv_iload_n hx hb dX2_mayHoldIn_74 rfl (lv_at hl 0 rfl) ?_
          refine lv_if_eq (tgt := 97) hx hb dX2_mayHoldIn_75 (by decide) (fun c_75 => ?_) (fun c_75 => ?_)
          · exact absurd c_75 (by decide)
          · refine lv_aload_n hx hb dX2_mayHoldIn_78 rfl (lv_at hl 2 rfl) ?_
            refine lv_aload_n hx hb dX2_mayHoldIn_79 rfl (lv_at hl 1 rfl) ?_
            refine k_get (ci := 3) (CC := RX2) (T := TX2) (N := 3) (v := .int (nI c0)) C G 0 rfl rfl in_3 0 (by decide) fl_X2_9 rfl rfl dX2_mayHoldIn_80 ?_
            have hX : List.Perm ([(g, .inr (3, [.int (nI c0), .int wh, .int nu])), (h, .inr (1, [.int P, .int n, .ref qv, .ref qp, .ref ql, .ref qg])), (qv, aI Z 144 V), (qp, aI Z 3 pr), (ql, aI Z 3 le), (qg, aI Z 3 gr)]) ([(h, .inr (1, [.int P, .int n, .ref qv, .ref qp, .ref ql, .ref qg])), (qv, aI Z 144 V), (qp, aI Z 3 pr), (ql, aI Z 3 le), (qg, aI Z 3 gr)] ++ ([(g, .inr (3, [.int (nI c0), .int wh, .int nu]))])) := (perm_ix [1, 2, 3, 4, 5, 0] rfl 6 (by decide) rfl)
            refine kc_i (Wc := [(h, .inr (1, [.int P, .int n, .ref qv, .ref qp, .ref ql, .ref qg])), (qv, aI Z 144 V), (qp, aI Z 3 pr), (ql, aI Z 3 le), (qg, aI Z 3 gr)]) (Wr := [(g, .inr (3, [.int (nI c0), .int wh, .int nu]))]) G hX (krV 1 rfl (As := [.int (nI c0)]) (rest := []) (ci := 1) (CC := RX0) (T := TX0) (N := 6) C G hX (c_X0_leastOf Z l h qv qp ql qg c0 P n V pr le gr hc _) (gdV ml_X2_28 im_X0_leastOf se_X0_leastOf ii_X0 co_X0_leastOf) (by decide +kernel) ⟨Nat.le_of_ble_eq_true rfl, Nat.le_of_ble_eq_true rfl⟩ rfl 0 rfl hl rfl (Nat.le_of_ble_eq_true rfl) ⟨Nat.le_of_ble_eq_true rfl, Nat.le_of_ble_eq_true rfl⟩ dX2_mayHoldIn_83) (fun r_83 u H locs hu G => ?_)
            obtain ⟨r_83_e, rfl⟩ := hu
            subst r_83_e
            have G : wd Z A s ([(g, .inr (3, [.int (nI c0), .int wh, .int nu])), (h, .inr (1, [.int P, .int n, .ref qv, .ref qp, .ref ql, .ref qg])), (qv, aI Z 144 V), (qp, aI Z 3 pr), (ql, aI Z 3 le), (qg, aI Z 3 gr)]) H locs := G.perm (perm_ix [5, 0, 1, 2, 3, 4] rfl 6 (by decide) rfl)
            refine lv_aload_n hx hb dX2_mayHoldIn_86 rfl (lv_at hl 1 rfl) ?_
            refine k_get (ci := 3) (CC := RX2) (T := TX2) (N := 3) (v := .int nu) C G 0 rfl rfl in_3 2 (by decide) fl_X2_18 rfl rfl dX2_mayHoldIn_87 ?_
            refine lv_icmp_gt (tgt := 97) hx hb dX2_mayHoldIn_90 (by decide) (fun c_90 => ?_) (fun c_90 => ?_)
            · refine lv_iconst (v := 0) hx hb dX2_mayHoldIn_97 (by decide) ?_
              exact kr_z C G (by decide) ⟨by rw [cmv, if_neg (fun z => c_8 (by rw [if_neg z])), if_neg c_17, if_neg c_67, if_neg (fun z => absurd c_90 (Int32.not_lt.mpr z.2))], rfl⟩ (Nat.le_of_ble_eq_true rfl) (Nat.le_of_ble_eq_true rfl) dX2_mayHoldIn_98
            · refine lv_iconst (v := 1) hx hb dX2_mayHoldIn_93 (by decide) ?_
              refine lv_goto (tgt := 98) hx hb dX2_mayHoldIn_94 (by decide) ?_
              exact kr_z C G (by decide) ⟨by rw [cmv, if_neg (fun z => c_8 (by rw [if_neg z])), if_neg c_17, if_neg c_67, if_pos ⟨Int32.not_lt.mp c_53, Int32.not_lt.mp c_90⟩], rfl⟩ (Nat.le_of_ble_eq_true rfl) (Nat.le_of_ble_eq_true rfl) dX2_mayHoldIn_98
        · refine lv_iload_n hx hb dX2_mayHoldIn_70 rfl (lv_at hl 0 rfl) ?_
          refine lv_goto (tgt := 98) hx hb dX2_mayHoldIn_71 (by decide) ?_
          exact kr_z C G (by decide) ⟨by rw [cmv, if_neg (fun z => c_8 (by rw [if_neg z])), if_neg c_17, if_pos c_67, if_pos (Int32.not_lt.mp c_53)], rfl⟩ (Nat.le_of_ble_eq_true rfl) (Nat.le_of_ble_eq_true rfl) dX2_mayHoldIn_98
    · refine lv_aload_n hx hb dX2_mayHoldIn_20 rfl (lv_at hl 1 rfl) ?_
      refine lv_aload_n hx hb dX2_mayHoldIn_21 rfl (lv_at hl 0 rfl) ?_
      refine k_get (ci := 3) (CC := RX2) (T := TX2) (N := 3) (v := .int (nI c0)) C G 0 rfl rfl in_3 0 (by decide) fl_X2_9 rfl rfl dX2_mayHoldIn_22 ?_
      have hX : List.Perm ([(g, .inr (3, [.int (nI c0), .int wh, .int nu])), (h, .inr (1, [.int P, .int n, .ref qv, .ref qp, .ref ql, .ref qg])), (qv, aI Z 144 V), (qp, aI Z 3 pr), (ql, aI Z 3 le), (qg, aI Z 3 gr)]) ([(h, .inr (1, [.int P, .int n, .ref qv, .ref qp, .ref ql, .ref qg])), (qv, aI Z 144 V), (qp, aI Z 3 pr), (ql, aI Z 3 le), (qg, aI Z 3 gr)] ++ ([(g, .inr (3, [.int (nI c0), .int wh, .int nu]))])) := (perm_ix [1, 2, 3, 4, 5, 0] rfl 6 (by decide) rfl)
      refine kc_i (Wc := [(h, .inr (1, [.int P, .int n, .ref qv, .ref qp, .ref ql, .ref qg])), (qv, aI Z 144 V), (qp, aI Z 3 pr), (ql, aI Z 3 le), (qg, aI Z 3 gr)]) (Wr := [(g, .inr (3, [.int (nI c0), .int wh, .int nu]))]) G hX (krV 1 rfl (As := [.int (nI c0)]) (rest := []) (ci := 1) (CC := RX0) (T := TX0) (N := 6) C G hX (c_X0_leastOf Z l h qv qp ql qg c0 P n V pr le gr hc _) (gdV ml_X2_28 im_X0_leastOf se_X0_leastOf ii_X0 co_X0_leastOf) (by decide +kernel) ⟨Nat.le_of_ble_eq_true rfl, Nat.le_of_ble_eq_true rfl⟩ rfl 0 rfl hl rfl (Nat.le_of_ble_eq_true rfl) ⟨Nat.le_of_ble_eq_true rfl, Nat.le_of_ble_eq_true rfl⟩ dX2_mayHoldIn_25) (fun r_25 u H locs hu G => ?_)
      obtain ⟨r_25_e, rfl⟩ := hu
      subst r_25_e
      have G : wd Z A s ([(g, .inr (3, [.int (nI c0), .int wh, .int nu])), (h, .inr (1, [.int P, .int n, .ref qv, .ref qp, .ref ql, .ref qg])), (qv, aI Z 144 V), (qp, aI Z 3 pr), (ql, aI Z 3 le), (qg, aI Z 3 gr)]) H locs := G.perm (perm_ix [5, 0, 1, 2, 3, 4] rfl 6 (by decide) rfl)
      refine lv_aload_n hx hb dX2_mayHoldIn_28 rfl (lv_at hl 0 rfl) ?_
      refine k_get (ci := 3) (CC := RX2) (T := TX2) (N := 3) (v := .int nu) C G 0 rfl rfl in_3 2 (by decide) fl_X2_18 rfl rfl dX2_mayHoldIn_29 ?_
      refine lv_icmp_ge (tgt := 39) hx hb dX2_mayHoldIn_32 (by decide) (fun c_32 => ?_) (fun c_32 => ?_)
      · refine lv_iconst (v := 0) hx hb dX2_mayHoldIn_39 (by decide) ?_
        exact kr_z C G (by decide) ⟨by rw [cmv, if_neg (fun z => c_8 (by rw [if_neg z])), if_pos c_17, if_neg (Int32.not_lt.mpr c_32)], rfl⟩ (Nat.le_of_ble_eq_true rfl) (Nat.le_of_ble_eq_true rfl) dX2_mayHoldIn_40
      · refine lv_iconst (v := 1) hx hb dX2_mayHoldIn_35 (by decide) ?_
        refine lv_goto (tgt := 40) hx hb dX2_mayHoldIn_36 (by decide) ?_
        exact kr_z C G (by decide) ⟨by rw [cmv, if_neg (fun z => c_8 (by rw [if_neg z])), if_pos c_17, if_pos (Int32.not_le.mp c_32)], rfl⟩ (Nat.le_of_ble_eq_true rfl) (Nat.le_of_ble_eq_true rfl) dX2_mayHoldIn_40
  · refine lv_iconst (v := 0) hx hb dX2_mayHoldIn_11 (by decide) ?_
    exact kr_z C G (by decide) ⟨by rw [cmv, if_pos (fun z => by rw [if_pos z] at c_8; exact absurd c_8 (by decide))], rfl⟩ (Nat.le_of_ble_eq_true rfl) (Nat.le_of_ble_eq_true rfl) dX2_mayHoldIn_12
set_option maxRecDepth 100000 in
set_option maxHeartbeats 4000000 in
theorem lp_X2_hitsIn {p : Program} {l : Launch} {e : Env} {s : State} {m : MethodId} {args : Array Value} {below : List Frame} {meth : Method} {c : Code} {Z : zT} {A : Nat → Prop} {g h qv qp ql qg c0 n : Nat} {P wh nu : Int32} {V pr le gr : Nat → Int32} {post : Int32 → va_W → Prop} (C : cx p s m args meth c cX2_hitsIn 4 (some .int) RX2 "hitsIn") (hc : c0 < 3) (hn : n ≤ 48) (hp : ∀ r : Int32, r = nI (hitF wh nu (col V c0 n)) → post r (cdW Z g c0 wh nu ++ btW Z h qv qp ql qg P (nI n) V pr le gr)) : ∀ (k i : Nat) (a : Nat), i + k = n → a = hitF wh nu (col V c0 i) → ∀ (H : Heap) (locs : List Loc) (ls : Array Slot), wd Z A s (cdW Z g c0 wh nu ++ btW Z h qv qp ql qg P (nI n) V pr le gr) H locs → lv_has ls 4 [(3, .int (nI i)), (2, .int (nI a)), (0, .ref g), (1, .ref h)] → W p l e ({ frames := 1, cells := 0, slots := 0, locals := 40 }) s m args below meth c H locs 0 0 (MQ below (va_Qi post (mB Z A) A) args s 0 0 A) (F0 m 4 ls []) := by
  have hx := C.1
  have hb := C.2.1
  have hown := C.2.2.2.2.2.1
  have hts := C.2.2.2.2.2.2.1
  intro k
  induction k with
  | zero =>
    intro i a hi hs H locs ls G hl
    have e0 : i = n := by omega
    rw [e0] at hs
    refine lv_iload_n hx hb dX2_hitsIn_4 rfl (lv_at hl 0 rfl) ?_
    refine lv_aload_n hx hb dX2_hitsIn_5 rfl (lv_at hl 3 rfl) ?_
    refine k_get (ci := 1) (CC := RX0) (T := TX0) (N := 6) (v := .int (nI n)) C G 1 rfl rfl in_1 1 (by decide) fl_X2_35 rfl rfl dX2_hitsIn_6 ?_
    refine lv_icmp_ge (tgt := 42) hx hb dX2_hitsIn_9 (by decide) (fun c_9 => ?_) (fun c_9 => ?_)
    · refine lv_iload_n hx hb dX2_hitsIn_42 rfl (lv_at hl 1 rfl) ?_
      exact kr_i C G (hp _ (by rw [hs])) (Nat.le_of_ble_eq_true rfl) (Nat.le_of_ble_eq_true rfl) dX2_hitsIn_43
    · exact absurd (nI_le (by omega) (by omega)) c_9
  | succ k ih =>
    intro i a hi hs H locs ls G hl
    refine lv_iload_n hx hb dX2_hitsIn_4 rfl (lv_at hl 0 rfl) ?_
    refine lv_aload_n hx hb dX2_hitsIn_5 rfl (lv_at hl 3 rfl) ?_
    refine k_get (ci := 1) (CC := RX0) (T := TX0) (N := 6) (v := .int (nI n)) C G 1 rfl rfl in_1 1 (by decide) fl_X2_35 rfl rfl dX2_hitsIn_6 ?_
    refine lv_icmp_ge (tgt := 42) hx hb dX2_hitsIn_9 (by decide) (fun c_9 => ?_) (fun c_9 => ?_)
    · exact absurd c_9 (nI_ge (by omega) (by omega))
    · refine lv_iload_n hx hb dX2_hitsIn_12 rfl (lv_at hl 1 rfl) ?_
      refine lv_aload_n hx hb dX2_hitsIn_13 rfl (lv_at hl 2 rfl) ?_
      refine lv_aload_n hx hb dX2_hitsIn_14 rfl (lv_at hl 3 rfl) ?_
      refine lv_aload_n hx hb dX2_hitsIn_15 rfl (lv_at hl 2 rfl) ?_
      refine k_get (ci := 3) (CC := RX2) (T := TX2) (N := 3) (v := .int (nI c0)) C G 0 rfl rfl in_3 0 (by decide) fl_X2_9 rfl rfl dX2_hitsIn_16 ?_
      refine lv_iload_n hx hb dX2_hitsIn_19 rfl (lv_at hl 0 rfl) ?_
      have hX : List.Perm ([(g, .inr (3, [.int (nI c0), .int wh, .int nu])), (h, .inr (1, [.int P, .int (nI n), .ref qv, .ref qp, .ref ql, .ref qg])), (qv, aI Z 144 V), (qp, aI Z 3 pr), (ql, aI Z 3 le), (qg, aI Z 3 gr)]) ([(h, .inr (1, [.int P, .int (nI n), .ref qv, .ref qp, .ref ql, .ref qg])), (qv, aI Z 144 V), (qp, aI Z 3 pr), (ql, aI Z 3 le), (qg, aI Z 3 gr)] ++ ([(g, .inr (3, [.int (nI c0), .int wh, .int nu]))])) := (perm_ix [1, 2, 3, 4, 5, 0] rfl 6 (by decide) rfl)
      refine kc_i (Wc := [(h, .inr (1, [.int P, .int (nI n), .ref qv, .ref qp, .ref ql, .ref qg])), (qv, aI Z 144 V), (qp, aI Z 3 pr), (ql, aI Z 3 le), (qg, aI Z 3 gr)]) (Wr := [(g, .inr (3, [.int (nI c0), .int wh, .int nu]))]) G hX (krV 2 rfl (As := [.int (nI c0), .int (nI i)]) (rest := [.ref g, .int (nI a)]) (ci := 1) (CC := RX0) (T := TX0) (N := 6) C G hX (c_X0_valueAt Z l h qv qp ql qg c0 i P (nI n) V pr le gr hc (by omega) _) (gdV ml_X2_38 im_X0_valueAt se_X0_valueAt ii_X0 co_X0_valueAt) (by decide +kernel) ⟨Nat.le_of_ble_eq_true rfl, Nat.le_of_ble_eq_true rfl⟩ rfl 0 rfl hl rfl (Nat.le_of_ble_eq_true rfl) ⟨Nat.le_of_ble_eq_true rfl, Nat.le_of_ble_eq_true rfl⟩ dX2_hitsIn_20) (fun r_20 u H locs hu G => ?_)
      obtain ⟨r_20_e, rfl⟩ := hu
      subst r_20_e
      have G : wd Z A s ([(g, .inr (3, [.int (nI c0), .int wh, .int nu])), (h, .inr (1, [.int P, .int (nI n), .ref qv, .ref qp, .ref ql, .ref qg])), (qv, aI Z 144 V), (qp, aI Z 3 pr), (ql, aI Z 3 le), (qg, aI Z 3 gr)]) H locs := G.perm (perm_ix [5, 0, 1, 2, 3, 4] rfl 6 (by decide) rfl)
      have hX : List.Perm ([(g, .inr (3, [.int (nI c0), .int wh, .int nu])), (h, .inr (1, [.int P, .int (nI n), .ref qv, .ref qp, .ref ql, .ref qg])), (qv, aI Z 144 V), (qp, aI Z 3 pr), (ql, aI Z 3 le), (qg, aI Z 3 gr)]) ([(g, .inr (3, [.int (nI c0), .int wh, .int nu]))] ++ ([(h, .inr (1, [.int P, .int (nI n), .ref qv, .ref qp, .ref ql, .ref qg])), (qv, aI Z 144 V), (qp, aI Z 3 pr), (ql, aI Z 3 le), (qg, aI Z 3 gr)])) := (perm_ix [0, 1, 2, 3, 4, 5] rfl 6 (by decide) rfl)
      refine kc_i (Wc := [(g, .inr (3, [.int (nI c0), .int wh, .int nu]))]) (Wr := [(h, .inr (1, [.int P, .int (nI n), .ref qv, .ref qp, .ref ql, .ref qg])), (qv, aI Z 144 V), (qp, aI Z 3 pr), (ql, aI Z 3 le), (qg, aI Z 3 gr)]) G hX (krV 1 rfl (As := [.int (V (48 * c0 + i))]) (rest := [.int (nI a)]) (ci := 3) (CC := RX2) (T := TX2) (N := 3) C G hX (c_X2_holdsFor Z l g c0 wh nu (V (48 * c0 + i)) _) (gdV ml_X2_42 im_X2_holdsFor se_X2_holdsFor ii_X2 co_X2_holdsFor) (by decide +kernel) ⟨Nat.le_of_ble_eq_true rfl, Nat.le_of_ble_eq_true rfl⟩ rfl 0 rfl hl rfl (Nat.le_of_ble_eq_true rfl) ⟨Nat.le_of_ble_eq_true rfl, Nat.le_of_ble_eq_true rfl⟩ dX2_hitsIn_23) (fun r_23 u H locs hu G => ?_)
      obtain ⟨r_23_e, rfl⟩ := hu
      subst r_23_e
      have G : wd Z A s ([(g, .inr (3, [.int (nI c0), .int wh, .int nu])), (h, .inr (1, [.int P, .int (nI n), .ref qv, .ref qp, .ref ql, .ref qg])), (qv, aI Z 144 V), (qp, aI Z 3 pr), (ql, aI Z 3 le), (qg, aI Z 3 gr)]) H locs := G
      refine lv_if_eq (tgt := 33) hx hb dX2_hitsIn_26 (by decide) (fun c_26 => ?_) (fun c_26 => ?_)
      · refine lv_iconst (v := 0) hx hb dX2_hitsIn_33 (by decide) ?_
        refine lv_iadd hx hb dX2_hitsIn_34 ?_
        refine k_topi (y := nI a) (by exact Int32.add_zero _) ?_
        refine lv_istore_n (lv' := [(2, .int (nI a)), (3, .int (nI i)), (0, .ref g), (1, .ref h)]) hx hb dX2_hitsIn_35 rfl hl (by decide) rfl (fun ls hl => ?_)
        refine lv_iinc (v := nI (i + 1)) (lv' := [(3, .int (nI (i + 1))), (2, .int (nI a)), (0, .ref g), (1, .ref h)]) hx hb dX2_hitsIn_36 hl (k := 1) rfl (nI_1 _) (by decide) rfl (fun ls hl => ?_)
        refine lv_goto (tgt := 4) hx hb dX2_hitsIn_39 (by decide) ?_
        exact ih (i + 1) a (by omega) (by rw [col_s, hitF_s, ← hs, hitS, if_pos c_26]) _ _ _ G (lv_sub hl [0, 1, 2, 3] rfl)
      · refine lv_iconst (v := 1) hx hb dX2_hitsIn_29 (by decide) ?_
        refine lv_goto (tgt := 34) hx hb dX2_hitsIn_30 (by decide) ?_
        refine lv_iadd hx hb dX2_hitsIn_34 ?_
        refine k_topi (y := nI (a + 1)) (by exact nI_1 a) ?_
        refine lv_istore_n (lv' := [(2, .int (nI (a + 1))), (3, .int (nI i)), (0, .ref g), (1, .ref h)]) hx hb dX2_hitsIn_35 rfl hl (by decide) rfl (fun ls hl => ?_)
        refine lv_iinc (v := nI (i + 1)) (lv' := [(3, .int (nI (i + 1))), (2, .int (nI (a + 1))), (0, .ref g), (1, .ref h)]) hx hb dX2_hitsIn_36 hl (k := 1) rfl (nI_1 _) (by decide) rfl (fun ls hl => ?_)
        refine lv_goto (tgt := 4) hx hb dX2_hitsIn_39 (by decide) ?_
        exact ih (i + 1) (a + 1) (by omega) (by rw [col_s, hitF_s, ← hs, hitS, if_neg c_26]) _ _ _ G (lv_sub hl [0, 1, 2, 3] rfl)
set_option maxRecDepth 100000 in
set_option maxHeartbeats 4000000 in
theorem c_X2_hitsIn (Z : zT) (l : Launch) (g h qv qp ql qg c0 n : Nat) (P wh nu : Int32) (V pr le gr : Nat → Int32) (hc : c0 < 3) (hn : n ≤ 48) : Ki Z l yX2_hitsIn cX2_hitsIn 4 (some .int) ({ frames := 1, cells := 0, slots := 0, locals := 40 }) [.ref g, .ref h] (cdW Z g c0 wh nu ++ btW Z h qv qp ql qg P (nI n) V pr le gr) (fun r u => r = nI (hitF wh nu (col V c0 n)) ∧ u = cdW Z g c0 wh nu ++ btW Z h qv qp ql qg P (nI n) V pr le gr) := by
  intro sz
  refine Met.ofK (cc := cX2_hitsIn) (maxL := 4) (ret := (some .int)) (by decide) (Nat.le_of_ble_eq_true rfl) ?_
  intro p e s m below meth c ls C G hl
  generalize va_A _ sz = A at G ⊢
  have hx := C.1
  have hb := C.2.1
  have hown := C.2.2.2.2.2.1
  have hts := C.2.2.2.2.2.2.1
  refine lv_iconst (v := 0) hx hb dX2_hitsIn_0 (by decide) ?_
  refine lv_istore_n (lv' := [(2, .int 0), (0, .ref g), (1, .ref h)]) hx hb dX2_hitsIn_1 rfl hl (by decide) rfl (fun ls hl => ?_)
  refine lv_iconst (v := 0) hx hb dX2_hitsIn_2 (by decide) ?_
  refine lv_istore_n (lv' := [(3, .int 0), (2, .int 0), (0, .ref g), (1, .ref h)]) hx hb dX2_hitsIn_3 rfl hl (by decide) rfl (fun ls hl => ?_)
  exact lp_X2_hitsIn C hc hn (fun r hr => ⟨hr, rfl⟩) n 0 0 (by omega) rfl _ _ _ G (lv_sub hl [0, 1, 2, 3] rfl)
set_option maxRecDepth 100000 in
set_option maxHeartbeats 4000000 in
theorem lp_X2_sumIn {p : Program} {l : Launch} {e : Env} {s : State} {m : MethodId} {args : Array Value} {below : List Frame} {meth : Method} {c : Code} {Z : zT} {A : Nat → Prop} {g h qv qp ql qg c0 n : Nat} {P wh nu : Int32} {V pr le gr : Nat → Int32} {post : Int32 → va_W → Prop} (C : cx p s m args meth c cX2_sumIn 5 (some .int) RX2 "sumIn") (hc : c0 < 3) (hn : n ≤ 48) (hp : ∀ r : Int32, r = sumF wh nu (col V c0 n) → post r (cdW Z g c0 wh nu ++ btW Z h qv qp ql qg P (nI n) V pr le gr)) : ∀ (k i : Nat) (a : Int32), i + k = n → a = sumF wh nu (col V c0 i) → ∀ (H : Heap) (locs : List Loc) (ls : Array Slot), wd Z A s (cdW Z g c0 wh nu ++ btW Z h qv qp ql qg P (nI n) V pr le gr) H locs → lv_has ls 5 [(3, .int (nI i)), (2, .int a), (0, .ref g), (1, .ref h)] → W p l e ({ frames := 1, cells := 0, slots := 0, locals := 40 }) s m args below meth c H locs 0 0 (MQ below (va_Qi post (mB Z A) A) args s 0 0 A) (F0 m 4 ls []) := by
  have hx := C.1
  have hb := C.2.1
  have hown := C.2.2.2.2.2.1
  have hts := C.2.2.2.2.2.2.1
  intro k
  induction k with
  | zero =>
    intro i a hi hs H locs ls G hl
    have e0 : i = n := by omega
    rw [e0] at hs
    refine lv_iload_n hx hb dX2_sumIn_4 rfl (lv_at hl 0 rfl) ?_
    refine lv_aload_n hx hb dX2_sumIn_5 rfl (lv_at hl 3 rfl) ?_
    refine k_get (ci := 1) (CC := RX0) (T := TX0) (N := 6) (v := .int (nI n)) C G 1 rfl rfl in_1 1 (by decide) fl_X2_35 rfl rfl dX2_sumIn_6 ?_
    refine lv_icmp_ge (tgt := 47) hx hb dX2_sumIn_9 (by decide) (fun c_9 => ?_) (fun c_9 => ?_)
    · refine lv_iload_n hx hb dX2_sumIn_47 rfl (lv_at hl 1 rfl) ?_
      exact kr_i C G (hp _ (by rw [hs])) (Nat.le_of_ble_eq_true rfl) (Nat.le_of_ble_eq_true rfl) dX2_sumIn_48
    · exact absurd (nI_le (by omega) (by omega)) c_9
  | succ k ih =>
    intro i a hi hs H locs ls G hl
    refine lv_iload_n hx hb dX2_sumIn_4 rfl (lv_at hl 0 rfl) ?_
    refine lv_aload_n hx hb dX2_sumIn_5 rfl (lv_at hl 3 rfl) ?_
    refine k_get (ci := 1) (CC := RX0) (T := TX0) (N := 6) (v := .int (nI n)) C G 1 rfl rfl in_1 1 (by decide) fl_X2_35 rfl rfl dX2_sumIn_6 ?_
    refine lv_icmp_ge (tgt := 47) hx hb dX2_sumIn_9 (by decide) (fun c_9 => ?_) (fun c_9 => ?_)
    · exact absurd c_9 (nI_ge (by omega) (by omega))
    · refine lv_aload_n hx hb dX2_sumIn_12 rfl (lv_at hl 3 rfl) ?_
      refine lv_aload_n hx hb dX2_sumIn_13 rfl (lv_at hl 2 rfl) ?_
      refine k_get (ci := 3) (CC := RX2) (T := TX2) (N := 3) (v := .int (nI c0)) C G 0 rfl rfl in_3 0 (by decide) fl_X2_9 rfl rfl dX2_sumIn_14 ?_
      refine lv_iload_n hx hb dX2_sumIn_17 rfl (lv_at hl 0 rfl) ?_
      have hX : List.Perm ([(g, .inr (3, [.int (nI c0), .int wh, .int nu])), (h, .inr (1, [.int P, .int (nI n), .ref qv, .ref qp, .ref ql, .ref qg])), (qv, aI Z 144 V), (qp, aI Z 3 pr), (ql, aI Z 3 le), (qg, aI Z 3 gr)]) ([(h, .inr (1, [.int P, .int (nI n), .ref qv, .ref qp, .ref ql, .ref qg])), (qv, aI Z 144 V), (qp, aI Z 3 pr), (ql, aI Z 3 le), (qg, aI Z 3 gr)] ++ ([(g, .inr (3, [.int (nI c0), .int wh, .int nu]))])) := (perm_ix [1, 2, 3, 4, 5, 0] rfl 6 (by decide) rfl)
      refine kc_i (Wc := [(h, .inr (1, [.int P, .int (nI n), .ref qv, .ref qp, .ref ql, .ref qg])), (qv, aI Z 144 V), (qp, aI Z 3 pr), (ql, aI Z 3 le), (qg, aI Z 3 gr)]) (Wr := [(g, .inr (3, [.int (nI c0), .int wh, .int nu]))]) G hX (krV 2 rfl (As := [.int (nI c0), .int (nI i)]) (rest := []) (ci := 1) (CC := RX0) (T := TX0) (N := 6) C G hX (c_X0_valueAt Z l h qv qp ql qg c0 i P (nI n) V pr le gr hc (by omega) _) (gdV ml_X2_38 im_X0_valueAt se_X0_valueAt ii_X0 co_X0_valueAt) (by decide +kernel) ⟨Nat.le_of_ble_eq_true rfl, Nat.le_of_ble_eq_true rfl⟩ rfl 0 rfl hl rfl (Nat.le_of_ble_eq_true rfl) ⟨Nat.le_of_ble_eq_true rfl, Nat.le_of_ble_eq_true rfl⟩ dX2_sumIn_18) (fun r_18 u H locs hu G => ?_)
      obtain ⟨r_18_e, rfl⟩ := hu
      subst r_18_e
      have G : wd Z A s ([(g, .inr (3, [.int (nI c0), .int wh, .int nu])), (h, .inr (1, [.int P, .int (nI n), .ref qv, .ref qp, .ref ql, .ref qg])), (qv, aI Z 144 V), (qp, aI Z 3 pr), (ql, aI Z 3 le), (qg, aI Z 3 gr)]) H locs := G.perm (perm_ix [5, 0, 1, 2, 3, 4] rfl 6 (by decide) rfl)
      refine lv_istore (lv' := [(4, .int (V (48 * c0 + i))), (3, .int (nI i)), (2, .int a), (0, .ref g), (1, .ref h)]) hx hb dX2_sumIn_21 hl (by decide) rfl (fun ls hl => ?_)
      refine lv_iload_n hx hb dX2_sumIn_23 rfl (lv_at hl 2 rfl) ?_
      refine lv_aload_n hx hb dX2_sumIn_24 rfl (lv_at hl 3 rfl) ?_
      refine lv_iload hx hb dX2_sumIn_25 (lv_at hl 0 rfl) ?_
      have hX : List.Perm ([(g, .inr (3, [.int (nI c0), .int wh, .int nu])), (h, .inr (1, [.int P, .int (nI n), .ref qv, .ref qp, .ref ql, .ref qg])), (qv, aI Z 144 V), (qp, aI Z 3 pr), (ql, aI Z 3 le), (qg, aI Z 3 gr)]) ([(g, .inr (3, [.int (nI c0), .int wh, .int nu]))] ++ ([(h, .inr (1, [.int P, .int (nI n), .ref qv, .ref qp, .ref ql, .ref qg])), (qv, aI Z 144 V), (qp, aI Z 3 pr), (ql, aI Z 3 le), (qg, aI Z 3 gr)])) := (perm_ix [0, 1, 2, 3, 4, 5] rfl 6 (by decide) rfl)
      refine kc_i (Wc := [(g, .inr (3, [.int (nI c0), .int wh, .int nu]))]) (Wr := [(h, .inr (1, [.int P, .int (nI n), .ref qv, .ref qp, .ref ql, .ref qg])), (qv, aI Z 144 V), (qp, aI Z 3 pr), (ql, aI Z 3 le), (qg, aI Z 3 gr)]) G hX (krV 1 rfl (As := [.int (V (48 * c0 + i))]) (rest := [.int a]) (ci := 3) (CC := RX2) (T := TX2) (N := 3) C G hX (c_X2_holdsFor Z l g c0 wh nu (V (48 * c0 + i)) _) (gdV ml_X2_42 im_X2_holdsFor se_X2_holdsFor ii_X2 co_X2_holdsFor) (by decide +kernel) ⟨Nat.le_of_ble_eq_true rfl, Nat.le_of_ble_eq_true rfl⟩ rfl 0 rfl hl rfl (Nat.le_of_ble_eq_true rfl) ⟨Nat.le_of_ble_eq_true rfl, Nat.le_of_ble_eq_true rfl⟩ dX2_sumIn_27) (fun r_27 u H locs hu G => ?_)
      obtain ⟨r_27_e, rfl⟩ := hu
      subst r_27_e
      have G : wd Z A s ([(g, .inr (3, [.int (nI c0), .int wh, .int nu])), (h, .inr (1, [.int P, .int (nI n), .ref qv, .ref qp, .ref ql, .ref qg])), (qv, aI Z 144 V), (qp, aI Z 3 pr), (ql, aI Z 3 le), (qg, aI Z 3 gr)]) H locs := G
      refine lv_if_eq (tgt := 38) hx hb dX2_sumIn_30 (by decide) (fun c_30 => ?_) (fun c_30 => ?_)
      · refine lv_iconst (v := 0) hx hb dX2_sumIn_38 (by decide) ?_
        refine lv_iadd hx hb dX2_sumIn_39 ?_
        refine lv_istore_n (lv' := [(2, .int (a + 0)), (4, .int (V (48 * c0 + i))), (3, .int (nI i)), (0, .ref g), (1, .ref h)]) hx hb dX2_sumIn_40 rfl hl (by decide) rfl (fun ls hl => ?_)
        refine lv_iinc (v := nI (i + 1)) (lv' := [(3, .int (nI (i + 1))), (2, .int (a + 0)), (4, .int (V (48 * c0 + i))), (0, .ref g), (1, .ref h)]) hx hb dX2_sumIn_41 hl (k := 2) rfl (nI_1 _) (by decide) rfl (fun ls hl => ?_)
        refine lv_goto (tgt := 4) hx hb dX2_sumIn_44 (by decide) ?_
        exact ih (i + 1) _ (by omega) (by rw [col_s, sumF_s, ← hs, sumS, if_pos c_30]) _ _ _ G (lv_sub hl [0, 1, 3, 4] rfl)
      · refine lv_iload hx hb dX2_sumIn_33 (lv_at hl 0 rfl) ?_
        refine lv_goto (tgt := 39) hx hb dX2_sumIn_35 (by decide) ?_
        refine lv_iadd hx hb dX2_sumIn_39 ?_
        refine lv_istore_n (lv' := [(2, .int (a + (V (48 * c0 + i)))), (4, .int (V (48 * c0 + i))), (3, .int (nI i)), (0, .ref g), (1, .ref h)]) hx hb dX2_sumIn_40 rfl hl (by decide) rfl (fun ls hl => ?_)
        refine lv_iinc (v := nI (i + 1)) (lv' := [(3, .int (nI (i + 1))), (2, .int (a + (V (48 * c0 + i)))), (4, .int (V (48 * c0 + i))), (0, .ref g), (1, .ref h)]) hx hb dX2_sumIn_41 hl (k := 2) rfl (nI_1 _) (by decide) rfl (fun ls hl => ?_)
        refine lv_goto (tgt := 4) hx hb dX2_sumIn_44 (by decide) ?_
        exact ih (i + 1) _ (by omega) (by rw [col_s, sumF_s, ← hs, sumS, if_neg c_30]) _ _ _ G (lv_sub hl [0, 1, 3, 4] rfl)
set_option maxRecDepth 100000 in
set_option maxHeartbeats 4000000 in
theorem c_X2_sumIn (Z : zT) (l : Launch) (g h qv qp ql qg c0 n : Nat) (P wh nu : Int32) (V pr le gr : Nat → Int32) (hc : c0 < 3) (hn : n ≤ 48) : Ki Z l yX2_sumIn cX2_sumIn 5 (some .int) ({ frames := 1, cells := 0, slots := 0, locals := 40 }) [.ref g, .ref h] (cdW Z g c0 wh nu ++ btW Z h qv qp ql qg P (nI n) V pr le gr) (fun r u => r = sumF wh nu (col V c0 n) ∧ u = cdW Z g c0 wh nu ++ btW Z h qv qp ql qg P (nI n) V pr le gr) := by
  intro sz
  refine Met.ofK (cc := cX2_sumIn) (maxL := 5) (ret := (some .int)) (by decide) (Nat.le_of_ble_eq_true rfl) ?_
  intro p e s m below meth c ls C G hl
  generalize va_A _ sz = A at G ⊢
  have hx := C.1
  have hb := C.2.1
  have hown := C.2.2.2.2.2.1
  have hts := C.2.2.2.2.2.2.1
  refine lv_iconst (v := 0) hx hb dX2_sumIn_0 (by decide) ?_
  refine lv_istore_n (lv' := [(2, .int 0), (0, .ref g), (1, .ref h)]) hx hb dX2_sumIn_1 rfl hl (by decide) rfl (fun ls hl => ?_)
  refine lv_iconst (v := 0) hx hb dX2_sumIn_2 (by decide) ?_
  refine lv_istore_n (lv' := [(3, .int 0), (2, .int 0), (0, .ref g), (1, .ref h)]) hx hb dX2_sumIn_3 rfl hl (by decide) rfl (fun ls hl => ?_)
  exact lp_X2_sumIn C hc hn (fun r hr => ⟨hr, rfl⟩) n 0 0 (by omega) rfl _ _ _ G (lv_sub hl [0, 1, 2, 3] rfl)
set_option maxRecDepth 100000 in
set_option maxHeartbeats 4000000 in
theorem lp_X2_copyOthers {p : Program} {l : Launch} {e : Env} {s : State} {m : MethodId} {args : Array Value} {below : List Frame} {meth : Method} {c : Code} {Z : zT} {A : Nat → Prop} {g h qv qp ql qg c0 n : Nat} {P wh nu : Int32} {V pr le gr : Nat → Int32} {t tv tp tl tg : Nat} {P1 : Int32} {W0 : Nat → Int32} {post : va_W → Prop} (C : cx p s m args meth c cX2_copyOthers 4 none RX2 "copyOthers") (hc : c0 < 3) (hn : n ≤ 48) (hp : ∀ (k1 : Nat) (W1 pr1 le1 gr1 : Nat → Int32), (k1, W1) = cpF wh nu c0 V n (0, W0) → bt_ok W1 pr1 le1 gr1 (fun _ => k1) → post (cdW Z g c0 wh nu ++ btW Z h qv qp ql qg P (nI n) V pr le gr ++ btW Z t tv tp tl tg P1 (nI k1) W1 pr1 le1 gr1)) : ∀ (k i k1 : Nat) (W1 pr1 le1 gr1 : Nat → Int32), i + k = n → (k1, W1) = cpF wh nu c0 V i (0, W0) → bt_ok W1 pr1 le1 gr1 (fun _ => k1) → ∀ (H : Heap) (locs : List Loc) (ls : Array Slot), wd Z A s (cdW Z g c0 wh nu ++ btW Z h qv qp ql qg P (nI n) V pr le gr ++ btW Z t tv tp tl tg P1 (nI k1) W1 pr1 le1 gr1) H locs → lv_has ls 4 [(3, .int (nI i)), (0, .ref g), (1, .ref h), (2, .ref t)] → W p l e ({ frames := 3, cells := 0, slots := 0, locals := 120 }) s m args below meth c H locs 0 0 (MQ below (va_Qv post (mB Z A) A) args s 0 0 A) (F0 m 2 ls []) := by
  have hx := C.1
  have hb := C.2.1
  have hown := C.2.2.2.2.2.1
  have hts := C.2.2.2.2.2.2.1
  intro k
  induction k with
  | zero =>
    intro i k1 W1 pr1 le1 gr1 hi hs hb1 H locs ls G hl
    have hle := cpF_le wh nu c0 V W0 i
    rw [← hs] at hle
    dsimp only at hle
    have e0 : i = n := by omega
    rw [e0] at hs
    refine lv_iload_n hx hb dX2_copyOthers_2 rfl (lv_at hl 0 rfl) ?_
    refine lv_aload_n hx hb dX2_copyOthers_3 rfl (lv_at hl 2 rfl) ?_
    refine k_get (ci := 1) (CC := RX0) (T := TX0) (N := 6) (v := .int (nI n)) C G 1 rfl rfl in_1 1 (by decide) fl_X2_35 rfl rfl dX2_copyOthers_4 ?_
    refine lv_icmp_ge (tgt := 38) hx hb dX2_copyOthers_7 (by decide) (fun c_7 => ?_) (fun c_7 => ?_)
    · exact kr_v C G (hp k1 W1 pr1 le1 gr1 hs hb1) (Nat.le_of_ble_eq_true rfl) (Nat.le_of_ble_eq_true rfl) dX2_copyOthers_38
    · exact absurd (nI_le (by omega) (by omega)) c_7
  | succ k ih =>
    intro i k1 W1 pr1 le1 gr1 hi hs hb1 H locs ls G hl
    have hle := cpF_le wh nu c0 V W0 i
    rw [← hs] at hle
    dsimp only at hle
    refine lv_iload_n hx hb dX2_copyOthers_2 rfl (lv_at hl 0 rfl) ?_
    refine lv_aload_n hx hb dX2_copyOthers_3 rfl (lv_at hl 2 rfl) ?_
    refine k_get (ci := 1) (CC := RX0) (T := TX0) (N := 6) (v := .int (nI n)) C G 1 rfl rfl in_1 1 (by decide) fl_X2_35 rfl rfl dX2_copyOthers_4 ?_
    refine lv_icmp_ge (tgt := 38) hx hb dX2_copyOthers_7 (by decide) (fun c_7 => ?_) (fun c_7 => ?_)
    · exact absurd c_7 (nI_ge (by omega) (by omega))
    · refine lv_aload_n hx hb dX2_copyOthers_10 rfl (lv_at hl 1 rfl) ?_
      refine lv_aload_n hx hb dX2_copyOthers_11 rfl (lv_at hl 2 rfl) ?_
      refine lv_aload_n hx hb dX2_copyOthers_12 rfl (lv_at hl 1 rfl) ?_
      refine k_get (ci := 3) (CC := RX2) (T := TX2) (N := 3) (v := .int (nI c0)) C G 0 rfl rfl in_3 0 (by decide) fl_X2_9 rfl rfl dX2_copyOthers_13 ?_
      refine lv_iload_n hx hb dX2_copyOthers_16 rfl (lv_at hl 0 rfl) ?_
      have hX : List.Perm ([(g, .inr (3, [.int (nI c0), .int wh, .int nu])), (h, .inr (1, [.int P, .int (nI n), .ref qv, .ref qp, .ref ql, .ref qg])), (qv, aI Z 144 V), (qp, aI Z 3 pr), (ql, aI Z 3 le), (qg, aI Z 3 gr), (t, .inr (1, [.int P1, .int (nI k1), .ref tv, .ref tp, .ref tl, .ref tg])), (tv, aI Z 144 W1), (tp, aI Z 3 pr1), (tl, aI Z 3 le1), (tg, aI Z 3 gr1)]) ([(h, .inr (1, [.int P, .int (nI n), .ref qv, .ref qp, .ref ql, .ref qg])), (qv, aI Z 144 V), (qp, aI Z 3 pr), (ql, aI Z 3 le), (qg, aI Z 3 gr)] ++ ([(g, .inr (3, [.int (nI c0), .int wh, .int nu])), (t, .inr (1, [.int P1, .int (nI k1), .ref tv, .ref tp, .ref tl, .ref tg])), (tv, aI Z 144 W1), (tp, aI Z 3 pr1), (tl, aI Z 3 le1), (tg, aI Z 3 gr1)])) := (perm_ix [1, 2, 3, 4, 5, 0, 6, 7, 8, 9, 10] rfl 11 (by decide) rfl)
      refine kc_i (Wc := [(h, .inr (1, [.int P, .int (nI n), .ref qv, .ref qp, .ref ql, .ref qg])), (qv, aI Z 144 V), (qp, aI Z 3 pr), (ql, aI Z 3 le), (qg, aI Z 3 gr)]) (Wr := [(g, .inr (3, [.int (nI c0), .int wh, .int nu])), (t, .inr (1, [.int P1, .int (nI k1), .ref tv, .ref tp, .ref tl, .ref tg])), (tv, aI Z 144 W1), (tp, aI Z 3 pr1), (tl, aI Z 3 le1), (tg, aI Z 3 gr1)]) G hX (krV 2 rfl (As := [.int (nI c0), .int (nI i)]) (rest := [.ref g]) (ci := 1) (CC := RX0) (T := TX0) (N := 6) C G hX (c_X0_valueAt Z l h qv qp ql qg c0 i P (nI n) V pr le gr hc (by omega) _) (gdV ml_X2_38 im_X0_valueAt se_X0_valueAt ii_X0 co_X0_valueAt) (by decide +kernel) ⟨Nat.le_of_ble_eq_true rfl, Nat.le_of_ble_eq_true rfl⟩ rfl 0 rfl hl rfl (Nat.le_of_ble_eq_true rfl) ⟨Nat.le_of_ble_eq_true rfl, Nat.le_of_ble_eq_true rfl⟩ dX2_copyOthers_17) (fun r_17 u H locs hu G => ?_)
      obtain ⟨r_17_e, rfl⟩ := hu
      subst r_17_e
      have G : wd Z A s ([(g, .inr (3, [.int (nI c0), .int wh, .int nu])), (h, .inr (1, [.int P, .int (nI n), .ref qv, .ref qp, .ref ql, .ref qg])), (qv, aI Z 144 V), (qp, aI Z 3 pr), (ql, aI Z 3 le), (qg, aI Z 3 gr), (t, .inr (1, [.int P1, .int (nI k1), .ref tv, .ref tp, .ref tl, .ref tg])), (tv, aI Z 144 W1), (tp, aI Z 3 pr1), (tl, aI Z 3 le1), (tg, aI Z 3 gr1)]) H locs := G.perm (perm_ix [5, 0, 1, 2, 3, 4, 6, 7, 8, 9, 10] rfl 11 (by decide) rfl)
      have hX : List.Perm ([(g, .inr (3, [.int (nI c0), .int wh, .int nu])), (h, .inr (1, [.int P, .int (nI n), .ref qv, .ref qp, .ref ql, .ref qg])), (qv, aI Z 144 V), (qp, aI Z 3 pr), (ql, aI Z 3 le), (qg, aI Z 3 gr), (t, .inr (1, [.int P1, .int (nI k1), .ref tv, .ref tp, .ref tl, .ref tg])), (tv, aI Z 144 W1), (tp, aI Z 3 pr1), (tl, aI Z 3 le1), (tg, aI Z 3 gr1)]) ([(g, .inr (3, [.int (nI c0), .int wh, .int nu]))] ++ ([(h, .inr (1, [.int P, .int (nI n), .ref qv, .ref qp, .ref ql, .ref qg])), (qv, aI Z 144 V), (qp, aI Z 3 pr), (ql, aI Z 3 le), (qg, aI Z 3 gr), (t, .inr (1, [.int P1, .int (nI k1), .ref tv, .ref tp, .ref tl, .ref tg])), (tv, aI Z 144 W1), (tp, aI Z 3 pr1), (tl, aI Z 3 le1), (tg, aI Z 3 gr1)])) := (perm_ix [0, 1, 2, 3, 4, 5, 6, 7, 8, 9, 10] rfl 11 (by decide) rfl)
      refine kc_i (Wc := [(g, .inr (3, [.int (nI c0), .int wh, .int nu]))]) (Wr := [(h, .inr (1, [.int P, .int (nI n), .ref qv, .ref qp, .ref ql, .ref qg])), (qv, aI Z 144 V), (qp, aI Z 3 pr), (ql, aI Z 3 le), (qg, aI Z 3 gr), (t, .inr (1, [.int P1, .int (nI k1), .ref tv, .ref tp, .ref tl, .ref tg])), (tv, aI Z 144 W1), (tp, aI Z 3 pr1), (tl, aI Z 3 le1), (tg, aI Z 3 gr1)]) G hX (krV 1 rfl (As := [.int (V (48 * c0 + i))]) (rest := []) (ci := 3) (CC := RX2) (T := TX2) (N := 3) C G hX (c_X2_holdsFor Z l g c0 wh nu (V (48 * c0 + i)) _) (gdV ml_X2_42 im_X2_holdsFor se_X2_holdsFor ii_X2 co_X2_holdsFor) (by decide +kernel) ⟨Nat.le_of_ble_eq_true rfl, Nat.le_of_ble_eq_true rfl⟩ rfl 0 rfl hl rfl (Nat.le_of_ble_eq_true rfl) ⟨Nat.le_of_ble_eq_true rfl, Nat.le_of_ble_eq_true rfl⟩ dX2_copyOthers_20) (fun r_20 u H locs hu G => ?_)
      obtain ⟨r_20_e, rfl⟩ := hu
      subst r_20_e
      have G : wd Z A s ([(g, .inr (3, [.int (nI c0), .int wh, .int nu])), (h, .inr (1, [.int P, .int (nI n), .ref qv, .ref qp, .ref ql, .ref qg])), (qv, aI Z 144 V), (qp, aI Z 3 pr), (ql, aI Z 3 le), (qg, aI Z 3 gr), (t, .inr (1, [.int P1, .int (nI k1), .ref tv, .ref tp, .ref tl, .ref tg])), (tv, aI Z 144 W1), (tp, aI Z 3 pr1), (tl, aI Z 3 le1), (tg, aI Z 3 gr1)]) H locs := G
      refine lv_if_ne (tgt := 32) hx hb dX2_copyOthers_23 (by decide) (fun c_23 => ?_) (fun c_23 => ?_)
      · refine lv_iinc (v := nI (i + 1)) (lv' := [(3, .int (nI (i + 1))), (0, .ref g), (1, .ref h), (2, .ref t)]) hx hb dX2_copyOthers_32 hl (k := 0) rfl (nI_1 _) (by decide) rfl (fun ls hl => ?_)
        refine lv_goto (tgt := 2) hx hb dX2_copyOthers_35 (by decide) ?_
        exact ih (i + 1) k1 W1 pr1 le1 gr1 (by omega) (by rw [cpF, if_neg c_23, ← hs]) hb1 _ _ _ G (lv_sub hl [0, 1, 2, 3] rfl)
      · refine lv_aload_n hx hb dX2_copyOthers_26 rfl (lv_at hl 3 rfl) ?_
        refine lv_aload_n hx hb dX2_copyOthers_27 rfl (lv_at hl 2 rfl) ?_
        refine lv_iload_n hx hb dX2_copyOthers_28 rfl (lv_at hl 0 rfl) ?_
        have hX : List.Perm ([(g, .inr (3, [.int (nI c0), .int wh, .int nu])), (h, .inr (1, [.int P, .int (nI n), .ref qv, .ref qp, .ref ql, .ref qg])), (qv, aI Z 144 V), (qp, aI Z 3 pr), (ql, aI Z 3 le), (qg, aI Z 3 gr), (t, .inr (1, [.int P1, .int (nI k1), .ref tv, .ref tp, .ref tl, .ref tg])), (tv, aI Z 144 W1), (tp, aI Z 3 pr1), (tl, aI Z 3 le1), (tg, aI Z 3 gr1)]) ([(t, .inr (1, [.int P1, .int (nI k1), .ref tv, .ref tp, .ref tl, .ref tg])), (tv, aI Z 144 W1), (tp, aI Z 3 pr1), (tl, aI Z 3 le1), (tg, aI Z 3 gr1), (h, .inr (1, [.int P, .int (nI n), .ref qv, .ref qp, .ref ql, .ref qg])), (qv, aI Z 144 V), (qp, aI Z 3 pr), (ql, aI Z 3 le), (qg, aI Z 3 gr)] ++ ([(g, .inr (3, [.int (nI c0), .int wh, .int nu]))])) := (perm_ix [6, 7, 8, 9, 10, 1, 2, 3, 4, 5, 0] rfl 11 (by decide) rfl)
        refine kc_v (Wc := [(t, .inr (1, [.int P1, .int (nI k1), .ref tv, .ref tp, .ref tl, .ref tg])), (tv, aI Z 144 W1), (tp, aI Z 3 pr1), (tl, aI Z 3 le1), (tg, aI Z 3 gr1), (h, .inr (1, [.int P, .int (nI n), .ref qv, .ref qp, .ref ql, .ref qg])), (qv, aI Z 144 V), (qp, aI Z 3 pr), (ql, aI Z 3 le), (qg, aI Z 3 gr)]) (Wr := [(g, .inr (3, [.int (nI c0), .int wh, .int nu]))]) G hX (krV 2 rfl (As := [.ref h, .int (nI i)]) (rest := []) (ci := 1) (CC := RX0) (T := TX0) (N := 6) C G hX (c_X0_addRowOf Z l t tv tp tl tg h qv qp ql qg k1 i P1 P (nI n) W1 pr1 le1 gr1 V pr le gr hb1 (by omega) (by omega) _) (gdV ml_X2_45 im_X0_addRowOf se_X0_addRowOf ii_X0 co_X0_addRowOf) (by decide +kernel) ⟨Nat.le_of_ble_eq_true rfl, Nat.le_of_ble_eq_true rfl⟩ rfl 0 rfl hl rfl (Nat.le_of_ble_eq_true rfl) ⟨Nat.le_of_ble_eq_true rfl, Nat.le_of_ble_eq_true rfl⟩ dX2_copyOthers_29) (fun u H locs hu G => ?_)
        obtain ⟨pr2, le2, gr2, hb2, rfl⟩ := hu
        have G : wd Z A s ([(g, .inr (3, [.int (nI c0), .int wh, .int nu])), (h, .inr (1, [.int P, .int (nI n), .ref qv, .ref qp, .ref ql, .ref qg])), (qv, aI Z 144 V), (qp, aI Z 3 pr), (ql, aI Z 3 le), (qg, aI Z 3 gr), (t, .inr (1, [.int P1, .int (nI (k1 + 1)), .ref tv, .ref tp, .ref tl, .ref tg])), (tv, aI Z 144 (upd (upd (upd W1 (48 * 0 + k1) (V (48 * 0 + i))) (48 * 1 + k1) (V (48 * 1 + i))) (48 * 2 + k1) (V (48 * 2 + i)))), (tp, aI Z 3 pr2), (tl, aI Z 3 le2), (tg, aI Z 3 gr2)]) H locs := G.perm (perm_ix [10, 5, 6, 7, 8, 9, 0, 1, 2, 3, 4] rfl 11 (by decide) rfl)
        refine lv_iinc (v := nI (i + 1)) (lv' := [(3, .int (nI (i + 1))), (0, .ref g), (1, .ref h), (2, .ref t)]) hx hb dX2_copyOthers_32 hl (k := 0) rfl (nI_1 _) (by decide) rfl (fun ls hl => ?_)
        refine lv_goto (tgt := 2) hx hb dX2_copyOthers_35 (by decide) ?_
        exact ih (i + 1) (k1 + 1) _ pr2 le2 gr2 (by omega) (by rw [cpF, if_pos c_23, ← hs]) hb2 _ _ _ G (lv_sub hl [0, 1, 2, 3] rfl)
set_option maxRecDepth 100000 in
set_option maxHeartbeats 4000000 in
theorem c_X2_copyOthers (Z : zT) (l : Launch) (g h qv qp ql qg c0 n t tv tp tl tg : Nat) (P P1 wh nu : Int32) (V pr le gr W1 pr1 le1 gr1 : Nat → Int32) (hc : c0 < 3) (hn : n ≤ 48) (hb1 : bt_ok W1 pr1 le1 gr1 (fun _ => 0)) : Kv Z l yX2_copyOthers cX2_copyOthers 4 none ({ frames := 3, cells := 0, slots := 0, locals := 120 }) [.ref g, .ref h, .ref t] (cdW Z g c0 wh nu ++ btW Z h qv qp ql qg P (nI n) V pr le gr ++ btW Z t tv tp tl tg P1 0 W1 pr1 le1 gr1) (fun u => ∃ k2 W2 pr2 le2 gr2, (k2, W2) = cpF wh nu c0 V n (0, W1) ∧ bt_ok W2 pr2 le2 gr2 (fun _ => k2) ∧ u = cdW Z g c0 wh nu ++ btW Z h qv qp ql qg P (nI n) V pr le gr ++ btW Z t tv tp tl tg P1 (nI k2) W2 pr2 le2 gr2) := by
  intro sz
  refine Met.ofK (cc := cX2_copyOthers) (maxL := 4) (ret := none) (by decide) (Nat.le_of_ble_eq_true rfl) ?_
  intro p e s m below meth c ls C G hl
  generalize va_A _ sz = A at G ⊢
  have hx := C.1
  have hb := C.2.1
  have hown := C.2.2.2.2.2.1
  have hts := C.2.2.2.2.2.2.1
  refine lv_iconst (v := 0) hx hb dX2_copyOthers_0 (by decide) ?_
  refine lv_istore_n (lv' := [(3, .int 0), (0, .ref g), (1, .ref h), (2, .ref t)]) hx hb dX2_copyOthers_1 rfl hl (by decide) rfl (fun ls hl => ?_)
  exact lp_X2_copyOthers C hc hn (fun k1 W1 pr1 le1 gr1 hs hb1 => ⟨k1, W1, pr1, le1, gr1, hs, hb1, rfl⟩) n 0 0 W1 pr1 le1 gr1 (by omega) rfl hb1 _ _ _ G (lv_sub hl [0, 1, 2, 3] rfl)
