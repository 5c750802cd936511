/-! the same of the reference -/
section rf
variable {F : Nat} {sw : Bool} {h : Hp} {M : Nat → Nat} {st N : Nat → Int}
theorem rstones_L {s m : Nat} (hs : s < 2) (hm : m ≤ M s) (C : RQ sw h M st N) : ∀ (n i f : Nat), i + n = m → n < f → X12_stonesTo_5 F f 49 (iI s) (iI m) (iI (SS st s i)) (iI i) h = some (iI (SS st s m))
  | n, i, 0, _, hf => absurd hf (Nat.not_lt_zero _)
  | 0, i, f + 1, hi, hf => by
    have hM := C.2.2.2.1.1 s
    have e : i = m := by omega
    subst e
    unfold X12_stonesTo_5
    simp (disch := omega) only [bd, iI_add, iI_sub, iI_mul, iI_neg, gq_inb, gq_T, iflt_p, iflt_n, ifle_p, ifle_n, ifeq_p, ifeq_n, iI_ix, Option.bind_some, bq_some, up_get, up_snd, if_true, if_false, ofN_iI, Int.cast_ofNat_Int, X12_stonesTo_5, lit_1, tn_1, lit_20, tn_20]
  | n + 1, i, f + 1, hi, hf => by
    have ih := rstones_L hs hm C n (i + 1) f (by omega) (by omega)
    obtain ⟨hP, hR, hN, hO, hON⟩ := C
    have hM := hO.1 s
    have e := hR.2.2 s i hs (by omega)
    have et : (20 * (s : Int) + i).toNat = 20 * s + i := by omega
    rw [SS_s] at ih
    unfold X12_stonesTo_5
    simp (disch := omega) only [bd, iI_add, iI_sub, iI_mul, iI_neg, gq_inb, gq_T, iflt_p, iflt_n, ifle_p, ifle_n, ifeq_p, ifeq_n, iI_ix, Option.bind_some, bq_some, up_get, up_snd, if_true, if_false, ofN_iI, Int.cast_ofNat_Int, X12_stonesTo_5, kd_49, pr_49_0, pr_49_1, pr_49_2, pr_49_3, pr_49_4, pr_49_6, pr_49_17, pr_49_18, pr_49_19, pr_49_20, pr_49_21, pr_49_22, pr_49_23, pr_49_24, pr_49_25, pr_49_26, pr_49_27, pr_49_28, pr_49_29, pr_49_30, pr_49_31, pr_49_32, pr_49_33, pr_49_41, pr_49_42, pr_49_43, pr_49_44, pr_49_45, pr_49_46, pr_49_47, pr_49_48, pr_49_49, kd_54, hP, et, e, lit_1, tn_1, lit_20, tn_20]
    exact ih
theorem rstones_s {s m : Nat} (hF : 1000 ≤ F) (hs : s < 2) (hm : m ≤ M s) (C : RQ sw h M st N) : X12_stonesTo F 49 (iI s) (iI m) h = some (iI (SS st s m)) := by
  have hM := C.2.2.2.1.1 s
  exact rstones_L hs hm C m 0 F (by omega) (by omega)
theorem rM {s : Nat} (hs : s < 2) (hR : RP h M st) : h.1 53 s = iI (M s) := by
  rcases (show s = 0 ∨ s = 1 by omega) with rfl | rfl
  · exact hR.1
  · exact hR.2.1
theorem rwhole_s {s : Nat} (hF : 1000 ≤ F) (hs : s < 2) (C : RQ sw h M st N) : X12_whole F 49 (iI s) h = some (iI (SS st s (M s))) := by
  have k := rstones_s hF hs (Nat.le_refl _) C
  obtain ⟨hP, hR, hN, hO, hON⟩ := C
  have e := rM hs hR
  unfold X12_whole
  simp (disch := omega) only [bd, iI_add, iI_sub, iI_mul, iI_neg, gq_inb, gq_T, iflt_p, iflt_n, ifle_p, ifle_n, ifeq_p, ifeq_n, iI_ix, Option.bind_some, bq_some, up_get, up_snd, if_true, if_false, ofN_iI, Int.cast_ofNat_Int, X12_whole, kd_49, pr_49_0, pr_49_1, pr_49_2, pr_49_3, pr_49_4, pr_49_6, pr_49_17, pr_49_18, pr_49_19, pr_49_20, pr_49_21, pr_49_22, pr_49_23, pr_49_24, pr_49_25, pr_49_26, pr_49_27, pr_49_28, pr_49_29, pr_49_30, pr_49_31, pr_49_32, pr_49_33, pr_49_41, pr_49_42, pr_49_43, pr_49_44, pr_49_45, pr_49_46, pr_49_47, pr_49_48, pr_49_49, kd_53, hP, Int.toNat_natCast, e, k]
theorem rstd_L {s : Nat} (hF : 1000 ≤ F) (hs : s < 2) (C : RQ sw h M st N) : ∀ (n k f : Nat), k + n = M s → n < f → X12_standing_2 F f 49 (iI s) (iI k) h = some (iI (stnd (SS st s) (N s) k n))
  | n, k, 0, _, hf => absurd hf (Nat.not_lt_zero _)
  | 0, k, f + 1, hk, hf => by
    obtain ⟨hP, hR, hN, hO, hON⟩ := C
    have hM := hO.1 s
    have e := rM hs hR
    unfold X12_standing_2 stnd
    simp (disch := omega) only [bd, iI_add, iI_sub, iI_mul, iI_neg, gq_inb, gq_T, iflt_p, iflt_n, ifle_p, ifle_n, ifeq_p, ifeq_n, iI_ix, Option.bind_some, bq_some, up_get, up_snd, if_true, if_false, ofN_iI, Int.cast_ofNat_Int, X12_standing_2, kd_49, pr_49_0, pr_49_1, pr_49_2, pr_49_3, pr_49_4, pr_49_6, pr_49_17, pr_49_18, pr_49_19, pr_49_20, pr_49_21, pr_49_22, pr_49_23, pr_49_24, pr_49_25, pr_49_26, pr_49_27, pr_49_28, pr_49_29, pr_49_30, pr_49_31, pr_49_32, pr_49_33, pr_49_41, pr_49_42, pr_49_43, pr_49_44, pr_49_45, pr_49_46, pr_49_47, pr_49_48, pr_49_49, kd_53, hP, Int.toNat_natCast, e, lit_0, tn_0, lit_1, tn_1]
  | n + 1, k, f + 1, hk, hf => by
    have ih := rstd_L hF hs C n (k + 1) f (by omega) (by omega)
    have t := rstones_s (m := k + 1) hF hs (by omega) C
    obtain ⟨hP, hR, hN, hO, hON⟩ := C
    have hM := hO.1 s
    have e := rM hs hR
    have b := hON.1 s hs
    have eb := SS_b hO.2.1 s (k + 1)
    have el := hN s (by omega)
    have ez : (0 + (s : Int)).toNat = s := by omega
    replace t : X12_stonesTo F 49 (iI s) (iI (k + 1)) h = _ := t
    replace ih : X12_standing_2 F f 49 (iI s) (iI (k + 1)) h = _ := ih
    unfold X12_standing_2 stnd
    by_cases c : SS st s (k + 1) ≤ N s
    · simp (disch := omega) only [bd, iI_add, iI_sub, iI_mul, iI_neg, gq_inb, gq_T, iflt_p, iflt_n, ifle_p, ifle_n, ifeq_p, ifeq_n, iI_ix, Option.bind_some, bq_some, up_get, up_snd, if_true, if_false, ofN_iI, Int.cast_ofNat_Int, X12_standing_2, kd_49, pr_49_0, pr_49_1, pr_49_2, pr_49_3, pr_49_4, pr_49_6, pr_49_17, pr_49_18, pr_49_19, pr_49_20, pr_49_21, pr_49_22, pr_49_23, pr_49_24, pr_49_25, pr_49_26, pr_49_27, pr_49_28, pr_49_29, pr_49_30, pr_49_31, pr_49_32, pr_49_33, pr_49_41, pr_49_42, pr_49_43, pr_49_44, pr_49_45, pr_49_46, pr_49_47, pr_49_48, pr_49_49, kd_53, kd_50, hP, Int.toNat_natCast, e, t, el, ez, if_pos c, lit_0, tn_0, lit_1, tn_1]
      exact ih
    · simp (disch := omega) only [bd, iI_add, iI_sub, iI_mul, iI_neg, gq_inb, gq_T, iflt_p, iflt_n, ifle_p, ifle_n, ifeq_p, ifeq_n, iI_ix, Option.bind_some, bq_some, up_get, up_snd, if_true, if_false, ofN_iI, Int.cast_ofNat_Int, X12_standing_2, kd_49, pr_49_0, pr_49_1, pr_49_2, pr_49_3, pr_49_4, pr_49_6, pr_49_17, pr_49_18, pr_49_19, pr_49_20, pr_49_21, pr_49_22, pr_49_23, pr_49_24, pr_49_25, pr_49_26, pr_49_27, pr_49_28, pr_49_29, pr_49_30, pr_49_31, pr_49_32, pr_49_33, pr_49_41, pr_49_42, pr_49_43, pr_49_44, pr_49_45, pr_49_46, pr_49_47, pr_49_48, pr_49_49, kd_53, kd_50, hP, Int.toNat_natCast, e, t, el, ez, if_neg c, lit_0, tn_0, lit_1, tn_1]
theorem rstd_s {s : Nat} (hF : 1000 ≤ F) (hs : s < 2) (C : RQ sw h M st N) : X12_standing F 49 (iI s) h = some (iI (std M st N s)) := by
  have hM := C.2.2.2.1.1 s
  exact rstd_L hF hs C (M s) 0 F (by omega) (by omega)
theorem rleft_s {s : Nat} (hF : 1000 ≤ F) (hs : s < 2) (C : RQ sw h M st N) : X12_leftToBuild F 49 (iI s) h = some (iI (M s - std M st N s)) := by
  have k := rstd_s hF hs C
  obtain ⟨hP, hR, hN, hO, hON⟩ := C
  have e := rM hs hR
  unfold X12_leftToBuild
  simp (disch := omega) only [bd, iI_add, iI_sub, iI_mul, iI_neg, gq_inb, gq_T, iflt_p, iflt_n, ifle_p, ifle_n, ifeq_p, ifeq_n, iI_ix, Option.bind_some, bq_some, up_get, up_snd, if_true, if_false, ofN_iI, Int.cast_ofNat_Int, X12_leftToBuild, kd_49, pr_49_0, pr_49_1, pr_49_2, pr_49_3, pr_49_4, pr_49_6, pr_49_17, pr_49_18, pr_49_19, pr_49_20, pr_49_21, pr_49_22, pr_49_23, pr_49_24, pr_49_25, pr_49_26, pr_49_27, pr_49_28, pr_49_29, pr_49_30, pr_49_31, pr_49_32, pr_49_33, pr_49_41, pr_49_42, pr_49_43, pr_49_44, pr_49_45, pr_49_46, pr_49_47, pr_49_48, pr_49_49, kd_53, hP, Int.toNat_natCast, e, k]
theorem rneeds_s {s : Nat} (hF : 1000 ≤ F) (hs : s < 2) (C : RQ sw h M st N) : X12_nextNeeds F 49 (iI s) h = some (iI (lck M st N s)) := by
  have k := rstd_s hF hs C
  have l := rleft_s hF hs C
  have ks := @std_le M st N s
  have hM := C.2.2.2.1.1 s
  have el := C.2.2.1 s (by omega)
  have ez : (0 + (s : Int)).toNat = s := by omega
  unfold X12_nextNeeds lck
  by_cases c : std M st N s < M s
  · have t := rstones_s (m := std M st N s + 1) hF hs (by omega) C
    replace t : X12_stonesTo F 49 (iI s) (iI (std M st N s + 1)) h = _ := t
    obtain ⟨hP, hR, hN, hO, hON⟩ := C
    simp (disch := omega) only [bd, iI_add, iI_sub, iI_mul, iI_neg, gq_inb, gq_T, iflt_p, iflt_n, ifle_p, ifle_n, ifeq_p, ifeq_n, iI_ix, Option.bind_some, bq_some, up_get, up_snd, if_true, if_false, ofN_iI, Int.cast_ofNat_Int, X12_nextNeeds, kd_49, pr_49_0, pr_49_1, pr_49_2, pr_49_3, pr_49_4, pr_49_6, pr_49_17, pr_49_18, pr_49_19, pr_49_20, pr_49_21, pr_49_22, pr_49_23, pr_49_24, pr_49_25, pr_49_26, pr_49_27, pr_49_28, pr_49_29, pr_49_30, pr_49_31, pr_49_32, pr_49_33, pr_49_41, pr_49_42, pr_49_43, pr_49_44, pr_49_45, pr_49_46, pr_49_47, pr_49_48, pr_49_49, kd_50, hP, l, k, t, el, ez, if_pos c, lit_0, tn_0, lit_1, tn_1]
  · obtain ⟨hP, hR, hN, hO, hON⟩ := C
    simp (disch := omega) only [bd, iI_add, iI_sub, iI_mul, iI_neg, gq_inb, gq_T, iflt_p, iflt_n, ifle_p, ifle_n, ifeq_p, ifeq_n, iI_ix, Option.bind_some, bq_some, up_get, up_snd, if_true, if_false, ofN_iI, Int.cast_ofNat_Int, X12_nextNeeds, kd_49, pr_49_0, pr_49_1, pr_49_2, pr_49_3, pr_49_4, pr_49_6, pr_49_17, pr_49_18, pr_49_19, pr_49_20, pr_49_21, pr_49_22, pr_49_23, pr_49_24, pr_49_25, pr_49_26, pr_49_27, pr_49_28, pr_49_29, pr_49_30, pr_49_31, pr_49_32, pr_49_33, pr_49_41, pr_49_42, pr_49_43, pr_49_44, pr_49_45, pr_49_46, pr_49_47, pr_49_48, pr_49_49, kd_50, hP, l, k, if_neg c, lit_0, tn_0, lit_1, tn_1]
theorem rtouch_s {s : Nat} (hF : 1000 ≤ F) (hs : s < 2) (C : RQ sw h M st N) : X12_touchesNow F 49 (iI s) h = some (iI (rch M st N s)) := by
  have l := rleft_s hF hs C
  have ks := @std_le M st N s
  obtain ⟨hP, hR, hN, hO, hON⟩ := C
  have hM := hO.1 s
  have e := rM hs hR
  unfold X12_touchesNow rch
  by_cases c : M s = 0
  · simp (disch := omega) only [bd, iI_add, iI_sub, iI_mul, iI_neg, gq_inb, gq_T, iflt_p, iflt_n, ifle_p, ifle_n, ifeq_p, ifeq_n, iI_ix, Option.bind_some, bq_some, up_get, up_snd, if_true, if_false, ofN_iI, Int.cast_ofNat_Int, X12_touchesNow, kd_49, pr_49_0, pr_49_1, pr_49_2, pr_49_3, pr_49_4, pr_49_6, pr_49_17, pr_49_18, pr_49_19, pr_49_20, pr_49_21, pr_49_22, pr_49_23, pr_49_24, pr_49_25, pr_49_26, pr_49_27, pr_49_28, pr_49_29, pr_49_30, pr_49_31, pr_49_32, pr_49_33, pr_49_41, pr_49_42, pr_49_43, pr_49_44, pr_49_45, pr_49_46, pr_49_47, pr_49_48, pr_49_49, kd_53, hP, Int.toNat_natCast, e, if_neg (show ¬ (0 < M s ∧ std M st N s = M s) by omega), lit_0, tn_0, lit_1, tn_1]
  · by_cases c2 : std M st N s = M s
    · simp (disch := omega) only [bd, iI_add, iI_sub, iI_mul, iI_neg, gq_inb, gq_T, iflt_p, iflt_n, ifle_p, ifle_n, ifeq_p, ifeq_n, iI_ix, Option.bind_some, bq_some, up_get, up_snd, if_true, if_false, ofN_iI, Int.cast_ofNat_Int, X12_touchesNow, kd_49, pr_49_0, pr_49_1, pr_49_2, pr_49_3, pr_49_4, pr_49_6, pr_49_17, pr_49_18, pr_49_19, pr_49_20, pr_49_21, pr_49_22, pr_49_23, pr_49_24, pr_49_25, pr_49_26, pr_49_27, pr_49_28, pr_49_29, pr_49_30, pr_49_31, pr_49_32, pr_49_33, pr_49_41, pr_49_42, pr_49_43, pr_49_44, pr_49_45, pr_49_46, pr_49_47, pr_49_48, pr_49_49, kd_53, hP, Int.toNat_natCast, e, l, if_pos (show 0 < M s ∧ std M st N s = M s by omega), lit_0, tn_0, lit_1, tn_1]
    · simp (disch := omega) only [bd, iI_add, iI_sub, iI_mul, iI_neg, gq_inb, gq_T, iflt_p, iflt_n, ifle_p, ifle_n, ifeq_p, ifeq_n, iI_ix, Option.bind_some, bq_some, up_get, up_snd, if_true, if_false, ofN_iI, Int.cast_ofNat_Int, X12_touchesNow, kd_49, pr_49_0, pr_49_1, pr_49_2, pr_49_3, pr_49_4, pr_49_6, pr_49_17, pr_49_18, pr_49_19, pr_49_20, pr_49_21, pr_49_22, pr_49_23, pr_49_24, pr_49_25, pr_49_26, pr_49_27, pr_49_28, pr_49_29, pr_49_30, pr_49_31, pr_49_32, pr_49_33, pr_49_41, pr_49_42, pr_49_43, pr_49_44, pr_49_45, pr_49_46, pr_49_47, pr_49_48, pr_49_49, kd_53, hP, Int.toNat_natCast, e, l, if_neg (show ¬ (0 < M s ∧ std M st N s = M s) by omega), lit_0, tn_0, lit_1, tn_1]
theorem rweight_L {s : Nat} (hF : 1000 ≤ F) (hs : s < 2) (C : RQ sw h M st N) : ∀ (n i f : Nat), i + n = std M st N s → n < f → X12_weightOf_4 F f 49 (iI s) (iI (wg st N s i)) (iI i) h = some (iI (wgt M st N s))
  | n, i, 0, _, hf => absurd hf (Nat.not_lt_zero _)
  | 0, i, f + 1, hi, hf => by
    have k := rstd_s hF hs C
    have ks := @std_le M st N s
    have hM := C.2.2.2.1.1 s
    have e : i = std M st N s := by omega
    obtain ⟨hP, hR, hN, hO, hON⟩ := C
    unfold X12_weightOf_4 wgt
    simp (disch := omega) only [bd, iI_add, iI_sub, iI_mul, iI_neg, gq_inb, gq_T, iflt_p, iflt_n, ifle_p, ifle_n, ifeq_p, ifeq_n, iI_ix, Option.bind_some, bq_some, up_get, up_snd, if_true, if_false, ofN_iI, Int.cast_ofNat_Int, X12_weightOf_4, kd_49, pr_49_0, pr_49_1, pr_49_2, pr_49_3, pr_49_4, pr_49_6, pr_49_17, pr_49_18, pr_49_19, pr_49_20, pr_49_21, pr_49_22, pr_49_23, pr_49_24, pr_49_25, pr_49_26, pr_49_27, pr_49_28, pr_49_29, pr_49_30, pr_49_31, pr_49_32, pr_49_33, pr_49_41, pr_49_42, pr_49_43, pr_49_44, pr_49_45, pr_49_46, pr_49_47, pr_49_48, pr_49_49, hP, k, lit_1, tn_1, lit_2, tn_2, lit_20, tn_20]
    rw [e]
  | n + 1, i, f + 1, hi, hf => by
    have ih := rweight_L hF hs C n (i + 1) f (by omega) (by omega)
    have k := rstd_s hF hs C
    have ks := @std_le M st N s
    obtain ⟨hP, hR, hN, hO, hON⟩ := C
    have hM := hO.1 s
    have e := hR.2.2 s i hs (by omega)
    have en := hN (2 + (20 * s + i)) (by omega)
    have et : (20 * (s : Int) + i).toNat = 20 * s + i := by omega
    have eu : (2 + 20 * (s : Int) + i).toNat = 2 + (20 * s + i) := by omega
    replace ih : X12_weightOf_4 F f 49 (iI s) (iI (wg st N s i + (i + 1) * (st (20 * s + i) + N (2 + (20 * s + i))))) (iI (i + 1)) h = _ := ih
    unfold X12_weightOf_4
    simp (disch := omega) only [bd, iI_add, iI_sub, iI_mul, iI_neg, gq_inb, gq_T, iflt_p, iflt_n, ifle_p, ifle_n, ifeq_p, ifeq_n, iI_ix, Option.bind_some, bq_some, up_get, up_snd, if_true, if_false, ofN_iI, Int.cast_ofNat_Int, X12_weightOf_4, kd_49, pr_49_0, pr_49_1, pr_49_2, pr_49_3, pr_49_4, pr_49_6, pr_49_17, pr_49_18, pr_49_19, pr_49_20, pr_49_21, pr_49_22, pr_49_23, pr_49_24, pr_49_25, pr_49_26, pr_49_27, pr_49_28, pr_49_29, pr_49_30, pr_49_31, pr_49_32, pr_49_33, pr_49_41, pr_49_42, pr_49_43, pr_49_44, pr_49_45, pr_49_46, pr_49_47, pr_49_48, pr_49_49, kd_50, kd_54, hP, k, et, eu, e, en, lit_1, tn_1, lit_2, tn_2, lit_20, tn_20]
    exact ih
theorem rweight_s {s : Nat} (hF : 1000 ≤ F) (hs : s < 2) (C : RQ sw h M st N) : X12_weightOf F 49 (iI s) h = some (iI (wgt M st N s)) := by
  have ks := @std_le M st N s
  have hM := C.2.2.2.1.1 s
  exact rweight_L hF hs C (std M st N s) 0 F (by omega) (by omega)
theorem rtilt_s (hF : 1000 ≤ F) (C : RQ sw h M st N) : X12_tiltNow F 49 h = some (iI ((wgt M st N 0 - wgt M st N 1).natAbs : Int)) := by
  have a : X12_weightOf F 49 (iI 0) h = _ := rweight_s (s := 0) hF (by omega) C
  have b : X12_weightOf F 49 (iI 1) h = _ := rweight_s (s := 1) hF (by omega) C
  have ba := wgt_b C.2.2.2.1 C.2.2.2.2 (s := 0) (by omega)
  have bb := wgt_b C.2.2.2.1 C.2.2.2.2 (s := 1) (by omega)
  have z := xsize_s (F := F) (a := wgt M st N 0 - wgt M st N 1) (h := h) (by omega)
  unfold X12_tiltNow
  simp (disch := omega) only [bd, iI_add, iI_sub, iI_mul, iI_neg, gq_inb, gq_T, iflt_p, iflt_n, ifle_p, ifle_n, ifeq_p, ifeq_n, iI_ix, Option.bind_some, bq_some, up_get, up_snd, if_true, if_false, ofN_iI, Int.cast_ofNat_Int, X12_tiltNow, kd_49, pr_49_0, pr_49_1, pr_49_2, pr_49_3, pr_49_4, pr_49_6, pr_49_17, pr_49_18, pr_49_19, pr_49_20, pr_49_21, pr_49_22, pr_49_23, pr_49_24, pr_49_25, pr_49_26, pr_49_27, pr_49_28, pr_49_29, pr_49_30, pr_49_31, pr_49_32, pr_49_33, pr_49_41, pr_49_42, pr_49_43, pr_49_44, pr_49_45, pr_49_46, pr_49_47, pr_49_48, pr_49_49, a, b, z, lit_0, tn_0, lit_1, tn_1]
end rf
