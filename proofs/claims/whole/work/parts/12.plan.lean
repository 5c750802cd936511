/-! plans, arches that stand, weights: both sides -/
def stnd (S : Nat → Int) (l : Int) : Nat → Nat → Nat
  | k, 0 => k
  | k, n + 1 => if S (k + 1) ≤ l then stnd S l (k + 1) n else k
theorem stnd_le {S : Nat → Int} {l : Int} : ∀ (n k : Nat), k ≤ stnd S l k n ∧ stnd S l k n ≤ k + n
  | 0, k => ⟨Nat.le_refl _, Nat.le_refl _⟩
  | n + 1, k => by
    unfold stnd
    have := stnd_le (S := S) (l := l) n (k + 1)
    split <;> omega
/-- stones of the first arches of side s -/
def SS (st : Nat → Int) (s : Nat) : Nat → Int
  | 0 => 0
  | i + 1 => SS st s i + st (20 * s + i)
def OKP (M : Nat → Nat) (st : Nat → Int) : Prop := (∀ s, M s ≤ 20) ∧ (∀ j, 0 ≤ st j ∧ st j ≤ 255) ∧ ∀ s i, i < M s → s < 2 → 1 ≤ st (20 * s + i)
def OKN (N : Nat → Int) : Prop := (∀ s, s < 2 → 0 ≤ N s ∧ N s ≤ 9999) ∧ (∀ i, i < 40 → 0 ≤ N (2 + i) ∧ N (2 + i) ≤ 255) ∧ (0 ≤ N 42 ∧ N 42 ≤ 99999) ∧ (0 ≤ N 43 ∧ N 43 ≤ 999999) ∧ (0 ≤ N 44 ∧ N 44 ≤ 9999) ∧ (0 ≤ N 45 ∧ N 45 ≤ N 44) ∧ (0 ≤ N 46 ∧ N 46 ≤ 65535)
theorem SS_b {st : Nat → Int} (h : ∀ j, 0 ≤ st j ∧ st j ≤ 255) (s : Nat) : ∀ i : Nat, 0 ≤ SS st s i ∧ SS st s i ≤ 255 * i
  | 0 => ⟨Int.le_refl _, Int.le_refl _⟩
  | i + 1 => by
    have h1 := SS_b h s i
    have h2 := h (20 * s + i)
    unfold SS
    omega
theorem SS_s {st : Nat → Int} {s i : Nat} : SS st s (i + 1) = SS st s i + st (20 * s + i) := rfl
def CP (h : Hp) (M : Nat → Nat) (st : Nat → Int) : Prop := h.1 21 1 = iI (M 0) ∧ h.1 23 1 = iI (M 1) ∧ (∀ i : Nat, i ≤ M 0 → h.1 22 i = iI (SS st 0 i)) ∧ (∀ i : Nat, i ≤ M 1 → h.1 24 i = iI (SS st 1 i))
def CN (o b : Nat) (h : Hp) (N : Nat → Int) : Prop := h.1 o 0 = iI (N 0) ∧ h.1 o 1 = iI (N 1) ∧ (∀ i : Nat, i < 40 → h.1 b i = iI (N (2 + i))) ∧ h.1 o 3 = iI (N 42) ∧ h.1 o 4 = iI (N 43) ∧ h.1 o 5 = iI (N 44) ∧ h.1 o 6 = iI (N 45) ∧ h.1 o 7 = iI (N 46)
def RP (h : Hp) (M : Nat → Nat) (st : Nat → Int) : Prop := h.1 53 0 = iI (M 0) ∧ h.1 53 1 = iI (M 1) ∧ ∀ s i : Nat, s < 2 → i < M s → h.1 54 (20 * s + i) = iI (st (20 * s + i))
def RN (r : Nat) (h : Hp) (N : Nat → Int) : Prop := ∀ i : Nat, i < 47 → h.1 r i = iI (N i)
/-- what the class has of plans and of the state now -/
def CQ (sw : Bool) (h : Hp) (M : Nat → Nat) (st N : Nat → Int) : Prop := h.2 = pr sw ∧ CP h M st ∧ CN 25 26 h N ∧ OKP M st ∧ OKN N
def RQ (sw : Bool) (h : Hp) (M : Nat → Nat) (st N : Nat → Int) : Prop := h.2 = pr sw ∧ RP h M st ∧ RN 50 h N ∧ OKP M st ∧ OKN N
def std (M : Nat → Nat) (st N : Nat → Int) (s : Nat) : Nat := stnd (SS st s) (N s) 0 (M s)
theorem std_le {M : Nat → Nat} {st N : Nat → Int} {s : Nat} : std M st N s ≤ M s := by
  have := (stnd_le (S := SS st s) (l := N s) (M s) 0).2
  unfold std
  omega
theorem stBy (F : Nat) {a q : Nat} {h : Hp} {S : Nat → Int} {m : Nat} {l : Int} (hk1 : kd a = (0, 4)) (hk2 : kd q = (1, 21)) (hr : h.2 a 0 = some q) (hM : h.1 a 1 = iI m) (hm : m ≤ 20) (hS : ∀ i : Nat, i ≤ m → h.1 q i = iI (S i)) (hSb : ∀ i, i ≤ m → 0 ≤ S i ∧ S i ≤ 100000) (hl : 0 ≤ l ∧ l ≤ 100000) :
    ∀ (n k f : Nat), k + n = m → n < f → X5_standingBy_2 F f a (iI l) (iI (k + 1)) h = some (iI (stnd S l k n))
  | n, k, 0, _, hf => absurd hf (Nat.not_lt_zero _)
  | 0, k, f + 1, hk, hf => by
    have hk' : m = k := by omega
    subst hk'
    unfold X5_standingBy_2 X5_standingBy_39 stnd
    simp (disch := omega) only [bd, iI_add, iI_sub, iI_mul, iI_neg, gq_inb, gq_T, iflt_p, iflt_n, ifle_p, ifle_n, ifeq_p, ifeq_n, iI_ix, Option.bind_some, bq_some, up_get, up_snd, if_true, if_false, ofN_iI, Int.cast_ofNat_Int, X5_standingBy_2, hk1, hM, lit_1, tn_1]
  | n + 1, k, f + 1, hk, hf => by
    have ih := stBy F hk1 hk2 hr hM hm hS hSb hl n (k + 1) f (by omega) (by omega)
    have e := hS (k + 1) (by omega)
    have eb := hSb (k + 1) (by omega)
    have et : ((k : Int) + 1).toNat = k + 1 := by omega
    unfold X5_standingBy_2 stnd
    by_cases c : S (k + 1) ≤ l
    · simp (disch := omega) only [bd, iI_add, iI_sub, iI_mul, iI_neg, gq_inb, gq_T, iflt_p, iflt_n, ifle_p, ifle_n, ifeq_p, ifeq_n, iI_ix, Option.bind_some, bq_some, up_get, up_snd, if_true, if_false, ofN_iI, Int.cast_ofNat_Int, X5_standingBy_2, hk1, hM, hr, hk2, et, e, if_pos c, lit_1, tn_1]
      exact ih
    · simp (disch := omega) only [bd, iI_add, iI_sub, iI_mul, iI_neg, gq_inb, gq_T, iflt_p, iflt_n, ifle_p, ifle_n, ifeq_p, ifeq_n, iI_ix, Option.bind_some, bq_some, up_get, up_snd, if_true, if_false, ofN_iI, Int.cast_ofNat_Int, X5_standingBy_2, hk1, hM, hr, hk2, et, e, if_neg c, lit_1, tn_1]
      congr 2
      omega
section cl
variable {F : Nat} {sw : Bool} {h : Hp} {M : Nat → Nat} {st N : Nat → Int}
theorem built_0 (hP : h.2 = pr sw) : X10_built F 20 (iI 0) h = some 21 := by
  unfold X10_built
  simp (disch := omega) only [bd, iI_add, iI_sub, iI_mul, iI_neg, gq_inb, gq_T, iflt_p, iflt_n, ifle_p, ifle_n, ifeq_p, ifeq_n, iI_ix, Option.bind_some, bq_some, up_get, up_snd, if_true, if_false, ofN_iI, Int.cast_ofNat_Int, X10_built, kd_20, pr_20_0, pr_20_1, pr_20_2, pr_20_3, pr_20_4, hP, lit_0, tn_0]
theorem built_1 (hP : h.2 = pr sw) : X10_built F 20 (iI 1) h = some 23 := by
  unfold X10_built
  simp (disch := omega) only [bd, iI_add, iI_sub, iI_mul, iI_neg, gq_inb, gq_T, iflt_p, iflt_n, ifle_p, ifle_n, ifeq_p, ifeq_n, iI_ix, Option.bind_some, bq_some, up_get, up_snd, if_true, if_false, ofN_iI, Int.cast_ofNat_Int, X10_built, kd_20, pr_20_0, pr_20_1, pr_20_2, pr_20_3, pr_20_4, hP, lit_0, tn_0]
theorem laidOn_s {s : Nat} (hs : s < 2) (C : CN 25 26 h N) : X8_laidOn F 25 (iI s) h = some (iI (N s)) := by
  unfold X8_laidOn
  rcases (show s = 0 ∨ s = 1 by omega) with rfl | rfl
  · simp (disch := omega) only [bd, iI_add, iI_sub, iI_mul, iI_neg, gq_inb, gq_T, iflt_p, iflt_n, ifle_p, ifle_n, ifeq_p, ifeq_n, iI_ix, Option.bind_some, bq_some, up_get, up_snd, if_true, if_false, ofN_iI, Int.cast_ofNat_Int, X8_laidOn, kd_25, pr_25_2, C.1, lit_0, tn_0]
  · simp (disch := omega) only [bd, iI_add, iI_sub, iI_mul, iI_neg, gq_inb, gq_T, iflt_p, iflt_n, ifle_p, ifle_n, ifeq_p, ifeq_n, iI_ix, Option.bind_some, bq_some, up_get, up_snd, if_true, if_false, ofN_iI, Int.cast_ofNat_Int, X8_laidOn, kd_25, pr_25_2, C.2.1, lit_0, tn_0]

theorem std_s {s : Nat} (hF : 1000 ≤ F) (hs : s < 2) (C : CQ sw h M st N) : X10_standing F 20 (iI s) h = some (iI (std M st N s)) := by
  obtain ⟨hP, hC, hN, hO, hON⟩ := C
  have l := laidOn_s (F := F) hs hN
  have b := hON.1 s hs
  have hm := hO.1 s
  have hSb : ∀ i, i ≤ M s → 0 ≤ SS st s i ∧ SS st s i ≤ 100000 := fun i hi => by
    have := SS_b hO.2.1 s i
    omega
  rcases (show s = 0 ∨ s = 1 by omega) with rfl | rfl
  · replace l : X8_laidOn F 25 (iI 0) h = some (iI (N 0)) := l
    have k : X5_standingBy_2 F F 21 (iI (N 0)) (iI 1) h = some (iI (std M st N 0)) := stBy F (a := 21) (q := 22) (l := N 0) rfl rfl (by rw [hP]; rfl) hC.1 hm hC.2.2.1 hSb (by omega) (M 0) 0 F (by omega) (by omega)
    unfold X10_standing X5_standingBy
    simp (disch := omega) only [bd, iI_add, iI_sub, iI_mul, iI_neg, gq_inb, gq_T, iflt_p, iflt_n, ifle_p, ifle_n, ifeq_p, ifeq_n, iI_ix, Option.bind_some, bq_some, up_get, up_snd, if_true, if_false, ofN_iI, Int.cast_ofNat_Int, X5_standingBy, kd_20, pr_20_0, pr_20_1, pr_20_2, pr_20_3, pr_20_4, kd_21, pr_21_0, kd_25, pr_25_2, hP, built_0 hP, l, k, lit_1, tn_1]
  · replace l : X8_laidOn F 25 (iI 1) h = some (iI (N 1)) := l
    have k : X5_standingBy_2 F F 23 (iI (N 1)) (iI 1) h = some (iI (std M st N 1)) := stBy F (a := 23) (q := 24) (l := N 1) rfl rfl (by rw [hP]; rfl) hC.2.1 hm hC.2.2.2 hSb (by omega) (M 1) 0 F (by omega) (by omega)
    unfold X10_standing X5_standingBy
    simp (disch := omega) only [bd, iI_add, iI_sub, iI_mul, iI_neg, gq_inb, gq_T, iflt_p, iflt_n, ifle_p, ifle_n, ifeq_p, ifeq_n, iI_ix, Option.bind_some, bq_some, up_get, up_snd, if_true, if_false, ofN_iI, Int.cast_ofNat_Int, X5_standingBy, kd_20, pr_20_0, pr_20_1, pr_20_2, pr_20_3, pr_20_4, kd_23, pr_23_0, kd_25, pr_25_2, hP, built_1 hP, l, k, lit_1, tn_1]
theorem toBuild_s {s : Nat} (hF : 1000 ≤ F) (hs : s < 2) (C : CQ sw h M st N) : X10_toBuild F 20 (iI s) h = some (iI (M s - std M st N s)) := by
  have k := std_s hF hs C
  obtain ⟨hP, hC, hN, hO, hON⟩ := C
  unfold X10_toBuild
  rcases (show s = 0 ∨ s = 1 by omega) with rfl | rfl
  · replace k : X10_standing F 20 (iI 0) h = some (iI (std M st N 0)) := k
    simp (disch := omega) only [bd, iI_add, iI_sub, iI_mul, iI_neg, gq_inb, gq_T, iflt_p, iflt_n, ifle_p, ifle_n, ifeq_p, ifeq_n, iI_ix, Option.bind_some, bq_some, up_get, up_snd, if_true, if_false, ofN_iI, Int.cast_ofNat_Int, kd_20, pr_20_0, pr_20_1, pr_20_2, pr_20_3, pr_20_4, kd_21, pr_21_0, built_0 hP, hC.1, k]
  · replace k : X10_standing F 20 (iI 1) h = some (iI (std M st N 1)) := k
    simp (disch := omega) only [bd, iI_add, iI_sub, iI_mul, iI_neg, gq_inb, gq_T, iflt_p, iflt_n, ifle_p, ifle_n, ifeq_p, ifeq_n, iI_ix, Option.bind_some, bq_some, up_get, up_snd, if_true, if_false, ofN_iI, Int.cast_ofNat_Int, kd_20, pr_20_0, pr_20_1, pr_20_2, pr_20_3, pr_20_4, kd_23, pr_23_0, built_1 hP, hC.2.1, k]
def rch (M : Nat → Nat) (st N : Nat → Int) (s : Nat) : Int := if 0 < M s ∧ std M st N s = M s then 1 else 0
theorem reached_s {s : Nat} (hF : 1000 ≤ F) (hs : s < 2) (C : CQ sw h M st N) : X10_reached F 20 (iI s) h = some (iI (rch M st N s)) := by
  have k := std_s hF hs C
  have ks := @std_le M st N s
  obtain ⟨hP, hC, hN, hO, hON⟩ := C
  have hm := hO.1 s
  have K : ∀ m : Nat, m = M s → (if iI m ≤ iI 0 then some (iI 0) else (X10_standing F 20 (iI s) h).bind fun c_7 => if c_7 = iI m then some (iI 1) else some (iI 0)) = some (iI (rch M st N s)) := by
    intro m hmm
    subst hmm
    unfold rch
    by_cases c : M s = 0
    · rw [ifle_p (by omega) (by omega), if_neg (by omega)]
    · rw [ifle_n (by omega) (by omega), k, Option.bind_some]
      by_cases c2 : std M st N s = M s
      · rw [ifeq_p (by omega), if_pos (by omega)]
      · rw [ifeq_n (by omega) (by omega) (by omega), if_neg (by omega)]
  unfold X10_reached
  rcases (show s = 0 ∨ s = 1 by omega) with rfl | rfl
  · have K := K _ rfl
    simp (disch := omega) only [bd, iI_add, iI_sub, iI_mul, iI_neg, gq_inb, gq_T, iflt_p, iflt_n, ifle_p, ifle_n, ifeq_p, ifeq_n, iI_ix, Option.bind_some, bq_some, up_get, up_snd, if_true, if_false, ofN_iI, Int.cast_ofNat_Int, X10_reached, kd_20, pr_20_0, pr_20_1, pr_20_2, pr_20_3, pr_20_4, kd_21, pr_21_0, built_0 hP, hC.1, lit_0, tn_0, lit_1, tn_1]
    exact K
  · have K := K _ rfl
    simp (disch := omega) only [bd, iI_add, iI_sub, iI_mul, iI_neg, gq_inb, gq_T, iflt_p, iflt_n, ifle_p, ifle_n, ifeq_p, ifeq_n, iI_ix, Option.bind_some, bq_some, up_get, up_snd, if_true, if_false, ofN_iI, Int.cast_ofNat_Int, X10_reached, kd_20, pr_20_0, pr_20_1, pr_20_2, pr_20_3, pr_20_4, kd_23, pr_23_0, built_1 hP, hC.2.1, lit_0, tn_0, lit_1, tn_1]
    exact K
theorem upTo_0 {z : Int} (hP : h.2 = pr sw) (hC : CP h M st) (hz : 0 ≤ z ∧ z ≤ M 0) (hm : M 0 ≤ 20) : X5_stonesUpTo F 21 (iI z) h = some (iI (SS st 0 z.toNat)) := by
  unfold X5_stonesUpTo
  simp (disch := omega) only [bd, iI_add, iI_sub, iI_mul, iI_neg, gq_inb, gq_T, iflt_p, iflt_n, ifle_p, ifle_n, ifeq_p, ifeq_n, iI_ix, Option.bind_some, bq_some, up_get, up_snd, if_true, if_false, ofN_iI, Int.cast_ofNat_Int, X5_stonesUpTo, kd_21, pr_21_0, kd_22, gt22, pt22, hP]
  rw [hC.2.2.1 _ (by omega)]
theorem upTo_1 {z : Int} (hP : h.2 = pr sw) (hC : CP h M st) (hz : 0 ≤ z ∧ z ≤ M 1) (hm : M 1 ≤ 20) : X5_stonesUpTo F 23 (iI z) h = some (iI (SS st 1 z.toNat)) := by
  unfold X5_stonesUpTo
  simp (disch := omega) only [bd, iI_add, iI_sub, iI_mul, iI_neg, gq_inb, gq_T, iflt_p, iflt_n, ifle_p, ifle_n, ifeq_p, ifeq_n, iI_ix, Option.bind_some, bq_some, up_get, up_snd, if_true, if_false, ofN_iI, Int.cast_ofNat_Int, X5_stonesUpTo, kd_23, pr_23_0, kd_24, gt24, pt24, hP]
  rw [hC.2.2.2 _ (by omega)]
theorem whole_0 (hP : h.2 = pr sw) (hC : CP h M st) (hm : M 0 ≤ 20) : X5_whole F 21 h = some (iI (SS st 0 (M 0))) := by
  unfold X5_whole
  simp (disch := omega) only [bd, iI_add, iI_sub, iI_mul, iI_neg, gq_inb, gq_T, iflt_p, iflt_n, ifle_p, ifle_n, ifeq_p, ifeq_n, iI_ix, Option.bind_some, bq_some, up_get, up_snd, if_true, if_false, ofN_iI, Int.cast_ofNat_Int, X5_whole, kd_21, pr_21_0, kd_22, gt22, pt22, hP, hC.1]
  rw [show ((M 0 : Nat) : Int).toNat = M 0 by omega, hC.2.2.1 _ (by omega)]
theorem whole_1 (hP : h.2 = pr sw) (hC : CP h M st) (hm : M 1 ≤ 20) : X5_whole F 23 h = some (iI (SS st 1 (M 1))) := by
  unfold X5_whole
  simp (disch := omega) only [bd, iI_add, iI_sub, iI_mul, iI_neg, gq_inb, gq_T, iflt_p, iflt_n, ifle_p, ifle_n, ifeq_p, ifeq_n, iI_ix, Option.bind_some, bq_some, up_get, up_snd, if_true, if_false, ofN_iI, Int.cast_ofNat_Int, X5_whole, kd_23, pr_23_0, kd_24, gt24, pt24, hP, hC.2.1]
  rw [show ((M 1 : Nat) : Int).toNat = M 1 by omega, hC.2.2.2 _ (by omega)]
theorem stOf_0 {i : Nat} (hP : h.2 = pr sw) (hC : CP h M st) (hi : i < M 0) (hm : M 0 ≤ 20) : X5_stonesOf F 21 (iI (i + 1)) h = some (iI (st i)) := by
  unfold X5_stonesOf
  simp (disch := omega) only [bd, iI_add, iI_sub, iI_mul, iI_neg, gq_inb, gq_T, iflt_p, iflt_n, ifle_p, ifle_n, ifeq_p, ifeq_n, iI_ix, Option.bind_some, bq_some, up_get, up_snd, if_true, if_false, ofN_iI, Int.cast_ofNat_Int, X5_stonesOf, kd_21, pr_21_0, kd_22, gt22, pt22, hP, lit_1, tn_1]
  rw [show ((i : Int) + 1).toNat = i + 1 by omega, show ((i : Int) + 1 - 1).toNat = i by omega, hC.2.2.1 _ (by omega), hC.2.2.1 _ (by omega), iI_sub]
  congr 2
  rw [SS_s]
  simp
  omega
theorem stOf_1 {i : Nat} (hP : h.2 = pr sw) (hC : CP h M st) (hi : i < M 1) (hm : M 1 ≤ 20) : X5_stonesOf F 23 (iI (i + 1)) h = some (iI (st (20 + i))) := by
  unfold X5_stonesOf
  simp (disch := omega) only [bd, iI_add, iI_sub, iI_mul, iI_neg, gq_inb, gq_T, iflt_p, iflt_n, ifle_p, ifle_n, ifeq_p, ifeq_n, iI_ix, Option.bind_some, bq_some, up_get, up_snd, if_true, if_false, ofN_iI, Int.cast_ofNat_Int, X5_stonesOf, kd_23, pr_23_0, kd_24, gt24, pt24, hP, lit_1, tn_1]
  rw [show ((i : Int) + 1).toNat = i + 1 by omega, show ((i : Int) + 1 - 1).toNat = i by omega, hC.2.2.2 _ (by omega), hC.2.2.2 _ (by omega), iI_sub]
  congr 2
  rw [SS_s]
  simp
  omega
def lck (M : Nat → Nat) (st N : Nat → Int) (s : Nat) : Int := if std M st N s < M s then SS st s (std M st N s + 1) - N s else 0
theorem lacking_s {s : Nat} (hF : 1000 ≤ F) (hs : s < 2) (C : CQ sw h M st N) : X10_lacking F 20 (iI s) h = some (iI (lck M st N s)) := by
  have k := std_s hF hs C
  have ks := @std_le M st N s
  obtain ⟨hP, hC, hN, hO, hON⟩ := C
  have hm := hO.1 s
  have l := laidOn_s (F := F) hs hN
  unfold X10_lacking lck
  rcases (show s = 0 ∨ s = 1 by omega) with rfl | rfl
  · replace k : X10_standing F 20 (iI 0) h = some (iI (std M st N 0)) := k
    replace l : X8_laidOn F 25 (iI 0) h = some (iI (N 0)) := l
    rw [show (((0 : Nat) : Int)) = 0 from rfl, k]
    by_cases c : std M st N 0 < M 0
    · have u := upTo_0 (F := F) (z := std M st N 0 + 1) hP hC (by omega) hm
      simp (disch := omega) only [bd, iI_add, iI_sub, iI_mul, iI_neg, gq_inb, gq_T, iflt_p, iflt_n, ifle_p, ifle_n, ifeq_p, ifeq_n, iI_ix, Option.bind_some, bq_some, up_get, up_snd, if_true, if_false, ofN_iI, Int.cast_ofNat_Int, X10_lacking, kd_20, pr_20_0, pr_20_1, pr_20_2, pr_20_3, pr_20_4, kd_21, pr_21_0, kd_25, pr_25_2, hP, built_0 hP, hC.1, u, l, if_pos c, lit_0, tn_0, lit_1, tn_1]
      congr 3
    · simp (disch := omega) only [bd, iI_add, iI_sub, iI_mul, iI_neg, gq_inb, gq_T, iflt_p, iflt_n, ifle_p, ifle_n, ifeq_p, ifeq_n, iI_ix, Option.bind_some, bq_some, up_get, up_snd, if_true, if_false, ofN_iI, Int.cast_ofNat_Int, X10_lacking, kd_20, pr_20_0, pr_20_1, pr_20_2, pr_20_3, pr_20_4, kd_21, pr_21_0, kd_25, pr_25_2, hP, built_0 hP, hC.1, if_neg c, lit_0, tn_0, lit_1, tn_1]
  · replace k : X10_standing F 20 (iI 1) h = some (iI (std M st N 1)) := k
    replace l : X8_laidOn F 25 (iI 1) h = some (iI (N 1)) := l
    rw [show (((1 : Nat) : Int)) = 1 from rfl, k]
    by_cases c : std M st N 1 < M 1
    · have u := upTo_1 (F := F) (z := std M st N 1 + 1) hP hC (by omega) hm
      simp (disch := omega) only [bd, iI_add, iI_sub, iI_mul, iI_neg, gq_inb, gq_T, iflt_p, iflt_n, ifle_p, ifle_n, ifeq_p, ifeq_n, iI_ix, Option.bind_some, bq_some, up_get, up_snd, if_true, if_false, ofN_iI, Int.cast_ofNat_Int, X10_lacking, kd_20, pr_20_0, pr_20_1, pr_20_2, pr_20_3, pr_20_4, kd_23, pr_23_0, kd_25, pr_25_2, hP, built_1 hP, hC.2.1, u, l, if_pos c, lit_0, tn_0, lit_1, tn_1]
      congr 3
    · simp (disch := omega) only [bd, iI_add, iI_sub, iI_mul, iI_neg, gq_inb, gq_T, iflt_p, iflt_n, ifle_p, ifle_n, ifeq_p, ifeq_n, iI_ix, Option.bind_some, bq_some, up_get, up_snd, if_true, if_false, ofN_iI, Int.cast_ofNat_Int, X10_lacking, kd_20, pr_20_0, pr_20_1, pr_20_2, pr_20_3, pr_20_4, kd_23, pr_23_0, kd_25, pr_25_2, hP, built_1 hP, hC.2.1, if_neg c, lit_0, tn_0, lit_1, tn_1]
theorem bench_s {s i : Nat} (hs : s < 2) (hi : i < 20) (hP : h.2 = pr sw) (hN : CN 25 26 h N) : X8_benchAt F 25 (iI s) (iI (i + 1)) h = some (iI (N (2 + (20 * s + i)))) := by
  unfold X8_benchAt
  have e := hN.2.2.1 (20 * s + i) (by omega)
  simp (disch := omega) only [bd, iI_add, iI_sub, iI_mul, iI_neg, gq_inb, gq_T, iflt_p, iflt_n, ifle_p, ifle_n, ifeq_p, ifeq_n, iI_ix, Option.bind_some, bq_some, up_get, up_snd, if_true, if_false, ofN_iI, Int.cast_ofNat_Int, X8_benchAt, kd_25, pr_25_2, kd_26, gt26, pt26, hP, lit_1, tn_1, lit_20, tn_20]
  rw [show ((s : Int) * 20 + (↑i + 1) - 1).toNat = 20 * s + i by omega, e]
/-- the weight of the first n arches of side s -/
def wg (st N : Nat → Int) (s : Nat) : Nat → Int
  | 0 => 0
  | i + 1 => wg st N s i + (i + 1) * (st (20 * s + i) + N (2 + (20 * s + i)))
theorem wg_b (h1 : ∀ j, 0 ≤ st j ∧ st j ≤ 255) (h2 : ∀ i, i < 40 → 0 ≤ N (2 + i) ∧ N (2 + i) ≤ 255) {s : Nat} (hs : s < 2) : ∀ i : Nat, i ≤ 20 → 0 ≤ wg st N s i ∧ wg st N s i ≤ 10200 * i
  | 0, _ => ⟨Int.le_refl _, Int.le_refl _⟩
  | i + 1, hi => by
    have a := wg_b h1 h2 hs i (by omega)
    have b := h1 (20 * s + i)
    have c := h2 (20 * s + i) (by omega)
    unfold wg
    have e1 : (0 : Int) ≤ ((i : Int) + 1) * (st (20 * s + i) + N (2 + (20 * s + i))) := Int.mul_nonneg (by omega) (by omega)
    have e2 : ((i : Int) + 1) * (st (20 * s + i) + N (2 + (20 * s + i))) ≤ 20 * 510 := Int.mul_le_mul (by omega) (by omega) (by omega) (by omega)
    omega
def wgt (M : Nat → Nat) (st N : Nat → Int) (s : Nat) : Int := wg st N s (std M st N s)
theorem wgt_b (hO : OKP M st) (hN : OKN N) {s : Nat} (hs : s < 2) : 0 ≤ wgt M st N s ∧ wgt M st N s ≤ 204000 := by
  have h1 := @std_le M st N s
  have h2 := hO.1 s
  have h3 := wg_b hO.2.1 hN.2.1 hs (std M st N s) (by omega)
  unfold wgt
  omega
theorem weight_L {s : Nat} (hF : 1000 ≤ F) (hs : s < 2) (C : CQ sw h M st N) : ∀ (n i f : Nat), i + n = std M st N s → n < f → X10_weight_11 F f 20 (iI s) (iI (std M st N s)) (iI (wg st N s i)) (iI (i + 1)) h = some (iI (wgt M st N s))
  | n, i, 0, _, hf => absurd hf (Nat.not_lt_zero _)
  | 0, i, f + 1, hi, hf => by
    have ks := @std_le M st N s
    have hm := C.2.2.2.1.1 s
    have e : i = std M st N s := by omega
    unfold X10_weight_11 wgt
    simp (disch := omega) only [bd, iI_add, iI_sub, iI_mul, iI_neg, gq_inb, gq_T, iflt_p, iflt_n, ifle_p, ifle_n, ifeq_p, ifeq_n, iI_ix, Option.bind_some, bq_some, up_get, up_snd, if_true, if_false, ofN_iI, Int.cast_ofNat_Int, X10_weight_11, lit_1, tn_1, lit_20, tn_20]
    rw [e]
  | n + 1, i, f + 1, hi, hf => by
    have ih := weight_L hF hs C n (i + 1) f (by omega) (by omega)
    have ks := @std_le M st N s
    obtain ⟨hP, hC, hN, hO, hON⟩ := C
    have hm := hO.1 s
    have b := bench_s (F := F) (i := i) hs (by omega) hP hN
    have wb := wg_b hO.2.1 hON.2.1 hs i (by omega)
    have m1 : wg st N s (i + 1) = wg st N s i + (st (20 * s + i) + N (2 + (20 * s + i))) * (i + 1) := by
      show _ + _ = _
      rw [Int.mul_comm]
    rw [m1] at ih
    have e9 : (((i + 1 : Nat) : Int) + 1) = (i : Int) + 1 + 1 := by omega
    rw [e9] at ih
    unfold X10_weight_11
    rcases (show s = 0 ∨ s = 1 by omega) with rfl | rfl
    · have v := stOf_0 (F := F) (i := i) hP hC (by omega) hm
      replace b : X8_benchAt F 25 (iI 0) (iI (i + 1)) h = some (iI (N (2 + (i)))) := b.trans (by simp)
      replace ih := (show X10_weight_11 F f 20 (iI 0) _ _ _ _ = _ from ih)
      simp only [Nat.mul_zero, Nat.zero_add] at ih
      rw [show (((0 : Nat) : Int)) = 0 from rfl]
      simp (disch := omega) only [bd, iI_add, iI_sub, iI_mul, iI_neg, gq_inb, gq_T, iflt_p, iflt_n, ifle_p, ifle_n, ifeq_p, ifeq_n, iI_ix, Option.bind_some, bq_some, up_get, up_snd, if_true, if_false, ofN_iI, Int.cast_ofNat_Int, X10_weight_11, kd_20, pr_20_0, pr_20_1, pr_20_2, pr_20_3, pr_20_4, kd_21, pr_21_0, kd_25, pr_25_2, hP, built_0 hP, v, b, lit_1, tn_1, lit_20, tn_20]
      exact ih
    · have v := stOf_1 (F := F) (i := i) hP hC (by omega) hm
      replace b : X8_benchAt F 25 (iI 1) (iI (i + 1)) h = some (iI (N (2 + (20 + i)))) := b.trans (by simp)
      replace ih := (show X10_weight_11 F f 20 (iI 1) _ _ _ _ = _ from ih)
      simp only [Nat.mul_one] at ih
      rw [show (((1 : Nat) : Int)) = 1 from rfl]
      simp (disch := omega) only [bd, iI_add, iI_sub, iI_mul, iI_neg, gq_inb, gq_T, iflt_p, iflt_n, ifle_p, ifle_n, ifeq_p, ifeq_n, iI_ix, Option.bind_some, bq_some, up_get, up_snd, if_true, if_false, ofN_iI, Int.cast_ofNat_Int, X10_weight_11, kd_20, pr_20_0, pr_20_1, pr_20_2, pr_20_3, pr_20_4, kd_23, pr_23_0, kd_25, pr_25_2, hP, built_1 hP, v, b, lit_1, tn_1, lit_20, tn_20]
      exact ih
theorem weight_s {s : Nat} (hF : 1000 ≤ F) (hs : s < 2) (C : CQ sw h M st N) : X10_weight F 20 (iI s) h = some (iI (wgt M st N s)) := by
  have k := std_s hF hs C
  have ks := @std_le M st N s
  have hm := C.2.2.2.1.1 s
  have w := weight_L hF hs C (std M st N s) 0 F (by omega) (by omega)
  unfold X10_weight
  simp (disch := omega) only [bd, iI_add, iI_sub, iI_mul, iI_neg, gq_inb, gq_T, iflt_p, iflt_n, ifle_p, ifle_n, ifeq_p, ifeq_n, iI_ix, Option.bind_some, bq_some, up_get, up_snd, if_true, if_false, ofN_iI, Int.cast_ofNat_Int, X10_weight, kd_20, pr_20_0, pr_20_1, pr_20_2, pr_20_3, pr_20_4, k, lit_0, tn_0, lit_1, tn_1]
  exact w
end cl
