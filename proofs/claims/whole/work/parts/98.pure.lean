section fin
theorem two_E {F : Nat} {f g : Hp → Option (Int32 × Hp)} {h : Hp} {K : Hp → Option (Int32 × Hp)} (E : Eff F f g h) (k : ∀ h2, Inv h2 → ∃ h9, K h2 = some (1, h9)) : ∃ h9, (bq (f h) fun c h1 => bq (g h1) fun c2 h2 => if c = c2 then K h2 else some (0, h2)) = some (1, h9) := by
  obtain ⟨r, h1, h2, a, b, I⟩ := E
  obtain ⟨h9, e⟩ := k h2 I
  refine ⟨h9, ?_⟩
  rw [a]
  show (bq (g h1) fun c2 h2 => if r = c2 then K h2 else some (0, h2)) = _
  rw [b]
  show (if r = r then K h2 else some (0, h2)) = _
  rw [if_pos rfl]
  exact e
theorem two_1 {f g : Option Int32} {h : Hp} {K : Option (Int32 × Hp)} (E : Eq1 f g) (k : ∃ h9, K = some (1, h9)) : ∃ h9, (f.bind fun c => g.bind fun c2 => if c = c2 then K else some (0, h)) = some (1, h9) := by
  obtain ⟨r, a, b⟩ := E
  obtain ⟨h9, e⟩ := k
  refine ⟨h9, ?_⟩
  rw [a, b]
  show (if r = r then K else some (0, h)) = _
  rw [if_pos rfl]
  exact e
/-- a number of the script is there -/
theorem in_sc {L i d : Nat} (h : i + d < L) (hL : L ≤ 3072) : inb (iI i + iI d) L := by
  rw [iI_add]
  exact (iI_inb (by omega)).mpr (by omega)
theorem in_s0 {L i : Nat} (h : i < L) (hL : L ≤ 3072) : inb (iI i) L := (iI_inb (by omega)).mpr (by omega)
set_option maxRecDepth 100000 in
set_option maxHeartbeats 16000000 in
theorem law_L {xs : Nat → Int32} {L : Nat} (hL : L ≤ 3072) : ∀ (q f i : Nat) (h : Hp), L ≤ i + q → q < f → i ≤ L + 6 → Inv h → ∃ h9, L_law_18 FF xs L f (iI i) h = some (1, h9)
  | q, 0, _, _, _, hf, _, _ => absurd hf (Nat.not_lt_zero _)
  | q, f + 1, i, h, hq, hf, hi, I => by
    have cmp : (Int32.ofNat L - 6 < iI (i : Int)) ↔ (L : Int) - 6 < i := by
      rw [ofN_iI, show (6 : Int32) = iI 6 from rfl, iI_sub]
      exact iI_lt (by omega) (by omega)
    by_cases c : (L : Int) - 6 < i
    · refine ⟨h, ?_⟩
      unfold L_law_18
      exact if_pos (cmp.mpr c)
    · have kk : ∀ h2, Inv h2 → ∃ h9, L_law_1071 FF xs L (L_law_18 FF xs L f) (iI i) h2 = some (1, h9) := fun h2 I2 => by
        obtain ⟨h9, e⟩ := law_L hL (q - 1) f (i + 6) h2 (by omega) (by omega) (by omega) I2
        refine ⟨h9, ?_⟩
        rw [show ((i + 6 : Nat) : Int) = (i : Int) + 6 by omega, ← iI_add] at e
        exact e
      have F1 : 1000 ≤ FF := by decide
      have F5 : 5000 ≤ FF := by decide
      have F50 : 50000 ≤ FF := by decide
      have n0 : inb (iI (i : Int)) L := in_s0 (by omega) hL
      have n1 : inb (iI (i : Int) + 1) L := in_sc (i := i) (d := 1) (by omega) hL
      have n2 : inb (iI (i : Int) + 2) L := in_sc (i := i) (d := 2) (by omega) hL
      have n3 : inb (iI (i : Int) + 3) L := in_sc (i := i) (d := 3) (by omega) hL
      have n4 : inb (iI (i : Int) + 4) L := in_sc (i := i) (d := 4) (by omega) hL
      have n5 : inb (iI (i : Int) + 5) L := in_sc (i := i) (d := 5) (by omega) hL
      unfold L_law_18
      rw [if_neg (fun r => c (cmp.mp r))]
      simp only [gq_p n0, gq_p n1, gq_p n2, gq_p n3, gq_p n4, gq_p n5, bd]
      by_cases c0 : xs (ix (iI (i : Int))) &&& 31 = 0
      · rw [if_pos c0]
        exact two_E (case_tilt F1 I _) kk
      rw [if_neg c0]
      by_cases c1 : xs (ix (iI (i : Int))) &&& 31 = 1
      · rw [if_pos c1]
        exact two_E (case_feed F1 I _ _ _ _ _) kk
      rw [if_neg c1]
      by_cases c2 : xs (ix (iI (i : Int))) &&& 31 = 2
      · rw [if_pos c2]
        exact two_E (case_law F5 I _) kk
      rw [if_neg c2]
      by_cases c3 : xs (ix (iI (i : Int))) &&& 31 = 3
      · rw [if_pos c3]
        exact two_E (case_plan F5 I _ _) kk
      rw [if_neg c3]
      by_cases c4 : xs (ix (iI (i : Int))) &&& 31 = 4
      · rw [if_pos c4]
        exact two_E (case_orders F5 I _) kk
      rw [if_neg c4]
      by_cases c5 : xs (ix (iI (i : Int))) &&& 31 = 5
      · rw [if_pos c5]
        exact two_E (case_days F5 I _) kk
      rw [if_neg c5]
      by_cases c6 : xs (ix (iI (i : Int))) &&& 31 = 6
      · rw [if_pos c6]
        exact two_E (case_tried F5 I _ _) kk
      rw [if_neg c6]
      by_cases c7 : xs (ix (iI (i : Int))) &&& 31 = 7
      · rw [if_pos c7]
        exact two_1 (case_sideIs F1 I _ _) (kk h I)
      rw [if_neg c7]
      by_cases c8 : xs (ix (iI (i : Int))) &&& 31 = 8
      · rw [if_pos c8]
        exact two_1 (case_archIs F1 I _ _ _) (kk h I)
      rw [if_neg c8]
      by_cases c9 : xs (ix (iI (i : Int))) &&& 31 = 9
      · rw [if_pos c9]
        exact two_E (case_touches F5 I _ _) kk
      rw [if_neg c9]
      by_cases c10 : xs (ix (iI (i : Int))) &&& 31 = 10
      · rw [if_pos c10]
        exact two_E (case_ahead F5 I _) kk
      rw [if_neg c10]
      by_cases c11 : xs (ix (iI (i : Int))) &&& 31 = 11
      · rw [if_pos c11]
        exact two_E (case_beyond F5 I _ _) kk
      rw [if_neg c11]
      by_cases c12 : xs (ix (iI (i : Int))) &&& 31 = 12
      · rw [if_pos c12]
        exact two_E (case_even F5 I _ _) kk
      rw [if_neg c12]
      by_cases c13 : xs (ix (iI (i : Int))) &&& 31 = 13
      · rw [if_pos c13]
        exact two_E (case_inARow F5 I) kk
      rw [if_neg c13]
      by_cases c14 : xs (ix (iI (i : Int))) &&& 31 = 14
      · rw [if_pos c14]
        exact two_1 (case_ball F1 _ _ _ _ _) (kk h I)
      rw [if_neg c14]
      by_cases c15 : xs (ix (iI (i : Int))) &&& 31 = 15
      · rw [if_pos c15]
        exact two_1 (case_leastSpeed F1 _ _ _ _) (kk h I)
      rw [if_neg c15]
      by_cases c16 : xs (ix (iI (i : Int))) &&& 31 = 16
      · rw [if_pos c16]
        exact two_E (case_piles F1 I _ _ _) kk
      rw [if_neg c16]
      by_cases c17 : xs (ix (iI (i : Int))) &&& 31 = 17
      · rw [if_pos c17]
        exact two_E (case_lamps F5 I _ _ _) kk
      rw [if_neg c17]
      by_cases c18 : xs (ix (iI (i : Int))) &&& 31 = 18
      · rw [if_pos c18]
        exact two_E (case_claims F1 I _ _) kk
      rw [if_neg c18]
      by_cases c19 : xs (ix (iI (i : Int))) &&& 31 = 19
      · rw [if_pos c19]
        exact two_E (case_rowed F1 I _) kk
      rw [if_neg c19]
      by_cases c20 : xs (ix (iI (i : Int))) &&& 31 = 20
      · rw [if_pos c20]
        exact two_E (case_wed F1 I _ _) kk
      rw [if_neg c20]
      by_cases c21 : xs (ix (iI (i : Int))) &&& 31 = 21
      · rw [if_pos c21]
        exact two_E (case_changes F50 I _) kk
      rw [if_neg c21]
      by_cases c22 : xs (ix (iI (i : Int))) &&& 31 = 22
      · rw [if_pos c22]
        exact two_1 (case_dialect F1 _ _ _) (kk h I)
      rw [if_neg c22]
      by_cases c23 : xs (ix (iI (i : Int))) &&& 31 = 23
      · rw [if_pos c23]
        exact two_1 (case_owed F1 I _ _) (kk h I)
      rw [if_neg c23]
      by_cases c24 : xs (ix (iI (i : Int))) &&& 31 = 24
      · rw [if_pos c24]
        exact two_E (case_seed F1 I _) kk
      rw [if_neg c24]
      by_cases c25 : xs (ix (iI (i : Int))) &&& 31 = 25
      · rw [if_pos c25]
        exact two_E (case_keep F1 I) kk
      rw [if_neg c25]
      by_cases c26 : xs (ix (iI (i : Int))) &&& 31 = 26
      · rw [if_pos c26]
        exact two_E (case_undo F1 I) kk
      rw [if_neg c26]
      by_cases c27 : xs (ix (iI (i : Int))) &&& 31 = 27
      · rw [if_pos c27]
        exact two_E (case_check F1 I) kk
      rw [if_neg c27]
      by_cases c28 : xs (ix (iI (i : Int))) &&& 31 = 28
      · rw [if_pos c28]
        exact two_1 (case_count F1 I _) (kk h I)
      rw [if_neg c28]
      exact kk h I
/-- the start -/
def Zr (h : Hp) : Prop := ∀ i q, (50 ≤ i ∨ 51 ≤ q) → h.2 i q = none
theorem zr_ur {h : Hp} {a j v : Nat} (z : Zr h) (hj : a < 50 ∧ j < 51) : Zr (ur h a j v) := fun i q c => by
  show (if i = a ∧ q = j then some v else h.2 i q) = none
  rw [if_neg (by omega)]
  exact z i q c
theorem zr_up {h : Hp} {a j : Nat} {v : Int32} (z : Zr h) : Zr (up h a j v) := z
theorem zr_0 : Zr hs_0 := fun _ _ _ => rfl
theorem zr_1 : Zr hs_1 := zr_ur zr_0 (by decide)
theorem zr_2 : Zr hs_2 := zr_ur zr_1 (by decide)
theorem zr_3 : Zr hs_3 := zr_ur zr_2 (by decide)
theorem zr_4 : Zr hs_4 := zr_ur zr_3 (by decide)
theorem zr_5 : Zr hs_5 := zr_ur zr_4 (by decide)
theorem zr_6 : Zr hs_6 := zr_ur zr_5 (by decide)
theorem zr_7 : Zr hs_7 := zr_ur zr_6 (by decide)
theorem zr_8 : Zr hs_8 := zr_ur zr_7 (by decide)
theorem zr_9 : Zr hs_9 := zr_ur zr_8 (by decide)
theorem zr_10 : Zr hs_10 := zr_ur zr_9 (by decide)
theorem zr_11 : Zr hs_11 := zr_ur zr_10 (by decide)
theorem zr_12 : Zr hs_12 := zr_ur zr_11 (by decide)
theorem zr_13 : Zr hs_13 := zr_ur zr_12 (by decide)
theorem zr_14 : Zr hs_14 := zr_ur zr_13 (by decide)
theorem zr_15 : Zr hs_15 := zr_ur zr_14 (by decide)
theorem zr_16 : Zr hs_16 := zr_ur zr_15 (by decide)
theorem zr_17 : Zr hs_17 := zr_ur zr_16 (by decide)
theorem zr_18 : Zr hs_18 := zr_ur zr_17 (by decide)
theorem zr_19 : Zr hs_19 := zr_ur zr_18 (by decide)
theorem zr_20 : Zr hs_20 := zr_ur zr_19 (by decide)
theorem zr_21 : Zr hs_21 := zr_ur zr_20 (by decide)
theorem zr_22 : Zr hs_22 := zr_ur zr_21 (by decide)
theorem zr_23 : Zr hs_23 := zr_ur zr_22 (by decide)
theorem zr_24 : Zr hs_24 := zr_ur zr_23 (by decide)
theorem zr_25 : Zr hs_25 := zr_up zr_24
theorem zr_26 : Zr hs_26 := zr_ur zr_25 (by decide)
theorem zr_27 : Zr hs_27 := zr_ur zr_26 (by decide)
theorem zr_28 : Zr hs_28 := zr_ur zr_27 (by decide)
theorem zr_29 : Zr hs_29 := zr_ur zr_28 (by decide)
theorem zr_30 : Zr hs_30 := zr_ur zr_29 (by decide)
theorem zr_31 : Zr hs_31 := zr_ur zr_30 (by decide)
theorem zr_32 : Zr hs_32 := zr_ur zr_31 (by decide)
theorem zr_33 : Zr hs_33 := zr_ur zr_32 (by decide)
theorem zr_34 : Zr hs_34 := zr_ur zr_33 (by decide)
theorem zr_35 : Zr hs_35 := zr_ur zr_34 (by decide)
theorem zr_36 : Zr hs_36 := zr_up zr_35
theorem zr_37 : Zr hs_37 := zr_ur zr_36 (by decide)
theorem zr_38 : Zr hs_38 := zr_ur zr_37 (by decide)
theorem zr_39 : Zr hs_39 := zr_up zr_38
theorem zr_40 : Zr hs_40 := zr_ur zr_39 (by decide)
theorem zr_41 : Zr hs_41 := zr_ur zr_40 (by decide)
theorem zr_42 : Zr hs_42 := zr_up zr_41
theorem zr_43 : Zr hs_43 := zr_ur zr_42 (by decide)
theorem zr_44 : Zr hs_44 := zr_ur zr_43 (by decide)
theorem zr_45 : Zr hs_45 := zr_ur zr_44 (by decide)
theorem zr_46 : Zr hs_46 := zr_ur zr_45 (by decide)
theorem zr_47 : Zr hs_47 := zr_ur zr_46 (by decide)
theorem zr_48 : Zr hs_48 := zr_ur zr_47 (by decide)
theorem zr_49 : Zr hs_49 := zr_ur zr_48 (by decide)
theorem zr_50 : Zr hs_50 := zr_ur zr_49 (by decide)
theorem zr_51 : Zr hs_51 := zr_ur zr_50 (by decide)
theorem zr_52 : Zr hs_52 := zr_ur zr_51 (by decide)
theorem zr_53 : Zr hs_53 := zr_up zr_52
theorem zr_54 : Zr hs_54 := zr_up zr_53
theorem zr_55 : Zr hs_55 := zr_ur zr_54 (by decide)
theorem zr_56 : Zr hs_56 := zr_ur zr_55 (by decide)
theorem zr_57 : Zr hs_57 := zr_ur zr_56 (by decide)
theorem zr_58 : Zr hs_58 := zr_ur zr_57 (by decide)
theorem zr_59 : Zr hs_59 := zr_ur zr_58 (by decide)
theorem zr_60 : Zr hs_60 := zr_ur zr_59 (by decide)
theorem zr_61 : Zr hs_61 := zr_ur zr_60 (by decide)
theorem zr_62 : Zr hs_62 := zr_ur zr_61 (by decide)
theorem zr_63 : Zr hs_63 := zr_ur zr_62 (by decide)
theorem zr_64 : Zr hs_64 := zr_ur zr_63 (by decide)
theorem zr_65 : Zr hs_65 := zr_ur zr_64 (by decide)
theorem zr_66 : Zr hs_66 := zr_ur zr_65 (by decide)
theorem zr_67 : Zr hs_67 := zr_ur zr_66 (by decide)
theorem zr_68 : Zr hs_68 := zr_ur zr_67 (by decide)
theorem zr_69 : Zr hs_69 := zr_ur zr_68 (by decide)
theorem zr_70 : Zr hs_70 := zr_ur zr_69 (by decide)
theorem zr_71 : Zr hs_71 := zr_ur zr_70 (by decide)
theorem zr_72 : Zr hs_72 := zr_ur zr_71 (by decide)
theorem zr_73 : Zr hs_73 := zr_ur zr_72 (by decide)
theorem zr_74 : Zr hs_74 := zr_ur zr_73 (by decide)
theorem zr_75 : Zr hs_75 := zr_ur zr_74 (by decide)
theorem zr_76 : Zr hs_76 := zr_ur zr_75 (by decide)
theorem zr_77 : Zr hs_77 := zr_ur zr_76 (by decide)
theorem zr_78 : Zr hs_78 := zr_ur zr_77 (by decide)
theorem zr_79 : Zr hs_79 := zr_ur zr_78 (by decide)
theorem zr_80 : Zr hs_80 := zr_ur zr_79 (by decide)
theorem zr_81 : Zr hs_81 := zr_ur zr_80 (by decide)
theorem zr_82 : Zr hs_82 := zr_ur zr_81 (by decide)
theorem zr_83 : Zr hs_83 := zr_ur zr_82 (by decide)
theorem zr_84 : Zr hs_84 := zr_ur zr_83 (by decide)
theorem zr_85 : Zr hs_85 := zr_ur zr_84 (by decide)
theorem zr_86 : Zr hs_86 := zr_ur zr_85 (by decide)
theorem zr_87 : Zr hs_87 := zr_up zr_86
theorem zr_88 : Zr hs_88 := zr_up zr_87
set_option maxRecDepth 100000 in
theorem st_small : ∀ i : Nat, i < 50 → ∀ q : Nat, q < 51 → hs_88.2 i q = pr false i q := by decide +kernel
theorem st_pr : hs_88.2 = pr false := by
  funext i q
  by_cases hi : 50 ≤ i
  · rw [pr_big hi]
    exact zr_88 i q (Or.inl hi)
  · by_cases hq : 51 ≤ q
    · have e := zr_88 i q (Or.inr hq)
      obtain ⟨j, rfl⟩ : ∃ j, q = j + 51 := ⟨q - 51, by omega⟩
      rw [pr_wide]
      exact e
    · exact st_small i (by omega) q (by omega)
def st_N : Nat → Int := fun i => if i = 46 then 1 else 0
def st_L : Lw := (0, fun _ => 0, fun _ => 0, fun _ => 0, fun _ => 0, fun _ => 0, fun _ => 0)
theorem st_n : ∀ i : Nat, i < 47 → hs_88.1 50 i = iI (st_N i) := by decide +kernel
theorem st_b : ∀ i : Nat, i < 40 → hs_88.1 26 i = iI (st_N (2 + i)) := by decide +kernel
theorem st_oN : OKN st_N := by
  refine ⟨fun s hs => ?_, fun i hi => ?_, ?_, ?_, ?_, ?_, ?_⟩
  · rw [show st_N s = 0 from if_neg (by omega)]
    omega
  · rw [show st_N (2 + i) = 0 from if_neg (by omega)]
    omega
  · decide
  · decide
  · decide
  · decide
  · decide
theorem st_55 (j : Nat) : hs_88.1 55 j &&& 255 = iI 0 := by
  have e : hs_88.1 55 j = 0 := rfl
  rw [e]
  rfl
set_option maxRecDepth 100000 in
theorem st_inv : Inv hs_88 := by
  refine ⟨false, 0, fun _ => 0, fun _ => 0, fun _ => 0, st_N, fun _ => 0, false, 99999, st_L, st_pr, ⟨by omega, fun _ => ⟨Int.le_refl 0, by dsimp only; omega⟩, ⟨fun _ => Nat.zero_le _, fun _ => by dsimp only; omega, fun s i hi => absurd hi (Nat.not_lt_zero _)⟩, st_oN, fun e => absurd e (by decide), by omega, ⟨Nat.zero_le _, fun q hq => absurd hq (Nat.not_lt_zero _)⟩⟩, ⟨rfl, fun _ _ => rfl, ⟨rfl, rfl, fun i hi => ?_, fun i hi => ?_⟩, ⟨rfl, rfl, st_b, rfl, rfl, rfl, rfl, rfl⟩, fun e => absurd e (by decide), rfl, rfl, ⟨rfl, fun q hq => absurd hq (Nat.not_lt_zero _)⟩⟩, ⟨rfl, fun j _ => st_55 j, ⟨rfl, rfl, fun s i _ hi => absurd hi (Nat.not_lt_zero _)⟩, st_n, fun e => absurd e (by decide), rfl, rfl, ⟨rfl, fun q hq => absurd hq (Nat.not_lt_zero _)⟩⟩⟩
  · have e : i = 0 := Nat.le_zero.mp hi
    subst e
    rfl
  · have e : i = 0 := Nat.le_zero.mp hi
    subst e
    rfl
theorem pure_law (xs : Nat → Int32) (L : Nat) (hL : L ≤ 3072) : ∃ h9, L_law_18 FF xs L FF 0 hs_88 = some (1, h9) := law_L hL 3072 FF 0 hs_88 (by omega) (by decide) (by omega) st_inv
end fin
