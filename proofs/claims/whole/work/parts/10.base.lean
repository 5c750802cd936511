def iI (z : Int) : Int32 := Int32.ofInt z
theorem iI_add (a b : Int) : iI a + iI b = iI (a + b) := (Int32.ofInt_add a b).symm
theorem iI_sub (a b : Int) : iI a - iI b = iI (a - b) := (Int32.ofInt_sub a b).symm
theorem iI_mul (a b : Int) : iI a * iI b = iI (a * b) := (Int32.ofInt_mul a b).symm
theorem iI_neg (a : Int) : -iI a = iI (-a) := (Int32.ofInt_neg a).symm
theorem iI_toInt {a : Int} (h : -2147483648 ≤ a ∧ a < 2147483648) : (iI a).toInt = a := Int32.toInt_ofInt_of_le h.1 h.2
theorem iI_of (x : Int32) : x = iI x.toInt := (Int32.ofInt_toInt x).symm
theorem iI_lt {a b : Int} (ha : -2147483648 ≤ a ∧ a < 2147483648) (hb : -2147483648 ≤ b ∧ b < 2147483648) : iI a < iI b ↔ a < b := by
  rw [Int32.lt_iff_toInt_lt, iI_toInt ha, iI_toInt hb]
theorem iI_le {a b : Int} (ha : -2147483648 ≤ a ∧ a < 2147483648) (hb : -2147483648 ≤ b ∧ b < 2147483648) : iI a ≤ iI b ↔ a ≤ b := by
  rw [Int32.le_iff_toInt_le, iI_toInt ha, iI_toInt hb]
theorem iI_eq {a b : Int} (ha : -2147483648 ≤ a ∧ a < 2147483648) (hb : -2147483648 ≤ b ∧ b < 2147483648) : iI a = iI b ↔ a = b := by
  rw [← Int32.toInt_inj, iI_toInt ha, iI_toInt hb]
theorem iI_ix {a : Int} (h : -2147483648 ≤ a ∧ a < 2147483648) : ix (iI a) = a.toNat := by
  show (iI a).toInt.toNat = _
  rw [iI_toInt h]
theorem iI_inb {a : Int} {n : Nat} (h : -2147483648 ≤ a ∧ a < 2147483648) : inb (iI a) n ↔ 0 ≤ a ∧ a < n := by
  show (0 ≤ (iI a).toInt ∧ (iI a).toInt < n) ↔ _
  rw [iI_toInt h]
theorem iI_div {a b : Int} (ha : -2147483648 ≤ a ∧ a < 2147483648) (hb : 0 < b ∧ b < 2147483648) : iI a / iI b = iI (a.tdiv b) := by
  apply Int32.toInt_inj.mp
  have hb' : iI b ≠ -1 := fun e => by
    have := congrArg Int32.toInt e
    rw [iI_toInt (by omega)] at this
    have e2 : (-1 : Int32).toInt = -1 := by decide
    omega
  rw [Int32.toInt_div_of_ne_right _ _ hb', iI_toInt ha, iI_toInt (by omega), iI_toInt]
  have h1 := Int.tdiv_mul_le a (show b ≠ 0 by omega)
  constructor
  · rcases Int.le_total 0 a with h | h
    · have := Int.tdiv_nonneg h (show 0 ≤ b by omega)
      omega
    · have e : a.tdiv b = -((-a).tdiv b) := by rw [Int.neg_tdiv, Int.neg_neg]
      have := Int.tdiv_le_self b (show 0 ≤ -a by omega)
      omega
  · rcases Int.le_total 0 a with h | h
    · have := Int.tdiv_le_self b h
      omega
    · have e : a.tdiv b = -((-a).tdiv b) := by rw [Int.neg_tdiv, Int.neg_neg]
      have := Int.tdiv_nonneg (show 0 ≤ -a by omega) (show 0 ≤ b by omega)
      omega
theorem iI_divN {a b : Int} (ha : 0 ≤ a ∧ a < 2147483648) (hb : 0 < b ∧ b < 2147483648) : iI a / iI b = iI (a / b) := by
  rw [iI_div (by omega) hb, Int.tdiv_eq_ediv_of_nonneg ha.1]
theorem iI_irm {a b : Int} (ha : 0 ≤ a ∧ a < 2147483648) (hb : 0 < b ∧ b < 2147483648) : irm (iI a) (iI b) = iI (a % b) := by
  unfold irm
  rw [iI_divN ha hb, iI_mul, iI_sub]
  congr 1
  have := Int.mul_ediv_add_emod a b
  rw [Int.mul_comm] at this
  omega
theorem gq_T {α : Type} {i : Decidable True} (x : Option α) : @gq α True i x = x := by
  unfold gq
  exact if_pos trivial
theorem gq_p {α : Type} {c : Prop} {i : Decidable c} (h : c) (x : Option α) : gq c x = x := by
  unfold gq
  exact if_pos h
theorem gq_n {α : Type} {c : Prop} {i : Decidable c} (h : ¬ c) (x : Option α) : gq c x = none := by
  unfold gq
  exact if_neg h
theorem gq_inb {α : Type} {a : Int} {n : Nat} {i : Decidable (inb (iI a) n)} (h : 0 ≤ a ∧ a < n) (hn : a < 2147483648) (x : Option α) : @gq α (inb (iI a) n) i x = x := gq_p ((iI_inb (by omega)).mpr h) x
theorem iflt_p {α : Type} {a b : Int} {i : Decidable (iI a < iI b)} {x y : α} (h : a < b) (ha : -2147483648 ≤ a ∧ b < 2147483648) : @ite α (iI a < iI b) i x y = x := if_pos ((iI_lt (by omega) (by omega)).mpr h)
theorem iflt_n {α : Type} {a b : Int} {i : Decidable (iI a < iI b)} {x y : α} (h : b ≤ a) (ha : -2147483648 ≤ b ∧ a < 2147483648) : @ite α (iI a < iI b) i x y = y := if_neg (fun q => by have := (iI_lt (by omega) (by omega)).mp q; omega)
theorem ifle_p {α : Type} {a b : Int} {i : Decidable (iI a ≤ iI b)} {x y : α} (h : a ≤ b) (ha : -2147483648 ≤ a ∧ b < 2147483648) : @ite α (iI a ≤ iI b) i x y = x := if_pos ((iI_le (by omega) (by omega)).mpr h)
theorem ifle_n {α : Type} {a b : Int} {i : Decidable (iI a ≤ iI b)} {x y : α} (h : b < a) (ha : -2147483648 ≤ b ∧ a < 2147483648) : @ite α (iI a ≤ iI b) i x y = y := if_neg (fun q => by have := (iI_le (by omega) (by omega)).mp q; omega)
theorem ifeq_p {α : Type} {a b : Int} {i : Decidable (iI a = iI b)} {x y : α} (h : a = b) : @ite α (iI a = iI b) i x y = x := if_pos (by rw [h])
theorem ifeq_n {α : Type} {a b : Int} {i : Decidable (iI a = iI b)} {x y : α} (h : ¬ a = b) (ha : -2147483648 ≤ a ∧ a < 2147483648) (hb : -2147483648 ≤ b ∧ b < 2147483648) : @ite α (iI a = iI b) i x y = y := if_neg (fun q => h ((iI_eq ha hb).mp q))
theorem if_true_ {α : Type} {i : Decidable True} {x y : α} : @ite α True i x y = x := if_pos trivial
theorem bq_some {α β γ : Type} {a : α} {b : β} {f : α → β → Option γ} : bq (some (a, b)) f = f a b := rfl
theorem up_get {h : Hp} {a j : Nat} {v : Int32} {i q : Nat} : (up h a j v).1 i q = if i = a ∧ q = j then v else h.1 i q := rfl
theorem up_snd {h : Hp} {a j : Nat} {v : Int32} : (up h a j v).2 = h.2 := rfl
theorem uc_snd {h : Hp} {a b x y z : Nat} : (uc h a b x y z).2 = h.2 := rfl
theorem lit_0 : (0 : Int32) = iI 0 := by rfl
theorem tn_0 : (0 : Int).toNat = 0 := by rfl
theorem lit_1 : (1 : Int32) = iI 1 := by rfl
theorem tn_1 : (1 : Int).toNat = 1 := by rfl
theorem lit_2 : (2 : Int32) = iI 2 := by rfl
theorem tn_2 : (2 : Int).toNat = 2 := by rfl
theorem lit_3 : (3 : Int32) = iI 3 := by rfl
theorem tn_3 : (3 : Int).toNat = 3 := by rfl
theorem lit_4 : (4 : Int32) = iI 4 := by rfl
theorem tn_4 : (4 : Int).toNat = 4 := by rfl
theorem lit_5 : (5 : Int32) = iI 5 := by rfl
theorem tn_5 : (5 : Int).toNat = 5 := by rfl
theorem lit_6 : (6 : Int32) = iI 6 := by rfl
theorem tn_6 : (6 : Int).toNat = 6 := by rfl
theorem lit_7 : (7 : Int32) = iI 7 := by rfl
theorem tn_7 : (7 : Int).toNat = 7 := by rfl
theorem lit_8 : (8 : Int32) = iI 8 := by rfl
theorem tn_8 : (8 : Int).toNat = 8 := by rfl
theorem lit_9 : (9 : Int32) = iI 9 := by rfl
theorem tn_9 : (9 : Int).toNat = 9 := by rfl
theorem lit_10 : (10 : Int32) = iI 10 := by rfl
theorem tn_10 : (10 : Int).toNat = 10 := by rfl
theorem lit_11 : (11 : Int32) = iI 11 := by rfl
theorem tn_11 : (11 : Int).toNat = 11 := by rfl
theorem lit_12 : (12 : Int32) = iI 12 := by rfl
theorem tn_12 : (12 : Int).toNat = 12 := by rfl
theorem lit_13 : (13 : Int32) = iI 13 := by rfl
theorem tn_13 : (13 : Int).toNat = 13 := by rfl
theorem lit_14 : (14 : Int32) = iI 14 := by rfl
theorem tn_14 : (14 : Int).toNat = 14 := by rfl
theorem lit_15 : (15 : Int32) = iI 15 := by rfl
theorem tn_15 : (15 : Int).toNat = 15 := by rfl
theorem lit_16 : (16 : Int32) = iI 16 := by rfl
theorem tn_16 : (16 : Int).toNat = 16 := by rfl
theorem lit_17 : (17 : Int32) = iI 17 := by rfl
theorem tn_17 : (17 : Int).toNat = 17 := by rfl
theorem lit_18 : (18 : Int32) = iI 18 := by rfl
theorem tn_18 : (18 : Int).toNat = 18 := by rfl
theorem lit_19 : (19 : Int32) = iI 19 := by rfl
theorem tn_19 : (19 : Int).toNat = 19 := by rfl
theorem lit_20 : (20 : Int32) = iI 20 := by rfl
theorem tn_20 : (20 : Int).toNat = 20 := by rfl
theorem lit_21 : (21 : Int32) = iI 21 := by rfl
theorem tn_21 : (21 : Int).toNat = 21 := by rfl
theorem lit_22 : (22 : Int32) = iI 22 := by rfl
theorem tn_22 : (22 : Int).toNat = 22 := by rfl
theorem lit_23 : (23 : Int32) = iI 23 := by rfl
theorem tn_23 : (23 : Int).toNat = 23 := by rfl
theorem lit_24 : (24 : Int32) = iI 24 := by rfl
theorem tn_24 : (24 : Int).toNat = 24 := by rfl
theorem lit_25 : (25 : Int32) = iI 25 := by rfl
theorem tn_25 : (25 : Int).toNat = 25 := by rfl
theorem lit_26 : (26 : Int32) = iI 26 := by rfl
theorem tn_26 : (26 : Int).toNat = 26 := by rfl
theorem lit_27 : (27 : Int32) = iI 27 := by rfl
theorem tn_27 : (27 : Int).toNat = 27 := by rfl
theorem lit_28 : (28 : Int32) = iI 28 := by rfl
theorem tn_28 : (28 : Int).toNat = 28 := by rfl
theorem lit_29 : (29 : Int32) = iI 29 := by rfl
theorem tn_29 : (29 : Int).toNat = 29 := by rfl
theorem lit_30 : (30 : Int32) = iI 30 := by rfl
theorem tn_30 : (30 : Int).toNat = 30 := by rfl
theorem lit_31 : (31 : Int32) = iI 31 := by rfl
theorem tn_31 : (31 : Int).toNat = 31 := by rfl
theorem lit_32 : (32 : Int32) = iI 32 := by rfl
theorem tn_32 : (32 : Int).toNat = 32 := by rfl
theorem lit_33 : (33 : Int32) = iI 33 := by rfl
theorem tn_33 : (33 : Int).toNat = 33 := by rfl
theorem lit_34 : (34 : Int32) = iI 34 := by rfl
theorem tn_34 : (34 : Int).toNat = 34 := by rfl
theorem lit_35 : (35 : Int32) = iI 35 := by rfl
theorem tn_35 : (35 : Int).toNat = 35 := by rfl
theorem lit_37 : (37 : Int32) = iI 37 := by rfl
theorem tn_37 : (37 : Int).toNat = 37 := by rfl
theorem lit_38 : (38 : Int32) = iI 38 := by rfl
theorem tn_38 : (38 : Int).toNat = 38 := by rfl
theorem lit_39 : (39 : Int32) = iI 39 := by rfl
theorem tn_39 : (39 : Int).toNat = 39 := by rfl
theorem lit_40 : (40 : Int32) = iI 40 := by rfl
theorem tn_40 : (40 : Int).toNat = 40 := by rfl
theorem lit_41 : (41 : Int32) = iI 41 := by rfl
theorem tn_41 : (41 : Int).toNat = 41 := by rfl
theorem lit_42 : (42 : Int32) = iI 42 := by rfl
theorem tn_42 : (42 : Int).toNat = 42 := by rfl
theorem lit_43 : (43 : Int32) = iI 43 := by rfl
theorem tn_43 : (43 : Int).toNat = 43 := by rfl
theorem lit_44 : (44 : Int32) = iI 44 := by rfl
theorem tn_44 : (44 : Int).toNat = 44 := by rfl
theorem lit_45 : (45 : Int32) = iI 45 := by rfl
theorem tn_45 : (45 : Int).toNat = 45 := by rfl
theorem lit_46 : (46 : Int32) = iI 46 := by rfl
theorem tn_46 : (46 : Int).toNat = 46 := by rfl
theorem lit_47 : (47 : Int32) = iI 47 := by rfl
theorem tn_47 : (47 : Int).toNat = 47 := by rfl
theorem lit_48 : (48 : Int32) = iI 48 := by rfl
theorem tn_48 : (48 : Int).toNat = 48 := by rfl
theorem lit_50 : (50 : Int32) = iI 50 := by rfl
theorem tn_50 : (50 : Int).toNat = 50 := by rfl
theorem lit_57 : (57 : Int32) = iI 57 := by rfl
theorem tn_57 : (57 : Int).toNat = 57 := by rfl
theorem lit_58 : (58 : Int32) = iI 58 := by rfl
theorem tn_58 : (58 : Int).toNat = 58 := by rfl
theorem lit_59 : (59 : Int32) = iI 59 := by rfl
theorem tn_59 : (59 : Int).toNat = 59 := by rfl
theorem lit_60 : (60 : Int32) = iI 60 := by rfl
theorem tn_60 : (60 : Int).toNat = 60 := by rfl
theorem lit_61 : (61 : Int32) = iI 61 := by rfl
theorem tn_61 : (61 : Int).toNat = 61 := by rfl
theorem lit_62 : (62 : Int32) = iI 62 := by rfl
theorem tn_62 : (62 : Int).toNat = 62 := by rfl
theorem lit_63 : (63 : Int32) = iI 63 := by rfl
theorem tn_63 : (63 : Int).toNat = 63 := by rfl
theorem lit_80 : (80 : Int32) = iI 80 := by rfl
theorem tn_80 : (80 : Int).toNat = 80 := by rfl
theorem lit_91 : (91 : Int32) = iI 91 := by rfl
theorem tn_91 : (91 : Int).toNat = 91 := by rfl
theorem lit_93 : (93 : Int32) = iI 93 := by rfl
theorem tn_93 : (93 : Int).toNat = 93 := by rfl
theorem lit_97 : (97 : Int32) = iI 97 := by rfl
theorem tn_97 : (97 : Int).toNat = 97 := by rfl
theorem lit_98 : (98 : Int32) = iI 98 := by rfl
theorem tn_98 : (98 : Int).toNat = 98 := by rfl
theorem lit_99 : (99 : Int32) = iI 99 := by rfl
theorem tn_99 : (99 : Int).toNat = 99 := by rfl
theorem lit_100 : (100 : Int32) = iI 100 := by rfl
theorem tn_100 : (100 : Int).toNat = 100 := by rfl
theorem lit_101 : (101 : Int32) = iI 101 := by rfl
theorem tn_101 : (101 : Int).toNat = 101 := by rfl
theorem lit_102 : (102 : Int32) = iI 102 := by rfl
theorem tn_102 : (102 : Int).toNat = 102 := by rfl
theorem lit_103 : (103 : Int32) = iI 103 := by rfl
theorem tn_103 : (103 : Int).toNat = 103 := by rfl
theorem lit_104 : (104 : Int32) = iI 104 := by rfl
theorem tn_104 : (104 : Int).toNat = 104 := by rfl
theorem lit_105 : (105 : Int32) = iI 105 := by rfl
theorem tn_105 : (105 : Int).toNat = 105 := by rfl
theorem lit_106 : (106 : Int32) = iI 106 := by rfl
theorem tn_106 : (106 : Int).toNat = 106 := by rfl
theorem lit_107 : (107 : Int32) = iI 107 := by rfl
theorem tn_107 : (107 : Int).toNat = 107 := by rfl
theorem lit_108 : (108 : Int32) = iI 108 := by rfl
theorem tn_108 : (108 : Int).toNat = 108 := by rfl
theorem lit_109 : (109 : Int32) = iI 109 := by rfl
theorem tn_109 : (109 : Int).toNat = 109 := by rfl
theorem lit_110 : (110 : Int32) = iI 110 := by rfl
theorem tn_110 : (110 : Int).toNat = 110 := by rfl
theorem lit_111 : (111 : Int32) = iI 111 := by rfl
theorem tn_111 : (111 : Int).toNat = 111 := by rfl
theorem lit_112 : (112 : Int32) = iI 112 := by rfl
theorem tn_112 : (112 : Int).toNat = 112 := by rfl
theorem lit_113 : (113 : Int32) = iI 113 := by rfl
theorem tn_113 : (113 : Int).toNat = 113 := by rfl
theorem lit_114 : (114 : Int32) = iI 114 := by rfl
theorem tn_114 : (114 : Int).toNat = 114 := by rfl
theorem lit_115 : (115 : Int32) = iI 115 := by rfl
theorem tn_115 : (115 : Int).toNat = 115 := by rfl
theorem lit_116 : (116 : Int32) = iI 116 := by rfl
theorem tn_116 : (116 : Int).toNat = 116 := by rfl
theorem lit_119 : (119 : Int32) = iI 119 := by rfl
theorem tn_119 : (119 : Int).toNat = 119 := by rfl
theorem lit_120 : (120 : Int32) = iI 120 := by rfl
theorem tn_120 : (120 : Int).toNat = 120 := by rfl
theorem lit_124 : (124 : Int32) = iI 124 := by rfl
theorem tn_124 : (124 : Int).toNat = 124 := by rfl
theorem lit_200 : (200 : Int32) = iI 200 := by rfl
theorem tn_200 : (200 : Int).toNat = 200 := by rfl
theorem lit_240 : (240 : Int32) = iI 240 := by rfl
theorem tn_240 : (240 : Int).toNat = 240 := by rfl
theorem lit_255 : (255 : Int32) = iI 255 := by rfl
theorem tn_255 : (255 : Int).toNat = 255 := by rfl
theorem lit_256 : (256 : Int32) = iI 256 := by rfl
theorem tn_256 : (256 : Int).toNat = 256 := by rfl
theorem lit_260 : (260 : Int32) = iI 260 := by rfl
theorem tn_260 : (260 : Int).toNat = 260 := by rfl
theorem lit_720 : (720 : Int32) = iI 720 := by rfl
theorem tn_720 : (720 : Int).toNat = 720 := by rfl
theorem lit_999 : (999 : Int32) = iI 999 := by rfl
theorem tn_999 : (999 : Int).toNat = 999 := by rfl
theorem lit_1000 : (1000 : Int32) = iI 1000 := by rfl
theorem tn_1000 : (1000 : Int).toNat = 1000 := by rfl
theorem lit_4096 : (4096 : Int32) = iI 4096 := by rfl
theorem tn_4096 : (4096 : Int).toNat = 4096 := by rfl
theorem lit_9999 : (9999 : Int32) = iI 9999 := by rfl
theorem tn_9999 : (9999 : Int).toNat = 9999 := by rfl
theorem lit_13849 : (13849 : Int32) = iI 13849 := by rfl
theorem tn_13849 : (13849 : Int).toNat = 13849 := by rfl
theorem lit_25173 : (25173 : Int32) = iI 25173 := by rfl
theorem tn_25173 : (25173 : Int).toNat = 25173 := by rfl
theorem lit_46656 : (46656 : Int32) = iI 46656 := by rfl
theorem tn_46656 : (46656 : Int).toNat = 46656 := by rfl
theorem lit_65535 : (65535 : Int32) = iI 65535 := by rfl
theorem tn_65535 : (65535 : Int).toNat = 65535 := by rfl
theorem lit_65536 : (65536 : Int32) = iI 65536 := by rfl
theorem tn_65536 : (65536 : Int).toNat = 65536 := by rfl
theorem lit_99999 : (99999 : Int32) = iI 99999 := by rfl
theorem tn_99999 : (99999 : Int).toNat = 99999 := by rfl
theorem lit_999999 : (999999 : Int32) = iI 999999 := by rfl
theorem tn_999999 : (999999 : Int).toNat = 999999 := by rfl
theorem lit_1048576 : (1048576 : Int32) = iI 1048576 := by rfl
theorem tn_1048576 : (1048576 : Int).toNat = 1048576 := by rfl
theorem lit_100000000 : (100000000 : Int32) = iI 100000000 := by rfl
theorem tn_100000000 : (100000000 : Int).toNat = 100000000 := by rfl
theorem lit_252645135 : (252645135 : Int32) = iI 252645135 := by rfl
theorem tn_252645135 : (252645135 : Int).toNat = 252645135 := by rfl
theorem lit_858993459 : (858993459 : Int32) = iI 858993459 := by rfl
theorem tn_858993459 : (858993459 : Int).toNat = 858993459 := by rfl
theorem lit_1000000000 : (1000000000 : Int32) = iI 1000000000 := by rfl
theorem tn_1000000000 : (1000000000 : Int).toNat = 1000000000 := by rfl
theorem lit_1431655765 : (1431655765 : Int32) = iI 1431655765 := by rfl
theorem tn_1431655765 : (1431655765 : Int).toNat = 1431655765 := by rfl

/-- the kinds of the ids -/
theorem kd_0 : kd 0 = (0, 10) := by rfl
theorem kd_1 : kd 1 = (1, 260) := by rfl
theorem kd_2 : kd 2 = (0, 8) := by rfl
theorem kd_3 : kd 3 = (1, 240) := by rfl
theorem kd_4 : kd 4 = (0, 5) := by rfl
theorem kd_5 : kd 5 = (1, 20) := by rfl
theorem kd_6 : kd 6 = (0, 3) := by rfl
theorem kd_7 : kd 7 = (1, 20) := by rfl
theorem kd_8 : kd 8 = (1, 20) := by rfl
theorem kd_9 : kd 9 = (1, 20) := by rfl
theorem kd_10 : kd 10 = (1, 20) := by rfl
theorem kd_11 : kd 11 = (0, 2) := by rfl
theorem kd_12 : kd 12 = (0, 1) := by rfl
theorem kd_13 : kd 13 = (1, 16) := by rfl
theorem kd_14 : kd 14 = (1, 16) := by rfl
theorem kd_15 : kd 15 = (1, 16) := by rfl
theorem kd_16 : kd 16 = (1, 16) := by rfl
theorem kd_17 : kd 17 = (1, 240) := by rfl
theorem kd_18 : kd 18 = (1, 240) := by rfl
theorem kd_19 : kd 19 = (1, 24) := by rfl
theorem kd_20 : kd 20 = (0, 9) := by rfl
theorem kd_21 : kd 21 = (0, 4) := by rfl
theorem kd_22 : kd 22 = (1, 21) := by rfl
theorem kd_23 : kd 23 = (0, 4) := by rfl
theorem kd_24 : kd 24 = (1, 21) := by rfl
theorem kd_25 : kd 25 = (0, 7) := by rfl
theorem kd_26 : kd 26 = (1, 40) := by rfl
theorem kd_27 : kd 27 = (1, 9) := by rfl
theorem kd_28 : kd 28 = (0, 1) := by rfl
theorem kd_29 : kd 29 = (1, 16) := by rfl
theorem kd_30 : kd 30 = (1, 16) := by rfl
theorem kd_31 : kd 31 = (1, 16) := by rfl
theorem kd_32 : kd 32 = (1, 16) := by rfl
theorem kd_33 : kd 33 = (1, 240) := by rfl
theorem kd_34 : kd 34 = (1, 240) := by rfl
theorem kd_35 : kd 35 = (1, 24) := by rfl
theorem kd_36 : kd 36 = (0, 7) := by rfl
theorem kd_37 : kd 37 = (1, 40) := by rfl
theorem kd_38 : kd 38 = (0, 7) := by rfl
theorem kd_39 : kd 39 = (1, 40) := by rfl
theorem kd_40 : kd 40 = (0, 0) := by rfl
theorem kd_41 : kd 41 = (1, 720) := by rfl
theorem kd_42 : kd 42 = (1, 720) := by rfl
theorem kd_43 : kd 43 = (0, 6) := by rfl
theorem kd_44 : kd 44 = (1, 21) := by rfl
theorem kd_45 : kd 45 = (1, 61) := by rfl
theorem kd_46 : kd 46 = (1, 10) := by rfl
theorem kd_47 : kd 47 = (1, 5) := by rfl
theorem kd_48 : kd 48 = (1, 5) := by rfl
theorem kd_49 : kd 49 = (0, 11) := by rfl
theorem kd_50 : kd 50 = (1, 47) := by rfl
theorem kd_51 : kd 51 = (1, 47) := by rfl
theorem kd_52 : kd 52 = (1, 47) := by rfl
theorem kd_53 : kd 53 = (1, 2) := by rfl
theorem kd_54 : kd 54 = (1, 40) := by rfl
theorem kd_55 : kd 55 = (2, 260) := by rfl
theorem kd_56 : kd 56 = (1, 260) := by rfl
theorem kd_57 : kd 57 = (1, 260) := by rfl
theorem kd_58 : kd 58 = (1, 16) := by rfl
theorem kd_59 : kd 59 = (1, 16) := by rfl
theorem kd_60 : kd 60 = (1, 16) := by rfl
theorem kd_61 : kd 61 = (1, 16) := by rfl
theorem kd_62 : kd 62 = (1, 260) := by rfl
theorem kd_63 : kd 63 = (1, 16) := by rfl
theorem kd_64 : kd 64 = (1, 16) := by rfl
theorem kd_65 : kd 65 = (1, 16) := by rfl
theorem kd_66 : kd 66 = (1, 16) := by rfl
theorem kd_67 : kd 67 = (1, 260) := by rfl
theorem kd_68 : kd 68 = (1, 9) := by rfl
theorem kd_69 : kd 69 = (1, 20) := by rfl
theorem kd_70 : kd 70 = (1, 2) := by rfl
theorem kd_71 : kd 71 = (1, 2) := by rfl
theorem kd_72 : kd 72 = (1, 2) := by rfl
theorem kd_73 : kd 73 = (1, 441) := by rfl
theorem kd_74 : kd 74 = (1, 61) := by rfl
theorem kd_75 : kd 75 = (1, 10) := by rfl
theorem kd_76 : kd 76 = (1, 5) := by rfl
theorem kd_77 : kd 77 = (1, 5) := by rfl
theorem kd_78 : kd 78 = (1, 46656) := by rfl
theorem kd_79 : kd 79 = (1, 720) := by rfl
theorem kd_80 : kd 80 = (1, 6) := by rfl
theorem kd_81 : kd 81 = (1, 7) := by rfl
/-- the references, s: the two laws are exchanged -/
def pr (s : Bool) : Nat → Nat → Option Nat := fun i f => match i, f with
  | 0, 0 => some 1
  | 0, 2 => some 2
  | 0, 3 => some 4
  | 0, 4 => some 6
  | 0, 5 => some 11
  | 0, 6 => some 20
  | 0, 7 => some 36
  | 0, 8 => some 38
  | 0, 9 => some 40
  | 0, 10 => some 43
  | 2, 0 => some 3
  | 4, 0 => some 5
  | 6, 0 => some 7
  | 6, 1 => some 8
  | 6, 2 => some 9
  | 6, 3 => some 10
  | 11, 0 => some (if s then 28 else 12)
  | 12, 0 => some 13
  | 12, 1 => some 14
  | 12, 2 => some 15
  | 12, 3 => some 16
  | 12, 4 => some 17
  | 12, 5 => some 18
  | 12, 6 => some 19
  | 20, 0 => some 21
  | 20, 1 => some 23
  | 20, 2 => some 25
  | 20, 3 => some 27
  | 20, 4 => some (if s then 12 else 28)
  | 21, 0 => some 22
  | 23, 0 => some 24
  | 25, 2 => some 26
  | 28, 0 => some 29
  | 28, 1 => some 30
  | 28, 2 => some 31
  | 28, 3 => some 32
  | 28, 4 => some 33
  | 28, 5 => some 34
  | 28, 6 => some 35
  | 36, 2 => some 37
  | 38, 2 => some 39
  | 40, 0 => some 41
  | 40, 1 => some 42
  | 43, 0 => some 44
  | 43, 1 => some 45
  | 43, 2 => some 46
  | 43, 3 => some 47
  | 43, 4 => some 48
  | 49, 0 => some 50
  | 49, 1 => some 51
  | 49, 2 => some 52
  | 49, 3 => some 53
  | 49, 4 => some 54
  | 49, 6 => some 55
  | 49, 17 => some 56
  | 49, 18 => some 57
  | 49, 19 => some 58
  | 49, 20 => some 59
  | 49, 21 => some 60
  | 49, 22 => some 61
  | 49, 23 => some 62
  | 49, 24 => some 63
  | 49, 25 => some 64
  | 49, 26 => some 65
  | 49, 27 => some 66
  | 49, 28 => some 67
  | 49, 29 => some 68
  | 49, 30 => some 69
  | 49, 31 => some 70
  | 49, 32 => some 71
  | 49, 33 => some 72
  | 49, 41 => some 73
  | 49, 42 => some 74
  | 49, 43 => some 75
  | 49, 44 => some 76
  | 49, 45 => some 77
  | 49, 46 => some 78
  | 49, 47 => some 79
  | 49, 48 => some 80
  | 49, 49 => some 81
  | _, _ => none
theorem pr_0_0 {s : Bool} : pr s 0 0 = some 1 := rfl
theorem pr_0_2 {s : Bool} : pr s 0 2 = some 2 := rfl
theorem pr_0_3 {s : Bool} : pr s 0 3 = some 4 := rfl
theorem pr_0_4 {s : Bool} : pr s 0 4 = some 6 := rfl
theorem pr_0_5 {s : Bool} : pr s 0 5 = some 11 := rfl
theorem pr_0_6 {s : Bool} : pr s 0 6 = some 20 := rfl
theorem pr_0_7 {s : Bool} : pr s 0 7 = some 36 := rfl
theorem pr_0_8 {s : Bool} : pr s 0 8 = some 38 := rfl
theorem pr_0_9 {s : Bool} : pr s 0 9 = some 40 := rfl
theorem pr_0_10 {s : Bool} : pr s 0 10 = some 43 := rfl
theorem pr_2_0 {s : Bool} : pr s 2 0 = some 3 := rfl
theorem pr_4_0 {s : Bool} : pr s 4 0 = some 5 := rfl
theorem pr_6_0 {s : Bool} : pr s 6 0 = some 7 := rfl
theorem pr_6_1 {s : Bool} : pr s 6 1 = some 8 := rfl
theorem pr_6_2 {s : Bool} : pr s 6 2 = some 9 := rfl
theorem pr_6_3 {s : Bool} : pr s 6 3 = some 10 := rfl
theorem pr_11_0 {s : Bool} : pr s 11 0 = some (if s then 28 else 12) := rfl
theorem pr_12_0 {s : Bool} : pr s 12 0 = some 13 := rfl
theorem pr_12_1 {s : Bool} : pr s 12 1 = some 14 := rfl
theorem pr_12_2 {s : Bool} : pr s 12 2 = some 15 := rfl
theorem pr_12_3 {s : Bool} : pr s 12 3 = some 16 := rfl
theorem pr_12_4 {s : Bool} : pr s 12 4 = some 17 := rfl
theorem pr_12_5 {s : Bool} : pr s 12 5 = some 18 := rfl
theorem pr_12_6 {s : Bool} : pr s 12 6 = some 19 := rfl
theorem pr_20_0 {s : Bool} : pr s 20 0 = some 21 := rfl
theorem pr_20_1 {s : Bool} : pr s 20 1 = some 23 := rfl
theorem pr_20_2 {s : Bool} : pr s 20 2 = some 25 := rfl
theorem pr_20_3 {s : Bool} : pr s 20 3 = some 27 := rfl
theorem pr_20_4 {s : Bool} : pr s 20 4 = some (if s then 12 else 28) := rfl
theorem pr_21_0 {s : Bool} : pr s 21 0 = some 22 := rfl
theorem pr_23_0 {s : Bool} : pr s 23 0 = some 24 := rfl
theorem pr_25_2 {s : Bool} : pr s 25 2 = some 26 := rfl
theorem pr_28_0 {s : Bool} : pr s 28 0 = some 29 := rfl
theorem pr_28_1 {s : Bool} : pr s 28 1 = some 30 := rfl
theorem pr_28_2 {s : Bool} : pr s 28 2 = some 31 := rfl
theorem pr_28_3 {s : Bool} : pr s 28 3 = some 32 := rfl
theorem pr_28_4 {s : Bool} : pr s 28 4 = some 33 := rfl
theorem pr_28_5 {s : Bool} : pr s 28 5 = some 34 := rfl
theorem pr_28_6 {s : Bool} : pr s 28 6 = some 35 := rfl
theorem pr_36_2 {s : Bool} : pr s 36 2 = some 37 := rfl
theorem pr_38_2 {s : Bool} : pr s 38 2 = some 39 := rfl
theorem pr_40_0 {s : Bool} : pr s 40 0 = some 41 := rfl
theorem pr_40_1 {s : Bool} : pr s 40 1 = some 42 := rfl
theorem pr_43_0 {s : Bool} : pr s 43 0 = some 44 := rfl
theorem pr_43_1 {s : Bool} : pr s 43 1 = some 45 := rfl
theorem pr_43_2 {s : Bool} : pr s 43 2 = some 46 := rfl
theorem pr_43_3 {s : Bool} : pr s 43 3 = some 47 := rfl
theorem pr_43_4 {s : Bool} : pr s 43 4 = some 48 := rfl
theorem pr_49_0 {s : Bool} : pr s 49 0 = some 50 := rfl
theorem pr_49_1 {s : Bool} : pr s 49 1 = some 51 := rfl
theorem pr_49_2 {s : Bool} : pr s 49 2 = some 52 := rfl
theorem pr_49_3 {s : Bool} : pr s 49 3 = some 53 := rfl
theorem pr_49_4 {s : Bool} : pr s 49 4 = some 54 := rfl
theorem pr_49_6 {s : Bool} : pr s 49 6 = some 55 := rfl
theorem pr_49_17 {s : Bool} : pr s 49 17 = some 56 := rfl
theorem pr_49_18 {s : Bool} : pr s 49 18 = some 57 := rfl
theorem pr_49_19 {s : Bool} : pr s 49 19 = some 58 := rfl
theorem pr_49_20 {s : Bool} : pr s 49 20 = some 59 := rfl
theorem pr_49_21 {s : Bool} : pr s 49 21 = some 60 := rfl
theorem pr_49_22 {s : Bool} : pr s 49 22 = some 61 := rfl
theorem pr_49_23 {s : Bool} : pr s 49 23 = some 62 := rfl
theorem pr_49_24 {s : Bool} : pr s 49 24 = some 63 := rfl
theorem pr_49_25 {s : Bool} : pr s 49 25 = some 64 := rfl
theorem pr_49_26 {s : Bool} : pr s 49 26 = some 65 := rfl
theorem pr_49_27 {s : Bool} : pr s 49 27 = some 66 := rfl
theorem pr_49_28 {s : Bool} : pr s 49 28 = some 67 := rfl
theorem pr_49_29 {s : Bool} : pr s 49 29 = some 68 := rfl
theorem pr_49_30 {s : Bool} : pr s 49 30 = some 69 := rfl
theorem pr_49_31 {s : Bool} : pr s 49 31 = some 70 := rfl
theorem pr_49_32 {s : Bool} : pr s 49 32 = some 71 := rfl
theorem pr_49_33 {s : Bool} : pr s 49 33 = some 72 := rfl
theorem pr_49_41 {s : Bool} : pr s 49 41 = some 73 := rfl
theorem pr_49_42 {s : Bool} : pr s 49 42 = some 74 := rfl
theorem pr_49_43 {s : Bool} : pr s 49 43 = some 75 := rfl
theorem pr_49_44 {s : Bool} : pr s 49 44 = some 76 := rfl
theorem pr_49_45 {s : Bool} : pr s 49 45 = some 77 := rfl
theorem pr_49_46 {s : Bool} : pr s 49 46 = some 78 := rfl
theorem pr_49_47 {s : Bool} : pr s 49 47 = some 79 := rfl
theorem pr_49_48 {s : Bool} : pr s 49 48 = some 80 := rfl
theorem pr_49_49 {s : Bool} : pr s 49 49 = some 81 := rfl
