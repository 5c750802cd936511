set_option maxRecDepth 100000 in
set_option maxHeartbeats 4000000 in
theorem S_X3_placeOf_0 {k : Kst} {d : Kdy} (o : Ok k d cX3_placeOf RX3 1 3) (F : Nat) {h : Hp} {x0 : Int32} {r : Int32} (hf : X3_placeOf F x0 h = some r) (hr : RI k d cX3_placeOf r h) : Wz k d h 0 [(0, .int x0)] [] := by
  unfold X3_placeOf at hf
  refine x_iload_n o dX3_placeOf_0 0 rfl rfl ?_
  obtain ⟨t_1, et_1, hf⟩ := bd_ex hf
  refine x_top et_1 ?_
  by_cases q_2 : t_1 = 97
  · replace hf := (if_pos q_2).symm.trans hf
    refine x_tabi (v := 97) o 98 q_2 (by decide) (by decide) rfl (by decide) dX3_placeOf_1 ?_
    refine x_iconst (v := 1) o dX3_placeOf_98 (by decide) ?_
    cases hf
    exact hr _ _ dX3_placeOf_99
  replace hf := (if_neg q_2).symm.trans hf
  by_cases q_3 : t_1 = 98
  · replace hf := (if_pos q_3).symm.trans hf
    refine x_tabi (v := 98) o 100 q_3 (by decide) (by decide) rfl (by decide) dX3_placeOf_1 ?_
    refine x_iconst (v := 2) o dX3_placeOf_100 (by decide) ?_
    cases hf
    exact hr _ _ dX3_placeOf_101
  replace hf := (if_neg q_3).symm.trans hf
  by_cases q_4 : t_1 = 99
  · replace hf := (if_pos q_4).symm.trans hf
    refine x_tabi (v := 99) o 117 q_4 (by decide) (by decide) rfl (by decide) dX3_placeOf_1 ?_
    refine x_iconst (v := (-1)) o dX3_placeOf_117 (by decide) ?_
    cases hf
    exact hr _ _ dX3_placeOf_118
  replace hf := (if_neg q_4).symm.trans hf
  by_cases q_5 : t_1 = 100
  · replace hf := (if_pos q_5).symm.trans hf
    refine x_tabi (v := 100) o 117 q_5 (by decide) (by decide) rfl (by decide) dX3_placeOf_1 ?_
    refine x_iconst (v := (-1)) o dX3_placeOf_117 (by decide) ?_
    cases hf
    exact hr _ _ dX3_placeOf_118
  replace hf := (if_neg q_5).symm.trans hf
  by_cases q_6 : t_1 = 101
  · replace hf := (if_pos q_6).symm.trans hf
    refine x_tabi (v := 101) o 96 q_6 (by decide) (by decide) rfl (by decide) dX3_placeOf_1 ?_
    refine x_iconst (v := 0) o dX3_placeOf_96 (by decide) ?_
    cases hf
    exact hr _ _ dX3_placeOf_97
  replace hf := (if_neg q_6).symm.trans hf
  by_cases q_7 : t_1 = 102
  · replace hf := (if_pos q_7).symm.trans hf
    refine x_tabi (v := 102) o 117 q_7 (by decide) (by decide) rfl (by decide) dX3_placeOf_1 ?_
    refine x_iconst (v := (-1)) o dX3_placeOf_117 (by decide) ?_
    cases hf
    exact hr _ _ dX3_placeOf_118
  replace hf := (if_neg q_7).symm.trans hf
  by_cases q_8 : t_1 = 103
  · replace hf := (if_pos q_8).symm.trans hf
    refine x_tabi (v := 103) o 102 q_8 (by decide) (by decide) rfl (by decide) dX3_placeOf_1 ?_
    refine x_iconst (v := 3) o dX3_placeOf_102 (by decide) ?_
    cases hf
    exact hr _ _ dX3_placeOf_103
  replace hf := (if_neg q_8).symm.trans hf
  by_cases q_9 : t_1 = 104
  · replace hf := (if_pos q_9).symm.trans hf
    refine x_tabi (v := 104) o 104 q_9 (by decide) (by decide) rfl (by decide) dX3_placeOf_1 ?_
    refine x_iconst (v := 4) o dX3_placeOf_104 (by decide) ?_
    cases hf
    exact hr _ _ dX3_placeOf_105
  replace hf := (if_neg q_9).symm.trans hf
  by_cases q_10 : t_1 = 105
  · replace hf := (if_pos q_10).symm.trans hf
    refine x_tabi (v := 105) o 117 q_10 (by decide) (by decide) rfl (by decide) dX3_placeOf_1 ?_
    refine x_iconst (v := (-1)) o dX3_placeOf_117 (by decide) ?_
    cases hf
    exact hr _ _ dX3_placeOf_118
  replace hf := (if_neg q_10).symm.trans hf
  by_cases q_11 : t_1 = 106
  · replace hf := (if_pos q_11).symm.trans hf
    refine x_tabi (v := 106) o 117 q_11 (by decide) (by decide) rfl (by decide) dX3_placeOf_1 ?_
    refine x_iconst (v := (-1)) o dX3_placeOf_117 (by decide) ?_
    cases hf
    exact hr _ _ dX3_placeOf_118
  replace hf := (if_neg q_11).symm.trans hf
  by_cases q_12 : t_1 = 107
  · replace hf := (if_pos q_12).symm.trans hf
    refine x_tabi (v := 107) o 108 q_12 (by decide) (by decide) rfl (by decide) dX3_placeOf_1 ?_
    refine x_bipush (v := 6) o dX3_placeOf_108 (by decide) ?_
    cases hf
    exact hr _ _ dX3_placeOf_110
  replace hf := (if_neg q_12).symm.trans hf
  by_cases q_13 : t_1 = 108
  · replace hf := (if_pos q_13).symm.trans hf
    refine x_tabi (v := 108) o 117 q_13 (by decide) (by decide) rfl (by decide) dX3_placeOf_1 ?_
    refine x_iconst (v := (-1)) o dX3_placeOf_117 (by decide) ?_
    cases hf
    exact hr _ _ dX3_placeOf_118
  replace hf := (if_neg q_13).symm.trans hf
  by_cases q_14 : t_1 = 109
  · replace hf := (if_pos q_14).symm.trans hf
    refine x_tabi (v := 109) o 117 q_14 (by decide) (by decide) rfl (by decide) dX3_placeOf_1 ?_
    refine x_iconst (v := (-1)) o dX3_placeOf_117 (by decide) ?_
    cases hf
    exact hr _ _ dX3_placeOf_118
  replace hf := (if_neg q_14).symm.trans hf
  by_cases q_15 : t_1 = 110
  · replace hf := (if_pos q_15).symm.trans hf
    refine x_tabi (v := 110) o 117 q_15 (by decide) (by decide) rfl (by decide) dX3_placeOf_1 ?_
    refine x_iconst (v := (-1)) o dX3_placeOf_117 (by decide) ?_
    cases hf
    exact hr _ _ dX3_placeOf_118
  replace hf := (if_neg q_15).symm.trans hf
  by_cases q_16 : t_1 = 111
  · replace hf := (if_pos q_16).symm.trans hf
    refine x_tabi (v := 111) o 117 q_16 (by decide) (by decide) rfl (by decide) dX3_placeOf_1 ?_
    refine x_iconst (v := (-1)) o dX3_placeOf_117 (by decide) ?_
    cases hf
    exact hr _ _ dX3_placeOf_118
  replace hf := (if_neg q_16).symm.trans hf
  by_cases q_17 : t_1 = 112
  · replace hf := (if_pos q_17).symm.trans hf
    refine x_tabi (v := 112) o 117 q_17 (by decide) (by decide) rfl (by decide) dX3_placeOf_1 ?_
    refine x_iconst (v := (-1)) o dX3_placeOf_117 (by decide) ?_
    cases hf
    exact hr _ _ dX3_placeOf_118
  replace hf := (if_neg q_17).symm.trans hf
  by_cases q_18 : t_1 = 113
  · replace hf := (if_pos q_18).symm.trans hf
    refine x_tabi (v := 113) o 117 q_18 (by decide) (by decide) rfl (by decide) dX3_placeOf_1 ?_
    refine x_iconst (v := (-1)) o dX3_placeOf_117 (by decide) ?_
    cases hf
    exact hr _ _ dX3_placeOf_118
  replace hf := (if_neg q_18).symm.trans hf
  by_cases q_19 : t_1 = 114
  · replace hf := (if_pos q_19).symm.trans hf
    refine x_tabi (v := 114) o 114 q_19 (by decide) (by decide) rfl (by decide) dX3_placeOf_1 ?_
    refine x_bipush (v := 8) o dX3_placeOf_114 (by decide) ?_
    cases hf
    exact hr _ _ dX3_placeOf_116
  replace hf := (if_neg q_19).symm.trans hf
  by_cases q_20 : t_1 = 115
  · replace hf := (if_pos q_20).symm.trans hf
    refine x_tabi (v := 115) o 106 q_20 (by decide) (by decide) rfl (by decide) dX3_placeOf_1 ?_
    refine x_iconst (v := 5) o dX3_placeOf_106 (by decide) ?_
    cases hf
    exact hr _ _ dX3_placeOf_107
  replace hf := (if_neg q_20).symm.trans hf
  by_cases q_21 : t_1 = 116
  · replace hf := (if_pos q_21).symm.trans hf
    refine x_tabi (v := 116) o 111 q_21 (by decide) (by decide) rfl (by decide) dX3_placeOf_1 ?_
    refine x_bipush (v := 7) o dX3_placeOf_111 (by decide) ?_
    cases hf
    exact hr _ _ dX3_placeOf_113
  replace hf := (if_neg q_21).symm.trans hf
  refine x_tabo o 117 (by have z97 := lv_neT (a := 97) q_2 rfl; have z98 := lv_neT (a := 98) q_3 rfl; have z99 := lv_neT (a := 99) q_4 rfl; have z100 := lv_neT (a := 100) q_5 rfl; have z101 := lv_neT (a := 101) q_6 rfl; have z102 := lv_neT (a := 102) q_7 rfl; have z103 := lv_neT (a := 103) q_8 rfl; have z104 := lv_neT (a := 104) q_9 rfl; have z105 := lv_neT (a := 105) q_10 rfl; have z106 := lv_neT (a := 106) q_11 rfl; have z107 := lv_neT (a := 107) q_12 rfl; have z108 := lv_neT (a := 108) q_13 rfl; have z109 := lv_neT (a := 109) q_14 rfl; have z110 := lv_neT (a := 110) q_15 rfl; have z111 := lv_neT (a := 111) q_16 rfl; have z112 := lv_neT (a := 112) q_17 rfl; have z113 := lv_neT (a := 113) q_18 rfl; have z114 := lv_neT (a := 114) q_19 rfl; have z115 := lv_neT (a := 115) q_20 rfl; have z116 := lv_neT (a := 116) q_21 rfl; omega) (by decide) dX3_placeOf_1 ?_
  refine x_iconst (v := (-1)) o dX3_placeOf_117 (by decide) ?_
  cases hf
  exact hr _ _ dX3_placeOf_118
theorem C_X3_placeOf {k : Kst} (hj : Dj k) (hn : kn k = kdl.length) (F : Nat) {h : Hp} {x0 : Int32} {r : Int32} (hf : X3_placeOf F x0 h = some r) : MI k 3 yX3_placeOf cX3_placeOf 1 (some .int) [.int x0] h r h := mI hj hn (by decide +kernel) (Nat.le_of_ble_eq_true rfl) (fun d o hr => S_X3_placeOf_0 o F hf hr)
set_option maxRecDepth 100000 in
set_option maxHeartbeats 4000000 in
theorem S_X9_either_37 {k : Kst} {d : Kdy} (o : Ok k d cX9_either RX9 5 4) (F : Nat) {h : Hp} {a0 : Nat} {x4 : Int32} {r : Int32} {h1 : Hp} (hf : X9_either_37 F a0 x4 h = some (r, h1)) (hr : RI k d cX9_either r h1) : Wz k d h 37 [(0, .ref (ka k a0)), (4, .int x4)] [] := by
  unfold X9_either_37 at hf
  refine x_aload_n o dX9_either_37 0 rfl rfl ?_
  refine x_dup o dX9_either_38 rfl ?_
  obtain ⟨k_1, hf⟩ := gq_ex hf
  refine gRX9_34 o k_1 dX9_either_39 ?_
  refine x_iconst (v := 1) o dX9_either_42 (by decide) ?_
  refine x_iadd o dX9_either_43 ?_
  obtain ⟨h_2, eh_2, hf⟩ := bd_ex hf
  refine pRX9_34 o k_1 eh_2 dX9_either_44 ?_
  refine x_iload o dX9_either_47 1 rfl ?_
  cases hf
  exact hr _ _ dX9_either_49
set_option maxRecDepth 100000 in
set_option maxHeartbeats 4000000 in
theorem S_X9_either_0 {k : Kst} {d : Kdy} (o : Ok k d cX9_either RX9 5 4) (F : Nat) {h : Hp} {a0 : Nat} {x1 : Int32} {x2 : Int32} {x3 : Int32} {r : Int32} {h1 : Hp} (hf : X9_either F a0 x1 x2 x3 h = some (r, h1)) (hr : RI k d cX9_either r h1) : Wz k d h 0 [(0, .ref (ka k a0)), (1, .int x1), (2, .int x2), (3, .int x3)] [] := by
  unfold X9_either at hf
  refine x_aload_n o dX9_either_0 0 rfl rfl ?_
  refine x_aload_n o dX9_either_1 0 rfl rfl ?_
  obtain ⟨k_1, hf⟩ := gq_ex hf
  refine gRX9_34 o k_1 dX9_either_2 ?_
  obtain ⟨c_2, ec_2, hf⟩ := ob_ex hf
  refine vRX9_40 [.int (h.1 a0 2)] [] o (C_X9_at o.1.2.2.2.2.2.2.1 o.2 F ec_2) (by decide) k_1 rfl rfl (Nat.le_of_ble_eq_true rfl) dX9_either_5 ?_
  refine x_istore o dX9_either_8 (by decide) [(4, .int c_2), (0, .ref (ka k a0)), (1, .int x1), (2, .int x2), (3, .int x3)] rfl ?_
  refine x_aload_n o dX9_either_10 1 rfl rfl ?_
  obtain ⟨c_4, ec_4, hf⟩ := ob_ex hf
  refine vRX9_44 [] [] o (C_X9_sound o.1.2.2.2.2.2.2.1 o.2 F ec_4) (by decide) k_1 rfl rfl (Nat.le_of_ble_eq_true rfl) dX9_either_11 ?_
  refine x_if_eq o 35 dX9_either_14 (by decide) (fun q_6 => ?_) (fun q_6 => ?_)
  · replace hf := (if_pos q_6).symm.trans hf
    refine x_iconst (v := 0) o dX9_either_35 (by decide) ?_
    cases hf
    exact hr _ _ dX9_either_36
  · replace hf := (if_neg q_6).symm.trans hf
    refine x_iload o dX9_either_17 0 rfl ?_
    refine x_iload_n o dX9_either_19 2 rfl rfl ?_
    refine x_icmp_eq o 37 dX9_either_20 (by decide) (fun q_7 => ?_) (fun q_7 => ?_)
    · replace hf := (if_pos q_7).symm.trans hf
      refine x_sub [1, 0] [(0, .ref (ka k a0)), (4, .int c_2)] rfl ?_
      exact S_X9_either_37 o F hf hr
    · replace hf := (if_neg q_7).symm.trans hf
      refine x_iload o dX9_either_23 0 rfl ?_
      refine x_iload_n o dX9_either_25 3 rfl rfl ?_
      refine x_icmp_eq o 37 dX9_either_26 (by decide) (fun q_8 => ?_) (fun q_8 => ?_)
      · replace hf := (if_pos q_8).symm.trans hf
        refine x_sub [1, 0] [(0, .ref (ka k a0)), (4, .int c_2)] rfl ?_
        exact S_X9_either_37 o F hf hr
      · replace hf := (if_neg q_8).symm.trans hf
        refine x_iload o dX9_either_29 0 rfl ?_
        refine x_iload_n o dX9_either_31 4 rfl rfl ?_
        refine x_icmp_eq o 37 dX9_either_32 (by decide) (fun q_9 => ?_) (fun q_9 => ?_)
        · replace hf := (if_pos q_9).symm.trans hf
          refine x_sub [1, 0] [(0, .ref (ka k a0)), (4, .int c_2)] rfl ?_
          exact S_X9_either_37 o F hf hr
        · replace hf := (if_neg q_9).symm.trans hf
          refine x_iconst (v := 0) o dX9_either_35 (by decide) ?_
          cases hf
          exact hr _ _ dX9_either_36
theorem C_X9_either {k : Kst} (hj : Dj k) (hn : kn k = kdl.length) (F : Nat) {h : Hp} {a0 : Nat} {x1 : Int32} {x2 : Int32} {x3 : Int32} {r : Int32} {h1 : Hp} (hf : X9_either F a0 x1 x2 x3 h = some (r, h1)) : MI k 4 yX9_either cX9_either 5 (some .int) [.ref (ka k a0), .int x1, .int x2, .int x3] h r h1 := mI hj hn (by decide +kernel) (Nat.le_of_ble_eq_true rfl) (fun d o hr => S_X9_either_0 o F hf hr)
set_option maxRecDepth 100000 in
set_option maxHeartbeats 4000000 in
theorem S_X2_readFactor_0 {k : Kst} {d : Kdy} {lev : Nat} (o : Ok k d cX2_readFactor RX2 4 lev) (F : Nat) {rc : Nat → Nat → Nat → Int32 → Hp → Option Hp} {lv : Nat} (hb : 6 ≤ lev) (hlv : lv + 1 ≤ lev) (hrc_0 : ∀ {a0 : Nat} {a1 : Nat} {x2 : Int32} {h : Hp} {h1 : Hp}, rc 0 a0 a1 x2 h = some h1 → MV k lv yX2_readFactor cX2_readFactor 4 [.ref (ka k a0), .ref (ka k a1), .int x2] h h1) (hrc_1 : ∀ {a0 : Nat} {a1 : Nat} {x2 : Int32} {h : Hp} {h1 : Hp}, rc 1 a0 a1 x2 h = some h1 → MV k lv yX2_readProduct cX2_readProduct 5 [.ref (ka k a0), .ref (ka k a1), .int x2] h h1) (hrc_2 : ∀ {a0 : Nat} {a1 : Nat} {x2 : Int32} {h : Hp} {h1 : Hp}, rc 2 a0 a1 x2 h = some h1 → MV k lv yX2_readSum cX2_readSum 5 [.ref (ka k a0), .ref (ka k a1), .int x2] h h1) {h : Hp} {a0 : Nat} {a1 : Nat} {x2 : Int32} {h1 : Hp} (hf : X2_readFactor F rc a0 a1 x2 h = some h1) (hr : RV k d cX2_readFactor h1) : Wz k d h 0 [(0, .ref (ka k a0)), (1, .ref (ka k a1)), (2, .int x2)] [] := by
  unfold X2_readFactor at hf
  refine x_aload_n o dX2_readFactor_0 1 rfl rfl ?_
  obtain ⟨k_1, hf⟩ := gq_ex hf
  obtain ⟨c_2, ec_2, hf⟩ := ob_ex hf
  refine vRX2_34 [] [] o (C_X9_sign o.1.2.2.2.2.2.2.1 o.2 F ec_2) (by omega) k_1 rfl rfl (Nat.le_of_ble_eq_true rfl) dX2_readFactor_1 ?_
  refine x_bipush (v := 91) o dX2_readFactor_4 (by decide) ?_
  refine x_icmp_ne o 34 dX2_readFactor_6 (by decide) (fun q_4 => ?_) (fun q_4 => ?_)
  · replace hf := (if_neg q_4).symm.trans hf
    refine x_aload_n o dX2_readFactor_34 1 rfl rfl ?_
    obtain ⟨c_5, ec_5, hf⟩ := ob_ex hf
    refine vRX2_96 [] [] o (C_X9_digit o.1.2.2.2.2.2.2.1 o.2 F ec_5) (by omega) k_1 rfl rfl (Nat.le_of_ble_eq_true rfl) dX2_readFactor_35 ?_
    refine x_if_eq o 59 dX2_readFactor_38 (by decide) (fun q_7 => ?_) (fun q_7 => ?_)
    · replace hf := (if_pos q_7).symm.trans hf
      refine x_aload_n o dX2_readFactor_59 1 rfl rfl ?_
      obtain ⟨c_8, ec_8, hf⟩ := ob_ex hf
      refine vRX2_34 [] [] o (C_X9_sign o.1.2.2.2.2.2.2.1 o.2 F ec_8) (by omega) k_1 rfl rfl (Nat.le_of_ble_eq_true rfl) dX2_readFactor_60 ?_
      obtain ⟨c_10, ec_10, hf⟩ := ob_ex hf
      refine vRX2_104 [.int c_8] [] o (C_X3_placeOf o.1.2.2.2.2.2.2.1 o.2 F ec_10) (by omega) rfl rfl (Nat.le_of_ble_eq_true rfl) dX2_readFactor_63 ?_
      refine x_istore_n o dX2_readFactor_66 (by decide) rfl [(3, .int c_10), (0, .ref (ka k a0)), (1, .ref (ka k a1)), (2, .int x2)] rfl ?_
      refine x_iload_n o dX2_readFactor_67 0 rfl rfl ?_
      refine x_if_ge o 83 dX2_readFactor_68 (by decide) (fun q_12 => ?_) (fun q_12 => ?_)
      · replace hf := (if_pos q_12).symm.trans hf
        refine x_aload_n o dX2_readFactor_83 2 rfl rfl ?_
        refine x_dup o dX2_readFactor_84 rfl ?_
        refine gRX2_38 o k_1 dX2_readFactor_85 ?_
        refine x_iconst (v := 1) o dX2_readFactor_88 (by decide) ?_
        refine x_iadd o dX2_readFactor_89 ?_
        obtain ⟨h_13, eh_13, hf⟩ := bd_ex hf
        refine pRX2_38 o k_1 eh_13 dX2_readFactor_90 ?_
        refine x_aload_n o dX2_readFactor_93 1 rfl rfl ?_
        obtain ⟨k_14, hf⟩ := gq_ex hf
        obtain ⟨j_15, ej_15, hf⟩ := ob_ex hf
        refine gRX2_12 o k_14 ej_15 dX2_readFactor_94 ?_
        refine x_bipush (v := 97) o dX2_readFactor_97 (by decide) ?_
        refine x_iload_n o dX2_readFactor_99 0 rfl rfl ?_
        obtain ⟨k_16, hf⟩ := gq_ex hf
        obtain ⟨c_17, h_18, ec_17, hf⟩ := bq_ex hf
        refine vRX2_72 [.int 97, .int c_10] [] o (C_X1_add o.1.2.2.2.2.2.2.1 o.2 F ec_17) (by omega) k_16 rfl rfl (Nat.le_of_ble_eq_true rfl) dX2_readFactor_100 ?_
        refine x_pop o dX2_readFactor_103 rfl ?_
        cases hf
        exact hr _ _ dX2_readFactor_104
      · replace hf := (if_neg q_12).symm.trans hf
        refine x_aload_n o dX2_readFactor_71 2 rfl rfl ?_
        refine x_iconst (v := 1) o dX2_readFactor_72 (by decide) ?_
        refine x_aload_n o dX2_readFactor_73 2 rfl rfl ?_
        refine gRX2_38 o k_1 dX2_readFactor_74 ?_
        obtain ⟨h_20, eh_20, hf⟩ := ob_ex hf
        refine vRX2_42 [.int 1, .int (h.1 a1 2)] [] o (C_X9_refuse o.1.2.2.2.2.2.2.1 o.2 F eh_20) (by omega) k_1 rfl rfl (Nat.le_of_ble_eq_true rfl) dX2_readFactor_77 ?_
        refine x_goto o 104 dX2_readFactor_80 (by decide) ?_
        cases hf
        exact hr _ _ dX2_readFactor_104
    · replace hf := (if_neg q_7).symm.trans hf
      refine x_aload_n o dX2_readFactor_41 0 rfl rfl ?_
      obtain ⟨k_21, hf⟩ := gq_ex hf
      obtain ⟨j_22, ej_22, hf⟩ := ob_ex hf
      refine gRX2_12 o k_21 ej_22 dX2_readFactor_42 ?_
      refine x_bipush (v := 48) o dX2_readFactor_45 (by decide) ?_
      refine x_aload_n o dX2_readFactor_47 1 rfl rfl ?_
      refine x_iconst (v := 5) o dX2_readFactor_48 (by decide) ?_
      obtain ⟨c_23, h_24, ec_23, hf⟩ := bq_ex hf
      refine vRX2_100 [.int 5] [.int 48, .ref (ka k j_22)] o (C_X9_readNumber o.1.2.2.2.2.2.2.1 o.2 F ec_23) (by omega) k_1 rfl rfl (Nat.le_of_ble_eq_true rfl) dX2_readFactor_49 ?_
      obtain ⟨k_25, hf⟩ := gq_ex hf
      obtain ⟨c_26, h_27, ec_26, hf⟩ := bq_ex hf
      refine vRX2_72 [.int 48, .int c_23] [] o (C_X1_add o.1.2.2.2.2.2.2.1 o.2 F ec_26) (by omega) k_25 rfl rfl (Nat.le_of_ble_eq_true rfl) dX2_readFactor_52 ?_
      refine x_pop o dX2_readFactor_55 rfl ?_
      refine x_goto o 104 dX2_readFactor_56 (by decide) ?_
      cases hf
      exact hr _ _ dX2_readFactor_104
  · replace hf := (if_pos q_4).symm.trans hf
    refine x_aload_n o dX2_readFactor_9 1 rfl rfl ?_
    refine x_iload_n o dX2_readFactor_10 2 rfl rfl ?_
    obtain ⟨c_28, h_29, ec_28, hf⟩ := bq_ex hf
    refine vRX2_82 [.ref (ka k a1), .int x2] [] o (C_X2_opens o.1.2.2.2.2.2.2.1 o.2 F ec_28) (by omega) rfl rfl (Nat.le_of_ble_eq_true rfl) dX2_readFactor_11 ?_
    refine x_if_eq o 104 dX2_readFactor_14 (by decide) (fun q_30 => ?_) (fun q_30 => ?_)
    · replace hf := (if_pos q_30).symm.trans hf
      cases hf
      exact hr _ _ dX2_readFactor_104
    · replace hf := (if_neg q_30).symm.trans hf
      refine x_aload_n o dX2_readFactor_17 0 rfl rfl ?_
      refine x_aload_n o dX2_readFactor_18 1 rfl rfl ?_
      refine x_iload_n o dX2_readFactor_19 2 rfl rfl ?_
      refine x_iconst (v := 1) o dX2_readFactor_20 (by decide) ?_
      refine x_iadd o dX2_readFactor_21 ?_
      obtain ⟨k_31, hf⟩ := gq_ex hf
      obtain ⟨h_33, eh_33, hf⟩ := ob_ex hf
      refine vRX2_53 [.ref (ka k a1), .int (x2 + 1)] [] o (hrc_2 eh_33) hlv k_31 rfl rfl (Nat.le_of_ble_eq_true rfl) dX2_readFactor_22 ?_
      refine x_aload_n o dX2_readFactor_25 1 rfl rfl ?_
      refine x_bipush (v := 93) o dX2_readFactor_26 (by decide) ?_
      obtain ⟨h_35, eh_35, hf⟩ := ob_ex hf
      refine vRX2_60 [.int 93] [] o (C_X9_pass o.1.2.2.2.2.2.2.1 o.2 F eh_35) (by omega) k_1 rfl rfl (Nat.le_of_ble_eq_true rfl) dX2_readFactor_28 ?_
      refine x_goto o 104 dX2_readFactor_31 (by decide) ?_
      cases hf
      exact hr _ _ dX2_readFactor_104
set_option maxRecDepth 100000 in
set_option maxHeartbeats 4000000 in
theorem S_X2_readProduct_20 {k : Kst} {d : Kdy} {lev : Nat} (o : Ok k d cX2_readProduct RX2 5 lev) (F : Nat) {rc : Nat → Nat → Nat → Int32 → Hp → Option Hp} {lv : Nat} (hb : 6 ≤ lev) (hlv : lv + 1 ≤ lev) (hrc_0 : ∀ {a0 : Nat} {a1 : Nat} {x2 : Int32} {h : Hp} {h1 : Hp}, rc 0 a0 a1 x2 h = some h1 → MV k lv yX2_readFactor cX2_readFactor 4 [.ref (ka k a0), .ref (ka k a1), .int x2] h h1) (hrc_1 : ∀ {a0 : Nat} {a1 : Nat} {x2 : Int32} {h : Hp} {h1 : Hp}, rc 1 a0 a1 x2 h = some h1 → MV k lv yX2_readProduct cX2_readProduct 5 [.ref (ka k a0), .ref (ka k a1), .int x2] h h1) (hrc_2 : ∀ {a0 : Nat} {a1 : Nat} {x2 : Int32} {h : Hp} {h1 : Hp}, rc 2 a0 a1 x2 h = some h1 → MV k lv yX2_readSum cX2_readSum 5 [.ref (ka k a0), .ref (ka k a1), .int x2] h h1) : ∀ (f : Nat) {h : Hp} {a0 : Nat} {a1 : Nat} {x2 : Int32} {x3 : Int32} {x4 : Int32} {h1 : Hp}, X2_readProduct_20 F rc f a0 a1 x2 x3 x4 h = some h1 → RV k d cX2_readProduct h1 → Wz k d h 20 [(0, .ref (ka k a0)), (1, .ref (ka k a1)), (2, .int x2), (3, .int x3), (4, .int x4)] [] := by
  intro f
  induction f with
  | zero =>
    intro h a0 a1 x2 x3 x4 h1 hf hr
    exact nomatch (show (none : Option _) = some _ from hf)
  | succ f ih =>
    intro h a0 a1 x2 x3 x4 h1 hf hr
    rw [X2_readProduct_20] at hf
    refine x_iload o dX2_readProduct_20 4 rfl ?_
    refine x_sipush (v := 240) o dX2_readProduct_22 (by decide) ?_
    refine x_icmp_ge o 65 dX2_readProduct_25 (by decide) (fun q_1 => ?_) (fun q_1 => ?_)
    · replace hf := (if_pos q_1).symm.trans hf
      cases hf
      exact hr _ _ dX2_readProduct_65
    · replace hf := (if_neg q_1).symm.trans hf
      refine x_iload_n o dX2_readProduct_28 3 rfl rfl ?_
      refine x_if_eq o 65 dX2_readProduct_29 (by decide) (fun q_2 => ?_) (fun q_2 => ?_)
      · replace hf := (if_pos q_2).symm.trans hf
        cases hf
        exact hr _ _ dX2_readProduct_65
      · replace hf := (if_neg q_2).symm.trans hf
        refine x_aload_n o dX2_readProduct_32 0 rfl rfl ?_
        refine x_aload_n o dX2_readProduct_33 1 rfl rfl ?_
        refine x_iload_n o dX2_readProduct_34 2 rfl rfl ?_
        obtain ⟨k_3, hf⟩ := gq_ex hf
        obtain ⟨h_5, eh_5, hf⟩ := ob_ex hf
        refine vRX2_93 [.ref (ka k a1), .int x2] [] o (hrc_0 eh_5) hlv k_3 rfl rfl (Nat.le_of_ble_eq_true rfl) dX2_readProduct_35 ?_
        refine x_aload_n o dX2_readProduct_38 0 rfl rfl ?_
        obtain ⟨j_6, ej_6, hf⟩ := ob_ex hf
        refine gRX2_12 o k_3 ej_6 dX2_readProduct_39 ?_
        refine x_iload_n o dX2_readProduct_42 3 rfl rfl ?_
        refine x_iconst (v := 0) o dX2_readProduct_43 (by decide) ?_
        obtain ⟨k_7, hf⟩ := gq_ex hf
        obtain ⟨c_8, h_9, ec_8, hf⟩ := bq_ex hf
        refine vRX2_72 [.int x3, .int 0] [] o (C_X1_add o.1.2.2.2.2.2.2.1 o.2 F ec_8) (by omega) k_7 rfl rfl (Nat.le_of_ble_eq_true rfl) dX2_readProduct_44 ?_
        refine x_pop o dX2_readProduct_47 rfl ?_
        refine x_aload_n o dX2_readProduct_48 1 rfl rfl ?_
        refine x_bipush (v := 42) o dX2_readProduct_49 (by decide) ?_
        refine x_bipush (v := 47) o dX2_readProduct_51 (by decide) ?_
        refine x_bipush (v := 37) o dX2_readProduct_53 (by decide) ?_
        obtain ⟨k_10, hf⟩ := gq_ex hf
        obtain ⟨c_11, h_12, ec_11, hf⟩ := bq_ex hf
        refine vRX2_86 [.int 42, .int 47, .int 37] [] o (C_X9_either o.1.2.2.2.2.2.2.1 o.2 F ec_11) (by omega) k_10 rfl rfl (Nat.le_of_ble_eq_true rfl) dX2_readProduct_55 ?_
        refine x_istore_n o dX2_readProduct_58 (by decide) rfl [(3, .int c_11), (0, .ref (ka k a0)), (1, .ref (ka k a1)), (2, .int x2), (4, .int x4)] rfl ?_
        obtain ⟨x4_13, ex4_13, hf⟩ := bd_ex hf
        refine x_iinc o dX2_readProduct_59 (by decide) 4 rfl ex4_13.symm [(4, .int x4_13), (3, .int c_11), (0, .ref (ka k a0)), (1, .ref (ka k a1)), (2, .int x2)] rfl ?_
        refine x_goto o 20 dX2_readProduct_62 (by decide) ?_
        refine x_sub [2, 3, 4, 1, 0] [(0, .ref (ka k a0)), (1, .ref (ka k a1)), (2, .int x2), (3, .int c_11), (4, .int x4_13)] rfl ?_
        exact ih hf hr
set_option maxRecDepth 100000 in
set_option maxHeartbeats 4000000 in
theorem S_X2_readProduct_0 {k : Kst} {d : Kdy} {lev : Nat} (o : Ok k d cX2_readProduct RX2 5 lev) (F : Nat) {rc : Nat → Nat → Nat → Int32 → Hp → Option Hp} {lv : Nat} (hb : 6 ≤ lev) (hlv : lv + 1 ≤ lev) (hrc_0 : ∀ {a0 : Nat} {a1 : Nat} {x2 : Int32} {h : Hp} {h1 : Hp}, rc 0 a0 a1 x2 h = some h1 → MV k lv yX2_readFactor cX2_readFactor 4 [.ref (ka k a0), .ref (ka k a1), .int x2] h h1) (hrc_1 : ∀ {a0 : Nat} {a1 : Nat} {x2 : Int32} {h : Hp} {h1 : Hp}, rc 1 a0 a1 x2 h = some h1 → MV k lv yX2_readProduct cX2_readProduct 5 [.ref (ka k a0), .ref (ka k a1), .int x2] h h1) (hrc_2 : ∀ {a0 : Nat} {a1 : Nat} {x2 : Int32} {h : Hp} {h1 : Hp}, rc 2 a0 a1 x2 h = some h1 → MV k lv yX2_readSum cX2_readSum 5 [.ref (ka k a0), .ref (ka k a1), .int x2] h h1) {h : Hp} {a0 : Nat} {a1 : Nat} {x2 : Int32} {h1 : Hp} (hf : X2_readProduct F rc a0 a1 x2 h = some h1) (hr : RV k d cX2_readProduct h1) : Wz k d h 0 [(0, .ref (ka k a0)), (1, .ref (ka k a1)), (2, .int x2)] [] := by
  unfold X2_readProduct at hf
  refine x_aload_n o dX2_readProduct_0 0 rfl rfl ?_
  refine x_aload_n o dX2_readProduct_1 1 rfl rfl ?_
  refine x_iload_n o dX2_readProduct_2 2 rfl rfl ?_
  obtain ⟨k_1, hf⟩ := gq_ex hf
  obtain ⟨h_3, eh_3, hf⟩ := ob_ex hf
  refine vRX2_93 [.ref (ka k a1), .int x2] [] o (hrc_0 eh_3) hlv k_1 rfl rfl (Nat.le_of_ble_eq_true rfl) dX2_readProduct_3 ?_
  refine x_aload_n o dX2_readProduct_6 1 rfl rfl ?_
  refine x_bipush (v := 42) o dX2_readProduct_7 (by decide) ?_
  refine x_bipush (v := 47) o dX2_readProduct_9 (by decide) ?_
  refine x_bipush (v := 37) o dX2_readProduct_11 (by decide) ?_
  obtain ⟨k_4, hf⟩ := gq_ex hf
  obtain ⟨c_5, h_6, ec_5, hf⟩ := bq_ex hf
  refine vRX2_86 [.int 42, .int 47, .int 37] [] o (C_X9_either o.1.2.2.2.2.2.2.1 o.2 F ec_5) (by omega) k_4 rfl rfl (Nat.le_of_ble_eq_true rfl) dX2_readProduct_13 ?_
  refine x_istore_n o dX2_readProduct_16 (by decide) rfl [(3, .int c_5), (0, .ref (ka k a0)), (1, .ref (ka k a1)), (2, .int x2)] rfl ?_
  refine x_iconst (v := 0) o dX2_readProduct_17 (by decide) ?_
  refine x_istore o dX2_readProduct_18 (by decide) [(4, .int 0), (3, .int c_5), (0, .ref (ka k a0)), (1, .ref (ka k a1)), (2, .int x2)] rfl ?_
  refine x_sub [2, 3, 4, 1, 0] [(0, .ref (ka k a0)), (1, .ref (ka k a1)), (2, .int x2), (3, .int c_5), (4, .int 0)] rfl ?_
  exact S_X2_readProduct_20 o F hb hlv hrc_0 hrc_1 hrc_2 _ hf hr
set_option maxRecDepth 100000 in
set_option maxHeartbeats 4000000 in
theorem S_X2_readSum_20 {k : Kst} {d : Kdy} {lev : Nat} (o : Ok k d cX2_readSum RX2 5 lev) (F : Nat) {rc : Nat → Nat → Nat → Int32 → Hp → Option Hp} {lv : Nat} (hb : 6 ≤ lev) (hlv : lv + 1 ≤ lev) (hrc_0 : ∀ {a0 : Nat} {a1 : Nat} {x2 : Int32} {h : Hp} {h1 : Hp}, rc 0 a0 a1 x2 h = some h1 → MV k lv yX2_readFactor cX2_readFactor 4 [.ref (ka k a0), .ref (ka k a1), .int x2] h h1) (hrc_1 : ∀ {a0 : Nat} {a1 : Nat} {x2 : Int32} {h : Hp} {h1 : Hp}, rc 1 a0 a1 x2 h = some h1 → MV k lv yX2_readProduct cX2_readProduct 5 [.ref (ka k a0), .ref (ka k a1), .int x2] h h1) (hrc_2 : ∀ {a0 : Nat} {a1 : Nat} {x2 : Int32} {h : Hp} {h1 : Hp}, rc 2 a0 a1 x2 h = some h1 → MV k lv yX2_readSum cX2_readSum 5 [.ref (ka k a0), .ref (ka k a1), .int x2] h h1) : ∀ (f : Nat) {h : Hp} {a0 : Nat} {a1 : Nat} {x2 : Int32} {x3 : Int32} {x4 : Int32} {h1 : Hp}, X2_readSum_20 F rc f a0 a1 x2 x3 x4 h = some h1 → RV k d cX2_readSum h1 → Wz k d h 20 [(0, .ref (ka k a0)), (1, .ref (ka k a1)), (2, .int x2), (3, .int x3), (4, .int x4)] [] := by
  intro f
  induction f with
  | zero =>
    intro h a0 a1 x2 x3 x4 h1 hf hr
    exact nomatch (show (none : Option _) = some _ from hf)
  | succ f ih =>
    intro h a0 a1 x2 x3 x4 h1 hf hr
    rw [X2_readSum_20] at hf
    refine x_iload o dX2_readSum_20 4 rfl ?_
    refine x_sipush (v := 240) o dX2_readSum_22 (by decide) ?_
    refine x_icmp_ge o 65 dX2_readSum_25 (by decide) (fun q_1 => ?_) (fun q_1 => ?_)
    · replace hf := (if_pos q_1).symm.trans hf
      cases hf
      exact hr _ _ dX2_readSum_65
    · replace hf := (if_neg q_1).symm.trans hf
      refine x_iload_n o dX2_readSum_28 3 rfl rfl ?_
      refine x_if_eq o 65 dX2_readSum_29 (by decide) (fun q_2 => ?_) (fun q_2 => ?_)
      · replace hf := (if_pos q_2).symm.trans hf
        cases hf
        exact hr _ _ dX2_readSum_65
      · replace hf := (if_neg q_2).symm.trans hf
        refine x_aload_n o dX2_readSum_32 0 rfl rfl ?_
        refine x_aload_n o dX2_readSum_33 1 rfl rfl ?_
        refine x_iload_n o dX2_readSum_34 2 rfl rfl ?_
        obtain ⟨k_3, hf⟩ := gq_ex hf
        obtain ⟨h_5, eh_5, hf⟩ := ob_ex hf
        refine vRX2_90 [.ref (ka k a1), .int x2] [] o (hrc_1 eh_5) hlv k_3 rfl rfl (Nat.le_of_ble_eq_true rfl) dX2_readSum_35 ?_
        refine x_aload_n o dX2_readSum_38 0 rfl rfl ?_
        obtain ⟨j_6, ej_6, hf⟩ := ob_ex hf
        refine gRX2_12 o k_3 ej_6 dX2_readSum_39 ?_
        refine x_iload_n o dX2_readSum_42 3 rfl rfl ?_
        refine x_iconst (v := 0) o dX2_readSum_43 (by decide) ?_
        obtain ⟨k_7, hf⟩ := gq_ex hf
        obtain ⟨c_8, h_9, ec_8, hf⟩ := bq_ex hf
        refine vRX2_72 [.int x3, .int 0] [] o (C_X1_add o.1.2.2.2.2.2.2.1 o.2 F ec_8) (by omega) k_7 rfl rfl (Nat.le_of_ble_eq_true rfl) dX2_readSum_44 ?_
        refine x_pop o dX2_readSum_47 rfl ?_
        refine x_aload_n o dX2_readSum_48 1 rfl rfl ?_
        refine x_bipush (v := 43) o dX2_readSum_49 (by decide) ?_
        refine x_bipush (v := 45) o dX2_readSum_51 (by decide) ?_
        refine x_bipush (v := 45) o dX2_readSum_53 (by decide) ?_
        obtain ⟨k_10, hf⟩ := gq_ex hf
        obtain ⟨c_11, h_12, ec_11, hf⟩ := bq_ex hf
        refine vRX2_86 [.int 43, .int 45, .int 45] [] o (C_X9_either o.1.2.2.2.2.2.2.1 o.2 F ec_11) (by omega) k_10 rfl rfl (Nat.le_of_ble_eq_true rfl) dX2_readSum_55 ?_
        refine x_istore_n o dX2_readSum_58 (by decide) rfl [(3, .int c_11), (0, .ref (ka k a0)), (1, .ref (ka k a1)), (2, .int x2), (4, .int x4)] rfl ?_
        obtain ⟨x4_13, ex4_13, hf⟩ := bd_ex hf
        refine x_iinc o dX2_readSum_59 (by decide) 4 rfl ex4_13.symm [(4, .int x4_13), (3, .int c_11), (0, .ref (ka k a0)), (1, .ref (ka k a1)), (2, .int x2)] rfl ?_
        refine x_goto o 20 dX2_readSum_62 (by decide) ?_
        refine x_sub [2, 3, 4, 1, 0] [(0, .ref (ka k a0)), (1, .ref (ka k a1)), (2, .int x2), (3, .int c_11), (4, .int x4_13)] rfl ?_
        exact ih hf hr
set_option maxRecDepth 100000 in
set_option maxHeartbeats 4000000 in
theorem S_X2_readSum_0 {k : Kst} {d : Kdy} {lev : Nat} (o : Ok k d cX2_readSum RX2 5 lev) (F : Nat) {rc : Nat → Nat → Nat → Int32 → Hp → Option Hp} {lv : Nat} (hb : 6 ≤ lev) (hlv : lv + 1 ≤ lev) (hrc_0 : ∀ {a0 : Nat} {a1 : Nat} {x2 : Int32} {h : Hp} {h1 : Hp}, rc 0 a0 a1 x2 h = some h1 → MV k lv yX2_readFactor cX2_readFactor 4 [.ref (ka k a0), .ref (ka k a1), .int x2] h h1) (hrc_1 : ∀ {a0 : Nat} {a1 : Nat} {x2 : Int32} {h : Hp} {h1 : Hp}, rc 1 a0 a1 x2 h = some h1 → MV k lv yX2_readProduct cX2_readProduct 5 [.ref (ka k a0), .ref (ka k a1), .int x2] h h1) (hrc_2 : ∀ {a0 : Nat} {a1 : Nat} {x2 : Int32} {h : Hp} {h1 : Hp}, rc 2 a0 a1 x2 h = some h1 → MV k lv yX2_readSum cX2_readSum 5 [.ref (ka k a0), .ref (ka k a1), .int x2] h h1) {h : Hp} {a0 : Nat} {a1 : Nat} {x2 : Int32} {h1 : Hp} (hf : X2_readSum F rc a0 a1 x2 h = some h1) (hr : RV k d cX2_readSum h1) : Wz k d h 0 [(0, .ref (ka k a0)), (1, .ref (ka k a1)), (2, .int x2)] [] := by
  unfold X2_readSum at hf
  refine x_aload_n o dX2_readSum_0 0 rfl rfl ?_
  refine x_aload_n o dX2_readSum_1 1 rfl rfl ?_
  refine x_iload_n o dX2_readSum_2 2 rfl rfl ?_
  obtain ⟨k_1, hf⟩ := gq_ex hf
  obtain ⟨h_3, eh_3, hf⟩ := ob_ex hf
  refine vRX2_90 [.ref (ka k a1), .int x2] [] o (hrc_1 eh_3) hlv k_1 rfl rfl (Nat.le_of_ble_eq_true rfl) dX2_readSum_3 ?_
  refine x_aload_n o dX2_readSum_6 1 rfl rfl ?_
  refine x_bipush (v := 43) o dX2_readSum_7 (by decide) ?_
  refine x_bipush (v := 45) o dX2_readSum_9 (by decide) ?_
  refine x_bipush (v := 45) o dX2_readSum_11 (by decide) ?_
  obtain ⟨k_4, hf⟩ := gq_ex hf
  obtain ⟨c_5, h_6, ec_5, hf⟩ := bq_ex hf
  refine vRX2_86 [.int 43, .int 45, .int 45] [] o (C_X9_either o.1.2.2.2.2.2.2.1 o.2 F ec_5) (by omega) k_4 rfl rfl (Nat.le_of_ble_eq_true rfl) dX2_readSum_13 ?_
  refine x_istore_n o dX2_readSum_16 (by decide) rfl [(3, .int c_5), (0, .ref (ka k a0)), (1, .ref (ka k a1)), (2, .int x2)] rfl ?_
  refine x_iconst (v := 0) o dX2_readSum_17 (by decide) ?_
  refine x_istore o dX2_readSum_18 (by decide) [(4, .int 0), (3, .int c_5), (0, .ref (ka k a0)), (1, .ref (ka k a1)), (2, .int x2)] rfl ?_
  refine x_sub [2, 3, 4, 1, 0] [(0, .ref (ka k a0)), (1, .ref (ka k a1)), (2, .int x2), (3, .int c_5), (4, .int 0)] rfl ?_
  exact S_X2_readSum_20 o F hb hlv hrc_0 hrc_1 hrc_2 _ hf hr
set_option maxRecDepth 100000 in
set_option maxHeartbeats 4000000 in
theorem C_G0 {k : Kst} (hj : Dj k) (hn : kn k = kdl.length) (F : Nat) : ∀ G : Nat, (∀ {a0 : Nat} {a1 : Nat} {x2 : Int32} {h : Hp} {h1 : Hp}, G0 F G 0 a0 a1 x2 h = some h1 → MV k (6 + G) yX2_readFactor cX2_readFactor 4 [.ref (ka k a0), .ref (ka k a1), .int x2] h h1) ∧ (∀ {a0 : Nat} {a1 : Nat} {x2 : Int32} {h : Hp} {h1 : Hp}, G0 F G 1 a0 a1 x2 h = some h1 → MV k (6 + G) yX2_readProduct cX2_readProduct 5 [.ref (ka k a0), .ref (ka k a1), .int x2] h h1) ∧ (∀ {a0 : Nat} {a1 : Nat} {x2 : Int32} {h : Hp} {h1 : Hp}, G0 F G 2 a0 a1 x2 h = some h1 → MV k (6 + G) yX2_readSum cX2_readSum 5 [.ref (ka k a0), .ref (ka k a1), .int x2] h h1) := by
  intro G
  induction G with
  | zero =>
    refine ⟨?_, ?_, ?_⟩ <;> (intros; rename_i hf; exact nomatch (show (none : Option _) = some _ from hf))
  | succ G ih =>
    obtain ⟨i0, i1, i2⟩ := ih
    refine ⟨?_, ?_, ?_⟩
    · intro a0 a1 x2 h h1 hf
      exact mV hj hn (by decide +kernel) (Nat.le_of_ble_eq_true rfl) (fun d o hr => S_X2_readFactor_0 o F (rc := G0 F G) (lv := 6 + G) (by omega) (by omega) (fun q => i0 q) (fun q => i1 q) (fun q => i2 q) (show X2_readFactor F (G0 F G) a0 a1 x2 h = _ from hf) hr)
    · intro a0 a1 x2 h h1 hf
      exact mV hj hn (by decide +kernel) (Nat.le_of_ble_eq_true rfl) (fun d o hr => S_X2_readProduct_0 o F (rc := G0 F G) (lv := 6 + G) (by omega) (by omega) (fun q => i0 q) (fun q => i1 q) (fun q => i2 q) (show X2_readProduct F (G0 F G) a0 a1 x2 h = _ from hf) hr)
    · intro a0 a1 x2 h h1 hf
      exact mV hj hn (by decide +kernel) (Nat.le_of_ble_eq_true rfl) (fun d o hr => S_X2_readSum_0 o F (rc := G0 F G) (lv := 6 + G) (by omega) (by omega) (fun q => i0 q) (fun q => i1 q) (fun q => i2 q) (show X2_readSum F (G0 F G) a0 a1 x2 h = _ from hf) hr)

theorem C_X2_readFactor {k : Kst} (hj : Dj k) (hn : kn k = kdl.length) (F : Nat) {h : Hp} {a0 : Nat} {a1 : Nat} {x2 : Int32} {h1 : Hp} (hf : G0 F 60 0 a0 a1 x2 h = some h1) : MV k 66 yX2_readFactor cX2_readFactor 4 [.ref (ka k a0), .ref (ka k a1), .int x2] h h1 := (C_G0 hj hn F 60).1 hf
theorem C_X2_readProduct {k : Kst} (hj : Dj k) (hn : kn k = kdl.length) (F : Nat) {h : Hp} {a0 : Nat} {a1 : Nat} {x2 : Int32} {h1 : Hp} (hf : G0 F 60 1 a0 a1 x2 h = some h1) : MV k 66 yX2_readProduct cX2_readProduct 5 [.ref (ka k a0), .ref (ka k a1), .int x2] h h1 := (C_G0 hj hn F 60).2.1 hf
theorem C_X2_readSum {k : Kst} (hj : Dj k) (hn : kn k = kdl.length) (F : Nat) {h : Hp} {a0 : Nat} {a1 : Nat} {x2 : Int32} {h1 : Hp} (hf : G0 F 60 2 a0 a1 x2 h = some h1) : MV k 66 yX2_readSum cX2_readSum 5 [.ref (ka k a0), .ref (ka k a1), .int x2] h h1 := (C_G0 hj hn F 60).2.2 hf
set_option maxRecDepth 100000 in
set_option maxHeartbeats 4000000 in
theorem S_X9_goesOn_0 {k : Kst} {d : Kdy} (o : Ok k d cX9_goesOn RX9 2 5) (F : Nat) {h : Hp} {a0 : Nat} {x1 : Int32} {r : Int32} {h1 : Hp} (hf : X9_goesOn F a0 x1 h = some (r, h1)) (hr : RZ k d cX9_goesOn r h1) : Wz k d h 0 [(0, .ref (ka k a0)), (1, .int x1)] [] := by
  unfold X9_goesOn at hf
  refine x_aload_n o dX9_goesOn_0 0 rfl rfl ?_
  refine x_iload_n o dX9_goesOn_1 1 rfl rfl ?_
  refine x_iload_n o dX9_goesOn_2 1 rfl rfl ?_
  refine x_iload_n o dX9_goesOn_3 1 rfl rfl ?_
  obtain ⟨k_1, hf⟩ := gq_ex hf
  obtain ⟨c_2, h_3, ec_2, hf⟩ := bq_ex hf
  refine vRX9_56 [.int x1, .int x1, .int x1] [] o (C_X9_either o.1.2.2.2.2.2.2.1 o.2 F ec_2) (by decide) k_1 rfl rfl (Nat.le_of_ble_eq_true rfl) dX9_goesOn_4 ?_
  refine x_if_eq o 14 dX9_goesOn_7 (by decide) (fun q_4 => ?_) (fun q_4 => ?_)
  · replace hf := (if_pos q_4).symm.trans hf
    refine x_iconst (v := 0) o dX9_goesOn_14 (by decide) ?_
    cases hf
    exact hr (Or.inl rfl) _ _ dX9_goesOn_15
  · replace hf := (if_neg q_4).symm.trans hf
    refine x_iconst (v := 1) o dX9_goesOn_10 (by decide) ?_
    refine x_goto o 15 dX9_goesOn_11 (by decide) ?_
    cases hf
    exact hr (Or.inr rfl) _ _ dX9_goesOn_15
theorem C_X9_goesOn {k : Kst} (hj : Dj k) (hn : kn k = kdl.length) (F : Nat) {h : Hp} {a0 : Nat} {x1 : Int32} {r : Int32} {h1 : Hp} (hf : X9_goesOn F a0 x1 h = some (r, h1)) : MI k 5 yX9_goesOn cX9_goesOn 2 (some .boolean) [.ref (ka k a0), .int x1] h r h1 := mZ hj hn (by decide +kernel) (Nat.le_of_ble_eq_true rfl) (fun d o hr => S_X9_goesOn_0 o F hf hr)
set_option maxRecDepth 100000 in
set_option maxHeartbeats 4000000 in
theorem S_X2_readPart_8 {k : Kst} {d : Kdy} {lev : Nat} (o : Ok k d cX2_readPart RX2 5 lev) (F : Nat) {rc : Nat → Nat → Nat → Int32 → Hp → Option Hp} {lv : Nat} (hb : 67 ≤ lev) (hlv : lv + 1 ≤ lev) (hrc_0 : ∀ {a0 : Nat} {a1 : Nat} {x2 : Int32} {h : Hp} {h1 : Hp}, rc 0 a0 a1 x2 h = some h1 → MV k lv yX2_readPart cX2_readPart 5 [.ref (ka k a0), .ref (ka k a1), .int x2] h h1) (hrc_1 : ∀ {a0 : Nat} {a1 : Nat} {x2 : Int32} {h : Hp} {h1 : Hp}, rc 1 a0 a1 x2 h = some h1 → MV k lv yX2_readParts cX2_readParts 5 [.ref (ka k a0), .ref (ka k a1), .int x2] h h1) (hrc_2 : ∀ {a0 : Nat} {a1 : Nat} {x2 : Int32} {h : Hp} {h1 : Hp}, rc 2 a0 a1 x2 h = some h1 → MV k lv yX2_readTest cX2_readTest 4 [.ref (ka k a0), .ref (ka k a1), .int x2] h h1) : ∀ (f : Nat) {h : Hp} {a0 : Nat} {a1 : Nat} {x2 : Int32} {x3 : Int32} {h1 : Hp}, X2_readPart_8 F rc f a0 a1 x2 x3 h = some h1 → RV k d cX2_readPart h1 → Wz k d h 8 [(0, .ref (ka k a0)), (1, .ref (ka k a1)), (2, .int x2), (3, .int x3)] [] := by
  intro f
  induction f with
  | zero =>
    intro h a0 a1 x2 x3 h1 hf hr
    exact nomatch (show (none : Option _) = some _ from hf)
  | succ f ih =>
    intro h a0 a1 x2 x3 h1 hf hr
    rw [X2_readPart_8] at hf
    refine x_iload_n o dX2_readPart_8 3 rfl rfl ?_
    refine x_sipush (v := 240) o dX2_readPart_9 (by decide) ?_
    refine x_icmp_ge o 57 dX2_readPart_12 (by decide) (fun q_1 => ?_) (fun q_1 => ?_)
    · replace hf := (if_pos q_1).symm.trans hf
      cases hf
      exact hr _ _ dX2_readPart_57
    · replace hf := (if_neg q_1).symm.trans hf
      refine x_aload_n o dX2_readPart_15 1 rfl rfl ?_
      refine x_bipush (v := 38) o dX2_readPart_16 (by decide) ?_
      obtain ⟨k_2, hf⟩ := gq_ex hf
      obtain ⟨c_3, h_4, ec_3, hf⟩ := bq_ex hf
      refine vRX2_25 [.int 38] [] o (C_X9_goesOn o.1.2.2.2.2.2.2.1 o.2 F ec_3) (by omega) k_2 rfl rfl (Nat.le_of_ble_eq_true rfl) dX2_readPart_18 ?_
      refine x_if_eq o 57 dX2_readPart_21 (by decide) (fun q_5 => ?_) (fun q_5 => ?_)
      · replace hf := (if_pos q_5).symm.trans hf
        cases hf
        exact hr _ _ dX2_readPart_57
      · replace hf := (if_neg q_5).symm.trans hf
        refine x_aload_n o dX2_readPart_24 0 rfl rfl ?_
        obtain ⟨k_6, hf⟩ := gq_ex hf
        obtain ⟨j_7, ej_7, hf⟩ := ob_ex hf
        refine gRX2_12 o k_6 ej_7 dX2_readPart_25 ?_
        refine x_bipush (v := 38) o dX2_readPart_28 (by decide) ?_
        refine x_iconst (v := 0) o dX2_readPart_30 (by decide) ?_
        obtain ⟨k_8, hf⟩ := gq_ex hf
        obtain ⟨c_9, h_10, ec_9, hf⟩ := bq_ex hf
        refine vRX2_72 [.int 38, .int 0] [] o (C_X1_add o.1.2.2.2.2.2.2.1 o.2 F ec_9) (by omega) k_8 rfl rfl (Nat.le_of_ble_eq_true rfl) dX2_readPart_31 ?_
        refine x_istore o dX2_readPart_34 (by decide) [(4, .int c_9), (0, .ref (ka k a0)), (1, .ref (ka k a1)), (2, .int x2), (3, .int x3)] rfl ?_
        refine x_aload_n o dX2_readPart_36 1 rfl rfl ?_
        refine x_aload_n o dX2_readPart_37 2 rfl rfl ?_
        refine x_iload_n o dX2_readPart_38 3 rfl rfl ?_
        obtain ⟨h_12, eh_12, hf⟩ := ob_ex hf
        refine vRX2_79 [.ref (ka k a1), .int x2] [] o (hrc_2 eh_12) hlv k_6 rfl rfl (Nat.le_of_ble_eq_true rfl) dX2_readPart_39 ?_
        refine x_aload_n o dX2_readPart_42 1 rfl rfl ?_
        obtain ⟨j_13, ej_13, hf⟩ := ob_ex hf
        refine gRX2_12 o k_6 ej_13 dX2_readPart_43 ?_
        refine x_iload o dX2_readPart_46 0 rfl ?_
        obtain ⟨k_14, hf⟩ := gq_ex hf
        obtain ⟨h_16, eh_16, hf⟩ := ob_ex hf
        refine vRX2_76 [.int c_9] [] o (C_X1_aim o.1.2.2.2.2.2.2.1 o.2 F eh_16) (by omega) k_14 rfl rfl (Nat.le_of_ble_eq_true rfl) dX2_readPart_48 ?_
        obtain ⟨x3_17, ex3_17, hf⟩ := bd_ex hf
        refine x_iinc o dX2_readPart_51 (by decide) 4 rfl ex3_17.symm [(3, .int x3_17), (4, .int c_9), (0, .ref (ka k a0)), (1, .ref (ka k a1)), (2, .int x2)] rfl ?_
        refine x_goto o 8 dX2_readPart_54 (by decide) ?_
        refine x_sub [2, 3, 4, 0] [(0, .ref (ka k a0)), (1, .ref (ka k a1)), (2, .int x2), (3, .int x3_17)] rfl ?_
        exact ih hf hr
set_option maxRecDepth 100000 in
set_option maxHeartbeats 4000000 in
theorem S_X2_readPart_0 {k : Kst} {d : Kdy} {lev : Nat} (o : Ok k d cX2_readPart RX2 5 lev) (F : Nat) {rc : Nat → Nat → Nat → Int32 → Hp → Option Hp} {lv : Nat} (hb : 67 ≤ lev) (hlv : lv + 1 ≤ lev) (hrc_0 : ∀ {a0 : Nat} {a1 : Nat} {x2 : Int32} {h : Hp} {h1 : Hp}, rc 0 a0 a1 x2 h = some h1 → MV k lv yX2_readPart cX2_readPart 5 [.ref (ka k a0), .ref (ka k a1), .int x2] h h1) (hrc_1 : ∀ {a0 : Nat} {a1 : Nat} {x2 : Int32} {h : Hp} {h1 : Hp}, rc 1 a0 a1 x2 h = some h1 → MV k lv yX2_readParts cX2_readParts 5 [.ref (ka k a0), .ref (ka k a1), .int x2] h h1) (hrc_2 : ∀ {a0 : Nat} {a1 : Nat} {x2 : Int32} {h : Hp} {h1 : Hp}, rc 2 a0 a1 x2 h = some h1 → MV k lv yX2_readTest cX2_readTest 4 [.ref (ka k a0), .ref (ka k a1), .int x2] h h1) {h : Hp} {a0 : Nat} {a1 : Nat} {x2 : Int32} {h1 : Hp} (hf : X2_readPart F rc a0 a1 x2 h = some h1) (hr : RV k d cX2_readPart h1) : Wz k d h 0 [(0, .ref (ka k a0)), (1, .ref (ka k a1)), (2, .int x2)] [] := by
  unfold X2_readPart at hf
  refine x_aload_n o dX2_readPart_0 0 rfl rfl ?_
  refine x_aload_n o dX2_readPart_1 1 rfl rfl ?_
  refine x_iload_n o dX2_readPart_2 2 rfl rfl ?_
  obtain ⟨k_1, hf⟩ := gq_ex hf
  obtain ⟨h_3, eh_3, hf⟩ := ob_ex hf
  refine vRX2_79 [.ref (ka k a1), .int x2] [] o (hrc_2 eh_3) hlv k_1 rfl rfl (Nat.le_of_ble_eq_true rfl) dX2_readPart_3 ?_
  refine x_iconst (v := 0) o dX2_readPart_6 (by decide) ?_
  refine x_istore_n o dX2_readPart_7 (by decide) rfl [(3, .int 0), (0, .ref (ka k a0)), (1, .ref (ka k a1)), (2, .int x2)] rfl ?_
  refine x_sub [1, 2, 3, 0] [(0, .ref (ka k a0)), (1, .ref (ka k a1)), (2, .int x2), (3, .int 0)] rfl ?_
  exact S_X2_readPart_8 o F hb hlv hrc_0 hrc_1 hrc_2 _ hf hr
set_option maxRecDepth 100000 in
set_option maxHeartbeats 4000000 in
theorem S_X2_readParts_8 {k : Kst} {d : Kdy} {lev : Nat} (o : Ok k d cX2_readParts RX2 5 lev) (F : Nat) {rc : Nat → Nat → Nat → Int32 → Hp → Option Hp} {lv : Nat} (hb : 67 ≤ lev) (hlv : lv + 1 ≤ lev) (hrc_0 : ∀ {a0 : Nat} {a1 : Nat} {x2 : Int32} {h : Hp} {h1 : Hp}, rc 0 a0 a1 x2 h = some h1 → MV k lv yX2_readPart cX2_readPart 5 [.ref (ka k a0), .ref (ka k a1), .int x2] h h1) (hrc_1 : ∀ {a0 : Nat} {a1 : Nat} {x2 : Int32} {h : Hp} {h1 : Hp}, rc 1 a0 a1 x2 h = some h1 → MV k lv yX2_readParts cX2_readParts 5 [.ref (ka k a0), .ref (ka k a1), .int x2] h h1) (hrc_2 : ∀ {a0 : Nat} {a1 : Nat} {x2 : Int32} {h : Hp} {h1 : Hp}, rc 2 a0 a1 x2 h = some h1 → MV k lv yX2_readTest cX2_readTest 4 [.ref (ka k a0), .ref (ka k a1), .int x2] h h1) : ∀ (f : Nat) {h : Hp} {a0 : Nat} {a1 : Nat} {x2 : Int32} {x3 : Int32} {h1 : Hp}, X2_readParts_8 F rc f a0 a1 x2 x3 h = some h1 → RV k d cX2_readParts h1 → Wz k d h 8 [(0, .ref (ka k a0)), (1, .ref (ka k a1)), (2, .int x2), (3, .int x3)] [] := by
  intro f
  induction f with
  | zero =>
    intro h a0 a1 x2 x3 h1 hf hr
    exact nomatch (show (none : Option _) = some _ from hf)
  | succ f ih =>
    intro h a0 a1 x2 x3 h1 hf hr
    rw [X2_readParts_8] at hf
    refine x_iload_n o dX2_readParts_8 3 rfl rfl ?_
    refine x_sipush (v := 240) o dX2_readParts_9 (by decide) ?_
    refine x_icmp_ge o 57 dX2_readParts_12 (by decide) (fun q_1 => ?_) (fun q_1 => ?_)
    · replace hf := (if_pos q_1).symm.trans hf
      cases hf
      exact hr _ _ dX2_readParts_57
    · replace hf := (if_neg q_1).symm.trans hf
      refine x_aload_n o dX2_readParts_15 1 rfl rfl ?_
      refine x_bipush (v := 124) o dX2_readParts_16 (by decide) ?_
      obtain ⟨k_2, hf⟩ := gq_ex hf
      obtain ⟨c_3, h_4, ec_3, hf⟩ := bq_ex hf
      refine vRX2_25 [.int 124] [] o (C_X9_goesOn o.1.2.2.2.2.2.2.1 o.2 F ec_3) (by omega) k_2 rfl rfl (Nat.le_of_ble_eq_true rfl) dX2_readParts_18 ?_
      refine x_if_eq o 57 dX2_readParts_21 (by decide) (fun q_5 => ?_) (fun q_5 => ?_)
      · replace hf := (if_pos q_5).symm.trans hf
        cases hf
        exact hr _ _ dX2_readParts_57
      · replace hf := (if_neg q_5).symm.trans hf
        refine x_aload_n o dX2_readParts_24 0 rfl rfl ?_
        obtain ⟨k_6, hf⟩ := gq_ex hf
        obtain ⟨j_7, ej_7, hf⟩ := ob_ex hf
        refine gRX2_12 o k_6 ej_7 dX2_readParts_25 ?_
        refine x_bipush (v := 124) o dX2_readParts_28 (by decide) ?_
        refine x_iconst (v := 0) o dX2_readParts_30 (by decide) ?_
        obtain ⟨k_8, hf⟩ := gq_ex hf
        obtain ⟨c_9, h_10, ec_9, hf⟩ := bq_ex hf
        refine vRX2_72 [.int 124, .int 0] [] o (C_X1_add o.1.2.2.2.2.2.2.1 o.2 F ec_9) (by omega) k_8 rfl rfl (Nat.le_of_ble_eq_true rfl) dX2_readParts_31 ?_
        refine x_istore o dX2_readParts_34 (by decide) [(4, .int c_9), (0, .ref (ka k a0)), (1, .ref (ka k a1)), (2, .int x2), (3, .int x3)] rfl ?_
        refine x_aload_n o dX2_readParts_36 1 rfl rfl ?_
        refine x_aload_n o dX2_readParts_37 2 rfl rfl ?_
        refine x_iload_n o dX2_readParts_38 3 rfl rfl ?_
        obtain ⟨h_12, eh_12, hf⟩ := ob_ex hf
        refine vRX2_69 [.ref (ka k a1), .int x2] [] o (hrc_0 eh_12) hlv k_6 rfl rfl (Nat.le_of_ble_eq_true rfl) dX2_readParts_39 ?_
        refine x_aload_n o dX2_readParts_42 1 rfl rfl ?_
        obtain ⟨j_13, ej_13, hf⟩ := ob_ex hf
        refine gRX2_12 o k_6 ej_13 dX2_readParts_43 ?_
        refine x_iload o dX2_readParts_46 0 rfl ?_
        obtain ⟨k_14, hf⟩ := gq_ex hf
        obtain ⟨h_16, eh_16, hf⟩ := ob_ex hf
        refine vRX2_76 [.int c_9] [] o (C_X1_aim o.1.2.2.2.2.2.2.1 o.2 F eh_16) (by omega) k_14 rfl rfl (Nat.le_of_ble_eq_true rfl) dX2_readParts_48 ?_
        obtain ⟨x3_17, ex3_17, hf⟩ := bd_ex hf
        refine x_iinc o dX2_readParts_51 (by decide) 4 rfl ex3_17.symm [(3, .int x3_17), (4, .int c_9), (0, .ref (ka k a0)), (1, .ref (ka k a1)), (2, .int x2)] rfl ?_
        refine x_goto o 8 dX2_readParts_54 (by decide) ?_
        refine x_sub [2, 3, 4, 0] [(0, .ref (ka k a0)), (1, .ref (ka k a1)), (2, .int x2), (3, .int x3_17)] rfl ?_
        exact ih hf hr
set_option maxRecDepth 100000 in
set_option maxHeartbeats 4000000 in
theorem S_X2_readParts_0 {k : Kst} {d : Kdy} {lev : Nat} (o : Ok k d cX2_readParts RX2 5 lev) (F : Nat) {rc : Nat → Nat → Nat → Int32 → Hp → Option Hp} {lv : Nat} (hb : 67 ≤ lev) (hlv : lv + 1 ≤ lev) (hrc_0 : ∀ {a0 : Nat} {a1 : Nat} {x2 : Int32} {h : Hp} {h1 : Hp}, rc 0 a0 a1 x2 h = some h1 → MV k lv yX2_readPart cX2_readPart 5 [.ref (ka k a0), .ref (ka k a1), .int x2] h h1) (hrc_1 : ∀ {a0 : Nat} {a1 : Nat} {x2 : Int32} {h : Hp} {h1 : Hp}, rc 1 a0 a1 x2 h = some h1 → MV k lv yX2_readParts cX2_readParts 5 [.ref (ka k a0), .ref (ka k a1), .int x2] h h1) (hrc_2 : ∀ {a0 : Nat} {a1 : Nat} {x2 : Int32} {h : Hp} {h1 : Hp}, rc 2 a0 a1 x2 h = some h1 → MV k lv yX2_readTest cX2_readTest 4 [.ref (ka k a0), .ref (ka k a1), .int x2] h h1) {h : Hp} {a0 : Nat} {a1 : Nat} {x2 : Int32} {h1 : Hp} (hf : X2_readParts F rc a0 a1 x2 h = some h1) (hr : RV k d cX2_readParts h1) : Wz k d h 0 [(0, .ref (ka k a0)), (1, .ref (ka k a1)), (2, .int x2)] [] := by
  unfold X2_readParts at hf
  refine x_aload_n o dX2_readParts_0 0 rfl rfl ?_
  refine x_aload_n o dX2_readParts_1 1 rfl rfl ?_
  refine x_iload_n o dX2_readParts_2 2 rfl rfl ?_
  obtain ⟨k_1, hf⟩ := gq_ex hf
  obtain ⟨h_3, eh_3, hf⟩ := ob_ex hf
  refine vRX2_69 [.ref (ka k a1), .int x2] [] o (hrc_0 eh_3) hlv k_1 rfl rfl (Nat.le_of_ble_eq_true rfl) dX2_readParts_3 ?_
  refine x_iconst (v := 0) o dX2_readParts_6 (by decide) ?_
  refine x_istore_n o dX2_readParts_7 (by decide) rfl [(3, .int 0), (0, .ref (ka k a0)), (1, .ref (ka k a1)), (2, .int x2)] rfl ?_
  refine x_sub [1, 2, 3, 0] [(0, .ref (ka k a0)), (1, .ref (ka k a1)), (2, .int x2), (3, .int 0)] rfl ?_
  exact S_X2_readParts_8 o F hb hlv hrc_0 hrc_1 hrc_2 _ hf hr
set_option maxRecDepth 100000 in
set_option maxHeartbeats 4000000 in
theorem S_X2_readTest_0 {k : Kst} {d : Kdy} {lev : Nat} (o : Ok k d cX2_readTest RX2 4 lev) (F : Nat) {rc : Nat → Nat → Nat → Int32 → Hp → Option Hp} {lv : Nat} (hb : 67 ≤ lev) (hlv : lv + 1 ≤ lev) (hrc_0 : ∀ {a0 : Nat} {a1 : Nat} {x2 : Int32} {h : Hp} {h1 : Hp}, rc 0 a0 a1 x2 h = some h1 → MV k lv yX2_readPart cX2_readPart 5 [.ref (ka k a0), .ref (ka k a1), .int x2] h h1) (hrc_1 : ∀ {a0 : Nat} {a1 : Nat} {x2 : Int32} {h : Hp} {h1 : Hp}, rc 1 a0 a1 x2 h = some h1 → MV k lv yX2_readParts cX2_readParts 5 [.ref (ka k a0), .ref (ka k a1), .int x2] h h1) (hrc_2 : ∀ {a0 : Nat} {a1 : Nat} {x2 : Int32} {h : Hp} {h1 : Hp}, rc 2 a0 a1 x2 h = some h1 → MV k lv yX2_readTest cX2_readTest 4 [.ref (ka k a0), .ref (ka k a1), .int x2] h h1) {h : Hp} {a0 : Nat} {a1 : Nat} {x2 : Int32} {h1 : Hp} (hf : X2_readTest F rc a0 a1 x2 h = some h1) (hr : RV k d cX2_readTest h1) : Wz k d h 0 [(0, .ref (ka k a0)), (1, .ref (ka k a1)), (2, .int x2)] [] := by
  unfold X2_readTest at hf
  refine x_aload_n o dX2_readTest_0 1 rfl rfl ?_
  obtain ⟨k_1, hf⟩ := gq_ex hf
  obtain ⟨c_2, ec_2, hf⟩ := ob_ex hf
  refine vRX2_34 [] [] o (C_X9_sign o.1.2.2.2.2.2.2.1 o.2 F ec_2) (by omega) k_1 rfl rfl (Nat.le_of_ble_eq_true rfl) dX2_readTest_1 ?_
  refine x_bipush (v := 33) o dX2_readTest_4 (by decide) ?_
  refine x_icmp_ne o 39 dX2_readTest_6 (by decide) (fun q_4 => ?_) (fun q_4 => ?_)
  · replace hf := (if_neg q_4).symm.trans hf
    refine x_aload_n o dX2_readTest_39 1 rfl rfl ?_
    obtain ⟨c_5, ec_5, hf⟩ := ob_ex hf
    refine vRX2_34 [] [] o (C_X9_sign o.1.2.2.2.2.2.2.1 o.2 F ec_5) (by omega) k_1 rfl rfl (Nat.le_of_ble_eq_true rfl) dX2_readTest_40 ?_
    refine x_bipush (v := 40) o dX2_readTest_43 (by decide) ?_
    refine x_icmp_ne o 73 dX2_readTest_45 (by decide) (fun q_7 => ?_) (fun q_7 => ?_)
    · replace hf := (if_neg q_7).symm.trans hf
      refine x_aload_n o dX2_readTest_73 0 rfl rfl ?_
      refine x_aload_n o dX2_readTest_74 1 rfl rfl ?_
      refine x_iload_n o dX2_readTest_75 2 rfl rfl ?_
      obtain ⟨k_8, hf⟩ := gq_ex hf
      obtain ⟨h_10, eh_10, hf⟩ := ob_ex hf
      refine vRX2_53 [.ref (ka k a1), .int x2] [] o (C_X2_readSum o.1.2.2.2.2.2.2.1 o.2 F eh_10) (by omega) k_8 rfl rfl (Nat.le_of_ble_eq_true rfl) dX2_readTest_76 ?_
      refine x_aload_n o dX2_readTest_79 1 rfl rfl ?_
      refine x_bipush (v := 60) o dX2_readTest_80 (by decide) ?_
      refine x_bipush (v := 62) o dX2_readTest_82 (by decide) ?_
      refine x_bipush (v := 61) o dX2_readTest_84 (by decide) ?_
      obtain ⟨c_11, h_12, ec_11, hf⟩ := bq_ex hf
      refine vRX2_86 [.int 60, .int 62, .int 61] [] o (C_X9_either o.1.2.2.2.2.2.2.1 o.2 F ec_11) (by omega) k_1 rfl rfl (Nat.le_of_ble_eq_true rfl) dX2_readTest_86 ?_
      refine x_istore_n o dX2_readTest_89 (by decide) rfl [(3, .int c_11), (0, .ref (ka k a0)), (1, .ref (ka k a1)), (2, .int x2)] rfl ?_
      refine x_iload_n o dX2_readTest_90 0 rfl rfl ?_
      refine x_if_ne o 106 dX2_readTest_91 (by decide) (fun q_13 => ?_) (fun q_13 => ?_)
      · replace hf := (if_neg q_13).symm.trans hf
        refine x_aload_n o dX2_readTest_106 1 rfl rfl ?_
        refine x_aload_n o dX2_readTest_107 2 rfl rfl ?_
        refine x_iload_n o dX2_readTest_108 3 rfl rfl ?_
        obtain ⟨h_15, eh_15, hf⟩ := ob_ex hf
        refine vRX2_53 [.ref (ka k a1), .int x2] [] o (C_X2_readSum o.1.2.2.2.2.2.2.1 o.2 F eh_15) (by omega) k_8 rfl rfl (Nat.le_of_ble_eq_true rfl) dX2_readTest_109 ?_
        refine x_aload_n o dX2_readTest_112 1 rfl rfl ?_
        obtain ⟨j_16, ej_16, hf⟩ := ob_ex hf
        refine gRX2_12 o k_8 ej_16 dX2_readTest_113 ?_
        refine x_iload_n o dX2_readTest_116 0 rfl rfl ?_
        refine x_iconst (v := 0) o dX2_readTest_117 (by decide) ?_
        obtain ⟨k_17, hf⟩ := gq_ex hf
        obtain ⟨c_18, h_19, ec_18, hf⟩ := bq_ex hf
        refine vRX2_72 [.int c_11, .int 0] [] o (C_X1_add o.1.2.2.2.2.2.2.1 o.2 F ec_18) (by omega) k_17 rfl rfl (Nat.le_of_ble_eq_true rfl) dX2_readTest_118 ?_
        refine x_pop o dX2_readTest_121 rfl ?_
        cases hf
        exact hr _ _ dX2_readTest_122
      · replace hf := (if_pos q_13).symm.trans hf
        refine x_aload_n o dX2_readTest_94 2 rfl rfl ?_
        refine x_iconst (v := 1) o dX2_readTest_95 (by decide) ?_
        refine x_aload_n o dX2_readTest_96 2 rfl rfl ?_
        refine gRX2_38 o k_1 dX2_readTest_97 ?_
        obtain ⟨h_21, eh_21, hf⟩ := ob_ex hf
        refine vRX2_42 [.int 1, .int (h_12.1 a1 2)] [] o (C_X9_refuse o.1.2.2.2.2.2.2.1 o.2 F eh_21) (by omega) k_1 rfl rfl (Nat.le_of_ble_eq_true rfl) dX2_readTest_100 ?_
        refine x_goto o 122 dX2_readTest_103 (by decide) ?_
        cases hf
        exact hr _ _ dX2_readTest_122
    · replace hf := (if_pos q_7).symm.trans hf
      refine x_aload_n o dX2_readTest_48 1 rfl rfl ?_
      refine x_iload_n o dX2_readTest_49 2 rfl rfl ?_
      obtain ⟨c_22, h_23, ec_22, hf⟩ := bq_ex hf
      refine vRX2_82 [.ref (ka k a1), .int x2] [] o (C_X2_opens o.1.2.2.2.2.2.2.1 o.2 F ec_22) (by omega) rfl rfl (Nat.le_of_ble_eq_true rfl) dX2_readTest_50 ?_
      refine x_if_eq o 122 dX2_readTest_53 (by decide) (fun q_24 => ?_) (fun q_24 => ?_)
      · replace hf := (if_pos q_24).symm.trans hf
        cases hf
        exact hr _ _ dX2_readTest_122
      · replace hf := (if_neg q_24).symm.trans hf
        refine x_aload_n o dX2_readTest_56 0 rfl rfl ?_
        refine x_aload_n o dX2_readTest_57 1 rfl rfl ?_
        refine x_iload_n o dX2_readTest_58 2 rfl rfl ?_
        refine x_iconst (v := 1) o dX2_readTest_59 (by decide) ?_
        refine x_iadd o dX2_readTest_60 ?_
        obtain ⟨k_25, hf⟩ := gq_ex hf
        obtain ⟨h_27, eh_27, hf⟩ := ob_ex hf
        refine vRX2_63 [.ref (ka k a1), .int (x2 + 1)] [] o (hrc_1 eh_27) hlv k_25 rfl rfl (Nat.le_of_ble_eq_true rfl) dX2_readTest_61 ?_
        refine x_aload_n o dX2_readTest_64 1 rfl rfl ?_
        refine x_bipush (v := 41) o dX2_readTest_65 (by decide) ?_
        obtain ⟨h_29, eh_29, hf⟩ := ob_ex hf
        refine vRX2_60 [.int 41] [] o (C_X9_pass o.1.2.2.2.2.2.2.1 o.2 F eh_29) (by omega) k_1 rfl rfl (Nat.le_of_ble_eq_true rfl) dX2_readTest_67 ?_
        refine x_goto o 122 dX2_readTest_70 (by decide) ?_
        cases hf
        exact hr _ _ dX2_readTest_122
  · replace hf := (if_pos q_4).symm.trans hf
    refine x_aload_n o dX2_readTest_9 1 rfl rfl ?_
    refine x_iload_n o dX2_readTest_10 2 rfl rfl ?_
    obtain ⟨c_30, h_31, ec_30, hf⟩ := bq_ex hf
    refine vRX2_82 [.ref (ka k a1), .int x2] [] o (C_X2_opens o.1.2.2.2.2.2.2.1 o.2 F ec_30) (by omega) rfl rfl (Nat.le_of_ble_eq_true rfl) dX2_readTest_11 ?_
    refine x_if_eq o 122 dX2_readTest_14 (by decide) (fun q_32 => ?_) (fun q_32 => ?_)
    · replace hf := (if_pos q_32).symm.trans hf
      cases hf
      exact hr _ _ dX2_readTest_122
    · replace hf := (if_neg q_32).symm.trans hf
      refine x_aload_n o dX2_readTest_17 0 rfl rfl ?_
      refine x_aload_n o dX2_readTest_18 1 rfl rfl ?_
      refine x_iload_n o dX2_readTest_19 2 rfl rfl ?_
      refine x_iconst (v := 1) o dX2_readTest_20 (by decide) ?_
      refine x_iadd o dX2_readTest_21 ?_
      obtain ⟨k_33, hf⟩ := gq_ex hf
      obtain ⟨h_35, eh_35, hf⟩ := ob_ex hf
      refine vRX2_79 [.ref (ka k a1), .int (x2 + 1)] [] o (hrc_2 eh_35) hlv k_33 rfl rfl (Nat.le_of_ble_eq_true rfl) dX2_readTest_22 ?_
      refine x_aload_n o dX2_readTest_25 0 rfl rfl ?_
      obtain ⟨j_36, ej_36, hf⟩ := ob_ex hf
      refine gRX2_12 o k_33 ej_36 dX2_readTest_26 ?_
      refine x_bipush (v := 33) o dX2_readTest_29 (by decide) ?_
      refine x_iconst (v := 0) o dX2_readTest_31 (by decide) ?_
      obtain ⟨k_37, hf⟩ := gq_ex hf
      obtain ⟨c_38, h_39, ec_38, hf⟩ := bq_ex hf
      refine vRX2_72 [.int 33, .int 0] [] o (C_X1_add o.1.2.2.2.2.2.2.1 o.2 F ec_38) (by omega) k_37 rfl rfl (Nat.le_of_ble_eq_true rfl) dX2_readTest_32 ?_
      refine x_pop o dX2_readTest_35 rfl ?_
      refine x_goto o 122 dX2_readTest_36 (by decide) ?_
      cases hf
      exact hr _ _ dX2_readTest_122
set_option maxRecDepth 100000 in
set_option maxHeartbeats 4000000 in
theorem C_G1 {k : Kst} (hj : Dj k) (hn : kn k = kdl.length) (F : Nat) : ∀ G : Nat, (∀ {a0 : Nat} {a1 : Nat} {x2 : Int32} {h : Hp} {h1 : Hp}, G1 F G 0 a0 a1 x2 h = some h1 → MV k (67 + G) yX2_readPart cX2_readPart 5 [.ref (ka k a0), .ref (ka k a1), .int x2] h h1) ∧ (∀ {a0 : Nat} {a1 : Nat} {x2 : Int32} {h : Hp} {h1 : Hp}, G1 F G 1 a0 a1 x2 h = some h1 → MV k (67 + G) yX2_readParts cX2_readParts 5 [.ref (ka k a0), .ref (ka k a1), .int x2] h h1) ∧ (∀ {a0 : Nat} {a1 : Nat} {x2 : Int32} {h : Hp} {h1 : Hp}, G1 F G 2 a0 a1 x2 h = some h1 → MV k (67 + G) yX2_readTest cX2_readTest 4 [.ref (ka k a0), .ref (ka k a1), .int x2] h h1) := by
  intro G
  induction G with
  | zero =>
    refine ⟨?_, ?_, ?_⟩ <;> (intros; rename_i hf; exact nomatch (show (none : Option _) = some _ from hf))
  | succ G ih =>
    obtain ⟨i0, i1, i2⟩ := ih
    refine ⟨?_, ?_, ?_⟩
    · intro a0 a1 x2 h h1 hf
      exact mV hj hn (by decide +kernel) (Nat.le_of_ble_eq_true rfl) (fun d o hr => S_X2_readPart_0 o F (rc := G1 F G) (lv := 67 + G) (by omega) (by omega) (fun q => i0 q) (fun q => i1 q) (fun q => i2 q) (show X2_readPart F (G1 F G) a0 a1 x2 h = _ from hf) hr)
    · intro a0 a1 x2 h h1 hf
      exact mV hj hn (by decide +kernel) (Nat.le_of_ble_eq_true rfl) (fun d o hr => S_X2_readParts_0 o F (rc := G1 F G) (lv := 67 + G) (by omega) (by omega) (fun q => i0 q) (fun q => i1 q) (fun q => i2 q) (show X2_readParts F (G1 F G) a0 a1 x2 h = _ from hf) hr)
    · intro a0 a1 x2 h h1 hf
      exact mV hj hn (by decide +kernel) (Nat.le_of_ble_eq_true rfl) (fun d o hr => S_X2_readTest_0 o F (rc := G1 F G) (lv := 67 + G) (by omega) (by omega) (fun q => i0 q) (fun q => i1 q) (fun q => i2 q) (show X2_readTest F (G1 F G) a0 a1 x2 h = _ from hf) hr)

theorem C_X2_readPart {k : Kst} (hj : Dj k) (hn : kn k = kdl.length) (F : Nat) {h : Hp} {a0 : Nat} {a1 : Nat} {x2 : Int32} {h1 : Hp} (hf : G1 F 60 0 a0 a1 x2 h = some h1) : MV k 127 yX2_readPart cX2_readPart 5 [.ref (ka k a0), .ref (ka k a1), .int x2] h h1 := (C_G1 hj hn F 60).1 hf
theorem C_X2_readParts {k : Kst} (hj : Dj k) (hn : kn k = kdl.length) (F : Nat) {h : Hp} {a0 : Nat} {a1 : Nat} {x2 : Int32} {h1 : Hp} (hf : G1 F 60 1 a0 a1 x2 h = some h1) : MV k 127 yX2_readParts cX2_readParts 5 [.ref (ka k a0), .ref (ka k a1), .int x2] h h1 := (C_G1 hj hn F 60).2.1 hf
theorem C_X2_readTest {k : Kst} (hj : Dj k) (hn : kn k = kdl.length) (F : Nat) {h : Hp} {a0 : Nat} {a1 : Nat} {x2 : Int32} {h1 : Hp} (hf : G1 F 60 2 a0 a1 x2 h = some h1) : MV k 127 yX2_readTest cX2_readTest 4 [.ref (ka k a0), .ref (ka k a1), .int x2] h h1 := (C_G1 hj hn F 60).2.2 hf
set_option maxRecDepth 100000 in
set_option maxHeartbeats 4000000 in
theorem S_X2_readRule_97 {k : Kst} {d : Kdy} (o : Ok k d cX2_readRule RX2 3 128) (F : Nat) {h : Hp} {a0 : Nat} {a1 : Nat} {h1 : Hp} (hf : X2_readRule_97 F a0 a1 h = some h1) (hr : RV k d cX2_readRule h1) : Wz k d h 97 [(0, .ref (ka k a0)), (1, .ref (ka k a1))] [] := by
  unfold X2_readRule_97 at hf
  refine x_aload_n o dX2_readRule_97 0 rfl rfl ?_
  obtain ⟨k_1, hf⟩ := gq_ex hf
  obtain ⟨j_2, ej_2, hf⟩ := ob_ex hf
  refine gRX2_12 o k_1 ej_2 dX2_readRule_98 ?_
  obtain ⟨k_3, hf⟩ := gq_ex hf
  obtain ⟨h_5, eh_5, hf⟩ := ob_ex hf
  refine vRX2_57 [] [] o (C_X1_beginTest o.1.2.2.2.2.2.2.1 o.2 F eh_5) (by decide) k_3 rfl rfl (Nat.le_of_ble_eq_true rfl) dX2_readRule_101 ?_
  refine x_aload_n o dX2_readRule_104 1 rfl rfl ?_
  refine x_bipush (v := 40) o dX2_readRule_105 (by decide) ?_
  obtain ⟨k_6, hf⟩ := gq_ex hf
  obtain ⟨h_8, eh_8, hf⟩ := ob_ex hf
  refine vRX2_60 [.int 40] [] o (C_X9_pass o.1.2.2.2.2.2.2.1 o.2 F eh_8) (by decide) k_6 rfl rfl (Nat.le_of_ble_eq_true rfl) dX2_readRule_107 ?_
  refine x_aload_n o dX2_readRule_110 0 rfl rfl ?_
  refine x_aload_n o dX2_readRule_111 1 rfl rfl ?_
  refine x_iconst (v := 1) o dX2_readRule_112 (by decide) ?_
  obtain ⟨h_10, eh_10, hf⟩ := ob_ex hf
  refine vRX2_63 [.ref (ka k a1), .int 1] [] o (C_X2_readParts o.1.2.2.2.2.2.2.1 o.2 F eh_10) (by decide) k_1 rfl rfl (Nat.le_of_ble_eq_true rfl) dX2_readRule_113 ?_
  refine x_aload_n o dX2_readRule_116 1 rfl rfl ?_
  refine x_bipush (v := 41) o dX2_readRule_117 (by decide) ?_
  obtain ⟨h_12, eh_12, hf⟩ := ob_ex hf
  refine vRX2_60 [.int 41] [] o (C_X9_pass o.1.2.2.2.2.2.2.1 o.2 F eh_12) (by decide) k_6 rfl rfl (Nat.le_of_ble_eq_true rfl) dX2_readRule_119 ?_
  refine x_aload_n o dX2_readRule_122 0 rfl rfl ?_
  obtain ⟨j_13, ej_13, hf⟩ := ob_ex hf
  refine gRX2_12 o k_1 ej_13 dX2_readRule_123 ?_
  obtain ⟨k_14, hf⟩ := gq_ex hf
  obtain ⟨h_16, eh_16, hf⟩ := ob_ex hf
  refine vRX2_66 [] [] o (C_X1_endRule o.1.2.2.2.2.2.2.1 o.2 F eh_16) (by decide) k_14 rfl rfl (Nat.le_of_ble_eq_true rfl) dX2_readRule_126 ?_
  cases hf
  exact hr _ _ dX2_readRule_129
set_option maxRecDepth 100000 in
set_option maxHeartbeats 4000000 in
theorem S_X2_readRule_45 {k : Kst} {d : Kdy} (o : Ok k d cX2_readRule RX2 3 128) (F : Nat) {h : Hp} {a0 : Nat} {a1 : Nat} {x2 : Int32} {h1 : Hp} (hf : X2_readRule_45 F a0 a1 x2 h = some h1) (hr : RV k d cX2_readRule h1) : Wz k d h 45 [(0, .ref (ka k a0)), (1, .ref (ka k a1)), (2, .int x2)] [] := by
  unfold X2_readRule_45 at hf
  refine x_aload_n o dX2_readRule_45 0 rfl rfl ?_
  obtain ⟨k_1, hf⟩ := gq_ex hf
  obtain ⟨j_2, ej_2, hf⟩ := ob_ex hf
  refine gRX2_12 o k_1 ej_2 dX2_readRule_46 ?_
  obtain ⟨k_3, hf⟩ := gq_ex hf
  refine gRX2_46 o k_3 dX2_readRule_49 ?_
  refine x_bipush (v := 16) o dX2_readRule_52 (by decide) ?_
  refine x_icmp_lt o 67 dX2_readRule_54 (by decide) (fun q_4 => ?_) (fun q_4 => ?_)
  · replace hf := (if_pos q_4).symm.trans hf
    refine x_aload_n o dX2_readRule_67 1 rfl rfl ?_
    refine x_dup o dX2_readRule_68 rfl ?_
    obtain ⟨k_5, hf⟩ := gq_ex hf
    refine gRX2_38 o k_5 dX2_readRule_69 ?_
    refine x_iconst (v := 1) o dX2_readRule_72 (by decide) ?_
    refine x_iadd o dX2_readRule_73 ?_
    obtain ⟨h_6, eh_6, hf⟩ := bd_ex hf
    refine pRX2_38 o k_5 eh_6 dX2_readRule_74 ?_
    refine x_aload_n o dX2_readRule_77 0 rfl rfl ?_
    refine gRX2_12 o k_1 (p2 (up_2 eh_6) ej_2) dX2_readRule_78 ?_
    refine x_iload_n o dX2_readRule_81 2 rfl rfl ?_
    obtain ⟨h_8, eh_8, hf⟩ := ob_ex hf
    refine vRX2_49 [.int x2] [] o (C_X1_beginRule o.1.2.2.2.2.2.2.1 o.2 F eh_8) (by decide) k_3 rfl rfl (Nat.le_of_ble_eq_true rfl) dX2_readRule_82 ?_
    refine x_iload_n o dX2_readRule_85 2 rfl rfl ?_
    refine x_bipush (v := 120) o dX2_readRule_86 (by decide) ?_
    refine x_icmp_eq o 97 dX2_readRule_88 (by decide) (fun q_9 => ?_) (fun q_9 => ?_)
    · replace hf := (if_pos q_9).symm.trans hf
      refine x_sub [0, 1] [(0, .ref (ka k a0)), (1, .ref (ka k a1))] rfl ?_
      exact S_X2_readRule_97 o F hf hr
    · replace hf := (if_neg q_9).symm.trans hf
      refine x_aload_n o dX2_readRule_91 0 rfl rfl ?_
      refine x_aload_n o dX2_readRule_92 1 rfl rfl ?_
      refine x_iconst (v := 0) o dX2_readRule_93 (by decide) ?_
      obtain ⟨h_11, eh_11, hf⟩ := ob_ex hf
      refine vRX2_53 [.ref (ka k a1), .int 0] [] o (C_X2_readSum o.1.2.2.2.2.2.2.1 o.2 F eh_11) (by decide) k_1 rfl rfl (Nat.le_of_ble_eq_true rfl) dX2_readRule_94 ?_
      refine x_sub [0, 1] [(0, .ref (ka k a0)), (1, .ref (ka k a1))] rfl ?_
      exact S_X2_readRule_97 o F hf hr
  · replace hf := (if_neg q_4).symm.trans hf
    refine x_aload_n o dX2_readRule_57 1 rfl rfl ?_
    refine x_iconst (v := 4) o dX2_readRule_58 (by decide) ?_
    refine x_aload_n o dX2_readRule_59 1 rfl rfl ?_
    obtain ⟨k_12, hf⟩ := gq_ex hf
    refine gRX2_38 o k_12 dX2_readRule_60 ?_
    obtain ⟨h_14, eh_14, hf⟩ := ob_ex hf
    refine vRX2_42 [.int 4, .int (h.1 a1 2)] [] o (C_X9_refuse o.1.2.2.2.2.2.2.1 o.2 F eh_14) (by decide) k_12 rfl rfl (Nat.le_of_ble_eq_true rfl) dX2_readRule_63 ?_
    cases hf
    exact hr _ _ dX2_readRule_66
set_option maxRecDepth 100000 in
set_option maxHeartbeats 4000000 in
theorem S_X2_readRule_0 {k : Kst} {d : Kdy} (o : Ok k d cX2_readRule RX2 3 128) (F : Nat) {h : Hp} {a0 : Nat} {a1 : Nat} {h1 : Hp} (hf : X2_readRule F a0 a1 h = some h1) (hr : RV k d cX2_readRule h1) : Wz k d h 0 [(0, .ref (ka k a0)), (1, .ref (ka k a1))] [] := by
  unfold X2_readRule at hf
  refine x_aload_n o dX2_readRule_0 1 rfl rfl ?_
  obtain ⟨k_1, hf⟩ := gq_ex hf
  obtain ⟨c_2, ec_2, hf⟩ := ob_ex hf
  refine vRX2_34 [] [] o (C_X9_sign o.1.2.2.2.2.2.2.1 o.2 F ec_2) (by decide) k_1 rfl rfl (Nat.le_of_ble_eq_true rfl) dX2_readRule_1 ?_
  refine x_istore_n o dX2_readRule_4 (by decide) rfl [(2, .int c_2), (0, .ref (ka k a0)), (1, .ref (ka k a1))] rfl ?_
  refine x_iload_n o dX2_readRule_5 0 rfl rfl ?_
  refine x_bipush (v := 119) o dX2_readRule_6 (by decide) ?_
  refine x_icmp_eq o 45 dX2_readRule_8 (by decide) (fun q_4 => ?_) (fun q_4 => ?_)
  · replace hf := (if_pos q_4).symm.trans hf
    refine x_sub [1, 2, 0] [(0, .ref (ka k a0)), (1, .ref (ka k a1)), (2, .int c_2)] rfl ?_
    exact S_X2_readRule_45 o F hf hr
  · replace hf := (if_neg q_4).symm.trans hf
    refine x_iload_n o dX2_readRule_11 0 rfl rfl ?_
    refine x_bipush (v := 99) o dX2_readRule_12 (by decide) ?_
    refine x_icmp_eq o 45 dX2_readRule_14 (by decide) (fun q_5 => ?_) (fun q_5 => ?_)
    · replace hf := (if_pos q_5).symm.trans hf
      refine x_sub [1, 2, 0] [(0, .ref (ka k a0)), (1, .ref (ka k a1)), (2, .int c_2)] rfl ?_
      exact S_X2_readRule_45 o F hf hr
    · replace hf := (if_neg q_5).symm.trans hf
      refine x_iload_n o dX2_readRule_17 0 rfl rfl ?_
      refine x_bipush (v := 105) o dX2_readRule_18 (by decide) ?_
      refine x_icmp_eq o 45 dX2_readRule_20 (by decide) (fun q_6 => ?_) (fun q_6 => ?_)
      · replace hf := (if_pos q_6).symm.trans hf
        refine x_sub [1, 2, 0] [(0, .ref (ka k a0)), (1, .ref (ka k a1)), (2, .int c_2)] rfl ?_
        exact S_X2_readRule_45 o F hf hr
      · replace hf := (if_neg q_6).symm.trans hf
        refine x_iload_n o dX2_readRule_23 0 rfl rfl ?_
        refine x_bipush (v := 110) o dX2_readRule_24 (by decide) ?_
        refine x_icmp_eq o 45 dX2_readRule_26 (by decide) (fun q_7 => ?_) (fun q_7 => ?_)
        · replace hf := (if_pos q_7).symm.trans hf
          refine x_sub [1, 2, 0] [(0, .ref (ka k a0)), (1, .ref (ka k a1)), (2, .int c_2)] rfl ?_
          exact S_X2_readRule_45 o F hf hr
        · replace hf := (if_neg q_7).symm.trans hf
          refine x_iload_n o dX2_readRule_29 0 rfl rfl ?_
          refine x_bipush (v := 120) o dX2_readRule_30 (by decide) ?_
          refine x_icmp_eq o 45 dX2_readRule_32 (by decide) (fun q_8 => ?_) (fun q_8 => ?_)
          · replace hf := (if_pos q_8).symm.trans hf
            refine x_sub [1, 2, 0] [(0, .ref (ka k a0)), (1, .ref (ka k a1)), (2, .int c_2)] rfl ?_
            exact S_X2_readRule_45 o F hf hr
          · replace hf := (if_neg q_8).symm.trans hf
            refine x_aload_n o dX2_readRule_35 2 rfl rfl ?_
            refine x_iconst (v := 1) o dX2_readRule_36 (by decide) ?_
            refine x_aload_n o dX2_readRule_37 2 rfl rfl ?_
            refine gRX2_38 o k_1 dX2_readRule_38 ?_
            obtain ⟨h_10, eh_10, hf⟩ := ob_ex hf
            refine vRX2_42 [.int 1, .int (h.1 a1 2)] [] o (C_X9_refuse o.1.2.2.2.2.2.2.1 o.2 F eh_10) (by decide) k_1 rfl rfl (Nat.le_of_ble_eq_true rfl) dX2_readRule_41 ?_
            cases hf
            exact hr _ _ dX2_readRule_44
theorem C_X2_readRule {k : Kst} (hj : Dj k) (hn : kn k = kdl.length) (F : Nat) {h : Hp} {a0 : Nat} {a1 : Nat} {h1 : Hp} (hf : X2_readRule F a0 a1 h = some h1) : MV k 128 yX2_readRule cX2_readRule 3 [.ref (ka k a0), .ref (ka k a1)] h h1 := mV hj hn (by decide +kernel) (Nat.le_of_ble_eq_true rfl) (fun d o hr => S_X2_readRule_0 o F hf hr)
set_option maxRecDepth 100000 in
set_option maxHeartbeats 4000000 in
theorem S_X9_mustEnd_0 {k : Kst} {d : Kdy} (o : Ok k d cX9_mustEnd RX9 1 4) (F : Nat) {h : Hp} {a0 : Nat} {h1 : Hp} (hf : X9_mustEnd F a0 h = some h1) (hr : RV k d cX9_mustEnd h1) : Wz k d h 0 [(0, .ref (ka k a0))] [] := by
  unfold X9_mustEnd at hf
  refine x_aload_n o dX9_mustEnd_0 0 rfl rfl ?_
  obtain ⟨k_1, hf⟩ := gq_ex hf
  refine gRX9_34 o k_1 dX9_mustEnd_1 ?_
  refine x_aload_n o dX9_mustEnd_4 0 rfl rfl ?_
  refine gRX9_24 o k_1 dX9_mustEnd_5 ?_
  refine x_icmp_ge o 20 dX9_mustEnd_8 (by decide) (fun q_2 => ?_) (fun q_2 => ?_)
  · replace hf := (if_pos q_2).symm.trans hf
    cases hf
    exact hr _ _ dX9_mustEnd_20
  · replace hf := (if_neg q_2).symm.trans hf
    refine x_aload_n o dX9_mustEnd_11 0 rfl rfl ?_
    refine x_iconst (v := 1) o dX9_mustEnd_12 (by decide) ?_
    refine x_aload_n o dX9_mustEnd_13 0 rfl rfl ?_
    refine gRX9_34 o k_1 dX9_mustEnd_14 ?_
    obtain ⟨h_4, eh_4, hf⟩ := ob_ex hf
    refine vRX9_52 [.int 1, .int (h.1 a0 2)] [] o (C_X9_refuse o.1.2.2.2.2.2.2.1 o.2 F eh_4) (by decide) k_1 rfl rfl (Nat.le_of_ble_eq_true rfl) dX9_mustEnd_17 ?_
    cases hf
    exact hr _ _ dX9_mustEnd_20
theorem C_X9_mustEnd {k : Kst} (hj : Dj k) (hn : kn k = kdl.length) (F : Nat) {h : Hp} {a0 : Nat} {h1 : Hp} (hf : X9_mustEnd F a0 h = some h1) : MV k 4 yX9_mustEnd cX9_mustEnd 1 [.ref (ka k a0)] h h1 := mV hj hn (by decide +kernel) (Nat.le_of_ble_eq_true rfl) (fun d o hr => S_X9_mustEnd_0 o F hf hr)
set_option maxRecDepth 100000 in
set_option maxHeartbeats 4000000 in
theorem S_X2_readAll_41 {k : Kst} {d : Kdy} (o : Ok k d cX2_readAll RX2 3 129) (F : Nat) {h : Hp} {a1 : Nat} {h1 : Hp} (hf : X2_readAll_41 F a1 h = some h1) (hr : RV k d cX2_readAll h1) : Wz k d h 41 [(1, .ref (ka k a1))] [] := by
  unfold X2_readAll_41 at hf
  refine x_aload_n o dX2_readAll_41 0 rfl rfl ?_
  obtain ⟨k_1, hf⟩ := gq_ex hf
  obtain ⟨h_3, eh_3, hf⟩ := ob_ex hf
  refine vRX2_31 [] [] o (C_X9_mustEnd o.1.2.2.2.2.2.2.1 o.2 F eh_3) (by decide) k_1 rfl rfl (Nat.le_of_ble_eq_true rfl) dX2_readAll_42 ?_
  cases hf
  exact hr _ _ dX2_readAll_45
set_option maxRecDepth 100000 in
set_option maxHeartbeats 4000000 in
theorem S_X2_readAll_14 {k : Kst} {d : Kdy} (o : Ok k d cX2_readAll RX2 3 129) (F : Nat) : ∀ (f : Nat) {h : Hp} {a0 : Nat} {a1 : Nat} {x2 : Int32} {h1 : Hp}, X2_readAll_14 F f a0 a1 x2 h = some h1 → RV k d cX2_readAll h1 → Wz k d h 14 [(0, .ref (ka k a0)), (1, .ref (ka k a1)), (2, .int x2)] [] := by
  intro f
  induction f with
  | zero =>
    intro h a0 a1 x2 h1 hf hr
    exact nomatch (show (none : Option _) = some _ from hf)
  | succ f ih =>
    intro h a0 a1 x2 h1 hf hr
    rw [X2_readAll_14] at hf
    refine x_iload_n o dX2_readAll_14 2 rfl rfl ?_
    refine x_sipush (v := 240) o dX2_readAll_15 (by decide) ?_
    refine x_icmp_ge o 41 dX2_readAll_18 (by decide) (fun q_1 => ?_) (fun q_1 => ?_)
    · replace hf := (if_pos q_1).symm.trans hf
      refine x_sub [1] [(1, .ref (ka k a1))] rfl ?_
      exact S_X2_readAll_41 o F hf hr
    · replace hf := (if_neg q_1).symm.trans hf
      refine x_aload_n o dX2_readAll_21 1 rfl rfl ?_
      refine x_bipush (v := 59) o dX2_readAll_22 (by decide) ?_
      obtain ⟨k_2, hf⟩ := gq_ex hf
      obtain ⟨c_3, h_4, ec_3, hf⟩ := bq_ex hf
      refine vRX2_25 [.int 59] [] o (C_X9_goesOn o.1.2.2.2.2.2.2.1 o.2 F ec_3) (by decide) k_2 rfl rfl (Nat.le_of_ble_eq_true rfl) dX2_readAll_24 ?_
      refine x_if_eq o 41 dX2_readAll_27 (by decide) (fun q_5 => ?_) (fun q_5 => ?_)
      · replace hf := (if_pos q_5).symm.trans hf
        refine x_sub [1] [(1, .ref (ka k a1))] rfl ?_
        exact S_X2_readAll_41 o F hf hr
      · replace hf := (if_neg q_5).symm.trans hf
        refine x_aload_n o dX2_readAll_30 0 rfl rfl ?_
        refine x_aload_n o dX2_readAll_31 1 rfl rfl ?_
        obtain ⟨k_6, hf⟩ := gq_ex hf
        obtain ⟨h_8, eh_8, hf⟩ := ob_ex hf
        refine vRX2_21 [.ref (ka k a1)] [] o (C_X2_readRule o.1.2.2.2.2.2.2.1 o.2 F eh_8) (by decide) k_6 rfl rfl (Nat.le_of_ble_eq_true rfl) dX2_readAll_32 ?_
        obtain ⟨x2_9, ex2_9, hf⟩ := bd_ex hf
        refine x_iinc o dX2_readAll_35 (by decide) 2 rfl ex2_9.symm [(2, .int x2_9), (0, .ref (ka k a0)), (1, .ref (ka k a1))] rfl ?_
        refine x_goto o 14 dX2_readAll_38 (by decide) ?_
        refine x_sub [1, 2, 0] [(0, .ref (ka k a0)), (1, .ref (ka k a1)), (2, .int x2_9)] rfl ?_
        exact ih hf hr
set_option maxRecDepth 100000 in
set_option maxHeartbeats 4000000 in
theorem S_X2_readAll_0 {k : Kst} {d : Kdy} (o : Ok k d cX2_readAll RX2 3 129) (F : Nat) {h : Hp} {a0 : Nat} {a1 : Nat} {h1 : Hp} (hf : X2_readAll F a0 a1 h = some h1) (hr : RV k d cX2_readAll h1) : Wz k d h 0 [(0, .ref (ka k a0)), (1, .ref (ka k a1))] [] := by
  unfold X2_readAll at hf
  refine x_aload_n o dX2_readAll_0 0 rfl rfl ?_
  obtain ⟨k_1, hf⟩ := gq_ex hf
  obtain ⟨j_2, ej_2, hf⟩ := ob_ex hf
  refine gRX2_12 o k_1 ej_2 dX2_readAll_1 ?_
  obtain ⟨k_3, hf⟩ := gq_ex hf
  obtain ⟨h_5, eh_5, hf⟩ := ob_ex hf
  refine vRX2_18 [] [] o (C_X1_empty o.1.2.2.2.2.2.2.1 o.2 F eh_5) (by decide) k_3 rfl rfl (Nat.le_of_ble_eq_true rfl) dX2_readAll_4 ?_
  refine x_aload_n o dX2_readAll_7 0 rfl rfl ?_
  refine x_aload_n o dX2_readAll_8 1 rfl rfl ?_
  obtain ⟨h_7, eh_7, hf⟩ := ob_ex hf
  refine vRX2_21 [.ref (ka k a1)] [] o (C_X2_readRule o.1.2.2.2.2.2.2.1 o.2 F eh_7) (by decide) k_1 rfl rfl (Nat.le_of_ble_eq_true rfl) dX2_readAll_9 ?_
  refine x_iconst (v := 0) o dX2_readAll_12 (by decide) ?_
  refine x_istore_n o dX2_readAll_13 (by decide) rfl [(2, .int 0), (0, .ref (ka k a0)), (1, .ref (ka k a1))] rfl ?_
  refine x_sub [1, 2, 0] [(0, .ref (ka k a0)), (1, .ref (ka k a1)), (2, .int 0)] rfl ?_
  exact S_X2_readAll_14 o F _ hf hr
theorem C_X2_readAll {k : Kst} (hj : Dj k) (hn : kn k = kdl.length) (F : Nat) {h : Hp} {a0 : Nat} {a1 : Nat} {h1 : Hp} (hf : X2_readAll F a0 a1 h = some h1) : MV k 129 yX2_readAll cX2_readAll 3 [.ref (ka k a0), .ref (ka k a1)] h h1 := mV hj hn (by decide +kernel) (Nat.le_of_ble_eq_true rfl) (fun d o hr => S_X2_readAll_0 o F hf hr)
set_option maxRecDepth 100000 in
set_option maxHeartbeats 4000000 in
theorem S_X2_exchange_0 {k : Kst} {d : Kdy} (o : Ok k d cX2_exchange RX2 3 3) (F : Nat) {h : Hp} {a0 : Nat} {a1 : Nat} {r : Nat} {h1 : Hp} (hf : X2_exchange F a0 a1 h = some (r, h1)) (hr : RR k d cX2_exchange r h1) : Wz k d h 0 [(0, .ref (ka k a0)), (1, .ref (ka k a1))] [] := by
  unfold X2_exchange at hf
  refine x_aload_n o dX2_exchange_0 0 rfl rfl ?_
  obtain ⟨k_1, hf⟩ := gq_ex hf
  obtain ⟨j_2, ej_2, hf⟩ := ob_ex hf
  refine gRX2_12 o k_1 ej_2 dX2_exchange_1 ?_
  refine x_astore_n o dX2_exchange_4 (by decide) rfl [(2, .ref (ka k j_2)), (0, .ref (ka k a0)), (1, .ref (ka k a1))] rfl ?_
  refine x_aload_n o dX2_exchange_5 1 rfl rfl ?_
  refine x_aload_n o dX2_exchange_6 2 rfl rfl ?_
  obtain ⟨h_3, eh_3, hf⟩ := bd_ex hf
  refine pRX2_12 o k_1 eh_3 dX2_exchange_7 ?_
  refine x_aload_n o dX2_exchange_10 0 rfl rfl ?_
  cases hf
  exact hr _ _ dX2_exchange_11
theorem C_X2_exchange {k : Kst} (hj : Dj k) (hn : kn k = kdl.length) (F : Nat) {h : Hp} {a0 : Nat} {a1 : Nat} {r : Nat} {h1 : Hp} (hf : X2_exchange F a0 a1 h = some (r, h1)) : MR k 3 yX2_exchange cX2_exchange 3 (some (.object "MiddleBridge$Law")) [.ref (ka k a0), .ref (ka k a1)] h r h1 := mR hj hn (by decide +kernel) (Nat.le_of_ble_eq_true rfl) (fun d o hr => S_X2_exchange_0 o F hf hr)
set_option maxRecDepth 100000 in
set_option maxHeartbeats 4000000 in
theorem S_X11_within_0 {k : Kst} {d : Kdy} (o : Ok k d cX11_within RX11 3 3) (F : Nat) {h : Hp} {x0 : Int32} {x1 : Int32} {x2 : Int32} {r : Int32} (hf : X11_within F x0 x1 x2 h = some r) (hr : RZ k d cX11_within r h) : Wz k d h 0 [(0, .int x0), (1, .int x1), (2, .int x2)] [] := by
  unfold X11_within at hf
  refine x_iload_n o dX11_within_0 0 rfl rfl ?_
  refine x_iload_n o dX11_within_1 1 rfl rfl ?_
  refine x_icmp_lt o 14 dX11_within_2 (by decide) (fun q_1 => ?_) (fun q_1 => ?_)
  · replace hf := (if_pos q_1).symm.trans hf
    refine x_iconst (v := 0) o dX11_within_14 (by decide) ?_
    cases hf
    exact hr (Or.inl rfl) _ _ dX11_within_15
  · replace hf := (if_neg q_1).symm.trans hf
    refine x_iload_n o dX11_within_5 0 rfl rfl ?_
    refine x_iload_n o dX11_within_6 2 rfl rfl ?_
    refine x_icmp_gt o 14 dX11_within_7 (by decide) (fun q_2 => ?_) (fun q_2 => ?_)
    · replace hf := (if_pos q_2).symm.trans hf
      refine x_iconst (v := 0) o dX11_within_14 (by decide) ?_
      cases hf
      exact hr (Or.inl rfl) _ _ dX11_within_15
    · replace hf := (if_neg q_2).symm.trans hf
      refine x_iconst (v := 1) o dX11_within_10 (by decide) ?_
      refine x_goto o 15 dX11_within_11 (by decide) ?_
      cases hf
      exact hr (Or.inr rfl) _ _ dX11_within_15
theorem C_X11_within {k : Kst} (hj : Dj k) (hn : kn k = kdl.length) (F : Nat) {h : Hp} {x0 : Int32} {x1 : Int32} {x2 : Int32} {r : Int32} (hf : X11_within F x0 x1 x2 h = some r) : MI k 3 yX11_within cX11_within 3 (some .boolean) [.int x0, .int x1, .int x2] h r h := mZ hj hn (by decide +kernel) (Nat.le_of_ble_eq_true rfl) (fun d o hr => S_X11_within_0 o F hf hr)
set_option maxRecDepth 100000 in
set_option maxHeartbeats 4000000 in
theorem S_X9_readBounded_0 {k : Kst} {d : Kdy} (o : Ok k d cX9_readBounded RX9 6 6) (F : Nat) {h : Hp} {a0 : Nat} {x1 : Int32} {x2 : Int32} {x3 : Int32} {r : Int32} {h1 : Hp} (hf : X9_readBounded F a0 x1 x2 x3 h = some (r, h1)) (hr : RI k d cX9_readBounded r h1) : Wz k d h 0 [(0, .ref (ka k a0)), (1, .int x1), (2, .int x2), (3, .int x3)] [] := by
  unfold X9_readBounded at hf
  refine x_aload_n o dX9_readBounded_0 0 rfl rfl ?_
  obtain ⟨k_1, hf⟩ := gq_ex hf
  refine gRX9_34 o k_1 dX9_readBounded_1 ?_
  obtain ⟨x4_2, ex4_2, hf⟩ := bd_ex hf
  refine x_top ex4_2 ?_
  refine x_istore o dX9_readBounded_4 (by decide) [(4, .int x4_2), (0, .ref (ka k a0)), (1, .int x1), (2, .int x2), (3, .int x3)] rfl ?_
  refine x_aload_n o dX9_readBounded_6 1 rfl rfl ?_
  refine x_iload_n o dX9_readBounded_7 2 rfl rfl ?_
  obtain ⟨c_3, h_4, ec_3, hf⟩ := bq_ex hf
  refine vRX9_63 [.int x1] [] o (C_X9_readNumber o.1.2.2.2.2.2.2.1 o.2 F ec_3) (by decide) k_1 rfl rfl (Nat.le_of_ble_eq_true rfl) dX9_readBounded_8 ?_
  refine x_istore o dX9_readBounded_11 (by decide) [(5, .int c_3), (4, .int x4_2), (0, .ref (ka k a0)), (1, .int x1), (2, .int x2), (3, .int x3)] rfl ?_
  refine x_iload o dX9_readBounded_13 0 rfl ?_
  refine x_iload_n o dX9_readBounded_15 4 rfl rfl ?_
  refine x_iload_n o dX9_readBounded_16 5 rfl rfl ?_
  obtain ⟨c_5, ec_5, hf⟩ := ob_ex hf
  refine vRX9_66 [.int c_3, .int x2, .int x3] [] o (C_X11_within o.1.2.2.2.2.2.2.1 o.2 F ec_5) (by decide) rfl rfl (Nat.le_of_ble_eq_true rfl) dX9_readBounded_17 ?_
  refine x_if_ne o 30 dX9_readBounded_20 (by decide) (fun q_7 => ?_) (fun q_7 => ?_)
  · replace hf := (if_neg q_7).symm.trans hf
    refine x_iload o dX9_readBounded_30 0 rfl ?_
    cases hf
    exact hr _ _ dX9_readBounded_32
  · replace hf := (if_pos q_7).symm.trans hf
    refine x_aload_n o dX9_readBounded_23 2 rfl rfl ?_
    refine x_iconst (v := 3) o dX9_readBounded_24 (by decide) ?_
    refine x_iload o dX9_readBounded_25 1 rfl ?_
    obtain ⟨h_9, eh_9, hf⟩ := ob_ex hf
    refine vRX9_52 [.int 3, .int x4_2] [] o (C_X9_refuse o.1.2.2.2.2.2.2.1 o.2 F eh_9) (by decide) k_1 rfl rfl (Nat.le_of_ble_eq_true rfl) dX9_readBounded_27 ?_
    refine x_iload o dX9_readBounded_30 0 rfl ?_
    cases hf
    exact hr _ _ dX9_readBounded_32
theorem C_X9_readBounded {k : Kst} (hj : Dj k) (hn : kn k = kdl.length) (F : Nat) {h : Hp} {a0 : Nat} {x1 : Int32} {x2 : Int32} {x3 : Int32} {r : Int32} {h1 : Hp} (hf : X9_readBounded F a0 x1 x2 x3 h = some (r, h1)) : MI k 6 yX9_readBounded cX9_readBounded 6 (some .int) [.ref (ka k a0), .int x1, .int x2, .int x3] h r h1 := mI hj hn (by decide +kernel) (Nat.le_of_ble_eq_true rfl) (fun d o hr => S_X9_readBounded_0 o F hf hr)
set_option maxRecDepth 100000 in
set_option maxHeartbeats 4000000 in
theorem S_X4_readDeed_16 {k : Kst} {d : Kdy} (o : Ok k d cX4_readDeed RX4 4 7) (F : Nat) {h : Hp} {a0 : Nat} {a1 : Nat} {r0 : Nat} {s1 : Int32} {s2 : Int32} {s3 : Int32} {h1 : Hp} (hf : X4_readDeed_16 F a0 a1 r0 s1 s2 s3 h = some h1) (hr : RV k d cX4_readDeed h1) : Wz k d h 16 [(0, .ref (ka k a0)), (1, .ref (ka k a1))] [.int s3, .int s2, .int s1, .ref (ka k r0)] := by
  unfold X4_readDeed_16 at hf
  obtain ⟨k_1, hf⟩ := gq_ex hf
  obtain ⟨c_2, h_3, ec_2, hf⟩ := bq_ex hf
  refine vRX4_60 [.int s1, .int s2, .int s3] [] o (C_X9_either o.1.2.2.2.2.2.2.1 o.2 F ec_2) (by decide) k_1 rfl rfl (Nat.le_of_ble_eq_true rfl) dX4_readDeed_16 ?_
  refine x_istore_n o dX4_readDeed_19 (by decide) rfl [(3, .int c_2), (0, .ref (ka k a0)), (1, .ref (ka k a1))] rfl ?_
  refine x_aload_n o dX4_readDeed_20 1 rfl rfl ?_
  obtain ⟨k_4, hf⟩ := gq_ex hf
  obtain ⟨j_5, ej_5, hf⟩ := ob_ex hf
  refine gRX4_15 o k_4 ej_5 dX4_readDeed_21 ?_
  refine x_aload_n o dX4_readDeed_24 1 rfl rfl ?_
  refine gRX4_24 o k_4 dX4_readDeed_25 ?_
  refine x_iload_n o dX4_readDeed_28 0 rfl rfl ?_
  obtain ⟨h_7, eh_7, hf⟩ := ob_ex hf
  refine vRX4_52 [.ref (ka k j_5), .int (h_3.1 a0 4), .int c_2] [] o (C_X11_put o.1.2.2.2.2.2.2.1 o.2 F eh_7) (by decide) rfl rfl (Nat.le_of_ble_eq_true rfl) dX4_readDeed_29 ?_
  refine x_iload_n o dX4_readDeed_32 0 rfl rfl ?_
  refine x_if_ne o 48 dX4_readDeed_33 (by decide) (fun q_8 => ?_) (fun q_8 => ?_)
  · replace hf := (if_neg q_8).symm.trans hf
    refine x_iload_n o dX4_readDeed_48 0 rfl rfl ?_
    refine x_bipush (v := 98) o dX4_readDeed_49 (by decide) ?_
    refine x_icmp_ne o 102 dX4_readDeed_51 (by decide) (fun q_9 => ?_) (fun q_9 => ?_)
    · replace hf := (if_neg q_9).symm.trans hf
      refine x_aload_n o dX4_readDeed_102 1 rfl rfl ?_
      obtain ⟨j_10, ej_10, hf⟩ := ob_ex hf
      refine gRX4_21 o k_4 ej_10 dX4_readDeed_103 ?_
      refine x_aload_n o dX4_readDeed_106 1 rfl rfl ?_
      refine gRX4_24 o k_4 dX4_readDeed_107 ?_
      refine x_aload_n o dX4_readDeed_110 2 rfl rfl ?_
      refine x_iconst (v := 4) o dX4_readDeed_111 (by decide) ?_
      obtain ⟨k_11, hf⟩ := gq_ex hf
      obtain ⟨c_12, h_13, ec_12, hf⟩ := bq_ex hf
      refine vRX4_71 [.int 4] [.int (h_7.1 a0 4), .ref (ka k j_10)] o (C_X9_readNumber o.1.2.2.2.2.2.2.1 o.2 F ec_12) (by decide) k_11 rfl rfl (Nat.le_of_ble_eq_true rfl) dX4_readDeed_112 ?_
      obtain ⟨h_15, eh_15, hf⟩ := ob_ex hf
      refine vRX4_52 [.ref (ka k j_10), .int (h_7.1 a0 4), .int c_12] [] o (C_X11_put o.1.2.2.2.2.2.2.1 o.2 F eh_15) (by decide) rfl rfl (Nat.le_of_ble_eq_true rfl) dX4_readDeed_115 ?_
      cases hf
      exact hr _ _ dX4_readDeed_118
    · replace hf := (if_pos q_9).symm.trans hf
      refine x_aload_n o dX4_readDeed_54 1 rfl rfl ?_
      obtain ⟨j_16, ej_16, hf⟩ := ob_ex hf
      refine gRX4_18 o k_4 ej_16 dX4_readDeed_55 ?_
      refine x_aload_n o dX4_readDeed_58 1 rfl rfl ?_
      refine gRX4_24 o k_4 dX4_readDeed_59 ?_
      refine x_aload_n o dX4_readDeed_62 2 rfl rfl ?_
      refine x_iconst (v := 4) o dX4_readDeed_63 (by decide) ?_
      refine x_iconst (v := 1) o dX4_readDeed_64 (by decide) ?_
      refine x_bipush (v := 20) o dX4_readDeed_65 (by decide) ?_
      obtain ⟨k_17, hf⟩ := gq_ex hf
      obtain ⟨c_18, h_19, ec_18, hf⟩ := bq_ex hf
      refine vRX4_64 [.int 4, .int 1, .int 20] [.int (h_7.1 a0 4), .ref (ka k j_16)] o (C_X9_readBounded o.1.2.2.2.2.2.2.1 o.2 F ec_18) (by decide) k_17 rfl rfl (Nat.le_of_ble_eq_true rfl) dX4_readDeed_67 ?_
      obtain ⟨h_21, eh_21, hf⟩ := ob_ex hf
      refine vRX4_52 [.ref (ka k j_16), .int (h_7.1 a0 4), .int c_18] [] o (C_X11_put o.1.2.2.2.2.2.2.1 o.2 F eh_21) (by decide) rfl rfl (Nat.le_of_ble_eq_true rfl) dX4_readDeed_70 ?_
      refine x_aload_n o dX4_readDeed_73 2 rfl rfl ?_
      refine x_bipush (v := 58) o dX4_readDeed_74 (by decide) ?_
      obtain ⟨h_23, eh_23, hf⟩ := ob_ex hf
      refine vRX4_67 [.int 58] [] o (C_X9_pass o.1.2.2.2.2.2.2.1 o.2 F eh_23) (by decide) k_17 rfl rfl (Nat.le_of_ble_eq_true rfl) dX4_readDeed_76 ?_
      refine x_aload_n o dX4_readDeed_79 1 rfl rfl ?_
      obtain ⟨j_24, ej_24, hf⟩ := ob_ex hf
      refine gRX4_21 o k_4 ej_24 dX4_readDeed_80 ?_
      refine x_aload_n o dX4_readDeed_83 1 rfl rfl ?_
      refine gRX4_24 o k_4 dX4_readDeed_84 ?_
      refine x_aload_n o dX4_readDeed_87 2 rfl rfl ?_
      refine x_iconst (v := 4) o dX4_readDeed_88 (by decide) ?_
      refine x_iconst (v := 0) o dX4_readDeed_89 (by decide) ?_
      refine x_sipush (v := 255) o dX4_readDeed_90 (by decide) ?_
      obtain ⟨c_25, h_26, ec_25, hf⟩ := bq_ex hf
      refine vRX4_64 [.int 4, .int 0, .int 255] [.int (h_23.1 a0 4), .ref (ka k j_24)] o (C_X9_readBounded o.1.2.2.2.2.2.2.1 o.2 F ec_25) (by decide) k_17 rfl rfl (Nat.le_of_ble_eq_true rfl) dX4_readDeed_93 ?_
      obtain ⟨h_28, eh_28, hf⟩ := ob_ex hf
      refine vRX4_52 [.ref (ka k j_24), .int (h_23.1 a0 4), .int c_25] [] o (C_X11_put o.1.2.2.2.2.2.2.1 o.2 F eh_28) (by decide) rfl rfl (Nat.le_of_ble_eq_true rfl) dX4_readDeed_96 ?_
      refine x_goto o 118 dX4_readDeed_99 (by decide) ?_
      cases hf
      exact hr _ _ dX4_readDeed_118
  · replace hf := (if_pos q_8).symm.trans hf
    refine x_aload_n o dX4_readDeed_36 2 rfl rfl ?_
    refine x_iconst (v := 1) o dX4_readDeed_37 (by decide) ?_
    refine x_aload_n o dX4_readDeed_38 2 rfl rfl ?_
    obtain ⟨k_29, hf⟩ := gq_ex hf
    refine gRX4_45 o k_29 dX4_readDeed_39 ?_
    obtain ⟨h_31, eh_31, hf⟩ := ob_ex hf
    refine vRX4_48 [.int 1, .int (h_7.1 a1 2)] [] o (C_X9_refuse o.1.2.2.2.2.2.2.1 o.2 F eh_31) (by decide) k_29 rfl rfl (Nat.le_of_ble_eq_true rfl) dX4_readDeed_42 ?_
    refine x_goto o 118 dX4_readDeed_45 (by decide) ?_
    cases hf
    exact hr _ _ dX4_readDeed_118
set_option maxRecDepth 100000 in
set_option maxHeartbeats 4000000 in
theorem S_X4_readDeed_0 {k : Kst} {d : Kdy} (o : Ok k d cX4_readDeed RX4 4 7) (F : Nat) {h : Hp} {a0 : Nat} {a1 : Nat} {x2 : Int32} {h1 : Hp} (hf : X4_readDeed F a0 a1 x2 h = some h1) (hr : RV k d cX4_readDeed h1) : Wz k d h 0 [(0, .ref (ka k a0)), (1, .ref (ka k a1)), (2, .int x2)] [] := by
  unfold X4_readDeed at hf
  refine x_aload_n o dX4_readDeed_0 1 rfl rfl ?_
  refine x_bipush (v := 43) o dX4_readDeed_1 (by decide) ?_
  refine x_bipush (v := 45) o dX4_readDeed_3 (by decide) ?_
  refine x_iload_n o dX4_readDeed_5 2 rfl rfl ?_
  refine x_if_eq o 14 dX4_readDeed_6 (by decide) (fun q_1 => ?_) (fun q_1 => ?_)
  · replace hf := (if_pos q_1).symm.trans hf
    refine x_bipush (v := 45) o dX4_readDeed_14 (by decide) ?_
    refine x_sub [0, 1] [(0, .ref (ka k a0)), (1, .ref (ka k a1))] rfl ?_
    exact S_X4_readDeed_16 o F hf hr
  · replace hf := (if_neg q_1).symm.trans hf
    refine x_bipush (v := 98) o dX4_readDeed_9 (by decide) ?_
    refine x_goto o 16 dX4_readDeed_11 (by decide) ?_
    refine x_sub [0, 1] [(0, .ref (ka k a0)), (1, .ref (ka k a1))] rfl ?_
    exact S_X4_readDeed_16 o F hf hr
theorem C_X4_readDeed {k : Kst} (hj : Dj k) (hn : kn k = kdl.length) (F : Nat) {h : Hp} {a0 : Nat} {a1 : Nat} {x2 : Int32} {h1 : Hp} (hf : X4_readDeed F a0 a1 x2 h = some h1) : MV k 7 yX4_readDeed cX4_readDeed 4 [.ref (ka k a0), .ref (ka k a1), .int x2] h h1 := mV hj hn (by decide +kernel) (Nat.le_of_ble_eq_true rfl) (fun d o hr => S_X4_readDeed_0 o F hf hr)
set_option maxRecDepth 100000 in
set_option maxHeartbeats 4000000 in
theorem S_X4_readLine_49 {k : Kst} {d : Kdy} (o : Ok k d cX4_readLine RX4 4 8) (F : Nat) {h : Hp} {a0 : Nat} {a1 : Nat} {x2 : Int32} {x3 : Int32} {h1 : Hp} (hf : X4_readLine_49 F a0 a1 x2 x3 h = some h1) (hr : RV k d cX4_readLine h1) : Wz k d h 49 [(0, .ref (ka k a0)), (1, .ref (ka k a1)), (2, .int x2), (3, .int x3)] [] := by
  unfold X4_readLine_49 at hf
  refine x_aload_n o dX4_readLine_49 0 rfl rfl ?_
  obtain ⟨k_1, hf⟩ := gq_ex hf
  refine gRX4_24 o k_1 dX4_readLine_50 ?_
  refine x_bipush (v := 20) o dX4_readLine_53 (by decide) ?_
  refine x_icmp_lt o 68 dX4_readLine_55 (by decide) (fun q_2 => ?_) (fun q_2 => ?_)
  · replace hf := (if_pos q_2).symm.trans hf
    refine x_aload_n o dX4_readLine_68 1 rfl rfl ?_
    refine x_dup o dX4_readLine_69 rfl ?_
    obtain ⟨k_3, hf⟩ := gq_ex hf
    refine gRX4_45 o k_3 dX4_readLine_70 ?_
    refine x_iconst (v := 1) o dX4_readLine_73 (by decide) ?_
    refine x_iadd o dX4_readLine_74 ?_
    obtain ⟨h_4, eh_4, hf⟩ := bd_ex hf
    refine pRX4_45 o k_3 eh_4 dX4_readLine_75 ?_
    refine x_aload_n o dX4_readLine_78 0 rfl rfl ?_
    obtain ⟨j_5, ej_5, hf⟩ := ob_ex hf
    refine gRX4_9 o k_1 ej_5 dX4_readLine_79 ?_
    refine x_aload_n o dX4_readLine_82 0 rfl rfl ?_
    refine gRX4_24 o k_1 dX4_readLine_83 ?_
    refine x_iload_n o dX4_readLine_86 2 rfl rfl ?_
    obtain ⟨h_7, eh_7, hf⟩ := ob_ex hf
    refine vRX4_52 [.ref (ka k j_5), .int (h_4.1 a0 4), .int x2] [] o (C_X11_put o.1.2.2.2.2.2.2.1 o.2 F eh_7) (by decide) rfl rfl (Nat.le_of_ble_eq_true rfl) dX4_readLine_87 ?_
    refine x_aload_n o dX4_readLine_90 0 rfl rfl ?_
    refine x_aload_n o dX4_readLine_91 1 rfl rfl ?_
    refine x_iload_n o dX4_readLine_92 3 rfl rfl ?_
    obtain ⟨h_9, eh_9, hf⟩ := ob_ex hf
    refine vRX4_56 [.ref (ka k a1), .int x3] [] o (C_X4_readDeed o.1.2.2.2.2.2.2.1 o.2 F eh_9) (by decide) k_1 rfl rfl (Nat.le_of_ble_eq_true rfl) dX4_readLine_93 ?_
    refine x_aload_n o dX4_readLine_96 0 rfl rfl ?_
    refine x_dup o dX4_readLine_97 rfl ?_
    refine gRX4_24 o k_1 dX4_readLine_98 ?_
    refine x_iconst (v := 1) o dX4_readLine_101 (by decide) ?_
    refine x_iadd o dX4_readLine_102 ?_
    obtain ⟨h_10, eh_10, hf⟩ := bd_ex hf
    refine pRX4_24 o k_1 eh_10 dX4_readLine_103 ?_
    cases hf
    exact hr _ _ dX4_readLine_106
  · replace hf := (if_neg q_2).symm.trans hf
    refine x_aload_n o dX4_readLine_58 1 rfl rfl ?_
    refine x_iconst (v := 4) o dX4_readLine_59 (by decide) ?_
    refine x_aload_n o dX4_readLine_60 1 rfl rfl ?_
    obtain ⟨k_11, hf⟩ := gq_ex hf
    refine gRX4_45 o k_11 dX4_readLine_61 ?_
    obtain ⟨h_13, eh_13, hf⟩ := ob_ex hf
    refine vRX4_48 [.int 4, .int (h.1 a1 2)] [] o (C_X9_refuse o.1.2.2.2.2.2.2.1 o.2 F eh_13) (by decide) k_11 rfl rfl (Nat.le_of_ble_eq_true rfl) dX4_readLine_64 ?_
    cases hf
    exact hr _ _ dX4_readLine_67
set_option maxRecDepth 100000 in
set_option maxHeartbeats 4000000 in
theorem S_X4_readLine_22 {k : Kst} {d : Kdy} (o : Ok k d cX4_readLine RX4 4 8) (F : Nat) {h : Hp} {a0 : Nat} {a1 : Nat} {x2 : Int32} {s0 : Int32} {h1 : Hp} (hf : X4_readLine_22 F a0 a1 x2 s0 h = some h1) (hr : RV k d cX4_readLine h1) : Wz k d h 22 [(0, .ref (ka k a0)), (1, .ref (ka k a1)), (2, .int x2)] [.int s0] := by
  unfold X4_readLine_22 at hf
  refine x_istore_n o dX4_readLine_22 (by decide) rfl [(3, .int s0), (0, .ref (ka k a0)), (1, .ref (ka k a1)), (2, .int x2)] rfl ?_
  refine x_iload_n o dX4_readLine_23 0 rfl rfl ?_
  refine x_if_ne o 49 dX4_readLine_24 (by decide) (fun q_1 => ?_) (fun q_1 => ?_)
  · replace hf := (if_neg q_1).symm.trans hf
    refine x_sub [1, 2, 3, 0] [(0, .ref (ka k a0)), (1, .ref (ka k a1)), (2, .int x2), (3, .int s0)] rfl ?_
    exact S_X4_readLine_49 o F hf hr
  · replace hf := (if_pos q_1).symm.trans hf
    refine x_iload_n o dX4_readLine_27 3 rfl rfl ?_
    refine x_bipush (v := 115) o dX4_readLine_28 (by decide) ?_
    refine x_icmp_eq o 49 dX4_readLine_30 (by decide) (fun q_2 => ?_) (fun q_2 => ?_)
    · replace hf := (if_pos q_2).symm.trans hf
      refine x_sub [1, 2, 3, 0] [(0, .ref (ka k a0)), (1, .ref (ka k a1)), (2, .int x2), (3, .int s0)] rfl ?_
      exact S_X4_readLine_49 o F hf hr
    · replace hf := (if_neg q_2).symm.trans hf
      refine x_iload_n o dX4_readLine_33 3 rfl rfl ?_
      refine x_bipush (v := 100) o dX4_readLine_34 (by decide) ?_
      refine x_icmp_eq o 49 dX4_readLine_36 (by decide) (fun q_3 => ?_) (fun q_3 => ?_)
      · replace hf := (if_pos q_3).symm.trans hf
        refine x_sub [1, 2, 3, 0] [(0, .ref (ka k a0)), (1, .ref (ka k a1)), (2, .int x2), (3, .int s0)] rfl ?_
        exact S_X4_readLine_49 o F hf hr
      · replace hf := (if_neg q_3).symm.trans hf
        refine x_aload_n o dX4_readLine_39 2 rfl rfl ?_
        refine x_iconst (v := 1) o dX4_readLine_40 (by decide) ?_
        refine x_aload_n o dX4_readLine_41 2 rfl rfl ?_
        obtain ⟨k_4, hf⟩ := gq_ex hf
        refine gRX4_45 o k_4 dX4_readLine_42 ?_
        obtain ⟨h_6, eh_6, hf⟩ := ob_ex hf
        refine vRX4_48 [.int 1, .int (h.1 a1 2)] [] o (C_X9_refuse o.1.2.2.2.2.2.2.1 o.2 F eh_6) (by decide) k_4 rfl rfl (Nat.le_of_ble_eq_true rfl) dX4_readLine_45 ?_
        cases hf
        exact hr _ _ dX4_readLine_48
set_option maxRecDepth 100000 in
set_option maxHeartbeats 4000000 in
theorem S_X4_readLine_17 {k : Kst} {d : Kdy} (o : Ok k d cX4_readLine RX4 4 8) (F : Nat) {h : Hp} {a0 : Nat} {a1 : Nat} {x2 : Int32} {h1 : Hp} (hf : X4_readLine_17 F a0 a1 x2 h = some h1) (hr : RV k d cX4_readLine h1) : Wz k d h 17 [(0, .ref (ka k a0)), (1, .ref (ka k a1)), (2, .int x2)] [] := by
  unfold X4_readLine_17 at hf
  refine x_iconst (v := 1) o dX4_readLine_17 (by decide) ?_
  refine x_goto o 22 dX4_readLine_18 (by decide) ?_
  refine x_sub [0, 1, 2] [(0, .ref (ka k a0)), (1, .ref (ka k a1)), (2, .int x2)] rfl ?_
  exact S_X4_readLine_22 o F hf hr
set_option maxRecDepth 100000 in
set_option maxHeartbeats 4000000 in
theorem S_X4_readLine_0 {k : Kst} {d : Kdy} (o : Ok k d cX4_readLine RX4 4 8) (F : Nat) {h : Hp} {a0 : Nat} {a1 : Nat} {h1 : Hp} (hf : X4_readLine F a0 a1 h = some h1) (hr : RV k d cX4_readLine h1) : Wz k d h 0 [(0, .ref (ka k a0)), (1, .ref (ka k a1))] [] := by
  unfold X4_readLine at hf
  refine x_aload_n o dX4_readLine_0 1 rfl rfl ?_
  obtain ⟨k_1, hf⟩ := gq_ex hf
  obtain ⟨c_2, ec_2, hf⟩ := ob_ex hf
  refine vRX4_41 [] [] o (C_X9_sign o.1.2.2.2.2.2.2.1 o.2 F ec_2) (by decide) k_1 rfl rfl (Nat.le_of_ble_eq_true rfl) dX4_readLine_1 ?_
  refine x_istore_n o dX4_readLine_4 (by decide) rfl [(2, .int c_2), (0, .ref (ka k a0)), (1, .ref (ka k a1))] rfl ?_
  refine x_iload_n o dX4_readLine_5 0 rfl rfl ?_
  refine x_bipush (v := 108) o dX4_readLine_6 (by decide) ?_
  refine x_icmp_eq o 17 dX4_readLine_8 (by decide) (fun q_4 => ?_) (fun q_4 => ?_)
  · replace hf := (if_pos q_4).symm.trans hf
    refine x_sub [1, 2, 0] [(0, .ref (ka k a0)), (1, .ref (ka k a1)), (2, .int c_2)] rfl ?_
    exact S_X4_readLine_17 o F hf hr
  · replace hf := (if_neg q_4).symm.trans hf
    refine x_iload_n o dX4_readLine_11 0 rfl rfl ?_
    refine x_bipush (v := 114) o dX4_readLine_12 (by decide) ?_
    refine x_icmp_ne o 21 dX4_readLine_14 (by decide) (fun q_5 => ?_) (fun q_5 => ?_)
    · replace hf := (if_neg q_5).symm.trans hf
      refine x_iconst (v := 0) o dX4_readLine_21 (by decide) ?_
      refine x_sub [1, 2, 0] [(0, .ref (ka k a0)), (1, .ref (ka k a1)), (2, .int c_2)] rfl ?_
      exact S_X4_readLine_22 o F hf hr
    · replace hf := (if_pos q_5).symm.trans hf
      refine x_sub [1, 2, 0] [(0, .ref (ka k a0)), (1, .ref (ka k a1)), (2, .int c_2)] rfl ?_
      exact S_X4_readLine_17 o F hf hr
theorem C_X4_readLine {k : Kst} (hj : Dj k) (hn : kn k = kdl.length) (F : Nat) {h : Hp} {a0 : Nat} {a1 : Nat} {h1 : Hp} (hf : X4_readLine F a0 a1 h = some h1) : MV k 8 yX4_readLine cX4_readLine 4 [.ref (ka k a0), .ref (ka k a1)] h h1 := mV hj hn (by decide +kernel) (Nat.le_of_ble_eq_true rfl) (fun d o hr => S_X4_readLine_0 o F hf hr)
set_option maxRecDepth 100000 in
set_option maxHeartbeats 4000000 in
theorem S_X4_readAll_38 {k : Kst} {d : Kdy} (o : Ok k d cX4_readAll RX4 3 9) (F : Nat) {h : Hp} {a1 : Nat} {h1 : Hp} (hf : X4_readAll_38 F a1 h = some h1) (hr : RV k d cX4_readAll h1) : Wz k d h 38 [(1, .ref (ka k a1))] [] := by
  unfold X4_readAll_38 at hf
  refine x_aload_n o dX4_readAll_38 0 rfl rfl ?_
  obtain ⟨k_1, hf⟩ := gq_ex hf
  obtain ⟨h_3, eh_3, hf⟩ := ob_ex hf
  refine vRX4_38 [] [] o (C_X9_mustEnd o.1.2.2.2.2.2.2.1 o.2 F eh_3) (by decide) k_1 rfl rfl (Nat.le_of_ble_eq_true rfl) dX4_readAll_39 ?_
  cases hf
  exact hr _ _ dX4_readAll_42
set_option maxRecDepth 100000 in
set_option maxHeartbeats 4000000 in
theorem S_X4_readAll_12 {k : Kst} {d : Kdy} (o : Ok k d cX4_readAll RX4 3 9) (F : Nat) : ∀ (f : Nat) {h : Hp} {a0 : Nat} {a1 : Nat} {x2 : Int32} {h1 : Hp}, X4_readAll_12 F f a0 a1 x2 h = some h1 → RV k d cX4_readAll h1 → Wz k d h 12 [(0, .ref (ka k a0)), (1, .ref (ka k a1)), (2, .int x2)] [] := by
  intro f
  induction f with
  | zero =>
    intro h a0 a1 x2 h1 hf hr
    exact nomatch (show (none : Option _) = some _ from hf)
  | succ f ih =>
    intro h a0 a1 x2 h1 hf hr
    rw [X4_readAll_12] at hf
    refine x_iload_n o dX4_readAll_12 2 rfl rfl ?_
    refine x_bipush (v := 120) o dX4_readAll_13 (by decide) ?_
    refine x_icmp_ge o 38 dX4_readAll_15 (by decide) (fun q_1 => ?_) (fun q_1 => ?_)
    · replace hf := (if_pos q_1).symm.trans hf
      refine x_sub [1] [(1, .ref (ka k a1))] rfl ?_
      exact S_X4_readAll_38 o F hf hr
    · replace hf := (if_neg q_1).symm.trans hf
      refine x_aload_n o dX4_readAll_18 1 rfl rfl ?_
      refine x_bipush (v := 59) o dX4_readAll_19 (by decide) ?_
      obtain ⟨k_2, hf⟩ := gq_ex hf
      obtain ⟨c_3, h_4, ec_3, hf⟩ := bq_ex hf
      refine vRX4_32 [.int 59] [] o (C_X9_goesOn o.1.2.2.2.2.2.2.1 o.2 F ec_3) (by decide) k_2 rfl rfl (Nat.le_of_ble_eq_true rfl) dX4_readAll_21 ?_
      refine x_if_eq o 38 dX4_readAll_24 (by decide) (fun q_5 => ?_) (fun q_5 => ?_)
      · replace hf := (if_pos q_5).symm.trans hf
        refine x_sub [1] [(1, .ref (ka k a1))] rfl ?_
        exact S_X4_readAll_38 o F hf hr
      · replace hf := (if_neg q_5).symm.trans hf
        refine x_aload_n o dX4_readAll_27 0 rfl rfl ?_
        refine x_aload_n o dX4_readAll_28 1 rfl rfl ?_
        obtain ⟨k_6, hf⟩ := gq_ex hf
        obtain ⟨h_8, eh_8, hf⟩ := ob_ex hf
        refine vRX4_28 [.ref (ka k a1)] [] o (C_X4_readLine o.1.2.2.2.2.2.2.1 o.2 F eh_8) (by decide) k_6 rfl rfl (Nat.le_of_ble_eq_true rfl) dX4_readAll_29 ?_
        obtain ⟨x2_9, ex2_9, hf⟩ := bd_ex hf
        refine x_iinc o dX4_readAll_32 (by decide) 2 rfl ex2_9.symm [(2, .int x2_9), (0, .ref (ka k a0)), (1, .ref (ka k a1))] rfl ?_
        refine x_goto o 12 dX4_readAll_35 (by decide) ?_
        refine x_sub [1, 2, 0] [(0, .ref (ka k a0)), (1, .ref (ka k a1)), (2, .int x2_9)] rfl ?_
        exact ih hf hr
set_option maxRecDepth 100000 in
set_option maxHeartbeats 4000000 in
theorem S_X4_readAll_0 {k : Kst} {d : Kdy} (o : Ok k d cX4_readAll RX4 3 9) (F : Nat) {h : Hp} {a0 : Nat} {a1 : Nat} {h1 : Hp} (hf : X4_readAll F a0 a1 h = some h1) (hr : RV k d cX4_readAll h1) : Wz k d h 0 [(0, .ref (ka k a0)), (1, .ref (ka k a1))] [] := by
  unfold X4_readAll at hf
  refine x_aload_n o dX4_readAll_0 0 rfl rfl ?_
  refine x_iconst (v := 0) o dX4_readAll_1 (by decide) ?_
  obtain ⟨k_1, hf⟩ := gq_ex hf
  obtain ⟨h_2, eh_2, hf⟩ := bd_ex hf
  refine pRX4_24 o k_1 eh_2 dX4_readAll_2 ?_
  refine x_aload_n o dX4_readAll_5 0 rfl rfl ?_
  refine x_aload_n o dX4_readAll_6 1 rfl rfl ?_
  obtain ⟨h_4, eh_4, hf⟩ := ob_ex hf
  refine vRX4_28 [.ref (ka k a1)] [] o (C_X4_readLine o.1.2.2.2.2.2.2.1 o.2 F eh_4) (by decide) k_1 rfl rfl (Nat.le_of_ble_eq_true rfl) dX4_readAll_7 ?_
  refine x_iconst (v := 0) o dX4_readAll_10 (by decide) ?_
  refine x_istore_n o dX4_readAll_11 (by decide) rfl [(2, .int 0), (0, .ref (ka k a0)), (1, .ref (ka k a1))] rfl ?_
  refine x_sub [1, 2, 0] [(0, .ref (ka k a0)), (1, .ref (ka k a1)), (2, .int 0)] rfl ?_
  exact S_X4_readAll_12 o F _ hf hr
theorem C_X4_readAll {k : Kst} (hj : Dj k) (hn : kn k = kdl.length) (F : Nat) {h : Hp} {a0 : Nat} {a1 : Nat} {h1 : Hp} (hf : X4_readAll F a0 a1 h = some h1) : MV k 9 yX4_readAll cX4_readAll 3 [.ref (ka k a0), .ref (ka k a1)] h h1 := mV hj hn (by decide +kernel) (Nat.le_of_ble_eq_true rfl) (fun d o hr => S_X4_readAll_0 o F hf hr)
set_option maxRecDepth 100000 in
set_option maxHeartbeats 4000000 in
theorem S_X8_putBench_0 {k : Kst} {d : Kdy} (o : Ok k d cX8_putBench RX8 4 4) (F : Nat) {h : Hp} {a0 : Nat} {x1 : Int32} {x2 : Int32} {x3 : Int32} {h1 : Hp} (hf : X8_putBench F a0 x1 x2 x3 h = some h1) (hr : RV k d cX8_putBench h1) : Wz k d h 0 [(0, .ref (ka k a0)), (1, .int x1), (2, .int x2), (3, .int x3)] [] := by
  unfold X8_putBench at hf
  refine x_aload_n o dX8_putBench_0 0 rfl rfl ?_
  obtain ⟨k_1, hf⟩ := gq_ex hf
  obtain ⟨j_2, ej_2, hf⟩ := ob_ex hf
  refine gRX8_9 o k_1 ej_2 dX8_putBench_1 ?_
  refine x_iload_n o dX8_putBench_4 1 rfl rfl ?_
  refine x_bipush (v := 20) o dX8_putBench_5 (by decide) ?_
  refine x_imul o dX8_putBench_7 ?_
  refine x_iload_n o dX8_putBench_8 2 rfl rfl ?_
  refine x_iadd o dX8_putBench_9 ?_
  refine x_iconst (v := 1) o dX8_putBench_10 (by decide) ?_
  refine x_isub o dX8_putBench_11 ?_
  refine x_iload_n o dX8_putBench_12 3 rfl rfl ?_
  obtain ⟨h_4, eh_4, hf⟩ := ob_ex hf
  refine vRX8_59 [.ref (ka k j_2), .int (((x1 * 20) + x2) - 1), .int x3] [] o (C_X11_put o.1.2.2.2.2.2.2.1 o.2 F eh_4) (by decide) rfl rfl (Nat.le_of_ble_eq_true rfl) dX8_putBench_13 ?_
  cases hf
  exact hr _ _ dX8_putBench_16
theorem C_X8_putBench {k : Kst} (hj : Dj k) (hn : kn k = kdl.length) (F : Nat) {h : Hp} {a0 : Nat} {x1 : Int32} {x2 : Int32} {x3 : Int32} {h1 : Hp} (hf : X8_putBench F a0 x1 x2 x3 h = some h1) : MV k 4 yX8_putBench cX8_putBench 4 [.ref (ka k a0), .int x1, .int x2, .int x3] h h1 := mV hj hn (by decide +kernel) (Nat.le_of_ble_eq_true rfl) (fun d o hr => S_X8_putBench_0 o F hf hr)
set_option maxRecDepth 100000 in
set_option maxHeartbeats 4000000 in
theorem S_X8_bounded_0 {k : Kst} {d : Kdy} (o : Ok k d cX8_bounded RX8 2 3) (F : Nat) {h : Hp} {x0 : Int32} {x1 : Int32} {r : Int32} (hf : X8_bounded F x0 x1 h = some r) (hr : RI k d cX8_bounded r h) : Wz k d h 0 [(0, .int x0), (1, .int x1)] [] := by
  unfold X8_bounded at hf
  refine x_iconst (v := 0) o dX8_bounded_0 (by decide) ?_
  refine x_iload_n o dX8_bounded_1 0 rfl rfl ?_
  refine x_iload_n o dX8_bounded_2 1 rfl rfl ?_
  refine x_mmin o wRX8_66 (by decide) (Nat.le_of_ble_eq_true rfl) dX8_bounded_3 ?_
  refine x_mmax o wRX8_71 (by decide) (Nat.le_of_ble_eq_true rfl) dX8_bounded_6 ?_
  cases hf
  exact hr _ _ dX8_bounded_9
theorem C_X8_bounded {k : Kst} (hj : Dj k) (hn : kn k = kdl.length) (F : Nat) {h : Hp} {x0 : Int32} {x1 : Int32} {r : Int32} (hf : X8_bounded F x0 x1 h = some r) : MI k 3 yX8_bounded cX8_bounded 2 (some .int) [.int x0, .int x1] h r h := mI hj hn (by decide +kernel) (Nat.le_of_ble_eq_true rfl) (fun d o hr => S_X8_bounded_0 o F hf hr)
set_option maxRecDepth 100000 in
set_option maxHeartbeats 4000000 in
theorem S_X8_addStore_0 {k : Kst} {d : Kdy} (o : Ok k d cX8_addStore RX8 2 4) (F : Nat) {h : Hp} {a0 : Nat} {x1 : Int32} {h1 : Hp} (hf : X8_addStore F a0 x1 h = some h1) (hr : RV k d cX8_addStore h1) : Wz k d h 0 [(0, .ref (ka k a0)), (1, .int x1)] [] := by
  unfold X8_addStore at hf
  refine x_aload_n o dX8_addStore_0 0 rfl rfl ?_
  refine x_aload_n o dX8_addStore_1 0 rfl rfl ?_
  obtain ⟨k_1, hf⟩ := gq_ex hf
  refine gRX8_31 o k_1 dX8_addStore_2 ?_
  refine x_iload_n o dX8_addStore_5 1 rfl rfl ?_
  refine x_iadd o dX8_addStore_6 ?_
  refine x_ldc (v := 99999) o dX8_addStore_7 wRX8_63 ?_
  obtain ⟨c_2, ec_2, hf⟩ := ob_ex hf
  refine vRX8_47 [.int ((h.1 a0 3) + x1), .int 99999] [.ref (ka k a0)] o (C_X8_bounded o.1.2.2.2.2.2.2.1 o.2 F ec_2) (by decide) rfl rfl (Nat.le_of_ble_eq_true rfl) dX8_addStore_9 ?_
  obtain ⟨h_4, eh_4, hf⟩ := bd_ex hf
  refine pRX8_31 o k_1 eh_4 dX8_addStore_12 ?_
  cases hf
  exact hr _ _ dX8_addStore_15
theorem C_X8_addStore {k : Kst} (hj : Dj k) (hn : kn k = kdl.length) (F : Nat) {h : Hp} {a0 : Nat} {x1 : Int32} {h1 : Hp} (hf : X8_addStore F a0 x1 h = some h1) : MV k 4 yX8_addStore cX8_addStore 2 [.ref (ka k a0), .int x1] h h1 := mV hj hn (by decide +kernel) (Nat.le_of_ble_eq_true rfl) (fun d o hr => S_X8_addStore_0 o F hf hr)
set_option maxRecDepth 100000 in
set_option maxHeartbeats 4000000 in
theorem S_X8_addDebt_0 {k : Kst} {d : Kdy} (o : Ok k d cX8_addDebt RX8 2 4) (F : Nat) {h : Hp} {a0 : Nat} {x1 : Int32} {h1 : Hp} (hf : X8_addDebt F a0 x1 h = some h1) (hr : RV k d cX8_addDebt h1) : Wz k d h 0 [(0, .ref (ka k a0)), (1, .int x1)] [] := by
  unfold X8_addDebt at hf
  refine x_aload_n o dX8_addDebt_0 0 rfl rfl ?_
  refine x_aload_n o dX8_addDebt_1 0 rfl rfl ?_
  obtain ⟨k_1, hf⟩ := gq_ex hf
  refine gRX8_34 o k_1 dX8_addDebt_2 ?_
  refine x_iload_n o dX8_addDebt_5 1 rfl rfl ?_
  refine x_iadd o dX8_addDebt_6 ?_
  refine x_ldc (v := 999999) o dX8_addDebt_7 wRX8_64 ?_
  obtain ⟨c_2, ec_2, hf⟩ := ob_ex hf
  refine vRX8_47 [.int ((h.1 a0 4) + x1), .int 999999] [.ref (ka k a0)] o (C_X8_bounded o.1.2.2.2.2.2.2.1 o.2 F ec_2) (by decide) rfl rfl (Nat.le_of_ble_eq_true rfl) dX8_addDebt_9 ?_
  obtain ⟨h_4, eh_4, hf⟩ := bd_ex hf
  refine pRX8_34 o k_1 eh_4 dX8_addDebt_12 ?_
  cases hf
  exact hr _ _ dX8_addDebt_15
theorem C_X8_addDebt {k : Kst} (hj : Dj k) (hn : kn k = kdl.length) (F : Nat) {h : Hp} {a0 : Nat} {x1 : Int32} {h1 : Hp} (hf : X8_addDebt F a0 x1 h = some h1) : MV k 4 yX8_addDebt cX8_addDebt 2 [.ref (ka k a0), .int x1] h h1 := mV hj hn (by decide +kernel) (Nat.le_of_ble_eq_true rfl) (fun d o hr => S_X8_addDebt_0 o F hf hr)
set_option maxRecDepth 100000 in
set_option maxHeartbeats 4000000 in
theorem S_X8_laidOn_0 {k : Kst} {d : Kdy} (o : Ok k d cX8_laidOn RX8 2 3) (F : Nat) {h : Hp} {a0 : Nat} {x1 : Int32} {r : Int32} (hf : X8_laidOn F a0 x1 h = some r) (hr : RI k d cX8_laidOn r h) : Wz k d h 0 [(0, .ref (ka k a0)), (1, .int x1)] [] := by
  unfold X8_laidOn at hf
  refine x_iload_n o dX8_laidOn_0 1 rfl rfl ?_
  refine x_if_ne o 11 dX8_laidOn_1 (by decide) (fun q_1 => ?_) (fun q_1 => ?_)
  · replace hf := (if_neg q_1).symm.trans hf
    refine x_aload_n o dX8_laidOn_11 0 rfl rfl ?_
    obtain ⟨k_2, hf⟩ := gq_ex hf
    refine gRX8_22 o k_2 dX8_laidOn_12 ?_
    cases hf
    exact hr _ _ dX8_laidOn_15
  · replace hf := (if_pos q_1).symm.trans hf
    refine x_aload_n o dX8_laidOn_4 0 rfl rfl ?_
    obtain ⟨k_3, hf⟩ := gq_ex hf
    refine gRX8_19 o k_3 dX8_laidOn_5 ?_
    refine x_goto o 15 dX8_laidOn_8 (by decide) ?_
    cases hf
    exact hr _ _ dX8_laidOn_15
theorem C_X8_laidOn {k : Kst} (hj : Dj k) (hn : kn k = kdl.length) (F : Nat) {h : Hp} {a0 : Nat} {x1 : Int32} {r : Int32} (hf : X8_laidOn F a0 x1 h = some r) : MI k 3 yX8_laidOn cX8_laidOn 2 (some .int) [.ref (ka k a0), .int x1] h r h := mI hj hn (by decide +kernel) (Nat.le_of_ble_eq_true rfl) (fun d o hr => S_X8_laidOn_0 o F hf hr)
set_option maxRecDepth 100000 in
set_option maxHeartbeats 4000000 in
theorem S_X8_setLaid_0 {k : Kst} {d : Kdy} (o : Ok k d cX8_setLaid RX8 3 3) (F : Nat) {h : Hp} {a0 : Nat} {x1 : Int32} {x2 : Int32} {h1 : Hp} (hf : X8_setLaid F a0 x1 x2 h = some h1) (hr : RV k d cX8_setLaid h1) : Wz k d h 0 [(0, .ref (ka k a0)), (1, .int x1), (2, .int x2)] [] := by
  unfold X8_setLaid at hf
  refine x_iload_n o dX8_setLaid_0 1 rfl rfl ?_
  refine x_if_ne o 12 dX8_setLaid_1 (by decide) (fun q_1 => ?_) (fun q_1 => ?_)
  · replace hf := (if_neg q_1).symm.trans hf
    refine x_aload_n o dX8_setLaid_12 0 rfl rfl ?_
    refine x_iload_n o dX8_setLaid_13 2 rfl rfl ?_
    obtain ⟨k_2, hf⟩ := gq_ex hf
    obtain ⟨h_3, eh_3, hf⟩ := bd_ex hf
    refine pRX8_22 o k_2 eh_3 dX8_setLaid_14 ?_
    cases hf
    exact hr _ _ dX8_setLaid_17
  · replace hf := (if_pos q_1).symm.trans hf
    refine x_aload_n o dX8_setLaid_4 0 rfl rfl ?_
    refine x_iload_n o dX8_setLaid_5 2 rfl rfl ?_
    obtain ⟨k_4, hf⟩ := gq_ex hf
    obtain ⟨h_5, eh_5, hf⟩ := bd_ex hf
    refine pRX8_19 o k_4 eh_5 dX8_setLaid_6 ?_
    refine x_goto o 17 dX8_setLaid_9 (by decide) ?_
    cases hf
    exact hr _ _ dX8_setLaid_17
theorem C_X8_setLaid {k : Kst} (hj : Dj k) (hn : kn k = kdl.length) (F : Nat) {h : Hp} {a0 : Nat} {x1 : Int32} {x2 : Int32} {h1 : Hp} (hf : X8_setLaid F a0 x1 x2 h = some h1) : MV k 3 yX8_setLaid cX8_setLaid 3 [.ref (ka k a0), .int x1, .int x2] h h1 := mV hj hn (by decide +kernel) (Nat.le_of_ble_eq_true rfl) (fun d o hr => S_X8_setLaid_0 o F hf hr)
set_option maxRecDepth 100000 in
set_option maxHeartbeats 4000000 in
theorem S_X8_lay_0 {k : Kst} {d : Kdy} (o : Ok k d cX8_lay RX8 3 4) (F : Nat) {h : Hp} {a0 : Nat} {x1 : Int32} {x2 : Int32} {h1 : Hp} (hf : X8_lay F a0 x1 x2 h = some h1) (hr : RV k d cX8_lay h1) : Wz k d h 0 [(0, .ref (ka k a0)), (1, .int x1), (2, .int x2)] [] := by
  unfold X8_lay at hf
  refine x_aload_n o dX8_lay_0 0 rfl rfl ?_
  refine x_iload_n o dX8_lay_1 1 rfl rfl ?_
  refine x_aload_n o dX8_lay_2 0 rfl rfl ?_
  refine x_iload_n o dX8_lay_3 1 rfl rfl ?_
  obtain ⟨k_1, hf⟩ := gq_ex hf
  obtain ⟨c_2, ec_2, hf⟩ := ob_ex hf
  refine vRX8_43 [.int x1] [.int x1, .ref (ka k a0)] o (C_X8_laidOn o.1.2.2.2.2.2.2.1 o.2 F ec_2) (by decide) k_1 rfl rfl (Nat.le_of_ble_eq_true rfl) dX8_lay_4 ?_
  refine x_iload_n o dX8_lay_7 2 rfl rfl ?_
  refine x_iadd o dX8_lay_8 ?_
  refine x_sipush (v := 9999) o dX8_lay_9 (by decide) ?_
  obtain ⟨c_4, ec_4, hf⟩ := ob_ex hf
  refine vRX8_47 [.int (c_2 + x2), .int 9999] [.int x1, .ref (ka k a0)] o (C_X8_bounded o.1.2.2.2.2.2.2.1 o.2 F ec_4) (by decide) rfl rfl (Nat.le_of_ble_eq_true rfl) dX8_lay_12 ?_
  obtain ⟨h_7, eh_7, hf⟩ := ob_ex hf
  refine vRX8_51 [.int x1, .int c_4] [] o (C_X8_setLaid o.1.2.2.2.2.2.2.1 o.2 F eh_7) (by decide) k_1 rfl rfl (Nat.le_of_ble_eq_true rfl) dX8_lay_15 ?_
  cases hf
  exact hr _ _ dX8_lay_18
theorem C_X8_lay {k : Kst} (hj : Dj k) (hn : kn k = kdl.length) (F : Nat) {h : Hp} {a0 : Nat} {x1 : Int32} {x2 : Int32} {h1 : Hp} (hf : X8_lay F a0 x1 x2 h = some h1) : MV k 4 yX8_lay cX8_lay 3 [.ref (ka k a0), .int x1, .int x2] h h1 := mV hj hn (by decide +kernel) (Nat.le_of_ble_eq_true rfl) (fun d o hr => S_X8_lay_0 o F hf hr)
set_option maxRecDepth 100000 in
set_option maxHeartbeats 4000000 in
theorem S_X4_obey_135 {k : Kst} {d : Kdy} (o : Ok k d cX4_obey RX4 7 5) (F : Nat) {k2 : Nat → Nat → Int32 → Hp → Option Hp} (hk2 : ∀ {h : Hp} {a0 : Nat} {a1 : Nat} {x2 : Int32} {h1 : Hp}, k2 a0 a1 x2 h = some h1 → RV k d cX4_obey h1 → Wz k d h 2 [(0, .ref (ka k a0)), (1, .ref (ka k a1)), (2, .int x2)] []) {h : Hp} {a0 : Nat} {a1 : Nat} {x2 : Int32} {h1 : Hp} (hf : X4_obey_135 F k2 a0 a1 x2 h = some h1) (hr : RV k d cX4_obey h1) : Wz k d h 135 [(0, .ref (ka k a0)), (1, .ref (ka k a1)), (2, .int x2)] [] := by
  unfold X4_obey_135 at hf
  obtain ⟨x2_1, ex2_1, hf⟩ := bd_ex hf
  refine x_iinc o dX4_obey_135 (by decide) 2 rfl ex2_1.symm [(2, .int x2_1), (0, .ref (ka k a0)), (1, .ref (ka k a1))] rfl ?_
  refine x_goto o 2 dX4_obey_138 (by decide) ?_
  refine x_sub [1, 2, 0] [(0, .ref (ka k a0)), (1, .ref (ka k a1)), (2, .int x2_1)] rfl ?_
  exact hk2 hf hr
set_option maxRecDepth 100000 in
set_option maxHeartbeats 4000000 in
theorem S_X4_obey_63 {k : Kst} {d : Kdy} (o : Ok k d cX4_obey RX4 7 5) (F : Nat) {k2 : Nat → Nat → Int32 → Hp → Option Hp} (hk2 : ∀ {h : Hp} {a0 : Nat} {a1 : Nat} {x2 : Int32} {h1 : Hp}, k2 a0 a1 x2 h = some h1 → RV k d cX4_obey h1 → Wz k d h 2 [(0, .ref (ka k a0)), (1, .ref (ka k a1)), (2, .int x2)] []) {h : Hp} {a0 : Nat} {a1 : Nat} {x2 : Int32} {x3 : Int32} {x4 : Int32} {x5 : Int32} {s0 : Int32} {h1 : Hp} (hf : X4_obey_63 F k2 a0 a1 x2 x3 x4 x5 s0 h = some h1) (hr : RV k d cX4_obey h1) : Wz k d h 63 [(0, .ref (ka k a0)), (1, .ref (ka k a1)), (2, .int x2), (3, .int x3), (4, .int x4), (5, .int x5)] [.int s0] := by
  unfold X4_obey_63 at hf
  refine x_istore o dX4_obey_63 (by decide) [(6, .int s0), (0, .ref (ka k a0)), (1, .ref (ka k a1)), (2, .int x2), (3, .int x3), (4, .int x4), (5, .int x5)] rfl ?_
  refine x_aload_n o dX4_obey_65 1 rfl rfl ?_
  obtain ⟨k_1, hf⟩ := gq_ex hf
  obtain ⟨j_2, ej_2, hf⟩ := ob_ex hf
  refine gRX4_15 o k_1 ej_2 dX4_obey_66 ?_
  refine x_iload_n o dX4_obey_69 3 rfl rfl ?_
  obtain ⟨c_3, ec_3, hf⟩ := ob_ex hf
  refine vRX4_75 [.ref (ka k j_2), .int x2] [] o (C_X11_get o.1.2.2.2.2.2.2.1 o.2 F ec_3) (by decide) rfl rfl (Nat.le_of_ble_eq_true rfl) dX4_obey_70 ?_
  refine x_bipush (v := 98) o dX4_obey_73 (by decide) ?_
  refine x_icmp_ne o 97 dX4_obey_75 (by decide) (fun q_5 => ?_) (fun q_5 => ?_)
  · replace hf := (if_neg q_5).symm.trans hf
    refine x_iload_n o dX4_obey_97 4 rfl rfl ?_
    refine x_bipush (v := 115) o dX4_obey_98 (by decide) ?_
    refine x_icmp_ne o 112 dX4_obey_100 (by decide) (fun q_6 => ?_) (fun q_6 => ?_)
    · replace hf := (if_neg q_6).symm.trans hf
      refine x_iload_n o dX4_obey_112 4 rfl rfl ?_
      refine x_bipush (v := 100) o dX4_obey_113 (by decide) ?_
      refine x_icmp_ne o 127 dX4_obey_115 (by decide) (fun q_7 => ?_) (fun q_7 => ?_)
      · replace hf := (if_neg q_7).symm.trans hf
        refine x_aload_n o dX4_obey_127 2 rfl rfl ?_
        refine x_iload o dX4_obey_128 5 rfl ?_
        refine x_iload o dX4_obey_130 0 rfl ?_
        obtain ⟨k_8, hf⟩ := gq_ex hf
        obtain ⟨h_10, eh_10, hf⟩ := ob_ex hf
        refine vRX4_91 [.int x4, .int s0] [] o (C_X8_lay o.1.2.2.2.2.2.2.1 o.2 F eh_10) (by decide) k_8 rfl rfl (Nat.le_of_ble_eq_true rfl) dX4_obey_132 ?_
        refine x_sub [1, 2, 3] [(0, .ref (ka k a0)), (1, .ref (ka k a1)), (2, .int x2)] rfl ?_
        exact S_X4_obey_135 o F hk2 hf hr
      · replace hf := (if_pos q_7).symm.trans hf
        refine x_aload_n o dX4_obey_118 2 rfl rfl ?_
        refine x_iload o dX4_obey_119 0 rfl ?_
        obtain ⟨k_11, hf⟩ := gq_ex hf
        obtain ⟨h_13, eh_13, hf⟩ := ob_ex hf
        refine vRX4_88 [.int s0] [] o (C_X8_addDebt o.1.2.2.2.2.2.2.1 o.2 F eh_13) (by decide) k_11 rfl rfl (Nat.le_of_ble_eq_true rfl) dX4_obey_121 ?_
        refine x_goto o 135 dX4_obey_124 (by decide) ?_
        refine x_sub [1, 2, 3] [(0, .ref (ka k a0)), (1, .ref (ka k a1)), (2, .int x2)] rfl ?_
        exact S_X4_obey_135 o F hk2 hf hr
    · replace hf := (if_pos q_6).symm.trans hf
      refine x_aload_n o dX4_obey_103 2 rfl rfl ?_
      refine x_iload o dX4_obey_104 0 rfl ?_
      obtain ⟨k_14, hf⟩ := gq_ex hf
      obtain ⟨h_16, eh_16, hf⟩ := ob_ex hf
      refine vRX4_85 [.int s0] [] o (C_X8_addStore o.1.2.2.2.2.2.2.1 o.2 F eh_16) (by decide) k_14 rfl rfl (Nat.le_of_ble_eq_true rfl) dX4_obey_106 ?_
      refine x_goto o 135 dX4_obey_109 (by decide) ?_
      refine x_sub [1, 2, 3] [(0, .ref (ka k a0)), (1, .ref (ka k a1)), (2, .int x2)] rfl ?_
      exact S_X4_obey_135 o F hk2 hf hr
  · replace hf := (if_pos q_5).symm.trans hf
    refine x_aload_n o dX4_obey_78 2 rfl rfl ?_
    refine x_iload o dX4_obey_79 5 rfl ?_
    refine x_aload_n o dX4_obey_81 1 rfl rfl ?_
    obtain ⟨j_17, ej_17, hf⟩ := ob_ex hf
    refine gRX4_18 o k_1 ej_17 dX4_obey_82 ?_
    refine x_iload_n o dX4_obey_85 3 rfl rfl ?_
    obtain ⟨c_18, ec_18, hf⟩ := ob_ex hf
    refine vRX4_75 [.ref (ka k j_17), .int x2] [.int x4, .ref (ka k a1)] o (C_X11_get o.1.2.2.2.2.2.2.1 o.2 F ec_18) (by decide) rfl rfl (Nat.le_of_ble_eq_true rfl) dX4_obey_86 ?_
    refine x_iload o dX4_obey_89 6 rfl ?_
    obtain ⟨k_20, hf⟩ := gq_ex hf
    obtain ⟨h_22, eh_22, hf⟩ := ob_ex hf
    refine vRX4_79 [.int x4, .int c_18, .int x5] [] o (C_X8_putBench o.1.2.2.2.2.2.2.1 o.2 F eh_22) (by decide) k_20 rfl rfl (Nat.le_of_ble_eq_true rfl) dX4_obey_91 ?_
    refine x_goto o 135 dX4_obey_94 (by decide) ?_
    refine x_sub [1, 2, 3] [(0, .ref (ka k a0)), (1, .ref (ka k a1)), (2, .int x2)] rfl ?_
    exact S_X4_obey_135 o F hk2 hf hr
set_option maxRecDepth 100000 in
set_option maxHeartbeats 4000000 in
theorem S_X4_obey_30 {k : Kst} {d : Kdy} (o : Ok k d cX4_obey RX4 7 5) (F : Nat) {k2 : Nat → Nat → Int32 → Hp → Option Hp} (hk2 : ∀ {h : Hp} {a0 : Nat} {a1 : Nat} {x2 : Int32} {h1 : Hp}, k2 a0 a1 x2 h = some h1 → RV k d cX4_obey h1 → Wz k d h 2 [(0, .ref (ka k a0)), (1, .ref (ka k a1)), (2, .int x2)] []) {h : Hp} {a0 : Nat} {a1 : Nat} {x2 : Int32} {x3 : Int32} {s0 : Int32} {h1 : Hp} (hf : X4_obey_30 F k2 a0 a1 x2 x3 s0 h = some h1) (hr : RV k d cX4_obey h1) : Wz k d h 30 [(0, .ref (ka k a0)), (1, .ref (ka k a1)), (2, .int x2), (3, .int x3)] [.int s0] := by
  unfold X4_obey_30 at hf
  refine x_istore o dX4_obey_30 (by decide) [(4, .int s0), (0, .ref (ka k a0)), (1, .ref (ka k a1)), (2, .int x2), (3, .int x3)] rfl ?_
  refine x_aload_n o dX4_obey_32 1 rfl rfl ?_
  obtain ⟨k_1, hf⟩ := gq_ex hf
  obtain ⟨j_2, ej_2, hf⟩ := ob_ex hf
  refine gRX4_21 o k_1 ej_2 dX4_obey_33 ?_
  refine x_iload_n o dX4_obey_36 3 rfl rfl ?_
  obtain ⟨c_3, ec_3, hf⟩ := ob_ex hf
  refine vRX4_75 [.ref (ka k j_2), .int x2] [] o (C_X11_get o.1.2.2.2.2.2.2.1 o.2 F ec_3) (by decide) rfl rfl (Nat.le_of_ble_eq_true rfl) dX4_obey_37 ?_
  refine x_istore o dX4_obey_40 (by decide) [(5, .int c_3), (4, .int s0), (0, .ref (ka k a0)), (1, .ref (ka k a1)), (2, .int x2), (3, .int x3)] rfl ?_
  refine x_aload_n o dX4_obey_42 2 rfl rfl ?_
  obtain ⟨j_5, ej_5, hf⟩ := ob_ex hf
  refine gRX4_15 o k_1 ej_5 dX4_obey_43 ?_
  refine x_iload_n o dX4_obey_46 4 rfl rfl ?_
  obtain ⟨c_6, ec_6, hf⟩ := ob_ex hf
  refine vRX4_75 [.ref (ka k j_5), .int x2] [] o (C_X11_get o.1.2.2.2.2.2.2.1 o.2 F ec_6) (by decide) rfl rfl (Nat.le_of_ble_eq_true rfl) dX4_obey_47 ?_
  refine x_bipush (v := 45) o dX4_obey_50 (by decide) ?_
  refine x_icmp_ne o 61 dX4_obey_52 (by decide) (fun q_8 => ?_) (fun q_8 => ?_)
  · replace hf := (if_neg q_8).symm.trans hf
    refine x_iload o dX4_obey_61 0 rfl ?_
    refine x_sub [2, 3, 4, 5, 1, 0] [(0, .ref (ka k a0)), (1, .ref (ka k a1)), (2, .int x2), (3, .int x3), (4, .int s0), (5, .int c_3)] rfl ?_
    exact S_X4_obey_63 o F hk2 hf hr
  · replace hf := (if_pos q_8).symm.trans hf
    refine x_iload o dX4_obey_55 0 rfl ?_
    refine x_ineg o dX4_obey_57 ?_
    refine x_goto o 63 dX4_obey_58 (by decide) ?_
    refine x_sub [2, 3, 4, 5, 1, 0] [(0, .ref (ka k a0)), (1, .ref (ka k a1)), (2, .int x2), (3, .int x3), (4, .int s0), (5, .int c_3)] rfl ?_
    exact S_X4_obey_63 o F hk2 hf hr
set_option maxRecDepth 100000 in
set_option maxHeartbeats 4000000 in
theorem S_X4_obey_2 {k : Kst} {d : Kdy} (o : Ok k d cX4_obey RX4 7 5) (F : Nat) : ∀ (f : Nat) {h : Hp} {a0 : Nat} {a1 : Nat} {x2 : Int32} {h1 : Hp}, X4_obey_2 F f a0 a1 x2 h = some h1 → RV k d cX4_obey h1 → Wz k d h 2 [(0, .ref (ka k a0)), (1, .ref (ka k a1)), (2, .int x2)] [] := by
  intro f
  induction f with
  | zero =>
    intro h a0 a1 x2 h1 hf hr
    exact nomatch (show (none : Option _) = some _ from hf)
  | succ f ih =>
    intro h a0 a1 x2 h1 hf hr
    rw [X4_obey_2] at hf
    refine x_iload_n o dX4_obey_2 2 rfl rfl ?_
    refine x_aload_n o dX4_obey_3 0 rfl rfl ?_
    obtain ⟨k_1, hf⟩ := gq_ex hf
    refine gRX4_24 o k_1 dX4_obey_4 ?_
    refine x_icmp_ge o 141 dX4_obey_7 (by decide) (fun q_2 => ?_) (fun q_2 => ?_)
    · replace hf := (if_pos q_2).symm.trans hf
      cases hf
      exact hr _ _ dX4_obey_141
    · replace hf := (if_neg q_2).symm.trans hf
      refine x_aload_n o dX4_obey_10 0 rfl rfl ?_
      obtain ⟨j_3, ej_3, hf⟩ := ob_ex hf
      refine gRX4_9 o k_1 ej_3 dX4_obey_11 ?_
      refine x_iload_n o dX4_obey_14 2 rfl rfl ?_
      obtain ⟨c_4, ec_4, hf⟩ := ob_ex hf
      refine vRX4_75 [.ref (ka k j_3), .int x2] [] o (C_X11_get o.1.2.2.2.2.2.2.1 o.2 F ec_4) (by decide) rfl rfl (Nat.le_of_ble_eq_true rfl) dX4_obey_15 ?_
      refine x_istore_n o dX4_obey_18 (by decide) rfl [(3, .int c_4), (0, .ref (ka k a0)), (1, .ref (ka k a1)), (2, .int x2)] rfl ?_
      refine x_iload_n o dX4_obey_19 0 rfl rfl ?_
      refine x_bipush (v := 114) o dX4_obey_20 (by decide) ?_
      refine x_icmp_ne o 29 dX4_obey_22 (by decide) (fun q_6 => ?_) (fun q_6 => ?_)
      · replace hf := (if_neg q_6).symm.trans hf
        refine x_iconst (v := 0) o dX4_obey_29 (by decide) ?_
        refine x_sub [1, 2, 3, 0] [(0, .ref (ka k a0)), (1, .ref (ka k a1)), (2, .int x2), (3, .int c_4)] rfl ?_
        exact S_X4_obey_30 o F (fun q1 q2 => ih q1 q2) hf hr
      · replace hf := (if_pos q_6).symm.trans hf
        refine x_iconst (v := 1) o dX4_obey_25 (by decide) ?_
        refine x_goto o 30 dX4_obey_26 (by decide) ?_
        refine x_sub [1, 2, 3, 0] [(0, .ref (ka k a0)), (1, .ref (ka k a1)), (2, .int x2), (3, .int c_4)] rfl ?_
        exact S_X4_obey_30 o F (fun q1 q2 => ih q1 q2) hf hr
set_option maxRecDepth 100000 in
set_option maxHeartbeats 4000000 in
theorem S_X4_obey_0 {k : Kst} {d : Kdy} (o : Ok k d cX4_obey RX4 7 5) (F : Nat) {h : Hp} {a0 : Nat} {a1 : Nat} {h1 : Hp} (hf : X4_obey F a0 a1 h = some h1) (hr : RV k d cX4_obey h1) : Wz k d h 0 [(0, .ref (ka k a0)), (1, .ref (ka k a1))] [] := by
  unfold X4_obey at hf
  refine x_iconst (v := 0) o dX4_obey_0 (by decide) ?_
  refine x_istore_n o dX4_obey_1 (by decide) rfl [(2, .int 0), (0, .ref (ka k a0)), (1, .ref (ka k a1))] rfl ?_
  refine x_sub [1, 2, 0] [(0, .ref (ka k a0)), (1, .ref (ka k a1)), (2, .int 0)] rfl ?_
  exact S_X4_obey_2 o F _ hf hr
theorem C_X4_obey {k : Kst} (hj : Dj k) (hn : kn k = kdl.length) (F : Nat) {h : Hp} {a0 : Nat} {a1 : Nat} {h1 : Hp} (hf : X4_obey F a0 a1 h = some h1) : MV k 5 yX4_obey cX4_obey 7 [.ref (ka k a0), .ref (ka k a1)] h h1 := mV hj hn (by decide +kernel) (Nat.le_of_ble_eq_true rfl) (fun d o hr => S_X4_obey_0 o F hf hr)
