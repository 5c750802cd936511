set_option maxRecDepth 100000 in
set_option maxHeartbeats 4000000 in
theorem S_X10_toBuild_0 {k : Kst} {d : Kdy} (o : Ok k d cX10_toBuild RX10 2 5) (F : Nat) {h : Hp} {a0 : Nat} {x1 : Int32} {r : Int32} (hf : X10_toBuild F a0 x1 h = some r) (hr : RI k d cX10_toBuild r h) : Wz k d h 0 [(0, .ref (ka k a0)), (1, .int x1)] [] := by
  unfold X10_toBuild at hf
  refine x_aload_n o dX10_toBuild_0 0 rfl rfl ?_
  refine x_iload_n o dX10_toBuild_1 1 rfl rfl ?_
  obtain ⟨k_1, hf⟩ := gq_ex hf
  obtain ⟨j_2, ej_2, hf⟩ := ob_ex hf
  refine vRX10_46 [.int x1] [] o (C_X10_built o.1.2.2.2.2.2.2.1 o.2 F ej_2) (by decide) k_1 rfl rfl (Nat.le_of_ble_eq_true rfl) dX10_toBuild_2 ?_
  obtain ⟨k_4, hf⟩ := gq_ex hf
  refine gRX10_57 o k_4 dX10_toBuild_5 ?_
  refine x_aload_n o dX10_toBuild_8 0 rfl rfl ?_
  refine x_iload_n o dX10_toBuild_9 1 rfl rfl ?_
  obtain ⟨c_5, ec_5, hf⟩ := ob_ex hf
  refine vRX10_60 [.int x1] [.int (h.1 j_2 1)] o (C_X10_standing o.1.2.2.2.2.2.2.1 o.2 F ec_5) (by decide) k_1 rfl rfl (Nat.le_of_ble_eq_true rfl) dX10_toBuild_10 ?_
  refine x_isub o dX10_toBuild_13 ?_
  cases hf
  exact hr _ _ dX10_toBuild_14
theorem C_X10_toBuild {k : Kst} (hj : Dj k) (hn : kn k = kdl.length) (F : Nat) {h : Hp} {a0 : Nat} {x1 : Int32} {r : Int32} (hf : X10_toBuild F a0 x1 h = some r) : MI k 5 yX10_toBuild cX10_toBuild 2 (some .int) [.ref (ka k a0), .int x1] h r h := mI hj hn (by decide +kernel) (Nat.le_of_ble_eq_true rfl) (fun d o hr => S_X10_toBuild_0 o F hf hr)
set_option maxRecDepth 100000 in
set_option maxHeartbeats 4000000 in
theorem S_X10_reached_0 {k : Kst} {d : Kdy} (o : Ok k d cX10_reached RX10 3 5) (F : Nat) {h : Hp} {a0 : Nat} {x1 : Int32} {r : Int32} (hf : X10_reached F a0 x1 h = some r) (hr : RZ k d cX10_reached r h) : Wz k d h 0 [(0, .ref (ka k a0)), (1, .int x1)] [] := by
  unfold X10_reached at hf
  refine x_aload_n o dX10_reached_0 0 rfl rfl ?_
  refine x_iload_n o dX10_reached_1 1 rfl rfl ?_
  obtain ⟨k_1, hf⟩ := gq_ex hf
  obtain ⟨j_2, ej_2, hf⟩ := ob_ex hf
  refine vRX10_46 [.int x1] [] o (C_X10_built o.1.2.2.2.2.2.2.1 o.2 F ej_2) (by decide) k_1 rfl rfl (Nat.le_of_ble_eq_true rfl) dX10_reached_2 ?_
  obtain ⟨k_4, hf⟩ := gq_ex hf
  refine gRX10_57 o k_4 dX10_reached_5 ?_
  obtain ⟨x2_5, ex2_5, hf⟩ := bd_ex hf
  refine x_top ex2_5 ?_
  refine x_istore_n o dX10_reached_8 (by decide) rfl [(2, .int x2_5), (0, .ref (ka k a0)), (1, .int x1)] rfl ?_
  refine x_iload_n o dX10_reached_9 0 rfl rfl ?_
  refine x_if_le o 26 dX10_reached_10 (by decide) (fun q_6 => ?_) (fun q_6 => ?_)
  · replace hf := (if_pos q_6).symm.trans hf
    refine x_iconst (v := 0) o dX10_reached_26 (by decide) ?_
    cases hf
    exact hr (Or.inl rfl) _ _ dX10_reached_27
  · replace hf := (if_neg q_6).symm.trans hf
    refine x_aload_n o dX10_reached_13 1 rfl rfl ?_
    refine x_iload_n o dX10_reached_14 2 rfl rfl ?_
    obtain ⟨c_7, ec_7, hf⟩ := ob_ex hf
    refine vRX10_60 [.int x1] [] o (C_X10_standing o.1.2.2.2.2.2.2.1 o.2 F ec_7) (by decide) k_1 rfl rfl (Nat.le_of_ble_eq_true rfl) dX10_reached_15 ?_
    refine x_iload_n o dX10_reached_18 0 rfl rfl ?_
    refine x_icmp_ne o 26 dX10_reached_19 (by decide) (fun q_9 => ?_) (fun q_9 => ?_)
    · replace hf := (if_neg q_9).symm.trans hf
      refine x_iconst (v := 0) o dX10_reached_26 (by decide) ?_
      cases hf
      exact hr (Or.inl rfl) _ _ dX10_reached_27
    · replace hf := (if_pos q_9).symm.trans hf
      refine x_iconst (v := 1) o dX10_reached_22 (by decide) ?_
      refine x_goto o 27 dX10_reached_23 (by decide) ?_
      cases hf
      exact hr (Or.inr rfl) _ _ dX10_reached_27
theorem C_X10_reached {k : Kst} (hj : Dj k) (hn : kn k = kdl.length) (F : Nat) {h : Hp} {a0 : Nat} {x1 : Int32} {r : Int32} (hf : X10_reached F a0 x1 h = some r) : MI k 5 yX10_reached cX10_reached 3 (some .boolean) [.ref (ka k a0), .int x1] h r h := mZ hj hn (by decide +kernel) (Nat.le_of_ble_eq_true rfl) (fun d o hr => S_X10_reached_0 o F hf hr)
set_option maxRecDepth 100000 in
set_option maxHeartbeats 4000000 in
theorem S_X10_lacking_0 {k : Kst} {d : Kdy} (o : Ok k d cX10_lacking RX10 4 5) (F : Nat) {h : Hp} {a0 : Nat} {x1 : Int32} {r : Int32} (hf : X10_lacking F a0 x1 h = some r) (hr : RI k d cX10_lacking r h) : Wz k d h 0 [(0, .ref (ka k a0)), (1, .int x1)] [] := by
  unfold X10_lacking at hf
  refine x_aload_n o dX10_lacking_0 0 rfl rfl ?_
  refine x_iload_n o dX10_lacking_1 1 rfl rfl ?_
  obtain ⟨k_1, hf⟩ := gq_ex hf
  obtain ⟨c_2, ec_2, hf⟩ := ob_ex hf
  refine vRX10_60 [.int x1] [] o (C_X10_standing o.1.2.2.2.2.2.2.1 o.2 F ec_2) (by decide) k_1 rfl rfl (Nat.le_of_ble_eq_true rfl) dX10_lacking_2 ?_
  refine x_istore_n o dX10_lacking_5 (by decide) rfl [(2, .int c_2), (0, .ref (ka k a0)), (1, .int x1)] rfl ?_
  refine x_aload_n o dX10_lacking_6 1 rfl rfl ?_
  refine x_iload_n o dX10_lacking_7 2 rfl rfl ?_
  obtain ⟨j_4, ej_4, hf⟩ := ob_ex hf
  refine vRX10_46 [.int x1] [] o (C_X10_built o.1.2.2.2.2.2.2.1 o.2 F ej_4) (by decide) k_1 rfl rfl (Nat.le_of_ble_eq_true rfl) dX10_lacking_8 ?_
  refine x_astore_n o dX10_lacking_11 (by decide) rfl [(3, .ref (ka k j_4)), (2, .int c_2), (0, .ref (ka k a0)), (1, .int x1)] rfl ?_
  refine x_iload_n o dX10_lacking_12 1 rfl rfl ?_
  refine x_aload_n o dX10_lacking_13 0 rfl rfl ?_
  obtain ⟨k_6, hf⟩ := gq_ex hf
  refine gRX10_57 o k_6 dX10_lacking_14 ?_
  refine x_icmp_ge o 39 dX10_lacking_17 (by decide) (fun q_7 => ?_) (fun q_7 => ?_)
  · replace hf := (if_pos q_7).symm.trans hf
    refine x_iconst (v := 0) o dX10_lacking_39 (by decide) ?_
    cases hf
    exact hr _ _ dX10_lacking_40
  · replace hf := (if_neg q_7).symm.trans hf
    refine x_aload_n o dX10_lacking_20 0 rfl rfl ?_
    refine x_iload_n o dX10_lacking_21 1 rfl rfl ?_
    refine x_iconst (v := 1) o dX10_lacking_22 (by decide) ?_
    refine x_iadd o dX10_lacking_23 ?_
    obtain ⟨c_8, ec_8, hf⟩ := ob_ex hf
    refine vRX10_63 [.int (c_2 + 1)] [] o (C_X5_stonesUpTo o.1.2.2.2.2.2.2.1 o.2 F ec_8) (by decide) k_6 rfl rfl (Nat.le_of_ble_eq_true rfl) dX10_lacking_24 ?_
    refine x_aload_n o dX10_lacking_27 2 rfl rfl ?_
    obtain ⟨j_10, ej_10, hf⟩ := ob_ex hf
    refine gRX10_24 o k_1 ej_10 dX10_lacking_28 ?_
    refine x_iload_n o dX10_lacking_31 3 rfl rfl ?_
    obtain ⟨k_11, hf⟩ := gq_ex hf
    obtain ⟨c_12, ec_12, hf⟩ := ob_ex hf
    refine vRX10_50 [.int x1] [.int c_8] o (C_X8_laidOn o.1.2.2.2.2.2.2.1 o.2 F ec_12) (by decide) k_11 rfl rfl (Nat.le_of_ble_eq_true rfl) dX10_lacking_32 ?_
    refine x_isub o dX10_lacking_35 ?_
    refine x_goto o 40 dX10_lacking_36 (by decide) ?_
    cases hf
    exact hr _ _ dX10_lacking_40
theorem C_X10_lacking {k : Kst} (hj : Dj k) (hn : kn k = kdl.length) (F : Nat) {h : Hp} {a0 : Nat} {x1 : Int32} {r : Int32} (hf : X10_lacking F a0 x1 h = some r) : MI k 5 yX10_lacking cX10_lacking 4 (some .int) [.ref (ka k a0), .int x1] h r h := mI hj hn (by decide +kernel) (Nat.le_of_ble_eq_true rfl) (fun d o hr => S_X10_lacking_0 o F hf hr)
set_option maxRecDepth 100000 in
set_option maxHeartbeats 4000000 in
theorem S_X10_weight_11 {k : Kst} {d : Kdy} (o : Ok k d cX10_weight RX10 5 5) (F : Nat) : ∀ (f : Nat) {h : Hp} {a0 : Nat} {x1 : Int32} {x2 : Int32} {x3 : Int32} {x4 : Int32} {r : Int32}, X10_weight_11 F f a0 x1 x2 x3 x4 h = some r → RI k d cX10_weight r h → Wz k d h 11 [(0, .ref (ka k a0)), (1, .int x1), (2, .int x2), (3, .int x3), (4, .int x4)] [] := by
  intro f
  induction f with
  | zero =>
    intro h a0 x1 x2 x3 x4 r hf hr
    exact nomatch (show (none : Option _) = some _ from hf)
  | succ f ih =>
    intro h a0 x1 x2 x3 x4 r hf hr
    rw [X10_weight_11] at hf
    refine x_iload o dX10_weight_11 4 rfl ?_
    refine x_iload_n o dX10_weight_13 2 rfl rfl ?_
    refine x_icmp_gt o 57 dX10_weight_14 (by decide) (fun q_1 => ?_) (fun q_1 => ?_)
    · replace hf := (if_pos q_1).symm.trans hf
      refine x_iload_n o dX10_weight_57 3 rfl rfl ?_
      cases hf
      exact hr _ _ dX10_weight_58
    · replace hf := (if_neg q_1).symm.trans hf
      refine x_iload o dX10_weight_17 4 rfl ?_
      refine x_bipush (v := 20) o dX10_weight_19 (by decide) ?_
      refine x_icmp_gt o 57 dX10_weight_21 (by decide) (fun q_2 => ?_) (fun q_2 => ?_)
      · replace hf := (if_pos q_2).symm.trans hf
        refine x_iload_n o dX10_weight_57 3 rfl rfl ?_
        cases hf
        exact hr _ _ dX10_weight_58
      · replace hf := (if_neg q_2).symm.trans hf
        refine x_iload_n o dX10_weight_24 3 rfl rfl ?_
        refine x_aload_n o dX10_weight_25 0 rfl rfl ?_
        refine x_iload_n o dX10_weight_26 1 rfl rfl ?_
        obtain ⟨k_3, hf⟩ := gq_ex hf
        obtain ⟨j_4, ej_4, hf⟩ := ob_ex hf
        refine vRX10_46 [.int x1] [.int x3] o (C_X10_built o.1.2.2.2.2.2.2.1 o.2 F ej_4) (by decide) k_3 rfl rfl (Nat.le_of_ble_eq_true rfl) dX10_weight_27 ?_
        refine x_iload o dX10_weight_30 4 rfl ?_
        obtain ⟨k_6, hf⟩ := gq_ex hf
        obtain ⟨c_7, ec_7, hf⟩ := ob_ex hf
        refine vRX10_66 [.int x4] [.int x3] o (C_X5_stonesOf o.1.2.2.2.2.2.2.1 o.2 F ec_7) (by decide) k_6 rfl rfl (Nat.le_of_ble_eq_true rfl) dX10_weight_32 ?_
        refine x_aload_n o dX10_weight_35 0 rfl rfl ?_
        obtain ⟨j_9, ej_9, hf⟩ := ob_ex hf
        refine gRX10_24 o k_3 ej_9 dX10_weight_36 ?_
        refine x_iload_n o dX10_weight_39 1 rfl rfl ?_
        refine x_iload o dX10_weight_40 4 rfl ?_
        obtain ⟨k_10, hf⟩ := gq_ex hf
        obtain ⟨c_11, ec_11, hf⟩ := ob_ex hf
        refine vRX10_69 [.int x1, .int x4] [.int c_7, .int x3] o (C_X8_benchAt o.1.2.2.2.2.2.2.1 o.2 F ec_11) (by decide) k_10 rfl rfl (Nat.le_of_ble_eq_true rfl) dX10_weight_42 ?_
        refine x_iadd o dX10_weight_45 ?_
        refine x_iload o dX10_weight_46 4 rfl ?_
        refine x_imul o dX10_weight_48 ?_
        refine x_iadd o dX10_weight_49 ?_
        obtain ⟨x3_13, ex3_13, hf⟩ := bd_ex hf
        refine x_top ex3_13 ?_
        refine x_istore_n o dX10_weight_50 (by decide) rfl [(3, .int x3_13), (0, .ref (ka k a0)), (1, .int x1), (2, .int x2), (4, .int x4)] rfl ?_
        obtain ⟨x4_14, ex4_14, hf⟩ := bd_ex hf
        refine x_iinc o dX10_weight_51 (by decide) 4 rfl ex4_14.symm [(4, .int x4_14), (3, .int x3_13), (0, .ref (ka k a0)), (1, .int x1), (2, .int x2)] rfl ?_
        refine x_goto o 11 dX10_weight_54 (by decide) ?_
        refine x_sub [2, 3, 4, 1, 0] [(0, .ref (ka k a0)), (1, .int x1), (2, .int x2), (3, .int x3_13), (4, .int x4_14)] rfl ?_
        exact ih hf hr
set_option maxRecDepth 100000 in
set_option maxHeartbeats 4000000 in
theorem S_X10_weight_0 {k : Kst} {d : Kdy} (o : Ok k d cX10_weight RX10 5 5) (F : Nat) {h : Hp} {a0 : Nat} {x1 : Int32} {r : Int32} (hf : X10_weight F a0 x1 h = some r) (hr : RI k d cX10_weight r h) : Wz k d h 0 [(0, .ref (ka k a0)), (1, .int x1)] [] := by
  unfold X10_weight at hf
  refine x_aload_n o dX10_weight_0 0 rfl rfl ?_
  refine x_iload_n o dX10_weight_1 1 rfl rfl ?_
  obtain ⟨k_1, hf⟩ := gq_ex hf
  obtain ⟨c_2, ec_2, hf⟩ := ob_ex hf
  refine vRX10_60 [.int x1] [] o (C_X10_standing o.1.2.2.2.2.2.2.1 o.2 F ec_2) (by decide) k_1 rfl rfl (Nat.le_of_ble_eq_true rfl) dX10_weight_2 ?_
  refine x_istore_n o dX10_weight_5 (by decide) rfl [(2, .int c_2), (0, .ref (ka k a0)), (1, .int x1)] rfl ?_
  refine x_iconst (v := 0) o dX10_weight_6 (by decide) ?_
  refine x_istore_n o dX10_weight_7 (by decide) rfl [(3, .int 0), (2, .int c_2), (0, .ref (ka k a0)), (1, .int x1)] rfl ?_
  refine x_iconst (v := 1) o dX10_weight_8 (by decide) ?_
  refine x_istore o dX10_weight_9 (by decide) [(4, .int 1), (3, .int 0), (2, .int c_2), (0, .ref (ka k a0)), (1, .int x1)] rfl ?_
  refine x_sub [3, 4, 2, 1, 0] [(0, .ref (ka k a0)), (1, .int x1), (2, .int c_2), (3, .int 0), (4, .int 1)] rfl ?_
  exact S_X10_weight_11 o F _ hf hr
theorem C_X10_weight {k : Kst} (hj : Dj k) (hn : kn k = kdl.length) (F : Nat) {h : Hp} {a0 : Nat} {x1 : Int32} {r : Int32} (hf : X10_weight F a0 x1 h = some r) : MI k 5 yX10_weight cX10_weight 5 (some .int) [.ref (ka k a0), .int x1] h r h := mI hj hn (by decide +kernel) (Nat.le_of_ble_eq_true rfl) (fun d o hr => S_X10_weight_0 o F hf hr)
set_option maxRecDepth 100000 in
set_option maxHeartbeats 4000000 in
theorem S_X10_tellAll_0 {k : Kst} {d : Kdy} (o : Ok k d cX10_tellAll RX10 2 4) (F : Nat) {h : Hp} {a0 : Nat} {x1 : Int32} {h1 : Hp} (hf : X10_tellAll F a0 x1 h = some h1) (hr : RV k d cX10_tellAll h1) : Wz k d h 0 [(0, .ref (ka k a0)), (1, .int x1)] [] := by
  unfold X10_tellAll at hf
  refine x_aload_n o dX10_tellAll_0 0 rfl rfl ?_
  obtain ⟨k_1, hf⟩ := gq_ex hf
  obtain ⟨j_2, ej_2, hf⟩ := ob_ex hf
  refine gRX10_30 o k_1 ej_2 dX10_tellAll_1 ?_
  refine x_iconst (v := 5) o dX10_tellAll_4 (by decide) ?_
  refine x_aload_n o dX10_tellAll_5 0 rfl rfl ?_
  obtain ⟨j_3, ej_3, hf⟩ := ob_ex hf
  refine gRX10_24 o k_1 ej_3 dX10_tellAll_6 ?_
  obtain ⟨k_4, hf⟩ := gq_ex hf
  refine gRX10_121 o k_4 dX10_tellAll_9 ?_
  obtain ⟨h_6, eh_6, hf⟩ := ob_ex hf
  refine vRX10_96 [.ref (ka k j_2), .int 5, .int (h.1 j_3 3)] [] o (C_X11_put o.1.2.2.2.2.2.2.1 o.2 F eh_6) (by decide) rfl rfl (Nat.le_of_ble_eq_true rfl) dX10_tellAll_12 ?_
  refine x_aload_n o dX10_tellAll_15 0 rfl rfl ?_
  obtain ⟨j_7, ej_7, hf⟩ := ob_ex hf
  refine gRX10_30 o k_1 ej_7 dX10_tellAll_16 ?_
  refine x_bipush (v := 6) o dX10_tellAll_19 (by decide) ?_
  refine x_aload_n o dX10_tellAll_21 0 rfl rfl ?_
  obtain ⟨j_8, ej_8, hf⟩ := ob_ex hf
  refine gRX10_24 o k_1 ej_8 dX10_tellAll_22 ?_
  obtain ⟨k_9, hf⟩ := gq_ex hf
  refine gRX10_154 o k_9 dX10_tellAll_25 ?_
  refine x_bipush (v := 100) o dX10_tellAll_28 (by decide) ?_
  refine x_idiv o dX10_tellAll_30 (by decide) ?_
  obtain ⟨h_11, eh_11, hf⟩ := ob_ex hf
  refine vRX10_96 [.ref (ka k j_7), .int 6, .int ((h_6.1 j_8 4) / 100)] [] o (C_X11_put o.1.2.2.2.2.2.2.1 o.2 F eh_11) (by decide) rfl rfl (Nat.le_of_ble_eq_true rfl) dX10_tellAll_31 ?_
  refine x_aload_n o dX10_tellAll_34 0 rfl rfl ?_
  obtain ⟨j_12, ej_12, hf⟩ := ob_ex hf
  refine gRX10_30 o k_1 ej_12 dX10_tellAll_35 ?_
  refine x_bipush (v := 7) o dX10_tellAll_38 (by decide) ?_
  refine x_aload_n o dX10_tellAll_40 0 rfl rfl ?_
  obtain ⟨j_13, ej_13, hf⟩ := ob_ex hf
  refine gRX10_24 o k_1 ej_13 dX10_tellAll_41 ?_
  obtain ⟨k_14, hf⟩ := gq_ex hf
  refine gRX10_77 o k_14 dX10_tellAll_44 ?_
  refine x_bipush (v := 100) o dX10_tellAll_47 (by decide) ?_
  refine x_irem o dX10_tellAll_49 (by decide) ?_
  obtain ⟨h_16, eh_16, hf⟩ := ob_ex hf
  refine vRX10_96 [.ref (ka k j_12), .int 7, .int (irm (h_11.1 j_13 5) 100)] [] o (C_X11_put o.1.2.2.2.2.2.2.1 o.2 F eh_16) (by decide) rfl rfl (Nat.le_of_ble_eq_true rfl) dX10_tellAll_50 ?_
  refine x_aload_n o dX10_tellAll_53 0 rfl rfl ?_
  obtain ⟨j_17, ej_17, hf⟩ := ob_ex hf
  refine gRX10_30 o k_1 ej_17 dX10_tellAll_54 ?_
  refine x_bipush (v := 8) o dX10_tellAll_57 (by decide) ?_
  refine x_iload_n o dX10_tellAll_59 1 rfl rfl ?_
  obtain ⟨h_19, eh_19, hf⟩ := ob_ex hf
  refine vRX10_96 [.ref (ka k j_17), .int 8, .int x1] [] o (C_X11_put o.1.2.2.2.2.2.2.1 o.2 F eh_19) (by decide) rfl rfl (Nat.le_of_ble_eq_true rfl) dX10_tellAll_60 ?_
  cases hf
  exact hr _ _ dX10_tellAll_63
theorem C_X10_tellAll {k : Kst} (hj : Dj k) (hn : kn k = kdl.length) (F : Nat) {h : Hp} {a0 : Nat} {x1 : Int32} {h1 : Hp} (hf : X10_tellAll F a0 x1 h = some h1) : MV k 4 yX10_tellAll cX10_tellAll 2 [.ref (ka k a0), .int x1] h h1 := mV hj hn (by decide +kernel) (Nat.le_of_ble_eq_true rfl) (fun d o hr => S_X10_tellAll_0 o F hf hr)
set_option maxRecDepth 100000 in
set_option maxHeartbeats 4000000 in
theorem S_X10_deliver_0 {k : Kst} {d : Kdy} (o : Ok k d cX10_deliver RX10 3 6) (F : Nat) {h : Hp} {a0 : Nat} {h1 : Hp} (hf : X10_deliver F a0 h = some h1) (hr : RV k d cX10_deliver h1) : Wz k d h 0 [(0, .ref (ka k a0))] [] := by
  unfold X10_deliver at hf
  refine x_aload_n o dX10_deliver_0 0 rfl rfl ?_
  refine x_aload_n o dX10_deliver_1 0 rfl rfl ?_
  obtain ⟨k_1, hf⟩ := gq_ex hf
  obtain ⟨j_2, ej_2, hf⟩ := ob_ex hf
  refine gRX10_24 o k_1 ej_2 dX10_deliver_2 ?_
  obtain ⟨k_3, hf⟩ := gq_ex hf
  obtain ⟨c_4, h_5, ec_4, hf⟩ := bq_ex hf
  refine vRX10_89 [] [.ref (ka k a0)] o (C_X8_nextDraw o.1.2.2.2.2.2.2.1 o.2 F ec_4) (by decide) k_3 rfl rfl (Nat.le_of_ble_eq_true rfl) dX10_deliver_5 ?_
  obtain ⟨h_7, eh_7, hf⟩ := ob_ex hf
  refine vRX10_92 [.int c_4] [] o (C_X10_tellAll o.1.2.2.2.2.2.2.1 o.2 F eh_7) (by decide) k_1 rfl rfl (Nat.le_of_ble_eq_true rfl) dX10_deliver_8 ?_
  refine x_aload_n o dX10_deliver_11 0 rfl rfl ?_
  obtain ⟨j_8, ej_8, hf⟩ := ob_ex hf
  refine gRX10_30 o k_1 ej_8 dX10_deliver_12 ?_
  refine x_iconst (v := 0) o dX10_deliver_15 (by decide) ?_
  refine x_iconst (v := 0) o dX10_deliver_16 (by decide) ?_
  obtain ⟨h_10, eh_10, hf⟩ := ob_ex hf
  refine vRX10_96 [.ref (ka k j_8), .int 0, .int 0] [] o (C_X11_put o.1.2.2.2.2.2.2.1 o.2 F eh_10) (by decide) rfl rfl (Nat.le_of_ble_eq_true rfl) dX10_deliver_17 ?_
  refine x_aload_n o dX10_deliver_20 0 rfl rfl ?_
  obtain ⟨j_11, ej_11, hf⟩ := ob_ex hf
  refine gRX10_30 o k_1 ej_11 dX10_deliver_21 ?_
  refine x_iconst (v := 1) o dX10_deliver_24 (by decide) ?_
  refine x_iconst (v := 0) o dX10_deliver_25 (by decide) ?_
  obtain ⟨h_13, eh_13, hf⟩ := ob_ex hf
  refine vRX10_96 [.ref (ka k j_11), .int 1, .int 0] [] o (C_X11_put o.1.2.2.2.2.2.2.1 o.2 F eh_13) (by decide) rfl rfl (Nat.le_of_ble_eq_true rfl) dX10_deliver_26 ?_
  refine x_aload_n o dX10_deliver_29 0 rfl rfl ?_
  obtain ⟨j_14, ej_14, hf⟩ := ob_ex hf
  refine gRX10_30 o k_1 ej_14 dX10_deliver_30 ?_
  refine x_iconst (v := 2) o dX10_deliver_33 (by decide) ?_
  refine x_iconst (v := 0) o dX10_deliver_34 (by decide) ?_
  obtain ⟨h_16, eh_16, hf⟩ := ob_ex hf
  refine vRX10_96 [.ref (ka k j_14), .int 2, .int 0] [] o (C_X11_put o.1.2.2.2.2.2.2.1 o.2 F eh_16) (by decide) rfl rfl (Nat.le_of_ble_eq_true rfl) dX10_deliver_35 ?_
  refine x_aload_n o dX10_deliver_38 0 rfl rfl ?_
  obtain ⟨j_17, ej_17, hf⟩ := ob_ex hf
  refine gRX10_30 o k_1 ej_17 dX10_deliver_39 ?_
  refine x_iconst (v := 3) o dX10_deliver_42 (by decide) ?_
  refine x_iconst (v := 0) o dX10_deliver_43 (by decide) ?_
  obtain ⟨h_19, eh_19, hf⟩ := ob_ex hf
  refine vRX10_96 [.ref (ka k j_17), .int 3, .int 0] [] o (C_X11_put o.1.2.2.2.2.2.2.1 o.2 F eh_19) (by decide) rfl rfl (Nat.le_of_ble_eq_true rfl) dX10_deliver_44 ?_
  refine x_aload_n o dX10_deliver_47 0 rfl rfl ?_
  obtain ⟨j_20, ej_20, hf⟩ := ob_ex hf
  refine gRX10_30 o k_1 ej_20 dX10_deliver_48 ?_
  refine x_iconst (v := 4) o dX10_deliver_51 (by decide) ?_
  refine x_iconst (v := 0) o dX10_deliver_52 (by decide) ?_
  obtain ⟨h_22, eh_22, hf⟩ := ob_ex hf
  refine vRX10_96 [.ref (ka k j_20), .int 4, .int 0] [] o (C_X11_put o.1.2.2.2.2.2.2.1 o.2 F eh_22) (by decide) rfl rfl (Nat.le_of_ble_eq_true rfl) dX10_deliver_53 ?_
  refine x_aload_n o dX10_deliver_56 0 rfl rfl ?_
  obtain ⟨j_23, ej_23, hf⟩ := ob_ex hf
  refine gRX10_37 o k_1 ej_23 dX10_deliver_57 ?_
  refine x_bipush (v := 105) o dX10_deliver_60 (by decide) ?_
  refine x_sipush (v := 999) o dX10_deliver_62 (by decide) ?_
  refine x_aload_n o dX10_deliver_65 0 rfl rfl ?_
  obtain ⟨j_24, ej_24, hf⟩ := ob_ex hf
  refine gRX10_30 o k_1 ej_24 dX10_deliver_66 ?_
  obtain ⟨k_25, hf⟩ := gq_ex hf
  obtain ⟨c_26, h_27, ec_26, hf⟩ := bq_ex hf
  refine vRX10_100 [.int 105, .int 999, .ref (ka k j_24)] [] o (C_X1_amount o.1.2.2.2.2.2.2.1 o.2 F ec_26) (by decide) k_25 rfl rfl (Nat.le_of_ble_eq_true rfl) dX10_deliver_69 ?_
  refine x_istore_n o dX10_deliver_72 (by decide) rfl [(1, .int c_26), (0, .ref (ka k a0))] rfl ?_
  refine x_aload_n o dX10_deliver_73 1 rfl rfl ?_
  obtain ⟨j_28, ej_28, hf⟩ := ob_ex hf
  refine gRX10_37 o k_1 ej_28 dX10_deliver_74 ?_
  refine x_bipush (v := 110) o dX10_deliver_77 (by decide) ?_
  refine x_sipush (v := 9999) o dX10_deliver_79 (by decide) ?_
  refine x_aload_n o dX10_deliver_82 1 rfl rfl ?_
  obtain ⟨j_29, ej_29, hf⟩ := ob_ex hf
  refine gRX10_30 o k_1 ej_29 dX10_deliver_83 ?_
  obtain ⟨k_30, hf⟩ := gq_ex hf
  obtain ⟨c_31, h_32, ec_31, hf⟩ := bq_ex hf
  refine vRX10_100 [.int 110, .int 9999, .ref (ka k j_29)] [] o (C_X1_amount o.1.2.2.2.2.2.2.1 o.2 F ec_31) (by decide) k_30 rfl rfl (Nat.le_of_ble_eq_true rfl) dX10_deliver_86 ?_
  refine x_istore_n o dX10_deliver_89 (by decide) rfl [(2, .int c_31), (1, .int c_26), (0, .ref (ka k a0))] rfl ?_
  refine x_aload_n o dX10_deliver_90 2 rfl rfl ?_
  obtain ⟨j_33, ej_33, hf⟩ := ob_ex hf
  refine gRX10_24 o k_1 ej_33 dX10_deliver_91 ?_
  refine x_iload_n o dX10_deliver_94 1 rfl rfl ?_
  obtain ⟨k_34, hf⟩ := gq_ex hf
  obtain ⟨h_36, eh_36, hf⟩ := ob_ex hf
  refine vRX10_104 [.int c_26] [] o (C_X8_addStore o.1.2.2.2.2.2.2.1 o.2 F eh_36) (by decide) k_34 rfl rfl (Nat.le_of_ble_eq_true rfl) dX10_deliver_95 ?_
  refine x_aload_n o dX10_deliver_98 2 rfl rfl ?_
  obtain ⟨j_37, ej_37, hf⟩ := ob_ex hf
  refine gRX10_24 o k_1 ej_37 dX10_deliver_99 ?_
  refine x_iload_n o dX10_deliver_102 0 rfl rfl ?_
  obtain ⟨k_38, hf⟩ := gq_ex hf
  obtain ⟨h_40, eh_40, hf⟩ := ob_ex hf
  refine vRX10_107 [.int c_31] [] o (C_X8_addDebt o.1.2.2.2.2.2.2.1 o.2 F eh_40) (by decide) k_38 rfl rfl (Nat.le_of_ble_eq_true rfl) dX10_deliver_103 ?_
  cases hf
  exact hr _ _ dX10_deliver_106
theorem C_X10_deliver {k : Kst} (hj : Dj k) (hn : kn k = kdl.length) (F : Nat) {h : Hp} {a0 : Nat} {h1 : Hp} (hf : X10_deliver F a0 h = some h1) : MV k 6 yX10_deliver cX10_deliver 3 [.ref (ka k a0)] h h1 := mV hj hn (by decide +kernel) (Nat.le_of_ble_eq_true rfl) (fun d o hr => S_X10_deliver_0 o F hf hr)
set_option maxRecDepth 100000 in
set_option maxHeartbeats 4000000 in
theorem S_X10_tellSide_0 {k : Kst} {d : Kdy} (o : Ok k d cX10_tellSide RX10 2 6) (F : Nat) {h : Hp} {a0 : Nat} {x1 : Int32} {h1 : Hp} (hf : X10_tellSide F a0 x1 h = some h1) (hr : RV k d cX10_tellSide h1) : Wz k d h 0 [(0, .ref (ka k a0)), (1, .int x1)] [] := by
  unfold X10_tellSide at hf
  refine x_aload_n o dX10_tellSide_0 0 rfl rfl ?_
  obtain ⟨k_1, hf⟩ := gq_ex hf
  obtain ⟨j_2, ej_2, hf⟩ := ob_ex hf
  refine gRX10_30 o k_1 ej_2 dX10_tellSide_1 ?_
  refine x_iconst (v := 0) o dX10_tellSide_4 (by decide) ?_
  refine x_iload_n o dX10_tellSide_5 1 rfl rfl ?_
  obtain ⟨h_4, eh_4, hf⟩ := ob_ex hf
  refine vRX10_96 [.ref (ka k j_2), .int 0, .int x1] [] o (C_X11_put o.1.2.2.2.2.2.2.1 o.2 F eh_4) (by decide) rfl rfl (Nat.le_of_ble_eq_true rfl) dX10_tellSide_6 ?_
  refine x_aload_n o dX10_tellSide_9 0 rfl rfl ?_
  obtain ⟨j_5, ej_5, hf⟩ := ob_ex hf
  refine gRX10_30 o k_1 ej_5 dX10_tellSide_10 ?_
  refine x_iconst (v := 1) o dX10_tellSide_13 (by decide) ?_
  refine x_aload_n o dX10_tellSide_14 0 rfl rfl ?_
  refine x_iload_n o dX10_tellSide_15 1 rfl rfl ?_
  obtain ⟨c_6, ec_6, hf⟩ := ob_ex hf
  refine vRX10_60 [.int x1] [.int 1, .ref (ka k j_5)] o (C_X10_standing o.1.2.2.2.2.2.2.1 o.2 F ec_6) (by decide) k_1 rfl rfl (Nat.le_of_ble_eq_true rfl) dX10_tellSide_16 ?_
  obtain ⟨h_9, eh_9, hf⟩ := ob_ex hf
  refine vRX10_96 [.ref (ka k j_5), .int 1, .int c_6] [] o (C_X11_put o.1.2.2.2.2.2.2.1 o.2 F eh_9) (by decide) rfl rfl (Nat.le_of_ble_eq_true rfl) dX10_tellSide_19 ?_
  refine x_aload_n o dX10_tellSide_22 0 rfl rfl ?_
  obtain ⟨j_10, ej_10, hf⟩ := ob_ex hf
  refine gRX10_30 o k_1 ej_10 dX10_tellSide_23 ?_
  refine x_iconst (v := 2) o dX10_tellSide_26 (by decide) ?_
  refine x_aload_n o dX10_tellSide_27 0 rfl rfl ?_
  refine x_iconst (v := 1) o dX10_tellSide_28 (by decide) ?_
  refine x_iload_n o dX10_tellSide_29 1 rfl rfl ?_
  refine x_isub o dX10_tellSide_30 ?_
  obtain ⟨c_11, ec_11, hf⟩ := ob_ex hf
  refine vRX10_60 [.int (1 - x1)] [.int 2, .ref (ka k j_10)] o (C_X10_standing o.1.2.2.2.2.2.2.1 o.2 F ec_11) (by decide) k_1 rfl rfl (Nat.le_of_ble_eq_true rfl) dX10_tellSide_31 ?_
  obtain ⟨h_14, eh_14, hf⟩ := ob_ex hf
  refine vRX10_96 [.ref (ka k j_10), .int 2, .int c_11] [] o (C_X11_put o.1.2.2.2.2.2.2.1 o.2 F eh_14) (by decide) rfl rfl (Nat.le_of_ble_eq_true rfl) dX10_tellSide_34 ?_
  refine x_aload_n o dX10_tellSide_37 0 rfl rfl ?_
  obtain ⟨j_15, ej_15, hf⟩ := ob_ex hf
  refine gRX10_30 o k_1 ej_15 dX10_tellSide_38 ?_
  refine x_iconst (v := 3) o dX10_tellSide_41 (by decide) ?_
  refine x_aload_n o dX10_tellSide_42 0 rfl rfl ?_
  refine x_iload_n o dX10_tellSide_43 1 rfl rfl ?_
  obtain ⟨c_16, ec_16, hf⟩ := ob_ex hf
  refine vRX10_157 [.int x1] [.int 3, .ref (ka k j_15)] o (C_X10_toBuild o.1.2.2.2.2.2.2.1 o.2 F ec_16) (by decide) k_1 rfl rfl (Nat.le_of_ble_eq_true rfl) dX10_tellSide_44 ?_
  obtain ⟨h_19, eh_19, hf⟩ := ob_ex hf
  refine vRX10_96 [.ref (ka k j_15), .int 3, .int c_16] [] o (C_X11_put o.1.2.2.2.2.2.2.1 o.2 F eh_19) (by decide) rfl rfl (Nat.le_of_ble_eq_true rfl) dX10_tellSide_47 ?_
  refine x_aload_n o dX10_tellSide_50 0 rfl rfl ?_
  obtain ⟨j_20, ej_20, hf⟩ := ob_ex hf
  refine gRX10_30 o k_1 ej_20 dX10_tellSide_51 ?_
  refine x_iconst (v := 4) o dX10_tellSide_54 (by decide) ?_
  refine x_aload_n o dX10_tellSide_55 0 rfl rfl ?_
  refine x_iload_n o dX10_tellSide_56 1 rfl rfl ?_
  obtain ⟨c_21, ec_21, hf⟩ := ob_ex hf
  refine vRX10_160 [.int x1] [.int 4, .ref (ka k j_20)] o (C_X10_lacking o.1.2.2.2.2.2.2.1 o.2 F ec_21) (by decide) k_1 rfl rfl (Nat.le_of_ble_eq_true rfl) dX10_tellSide_57 ?_
  obtain ⟨h_24, eh_24, hf⟩ := ob_ex hf
  refine vRX10_96 [.ref (ka k j_20), .int 4, .int c_21] [] o (C_X11_put o.1.2.2.2.2.2.2.1 o.2 F eh_24) (by decide) rfl rfl (Nat.le_of_ble_eq_true rfl) dX10_tellSide_60 ?_
  cases hf
  exact hr _ _ dX10_tellSide_63
theorem C_X10_tellSide {k : Kst} (hj : Dj k) (hn : kn k = kdl.length) (F : Nat) {h : Hp} {a0 : Nat} {x1 : Int32} {h1 : Hp} (hf : X10_tellSide F a0 x1 h = some h1) : MV k 6 yX10_tellSide cX10_tellSide 2 [.ref (ka k a0), .int x1] h h1 := mV hj hn (by decide +kernel) (Nat.le_of_ble_eq_true rfl) (fun d o hr => S_X10_tellSide_0 o F hf hr)
set_option maxRecDepth 100000 in
set_option maxHeartbeats 4000000 in
theorem S_X10_mayBeLaid_68 {k : Kst} {d : Kdy} (o : Ok k d cX10_mayBeLaid RX10 6 5) (F : Nat) {h : Hp} {a0 : Nat} {x1 : Int32} {x4 : Int32} {r : Int32} (hf : X10_mayBeLaid_68 F a0 x1 x4 h = some r) (hr : RI k d cX10_mayBeLaid r h) : Wz k d h 68 [(0, .ref (ka k a0)), (1, .int x1), (4, .int x4)] [] := by
  unfold X10_mayBeLaid_68 at hf
  refine x_iload o dX10_mayBeLaid_68 2 rfl ?_
  refine x_aload_n o dX10_mayBeLaid_70 0 rfl rfl ?_
  obtain ⟨k_1, hf⟩ := gq_ex hf
  obtain ⟨j_2, ej_2, hf⟩ := ob_ex hf
  refine gRX10_24 o k_1 ej_2 dX10_mayBeLaid_71 ?_
  refine x_iload_n o dX10_mayBeLaid_74 1 rfl rfl ?_
  obtain ⟨k_3, hf⟩ := gq_ex hf
  obtain ⟨c_4, ec_4, hf⟩ := ob_ex hf
  refine vRX10_50 [.int x1] [.int x4] o (C_X8_laidOn o.1.2.2.2.2.2.2.1 o.2 F ec_4) (by decide) k_3 rfl rfl (Nat.le_of_ble_eq_true rfl) dX10_mayBeLaid_75 ?_
  refine x_isub o dX10_mayBeLaid_78 ?_
  cases hf
  exact hr _ _ dX10_mayBeLaid_79
set_option maxRecDepth 100000 in
set_option maxHeartbeats 4000000 in
theorem S_X10_mayBeLaid_0 {k : Kst} {d : Kdy} (o : Ok k d cX10_mayBeLaid RX10 6 5) (F : Nat) {h : Hp} {a0 : Nat} {x1 : Int32} {r : Int32} (hf : X10_mayBeLaid F a0 x1 h = some r) (hr : RI k d cX10_mayBeLaid r h) : Wz k d h 0 [(0, .ref (ka k a0)), (1, .int x1)] [] := by
  unfold X10_mayBeLaid at hf
  refine x_aload_n o dX10_mayBeLaid_0 0 rfl rfl ?_
  refine x_iload_n o dX10_mayBeLaid_1 1 rfl rfl ?_
  obtain ⟨k_1, hf⟩ := gq_ex hf
  obtain ⟨j_2, ej_2, hf⟩ := ob_ex hf
  refine vRX10_46 [.int x1] [] o (C_X10_built o.1.2.2.2.2.2.2.1 o.2 F ej_2) (by decide) k_1 rfl rfl (Nat.le_of_ble_eq_true rfl) dX10_mayBeLaid_2 ?_
  refine x_astore_n o dX10_mayBeLaid_5 (by decide) rfl [(2, .ref (ka k j_2)), (0, .ref (ka k a0)), (1, .int x1)] rfl ?_
  refine x_aload_n o dX10_mayBeLaid_6 1 rfl rfl ?_
  refine x_iconst (v := 1) o dX10_mayBeLaid_7 (by decide) ?_
  refine x_iload_n o dX10_mayBeLaid_8 2 rfl rfl ?_
  refine x_isub o dX10_mayBeLaid_9 ?_
  obtain ⟨c_4, ec_4, hf⟩ := ob_ex hf
  refine vRX10_60 [.int (1 - x1)] [] o (C_X10_standing o.1.2.2.2.2.2.2.1 o.2 F ec_4) (by decide) k_1 rfl rfl (Nat.le_of_ble_eq_true rfl) dX10_mayBeLaid_10 ?_
  refine x_istore_n o dX10_mayBeLaid_13 (by decide) rfl [(3, .int c_4), (2, .ref (ka k j_2)), (0, .ref (ka k a0)), (1, .int x1)] rfl ?_
  refine x_aload_n o dX10_mayBeLaid_14 1 rfl rfl ?_
  obtain ⟨k_6, hf⟩ := gq_ex hf
  obtain ⟨c_7, ec_7, hf⟩ := ob_ex hf
  refine vRX10_139 [] [] o (C_X5_whole o.1.2.2.2.2.2.2.1 o.2 F ec_7) (by decide) k_6 rfl rfl (Nat.le_of_ble_eq_true rfl) dX10_mayBeLaid_15 ?_
  refine x_istore o dX10_mayBeLaid_18 (by decide) [(4, .int c_7), (3, .int c_4), (2, .ref (ka k j_2)), (0, .ref (ka k a0)), (1, .int x1)] rfl ?_
  refine x_iload_n o dX10_mayBeLaid_20 1 rfl rfl ?_
  refine x_aload_n o dX10_mayBeLaid_21 3 rfl rfl ?_
  refine x_iconst (v := 1) o dX10_mayBeLaid_22 (by decide) ?_
  refine x_iload_n o dX10_mayBeLaid_23 4 rfl rfl ?_
  refine x_isub o dX10_mayBeLaid_24 ?_
  obtain ⟨j_9, ej_9, hf⟩ := ob_ex hf
  refine vRX10_46 [.int (1 - x1)] [.int c_4] o (C_X10_built o.1.2.2.2.2.2.2.1 o.2 F ej_9) (by decide) k_1 rfl rfl (Nat.le_of_ble_eq_true rfl) dX10_mayBeLaid_25 ?_
  obtain ⟨k_11, hf⟩ := gq_ex hf
  refine gRX10_57 o k_11 dX10_mayBeLaid_28 ?_
  refine x_icmp_ge o 68 dX10_mayBeLaid_31 (by decide) (fun q_12 => ?_) (fun q_12 => ?_)
  · replace hf := (if_pos q_12).symm.trans hf
    refine x_sub [3, 4, 0] [(0, .ref (ka k a0)), (1, .int x1), (4, .int c_7)] rfl ?_
    exact S_X10_mayBeLaid_68 o F hf hr
  · replace hf := (if_neg q_12).symm.trans hf
    refine x_aload_n o dX10_mayBeLaid_34 3 rfl rfl ?_
    refine x_iload_n o dX10_mayBeLaid_35 4 rfl rfl ?_
    obtain ⟨c_13, ec_13, hf⟩ := ob_ex hf
    refine vRX10_60 [.int x1] [] o (C_X10_standing o.1.2.2.2.2.2.2.1 o.2 F ec_13) (by decide) k_1 rfl rfl (Nat.le_of_ble_eq_true rfl) dX10_mayBeLaid_36 ?_
    refine x_iconst (v := 1) o dX10_mayBeLaid_39 (by decide) ?_
    refine x_iadd o dX10_mayBeLaid_40 ?_
    refine x_iload_n o dX10_mayBeLaid_41 1 rfl rfl ?_
    refine x_iconst (v := 2) o dX10_mayBeLaid_42 (by decide) ?_
    refine x_iadd o dX10_mayBeLaid_43 ?_
    refine x_mmax o wRX10_132 (by decide) (Nat.le_of_ble_eq_true rfl) dX10_mayBeLaid_44 ?_
    obtain ⟨x5_15, ex5_15, hf⟩ := bd_ex hf
    refine x_top ex5_15 ?_
    refine x_istore o dX10_mayBeLaid_47 (by decide) [(5, .int x5_15), (4, .int c_7), (3, .int c_4), (2, .ref (ka k j_2)), (0, .ref (ka k a0)), (1, .int x1)] rfl ?_
    refine x_iload o dX10_mayBeLaid_49 0 rfl ?_
    refine x_aload_n o dX10_mayBeLaid_51 3 rfl rfl ?_
    refine gRX10_57 o k_6 dX10_mayBeLaid_52 ?_
    refine x_icmp_gt o 68 dX10_mayBeLaid_55 (by decide) (fun q_16 => ?_) (fun q_16 => ?_)
    · replace hf := (if_pos q_16).symm.trans hf
      refine x_sub [4, 5, 1] [(0, .ref (ka k a0)), (1, .int x1), (4, .int c_7)] rfl ?_
      exact S_X10_mayBeLaid_68 o F hf hr
    · replace hf := (if_neg q_16).symm.trans hf
      refine x_aload_n o dX10_mayBeLaid_58 3 rfl rfl ?_
      refine x_iload o dX10_mayBeLaid_59 0 rfl ?_
      obtain ⟨c_17, ec_17, hf⟩ := ob_ex hf
      refine vRX10_63 [.int x5_15] [] o (C_X5_stonesUpTo o.1.2.2.2.2.2.2.1 o.2 F ec_17) (by decide) k_6 rfl rfl (Nat.le_of_ble_eq_true rfl) dX10_mayBeLaid_61 ?_
      refine x_iconst (v := 1) o dX10_mayBeLaid_64 (by decide) ?_
      refine x_isub o dX10_mayBeLaid_65 ?_
      obtain ⟨x4_19, ex4_19, hf⟩ := bd_ex hf
      refine x_top ex4_19 ?_
      refine x_istore o dX10_mayBeLaid_66 (by decide) [(4, .int x4_19), (5, .int x5_15), (3, .int c_4), (2, .ref (ka k j_2)), (0, .ref (ka k a0)), (1, .int x1)] rfl ?_
      refine x_sub [4, 5, 0] [(0, .ref (ka k a0)), (1, .int x1), (4, .int x4_19)] rfl ?_
      exact S_X10_mayBeLaid_68 o F hf hr
theorem C_X10_mayBeLaid {k : Kst} (hj : Dj k) (hn : kn k = kdl.length) (F : Nat) {h : Hp} {a0 : Nat} {x1 : Int32} {r : Int32} (hf : X10_mayBeLaid F a0 x1 h = some r) : MI k 5 yX10_mayBeLaid cX10_mayBeLaid 6 (some .int) [.ref (ka k a0), .int x1] h r h := mI hj hn (by decide +kernel) (Nat.le_of_ble_eq_true rfl) (fun d o hr => S_X10_mayBeLaid_0 o F hf hr)
set_option maxRecDepth 100000 in
set_option maxHeartbeats 4000000 in
theorem S_X10_work_0 {k : Kst} {d : Kdy} (o : Ok k d cX10_work RX10 5 7) (F : Nat) {h : Hp} {a0 : Nat} {x1 : Int32} {r : Int32} {h1 : Hp} (hf : X10_work F a0 x1 h = some (r, h1)) (hr : RI k d cX10_work r h1) : Wz k d h 0 [(0, .ref (ka k a0)), (1, .int x1)] [] := by
  unfold X10_work at hf
  refine x_aload_n o dX10_work_0 0 rfl rfl ?_
  refine x_iload_n o dX10_work_1 1 rfl rfl ?_
  obtain ⟨k_1, hf⟩ := gq_ex hf
  obtain ⟨c_2, ec_2, hf⟩ := ob_ex hf
  refine vRX10_110 [.int x1] [] o (C_X10_reached o.1.2.2.2.2.2.2.1 o.2 F ec_2) (by decide) k_1 rfl rfl (Nat.le_of_ble_eq_true rfl) dX10_work_2 ?_
  refine x_if_eq o 10 dX10_work_5 (by decide) (fun q_4 => ?_) (fun q_4 => ?_)
  · replace hf := (if_pos q_4).symm.trans hf
    refine x_aload_n o dX10_work_10 0 rfl rfl ?_
    refine x_aload_n o dX10_work_11 0 rfl rfl ?_
    obtain ⟨j_5, ej_5, hf⟩ := ob_ex hf
    refine gRX10_24 o k_1 ej_5 dX10_work_12 ?_
    obtain ⟨k_6, hf⟩ := gq_ex hf
    obtain ⟨c_7, h_8, ec_7, hf⟩ := bq_ex hf
    refine vRX10_89 [] [.ref (ka k a0)] o (C_X8_nextDraw o.1.2.2.2.2.2.2.1 o.2 F ec_7) (by decide) k_6 rfl rfl (Nat.le_of_ble_eq_true rfl) dX10_work_15 ?_
    obtain ⟨h_10, eh_10, hf⟩ := ob_ex hf
    refine vRX10_92 [.int c_7] [] o (C_X10_tellAll o.1.2.2.2.2.2.2.1 o.2 F eh_10) (by decide) k_1 rfl rfl (Nat.le_of_ble_eq_true rfl) dX10_work_18 ?_
    refine x_aload_n o dX10_work_21 0 rfl rfl ?_
    refine x_iload_n o dX10_work_22 1 rfl rfl ?_
    obtain ⟨h_12, eh_12, hf⟩ := ob_ex hf
    refine vRX10_114 [.int x1] [] o (C_X10_tellSide o.1.2.2.2.2.2.2.1 o.2 F eh_12) (by decide) k_1 rfl rfl (Nat.le_of_ble_eq_true rfl) dX10_work_23 ?_
    refine x_aload_n o dX10_work_26 0 rfl rfl ?_
    obtain ⟨j_13, ej_13, hf⟩ := ob_ex hf
    refine gRX10_37 o k_1 ej_13 dX10_work_27 ?_
    refine x_bipush (v := 120) o dX10_work_30 (by decide) ?_
    refine x_aload_n o dX10_work_32 0 rfl rfl ?_
    obtain ⟨j_14, ej_14, hf⟩ := ob_ex hf
    refine gRX10_30 o k_1 ej_14 dX10_work_33 ?_
    obtain ⟨k_15, hf⟩ := gq_ex hf
    obtain ⟨c_16, h_17, ec_16, hf⟩ := bq_ex hf
    refine vRX10_117 [.int 120, .ref (ka k j_14)] [] o (C_X1_someHolds o.1.2.2.2.2.2.2.1 o.2 F ec_16) (by decide) k_15 rfl rfl (Nat.le_of_ble_eq_true rfl) dX10_work_36 ?_
    refine x_if_eq o 44 dX10_work_39 (by decide) (fun q_18 => ?_) (fun q_18 => ?_)
    · replace hf := (if_pos q_18).symm.trans hf
      refine x_aload_n o dX10_work_44 0 rfl rfl ?_
      obtain ⟨j_19, ej_19, hf⟩ := ob_ex hf
      refine gRX10_37 o k_1 ej_19 dX10_work_45 ?_
      refine x_bipush (v := 119) o dX10_work_48 (by decide) ?_
      refine x_bipush (v := 99) o dX10_work_50 (by decide) ?_
      refine x_aload_n o dX10_work_52 0 rfl rfl ?_
      obtain ⟨j_20, ej_20, hf⟩ := ob_ex hf
      refine gRX10_30 o k_1 ej_20 dX10_work_53 ?_
      obtain ⟨k_21, hf⟩ := gq_ex hf
      obtain ⟨c_22, h_23, ec_22, hf⟩ := bq_ex hf
      refine vRX10_100 [.int 119, .int 99, .ref (ka k j_20)] [] o (C_X1_amount o.1.2.2.2.2.2.2.1 o.2 F ec_22) (by decide) k_21 rfl rfl (Nat.le_of_ble_eq_true rfl) dX10_work_56 ?_
      refine x_istore_n o dX10_work_59 (by decide) rfl [(2, .int c_22), (0, .ref (ka k a0)), (1, .int x1)] rfl ?_
      refine x_aload_n o dX10_work_60 1 rfl rfl ?_
      obtain ⟨j_24, ej_24, hf⟩ := ob_ex hf
      refine gRX10_37 o k_1 ej_24 dX10_work_61 ?_
      refine x_bipush (v := 99) o dX10_work_64 (by decide) ?_
      refine x_bipush (v := 99) o dX10_work_66 (by decide) ?_
      refine x_aload_n o dX10_work_68 1 rfl rfl ?_
      obtain ⟨j_25, ej_25, hf⟩ := ob_ex hf
      refine gRX10_30 o k_1 ej_25 dX10_work_69 ?_
      obtain ⟨k_26, hf⟩ := gq_ex hf
      obtain ⟨c_27, h_28, ec_27, hf⟩ := bq_ex hf
      refine vRX10_100 [.int 99, .int 99, .ref (ka k j_25)] [] o (C_X1_amount o.1.2.2.2.2.2.2.1 o.2 F ec_27) (by decide) k_26 rfl rfl (Nat.le_of_ble_eq_true rfl) dX10_work_72 ?_
      refine x_istore_n o dX10_work_75 (by decide) rfl [(3, .int c_27), (2, .int c_22), (0, .ref (ka k a0)), (1, .int x1)] rfl ?_
      refine x_iconst (v := 0) o dX10_work_76 (by decide) ?_
      refine x_iload_n o dX10_work_77 1 rfl rfl ?_
      refine x_aload_n o dX10_work_78 2 rfl rfl ?_
      obtain ⟨j_29, ej_29, hf⟩ := ob_ex hf
      refine gRX10_24 o k_1 ej_29 dX10_work_79 ?_
      obtain ⟨k_30, hf⟩ := gq_ex hf
      refine gRX10_121 o k_30 dX10_work_82 ?_
      refine x_aload_n o dX10_work_85 2 rfl rfl ?_
      refine x_iload_n o dX10_work_86 3 rfl rfl ?_
      obtain ⟨c_31, ec_31, hf⟩ := ob_ex hf
      refine vRX10_124 [.int x1] [.int (h_28.1 j_29 3), .int c_22, .int 0] o (C_X10_mayBeLaid o.1.2.2.2.2.2.2.1 o.2 F ec_31) (by decide) k_1 rfl rfl (Nat.le_of_ble_eq_true rfl) dX10_work_87 ?_
      refine x_mmin o wRX10_127 (by decide) (Nat.le_of_ble_eq_true rfl) dX10_work_90 ?_
      refine x_mmin o wRX10_127 (by decide) (Nat.le_of_ble_eq_true rfl) dX10_work_93 ?_
      refine x_mmax o wRX10_132 (by decide) (Nat.le_of_ble_eq_true rfl) dX10_work_96 ?_
      obtain ⟨x4_33, ex4_33, hf⟩ := bd_ex hf
      refine x_top ex4_33 ?_
      refine x_istore o dX10_work_99 (by decide) [(4, .int x4_33), (3, .int c_27), (2, .int c_22), (0, .ref (ka k a0)), (1, .int x1)] rfl ?_
      refine x_aload_n o dX10_work_101 3 rfl rfl ?_
      refine gRX10_24 o k_1 ej_29 dX10_work_102 ?_
      refine x_iload_n o dX10_work_105 4 rfl rfl ?_
      refine x_iload o dX10_work_106 0 rfl ?_
      obtain ⟨h_35, eh_35, hf⟩ := ob_ex hf
      refine vRX10_135 [.int x1, .int x4_33] [] o (C_X8_lay o.1.2.2.2.2.2.2.1 o.2 F eh_35) (by decide) k_30 rfl rfl (Nat.le_of_ble_eq_true rfl) dX10_work_108 ?_
      refine x_aload_n o dX10_work_111 3 rfl rfl ?_
      obtain ⟨j_36, ej_36, hf⟩ := ob_ex hf
      refine gRX10_24 o k_1 ej_36 dX10_work_112 ?_
      refine x_iload o dX10_work_115 0 rfl ?_
      refine x_ineg o dX10_work_117 ?_
      obtain ⟨k_37, hf⟩ := gq_ex hf
      obtain ⟨h_39, eh_39, hf⟩ := ob_ex hf
      refine vRX10_104 [.int (-x4_33)] [] o (C_X8_addStore o.1.2.2.2.2.2.2.1 o.2 F eh_39) (by decide) k_37 rfl rfl (Nat.le_of_ble_eq_true rfl) dX10_work_118 ?_
      refine x_aload_n o dX10_work_121 3 rfl rfl ?_
      obtain ⟨j_40, ej_40, hf⟩ := ob_ex hf
      refine gRX10_24 o k_1 ej_40 dX10_work_122 ?_
      refine x_iload_n o dX10_work_125 1 rfl rfl ?_
      refine x_iload o dX10_work_126 0 rfl ?_
      refine x_imul o dX10_work_128 ?_
      obtain ⟨k_41, hf⟩ := gq_ex hf
      obtain ⟨h_43, eh_43, hf⟩ := ob_ex hf
      refine vRX10_107 [.int (c_27 * x4_33)] [] o (C_X8_addDebt o.1.2.2.2.2.2.2.1 o.2 F eh_43) (by decide) k_41 rfl rfl (Nat.le_of_ble_eq_true rfl) dX10_work_129 ?_
      refine x_iload o dX10_work_132 0 rfl ?_
      cases hf
      exact hr _ _ dX10_work_134
    · replace hf := (if_neg q_18).symm.trans hf
      refine x_iconst (v := 0) o dX10_work_42 (by decide) ?_
      cases hf
      exact hr _ _ dX10_work_43
  · replace hf := (if_neg q_4).symm.trans hf
    refine x_iconst (v := 0) o dX10_work_8 (by decide) ?_
    cases hf
    exact hr _ _ dX10_work_9
theorem C_X10_work {k : Kst} (hj : Dj k) (hn : kn k = kdl.length) (F : Nat) {h : Hp} {a0 : Nat} {x1 : Int32} {r : Int32} {h1 : Hp} (hf : X10_work F a0 x1 h = some (r, h1)) : MI k 7 yX10_work cX10_work 5 (some .int) [.ref (ka k a0), .int x1] h r h1 := mI hj hn (by decide +kernel) (Nat.le_of_ble_eq_true rfl) (fun d o hr => S_X10_work_0 o F hf hr)
set_option maxRecDepth 100000 in
set_option maxHeartbeats 4000000 in
theorem S_X10_fall_33 {k : Kst} {d : Kdy} (o : Ok k d cX10_fall RX10 4 6) (F : Nat) {h : Hp} {a0 : Nat} {s0 : Int32} {h1 : Hp} (hf : X10_fall_33 F a0 s0 h = some h1) (hr : RV k d cX10_fall h1) : Wz k d h 33 [(0, .ref (ka k a0))] [.int s0] := by
  unfold X10_fall_33 at hf
  refine x_istore_n o dX10_fall_33 (by decide) rfl [(2, .int s0), (0, .ref (ka k a0))] rfl ?_
  refine x_aload_n o dX10_fall_34 1 rfl rfl ?_
  refine x_iload_n o dX10_fall_35 0 rfl rfl ?_
  obtain ⟨k_1, hf⟩ := gq_ex hf
  obtain ⟨c_2, ec_2, hf⟩ := ob_ex hf
  refine vRX10_60 [.int s0] [] o (C_X10_standing o.1.2.2.2.2.2.2.1 o.2 F ec_2) (by decide) k_1 rfl rfl (Nat.le_of_ble_eq_true rfl) dX10_fall_36 ?_
  refine x_istore_n o dX10_fall_39 (by decide) rfl [(3, .int c_2), (2, .int s0), (0, .ref (ka k a0))] rfl ?_
  refine x_iload_n o dX10_fall_40 0 rfl rfl ?_
  refine x_if_le o 76 dX10_fall_41 (by decide) (fun q_4 => ?_) (fun q_4 => ?_)
  · replace hf := (if_pos q_4).symm.trans hf
    cases hf
    exact hr _ _ dX10_fall_76
  · replace hf := (if_neg q_4).symm.trans hf
    refine x_aload_n o dX10_fall_44 2 rfl rfl ?_
    obtain ⟨j_5, ej_5, hf⟩ := ob_ex hf
    refine gRX10_24 o k_1 ej_5 dX10_fall_45 ?_
    refine x_iload_n o dX10_fall_48 1 rfl rfl ?_
    refine x_aload_n o dX10_fall_49 2 rfl rfl ?_
    refine x_iload_n o dX10_fall_50 1 rfl rfl ?_
    obtain ⟨j_6, ej_6, hf⟩ := ob_ex hf
    refine vRX10_46 [.int s0] [.int s0, .ref (ka k j_5)] o (C_X10_built o.1.2.2.2.2.2.2.1 o.2 F ej_6) (by decide) k_1 rfl rfl (Nat.le_of_ble_eq_true rfl) dX10_fall_51 ?_
    refine x_iload_n o dX10_fall_54 0 rfl rfl ?_
    refine x_iconst (v := 1) o dX10_fall_55 (by decide) ?_
    refine x_isub o dX10_fall_56 ?_
    obtain ⟨k_8, hf⟩ := gq_ex hf
    obtain ⟨c_9, ec_9, hf⟩ := ob_ex hf
    refine vRX10_63 [.int (c_2 - 1)] [.int s0, .ref (ka k j_5)] o (C_X5_stonesUpTo o.1.2.2.2.2.2.2.1 o.2 F ec_9) (by decide) k_8 rfl rfl (Nat.le_of_ble_eq_true rfl) dX10_fall_57 ?_
    obtain ⟨k_11, hf⟩ := gq_ex hf
    obtain ⟨h_13, eh_13, hf⟩ := ob_ex hf
    refine vRX10_148 [.int s0, .int c_9] [] o (C_X8_setLaid o.1.2.2.2.2.2.2.1 o.2 F eh_13) (by decide) k_11 rfl rfl (Nat.le_of_ble_eq_true rfl) dX10_fall_60 ?_
    refine x_aload_n o dX10_fall_63 2 rfl rfl ?_
    obtain ⟨j_14, ej_14, hf⟩ := ob_ex hf
    refine gRX10_24 o k_1 ej_14 dX10_fall_64 ?_
    refine x_dup o dX10_fall_67 rfl ?_
    obtain ⟨k_15, hf⟩ := gq_ex hf
    refine gRX10_151 o k_15 dX10_fall_68 ?_
    refine x_iconst (v := 1) o dX10_fall_71 (by decide) ?_
    refine x_iadd o dX10_fall_72 ?_
    obtain ⟨h_16, eh_16, hf⟩ := bd_ex hf
    refine pRX10_151 o k_15 eh_16 dX10_fall_73 ?_
    cases hf
    exact hr _ _ dX10_fall_76
set_option maxRecDepth 100000 in
set_option maxHeartbeats 4000000 in
theorem S_X10_fall_0 {k : Kst} {d : Kdy} (o : Ok k d cX10_fall RX10 4 6) (F : Nat) {h : Hp} {a0 : Nat} {h1 : Hp} (hf : X10_fall F a0 h = some h1) (hr : RV k d cX10_fall h1) : Wz k d h 0 [(0, .ref (ka k a0))] [] := by
  unfold X10_fall at hf
  refine x_aload_n o dX10_fall_0 0 rfl rfl ?_
  refine x_iconst (v := 0) o dX10_fall_1 (by decide) ?_
  obtain ⟨k_1, hf⟩ := gq_ex hf
  obtain ⟨c_2, ec_2, hf⟩ := ob_ex hf
  refine vRX10_142 [.int 0] [] o (C_X10_weight o.1.2.2.2.2.2.2.1 o.2 F ec_2) (by decide) k_1 rfl rfl (Nat.le_of_ble_eq_true rfl) dX10_fall_2 ?_
  refine x_aload_n o dX10_fall_5 0 rfl rfl ?_
  refine x_iconst (v := 1) o dX10_fall_6 (by decide) ?_
  obtain ⟨c_4, ec_4, hf⟩ := ob_ex hf
  refine vRX10_142 [.int 1] [.int c_2] o (C_X10_weight o.1.2.2.2.2.2.2.1 o.2 F ec_4) (by decide) k_1 rfl rfl (Nat.le_of_ble_eq_true rfl) dX10_fall_7 ?_
  refine x_isub o dX10_fall_10 ?_
  obtain ⟨x1_6, ex1_6, hf⟩ := bd_ex hf
  refine x_top ex1_6 ?_
  refine x_istore_n o dX10_fall_11 (by decide) rfl [(1, .int x1_6), (0, .ref (ka k a0))] rfl ?_
  refine x_iload_n o dX10_fall_12 0 rfl rfl ?_
  refine x_mabs o wRX10_145 (by decide) (Nat.le_of_ble_eq_true rfl) dX10_fall_13 ?_
  refine x_aload_n o dX10_fall_16 1 rfl rfl ?_
  refine gRX10_42 o k_1 dX10_fall_17 ?_
  refine x_icmp_gt o 24 dX10_fall_20 (by decide) (fun q_7 => ?_) (fun q_7 => ?_)
  · replace hf := (if_pos q_7).symm.trans hf
    refine x_iload_n o dX10_fall_24 0 rfl rfl ?_
    refine x_if_le o 32 dX10_fall_25 (by decide) (fun q_8 => ?_) (fun q_8 => ?_)
    · replace hf := (if_pos q_8).symm.trans hf
      refine x_iconst (v := 1) o dX10_fall_32 (by decide) ?_
      refine x_sub [1] [(0, .ref (ka k a0))] rfl ?_
      exact S_X10_fall_33 o F hf hr
    · replace hf := (if_neg q_8).symm.trans hf
      refine x_iconst (v := 0) o dX10_fall_28 (by decide) ?_
      refine x_goto o 33 dX10_fall_29 (by decide) ?_
      refine x_sub [1] [(0, .ref (ka k a0))] rfl ?_
      exact S_X10_fall_33 o F hf hr
  · replace hf := (if_neg q_7).symm.trans hf
    cases hf
    exact hr _ _ dX10_fall_23
theorem C_X10_fall {k : Kst} (hj : Dj k) (hn : kn k = kdl.length) (F : Nat) {h : Hp} {a0 : Nat} {h1 : Hp} (hf : X10_fall F a0 h = some h1) : MV k 6 yX10_fall cX10_fall 4 [.ref (ka k a0)] h h1 := mV hj hn (by decide +kernel) (Nat.le_of_ble_eq_true rfl) (fun d o hr => S_X10_fall_0 o F hf hr)
set_option maxRecDepth 100000 in
set_option maxHeartbeats 4000000 in
theorem S_X10_passDay_0 {k : Kst} {d : Kdy} (o : Ok k d cX10_passDay RX10 2 8) (F : Nat) {h : Hp} {a0 : Nat} {r : Int32} {h1 : Hp} (hf : X10_passDay F a0 h = some (r, h1)) (hr : RI k d cX10_passDay r h1) : Wz k d h 0 [(0, .ref (ka k a0))] [] := by
  unfold X10_passDay at hf
  refine x_aload_n o dX10_passDay_0 0 rfl rfl ?_
  obtain ⟨k_1, hf⟩ := gq_ex hf
  obtain ⟨j_2, ej_2, hf⟩ := ob_ex hf
  refine gRX10_24 o k_1 ej_2 dX10_passDay_1 ?_
  obtain ⟨k_3, hf⟩ := gq_ex hf
  refine gRX10_77 o k_3 dX10_passDay_4 ?_
  refine x_sipush (v := 9999) o dX10_passDay_7 (by decide) ?_
  refine x_icmp_lt o 15 dX10_passDay_10 (by decide) (fun q_4 => ?_) (fun q_4 => ?_)
  · replace hf := (if_pos q_4).symm.trans hf
    refine x_aload_n o dX10_passDay_15 0 rfl rfl ?_
    obtain ⟨h_6, eh_6, hf⟩ := ob_ex hf
    refine vRX10_80 [] [] o (C_X10_deliver o.1.2.2.2.2.2.2.1 o.2 F eh_6) (by decide) k_1 rfl rfl (Nat.le_of_ble_eq_true rfl) dX10_passDay_16 ?_
    refine x_aload_n o dX10_passDay_19 0 rfl rfl ?_
    refine x_iconst (v := 0) o dX10_passDay_20 (by decide) ?_
    obtain ⟨c_7, h_8, ec_7, hf⟩ := bq_ex hf
    refine vRX10_83 [.int 0] [] o (C_X10_work o.1.2.2.2.2.2.2.1 o.2 F ec_7) (by decide) k_1 rfl rfl (Nat.le_of_ble_eq_true rfl) dX10_passDay_21 ?_
    refine x_istore_n o dX10_passDay_24 (by decide) rfl [(1, .int c_7), (0, .ref (ka k a0))] rfl ?_
    refine x_iload_n o dX10_passDay_25 0 rfl rfl ?_
    refine x_aload_n o dX10_passDay_26 1 rfl rfl ?_
    refine x_iconst (v := 1) o dX10_passDay_27 (by decide) ?_
    obtain ⟨c_9, h_10, ec_9, hf⟩ := bq_ex hf
    refine vRX10_83 [.int 1] [.int c_7] o (C_X10_work o.1.2.2.2.2.2.2.1 o.2 F ec_9) (by decide) k_1 rfl rfl (Nat.le_of_ble_eq_true rfl) dX10_passDay_28 ?_
    refine x_iadd o dX10_passDay_31 ?_
    obtain ⟨x1_11, ex1_11, hf⟩ := bd_ex hf
    refine x_top ex1_11 ?_
    refine x_istore_n o dX10_passDay_32 (by decide) rfl [(1, .int x1_11), (0, .ref (ka k a0))] rfl ?_
    refine x_aload_n o dX10_passDay_33 1 rfl rfl ?_
    obtain ⟨h_13, eh_13, hf⟩ := ob_ex hf
    refine vRX10_86 [] [] o (C_X10_fall o.1.2.2.2.2.2.2.1 o.2 F eh_13) (by decide) k_1 rfl rfl (Nat.le_of_ble_eq_true rfl) dX10_passDay_34 ?_
    refine x_aload_n o dX10_passDay_37 1 rfl rfl ?_
    obtain ⟨j_14, ej_14, hf⟩ := ob_ex hf
    refine gRX10_24 o k_1 ej_14 dX10_passDay_38 ?_
    refine x_dup o dX10_passDay_41 rfl ?_
    obtain ⟨k_15, hf⟩ := gq_ex hf
    refine gRX10_77 o k_15 dX10_passDay_42 ?_
    refine x_iconst (v := 1) o dX10_passDay_45 (by decide) ?_
    refine x_iadd o dX10_passDay_46 ?_
    obtain ⟨h_16, eh_16, hf⟩ := bd_ex hf
    refine pRX10_77 o k_15 eh_16 dX10_passDay_47 ?_
    refine x_iload_n o dX10_passDay_50 0 rfl rfl ?_
    cases hf
    exact hr _ _ dX10_passDay_51
  · replace hf := (if_neg q_4).symm.trans hf
    refine x_iconst (v := 0) o dX10_passDay_13 (by decide) ?_
    cases hf
    exact hr _ _ dX10_passDay_14
theorem C_X10_passDay {k : Kst} (hj : Dj k) (hn : kn k = kdl.length) (F : Nat) {h : Hp} {a0 : Nat} {r : Int32} {h1 : Hp} (hf : X10_passDay F a0 h = some (r, h1)) : MI k 8 yX10_passDay cX10_passDay 2 (some .int) [.ref (ka k a0)] h r h1 := mI hj hn (by decide +kernel) (Nat.le_of_ble_eq_true rfl) (fun d o hr => S_X10_passDay_0 o F hf hr)
set_option maxRecDepth 100000 in
set_option maxHeartbeats 4000000 in
theorem S_X10_passDays_4 {k : Kst} {d : Kdy} (o : Ok k d cX10_passDays RX10 4 9) (F : Nat) : ∀ (f : Nat) {h : Hp} {a0 : Nat} {x1 : Int32} {x2 : Int32} {x3 : Int32} {r : Int32} {h1 : Hp}, X10_passDays_4 F f a0 x1 x2 x3 h = some (r, h1) → RI k d cX10_passDays r h1 → Wz k d h 4 [(0, .ref (ka k a0)), (1, .int x1), (2, .int x2), (3, .int x3)] [] := by
  intro f
  induction f with
  | zero =>
    intro h a0 x1 x2 x3 r h1 hf hr
    exact nomatch (show (none : Option _) = some _ from hf)
  | succ f ih =>
    intro h a0 x1 x2 x3 r h1 hf hr
    rw [X10_passDays_4] at hf
    refine x_iload_n o dX10_passDays_4 3 rfl rfl ?_
    refine x_iload_n o dX10_passDays_5 1 rfl rfl ?_
    refine x_icmp_ge o 29 dX10_passDays_6 (by decide) (fun q_1 => ?_) (fun q_1 => ?_)
    · replace hf := (if_pos q_1).symm.trans hf
      refine x_iload_n o dX10_passDays_29 2 rfl rfl ?_
      cases hf
      exact hr _ _ dX10_passDays_30
    · replace hf := (if_neg q_1).symm.trans hf
      refine x_iload_n o dX10_passDays_9 3 rfl rfl ?_
      refine x_sipush (v := 240) o dX10_passDays_10 (by decide) ?_
      refine x_icmp_ge o 29 dX10_passDays_13 (by decide) (fun q_2 => ?_) (fun q_2 => ?_)
      · replace hf := (if_pos q_2).symm.trans hf
        refine x_iload_n o dX10_passDays_29 2 rfl rfl ?_
        cases hf
        exact hr _ _ dX10_passDays_30
      · replace hf := (if_neg q_2).symm.trans hf
        refine x_iload_n o dX10_passDays_16 2 rfl rfl ?_
        refine x_aload_n o dX10_passDays_17 0 rfl rfl ?_
        obtain ⟨k_3, hf⟩ := gq_ex hf
        obtain ⟨c_4, h_5, ec_4, hf⟩ := bq_ex hf
        refine vRX10_73 [] [.int x2] o (C_X10_passDay o.1.2.2.2.2.2.2.1 o.2 F ec_4) (by decide) k_3 rfl rfl (Nat.le_of_ble_eq_true rfl) dX10_passDays_18 ?_
        refine x_iadd o dX10_passDays_21 ?_
        obtain ⟨x2_6, ex2_6, hf⟩ := bd_ex hf
        refine x_top ex2_6 ?_
        refine x_istore_n o dX10_passDays_22 (by decide) rfl [(2, .int x2_6), (0, .ref (ka k a0)), (1, .int x1), (3, .int x3)] rfl ?_
        obtain ⟨x3_7, ex3_7, hf⟩ := bd_ex hf
        refine x_iinc o dX10_passDays_23 (by decide) 3 rfl ex3_7.symm [(3, .int x3_7), (2, .int x2_6), (0, .ref (ka k a0)), (1, .int x1)] rfl ?_
        refine x_goto o 4 dX10_passDays_26 (by decide) ?_
        refine x_sub [2, 3, 1, 0] [(0, .ref (ka k a0)), (1, .int x1), (2, .int x2_6), (3, .int x3_7)] rfl ?_
        exact ih hf hr
set_option maxRecDepth 100000 in
set_option maxHeartbeats 4000000 in
theorem S_X10_passDays_0 {k : Kst} {d : Kdy} (o : Ok k d cX10_passDays RX10 4 9) (F : Nat) {h : Hp} {a0 : Nat} {x1 : Int32} {r : Int32} {h1 : Hp} (hf : X10_passDays F a0 x1 h = some (r, h1)) (hr : RI k d cX10_passDays r h1) : Wz k d h 0 [(0, .ref (ka k a0)), (1, .int x1)] [] := by
  unfold X10_passDays at hf
  refine x_iconst (v := 0) o dX10_passDays_0 (by decide) ?_
  refine x_istore_n o dX10_passDays_1 (by decide) rfl [(2, .int 0), (0, .ref (ka k a0)), (1, .int x1)] rfl ?_
  refine x_iconst (v := 0) o dX10_passDays_2 (by decide) ?_
  refine x_istore_n o dX10_passDays_3 (by decide) rfl [(3, .int 0), (2, .int 0), (0, .ref (ka k a0)), (1, .int x1)] rfl ?_
  refine x_sub [2, 3, 1, 0] [(0, .ref (ka k a0)), (1, .int x1), (2, .int 0), (3, .int 0)] rfl ?_
  exact S_X10_passDays_4 o F _ hf hr
theorem C_X10_passDays {k : Kst} (hj : Dj k) (hn : kn k = kdl.length) (F : Nat) {h : Hp} {a0 : Nat} {x1 : Int32} {r : Int32} {h1 : Hp} (hf : X10_passDays F a0 x1 h = some (r, h1)) : MI k 9 yX10_passDays cX10_passDays 4 (some .int) [.ref (ka k a0), .int x1] h r h1 := mI hj hn (by decide +kernel) (Nat.le_of_ble_eq_true rfl) (fun d o hr => S_X10_passDays_0 o F hf hr)
set_option maxRecDepth 100000 in
set_option maxHeartbeats 4000000 in
theorem S_X10_daysTillBank_2 {k : Kst} {d : Kdy} (o : Ok k d cX10_daysTillBank RX10 3 9) (F : Nat) : ∀ (f : Nat) {h : Hp} {a0 : Nat} {x1 : Int32} {x2 : Int32} {r : Int32} {h1 : Hp}, X10_daysTillBank_2 F f a0 x1 x2 h = some (r, h1) → RI k d cX10_daysTillBank r h1 → Wz k d h 2 [(0, .ref (ka k a0)), (1, .int x1), (2, .int x2)] [] := by
  intro f
  induction f with
  | zero =>
    intro h a0 x1 x2 r h1 hf hr
    exact nomatch (show (none : Option _) = some _ from hf)
  | succ f ih =>
    intro h a0 x1 x2 r h1 hf hr
    rw [X10_daysTillBank_2] at hf
    refine x_iload_n o dX10_daysTillBank_2 2 rfl rfl ?_
    refine x_iload_n o dX10_daysTillBank_3 1 rfl rfl ?_
    refine x_icmp_gt o 43 dX10_daysTillBank_4 (by decide) (fun q_1 => ?_) (fun q_1 => ?_)
    · replace hf := (if_pos q_1).symm.trans hf
      refine x_bipush (v := (-2)) o dX10_daysTillBank_43 (by decide) ?_
      cases hf
      exact hr _ _ dX10_daysTillBank_45
    · replace hf := (if_neg q_1).symm.trans hf
      refine x_iload_n o dX10_daysTillBank_7 2 rfl rfl ?_
      refine x_sipush (v := 240) o dX10_daysTillBank_8 (by decide) ?_
      refine x_icmp_gt o 43 dX10_daysTillBank_11 (by decide) (fun q_2 => ?_) (fun q_2 => ?_)
      · replace hf := (if_pos q_2).symm.trans hf
        refine x_bipush (v := (-2)) o dX10_daysTillBank_43 (by decide) ?_
        cases hf
        exact hr _ _ dX10_daysTillBank_45
      · replace hf := (if_neg q_2).symm.trans hf
        refine x_aload_n o dX10_daysTillBank_14 0 rfl rfl ?_
        refine x_iconst (v := 0) o dX10_daysTillBank_15 (by decide) ?_
        obtain ⟨k_3, hf⟩ := gq_ex hf
        obtain ⟨c_4, ec_4, hf⟩ := ob_ex hf
        refine vRX10_110 [.int 0] [] o (C_X10_reached o.1.2.2.2.2.2.2.1 o.2 F ec_4) (by decide) k_3 rfl rfl (Nat.le_of_ble_eq_true rfl) dX10_daysTillBank_16 ?_
        refine x_if_ne o 30 dX10_daysTillBank_19 (by decide) (fun q_6 => ?_) (fun q_6 => ?_)
        · replace hf := (if_neg q_6).symm.trans hf
          refine x_iload_n o dX10_daysTillBank_30 2 rfl rfl ?_
          cases hf
          exact hr _ _ dX10_daysTillBank_31
        · replace hf := (if_pos q_6).symm.trans hf
          refine x_aload_n o dX10_daysTillBank_22 0 rfl rfl ?_
          refine x_iconst (v := 1) o dX10_daysTillBank_23 (by decide) ?_
          obtain ⟨c_7, ec_7, hf⟩ := ob_ex hf
          refine vRX10_110 [.int 1] [] o (C_X10_reached o.1.2.2.2.2.2.2.1 o.2 F ec_7) (by decide) k_3 rfl rfl (Nat.le_of_ble_eq_true rfl) dX10_daysTillBank_24 ?_
          refine x_if_eq o 32 dX10_daysTillBank_27 (by decide) (fun q_9 => ?_) (fun q_9 => ?_)
          · replace hf := (if_pos q_9).symm.trans hf
            refine x_aload_n o dX10_daysTillBank_32 0 rfl rfl ?_
            obtain ⟨c_10, h_11, ec_10, hf⟩ := bq_ex hf
            refine vRX10_73 [] [] o (C_X10_passDay o.1.2.2.2.2.2.2.1 o.2 F ec_10) (by decide) k_3 rfl rfl (Nat.le_of_ble_eq_true rfl) dX10_daysTillBank_33 ?_
            refine x_pop o dX10_daysTillBank_36 rfl ?_
            obtain ⟨x2_12, ex2_12, hf⟩ := bd_ex hf
            refine x_iinc o dX10_daysTillBank_37 (by decide) 2 rfl ex2_12.symm [(2, .int x2_12), (0, .ref (ka k a0)), (1, .int x1)] rfl ?_
            refine x_goto o 2 dX10_daysTillBank_40 (by decide) ?_
            refine x_sub [1, 2, 0] [(0, .ref (ka k a0)), (1, .int x1), (2, .int x2_12)] rfl ?_
            exact ih hf hr
          · replace hf := (if_neg q_9).symm.trans hf
            refine x_iload_n o dX10_daysTillBank_30 2 rfl rfl ?_
            cases hf
            exact hr _ _ dX10_daysTillBank_31
set_option maxRecDepth 100000 in
set_option maxHeartbeats 4000000 in
theorem S_X10_daysTillBank_0 {k : Kst} {d : Kdy} (o : Ok k d cX10_daysTillBank RX10 3 9) (F : Nat) {h : Hp} {a0 : Nat} {x1 : Int32} {r : Int32} {h1 : Hp} (hf : X10_daysTillBank F a0 x1 h = some (r, h1)) (hr : RI k d cX10_daysTillBank r h1) : Wz k d h 0 [(0, .ref (ka k a0)), (1, .int x1)] [] := by
  unfold X10_daysTillBank at hf
  refine x_iconst (v := 0) o dX10_daysTillBank_0 (by decide) ?_
  refine x_istore_n o dX10_daysTillBank_1 (by decide) rfl [(2, .int 0), (0, .ref (ka k a0)), (1, .int x1)] rfl ?_
  refine x_sub [1, 2, 0] [(0, .ref (ka k a0)), (1, .int x1), (2, .int 0)] rfl ?_
  exact S_X10_daysTillBank_2 o F _ hf hr
theorem C_X10_daysTillBank {k : Kst} (hj : Dj k) (hn : kn k = kdl.length) (F : Nat) {h : Hp} {a0 : Nat} {x1 : Int32} {r : Int32} {h1 : Hp} (hf : X10_daysTillBank F a0 x1 h = some (r, h1)) : MI k 9 yX10_daysTillBank cX10_daysTillBank 3 (some .int) [.ref (ka k a0), .int x1] h r h1 := mI hj hn (by decide +kernel) (Nat.le_of_ble_eq_true rfl) (fun d o hr => S_X10_daysTillBank_0 o F hf hr)
set_option maxRecDepth 100000 in
set_option maxHeartbeats 4000000 in
theorem S_X10_sideAtBank_18 {k : Kst} {d : Kdy} (o : Ok k d cX10_sideAtBank RX10 1 6) (F : Nat) {h : Hp} {a0 : Nat} {r : Int32} (hf : X10_sideAtBank_18 F a0 h = some r) (hr : RI k d cX10_sideAtBank r h) : Wz k d h 18 [(0, .ref (ka k a0))] [] := by
  unfold X10_sideAtBank_18 at hf
  refine x_aload_n o dX10_sideAtBank_18 0 rfl rfl ?_
  refine x_iconst (v := 0) o dX10_sideAtBank_19 (by decide) ?_
  obtain ⟨k_1, hf⟩ := gq_ex hf
  obtain ⟨c_2, ec_2, hf⟩ := ob_ex hf
  refine vRX10_110 [.int 0] [] o (C_X10_reached o.1.2.2.2.2.2.2.1 o.2 F ec_2) (by decide) k_1 rfl rfl (Nat.le_of_ble_eq_true rfl) dX10_sideAtBank_20 ?_
  refine x_if_eq o 30 dX10_sideAtBank_23 (by decide) (fun q_4 => ?_) (fun q_4 => ?_)
  · replace hf := (if_pos q_4).symm.trans hf
    refine x_iconst (v := 1) o dX10_sideAtBank_30 (by decide) ?_
    cases hf
    exact hr _ _ dX10_sideAtBank_31
  · replace hf := (if_neg q_4).symm.trans hf
    refine x_iconst (v := 0) o dX10_sideAtBank_26 (by decide) ?_
    refine x_goto o 31 dX10_sideAtBank_27 (by decide) ?_
    cases hf
    exact hr _ _ dX10_sideAtBank_31
set_option maxRecDepth 100000 in
set_option maxHeartbeats 4000000 in
theorem S_X10_sideAtBank_0 {k : Kst} {d : Kdy} (o : Ok k d cX10_sideAtBank RX10 1 6) (F : Nat) {h : Hp} {a0 : Nat} {r : Int32} (hf : X10_sideAtBank F a0 h = some r) (hr : RI k d cX10_sideAtBank r h) : Wz k d h 0 [(0, .ref (ka k a0))] [] := by
  unfold X10_sideAtBank at hf
  refine x_aload_n o dX10_sideAtBank_0 0 rfl rfl ?_
  refine x_iconst (v := 0) o dX10_sideAtBank_1 (by decide) ?_
  obtain ⟨k_1, hf⟩ := gq_ex hf
  obtain ⟨c_2, ec_2, hf⟩ := ob_ex hf
  refine vRX10_110 [.int 0] [] o (C_X10_reached o.1.2.2.2.2.2.2.1 o.2 F ec_2) (by decide) k_1 rfl rfl (Nat.le_of_ble_eq_true rfl) dX10_sideAtBank_2 ?_
  refine x_if_eq o 18 dX10_sideAtBank_5 (by decide) (fun q_4 => ?_) (fun q_4 => ?_)
  · replace hf := (if_pos q_4).symm.trans hf
    refine x_sub [0] [(0, .ref (ka k a0))] rfl ?_
    exact S_X10_sideAtBank_18 o F hf hr
  · replace hf := (if_neg q_4).symm.trans hf
    refine x_aload_n o dX10_sideAtBank_8 0 rfl rfl ?_
    refine x_iconst (v := 1) o dX10_sideAtBank_9 (by decide) ?_
    obtain ⟨c_5, ec_5, hf⟩ := ob_ex hf
    refine vRX10_110 [.int 1] [] o (C_X10_reached o.1.2.2.2.2.2.2.1 o.2 F ec_5) (by decide) k_1 rfl rfl (Nat.le_of_ble_eq_true rfl) dX10_sideAtBank_10 ?_
    refine x_if_eq o 18 dX10_sideAtBank_13 (by decide) (fun q_7 => ?_) (fun q_7 => ?_)
    · replace hf := (if_pos q_7).symm.trans hf
      refine x_sub [0] [(0, .ref (ka k a0))] rfl ?_
      exact S_X10_sideAtBank_18 o F hf hr
    · replace hf := (if_neg q_7).symm.trans hf
      refine x_iconst (v := 2) o dX10_sideAtBank_16 (by decide) ?_
      cases hf
      exact hr _ _ dX10_sideAtBank_17
theorem C_X10_sideAtBank {k : Kst} (hj : Dj k) (hn : kn k = kdl.length) (F : Nat) {h : Hp} {a0 : Nat} {r : Int32} (hf : X10_sideAtBank F a0 h = some r) : MI k 6 yX10_sideAtBank cX10_sideAtBank 1 (some .int) [.ref (ka k a0)] h r h := mI hj hn (by decide +kernel) (Nat.le_of_ble_eq_true rfl) (fun d o hr => S_X10_sideAtBank_0 o F hf hr)
set_option maxRecDepth 100000 in
set_option maxHeartbeats 4000000 in
theorem S_X10_mostAhead_4 {k : Kst} {d : Kdy} (o : Ok k d cX10_mostAhead RX10 4 9) (F : Nat) : ∀ (f : Nat) {h : Hp} {a0 : Nat} {x1 : Int32} {x2 : Int32} {x3 : Int32} {r : Int32} {h1 : Hp}, X10_mostAhead_4 F f a0 x1 x2 x3 h = some (r, h1) → RI k d cX10_mostAhead r h1 → Wz k d h 4 [(0, .ref (ka k a0)), (1, .int x1), (2, .int x2), (3, .int x3)] [] := by
  intro f
  induction f with
  | zero =>
    intro h a0 x1 x2 x3 r h1 hf hr
    exact nomatch (show (none : Option _) = some _ from hf)
  | succ f ih =>
    intro h a0 x1 x2 x3 r h1 hf hr
    rw [X10_mostAhead_4] at hf
    refine x_iload_n o dX10_mostAhead_4 3 rfl rfl ?_
    refine x_iload_n o dX10_mostAhead_5 1 rfl rfl ?_
    refine x_icmp_gt o 46 dX10_mostAhead_6 (by decide) (fun q_1 => ?_) (fun q_1 => ?_)
    · replace hf := (if_pos q_1).symm.trans hf
      refine x_iload_n o dX10_mostAhead_46 2 rfl rfl ?_
      cases hf
      exact hr _ _ dX10_mostAhead_47
    · replace hf := (if_neg q_1).symm.trans hf
      refine x_iload_n o dX10_mostAhead_9 3 rfl rfl ?_
      refine x_sipush (v := 240) o dX10_mostAhead_10 (by decide) ?_
      refine x_icmp_gt o 46 dX10_mostAhead_13 (by decide) (fun q_2 => ?_) (fun q_2 => ?_)
      · replace hf := (if_pos q_2).symm.trans hf
        refine x_iload_n o dX10_mostAhead_46 2 rfl rfl ?_
        cases hf
        exact hr _ _ dX10_mostAhead_47
      · replace hf := (if_neg q_2).symm.trans hf
        refine x_iload_n o dX10_mostAhead_16 2 rfl rfl ?_
        refine x_aload_n o dX10_mostAhead_17 0 rfl rfl ?_
        refine x_iconst (v := 0) o dX10_mostAhead_18 (by decide) ?_
        obtain ⟨k_3, hf⟩ := gq_ex hf
        obtain ⟨c_4, ec_4, hf⟩ := ob_ex hf
        refine vRX10_60 [.int 0] [.int x2] o (C_X10_standing o.1.2.2.2.2.2.2.1 o.2 F ec_4) (by decide) k_3 rfl rfl (Nat.le_of_ble_eq_true rfl) dX10_mostAhead_19 ?_
        refine x_aload_n o dX10_mostAhead_22 0 rfl rfl ?_
        refine x_iconst (v := 1) o dX10_mostAhead_23 (by decide) ?_
        obtain ⟨c_6, ec_6, hf⟩ := ob_ex hf
        refine vRX10_60 [.int 1] [.int c_4, .int x2] o (C_X10_standing o.1.2.2.2.2.2.2.1 o.2 F ec_6) (by decide) k_3 rfl rfl (Nat.le_of_ble_eq_true rfl) dX10_mostAhead_24 ?_
        refine x_isub o dX10_mostAhead_27 ?_
        refine x_mabs o wRX10_145 (by decide) (Nat.le_of_ble_eq_true rfl) dX10_mostAhead_28 ?_
        refine x_mmax o wRX10_132 (by decide) (Nat.le_of_ble_eq_true rfl) dX10_mostAhead_31 ?_
        obtain ⟨x2_8, ex2_8, hf⟩ := bd_ex hf
        refine x_top ex2_8 ?_
        refine x_istore_n o dX10_mostAhead_34 (by decide) rfl [(2, .int x2_8), (0, .ref (ka k a0)), (1, .int x1), (3, .int x3)] rfl ?_
        refine x_aload_n o dX10_mostAhead_35 1 rfl rfl ?_
        obtain ⟨c_9, h_10, ec_9, hf⟩ := bq_ex hf
        refine vRX10_73 [] [] o (C_X10_passDay o.1.2.2.2.2.2.2.1 o.2 F ec_9) (by decide) k_3 rfl rfl (Nat.le_of_ble_eq_true rfl) dX10_mostAhead_36 ?_
        refine x_pop o dX10_mostAhead_39 rfl ?_
        obtain ⟨x3_11, ex3_11, hf⟩ := bd_ex hf
        refine x_iinc o dX10_mostAhead_40 (by decide) 3 rfl ex3_11.symm [(3, .int x3_11), (2, .int x2_8), (0, .ref (ka k a0)), (1, .int x1)] rfl ?_
        refine x_goto o 4 dX10_mostAhead_43 (by decide) ?_
        refine x_sub [2, 3, 1, 0] [(0, .ref (ka k a0)), (1, .int x1), (2, .int x2_8), (3, .int x3_11)] rfl ?_
        exact ih hf hr
set_option maxRecDepth 100000 in
set_option maxHeartbeats 4000000 in
theorem S_X10_mostAhead_0 {k : Kst} {d : Kdy} (o : Ok k d cX10_mostAhead RX10 4 9) (F : Nat) {h : Hp} {a0 : Nat} {x1 : Int32} {r : Int32} {h1 : Hp} (hf : X10_mostAhead F a0 x1 h = some (r, h1)) (hr : RI k d cX10_mostAhead r h1) : Wz k d h 0 [(0, .ref (ka k a0)), (1, .int x1)] [] := by
  unfold X10_mostAhead at hf
  refine x_iconst (v := 0) o dX10_mostAhead_0 (by decide) ?_
  refine x_istore_n o dX10_mostAhead_1 (by decide) rfl [(2, .int 0), (0, .ref (ka k a0)), (1, .int x1)] rfl ?_
  refine x_iconst (v := 0) o dX10_mostAhead_2 (by decide) ?_
  refine x_istore_n o dX10_mostAhead_3 (by decide) rfl [(3, .int 0), (2, .int 0), (0, .ref (ka k a0)), (1, .int x1)] rfl ?_
  refine x_sub [2, 3, 1, 0] [(0, .ref (ka k a0)), (1, .int x1), (2, .int 0), (3, .int 0)] rfl ?_
  exact S_X10_mostAhead_4 o F _ hf hr
theorem C_X10_mostAhead {k : Kst} (hj : Dj k) (hn : kn k = kdl.length) (F : Nat) {h : Hp} {a0 : Nat} {x1 : Int32} {r : Int32} {h1 : Hp} (hf : X10_mostAhead F a0 x1 h = some (r, h1)) : MI k 9 yX10_mostAhead cX10_mostAhead 4 (some .int) [.ref (ka k a0), .int x1] h r h1 := mI hj hn (by decide +kernel) (Nat.le_of_ble_eq_true rfl) (fun d o hr => S_X10_mostAhead_0 o F hf hr)
set_option maxRecDepth 100000 in
set_option maxHeartbeats 4000000 in
theorem S_X10_daysTillDebt_2 {k : Kst} {d : Kdy} (o : Ok k d cX10_daysTillDebt RX10 4 9) (F : Nat) : ∀ (f : Nat) {h : Hp} {a0 : Nat} {x1 : Int32} {x2 : Int32} {x3 : Int32} {r : Int32} {h1 : Hp}, X10_daysTillDebt_2 F f a0 x1 x2 x3 h = some (r, h1) → RI k d cX10_daysTillDebt r h1 → Wz k d h 2 [(0, .ref (ka k a0)), (1, .int x1), (2, .int x2), (3, .int x3)] [] := by
  intro f
  induction f with
  | zero =>
    intro h a0 x1 x2 x3 r h1 hf hr
    exact nomatch (show (none : Option _) = some _ from hf)
  | succ f ih =>
    intro h a0 x1 x2 x3 r h1 hf hr
    rw [X10_daysTillDebt_2] at hf
    refine x_iload_n o dX10_daysTillDebt_2 3 rfl rfl ?_
    refine x_iload_n o dX10_daysTillDebt_3 1 rfl rfl ?_
    refine x_icmp_gt o 38 dX10_daysTillDebt_4 (by decide) (fun q_1 => ?_) (fun q_1 => ?_)
    · replace hf := (if_pos q_1).symm.trans hf
      refine x_bipush (v := (-2)) o dX10_daysTillDebt_38 (by decide) ?_
      cases hf
      exact hr _ _ dX10_daysTillDebt_40
    · replace hf := (if_neg q_1).symm.trans hf
      refine x_iload_n o dX10_daysTillDebt_7 3 rfl rfl ?_
      refine x_sipush (v := 240) o dX10_daysTillDebt_8 (by decide) ?_
      refine x_icmp_gt o 38 dX10_daysTillDebt_11 (by decide) (fun q_2 => ?_) (fun q_2 => ?_)
      · replace hf := (if_pos q_2).symm.trans hf
        refine x_bipush (v := (-2)) o dX10_daysTillDebt_38 (by decide) ?_
        cases hf
        exact hr _ _ dX10_daysTillDebt_40
      · replace hf := (if_neg q_2).symm.trans hf
        refine x_aload_n o dX10_daysTillDebt_14 0 rfl rfl ?_
        obtain ⟨k_3, hf⟩ := gq_ex hf
        obtain ⟨j_4, ej_4, hf⟩ := ob_ex hf
        refine gRX10_24 o k_3 ej_4 dX10_daysTillDebt_15 ?_
        obtain ⟨k_5, hf⟩ := gq_ex hf
        refine gRX10_154 o k_5 dX10_daysTillDebt_18 ?_
        refine x_iload_n o dX10_daysTillDebt_21 2 rfl rfl ?_
        refine x_icmp_le o 27 dX10_daysTillDebt_22 (by decide) (fun q_6 => ?_) (fun q_6 => ?_)
        · replace hf := (if_pos q_6).symm.trans hf
          refine x_aload_n o dX10_daysTillDebt_27 0 rfl rfl ?_
          obtain ⟨c_7, h_8, ec_7, hf⟩ := bq_ex hf
          refine vRX10_73 [] [] o (C_X10_passDay o.1.2.2.2.2.2.2.1 o.2 F ec_7) (by decide) k_3 rfl rfl (Nat.le_of_ble_eq_true rfl) dX10_daysTillDebt_28 ?_
          refine x_pop o dX10_daysTillDebt_31 rfl ?_
          obtain ⟨x3_9, ex3_9, hf⟩ := bd_ex hf
          refine x_iinc o dX10_daysTillDebt_32 (by decide) 3 rfl ex3_9.symm [(3, .int x3_9), (0, .ref (ka k a0)), (1, .int x1), (2, .int x2)] rfl ?_
          refine x_goto o 2 dX10_daysTillDebt_35 (by decide) ?_
          refine x_sub [1, 2, 3, 0] [(0, .ref (ka k a0)), (1, .int x1), (2, .int x2), (3, .int x3_9)] rfl ?_
          exact ih hf hr
        · replace hf := (if_neg q_6).symm.trans hf
          refine x_iload_n o dX10_daysTillDebt_25 3 rfl rfl ?_
          cases hf
          exact hr _ _ dX10_daysTillDebt_26
set_option maxRecDepth 100000 in
set_option maxHeartbeats 4000000 in
theorem S_X10_daysTillDebt_0 {k : Kst} {d : Kdy} (o : Ok k d cX10_daysTillDebt RX10 4 9) (F : Nat) {h : Hp} {a0 : Nat} {x1 : Int32} {x2 : Int32} {r : Int32} {h1 : Hp} (hf : X10_daysTillDebt F a0 x1 x2 h = some (r, h1)) (hr : RI k d cX10_daysTillDebt r h1) : Wz k d h 0 [(0, .ref (ka k a0)), (1, .int x1), (2, .int x2)] [] := by
  unfold X10_daysTillDebt at hf
  refine x_iconst (v := 0) o dX10_daysTillDebt_0 (by decide) ?_
  refine x_istore_n o dX10_daysTillDebt_1 (by decide) rfl [(3, .int 0), (0, .ref (ka k a0)), (1, .int x1), (2, .int x2)] rfl ?_
  refine x_sub [1, 2, 3, 0] [(0, .ref (ka k a0)), (1, .int x1), (2, .int x2), (3, .int 0)] rfl ?_
  exact S_X10_daysTillDebt_2 o F _ hf hr
theorem C_X10_daysTillDebt {k : Kst} (hj : Dj k) (hn : kn k = kdl.length) (F : Nat) {h : Hp} {a0 : Nat} {x1 : Int32} {x2 : Int32} {r : Int32} {h1 : Hp} (hf : X10_daysTillDebt F a0 x1 x2 h = some (r, h1)) : MI k 9 yX10_daysTillDebt cX10_daysTillDebt 4 (some .int) [.ref (ka k a0), .int x1, .int x2] h r h1 := mI hj hn (by decide +kernel) (Nat.le_of_ble_eq_true rfl) (fun d o hr => S_X10_daysTillDebt_0 o F hf hr)
set_option maxRecDepth 100000 in
set_option maxHeartbeats 4000000 in
theorem S_X11_tilt_0 {k : Kst} {d : Kdy} (o : Ok k d cX11_tilt RX11 2 4) (F : Nat) {h : Hp} {a0 : Nat} {x1 : Int32} {r : Int32} {h1 : Hp} (hf : X11_tilt F a0 x1 h = some (r, h1)) (hr : RZ k d cX11_tilt r h1) : Wz k d h 0 [(0, .ref (ka k a0)), (1, .int x1)] [] := by
  unfold X11_tilt at hf
  refine x_iload_n o dX11_tilt_0 1 rfl rfl ?_
  refine x_iconst (v := 0) o dX11_tilt_1 (by decide) ?_
  refine x_ldc (v := 99999) o dX11_tilt_2 wRX11_80 ?_
  obtain ⟨c_1, ec_1, hf⟩ := ob_ex hf
  refine vRX11_81 [.int x1, .int 0, .int 99999] [] o (C_X11_within o.1.2.2.2.2.2.2.1 o.2 F ec_1) (by decide) rfl rfl (Nat.le_of_ble_eq_true rfl) dX11_tilt_4 ?_
  refine x_if_ne o 12 dX11_tilt_7 (by decide) (fun q_3 => ?_) (fun q_3 => ?_)
  · replace hf := (if_neg q_3).symm.trans hf
    refine x_aload_n o dX11_tilt_12 0 rfl rfl ?_
    obtain ⟨k_4, hf⟩ := gq_ex hf
    obtain ⟨j_5, ej_5, hf⟩ := ob_ex hf
    refine gRX11_44 o k_4 ej_5 dX11_tilt_13 ?_
    refine x_iload_n o dX11_tilt_16 1 rfl rfl ?_
    obtain ⟨k_6, hf⟩ := gq_ex hf
    obtain ⟨h_7, eh_7, hf⟩ := bd_ex hf
    refine pRX11_85 o k_6 eh_7 dX11_tilt_17 ?_
    refine x_iconst (v := 1) o dX11_tilt_20 (by decide) ?_
    cases hf
    exact hr (Or.inr rfl) _ _ dX11_tilt_21
  · replace hf := (if_pos q_3).symm.trans hf
    refine x_iconst (v := 0) o dX11_tilt_10 (by decide) ?_
    cases hf
    exact hr (Or.inl rfl) _ _ dX11_tilt_11
theorem C_X11_tilt {k : Kst} (hj : Dj k) (hn : kn k = kdl.length) (F : Nat) {h : Hp} {a0 : Nat} {x1 : Int32} {r : Int32} {h1 : Hp} (hf : X11_tilt F a0 x1 h = some (r, h1)) : MI k 4 yX11_tilt cX11_tilt 2 (some .boolean) [.ref (ka k a0), .int x1] h r h1 := mZ hj hn (by decide +kernel) (Nat.le_of_ble_eq_true rfl) (fun d o hr => S_X11_tilt_0 o F hf hr)
set_option maxRecDepth 100000 in
set_option maxHeartbeats 4000000 in
theorem S_X11_addBytes_3 {k : Kst} {d : Kdy} (o : Ok k d cX11_addBytes RX11 3 4) (F : Nat) : ∀ (f : Nat) {h : Hp} {a0 : Nat} {x1 : Int32} {x2 : Int32} {h1 : Hp}, X11_addBytes_3 F f a0 x1 x2 h = some h1 → RV k d cX11_addBytes h1 → Wz k d h 3 [(0, .ref (ka k a0)), (1, .int x1), (2, .int x2)] [] := by
  intro f
  induction f with
  | zero =>
    intro h a0 x1 x2 h1 hf hr
    exact nomatch (show (none : Option _) = some _ from hf)
  | succ f ih =>
    intro h a0 x1 x2 h1 hf hr
    rw [X11_addBytes_3] at hf
    refine x_iload_n o dX11_addBytes_3 2 rfl rfl ?_
    refine x_if_lt o 41 dX11_addBytes_4 (by decide) (fun q_1 => ?_) (fun q_1 => ?_)
    · replace hf := (if_pos q_1).symm.trans hf
      cases hf
      exact hr _ _ dX11_addBytes_41
    · replace hf := (if_neg q_1).symm.trans hf
      refine x_aload_n o dX11_addBytes_7 0 rfl rfl ?_
      obtain ⟨k_2, hf⟩ := gq_ex hf
      obtain ⟨j_3, ej_3, hf⟩ := ob_ex hf
      refine gRX11_9 o k_2 ej_3 dX11_addBytes_8 ?_
      refine x_aload_n o dX11_addBytes_11 0 rfl rfl ?_
      refine gRX11_72 o k_2 dX11_addBytes_12 ?_
      refine x_iload_n o dX11_addBytes_15 1 rfl rfl ?_
      refine x_iload_n o dX11_addBytes_16 2 rfl rfl ?_
      refine x_iushr o dX11_addBytes_17 ?_
      refine x_sipush (v := 255) o dX11_addBytes_18 (by decide) ?_
      refine x_iand o dX11_addBytes_21 ?_
      obtain ⟨h_5, eh_5, hf⟩ := ob_ex hf
      refine vRX11_283 [.ref (ka k j_3), .int (h.1 a0 1), .int ((iush x1 x2) &&& 255)] [] o (C_X11_put o.1.2.2.2.2.2.2.1 o.2 F eh_5) (by decide) rfl rfl (Nat.le_of_ble_eq_true rfl) dX11_addBytes_22 ?_
      refine x_aload_n o dX11_addBytes_25 0 rfl rfl ?_
      refine x_dup o dX11_addBytes_26 rfl ?_
      refine gRX11_72 o k_2 dX11_addBytes_27 ?_
      refine x_iconst (v := 1) o dX11_addBytes_30 (by decide) ?_
      refine x_iadd o dX11_addBytes_31 ?_
      obtain ⟨h_6, eh_6, hf⟩ := bd_ex hf
      refine pRX11_72 o k_2 eh_6 dX11_addBytes_32 ?_
      obtain ⟨x2_7, ex2_7, hf⟩ := bd_ex hf
      refine x_iinc o dX11_addBytes_35 (by decide) 2 rfl ex2_7.symm [(2, .int x2_7), (0, .ref (ka k a0)), (1, .int x1)] rfl ?_
      refine x_goto o 3 dX11_addBytes_38 (by decide) ?_
      refine x_sub [1, 2, 0] [(0, .ref (ka k a0)), (1, .int x1), (2, .int x2_7)] rfl ?_
      exact ih hf hr
set_option maxRecDepth 100000 in
set_option maxHeartbeats 4000000 in
theorem S_X11_addBytes_0 {k : Kst} {d : Kdy} (o : Ok k d cX11_addBytes RX11 3 4) (F : Nat) {h : Hp} {a0 : Nat} {x1 : Int32} {h1 : Hp} (hf : X11_addBytes F a0 x1 h = some h1) (hr : RV k d cX11_addBytes h1) : Wz k d h 0 [(0, .ref (ka k a0)), (1, .int x1)] [] := by
  unfold X11_addBytes at hf
  refine x_bipush (v := 24) o dX11_addBytes_0 (by decide) ?_
  refine x_istore_n o dX11_addBytes_2 (by decide) rfl [(2, .int 24), (0, .ref (ka k a0)), (1, .int x1)] rfl ?_
  refine x_sub [1, 2, 0] [(0, .ref (ka k a0)), (1, .int x1), (2, .int 24)] rfl ?_
  exact S_X11_addBytes_3 o F _ hf hr
theorem C_X11_addBytes {k : Kst} (hj : Dj k) (hn : kn k = kdl.length) (F : Nat) {h : Hp} {a0 : Nat} {x1 : Int32} {h1 : Hp} (hf : X11_addBytes F a0 x1 h = some h1) : MV k 4 yX11_addBytes cX11_addBytes 3 [.ref (ka k a0), .int x1] h h1 := mV hj hn (by decide +kernel) (Nat.le_of_ble_eq_true rfl) (fun d o hr => S_X11_addBytes_0 o F hf hr)
set_option maxRecDepth 100000 in
set_option maxHeartbeats 4000000 in
theorem S_X11_feed_0 {k : Kst} {d : Kdy} (o : Ok k d cX11_feed RX11 6 5) (F : Nat) {h : Hp} {a0 : Nat} {x1 : Int32} {x2 : Int32} {x3 : Int32} {x4 : Int32} {x5 : Int32} {r : Int32} {h1 : Hp} (hf : X11_feed F a0 x1 x2 x3 x4 x5 h = some (r, h1)) (hr : RI k d cX11_feed r h1) : Wz k d h 0 [(0, .ref (ka k a0)), (1, .int x1), (2, .int x2), (3, .int x3), (4, .int x4), (5, .int x5)] [] := by
  unfold X11_feed at hf
  refine x_aload_n o dX11_feed_0 0 rfl rfl ?_
  obtain ⟨k_1, hf⟩ := gq_ex hf
  refine gRX11_72 o k_1 dX11_feed_1 ?_
  refine x_bipush (v := 20) o dX11_feed_4 (by decide) ?_
  refine x_iadd o dX11_feed_6 ?_
  refine x_sipush (v := 260) o dX11_feed_7 (by decide) ?_
  refine x_icmp_le o 15 dX11_feed_10 (by decide) (fun q_2 => ?_) (fun q_2 => ?_)
  · replace hf := (if_pos q_2).symm.trans hf
    refine x_aload_n o dX11_feed_15 0 rfl rfl ?_
    refine x_iload_n o dX11_feed_16 1 rfl rfl ?_
    obtain ⟨h_4, eh_4, hf⟩ := ob_ex hf
    refine vRX11_88 [.int x1] [] o (C_X11_addBytes o.1.2.2.2.2.2.2.1 o.2 F eh_4) (by decide) k_1 rfl rfl (Nat.le_of_ble_eq_true rfl) dX11_feed_17 ?_
    refine x_aload_n o dX11_feed_20 0 rfl rfl ?_
    refine x_iload_n o dX11_feed_21 2 rfl rfl ?_
    obtain ⟨h_6, eh_6, hf⟩ := ob_ex hf
    refine vRX11_88 [.int x2] [] o (C_X11_addBytes o.1.2.2.2.2.2.2.1 o.2 F eh_6) (by decide) k_1 rfl rfl (Nat.le_of_ble_eq_true rfl) dX11_feed_22 ?_
    refine x_aload_n o dX11_feed_25 0 rfl rfl ?_
    refine x_iload_n o dX11_feed_26 3 rfl rfl ?_
    obtain ⟨h_8, eh_8, hf⟩ := ob_ex hf
    refine vRX11_88 [.int x3] [] o (C_X11_addBytes o.1.2.2.2.2.2.2.1 o.2 F eh_8) (by decide) k_1 rfl rfl (Nat.le_of_ble_eq_true rfl) dX11_feed_27 ?_
    refine x_aload_n o dX11_feed_30 0 rfl rfl ?_
    refine x_iload o dX11_feed_31 4 rfl ?_
    obtain ⟨h_10, eh_10, hf⟩ := ob_ex hf
    refine vRX11_88 [.int x4] [] o (C_X11_addBytes o.1.2.2.2.2.2.2.1 o.2 F eh_10) (by decide) k_1 rfl rfl (Nat.le_of_ble_eq_true rfl) dX11_feed_33 ?_
    refine x_aload_n o dX11_feed_36 0 rfl rfl ?_
    refine x_iload o dX11_feed_37 5 rfl ?_
    obtain ⟨h_12, eh_12, hf⟩ := ob_ex hf
    refine vRX11_88 [.int x5] [] o (C_X11_addBytes o.1.2.2.2.2.2.2.1 o.2 F eh_12) (by decide) k_1 rfl rfl (Nat.le_of_ble_eq_true rfl) dX11_feed_39 ?_
    refine x_aload_n o dX11_feed_42 0 rfl rfl ?_
    refine gRX11_72 o k_1 dX11_feed_43 ?_
    cases hf
    exact hr _ _ dX11_feed_46
  · replace hf := (if_neg q_2).symm.trans hf
    refine x_iconst (v := (-1)) o dX11_feed_13 (by decide) ?_
    cases hf
    exact hr _ _ dX11_feed_14
theorem C_X11_feed {k : Kst} (hj : Dj k) (hn : kn k = kdl.length) (F : Nat) {h : Hp} {a0 : Nat} {x1 : Int32} {x2 : Int32} {x3 : Int32} {x4 : Int32} {x5 : Int32} {r : Int32} {h1 : Hp} (hf : X11_feed F a0 x1 x2 x3 x4 x5 h = some (r, h1)) : MI k 5 yX11_feed cX11_feed 6 (some .int) [.ref (ka k a0), .int x1, .int x2, .int x3, .int x4, .int x5] h r h1 := mI hj hn (by decide +kernel) (Nat.le_of_ble_eq_true rfl) (fun d o hr => S_X11_feed_0 o F hf hr)
set_option maxRecDepth 100000 in
set_option maxHeartbeats 4000000 in
theorem S_X11_take_0 {k : Kst} {d : Kdy} (o : Ok k d cX11_take RX11 3 4) (F : Nat) {h : Hp} {a0 : Nat} {x1 : Int32} {x2 : Int32} {r : Int32} {h1 : Hp} (hf : X11_take F a0 x1 x2 h = some (r, h1)) (hr : RZ k d cX11_take r h1) : Wz k d h 0 [(0, .ref (ka k a0)), (1, .int x1), (2, .int x2)] [] := by
  unfold X11_take at hf
  refine x_iload_n o dX11_take_0 1 rfl rfl ?_
  refine x_iconst (v := 1) o dX11_take_1 (by decide) ?_
  refine x_iload_n o dX11_take_2 2 rfl rfl ?_
  obtain ⟨c_1, ec_1, hf⟩ := ob_ex hf
  refine vRX11_81 [.int x1, .int 1, .int x2] [] o (C_X11_within o.1.2.2.2.2.2.2.1 o.2 F ec_1) (by decide) rfl rfl (Nat.le_of_ble_eq_true rfl) dX11_take_3 ?_
  refine x_if_eq o 17 dX11_take_6 (by decide) (fun q_3 => ?_) (fun q_3 => ?_)
  · replace hf := (if_pos q_3).symm.trans hf
    refine x_iconst (v := 0) o dX11_take_17 (by decide) ?_
    cases hf
    exact hr (Or.inl rfl) _ _ dX11_take_18
  · replace hf := (if_neg q_3).symm.trans hf
    refine x_iload_n o dX11_take_9 1 rfl rfl ?_
    refine x_aload_n o dX11_take_10 0 rfl rfl ?_
    obtain ⟨k_4, hf⟩ := gq_ex hf
    refine gRX11_72 o k_4 dX11_take_11 ?_
    refine x_icmp_le o 19 dX11_take_14 (by decide) (fun q_5 => ?_) (fun q_5 => ?_)
    · replace hf := (if_pos q_5).symm.trans hf
      refine x_aload_n o dX11_take_19 0 rfl rfl ?_
      obtain ⟨j_6, ej_6, hf⟩ := ob_ex hf
      refine gRX11_16 o k_4 ej_6 dX11_take_20 ?_
      refine x_aload_n o dX11_take_23 0 rfl rfl ?_
      obtain ⟨j_7, ej_7, hf⟩ := ob_ex hf
      refine gRX11_9 o k_4 ej_7 dX11_take_24 ?_
      refine x_iload_n o dX11_take_27 1 rfl rfl ?_
      obtain ⟨k_8, hf⟩ := gq_ex hf
      obtain ⟨h_10, eh_10, hf⟩ := ob_ex hf
      refine vRX11_287 [.ref (ka k j_7), .int x1] [] o (C_X9_begin o.1.2.2.2.2.2.2.1 o.2 F eh_10) (by decide) k_8 rfl rfl (Nat.le_of_ble_eq_true rfl) dX11_take_28 ?_
      refine x_aload_n o dX11_take_31 0 rfl rfl ?_
      refine x_iconst (v := 0) o dX11_take_32 (by decide) ?_
      obtain ⟨h_11, eh_11, hf⟩ := bd_ex hf
      refine pRX11_72 o k_4 eh_11 dX11_take_33 ?_
      refine x_iconst (v := 1) o dX11_take_36 (by decide) ?_
      cases hf
      exact hr (Or.inr rfl) _ _ dX11_take_37
    · replace hf := (if_neg q_5).symm.trans hf
      refine x_iconst (v := 0) o dX11_take_17 (by decide) ?_
      cases hf
      exact hr (Or.inl rfl) _ _ dX11_take_18
theorem C_X11_take {k : Kst} (hj : Dj k) (hn : kn k = kdl.length) (F : Nat) {h : Hp} {a0 : Nat} {x1 : Int32} {x2 : Int32} {r : Int32} {h1 : Hp} (hf : X11_take F a0 x1 x2 h = some (r, h1)) : MI k 4 yX11_take cX11_take 3 (some .boolean) [.ref (ka k a0), .int x1, .int x2] h r h1 := mZ hj hn (by decide +kernel) (Nat.le_of_ble_eq_true rfl) (fun d o hr => S_X11_take_0 o F hf hr)
set_option maxRecDepth 100000 in
set_option maxHeartbeats 4000000 in
theorem S_X11_law_0 {k : Kst} {d : Kdy} (o : Ok k d cX11_law RX11 2 130) (F : Nat) {h : Hp} {a0 : Nat} {x1 : Int32} {r : Int32} {h1 : Hp} (hf : X11_law F a0 x1 h = some (r, h1)) (hr : RI k d cX11_law r h1) : Wz k d h 0 [(0, .ref (ka k a0)), (1, .int x1)] [] := by
  unfold X11_law at hf
  refine x_aload_n o dX11_law_0 0 rfl rfl ?_
  refine x_iload_n o dX11_law_1 1 rfl rfl ?_
  refine x_sipush (v := 240) o dX11_law_2 (by decide) ?_
  obtain ⟨k_1, hf⟩ := gq_ex hf
  obtain ⟨c_2, h_3, ec_2, hf⟩ := bq_ex hf
  refine vRX11_92 [.int x1, .int 240] [] o (C_X11_take o.1.2.2.2.2.2.2.1 o.2 F ec_2) (by decide) k_1 rfl rfl (Nat.le_of_ble_eq_true rfl) dX11_law_5 ?_
  refine x_if_ne o 13 dX11_law_8 (by decide) (fun q_4 => ?_) (fun q_4 => ?_)
  · replace hf := (if_neg q_4).symm.trans hf
    refine x_aload_n o dX11_law_13 0 rfl rfl ?_
    obtain ⟨j_5, ej_5, hf⟩ := ob_ex hf
    refine gRX11_37 o k_1 ej_5 dX11_law_14 ?_
    refine x_aload_n o dX11_law_17 0 rfl rfl ?_
    obtain ⟨j_6, ej_6, hf⟩ := ob_ex hf
    refine gRX11_16 o k_1 ej_6 dX11_law_18 ?_
    obtain ⟨k_7, hf⟩ := gq_ex hf
    obtain ⟨h_9, eh_9, hf⟩ := ob_ex hf
    refine vRX11_96 [.ref (ka k j_6)] [] o (C_X2_readAll o.1.2.2.2.2.2.2.1 o.2 F eh_9) (by decide) k_7 rfl rfl (Nat.le_of_ble_eq_true rfl) dX11_law_21 ?_
    refine x_aload_n o dX11_law_24 0 rfl rfl ?_
    obtain ⟨j_10, ej_10, hf⟩ := ob_ex hf
    refine gRX11_16 o k_1 ej_10 dX11_law_25 ?_
    obtain ⟨k_11, hf⟩ := gq_ex hf
    obtain ⟨c_12, ec_12, hf⟩ := ob_ex hf
    refine vRX11_100 [] [] o (C_X9_sound o.1.2.2.2.2.2.2.1 o.2 F ec_12) (by decide) k_11 rfl rfl (Nat.le_of_ble_eq_true rfl) dX11_law_28 ?_
    refine x_if_ne o 42 dX11_law_31 (by decide) (fun q_14 => ?_) (fun q_14 => ?_)
    · replace hf := (if_neg q_14).symm.trans hf
      refine x_aload_n o dX11_law_42 0 rfl rfl ?_
      obtain ⟨j_15, ej_15, hf⟩ := ob_ex hf
      refine gRX11_44 o k_1 ej_15 dX11_law_43 ?_
      refine x_aload_n o dX11_law_46 0 rfl rfl ?_
      obtain ⟨j_16, ej_16, hf⟩ := ob_ex hf
      refine gRX11_37 o k_1 ej_16 dX11_law_47 ?_
      refine x_aload_n o dX11_law_50 0 rfl rfl ?_
      refine gRX11_44 o k_1 ej_15 dX11_law_51 ?_
      obtain ⟨k_17, hf⟩ := gq_ex hf
      obtain ⟨j_18, ej_18, hf⟩ := ob_ex hf
      refine gRX11_107 o k_17 ej_18 dX11_law_54 ?_
      obtain ⟨k_19, hf⟩ := gq_ex hf
      obtain ⟨j_20, h_21, ej_20, hf⟩ := bq_ex hf
      refine vRX11_111 [.ref (ka k j_18)] [.ref (ka k j_15)] o (C_X2_exchange o.1.2.2.2.2.2.2.1 o.2 F ej_20) (by decide) k_19 rfl rfl (Nat.le_of_ble_eq_true rfl) dX11_law_57 ?_
      obtain ⟨h_22, eh_22, hf⟩ := bd_ex hf
      refine pRX11_107 o k_17 eh_22 dX11_law_60 ?_
      refine x_aload_n o dX11_law_63 0 rfl rfl ?_
      obtain ⟨j_23, ej_23, hf⟩ := ob_ex hf
      refine gRX11_44 o k_1 ej_23 dX11_law_64 ?_
      obtain ⟨k_24, hf⟩ := gq_ex hf
      obtain ⟨j_25, ej_25, hf⟩ := ob_ex hf
      refine gRX11_107 o k_24 ej_25 dX11_law_67 ?_
      obtain ⟨k_26, hf⟩ := gq_ex hf
      refine gRX11_115 o k_26 dX11_law_70 ?_
      cases hf
      exact hr _ _ dX11_law_73
    · replace hf := (if_pos q_14).symm.trans hf
      refine x_aload_n o dX11_law_34 0 rfl rfl ?_
      refine gRX11_16 o k_1 ej_10 dX11_law_35 ?_
      refine gRX11_104 o k_11 dX11_law_38 ?_
      cases hf
      exact hr _ _ dX11_law_41
  · replace hf := (if_pos q_4).symm.trans hf
    refine x_iconst (v := (-1)) o dX11_law_11 (by decide) ?_
    cases hf
    exact hr _ _ dX11_law_12
theorem C_X11_law {k : Kst} (hj : Dj k) (hn : kn k = kdl.length) (F : Nat) {h : Hp} {a0 : Nat} {x1 : Int32} {r : Int32} {h1 : Hp} (hf : X11_law F a0 x1 h = some (r, h1)) : MI k 130 yX11_law cX11_law 2 (some .int) [.ref (ka k a0), .int x1] h r h1 := mI hj hn (by decide +kernel) (Nat.le_of_ble_eq_true rfl) (fun d o hr => S_X11_law_0 o F hf hr)
set_option maxRecDepth 100000 in
set_option maxHeartbeats 4000000 in
theorem S_X11_plan_0 {k : Kst} {d : Kdy} (o : Ok k d cX11_plan RX11 3 69) (F : Nat) {h : Hp} {a0 : Nat} {x1 : Int32} {x2 : Int32} {r : Int32} {h1 : Hp} (hf : X11_plan F a0 x1 x2 h = some (r, h1)) (hr : RI k d cX11_plan r h1) : Wz k d h 0 [(0, .ref (ka k a0)), (1, .int x1), (2, .int x2)] [] := by
  unfold X11_plan at hf
  refine x_iload_n o dX11_plan_0 1 rfl rfl ?_
  refine x_iconst (v := 0) o dX11_plan_1 (by decide) ?_
  refine x_iconst (v := 1) o dX11_plan_2 (by decide) ?_
  obtain ⟨c_1, ec_1, hf⟩ := ob_ex hf
  refine vRX11_81 [.int x1, .int 0, .int 1] [] o (C_X11_within o.1.2.2.2.2.2.2.1 o.2 F ec_1) (by decide) rfl rfl (Nat.le_of_ble_eq_true rfl) dX11_plan_3 ?_
  refine x_if_eq o 19 dX11_plan_6 (by decide) (fun q_3 => ?_) (fun q_3 => ?_)
  · replace hf := (if_pos q_3).symm.trans hf
    refine x_iconst (v := (-1)) o dX11_plan_19 (by decide) ?_
    cases hf
    exact hr _ _ dX11_plan_20
  · replace hf := (if_neg q_3).symm.trans hf
    refine x_aload_n o dX11_plan_9 0 rfl rfl ?_
    refine x_iload_n o dX11_plan_10 2 rfl rfl ?_
    refine x_bipush (v := 80) o dX11_plan_11 (by decide) ?_
    obtain ⟨k_4, hf⟩ := gq_ex hf
    obtain ⟨c_5, h_6, ec_5, hf⟩ := bq_ex hf
    refine vRX11_92 [.int x2, .int 80] [] o (C_X11_take o.1.2.2.2.2.2.2.1 o.2 F ec_5) (by decide) k_4 rfl rfl (Nat.le_of_ble_eq_true rfl) dX11_plan_13 ?_
    refine x_if_ne o 21 dX11_plan_16 (by decide) (fun q_7 => ?_) (fun q_7 => ?_)
    · replace hf := (if_neg q_7).symm.trans hf
      refine x_aload_n o dX11_plan_21 0 rfl rfl ?_
      obtain ⟨j_8, ej_8, hf⟩ := ob_ex hf
      refine gRX11_23 o k_4 ej_8 dX11_plan_22 ?_
      refine x_aload_n o dX11_plan_25 0 rfl rfl ?_
      obtain ⟨j_9, ej_9, hf⟩ := ob_ex hf
      refine gRX11_16 o k_4 ej_9 dX11_plan_26 ?_
      obtain ⟨k_10, hf⟩ := gq_ex hf
      obtain ⟨h_12, eh_12, hf⟩ := ob_ex hf
      refine vRX11_120 [.ref (ka k j_9)] [] o (C_X6_readAll o.1.2.2.2.2.2.2.1 o.2 F eh_12) (by decide) k_10 rfl rfl (Nat.le_of_ble_eq_true rfl) dX11_plan_29 ?_
      refine x_aload_n o dX11_plan_32 0 rfl rfl ?_
      obtain ⟨j_13, ej_13, hf⟩ := ob_ex hf
      refine gRX11_16 o k_4 ej_13 dX11_plan_33 ?_
      obtain ⟨k_14, hf⟩ := gq_ex hf
      obtain ⟨c_15, ec_15, hf⟩ := ob_ex hf
      refine vRX11_100 [] [] o (C_X9_sound o.1.2.2.2.2.2.2.1 o.2 F ec_15) (by decide) k_14 rfl rfl (Nat.le_of_ble_eq_true rfl) dX11_plan_36 ?_
      refine x_if_ne o 50 dX11_plan_39 (by decide) (fun q_17 => ?_) (fun q_17 => ?_)
      · replace hf := (if_neg q_17).symm.trans hf
        refine x_aload_n o dX11_plan_50 0 rfl rfl ?_
        obtain ⟨j_18, ej_18, hf⟩ := ob_ex hf
        refine gRX11_44 o k_4 ej_18 dX11_plan_51 ?_
        refine x_iload_n o dX11_plan_54 1 rfl rfl ?_
        obtain ⟨k_19, hf⟩ := gq_ex hf
        obtain ⟨j_20, ej_20, hf⟩ := ob_ex hf
        refine vRX11_121 [.int x1] [] o (C_X10_built o.1.2.2.2.2.2.2.1 o.2 F ej_20) (by decide) k_19 rfl rfl (Nat.le_of_ble_eq_true rfl) dX11_plan_55 ?_
        refine x_aload_n o dX11_plan_58 0 rfl rfl ?_
        obtain ⟨j_22, ej_22, hf⟩ := ob_ex hf
        refine gRX11_23 o k_4 ej_22 dX11_plan_59 ?_
        obtain ⟨k_23, hf⟩ := gq_ex hf
        obtain ⟨j_24, ej_24, hf⟩ := ob_ex hf
        refine gRX11_125 o k_23 ej_24 dX11_plan_62 ?_
        refine x_aload_n o dX11_plan_65 0 rfl rfl ?_
        refine gRX11_23 o k_4 ej_22 dX11_plan_66 ?_
        refine gRX11_128 o k_23 dX11_plan_69 ?_
        obtain ⟨k_25, hf⟩ := gq_ex hf
        obtain ⟨h_27, eh_27, hf⟩ := ob_ex hf
        refine vRX11_131 [.ref (ka k j_24), .int (h_12.1 j_22 1)] [] o (C_X5_renew o.1.2.2.2.2.2.2.1 o.2 F eh_27) (by decide) k_25 rfl rfl (Nat.le_of_ble_eq_true rfl) dX11_plan_72 ?_
        refine x_aload_n o dX11_plan_75 0 rfl rfl ?_
        obtain ⟨j_28, ej_28, hf⟩ := ob_ex hf
        refine gRX11_23 o k_4 ej_28 dX11_plan_76 ?_
        obtain ⟨k_29, hf⟩ := gq_ex hf
        refine gRX11_128 o k_29 dX11_plan_79 ?_
        cases hf
        exact hr _ _ dX11_plan_82
      · replace hf := (if_pos q_17).symm.trans hf
        refine x_aload_n o dX11_plan_42 0 rfl rfl ?_
        refine gRX11_16 o k_4 ej_13 dX11_plan_43 ?_
        refine gRX11_104 o k_14 dX11_plan_46 ?_
        cases hf
        exact hr _ _ dX11_plan_49
    · replace hf := (if_pos q_7).symm.trans hf
      refine x_iconst (v := (-1)) o dX11_plan_19 (by decide) ?_
      cases hf
      exact hr _ _ dX11_plan_20
theorem C_X11_plan {k : Kst} (hj : Dj k) (hn : kn k = kdl.length) (F : Nat) {h : Hp} {a0 : Nat} {x1 : Int32} {x2 : Int32} {r : Int32} {h1 : Hp} (hf : X11_plan F a0 x1 x2 h = some (r, h1)) : MI k 69 yX11_plan cX11_plan 3 (some .int) [.ref (ka k a0), .int x1, .int x2] h r h1 := mI hj hn (by decide +kernel) (Nat.le_of_ble_eq_true rfl) (fun d o hr => S_X11_plan_0 o F hf hr)
set_option maxRecDepth 100000 in
set_option maxHeartbeats 4000000 in
theorem S_X11_orders_0 {k : Kst} {d : Kdy} (o : Ok k d cX11_orders RX11 2 10) (F : Nat) {h : Hp} {a0 : Nat} {x1 : Int32} {r : Int32} {h1 : Hp} (hf : X11_orders F a0 x1 h = some (r, h1)) (hr : RI k d cX11_orders r h1) : Wz k d h 0 [(0, .ref (ka k a0)), (1, .int x1)] [] := by
  unfold X11_orders at hf
  refine x_aload_n o dX11_orders_0 0 rfl rfl ?_
  refine x_iload_n o dX11_orders_1 1 rfl rfl ?_
  refine x_bipush (v := 120) o dX11_orders_2 (by decide) ?_
  obtain ⟨k_1, hf⟩ := gq_ex hf
  obtain ⟨c_2, h_3, ec_2, hf⟩ := bq_ex hf
  refine vRX11_92 [.int x1, .int 120] [] o (C_X11_take o.1.2.2.2.2.2.2.1 o.2 F ec_2) (by decide) k_1 rfl rfl (Nat.le_of_ble_eq_true rfl) dX11_orders_4 ?_
  refine x_if_ne o 12 dX11_orders_7 (by decide) (fun q_4 => ?_) (fun q_4 => ?_)
  · replace hf := (if_neg q_4).symm.trans hf
    refine x_aload_n o dX11_orders_12 0 rfl rfl ?_
    obtain ⟨j_5, ej_5, hf⟩ := ob_ex hf
    refine gRX11_30 o k_1 ej_5 dX11_orders_13 ?_
    refine x_aload_n o dX11_orders_16 0 rfl rfl ?_
    obtain ⟨j_6, ej_6, hf⟩ := ob_ex hf
    refine gRX11_16 o k_1 ej_6 dX11_orders_17 ?_
    obtain ⟨k_7, hf⟩ := gq_ex hf
    obtain ⟨h_9, eh_9, hf⟩ := ob_ex hf
    refine vRX11_137 [.ref (ka k j_6)] [] o (C_X4_readAll o.1.2.2.2.2.2.2.1 o.2 F eh_9) (by decide) k_7 rfl rfl (Nat.le_of_ble_eq_true rfl) dX11_orders_20 ?_
    refine x_aload_n o dX11_orders_23 0 rfl rfl ?_
    obtain ⟨j_10, ej_10, hf⟩ := ob_ex hf
    refine gRX11_16 o k_1 ej_10 dX11_orders_24 ?_
    obtain ⟨k_11, hf⟩ := gq_ex hf
    obtain ⟨c_12, ec_12, hf⟩ := ob_ex hf
    refine vRX11_100 [] [] o (C_X9_sound o.1.2.2.2.2.2.2.1 o.2 F ec_12) (by decide) k_11 rfl rfl (Nat.le_of_ble_eq_true rfl) dX11_orders_27 ?_
    refine x_if_ne o 41 dX11_orders_30 (by decide) (fun q_14 => ?_) (fun q_14 => ?_)
    · replace hf := (if_neg q_14).symm.trans hf
      refine x_aload_n o dX11_orders_41 0 rfl rfl ?_
      obtain ⟨j_15, ej_15, hf⟩ := ob_ex hf
      refine gRX11_30 o k_1 ej_15 dX11_orders_42 ?_
      refine x_aload_n o dX11_orders_45 0 rfl rfl ?_
      obtain ⟨j_16, ej_16, hf⟩ := ob_ex hf
      refine gRX11_44 o k_1 ej_16 dX11_orders_46 ?_
      obtain ⟨k_17, hf⟩ := gq_ex hf
      obtain ⟨j_18, ej_18, hf⟩ := ob_ex hf
      refine gRX11_138 o k_17 ej_18 dX11_orders_49 ?_
      obtain ⟨k_19, hf⟩ := gq_ex hf
      obtain ⟨h_21, eh_21, hf⟩ := ob_ex hf
      refine vRX11_141 [.ref (ka k j_18)] [] o (C_X4_obey o.1.2.2.2.2.2.2.1 o.2 F eh_21) (by decide) k_19 rfl rfl (Nat.le_of_ble_eq_true rfl) dX11_orders_52 ?_
      refine x_aload_n o dX11_orders_55 0 rfl rfl ?_
      obtain ⟨j_22, ej_22, hf⟩ := ob_ex hf
      refine gRX11_30 o k_1 ej_22 dX11_orders_56 ?_
      obtain ⟨k_23, hf⟩ := gq_ex hf
      refine gRX11_145 o k_23 dX11_orders_59 ?_
      cases hf
      exact hr _ _ dX11_orders_62
    · replace hf := (if_pos q_14).symm.trans hf
      refine x_aload_n o dX11_orders_33 0 rfl rfl ?_
      refine gRX11_16 o k_1 ej_10 dX11_orders_34 ?_
      refine gRX11_104 o k_11 dX11_orders_37 ?_
      cases hf
      exact hr _ _ dX11_orders_40
  · replace hf := (if_pos q_4).symm.trans hf
    refine x_iconst (v := (-1)) o dX11_orders_10 (by decide) ?_
    cases hf
    exact hr _ _ dX11_orders_11
theorem C_X11_orders {k : Kst} (hj : Dj k) (hn : kn k = kdl.length) (F : Nat) {h : Hp} {a0 : Nat} {x1 : Int32} {r : Int32} {h1 : Hp} (hf : X11_orders F a0 x1 h = some (r, h1)) : MI k 10 yX11_orders cX11_orders 2 (some .int) [.ref (ka k a0), .int x1] h r h1 := mI hj hn (by decide +kernel) (Nat.le_of_ble_eq_true rfl) (fun d o hr => S_X11_orders_0 o F hf hr)
set_option maxRecDepth 100000 in
set_option maxHeartbeats 4000000 in
theorem S_X11_days_0 {k : Kst} {d : Kdy} (o : Ok k d cX11_days RX11 2 10) (F : Nat) {h : Hp} {a0 : Nat} {x1 : Int32} {r : Int32} {h1 : Hp} (hf : X11_days F a0 x1 h = some (r, h1)) (hr : RI k d cX11_days r h1) : Wz k d h 0 [(0, .ref (ka k a0)), (1, .int x1)] [] := by
  unfold X11_days at hf
  refine x_iload_n o dX11_days_0 1 rfl rfl ?_
  refine x_iconst (v := 1) o dX11_days_1 (by decide) ?_
  refine x_sipush (v := 240) o dX11_days_2 (by decide) ?_
  obtain ⟨c_1, ec_1, hf⟩ := ob_ex hf
  refine vRX11_81 [.int x1, .int 1, .int 240] [] o (C_X11_within o.1.2.2.2.2.2.2.1 o.2 F ec_1) (by decide) rfl rfl (Nat.le_of_ble_eq_true rfl) dX11_days_5 ?_
  refine x_if_ne o 13 dX11_days_8 (by decide) (fun q_3 => ?_) (fun q_3 => ?_)
  · replace hf := (if_neg q_3).symm.trans hf
    refine x_aload_n o dX11_days_13 0 rfl rfl ?_
    obtain ⟨k_4, hf⟩ := gq_ex hf
    obtain ⟨j_5, ej_5, hf⟩ := ob_ex hf
    refine gRX11_44 o k_4 ej_5 dX11_days_14 ?_
    refine x_iload_n o dX11_days_17 1 rfl rfl ?_
    obtain ⟨k_6, hf⟩ := gq_ex hf
    obtain ⟨c_7, h_8, ec_7, hf⟩ := bq_ex hf
    refine vRX11_148 [.int x1] [] o (C_X10_passDays o.1.2.2.2.2.2.2.1 o.2 F ec_7) (by decide) k_6 rfl rfl (Nat.le_of_ble_eq_true rfl) dX11_days_18 ?_
    cases hf
    exact hr _ _ dX11_days_21
  · replace hf := (if_pos q_3).symm.trans hf
    refine x_iconst (v := (-1)) o dX11_days_11 (by decide) ?_
    cases hf
    exact hr _ _ dX11_days_12
theorem C_X11_days {k : Kst} (hj : Dj k) (hn : kn k = kdl.length) (F : Nat) {h : Hp} {a0 : Nat} {x1 : Int32} {r : Int32} {h1 : Hp} (hf : X11_days F a0 x1 h = some (r, h1)) : MI k 10 yX11_days cX11_days 2 (some .int) [.ref (ka k a0), .int x1] h r h1 := mI hj hn (by decide +kernel) (Nat.le_of_ble_eq_true rfl) (fun d o hr => S_X11_days_0 o F hf hr)
set_option maxRecDepth 100000 in
set_option maxHeartbeats 4000000 in
theorem S_X11_triedIs_0 {k : Kst} {d : Kdy} (o : Ok k d cX11_triedIs RX11 3 5) (F : Nat) {h : Hp} {a0 : Nat} {x1 : Int32} {x2 : Int32} {r : Int32} (hf : X11_triedIs F a0 x1 x2 h = some r) (hr : RI k d cX11_triedIs r h) : Wz k d h 0 [(0, .ref (ka k a0)), (1, .int x1), (2, .int x2)] [] := by
  unfold X11_triedIs at hf
  refine x_iload_n o dX11_triedIs_0 1 rfl rfl ?_
  obtain ⟨t_1, et_1, hf⟩ := bd_ex hf
  refine x_top et_1 ?_
  by_cases q_2 : t_1 = 0
  · replace hf := (if_pos q_2).symm.trans hf
    refine x_tabi (v := 0) o 32 q_2 (by decide) (by decide) rfl (by decide) dX11_triedIs_1 ?_
    refine x_iload_n o dX11_triedIs_32 2 rfl rfl ?_
    cases hf
    exact hr _ _ dX11_triedIs_33
  replace hf := (if_neg q_2).symm.trans hf
  by_cases q_3 : t_1 = 1
  · replace hf := (if_pos q_3).symm.trans hf
    refine x_tabi (v := 1) o 34 q_3 (by decide) (by decide) rfl (by decide) dX11_triedIs_1 ?_
    refine x_aload_n o dX11_triedIs_34 0 rfl rfl ?_
    obtain ⟨k_4, hf⟩ := gq_ex hf
    obtain ⟨j_5, ej_5, hf⟩ := ob_ex hf
    refine gRX11_44 o k_4 ej_5 dX11_triedIs_35 ?_
    obtain ⟨k_6, hf⟩ := gq_ex hf
    obtain ⟨j_7, ej_7, hf⟩ := ob_ex hf
    refine gRX11_138 o k_6 ej_7 dX11_triedIs_38 ?_
    obtain ⟨k_8, hf⟩ := gq_ex hf
    refine gRX11_275 o k_8 dX11_triedIs_41 ?_
    refine x_aload_n o dX11_triedIs_44 0 rfl rfl ?_
    obtain ⟨j_9, ej_9, hf⟩ := ob_ex hf
    refine gRX11_55 o k_4 ej_9 dX11_triedIs_45 ?_
    obtain ⟨k_10, hf⟩ := gq_ex hf
    refine gRX11_275 o k_10 dX11_triedIs_48 ?_
    refine x_isub o dX11_triedIs_51 ?_
    cases hf
    exact hr _ _ dX11_triedIs_52
  replace hf := (if_neg q_3).symm.trans hf
  by_cases q_11 : t_1 = 2
  · replace hf := (if_pos q_11).symm.trans hf
    refine x_tabi (v := 2) o 53 q_11 (by decide) (by decide) rfl (by decide) dX11_triedIs_1 ?_
    refine x_aload_n o dX11_triedIs_53 0 rfl rfl ?_
    obtain ⟨k_12, hf⟩ := gq_ex hf
    obtain ⟨j_13, ej_13, hf⟩ := ob_ex hf
    refine gRX11_44 o k_12 ej_13 dX11_triedIs_54 ?_
    obtain ⟨k_14, hf⟩ := gq_ex hf
    obtain ⟨j_15, ej_15, hf⟩ := ob_ex hf
    refine gRX11_138 o k_14 ej_15 dX11_triedIs_57 ?_
    obtain ⟨k_16, hf⟩ := gq_ex hf
    refine gRX11_255 o k_16 dX11_triedIs_60 ?_
    cases hf
    exact hr _ _ dX11_triedIs_63
  replace hf := (if_neg q_11).symm.trans hf
  by_cases q_17 : t_1 = 3
  · replace hf := (if_pos q_17).symm.trans hf
    refine x_tabi (v := 3) o 64 q_17 (by decide) (by decide) rfl (by decide) dX11_triedIs_1 ?_
    refine x_aload_n o dX11_triedIs_64 0 rfl rfl ?_
    obtain ⟨k_18, hf⟩ := gq_ex hf
    obtain ⟨j_19, ej_19, hf⟩ := ob_ex hf
    refine gRX11_44 o k_18 ej_19 dX11_triedIs_65 ?_
    obtain ⟨k_20, hf⟩ := gq_ex hf
    obtain ⟨j_21, ej_21, hf⟩ := ob_ex hf
    refine gRX11_138 o k_20 ej_21 dX11_triedIs_68 ?_
    obtain ⟨k_22, hf⟩ := gq_ex hf
    refine gRX11_272 o k_22 dX11_triedIs_71 ?_
    cases hf
    exact hr _ _ dX11_triedIs_74
  replace hf := (if_neg q_17).symm.trans hf
  refine x_tabo o 75 (by have z0 := lv_neT (a := 0) q_2 rfl; have z1 := lv_neT (a := 1) q_3 rfl; have z2 := lv_neT (a := 2) q_11 rfl; have z3 := lv_neT (a := 3) q_17 rfl; omega) (by decide) dX11_triedIs_1 ?_
  refine x_aload_n o dX11_triedIs_75 0 rfl rfl ?_
  obtain ⟨k_23, hf⟩ := gq_ex hf
  obtain ⟨j_24, ej_24, hf⟩ := ob_ex hf
  refine gRX11_44 o k_23 ej_24 dX11_triedIs_76 ?_
  refine x_iload_n o dX11_triedIs_79 1 rfl rfl ?_
  refine x_bipush (v := 10) o dX11_triedIs_80 (by decide) ?_
  refine x_isub o dX11_triedIs_82 ?_
  obtain ⟨k_25, hf⟩ := gq_ex hf
  obtain ⟨c_26, ec_26, hf⟩ := ob_ex hf
  refine vRX11_160 [.int (x1 - 10)] [] o (C_X10_standing o.1.2.2.2.2.2.2.1 o.2 F ec_26) (by decide) k_25 rfl rfl (Nat.le_of_ble_eq_true rfl) dX11_triedIs_83 ?_
  cases hf
  exact hr _ _ dX11_triedIs_86
theorem C_X11_triedIs {k : Kst} (hj : Dj k) (hn : kn k = kdl.length) (F : Nat) {h : Hp} {a0 : Nat} {x1 : Int32} {x2 : Int32} {r : Int32} (hf : X11_triedIs F a0 x1 x2 h = some r) : MI k 5 yX11_triedIs cX11_triedIs 3 (some .int) [.ref (ka k a0), .int x1, .int x2] h r h := mI hj hn (by decide +kernel) (Nat.le_of_ble_eq_true rfl) (fun d o hr => S_X11_triedIs_0 o F hf hr)
set_option maxRecDepth 100000 in
set_option maxHeartbeats 4000000 in
theorem S_X11_tried_33 {k : Kst} {d : Kdy} (o : Ok k d cX11_tried RX11 5 10) (F : Nat) {h : Hp} {a0 : Nat} {x1 : Int32} {x2 : Int32} {r : Int32} {h1 : Hp} (hf : X11_tried_33 F a0 x1 x2 h = some (r, h1)) (hr : RI k d cX11_tried r h1) : Wz k d h 33 [(0, .ref (ka k a0)), (1, .int x1), (2, .int x2)] [] := by
  unfold X11_tried_33 at hf
  refine x_aload_n o dX11_tried_33 0 rfl rfl ?_
  obtain ⟨k_1, hf⟩ := gq_ex hf
  obtain ⟨j_2, ej_2, hf⟩ := ob_ex hf
  refine gRX11_55 o k_1 ej_2 dX11_tried_34 ?_
  refine x_aload_n o dX11_tried_37 0 rfl rfl ?_
  obtain ⟨j_3, ej_3, hf⟩ := ob_ex hf
  refine gRX11_44 o k_1 ej_3 dX11_tried_38 ?_
  obtain ⟨k_4, hf⟩ := gq_ex hf
  obtain ⟨j_5, ej_5, hf⟩ := ob_ex hf
  refine gRX11_138 o k_4 ej_5 dX11_tried_41 ?_
  obtain ⟨k_6, hf⟩ := gq_ex hf
  obtain ⟨h_8, eh_8, hf⟩ := ob_ex hf
  refine vRX11_152 [.ref (ka k j_5)] [] o (C_X8_copy o.1.2.2.2.2.2.2.1 o.2 F eh_8) (by decide) k_6 rfl rfl (Nat.le_of_ble_eq_true rfl) dX11_tried_44 ?_
  refine x_aload_n o dX11_tried_47 0 rfl rfl ?_
  obtain ⟨j_9, ej_9, hf⟩ := ob_ex hf
  refine gRX11_44 o k_1 ej_9 dX11_tried_48 ?_
  refine x_iload_n o dX11_tried_51 1 rfl rfl ?_
  obtain ⟨k_10, hf⟩ := gq_ex hf
  obtain ⟨c_11, h_12, ec_11, hf⟩ := bq_ex hf
  refine vRX11_148 [.int x1] [] o (C_X10_passDays o.1.2.2.2.2.2.2.1 o.2 F ec_11) (by decide) k_10 rfl rfl (Nat.le_of_ble_eq_true rfl) dX11_tried_52 ?_
  refine x_istore_n o dX11_tried_55 (by decide) rfl [(3, .int c_11), (0, .ref (ka k a0)), (1, .int x1), (2, .int x2)] rfl ?_
  refine x_aload_n o dX11_tried_56 1 rfl rfl ?_
  refine x_iload_n o dX11_tried_57 3 rfl rfl ?_
  refine x_iload_n o dX11_tried_58 0 rfl rfl ?_
  obtain ⟨c_13, ec_13, hf⟩ := ob_ex hf
  refine vRX11_155 [.int x2, .int c_11] [] o (C_X11_triedIs o.1.2.2.2.2.2.2.1 o.2 F ec_13) (by decide) k_1 rfl rfl (Nat.le_of_ble_eq_true rfl) dX11_tried_59 ?_
  refine x_istore o dX11_tried_62 (by decide) [(4, .int c_13), (3, .int c_11), (0, .ref (ka k a0)), (1, .int x1), (2, .int x2)] rfl ?_
  refine x_aload_n o dX11_tried_64 2 rfl rfl ?_
  obtain ⟨j_15, ej_15, hf⟩ := ob_ex hf
  refine gRX11_44 o k_1 ej_15 dX11_tried_65 ?_
  obtain ⟨k_16, hf⟩ := gq_ex hf
  obtain ⟨j_17, ej_17, hf⟩ := ob_ex hf
  refine gRX11_138 o k_16 ej_17 dX11_tried_68 ?_
  refine x_aload_n o dX11_tried_71 2 rfl rfl ?_
  obtain ⟨j_18, ej_18, hf⟩ := ob_ex hf
  refine gRX11_55 o k_1 ej_18 dX11_tried_72 ?_
  obtain ⟨k_19, hf⟩ := gq_ex hf
  obtain ⟨h_21, eh_21, hf⟩ := ob_ex hf
  refine vRX11_152 [.ref (ka k j_18)] [] o (C_X8_copy o.1.2.2.2.2.2.2.1 o.2 F eh_21) (by decide) k_19 rfl rfl (Nat.le_of_ble_eq_true rfl) dX11_tried_75 ?_
  refine x_iload o dX11_tried_78 0 rfl ?_
  cases hf
  exact hr _ _ dX11_tried_80
set_option maxRecDepth 100000 in
set_option maxHeartbeats 4000000 in
theorem S_X11_tried_0 {k : Kst} {d : Kdy} (o : Ok k d cX11_tried RX11 5 10) (F : Nat) {h : Hp} {a0 : Nat} {x1 : Int32} {x2 : Int32} {r : Int32} {h1 : Hp} (hf : X11_tried F a0 x1 x2 h = some (r, h1)) (hr : RI k d cX11_tried r h1) : Wz k d h 0 [(0, .ref (ka k a0)), (1, .int x1), (2, .int x2)] [] := by
  unfold X11_tried at hf
  refine x_iload_n o dX11_tried_0 1 rfl rfl ?_
  refine x_iconst (v := 1) o dX11_tried_1 (by decide) ?_
  refine x_sipush (v := 240) o dX11_tried_2 (by decide) ?_
  obtain ⟨c_1, ec_1, hf⟩ := ob_ex hf
  refine vRX11_81 [.int x1, .int 1, .int 240] [] o (C_X11_within o.1.2.2.2.2.2.2.1 o.2 F ec_1) (by decide) rfl rfl (Nat.le_of_ble_eq_true rfl) dX11_tried_5 ?_
  refine x_if_eq o 31 dX11_tried_8 (by decide) (fun q_3 => ?_) (fun q_3 => ?_)
  · replace hf := (if_pos q_3).symm.trans hf
    refine x_iconst (v := (-1)) o dX11_tried_31 (by decide) ?_
    cases hf
    exact hr _ _ dX11_tried_32
  · replace hf := (if_neg q_3).symm.trans hf
    refine x_iload_n o dX11_tried_11 2 rfl rfl ?_
    refine x_iconst (v := 0) o dX11_tried_12 (by decide) ?_
    refine x_iconst (v := 3) o dX11_tried_13 (by decide) ?_
    obtain ⟨c_4, ec_4, hf⟩ := ob_ex hf
    refine vRX11_81 [.int x2, .int 0, .int 3] [] o (C_X11_within o.1.2.2.2.2.2.2.1 o.2 F ec_4) (by decide) rfl rfl (Nat.le_of_ble_eq_true rfl) dX11_tried_14 ?_
    refine x_if_ne o 33 dX11_tried_17 (by decide) (fun q_6 => ?_) (fun q_6 => ?_)
    · replace hf := (if_neg q_6).symm.trans hf
      refine x_sub [0, 1, 2] [(0, .ref (ka k a0)), (1, .int x1), (2, .int x2)] rfl ?_
      exact S_X11_tried_33 o F hf hr
    · replace hf := (if_pos q_6).symm.trans hf
      refine x_iload_n o dX11_tried_20 2 rfl rfl ?_
      refine x_bipush (v := 10) o dX11_tried_21 (by decide) ?_
      refine x_bipush (v := 11) o dX11_tried_23 (by decide) ?_
      obtain ⟨c_7, ec_7, hf⟩ := ob_ex hf
      refine vRX11_81 [.int x2, .int 10, .int 11] [] o (C_X11_within o.1.2.2.2.2.2.2.1 o.2 F ec_7) (by decide) rfl rfl (Nat.le_of_ble_eq_true rfl) dX11_tried_25 ?_
      refine x_if_ne o 33 dX11_tried_28 (by decide) (fun q_9 => ?_) (fun q_9 => ?_)
      · replace hf := (if_neg q_9).symm.trans hf
        refine x_sub [0, 1, 2] [(0, .ref (ka k a0)), (1, .int x1), (2, .int x2)] rfl ?_
        exact S_X11_tried_33 o F hf hr
      · replace hf := (if_pos q_9).symm.trans hf
        refine x_iconst (v := (-1)) o dX11_tried_31 (by decide) ?_
        cases hf
        exact hr _ _ dX11_tried_32
theorem C_X11_tried {k : Kst} (hj : Dj k) (hn : kn k = kdl.length) (F : Nat) {h : Hp} {a0 : Nat} {x1 : Int32} {x2 : Int32} {r : Int32} {h1 : Hp} (hf : X11_tried F a0 x1 x2 h = some (r, h1)) : MI k 10 yX11_tried cX11_tried 5 (some .int) [.ref (ka k a0), .int x1, .int x2] h r h1 := mI hj hn (by decide +kernel) (Nat.le_of_ble_eq_true rfl) (fun d o hr => S_X11_tried_0 o F hf hr)
set_option maxRecDepth 100000 in
set_option maxHeartbeats 4000000 in
theorem S_X11_sideIs_0 {k : Kst} {d : Kdy} (o : Ok k d cX11_sideIs RX11 3 6) (F : Nat) {h : Hp} {a0 : Nat} {x1 : Int32} {x2 : Int32} {r : Int32} (hf : X11_sideIs F a0 x1 x2 h = some r) (hr : RI k d cX11_sideIs r h) : Wz k d h 0 [(0, .ref (ka k a0)), (1, .int x1), (2, .int x2)] [] := by
  unfold X11_sideIs at hf
  refine x_iload_n o dX11_sideIs_0 1 rfl rfl ?_
  refine x_iconst (v := 0) o dX11_sideIs_1 (by decide) ?_
  refine x_iconst (v := 1) o dX11_sideIs_2 (by decide) ?_
  obtain ⟨c_1, ec_1, hf⟩ := ob_ex hf
  refine vRX11_81 [.int x1, .int 0, .int 1] [] o (C_X11_within o.1.2.2.2.2.2.2.1 o.2 F ec_1) (by decide) rfl rfl (Nat.le_of_ble_eq_true rfl) dX11_sideIs_3 ?_
  refine x_if_ne o 11 dX11_sideIs_6 (by decide) (fun q_3 => ?_) (fun q_3 => ?_)
  · replace hf := (if_neg q_3).symm.trans hf
    refine x_iload_n o dX11_sideIs_11 2 rfl rfl ?_
    obtain ⟨t_4, et_4, hf⟩ := bd_ex hf
    refine x_top et_4 ?_
    by_cases q_5 : t_4 = 0
    · replace hf := (if_pos q_5).symm.trans hf
      refine x_tabi (v := 0) o 56 q_5 (by decide) (by decide) rfl (by decide) dX11_sideIs_12 ?_
      refine x_aload_n o dX11_sideIs_56 0 rfl rfl ?_
      obtain ⟨k_6, hf⟩ := gq_ex hf
      obtain ⟨j_7, ej_7, hf⟩ := ob_ex hf
      refine gRX11_44 o k_6 ej_7 dX11_sideIs_57 ?_
      refine x_iload_n o dX11_sideIs_60 1 rfl rfl ?_
      obtain ⟨k_8, hf⟩ := gq_ex hf
      obtain ⟨j_9, ej_9, hf⟩ := ob_ex hf
      refine vRX11_121 [.int x1] [] o (C_X10_built o.1.2.2.2.2.2.2.1 o.2 F ej_9) (by decide) k_8 rfl rfl (Nat.le_of_ble_eq_true rfl) dX11_sideIs_61 ?_
      obtain ⟨k_11, hf⟩ := gq_ex hf
      refine gRX11_159 o k_11 dX11_sideIs_64 ?_
      cases hf
      exact hr _ _ dX11_sideIs_67
    replace hf := (if_neg q_5).symm.trans hf
    by_cases q_12 : t_4 = 1
    · replace hf := (if_pos q_12).symm.trans hf
      refine x_tabi (v := 1) o 68 q_12 (by decide) (by decide) rfl (by decide) dX11_sideIs_12 ?_
      refine x_aload_n o dX11_sideIs_68 0 rfl rfl ?_
      obtain ⟨k_13, hf⟩ := gq_ex hf
      obtain ⟨j_14, ej_14, hf⟩ := ob_ex hf
      refine gRX11_44 o k_13 ej_14 dX11_sideIs_69 ?_
      refine x_iload_n o dX11_sideIs_72 1 rfl rfl ?_
      obtain ⟨k_15, hf⟩ := gq_ex hf
      obtain ⟨c_16, ec_16, hf⟩ := ob_ex hf
      refine vRX11_160 [.int x1] [] o (C_X10_standing o.1.2.2.2.2.2.2.1 o.2 F ec_16) (by decide) k_15 rfl rfl (Nat.le_of_ble_eq_true rfl) dX11_sideIs_73 ?_
      cases hf
      exact hr _ _ dX11_sideIs_76
    replace hf := (if_neg q_12).symm.trans hf
    by_cases q_18 : t_4 = 2
    · replace hf := (if_pos q_18).symm.trans hf
      refine x_tabi (v := 2) o 77 q_18 (by decide) (by decide) rfl (by decide) dX11_sideIs_12 ?_
      refine x_aload_n o dX11_sideIs_77 0 rfl rfl ?_
      obtain ⟨k_19, hf⟩ := gq_ex hf
      obtain ⟨j_20, ej_20, hf⟩ := ob_ex hf
      refine gRX11_44 o k_19 ej_20 dX11_sideIs_78 ?_
      obtain ⟨k_21, hf⟩ := gq_ex hf
      obtain ⟨j_22, ej_22, hf⟩ := ob_ex hf
      refine gRX11_138 o k_21 ej_22 dX11_sideIs_81 ?_
      refine x_iload_n o dX11_sideIs_84 1 rfl rfl ?_
      obtain ⟨k_23, hf⟩ := gq_ex hf
      obtain ⟨c_24, ec_24, hf⟩ := ob_ex hf
      refine vRX11_163 [.int x1] [] o (C_X8_laidOn o.1.2.2.2.2.2.2.1 o.2 F ec_24) (by decide) k_23 rfl rfl (Nat.le_of_ble_eq_true rfl) dX11_sideIs_85 ?_
      cases hf
      exact hr _ _ dX11_sideIs_88
    replace hf := (if_neg q_18).symm.trans hf
    by_cases q_26 : t_4 = 3
    · replace hf := (if_pos q_26).symm.trans hf
      refine x_tabi (v := 3) o 89 q_26 (by decide) (by decide) rfl (by decide) dX11_sideIs_12 ?_
      refine x_aload_n o dX11_sideIs_89 0 rfl rfl ?_
      obtain ⟨k_27, hf⟩ := gq_ex hf
      obtain ⟨j_28, ej_28, hf⟩ := ob_ex hf
      refine gRX11_44 o k_27 ej_28 dX11_sideIs_90 ?_
      refine x_iload_n o dX11_sideIs_93 1 rfl rfl ?_
      obtain ⟨k_29, hf⟩ := gq_ex hf
      obtain ⟨c_30, ec_30, hf⟩ := ob_ex hf
      refine vRX11_166 [.int x1] [] o (C_X10_lacking o.1.2.2.2.2.2.2.1 o.2 F ec_30) (by decide) k_29 rfl rfl (Nat.le_of_ble_eq_true rfl) dX11_sideIs_94 ?_
      cases hf
      exact hr _ _ dX11_sideIs_97
    replace hf := (if_neg q_26).symm.trans hf
    by_cases q_32 : t_4 = 4
    · replace hf := (if_pos q_32).symm.trans hf
      refine x_tabi (v := 4) o 98 q_32 (by decide) (by decide) rfl (by decide) dX11_sideIs_12 ?_
      refine x_aload_n o dX11_sideIs_98 0 rfl rfl ?_
      obtain ⟨k_33, hf⟩ := gq_ex hf
      obtain ⟨j_34, ej_34, hf⟩ := ob_ex hf
      refine gRX11_44 o k_33 ej_34 dX11_sideIs_99 ?_
      refine x_iload_n o dX11_sideIs_102 1 rfl rfl ?_
      obtain ⟨k_35, hf⟩ := gq_ex hf
      obtain ⟨c_36, ec_36, hf⟩ := ob_ex hf
      refine vRX11_169 [.int x1] [] o (C_X10_weight o.1.2.2.2.2.2.2.1 o.2 F ec_36) (by decide) k_35 rfl rfl (Nat.le_of_ble_eq_true rfl) dX11_sideIs_103 ?_
      cases hf
      exact hr _ _ dX11_sideIs_106
    replace hf := (if_neg q_32).symm.trans hf
    by_cases q_38 : t_4 = 5
    · replace hf := (if_pos q_38).symm.trans hf
      refine x_tabi (v := 5) o 107 q_38 (by decide) (by decide) rfl (by decide) dX11_sideIs_12 ?_
      refine x_aload_n o dX11_sideIs_107 0 rfl rfl ?_
      obtain ⟨k_39, hf⟩ := gq_ex hf
      obtain ⟨j_40, ej_40, hf⟩ := ob_ex hf
      refine gRX11_44 o k_39 ej_40 dX11_sideIs_108 ?_
      refine x_iload_n o dX11_sideIs_111 1 rfl rfl ?_
      obtain ⟨k_41, hf⟩ := gq_ex hf
      obtain ⟨c_42, ec_42, hf⟩ := ob_ex hf
      refine vRX11_172 [.int x1] [] o (C_X10_reached o.1.2.2.2.2.2.2.1 o.2 F ec_42) (by decide) k_41 rfl rfl (Nat.le_of_ble_eq_true rfl) dX11_sideIs_112 ?_
      refine x_if_eq o 122 dX11_sideIs_115 (by decide) (fun q_44 => ?_) (fun q_44 => ?_)
      · replace hf := (if_pos q_44).symm.trans hf
        refine x_iconst (v := 0) o dX11_sideIs_122 (by decide) ?_
        cases hf
        exact hr _ _ dX11_sideIs_123
      · replace hf := (if_neg q_44).symm.trans hf
        refine x_iconst (v := 1) o dX11_sideIs_118 (by decide) ?_
        refine x_goto o 123 dX11_sideIs_119 (by decide) ?_
        cases hf
        exact hr _ _ dX11_sideIs_123
    replace hf := (if_neg q_38).symm.trans hf
    by_cases q_45 : t_4 = 6
    · replace hf := (if_pos q_45).symm.trans hf
      refine x_tabi (v := 6) o 124 q_45 (by decide) (by decide) rfl (by decide) dX11_sideIs_12 ?_
      refine x_aload_n o dX11_sideIs_124 0 rfl rfl ?_
      obtain ⟨k_46, hf⟩ := gq_ex hf
      obtain ⟨j_47, ej_47, hf⟩ := ob_ex hf
      refine gRX11_44 o k_46 ej_47 dX11_sideIs_125 ?_
      refine x_iload_n o dX11_sideIs_128 1 rfl rfl ?_
      obtain ⟨k_48, hf⟩ := gq_ex hf
      obtain ⟨j_49, ej_49, hf⟩ := ob_ex hf
      refine vRX11_121 [.int x1] [] o (C_X10_built o.1.2.2.2.2.2.2.1 o.2 F ej_49) (by decide) k_48 rfl rfl (Nat.le_of_ble_eq_true rfl) dX11_sideIs_129 ?_
      obtain ⟨k_51, hf⟩ := gq_ex hf
      obtain ⟨c_52, ec_52, hf⟩ := ob_ex hf
      refine vRX11_176 [] [] o (C_X5_whole o.1.2.2.2.2.2.2.1 o.2 F ec_52) (by decide) k_51 rfl rfl (Nat.le_of_ble_eq_true rfl) dX11_sideIs_132 ?_
      cases hf
      exact hr _ _ dX11_sideIs_135
    replace hf := (if_neg q_45).symm.trans hf
    refine x_tabo o 136 (by have z0 := lv_neT (a := 0) q_5 rfl; have z1 := lv_neT (a := 1) q_12 rfl; have z2 := lv_neT (a := 2) q_18 rfl; have z3 := lv_neT (a := 3) q_26 rfl; have z4 := lv_neT (a := 4) q_32 rfl; have z5 := lv_neT (a := 5) q_38 rfl; have z6 := lv_neT (a := 6) q_45 rfl; omega) (by decide) dX11_sideIs_12 ?_
    refine x_iconst (v := (-1)) o dX11_sideIs_136 (by decide) ?_
    cases hf
    exact hr _ _ dX11_sideIs_137
  · replace hf := (if_pos q_3).symm.trans hf
    refine x_iconst (v := (-1)) o dX11_sideIs_9 (by decide) ?_
    cases hf
    exact hr _ _ dX11_sideIs_10
theorem C_X11_sideIs {k : Kst} (hj : Dj k) (hn : kn k = kdl.length) (F : Nat) {h : Hp} {a0 : Nat} {x1 : Int32} {x2 : Int32} {r : Int32} (hf : X11_sideIs F a0 x1 x2 h = some r) : MI k 6 yX11_sideIs cX11_sideIs 3 (some .int) [.ref (ka k a0), .int x1, .int x2] h r h := mI hj hn (by decide +kernel) (Nat.le_of_ble_eq_true rfl) (fun d o hr => S_X11_sideIs_0 o F hf hr)
