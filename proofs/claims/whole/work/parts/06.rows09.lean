set_option maxRecDepth 100000 in
set_option maxHeartbeats 4000000 in
theorem S_X12_readsMore_78 {k : Kst} {d : Kdy} (o : Ok k d cX12_readsMore RX12 4 6) (F : Nat) {h : Hp} {r0 : Nat} {s1 : Int32} {s2 : Int32} {s3 : Int32} {s4 : Int32} {s5 : Int32} {r : Int32} {h1 : Hp} (hf : X12_readsMore_78 F r0 s1 s2 s3 s4 s5 h = some (r, h1)) (hr : RZ k d cX12_readsMore r h1) : Wz k d h 78 [] [.int s5, .int s4, .int s3, .int s2, .int s1, .ref (ka k r0)] := by
  unfold X12_readsMore_78 at hf
  refine x_iadd o dX12_readsMore_78 ?_
  obtain ⟨c_1, ec_1, hf⟩ := ob_ex hf
  refine vRX12_269 [.int s3, .int (s4 + s5)] [.int s2, .int s1, .ref (ka k r0)] o (C_X12_min o.1.2.2.2.2.2.2.1 o.2 F ec_1) (by decide) rfl rfl (Nat.le_of_ble_eq_true rfl) dX12_readsMore_79 ?_
  obtain ⟨c_3, ec_3, hf⟩ := ob_ex hf
  refine vRX12_272 [.int s2, .int c_1] [.int s1, .ref (ka k r0)] o (C_X12_max o.1.2.2.2.2.2.2.1 o.2 F ec_3) (by decide) rfl rfl (Nat.le_of_ble_eq_true rfl) dX12_readsMore_82 ?_
  obtain ⟨k_5, hf⟩ := gq_ex hf
  obtain ⟨b_6, hf⟩ := gq_ex hf
  obtain ⟨h_7, eh_7, hf⟩ := bd_ex hf
  refine x_iast o k_5 b_6 dX12_readsMore_85 (x_h eh_7 ?_)
  refine x_iconst (v := 1) o dX12_readsMore_86 (by decide) ?_
  cases hf
  exact hr (Or.inr rfl) _ _ dX12_readsMore_87
set_option maxRecDepth 100000 in
set_option maxHeartbeats 4000000 in
theorem S_X12_readsMore_27 {k : Kst} {d : Kdy} (o : Ok k d cX12_readsMore RX12 4 6) (F : Nat) {h : Hp} {a0 : Nat} {x1 : Int32} {x2 : Int32} {x3 : Int32} {r : Int32} {h1 : Hp} (hf : X12_readsMore_27 F a0 x1 x2 x3 h = some (r, h1)) (hr : RZ k d cX12_readsMore r h1) : Wz k d h 27 [(0, .ref (ka k a0)), (1, .int x1), (2, .int x2), (3, .int x3)] [] := by
  unfold X12_readsMore_27 at hf
  refine x_aload_n o dX12_readsMore_27 0 rfl rfl ?_
  refine x_aload_n o dX12_readsMore_28 0 rfl rfl ?_
  obtain ⟨k_1, hf⟩ := gq_ex hf
  refine gRX12_135 o k_1 dX12_readsMore_29 ?_
  refine x_iconst (v := 1) o dX12_readsMore_32 (by decide) ?_
  refine x_iadd o dX12_readsMore_33 ?_
  obtain ⟨h_2, eh_2, hf⟩ := bd_ex hf
  refine pRX12_135 o k_1 eh_2 dX12_readsMore_34 ?_
  refine x_aload_n o dX12_readsMore_37 0 rfl rfl ?_
  refine x_iconst (v := 4) o dX12_readsMore_38 (by decide) ?_
  obtain ⟨c_3, h_4, ec_3, hf⟩ := bq_ex hf
  refine vRX12_257 [.int 4] [] o (C_X12_readsAmount o.1.2.2.2.2.2.2.1 o.2 F ec_3) (by decide) k_1 rfl rfl (Nat.le_of_ble_eq_true rfl) dX12_readsMore_39 ?_
  refine x_if_ne o 47 dX12_readsMore_42 (by decide) (fun q_5 => ?_) (fun q_5 => ?_)
  · replace hf := (if_neg q_5).symm.trans hf
    refine x_aload_n o dX12_readsMore_47 0 rfl rfl ?_
    obtain ⟨j_6, ej_6, hf⟩ := ob_ex hf
    refine gRX12_7 o k_1 ej_6 dX12_readsMore_48 ?_
    refine x_iload_n o dX12_readsMore_51 1 rfl rfl ?_
    refine x_iconst (v := 0) o dX12_readsMore_52 (by decide) ?_
    refine x_iload_n o dX12_readsMore_53 2 rfl rfl ?_
    refine x_aload_n o dX12_readsMore_54 0 rfl rfl ?_
    refine gRX12_7 o k_1 ej_6 dX12_readsMore_55 ?_
    refine x_iload_n o dX12_readsMore_58 1 rfl rfl ?_
    obtain ⟨k_7, hf⟩ := gq_ex hf
    obtain ⟨b_8, hf⟩ := gq_ex hf
    refine x_iald o k_7 b_8 dX12_readsMore_59 ?_
    refine x_iload_n o dX12_readsMore_60 3 rfl rfl ?_
    refine x_bipush (v := 43) o dX12_readsMore_61 (by decide) ?_
    refine x_icmp_ne o 73 dX12_readsMore_63 (by decide) (fun q_9 => ?_) (fun q_9 => ?_)
    · replace hf := (if_neg q_9).symm.trans hf
      refine x_aload_n o dX12_readsMore_73 0 rfl rfl ?_
      refine gRX12_152 o k_1 dX12_readsMore_74 ?_
      refine x_ineg o dX12_readsMore_77 ?_
      refine x_sub [] [] rfl ?_
      exact S_X12_readsMore_78 o F hf hr
    · replace hf := (if_pos q_9).symm.trans hf
      refine x_aload_n o dX12_readsMore_66 0 rfl rfl ?_
      refine gRX12_152 o k_1 dX12_readsMore_67 ?_
      refine x_goto o 78 dX12_readsMore_70 (by decide) ?_
      refine x_sub [] [] rfl ?_
      exact S_X12_readsMore_78 o F hf hr
  · replace hf := (if_pos q_5).symm.trans hf
    refine x_iconst (v := 0) o dX12_readsMore_45 (by decide) ?_
    cases hf
    exact hr (Or.inl rfl) _ _ dX12_readsMore_46
set_option maxRecDepth 100000 in
set_option maxHeartbeats 4000000 in
theorem S_X12_readsMore_0 {k : Kst} {d : Kdy} (o : Ok k d cX12_readsMore RX12 4 6) (F : Nat) {h : Hp} {a0 : Nat} {x1 : Int32} {x2 : Int32} {r : Int32} {h1 : Hp} (hf : X12_readsMore F a0 x1 x2 h = some (r, h1)) (hr : RZ k d cX12_readsMore r h1) : Wz k d h 0 [(0, .ref (ka k a0)), (1, .int x1), (2, .int x2)] [] := by
  unfold X12_readsMore at hf
  refine x_aload_n o dX12_readsMore_0 0 rfl rfl ?_
  obtain ⟨k_1, hf⟩ := gq_ex hf
  obtain ⟨c_2, ec_2, hf⟩ := ob_ex hf
  refine vRX12_141 [] [] o (C_X12_here o.1.2.2.2.2.2.2.1 o.2 F ec_2) (by decide) k_1 rfl rfl (Nat.le_of_ble_eq_true rfl) dX12_readsMore_1 ?_
  refine x_istore_n o dX12_readsMore_4 (by decide) rfl [(3, .int c_2), (0, .ref (ka k a0)), (1, .int x1), (2, .int x2)] rfl ?_
  refine x_iload_n o dX12_readsMore_5 0 rfl rfl ?_
  refine x_bipush (v := 43) o dX12_readsMore_6 (by decide) ?_
  refine x_icmp_eq o 27 dX12_readsMore_8 (by decide) (fun q_4 => ?_) (fun q_4 => ?_)
  · replace hf := (if_pos q_4).symm.trans hf
    refine x_sub [1, 2, 3, 0] [(0, .ref (ka k a0)), (1, .int x1), (2, .int x2), (3, .int c_2)] rfl ?_
    exact S_X12_readsMore_27 o F hf hr
  · replace hf := (if_neg q_4).symm.trans hf
    refine x_iload_n o dX12_readsMore_11 0 rfl rfl ?_
    refine x_bipush (v := 45) o dX12_readsMore_12 (by decide) ?_
    refine x_icmp_eq o 27 dX12_readsMore_14 (by decide) (fun q_5 => ?_) (fun q_5 => ?_)
    · replace hf := (if_pos q_5).symm.trans hf
      refine x_sub [1, 2, 3, 0] [(0, .ref (ka k a0)), (1, .int x1), (2, .int x2), (3, .int c_2)] rfl ?_
      exact S_X12_readsMore_27 o F hf hr
    · replace hf := (if_neg q_5).symm.trans hf
      refine x_aload_n o dX12_readsMore_17 1 rfl rfl ?_
      refine x_iconst (v := 1) o dX12_readsMore_18 (by decide) ?_
      refine x_aload_n o dX12_readsMore_19 1 rfl rfl ?_
      refine gRX12_135 o k_1 dX12_readsMore_20 ?_
      obtain ⟨c_6, h_7, ec_6, hf⟩ := bq_ex hf
      refine vRX12_148 [.int 1, .int (h.1 a0 8)] [] o (C_X12_wrongAt o.1.2.2.2.2.2.2.1 o.2 F ec_6) (by decide) k_1 rfl rfl (Nat.le_of_ble_eq_true rfl) dX12_readsMore_23 ?_
      obtain ⟨n_8, hf⟩ := gq_ex hf
      cases hf
      exact hr n_8 _ _ dX12_readsMore_26
theorem C_X12_readsMore {k : Kst} (hj : Dj k) (hn : kn k = kdl.length) (F : Nat) {h : Hp} {a0 : Nat} {x1 : Int32} {x2 : Int32} {r : Int32} {h1 : Hp} (hf : X12_readsMore F a0 x1 x2 h = some (r, h1)) : MI k 6 yX12_readsMore cX12_readsMore 4 (some .boolean) [.ref (ka k a0), .int x1, .int x2] h r h1 := mZ hj hn (by decide +kernel) (Nat.le_of_ble_eq_true rfl) (fun d o hr => S_X12_readsMore_0 o F hf hr)
set_option maxRecDepth 100000 in
set_option maxHeartbeats 4000000 in
theorem S_X12_readsBench_0 {k : Kst} {d : Kdy} (o : Ok k d cX12_readsBench RX12 4 6) (F : Nat) {h : Hp} {a0 : Nat} {x1 : Int32} {r : Int32} {h1 : Hp} (hf : X12_readsBench F a0 x1 h = some (r, h1)) (hr : RZ k d cX12_readsBench r h1) : Wz k d h 0 [(0, .ref (ka k a0)), (1, .int x1)] [] := by
  unfold X12_readsBench at hf
  refine x_aload_n o dX12_readsBench_0 0 rfl rfl ?_
  refine x_aload_n o dX12_readsBench_1 0 rfl rfl ?_
  obtain ⟨k_1, hf⟩ := gq_ex hf
  refine gRX12_135 o k_1 dX12_readsBench_2 ?_
  refine x_iconst (v := 1) o dX12_readsBench_5 (by decide) ?_
  refine x_iadd o dX12_readsBench_6 ?_
  obtain ⟨h_2, eh_2, hf⟩ := bd_ex hf
  refine pRX12_135 o k_1 eh_2 dX12_readsBench_7 ?_
  refine x_aload_n o dX12_readsBench_10 0 rfl rfl ?_
  refine gRX12_135 o k_1 dX12_readsBench_11 ?_
  obtain ⟨x2_3, ex2_3, hf⟩ := bd_ex hf
  refine x_top ex2_3 ?_
  refine x_istore_n o dX12_readsBench_14 (by decide) rfl [(2, .int x2_3), (0, .ref (ka k a0)), (1, .int x1)] rfl ?_
  refine x_aload_n o dX12_readsBench_15 1 rfl rfl ?_
  refine x_iconst (v := 4) o dX12_readsBench_16 (by decide) ?_
  obtain ⟨c_4, h_5, ec_4, hf⟩ := bq_ex hf
  refine vRX12_257 [.int 4] [] o (C_X12_readsAmount o.1.2.2.2.2.2.2.1 o.2 F ec_4) (by decide) k_1 rfl rfl (Nat.le_of_ble_eq_true rfl) dX12_readsBench_17 ?_
  refine x_if_ne o 25 dX12_readsBench_20 (by decide) (fun q_6 => ?_) (fun q_6 => ?_)
  · replace hf := (if_neg q_6).symm.trans hf
    refine x_aload_n o dX12_readsBench_25 1 rfl rfl ?_
    refine gRX12_152 o k_1 dX12_readsBench_26 ?_
    obtain ⟨x3_7, ex3_7, hf⟩ := bd_ex hf
    refine x_top ex3_7 ?_
    refine x_istore_n o dX12_readsBench_29 (by decide) rfl [(3, .int x3_7), (2, .int x2_3), (0, .ref (ka k a0)), (1, .int x1)] rfl ?_
    refine x_iload_n o dX12_readsBench_30 0 rfl rfl ?_
    refine x_iconst (v := 1) o dX12_readsBench_31 (by decide) ?_
    refine x_bipush (v := 20) o dX12_readsBench_32 (by decide) ?_
    obtain ⟨c_8, ec_8, hf⟩ := ob_ex hf
    refine vRX12_113 [.int x3_7, .int 1, .int 20] [] o (C_X12_in o.1.2.2.2.2.2.2.1 o.2 F ec_8) (by decide) rfl rfl (Nat.le_of_ble_eq_true rfl) dX12_readsBench_34 ?_
    refine x_if_ne o 47 dX12_readsBench_37 (by decide) (fun q_10 => ?_) (fun q_10 => ?_)
    · replace hf := (if_neg q_10).symm.trans hf
      refine x_aload_n o dX12_readsBench_47 2 rfl rfl ?_
      refine x_bipush (v := 58) o dX12_readsBench_48 (by decide) ?_
      obtain ⟨c_11, h_12, ec_11, hf⟩ := bq_ex hf
      refine vRX12_226 [.int 58] [] o (C_X12_takes o.1.2.2.2.2.2.2.1 o.2 F ec_11) (by decide) k_1 rfl rfl (Nat.le_of_ble_eq_true rfl) dX12_readsBench_50 ?_
      refine x_if_ne o 58 dX12_readsBench_53 (by decide) (fun q_13 => ?_) (fun q_13 => ?_)
      · replace hf := (if_neg q_13).symm.trans hf
        refine x_aload_n o dX12_readsBench_58 2 rfl rfl ?_
        refine gRX12_135 o k_1 dX12_readsBench_59 ?_
        obtain ⟨x2_14, ex2_14, hf⟩ := bd_ex hf
        refine x_top ex2_14 ?_
        refine x_istore_n o dX12_readsBench_62 (by decide) rfl [(2, .int x2_14), (3, .int x3_7), (0, .ref (ka k a0)), (1, .int x1)] rfl ?_
        refine x_aload_n o dX12_readsBench_63 2 rfl rfl ?_
        refine x_iconst (v := 4) o dX12_readsBench_64 (by decide) ?_
        obtain ⟨c_15, h_16, ec_15, hf⟩ := bq_ex hf
        refine vRX12_257 [.int 4] [] o (C_X12_readsAmount o.1.2.2.2.2.2.2.1 o.2 F ec_15) (by decide) k_1 rfl rfl (Nat.le_of_ble_eq_true rfl) dX12_readsBench_65 ?_
        refine x_if_ne o 73 dX12_readsBench_68 (by decide) (fun q_17 => ?_) (fun q_17 => ?_)
        · replace hf := (if_neg q_17).symm.trans hf
          refine x_aload_n o dX12_readsBench_73 2 rfl rfl ?_
          refine gRX12_152 o k_1 dX12_readsBench_74 ?_
          refine x_sipush (v := 255) o dX12_readsBench_77 (by decide) ?_
          refine x_icmp_le o 90 dX12_readsBench_80 (by decide) (fun q_18 => ?_) (fun q_18 => ?_)
          · replace hf := (if_pos q_18).symm.trans hf
            refine x_aload_n o dX12_readsBench_90 2 rfl rfl ?_
            obtain ⟨j_19, ej_19, hf⟩ := ob_ex hf
            refine gRX12_7 o k_1 ej_19 dX12_readsBench_91 ?_
            refine x_iconst (v := 2) o dX12_readsBench_94 (by decide) ?_
            refine x_bipush (v := 20) o dX12_readsBench_95 (by decide) ?_
            refine x_iload_n o dX12_readsBench_97 3 rfl rfl ?_
            refine x_imul o dX12_readsBench_98 ?_
            refine x_iadd o dX12_readsBench_99 ?_
            refine x_iload_n o dX12_readsBench_100 1 rfl rfl ?_
            refine x_iadd o dX12_readsBench_101 ?_
            refine x_iconst (v := 1) o dX12_readsBench_102 (by decide) ?_
            refine x_isub o dX12_readsBench_103 ?_
            refine x_aload_n o dX12_readsBench_104 2 rfl rfl ?_
            refine gRX12_152 o k_1 dX12_readsBench_105 ?_
            obtain ⟨k_20, hf⟩ := gq_ex hf
            obtain ⟨b_21, hf⟩ := gq_ex hf
            obtain ⟨h_22, eh_22, hf⟩ := bd_ex hf
            refine x_iast o k_20 b_21 dX12_readsBench_108 (x_h eh_22 ?_)
            refine x_iconst (v := 1) o dX12_readsBench_109 (by decide) ?_
            cases hf
            exact hr (Or.inr rfl) _ _ dX12_readsBench_110
          · replace hf := (if_neg q_18).symm.trans hf
            refine x_aload_n o dX12_readsBench_83 2 rfl rfl ?_
            refine x_iconst (v := 3) o dX12_readsBench_84 (by decide) ?_
            refine x_iload_n o dX12_readsBench_85 0 rfl rfl ?_
            obtain ⟨c_23, h_24, ec_23, hf⟩ := bq_ex hf
            refine vRX12_148 [.int 3, .int x2_14] [] o (C_X12_wrongAt o.1.2.2.2.2.2.2.1 o.2 F ec_23) (by decide) k_1 rfl rfl (Nat.le_of_ble_eq_true rfl) dX12_readsBench_86 ?_
            obtain ⟨n_25, hf⟩ := gq_ex hf
            cases hf
            exact hr n_25 _ _ dX12_readsBench_89
        · replace hf := (if_pos q_17).symm.trans hf
          refine x_iconst (v := 0) o dX12_readsBench_71 (by decide) ?_
          cases hf
          exact hr (Or.inl rfl) _ _ dX12_readsBench_72
      · replace hf := (if_pos q_13).symm.trans hf
        refine x_iconst (v := 0) o dX12_readsBench_56 (by decide) ?_
        cases hf
        exact hr (Or.inl rfl) _ _ dX12_readsBench_57
    · replace hf := (if_pos q_10).symm.trans hf
      refine x_aload_n o dX12_readsBench_40 2 rfl rfl ?_
      refine x_iconst (v := 3) o dX12_readsBench_41 (by decide) ?_
      refine x_iload_n o dX12_readsBench_42 1 rfl rfl ?_
      obtain ⟨c_26, h_27, ec_26, hf⟩ := bq_ex hf
      refine vRX12_148 [.int 3, .int x2_3] [] o (C_X12_wrongAt o.1.2.2.2.2.2.2.1 o.2 F ec_26) (by decide) k_1 rfl rfl (Nat.le_of_ble_eq_true rfl) dX12_readsBench_43 ?_
      obtain ⟨n_28, hf⟩ := gq_ex hf
      cases hf
      exact hr n_28 _ _ dX12_readsBench_46
  · replace hf := (if_pos q_6).symm.trans hf
    refine x_iconst (v := 0) o dX12_readsBench_23 (by decide) ?_
    cases hf
    exact hr (Or.inl rfl) _ _ dX12_readsBench_24
theorem C_X12_readsBench {k : Kst} (hj : Dj k) (hn : kn k = kdl.length) (F : Nat) {h : Hp} {a0 : Nat} {x1 : Int32} {r : Int32} {h1 : Hp} (hf : X12_readsBench F a0 x1 h = some (r, h1)) : MI k 6 yX12_readsBench cX12_readsBench 4 (some .boolean) [.ref (ka k a0), .int x1] h r h1 := mZ hj hn (by decide +kernel) (Nat.le_of_ble_eq_true rfl) (fun d o hr => S_X12_readsBench_0 o F hf hr)
set_option maxRecDepth 100000 in
set_option maxHeartbeats 4000000 in
theorem S_X12_readsLine_120 {k : Kst} {d : Kdy} (o : Ok k d cX12_readsLine RX12 3 7) (F : Nat) {h : Hp} {a0 : Nat} {s0 : Int32} {r : Int32} {h1 : Hp} (hf : X12_readsLine_120 F a0 s0 h = some (r, h1)) (hr : RZ k d cX12_readsLine r h1) : Wz k d h 120 [(0, .ref (ka k a0))] [.int s0] := by
  unfold X12_readsLine_120 at hf
  refine x_istore_n o dX12_readsLine_120 (by decide) rfl [(2, .int s0), (0, .ref (ka k a0))] rfl ?_
  refine x_aload_n o dX12_readsLine_121 1 rfl rfl ?_
  obtain ⟨k_1, hf⟩ := gq_ex hf
  obtain ⟨c_2, ec_2, hf⟩ := ob_ex hf
  refine vRX12_141 [] [] o (C_X12_here o.1.2.2.2.2.2.2.1 o.2 F ec_2) (by decide) k_1 rfl rfl (Nat.le_of_ble_eq_true rfl) dX12_readsLine_122 ?_
  refine x_bipush (v := 98) o dX12_readsLine_125 (by decide) ?_
  refine x_icmp_ne o 138 dX12_readsLine_127 (by decide) (fun q_4 => ?_) (fun q_4 => ?_)
  · replace hf := (if_neg q_4).symm.trans hf
    refine x_aload_n o dX12_readsLine_138 1 rfl rfl ?_
    refine x_iconst (v := 0) o dX12_readsLine_139 (by decide) ?_
    refine x_iload_n o dX12_readsLine_140 0 rfl rfl ?_
    refine x_iadd o dX12_readsLine_141 ?_
    refine x_sipush (v := 9999) o dX12_readsLine_142 (by decide) ?_
    obtain ⟨c_5, h_6, ec_5, hf⟩ := bq_ex hf
    refine vRX12_278 [.int (0 + s0), .int 9999] [] o (C_X12_readsMore o.1.2.2.2.2.2.2.1 o.2 F ec_5) (by decide) k_1 rfl rfl (Nat.le_of_ble_eq_true rfl) dX12_readsLine_145 ?_
    obtain ⟨n_7, hf⟩ := gq_ex hf
    cases hf
    exact hr n_7 _ _ dX12_readsLine_148
  · replace hf := (if_pos q_4).symm.trans hf
    refine x_aload_n o dX12_readsLine_130 1 rfl rfl ?_
    refine x_iload_n o dX12_readsLine_131 0 rfl rfl ?_
    obtain ⟨c_8, h_9, ec_8, hf⟩ := bq_ex hf
    refine vRX12_282 [.int s0] [] o (C_X12_readsBench o.1.2.2.2.2.2.2.1 o.2 F ec_8) (by decide) k_1 rfl rfl (Nat.le_of_ble_eq_true rfl) dX12_readsLine_132 ?_
    refine x_goto o 148 dX12_readsLine_135 (by decide) ?_
    obtain ⟨n_10, hf⟩ := gq_ex hf
    cases hf
    exact hr n_10 _ _ dX12_readsLine_148
set_option maxRecDepth 100000 in
set_option maxHeartbeats 4000000 in
theorem S_X12_readsLine_39 {k : Kst} {d : Kdy} (o : Ok k d cX12_readsLine RX12 3 7) (F : Nat) {h : Hp} {a0 : Nat} {x1 : Int32} {r : Int32} {h1 : Hp} (hf : X12_readsLine_39 F a0 x1 h = some (r, h1)) (hr : RZ k d cX12_readsLine r h1) : Wz k d h 39 [(0, .ref (ka k a0)), (1, .int x1)] [] := by
  unfold X12_readsLine_39 at hf
  refine x_aload_n o dX12_readsLine_39 0 rfl rfl ?_
  obtain ⟨k_1, hf⟩ := gq_ex hf
  refine gRX12_275 o k_1 dX12_readsLine_40 ?_
  refine x_bipush (v := 20) o dX12_readsLine_43 (by decide) ?_
  refine x_icmp_ne o 58 dX12_readsLine_45 (by decide) (fun q_2 => ?_) (fun q_2 => ?_)
  · replace hf := (if_neg q_2).symm.trans hf
    refine x_aload_n o dX12_readsLine_58 0 rfl rfl ?_
    refine x_aload_n o dX12_readsLine_59 0 rfl rfl ?_
    refine gRX12_275 o k_1 dX12_readsLine_60 ?_
    refine x_iconst (v := 1) o dX12_readsLine_63 (by decide) ?_
    refine x_iadd o dX12_readsLine_64 ?_
    obtain ⟨h_3, eh_3, hf⟩ := bd_ex hf
    refine pRX12_275 o k_1 eh_3 dX12_readsLine_65 ?_
    refine x_aload_n o dX12_readsLine_68 0 rfl rfl ?_
    refine x_aload_n o dX12_readsLine_69 0 rfl rfl ?_
    refine gRX12_135 o k_1 dX12_readsLine_70 ?_
    refine x_iconst (v := 1) o dX12_readsLine_73 (by decide) ?_
    refine x_iadd o dX12_readsLine_74 ?_
    obtain ⟨h_4, eh_4, hf⟩ := bd_ex hf
    refine pRX12_135 o k_1 eh_4 dX12_readsLine_75 ?_
    refine x_iload_n o dX12_readsLine_78 1 rfl rfl ?_
    refine x_bipush (v := 115) o dX12_readsLine_79 (by decide) ?_
    refine x_icmp_ne o 93 dX12_readsLine_81 (by decide) (fun q_5 => ?_) (fun q_5 => ?_)
    · replace hf := (if_neg q_5).symm.trans hf
      refine x_iload_n o dX12_readsLine_93 1 rfl rfl ?_
      refine x_bipush (v := 100) o dX12_readsLine_94 (by decide) ?_
      refine x_icmp_ne o 109 dX12_readsLine_96 (by decide) (fun q_6 => ?_) (fun q_6 => ?_)
      · replace hf := (if_neg q_6).symm.trans hf
        refine x_iload_n o dX12_readsLine_109 1 rfl rfl ?_
        refine x_bipush (v := 108) o dX12_readsLine_110 (by decide) ?_
        refine x_icmp_ne o 119 dX12_readsLine_112 (by decide) (fun q_7 => ?_) (fun q_7 => ?_)
        · replace hf := (if_neg q_7).symm.trans hf
          refine x_iconst (v := 1) o dX12_readsLine_119 (by decide) ?_
          refine x_sub [0] [(0, .ref (ka k a0))] rfl ?_
          exact S_X12_readsLine_120 o F hf hr
        · replace hf := (if_pos q_7).symm.trans hf
          refine x_iconst (v := 0) o dX12_readsLine_115 (by decide) ?_
          refine x_goto o 120 dX12_readsLine_116 (by decide) ?_
          refine x_sub [0] [(0, .ref (ka k a0))] rfl ?_
          exact S_X12_readsLine_120 o F hf hr
      · replace hf := (if_pos q_6).symm.trans hf
        refine x_aload_n o dX12_readsLine_99 0 rfl rfl ?_
        refine x_bipush (v := 43) o dX12_readsLine_100 (by decide) ?_
        refine x_ldcw (v := 999999) o dX12_readsLine_102 wRX12_281 ?_
        obtain ⟨c_8, h_9, ec_8, hf⟩ := bq_ex hf
        refine vRX12_278 [.int 43, .int 999999] [] o (C_X12_readsMore o.1.2.2.2.2.2.2.1 o.2 F ec_8) (by decide) k_1 rfl rfl (Nat.le_of_ble_eq_true rfl) dX12_readsLine_105 ?_
        obtain ⟨n_10, hf⟩ := gq_ex hf
        cases hf
        exact hr n_10 _ _ dX12_readsLine_108
    · replace hf := (if_pos q_5).symm.trans hf
      refine x_aload_n o dX12_readsLine_84 0 rfl rfl ?_
      refine x_bipush (v := 42) o dX12_readsLine_85 (by decide) ?_
      refine x_ldc (v := 99999) o dX12_readsLine_87 wRX12_108 ?_
      obtain ⟨c_11, h_12, ec_11, hf⟩ := bq_ex hf
      refine vRX12_278 [.int 42, .int 99999] [] o (C_X12_readsMore o.1.2.2.2.2.2.2.1 o.2 F ec_11) (by decide) k_1 rfl rfl (Nat.le_of_ble_eq_true rfl) dX12_readsLine_89 ?_
      obtain ⟨n_13, hf⟩ := gq_ex hf
      cases hf
      exact hr n_13 _ _ dX12_readsLine_92
  · replace hf := (if_pos q_2).symm.trans hf
    refine x_aload_n o dX12_readsLine_48 0 rfl rfl ?_
    refine x_iconst (v := 4) o dX12_readsLine_49 (by decide) ?_
    refine x_aload_n o dX12_readsLine_50 0 rfl rfl ?_
    refine gRX12_135 o k_1 dX12_readsLine_51 ?_
    obtain ⟨c_14, h_15, ec_14, hf⟩ := bq_ex hf
    refine vRX12_148 [.int 4, .int (h.1 a0 8)] [] o (C_X12_wrongAt o.1.2.2.2.2.2.2.1 o.2 F ec_14) (by decide) k_1 rfl rfl (Nat.le_of_ble_eq_true rfl) dX12_readsLine_54 ?_
    obtain ⟨n_16, hf⟩ := gq_ex hf
    cases hf
    exact hr n_16 _ _ dX12_readsLine_57
set_option maxRecDepth 100000 in
set_option maxHeartbeats 4000000 in
theorem S_X12_readsLine_0 {k : Kst} {d : Kdy} (o : Ok k d cX12_readsLine RX12 3 7) (F : Nat) {h : Hp} {a0 : Nat} {r : Int32} {h1 : Hp} (hf : X12_readsLine F a0 h = some (r, h1)) (hr : RZ k d cX12_readsLine r h1) : Wz k d h 0 [(0, .ref (ka k a0))] [] := by
  unfold X12_readsLine at hf
  refine x_aload_n o dX12_readsLine_0 0 rfl rfl ?_
  obtain ⟨k_1, hf⟩ := gq_ex hf
  obtain ⟨c_2, ec_2, hf⟩ := ob_ex hf
  refine vRX12_141 [] [] o (C_X12_here o.1.2.2.2.2.2.2.1 o.2 F ec_2) (by decide) k_1 rfl rfl (Nat.le_of_ble_eq_true rfl) dX12_readsLine_1 ?_
  refine x_istore_n o dX12_readsLine_4 (by decide) rfl [(1, .int c_2), (0, .ref (ka k a0))] rfl ?_
  refine x_iload_n o dX12_readsLine_5 0 rfl rfl ?_
  refine x_bipush (v := 108) o dX12_readsLine_6 (by decide) ?_
  refine x_icmp_eq o 39 dX12_readsLine_8 (by decide) (fun q_4 => ?_) (fun q_4 => ?_)
  · replace hf := (if_pos q_4).symm.trans hf
    refine x_sub [1, 0] [(0, .ref (ka k a0)), (1, .int c_2)] rfl ?_
    exact S_X12_readsLine_39 o F hf hr
  · replace hf := (if_neg q_4).symm.trans hf
    refine x_iload_n o dX12_readsLine_11 0 rfl rfl ?_
    refine x_bipush (v := 114) o dX12_readsLine_12 (by decide) ?_
    refine x_icmp_eq o 39 dX12_readsLine_14 (by decide) (fun q_5 => ?_) (fun q_5 => ?_)
    · replace hf := (if_pos q_5).symm.trans hf
      refine x_sub [1, 0] [(0, .ref (ka k a0)), (1, .int c_2)] rfl ?_
      exact S_X12_readsLine_39 o F hf hr
    · replace hf := (if_neg q_5).symm.trans hf
      refine x_iload_n o dX12_readsLine_17 0 rfl rfl ?_
      refine x_bipush (v := 115) o dX12_readsLine_18 (by decide) ?_
      refine x_icmp_eq o 39 dX12_readsLine_20 (by decide) (fun q_6 => ?_) (fun q_6 => ?_)
      · replace hf := (if_pos q_6).symm.trans hf
        refine x_sub [1, 0] [(0, .ref (ka k a0)), (1, .int c_2)] rfl ?_
        exact S_X12_readsLine_39 o F hf hr
      · replace hf := (if_neg q_6).symm.trans hf
        refine x_iload_n o dX12_readsLine_23 0 rfl rfl ?_
        refine x_bipush (v := 100) o dX12_readsLine_24 (by decide) ?_
        refine x_icmp_eq o 39 dX12_readsLine_26 (by decide) (fun q_7 => ?_) (fun q_7 => ?_)
        · replace hf := (if_pos q_7).symm.trans hf
          refine x_sub [1, 0] [(0, .ref (ka k a0)), (1, .int c_2)] rfl ?_
          exact S_X12_readsLine_39 o F hf hr
        · replace hf := (if_neg q_7).symm.trans hf
          refine x_aload_n o dX12_readsLine_29 1 rfl rfl ?_
          refine x_iconst (v := 1) o dX12_readsLine_30 (by decide) ?_
          refine x_aload_n o dX12_readsLine_31 1 rfl rfl ?_
          refine gRX12_135 o k_1 dX12_readsLine_32 ?_
          obtain ⟨c_8, h_9, ec_8, hf⟩ := bq_ex hf
          refine vRX12_148 [.int 1, .int (h.1 a0 8)] [] o (C_X12_wrongAt o.1.2.2.2.2.2.2.1 o.2 F ec_8) (by decide) k_1 rfl rfl (Nat.le_of_ble_eq_true rfl) dX12_readsLine_35 ?_
          obtain ⟨n_10, hf⟩ := gq_ex hf
          cases hf
          exact hr n_10 _ _ dX12_readsLine_38
theorem C_X12_readsLine {k : Kst} (hj : Dj k) (hn : kn k = kdl.length) (F : Nat) {h : Hp} {a0 : Nat} {r : Int32} {h1 : Hp} (hf : X12_readsLine F a0 h = some (r, h1)) : MI k 7 yX12_readsLine cX12_readsLine 3 (some .boolean) [.ref (ka k a0)] h r h1 := mZ hj hn (by decide +kernel) (Nat.le_of_ble_eq_true rfl) (fun d o hr => S_X12_readsLine_0 o F hf hr)
set_option maxRecDepth 100000 in
set_option maxHeartbeats 4000000 in
theorem S_X12_orders_86 {k : Kst} {d : Kdy} (o : Ok k d cX12_orders RX12 3 8) (F : Nat) {h : Hp} {a0 : Nat} {x2 : Int32} {r : Int32} {h1 : Hp} (hf : X12_orders_86 F a0 x2 h = some (r, h1)) (hr : RI k d cX12_orders r h1) : Wz k d h 86 [(0, .ref (ka k a0)), (2, .int x2)] [] := by
  unfold X12_orders_86 at hf
  refine x_aload_n o dX12_orders_86 0 rfl rfl ?_
  refine x_iconst (v := 0) o dX12_orders_87 (by decide) ?_
  obtain ⟨k_1, hf⟩ := gq_ex hf
  obtain ⟨h_2, eh_2, hf⟩ := bd_ex hf
  refine pRX12_128 o k_1 eh_2 dX12_orders_88 ?_
  refine x_iload_n o dX12_orders_91 1 rfl rfl ?_
  refine x_if_eq o 100 dX12_orders_92 (by decide) (fun q_3 => ?_) (fun q_3 => ?_)
  · replace hf := (if_pos q_3).symm.trans hf
    refine x_aload_n o dX12_orders_100 0 rfl rfl ?_
    obtain ⟨j_4, ej_4, hf⟩ := ob_ex hf
    refine gRX12_13 o k_1 ej_4 dX12_orders_101 ?_
    refine x_aload_n o dX12_orders_104 0 rfl rfl ?_
    obtain ⟨j_5, ej_5, hf⟩ := ob_ex hf
    refine gRX12_7 o k_1 ej_5 dX12_orders_105 ?_
    obtain ⟨h_7, eh_7, hf⟩ := ob_ex hf
    refine vRX12_285 [.ref (ka k j_4), .ref (ka k j_5)] [] o (C_X12_copies o.1.2.2.2.2.2.2.1 o.2 F eh_7) (by decide) rfl rfl (Nat.le_of_ble_eq_true rfl) dX12_orders_108 ?_
    refine x_aload_n o dX12_orders_111 0 rfl rfl ?_
    refine gRX12_145 o k_1 dX12_orders_112 ?_
    cases hf
    exact hr _ _ dX12_orders_115
  · replace hf := (if_neg q_3).symm.trans hf
    refine x_aload_n o dX12_orders_95 0 rfl rfl ?_
    refine gRX12_275 o k_1 dX12_orders_96 ?_
    cases hf
    exact hr _ _ dX12_orders_99
set_option maxRecDepth 100000 in
set_option maxHeartbeats 4000000 in
theorem S_X12_orders_82 {k : Kst} {d : Kdy} (o : Ok k d cX12_orders RX12 3 8) (F : Nat) {k46 : Nat → Int32 → Hp → Option (Int32 × Hp)} (hk46 : ∀ {h : Hp} {a0 : Nat} {x2 : Int32} {r : Int32} {h1 : Hp}, k46 a0 x2 h = some (r, h1) → RI k d cX12_orders r h1 → Wz k d h 46 [(0, .ref (ka k a0)), (2, .int x2)] []) {h : Hp} {a0 : Nat} {s0 : Int32} {r : Int32} {h1 : Hp} (hf : X12_orders_82 F k46 a0 s0 h = some (r, h1)) (hr : RI k d cX12_orders r h1) : Wz k d h 82 [(0, .ref (ka k a0))] [.int s0] := by
  unfold X12_orders_82 at hf
  refine x_istore_n o dX12_orders_82 (by decide) rfl [(2, .int s0), (0, .ref (ka k a0))] rfl ?_
  refine x_goto o 46 dX12_orders_83 (by decide) ?_
  refine x_sub [1, 0] [(0, .ref (ka k a0)), (2, .int s0)] rfl ?_
  exact hk46 hf hr
set_option maxRecDepth 100000 in
set_option maxHeartbeats 4000000 in
theorem S_X12_orders_81 {k : Kst} {d : Kdy} (o : Ok k d cX12_orders RX12 3 8) (F : Nat) {k46 : Nat → Int32 → Hp → Option (Int32 × Hp)} (hk46 : ∀ {h : Hp} {a0 : Nat} {x2 : Int32} {r : Int32} {h1 : Hp}, k46 a0 x2 h = some (r, h1) → RI k d cX12_orders r h1 → Wz k d h 46 [(0, .ref (ka k a0)), (2, .int x2)] []) {h : Hp} {a0 : Nat} {r : Int32} {h1 : Hp} (hf : X12_orders_81 F k46 a0 h = some (r, h1)) (hr : RI k d cX12_orders r h1) : Wz k d h 81 [(0, .ref (ka k a0))] [] := by
  unfold X12_orders_81 at hf
  refine x_iconst (v := 0) o dX12_orders_81 (by decide) ?_
  refine x_sub [0] [(0, .ref (ka k a0))] rfl ?_
  exact S_X12_orders_82 o F hk46 hf hr
set_option maxRecDepth 100000 in
set_option maxHeartbeats 4000000 in
theorem S_X12_orders_46 {k : Kst} {d : Kdy} (o : Ok k d cX12_orders RX12 3 8) (F : Nat) : ∀ (f : Nat) {h : Hp} {a0 : Nat} {x2 : Int32} {r : Int32} {h1 : Hp}, X12_orders_46 F f a0 x2 h = some (r, h1) → RI k d cX12_orders r h1 → Wz k d h 46 [(0, .ref (ka k a0)), (2, .int x2)] [] := by
  intro f
  induction f with
  | zero =>
    intro h a0 x2 r h1 hf hr
    exact nomatch (show (none : Option _) = some _ from hf)
  | succ f ih =>
    intro h a0 x2 r h1 hf hr
    rw [X12_orders_46] at hf
    refine x_iload_n o dX12_orders_46 1 rfl rfl ?_
    refine x_if_eq o 86 dX12_orders_47 (by decide) (fun q_1 => ?_) (fun q_1 => ?_)
    · replace hf := (if_pos q_1).symm.trans hf
      refine x_sub [0, 1] [(0, .ref (ka k a0)), (2, .int x2)] rfl ?_
      exact S_X12_orders_86 o F hf hr
    · replace hf := (if_neg q_1).symm.trans hf
      refine x_aload_n o dX12_orders_50 0 rfl rfl ?_
      obtain ⟨k_2, hf⟩ := gq_ex hf
      refine gRX12_135 o k_2 dX12_orders_51 ?_
      refine x_aload_n o dX12_orders_54 0 rfl rfl ?_
      refine gRX12_138 o k_2 dX12_orders_55 ?_
      refine x_icmp_ge o 86 dX12_orders_58 (by decide) (fun q_3 => ?_) (fun q_3 => ?_)
      · replace hf := (if_pos q_3).symm.trans hf
        refine x_sub [0, 1] [(0, .ref (ka k a0)), (2, .int x2)] rfl ?_
        exact S_X12_orders_86 o F hf hr
      · replace hf := (if_neg q_3).symm.trans hf
        refine x_aload_n o dX12_orders_61 0 rfl rfl ?_
        refine x_bipush (v := 59) o dX12_orders_62 (by decide) ?_
        obtain ⟨c_4, h_5, ec_4, hf⟩ := bq_ex hf
        refine vRX12_226 [.int 59] [] o (C_X12_takes o.1.2.2.2.2.2.2.1 o.2 F ec_4) (by decide) k_2 rfl rfl (Nat.le_of_ble_eq_true rfl) dX12_orders_64 ?_
        refine x_if_eq o 81 dX12_orders_67 (by decide) (fun q_6 => ?_) (fun q_6 => ?_)
        · replace hf := (if_pos q_6).symm.trans hf
          refine x_sub [0] [(0, .ref (ka k a0))] rfl ?_
          exact S_X12_orders_81 o F (fun q1 q2 => ih q1 q2) hf hr
        · replace hf := (if_neg q_6).symm.trans hf
          refine x_aload_n o dX12_orders_70 0 rfl rfl ?_
          obtain ⟨c_7, h_8, ec_7, hf⟩ := bq_ex hf
          refine vRX12_289 [] [] o (C_X12_readsLine o.1.2.2.2.2.2.2.1 o.2 F ec_7) (by decide) k_2 rfl rfl (Nat.le_of_ble_eq_true rfl) dX12_orders_71 ?_
          refine x_if_eq o 81 dX12_orders_74 (by decide) (fun q_9 => ?_) (fun q_9 => ?_)
          · replace hf := (if_pos q_9).symm.trans hf
            refine x_sub [0] [(0, .ref (ka k a0))] rfl ?_
            exact S_X12_orders_81 o F (fun q1 q2 => ih q1 q2) hf hr
          · replace hf := (if_neg q_9).symm.trans hf
            refine x_iconst (v := 1) o dX12_orders_77 (by decide) ?_
            refine x_goto o 82 dX12_orders_78 (by decide) ?_
            refine x_sub [0] [(0, .ref (ka k a0))] rfl ?_
            exact S_X12_orders_82 o F (fun q1 q2 => ih q1 q2) hf hr
set_option maxRecDepth 100000 in
set_option maxHeartbeats 4000000 in
theorem S_X12_orders_0 {k : Kst} {d : Kdy} (o : Ok k d cX12_orders RX12 3 8) (F : Nat) {h : Hp} {a0 : Nat} {x1 : Int32} {r : Int32} {h1 : Hp} (hf : X12_orders F a0 x1 h = some (r, h1)) (hr : RI k d cX12_orders r h1) : Wz k d h 0 [(0, .ref (ka k a0)), (1, .int x1)] [] := by
  unfold X12_orders at hf
  refine x_iload_n o dX12_orders_0 1 rfl rfl ?_
  refine x_iconst (v := 1) o dX12_orders_1 (by decide) ?_
  refine x_bipush (v := 120) o dX12_orders_2 (by decide) ?_
  obtain ⟨c_1, ec_1, hf⟩ := ob_ex hf
  refine vRX12_113 [.int x1, .int 1, .int 120] [] o (C_X12_in o.1.2.2.2.2.2.2.1 o.2 F ec_1) (by decide) rfl rfl (Nat.le_of_ble_eq_true rfl) dX12_orders_4 ?_
  refine x_if_eq o 18 dX12_orders_7 (by decide) (fun q_3 => ?_) (fun q_3 => ?_)
  · replace hf := (if_pos q_3).symm.trans hf
    refine x_iconst (v := (-1)) o dX12_orders_18 (by decide) ?_
    cases hf
    exact hr _ _ dX12_orders_19
  · replace hf := (if_neg q_3).symm.trans hf
    refine x_iload_n o dX12_orders_10 1 rfl rfl ?_
    refine x_aload_n o dX12_orders_11 0 rfl rfl ?_
    obtain ⟨k_4, hf⟩ := gq_ex hf
    refine gRX12_128 o k_4 dX12_orders_12 ?_
    refine x_icmp_le o 20 dX12_orders_15 (by decide) (fun q_5 => ?_) (fun q_5 => ?_)
    · replace hf := (if_pos q_5).symm.trans hf
      refine x_aload_n o dX12_orders_20 0 rfl rfl ?_
      refine x_iload_n o dX12_orders_21 1 rfl rfl ?_
      obtain ⟨h_7, eh_7, hf⟩ := ob_ex hf
      refine vRX12_220 [.int x1] [] o (C_X12_beginsText o.1.2.2.2.2.2.2.1 o.2 F eh_7) (by decide) k_4 rfl rfl (Nat.le_of_ble_eq_true rfl) dX12_orders_22 ?_
      refine x_aload_n o dX12_orders_25 0 rfl rfl ?_
      refine x_iconst (v := 0) o dX12_orders_26 (by decide) ?_
      obtain ⟨h_8, eh_8, hf⟩ := bd_ex hf
      refine pRX12_275 o k_4 eh_8 dX12_orders_27 ?_
      refine x_aload_n o dX12_orders_30 0 rfl rfl ?_
      obtain ⟨j_9, ej_9, hf⟩ := ob_ex hf
      refine gRX12_7 o k_4 ej_9 dX12_orders_31 ?_
      refine x_aload_n o dX12_orders_34 0 rfl rfl ?_
      obtain ⟨j_10, ej_10, hf⟩ := ob_ex hf
      refine gRX12_13 o k_4 ej_10 dX12_orders_35 ?_
      obtain ⟨h_12, eh_12, hf⟩ := ob_ex hf
      refine vRX12_285 [.ref (ka k j_9), .ref (ka k j_10)] [] o (C_X12_copies o.1.2.2.2.2.2.2.1 o.2 F eh_12) (by decide) rfl rfl (Nat.le_of_ble_eq_true rfl) dX12_orders_38 ?_
      refine x_aload_n o dX12_orders_41 0 rfl rfl ?_
      obtain ⟨c_13, h_14, ec_13, hf⟩ := bq_ex hf
      refine vRX12_289 [] [] o (C_X12_readsLine o.1.2.2.2.2.2.2.1 o.2 F ec_13) (by decide) k_4 rfl rfl (Nat.le_of_ble_eq_true rfl) dX12_orders_42 ?_
      refine x_istore_n o dX12_orders_45 (by decide) rfl [(2, .int c_13), (0, .ref (ka k a0)), (1, .int x1)] rfl ?_
      refine x_sub [1, 0] [(0, .ref (ka k a0)), (2, .int c_13)] rfl ?_
      exact S_X12_orders_46 o F _ hf hr
    · replace hf := (if_neg q_5).symm.trans hf
      refine x_iconst (v := (-1)) o dX12_orders_18 (by decide) ?_
      cases hf
      exact hr _ _ dX12_orders_19
theorem C_X12_orders {k : Kst} (hj : Dj k) (hn : kn k = kdl.length) (F : Nat) {h : Hp} {a0 : Nat} {x1 : Int32} {r : Int32} {h1 : Hp} (hf : X12_orders F a0 x1 h = some (r, h1)) : MI k 8 yX12_orders cX12_orders 3 (some .int) [.ref (ka k a0), .int x1] h r h1 := mI hj hn (by decide +kernel) (Nat.le_of_ble_eq_true rfl) (fun d o hr => S_X12_orders_0 o F hf hr)
set_option maxRecDepth 100000 in
set_option maxHeartbeats 4000000 in
theorem S_X12_draws_0 {k : Kst} {d : Kdy} (o : Ok k d cX12_draws RX12 1 3) (F : Nat) {h : Hp} {a0 : Nat} {r : Int32} {h1 : Hp} (hf : X12_draws F a0 h = some (r, h1)) (hr : RI k d cX12_draws r h1) : Wz k d h 0 [(0, .ref (ka k a0))] [] := by
  unfold X12_draws at hf
  refine x_aload_n o dX12_draws_0 0 rfl rfl ?_
  obtain ⟨k_1, hf⟩ := gq_ex hf
  obtain ⟨j_2, ej_2, hf⟩ := ob_ex hf
  refine gRX12_7 o k_1 ej_2 dX12_draws_1 ?_
  refine x_bipush (v := 46) o dX12_draws_4 (by decide) ?_
  refine x_sipush (v := 25173) o dX12_draws_6 (by decide) ?_
  refine x_aload_n o dX12_draws_9 0 rfl rfl ?_
  refine gRX12_7 o k_1 ej_2 dX12_draws_10 ?_
  refine x_bipush (v := 46) o dX12_draws_13 (by decide) ?_
  obtain ⟨k_3, hf⟩ := gq_ex hf
  obtain ⟨b_4, hf⟩ := gq_ex hf
  refine x_iald o k_3 b_4 dX12_draws_15 ?_
  refine x_imul o dX12_draws_16 ?_
  refine x_sipush (v := 13849) o dX12_draws_17 (by decide) ?_
  refine x_iadd o dX12_draws_20 ?_
  refine x_ldcw (v := 65536) o dX12_draws_21 wRX12_292 ?_
  refine x_irem o dX12_draws_24 (by decide) ?_
  obtain ⟨b_5, hf⟩ := gq_ex hf
  obtain ⟨h_6, eh_6, hf⟩ := bd_ex hf
  refine x_iast o k_3 b_5 dX12_draws_25 (x_h eh_6 ?_)
  refine x_aload_n o dX12_draws_26 0 rfl rfl ?_
  refine gRX12_7 o k_1 (p2 (up_2 eh_6) ej_2) dX12_draws_27 ?_
  refine x_bipush (v := 46) o dX12_draws_30 (by decide) ?_
  obtain ⟨b_7, hf⟩ := gq_ex hf
  refine x_iald o k_3 b_7 dX12_draws_32 ?_
  refine x_bipush (v := 10) o dX12_draws_33 (by decide) ?_
  refine x_irem o dX12_draws_35 (by decide) ?_
  cases hf
  exact hr _ _ dX12_draws_36
theorem C_X12_draws {k : Kst} (hj : Dj k) (hn : kn k = kdl.length) (F : Nat) {h : Hp} {a0 : Nat} {r : Int32} {h1 : Hp} (hf : X12_draws F a0 h = some (r, h1)) : MI k 3 yX12_draws cX12_draws 1 (some .int) [.ref (ka k a0)] h r h1 := mI hj hn (by decide +kernel) (Nat.le_of_ble_eq_true rfl) (fun d o hr => S_X12_draws_0 o F hf hr)
set_option maxRecDepth 100000 in
set_option maxHeartbeats 4000000 in
theorem S_X12_feels_2 {k : Kst} {d : Kdy} (o : Ok k d cX12_feels RX12 3 3) (F : Nat) : ∀ (f : Nat) {h : Hp} {a0 : Nat} {x1 : Int32} {x2 : Int32} {h1 : Hp}, X12_feels_2 F f a0 x1 x2 h = some h1 → RV k d cX12_feels h1 → Wz k d h 2 [(0, .ref (ka k a0)), (1, .int x1), (2, .int x2)] [] := by
  intro f
  induction f with
  | zero =>
    intro h a0 x1 x2 h1 hf hr
    exact nomatch (show (none : Option _) = some _ from hf)
  | succ f ih =>
    intro h a0 x1 x2 h1 hf hr
    rw [X12_feels_2] at hf
    refine x_iload_n o dX12_feels_2 2 rfl rfl ?_
    refine x_iconst (v := 5) o dX12_feels_3 (by decide) ?_
    refine x_icmp_ge o 20 dX12_feels_4 (by decide) (fun q_1 => ?_) (fun q_1 => ?_)
    · replace hf := (if_pos q_1).symm.trans hf
      refine x_aload_n o dX12_feels_20 0 rfl rfl ?_
      obtain ⟨k_2, hf⟩ := gq_ex hf
      obtain ⟨j_3, ej_3, hf⟩ := ob_ex hf
      refine gRX12_65 o k_2 ej_3 dX12_feels_21 ?_
      refine x_iconst (v := 5) o dX12_feels_24 (by decide) ?_
      refine x_aload_n o dX12_feels_25 0 rfl rfl ?_
      obtain ⟨j_4, ej_4, hf⟩ := ob_ex hf
      refine gRX12_7 o k_2 ej_4 dX12_feels_26 ?_
      refine x_bipush (v := 42) o dX12_feels_29 (by decide) ?_
      obtain ⟨k_5, hf⟩ := gq_ex hf
      obtain ⟨b_6, hf⟩ := gq_ex hf
      refine x_iald o k_5 b_6 dX12_feels_31 ?_
      obtain ⟨k_7, hf⟩ := gq_ex hf
      obtain ⟨b_8, hf⟩ := gq_ex hf
      obtain ⟨h_9, eh_9, hf⟩ := bd_ex hf
      refine x_iast o k_7 b_8 dX12_feels_32 (x_h eh_9 ?_)
      refine x_aload_n o dX12_feels_33 0 rfl rfl ?_
      refine gRX12_65 o k_2 (p2 (up_2 eh_9) ej_3) dX12_feels_34 ?_
      refine x_bipush (v := 6) o dX12_feels_37 (by decide) ?_
      refine x_aload_n o dX12_feels_39 0 rfl rfl ?_
      refine gRX12_7 o k_2 (p2 (up_2 eh_9) ej_4) dX12_feels_40 ?_
      refine x_bipush (v := 43) o dX12_feels_43 (by decide) ?_
      obtain ⟨b_10, hf⟩ := gq_ex hf
      refine x_iald o k_5 b_10 dX12_feels_45 ?_
      refine x_bipush (v := 100) o dX12_feels_46 (by decide) ?_
      refine x_idiv o dX12_feels_48 (by decide) ?_
      obtain ⟨b_11, hf⟩ := gq_ex hf
      obtain ⟨h_12, eh_12, hf⟩ := bd_ex hf
      refine x_iast o k_7 b_11 dX12_feels_49 (x_h eh_12 ?_)
      refine x_aload_n o dX12_feels_50 0 rfl rfl ?_
      refine gRX12_65 o k_2 (p2 (up_2 eh_12) (p2 (up_2 eh_9) ej_3)) dX12_feels_51 ?_
      refine x_bipush (v := 7) o dX12_feels_54 (by decide) ?_
      refine x_aload_n o dX12_feels_56 0 rfl rfl ?_
      refine gRX12_7 o k_2 (p2 (up_2 eh_12) (p2 (up_2 eh_9) ej_4)) dX12_feels_57 ?_
      refine x_bipush (v := 44) o dX12_feels_60 (by decide) ?_
      obtain ⟨b_13, hf⟩ := gq_ex hf
      refine x_iald o k_5 b_13 dX12_feels_62 ?_
      refine x_bipush (v := 100) o dX12_feels_63 (by decide) ?_
      refine x_irem o dX12_feels_65 (by decide) ?_
      obtain ⟨b_14, hf⟩ := gq_ex hf
      obtain ⟨h_15, eh_15, hf⟩ := bd_ex hf
      refine x_iast o k_7 b_14 dX12_feels_66 (x_h eh_15 ?_)
      refine x_aload_n o dX12_feels_67 0 rfl rfl ?_
      refine gRX12_65 o k_2 (p2 (up_2 eh_15) (p2 (up_2 eh_12) (p2 (up_2 eh_9) ej_3))) dX12_feels_68 ?_
      refine x_bipush (v := 8) o dX12_feels_71 (by decide) ?_
      refine x_iload_n o dX12_feels_73 1 rfl rfl ?_
      obtain ⟨b_16, hf⟩ := gq_ex hf
      obtain ⟨h_17, eh_17, hf⟩ := bd_ex hf
      refine x_iast o k_7 b_16 dX12_feels_74 (x_h eh_17 ?_)
      cases hf
      exact hr _ _ dX12_feels_75
    · replace hf := (if_neg q_1).symm.trans hf
      refine x_aload_n o dX12_feels_7 0 rfl rfl ?_
      obtain ⟨k_18, hf⟩ := gq_ex hf
      obtain ⟨j_19, ej_19, hf⟩ := ob_ex hf
      refine gRX12_65 o k_18 ej_19 dX12_feels_8 ?_
      refine x_iload_n o dX12_feels_11 2 rfl rfl ?_
      refine x_iconst (v := 0) o dX12_feels_12 (by decide) ?_
      obtain ⟨k_20, hf⟩ := gq_ex hf
      obtain ⟨b_21, hf⟩ := gq_ex hf
      obtain ⟨h_22, eh_22, hf⟩ := bd_ex hf
      refine x_iast o k_20 b_21 dX12_feels_13 (x_h eh_22 ?_)
      obtain ⟨x2_23, ex2_23, hf⟩ := bd_ex hf
      refine x_iinc o dX12_feels_14 (by decide) 2 rfl ex2_23.symm [(2, .int x2_23), (0, .ref (ka k a0)), (1, .int x1)] rfl ?_
      refine x_goto o 2 dX12_feels_17 (by decide) ?_
      refine x_sub [1, 2, 0] [(0, .ref (ka k a0)), (1, .int x1), (2, .int x2_23)] rfl ?_
      exact ih hf hr
set_option maxRecDepth 100000 in
set_option maxHeartbeats 4000000 in
theorem S_X12_feels_0 {k : Kst} {d : Kdy} (o : Ok k d cX12_feels RX12 3 3) (F : Nat) {h : Hp} {a0 : Nat} {x1 : Int32} {h1 : Hp} (hf : X12_feels F a0 x1 h = some h1) (hr : RV k d cX12_feels h1) : Wz k d h 0 [(0, .ref (ka k a0)), (1, .int x1)] [] := by
  unfold X12_feels at hf
  refine x_iconst (v := 0) o dX12_feels_0 (by decide) ?_
  refine x_istore_n o dX12_feels_1 (by decide) rfl [(2, .int 0), (0, .ref (ka k a0)), (1, .int x1)] rfl ?_
  refine x_sub [1, 2, 0] [(0, .ref (ka k a0)), (1, .int x1), (2, .int 0)] rfl ?_
  exact S_X12_feels_2 o F _ hf hr
theorem C_X12_feels {k : Kst} (hj : Dj k) (hn : kn k = kdl.length) (F : Nat) {h : Hp} {a0 : Nat} {x1 : Int32} {h1 : Hp} (hf : X12_feels F a0 x1 h = some h1) : MV k 3 yX12_feels cX12_feels 3 [.ref (ka k a0), .int x1] h h1 := mV hj hn (by decide +kernel) (Nat.le_of_ble_eq_true rfl) (fun d o hr => S_X12_feels_0 o F hf hr)
set_option maxRecDepth 100000 in
set_option maxHeartbeats 4000000 in
theorem S_X12_mayCome_40 {k : Kst} {d : Kdy} (o : Ok k d cX12_mayCome RX12 4 6) (F : Nat) {h : Hp} {a0 : Nat} {x1 : Int32} {r : Int32} (hf : X12_mayCome_40 F a0 x1 h = some r) (hr : RI k d cX12_mayCome r h) : Wz k d h 40 [(0, .ref (ka k a0)), (1, .int x1)] [] := by
  unfold X12_mayCome_40 at hf
  refine x_aload_n o dX12_mayCome_40 0 rfl rfl ?_
  refine x_iload_n o dX12_mayCome_41 1 rfl rfl ?_
  obtain ⟨k_1, hf⟩ := gq_ex hf
  obtain ⟨c_2, ec_2, hf⟩ := ob_ex hf
  refine vRX12_293 [.int x1] [] o (C_X12_whole o.1.2.2.2.2.2.2.1 o.2 F ec_2) (by decide) k_1 rfl rfl (Nat.le_of_ble_eq_true rfl) dX12_mayCome_42 ?_
  cases hf
  exact hr _ _ dX12_mayCome_45
set_option maxRecDepth 100000 in
set_option maxHeartbeats 4000000 in
theorem S_X12_mayCome_0 {k : Kst} {d : Kdy} (o : Ok k d cX12_mayCome RX12 4 6) (F : Nat) {h : Hp} {a0 : Nat} {x1 : Int32} {r : Int32} (hf : X12_mayCome F a0 x1 h = some r) (hr : RI k d cX12_mayCome r h) : Wz k d h 0 [(0, .ref (ka k a0)), (1, .int x1)] [] := by
  unfold X12_mayCome at hf
  refine x_iconst (v := 1) o dX12_mayCome_0 (by decide) ?_
  refine x_iload_n o dX12_mayCome_1 1 rfl rfl ?_
  refine x_isub o dX12_mayCome_2 ?_
  obtain ⟨x2_1, ex2_1, hf⟩ := bd_ex hf
  refine x_top ex2_1 ?_
  refine x_istore_n o dX12_mayCome_3 (by decide) rfl [(2, .int x2_1), (0, .ref (ka k a0)), (1, .int x1)] rfl ?_
  refine x_aload_n o dX12_mayCome_4 1 rfl rfl ?_
  refine x_iload_n o dX12_mayCome_5 0 rfl rfl ?_
  obtain ⟨k_2, hf⟩ := gq_ex hf
  obtain ⟨c_3, ec_3, hf⟩ := ob_ex hf
  refine vRX12_121 [.int x2_1] [] o (C_X12_standing o.1.2.2.2.2.2.2.1 o.2 F ec_3) (by decide) k_2 rfl rfl (Nat.le_of_ble_eq_true rfl) dX12_mayCome_6 ?_
  refine x_iconst (v := 2) o dX12_mayCome_9 (by decide) ?_
  refine x_iadd o dX12_mayCome_10 ?_
  refine x_aload_n o dX12_mayCome_11 1 rfl rfl ?_
  refine x_iload_n o dX12_mayCome_12 2 rfl rfl ?_
  obtain ⟨c_5, ec_5, hf⟩ := ob_ex hf
  refine vRX12_121 [.int x1] [.int (c_3 + 2)] o (C_X12_standing o.1.2.2.2.2.2.2.1 o.2 F ec_5) (by decide) k_2 rfl rfl (Nat.le_of_ble_eq_true rfl) dX12_mayCome_13 ?_
  refine x_iconst (v := 1) o dX12_mayCome_16 (by decide) ?_
  refine x_iadd o dX12_mayCome_17 ?_
  obtain ⟨c_7, ec_7, hf⟩ := ob_ex hf
  refine vRX12_272 [.int (c_3 + 2), .int (c_5 + 1)] [] o (C_X12_max o.1.2.2.2.2.2.2.1 o.2 F ec_7) (by decide) rfl rfl (Nat.le_of_ble_eq_true rfl) dX12_mayCome_18 ?_
  refine x_istore_n o dX12_mayCome_21 (by decide) rfl [(3, .int c_7), (2, .int x2_1), (0, .ref (ka k a0)), (1, .int x1)] rfl ?_
  refine x_aload_n o dX12_mayCome_22 2 rfl rfl ?_
  refine x_iload_n o dX12_mayCome_23 1 rfl rfl ?_
  obtain ⟨c_9, ec_9, hf⟩ := ob_ex hf
  refine vRX12_125 [.int x2_1] [] o (C_X12_leftToBuild o.1.2.2.2.2.2.2.1 o.2 F ec_9) (by decide) k_2 rfl rfl (Nat.le_of_ble_eq_true rfl) dX12_mayCome_24 ?_
  refine x_if_eq o 40 dX12_mayCome_27 (by decide) (fun q_11 => ?_) (fun q_11 => ?_)
  · replace hf := (if_pos q_11).symm.trans hf
    refine x_sub [2, 3] [(0, .ref (ka k a0)), (1, .int x1)] rfl ?_
    exact S_X12_mayCome_40 o F hf hr
  · replace hf := (if_neg q_11).symm.trans hf
    refine x_iload_n o dX12_mayCome_30 0 rfl rfl ?_
    refine x_aload_n o dX12_mayCome_31 2 rfl rfl ?_
    obtain ⟨j_12, ej_12, hf⟩ := ob_ex hf
    refine gRX12_19 o k_2 ej_12 dX12_mayCome_32 ?_
    refine x_iload_n o dX12_mayCome_35 3 rfl rfl ?_
    obtain ⟨k_13, hf⟩ := gq_ex hf
    obtain ⟨b_14, hf⟩ := gq_ex hf
    refine x_iald o k_13 b_14 dX12_mayCome_36 ?_
    refine x_icmp_le o 46 dX12_mayCome_37 (by decide) (fun q_15 => ?_) (fun q_15 => ?_)
    · replace hf := (if_pos q_15).symm.trans hf
      refine x_aload_n o dX12_mayCome_46 2 rfl rfl ?_
      refine x_iload_n o dX12_mayCome_47 3 rfl rfl ?_
      refine x_iload_n o dX12_mayCome_48 0 rfl rfl ?_
      obtain ⟨c_16, ec_16, hf⟩ := ob_ex hf
      refine vRX12_117 [.int x1, .int c_7] [] o (C_X12_stonesTo o.1.2.2.2.2.2.2.1 o.2 F ec_16) (by decide) k_2 rfl rfl (Nat.le_of_ble_eq_true rfl) dX12_mayCome_49 ?_
      refine x_iconst (v := 1) o dX12_mayCome_52 (by decide) ?_
      refine x_isub o dX12_mayCome_53 ?_
      cases hf
      exact hr _ _ dX12_mayCome_54
    · replace hf := (if_neg q_15).symm.trans hf
      refine x_sub [2, 3] [(0, .ref (ka k a0)), (1, .int x1)] rfl ?_
      exact S_X12_mayCome_40 o F hf hr
theorem C_X12_mayCome {k : Kst} (hj : Dj k) (hn : kn k = kdl.length) (F : Nat) {h : Hp} {a0 : Nat} {x1 : Int32} {r : Int32} (hf : X12_mayCome F a0 x1 h = some r) : MI k 6 yX12_mayCome cX12_mayCome 4 (some .int) [.ref (ka k a0), .int x1] h r h := mI hj hn (by decide +kernel) (Nat.le_of_ble_eq_true rfl) (fun d o hr => S_X12_mayCome_0 o F hf hr)
set_option maxRecDepth 100000 in
set_option maxHeartbeats 4000000 in
theorem S_X12_works_0 {k : Kst} {d : Kdy} (o : Ok k d cX12_works RX12 6 7) (F : Nat) {h : Hp} {a0 : Nat} {x1 : Int32} {h1 : Hp} (hf : X12_works F a0 x1 h = some h1) (hr : RV k d cX12_works h1) : Wz k d h 0 [(0, .ref (ka k a0)), (1, .int x1)] [] := by
  unfold X12_works at hf
  refine x_aload_n o dX12_works_0 0 rfl rfl ?_
  refine x_aload_n o dX12_works_1 0 rfl rfl ?_
  obtain ⟨k_1, hf⟩ := gq_ex hf
  obtain ⟨c_2, h_3, ec_2, hf⟩ := bq_ex hf
  refine vRX12_296 [] [.ref (ka k a0)] o (C_X12_draws o.1.2.2.2.2.2.2.1 o.2 F ec_2) (by decide) k_1 rfl rfl (Nat.le_of_ble_eq_true rfl) dX12_works_2 ?_
  obtain ⟨h_5, eh_5, hf⟩ := ob_ex hf
  refine vRX12_299 [.int c_2] [] o (C_X12_feels o.1.2.2.2.2.2.2.1 o.2 F eh_5) (by decide) k_1 rfl rfl (Nat.le_of_ble_eq_true rfl) dX12_works_5 ?_
  refine x_aload_n o dX12_works_8 0 rfl rfl ?_
  obtain ⟨j_6, ej_6, hf⟩ := ob_ex hf
  refine gRX12_65 o k_1 ej_6 dX12_works_9 ?_
  refine x_iconst (v := 0) o dX12_works_12 (by decide) ?_
  refine x_iload_n o dX12_works_13 1 rfl rfl ?_
  obtain ⟨k_7, hf⟩ := gq_ex hf
  obtain ⟨b_8, hf⟩ := gq_ex hf
  obtain ⟨h_9, eh_9, hf⟩ := bd_ex hf
  refine x_iast o k_7 b_8 dX12_works_14 (x_h eh_9 ?_)
  refine x_aload_n o dX12_works_15 0 rfl rfl ?_
  refine gRX12_65 o k_1 (p2 (up_2 eh_9) ej_6) dX12_works_16 ?_
  refine x_iconst (v := 1) o dX12_works_19 (by decide) ?_
  refine x_aload_n o dX12_works_20 0 rfl rfl ?_
  refine x_iload_n o dX12_works_21 1 rfl rfl ?_
  obtain ⟨c_10, ec_10, hf⟩ := ob_ex hf
  refine vRX12_121 [.int x1] [.int 1, .ref (ka k j_6)] o (C_X12_standing o.1.2.2.2.2.2.2.1 o.2 F ec_10) (by decide) k_1 rfl rfl (Nat.le_of_ble_eq_true rfl) dX12_works_22 ?_
  obtain ⟨b_12, hf⟩ := gq_ex hf
  obtain ⟨h_13, eh_13, hf⟩ := bd_ex hf
  refine x_iast o k_7 b_12 dX12_works_25 (x_h eh_13 ?_)
  refine x_aload_n o dX12_works_26 0 rfl rfl ?_
  refine gRX12_65 o k_1 (p2 (up_2 eh_13) (p2 (up_2 eh_9) ej_6)) dX12_works_27 ?_
  refine x_iconst (v := 2) o dX12_works_30 (by decide) ?_
  refine x_aload_n o dX12_works_31 0 rfl rfl ?_
  refine x_iconst (v := 1) o dX12_works_32 (by decide) ?_
  refine x_iload_n o dX12_works_33 1 rfl rfl ?_
  refine x_isub o dX12_works_34 ?_
  obtain ⟨c_14, ec_14, hf⟩ := ob_ex hf
  refine vRX12_121 [.int (1 - x1)] [.int 2, .ref (ka k j_6)] o (C_X12_standing o.1.2.2.2.2.2.2.1 o.2 F ec_14) (by decide) k_1 rfl rfl (Nat.le_of_ble_eq_true rfl) dX12_works_35 ?_
  obtain ⟨b_16, hf⟩ := gq_ex hf
  obtain ⟨h_17, eh_17, hf⟩ := bd_ex hf
  refine x_iast o k_7 b_16 dX12_works_38 (x_h eh_17 ?_)
  refine x_aload_n o dX12_works_39 0 rfl rfl ?_
  refine gRX12_65 o k_1 (p2 (up_2 eh_17) (p2 (up_2 eh_13) (p2 (up_2 eh_9) ej_6))) dX12_works_40 ?_
  refine x_iconst (v := 3) o dX12_works_43 (by decide) ?_
  refine x_aload_n o dX12_works_44 0 rfl rfl ?_
  refine x_iload_n o dX12_works_45 1 rfl rfl ?_
  obtain ⟨c_18, ec_18, hf⟩ := ob_ex hf
  refine vRX12_125 [.int x1] [.int 3, .ref (ka k j_6)] o (C_X12_leftToBuild o.1.2.2.2.2.2.2.1 o.2 F ec_18) (by decide) k_1 rfl rfl (Nat.le_of_ble_eq_true rfl) dX12_works_46 ?_
  obtain ⟨b_20, hf⟩ := gq_ex hf
  obtain ⟨h_21, eh_21, hf⟩ := bd_ex hf
  refine x_iast o k_7 b_20 dX12_works_49 (x_h eh_21 ?_)
  refine x_aload_n o dX12_works_50 0 rfl rfl ?_
  refine gRX12_65 o k_1 (p2 (up_2 eh_21) (p2 (up_2 eh_17) (p2 (up_2 eh_13) (p2 (up_2 eh_9) ej_6)))) dX12_works_51 ?_
  refine x_iconst (v := 4) o dX12_works_54 (by decide) ?_
  refine x_aload_n o dX12_works_55 0 rfl rfl ?_
  refine x_iload_n o dX12_works_56 1 rfl rfl ?_
  obtain ⟨c_22, ec_22, hf⟩ := ob_ex hf
  refine vRX12_302 [.int x1] [.int 4, .ref (ka k j_6)] o (C_X12_nextNeeds o.1.2.2.2.2.2.2.1 o.2 F ec_22) (by decide) k_1 rfl rfl (Nat.le_of_ble_eq_true rfl) dX12_works_57 ?_
  obtain ⟨b_24, hf⟩ := gq_ex hf
  obtain ⟨h_25, eh_25, hf⟩ := bd_ex hf
  refine x_iast o k_7 b_24 dX12_works_60 (x_h eh_25 ?_)
  refine x_aload_n o dX12_works_61 0 rfl rfl ?_
  refine x_bipush (v := 120) o dX12_works_62 (by decide) ?_
  obtain ⟨c_26, h_27, ec_26, hf⟩ := bq_ex hf
  refine vRX12_305 [.int 120] [] o (C_X12_holdsAny o.1.2.2.2.2.2.2.1 o.2 F ec_26) (by decide) k_1 rfl rfl (Nat.le_of_ble_eq_true rfl) dX12_works_64 ?_
  refine x_istore_n o dX12_works_67 (by decide) rfl [(2, .int c_26), (0, .ref (ka k a0)), (1, .int x1)] rfl ?_
  refine x_aload_n o dX12_works_68 1 rfl rfl ?_
  refine x_bipush (v := 119) o dX12_works_69 (by decide) ?_
  refine x_bipush (v := 99) o dX12_works_71 (by decide) ?_
  obtain ⟨c_28, h_29, ec_28, hf⟩ := bq_ex hf
  refine vRX12_308 [.int 119, .int 99] [] o (C_X12_byLaw o.1.2.2.2.2.2.2.1 o.2 F ec_28) (by decide) k_1 rfl rfl (Nat.le_of_ble_eq_true rfl) dX12_works_73 ?_
  refine x_istore_n o dX12_works_76 (by decide) rfl [(3, .int c_28), (2, .int c_26), (0, .ref (ka k a0)), (1, .int x1)] rfl ?_
  refine x_aload_n o dX12_works_77 2 rfl rfl ?_
  refine x_bipush (v := 99) o dX12_works_78 (by decide) ?_
  refine x_bipush (v := 99) o dX12_works_80 (by decide) ?_
  obtain ⟨c_30, h_31, ec_30, hf⟩ := bq_ex hf
  refine vRX12_308 [.int 99, .int 99] [] o (C_X12_byLaw o.1.2.2.2.2.2.2.1 o.2 F ec_30) (by decide) k_1 rfl rfl (Nat.le_of_ble_eq_true rfl) dX12_works_82 ?_
  refine x_istore o dX12_works_85 (by decide) [(4, .int c_30), (3, .int c_28), (2, .int c_26), (0, .ref (ka k a0)), (1, .int x1)] rfl ?_
  refine x_iload_n o dX12_works_87 2 rfl rfl ?_
  refine x_if_eq o 92 dX12_works_88 (by decide) (fun q_32 => ?_) (fun q_32 => ?_)
  · replace hf := (if_pos q_32).symm.trans hf
    refine x_iload_n o dX12_works_92 1 rfl rfl ?_
    refine x_aload_n o dX12_works_93 3 rfl rfl ?_
    obtain ⟨j_33, ej_33, hf⟩ := ob_ex hf
    refine gRX12_7 o k_1 ej_33 dX12_works_94 ?_
    refine x_bipush (v := 42) o dX12_works_97 (by decide) ?_
    obtain ⟨k_34, hf⟩ := gq_ex hf
    obtain ⟨b_35, hf⟩ := gq_ex hf
    refine x_iald o k_34 b_35 dX12_works_99 ?_
    obtain ⟨c_36, ec_36, hf⟩ := ob_ex hf
    refine vRX12_269 [.int c_28, .int (h_31.1 j_33 (ix 42))] [] o (C_X12_min o.1.2.2.2.2.2.2.1 o.2 F ec_36) (by decide) rfl rfl (Nat.le_of_ble_eq_true rfl) dX12_works_100 ?_
    refine x_iconst (v := 0) o dX12_works_103 (by decide) ?_
    refine x_aload_n o dX12_works_104 3 rfl rfl ?_
    refine x_iload_n o dX12_works_105 4 rfl rfl ?_
    obtain ⟨c_38, ec_38, hf⟩ := ob_ex hf
    refine vRX12_311 [.int x1] [.int 0, .int c_36] o (C_X12_mayCome o.1.2.2.2.2.2.2.1 o.2 F ec_38) (by decide) k_1 rfl rfl (Nat.le_of_ble_eq_true rfl) dX12_works_106 ?_
    refine x_aload_n o dX12_works_109 3 rfl rfl ?_
    refine gRX12_7 o k_1 ej_33 dX12_works_110 ?_
    refine x_iconst (v := 0) o dX12_works_113 (by decide) ?_
    refine x_iload_n o dX12_works_114 4 rfl rfl ?_
    refine x_iadd o dX12_works_115 ?_
    obtain ⟨b_40, hf⟩ := gq_ex hf
    refine x_iald o k_34 b_40 dX12_works_116 ?_
    refine x_isub o dX12_works_117 ?_
    obtain ⟨c_41, ec_41, hf⟩ := ob_ex hf
    refine vRX12_272 [.int 0, .int (c_38 - (h_31.1 j_33 (ix (0 + x1))))] [.int c_36] o (C_X12_max o.1.2.2.2.2.2.2.1 o.2 F ec_41) (by decide) rfl rfl (Nat.le_of_ble_eq_true rfl) dX12_works_118 ?_
    obtain ⟨c_43, ec_43, hf⟩ := ob_ex hf
    refine vRX12_269 [.int c_36, .int c_41] [] o (C_X12_min o.1.2.2.2.2.2.2.1 o.2 F ec_43) (by decide) rfl rfl (Nat.le_of_ble_eq_true rfl) dX12_works_121 ?_
    refine x_istore o dX12_works_124 (by decide) [(5, .int c_43), (4, .int c_30), (3, .int c_28), (2, .int c_26), (0, .ref (ka k a0)), (1, .int x1)] rfl ?_
    refine x_aload_n o dX12_works_126 4 rfl rfl ?_
    refine gRX12_7 o k_1 ej_33 dX12_works_127 ?_
    refine x_iconst (v := 0) o dX12_works_130 (by decide) ?_
    refine x_iload_n o dX12_works_131 5 rfl rfl ?_
    refine x_iadd o dX12_works_132 ?_
    refine x_aload_n o dX12_works_133 4 rfl rfl ?_
    refine gRX12_7 o k_1 ej_33 dX12_works_134 ?_
    refine x_iconst (v := 0) o dX12_works_137 (by decide) ?_
    refine x_iload_n o dX12_works_138 5 rfl rfl ?_
    refine x_iadd o dX12_works_139 ?_
    obtain ⟨b_45, hf⟩ := gq_ex hf
    refine x_iald o k_34 b_45 dX12_works_140 ?_
    refine x_iload o dX12_works_141 0 rfl ?_
    refine x_iadd o dX12_works_143 ?_
    obtain ⟨b_46, hf⟩ := gq_ex hf
    obtain ⟨h_47, eh_47, hf⟩ := bd_ex hf
    refine x_iast o k_34 b_46 dX12_works_144 (x_h eh_47 ?_)
    refine x_aload_n o dX12_works_145 4 rfl rfl ?_
    refine gRX12_7 o k_1 (p2 (up_2 eh_47) ej_33) dX12_works_146 ?_
    refine x_bipush (v := 42) o dX12_works_149 (by decide) ?_
    refine x_aload_n o dX12_works_151 4 rfl rfl ?_
    refine gRX12_7 o k_1 (p2 (up_2 eh_47) ej_33) dX12_works_152 ?_
    refine x_bipush (v := 42) o dX12_works_155 (by decide) ?_
    obtain ⟨b_48, hf⟩ := gq_ex hf
    refine x_iald o k_34 b_48 dX12_works_157 ?_
    refine x_iload o dX12_works_158 0 rfl ?_
    refine x_isub o dX12_works_160 ?_
    obtain ⟨b_49, hf⟩ := gq_ex hf
    obtain ⟨h_50, eh_50, hf⟩ := bd_ex hf
    refine x_iast o k_34 b_49 dX12_works_161 (x_h eh_50 ?_)
    refine x_aload_n o dX12_works_162 4 rfl rfl ?_
    refine gRX12_7 o k_1 (p2 (up_2 eh_50) (p2 (up_2 eh_47) ej_33)) dX12_works_163 ?_
    refine x_bipush (v := 43) o dX12_works_166 (by decide) ?_
    refine x_ldcw (v := 999999) o dX12_works_168 wRX12_281 ?_
    refine x_aload_n o dX12_works_171 4 rfl rfl ?_
    refine gRX12_7 o k_1 (p2 (up_2 eh_50) (p2 (up_2 eh_47) ej_33)) dX12_works_172 ?_
    refine x_bipush (v := 43) o dX12_works_175 (by decide) ?_
    obtain ⟨b_51, hf⟩ := gq_ex hf
    refine x_iald o k_34 b_51 dX12_works_177 ?_
    refine x_iload o dX12_works_178 1 rfl ?_
    refine x_iload o dX12_works_180 0 rfl ?_
    refine x_imul o dX12_works_182 ?_
    refine x_iadd o dX12_works_183 ?_
    obtain ⟨c_52, ec_52, hf⟩ := ob_ex hf
    refine vRX12_269 [.int 999999, .int ((h_50.1 j_33 (ix 43)) + (c_30 * c_43))] [.int 43, .ref (ka k j_33)] o (C_X12_min o.1.2.2.2.2.2.2.1 o.2 F ec_52) (by decide) rfl rfl (Nat.le_of_ble_eq_true rfl) dX12_works_184 ?_
    obtain ⟨b_54, hf⟩ := gq_ex hf
    obtain ⟨h_55, eh_55, hf⟩ := bd_ex hf
    refine x_iast o k_34 b_54 dX12_works_187 (x_h eh_55 ?_)
    refine x_aload_n o dX12_works_188 4 rfl rfl ?_
    refine x_aload_n o dX12_works_189 4 rfl rfl ?_
    refine gRX12_314 o k_1 dX12_works_190 ?_
    refine x_iload o dX12_works_193 0 rfl ?_
    refine x_iadd o dX12_works_195 ?_
    obtain ⟨h_56, eh_56, hf⟩ := bd_ex hf
    refine pRX12_314 o k_1 eh_56 dX12_works_196 ?_
    cases hf
    exact hr _ _ dX12_works_199
  · replace hf := (if_neg q_32).symm.trans hf
    cases hf
    exact hr _ _ dX12_works_91
theorem C_X12_works {k : Kst} (hj : Dj k) (hn : kn k = kdl.length) (F : Nat) {h : Hp} {a0 : Nat} {x1 : Int32} {h1 : Hp} (hf : X12_works F a0 x1 h = some h1) : MV k 7 yX12_works cX12_works 6 [.ref (ka k a0), .int x1] h h1 := mV hj hn (by decide +kernel) (Nat.le_of_ble_eq_true rfl) (fun d o hr => S_X12_works_0 o F hf hr)
set_option maxRecDepth 100000 in
set_option maxHeartbeats 4000000 in
theorem S_X12_tiltNow_0 {k : Kst} {d : Kdy} (o : Ok k d cX12_tiltNow RX12 1 6) (F : Nat) {h : Hp} {a0 : Nat} {r : Int32} (hf : X12_tiltNow F a0 h = some r) (hr : RI k d cX12_tiltNow r h) : Wz k d h 0 [(0, .ref (ka k a0))] [] := by
  unfold X12_tiltNow at hf
  refine x_aload_n o dX12_tiltNow_0 0 rfl rfl ?_
  refine x_iconst (v := 0) o dX12_tiltNow_1 (by decide) ?_
  obtain ⟨k_1, hf⟩ := gq_ex hf
  obtain ⟨c_2, ec_2, hf⟩ := ob_ex hf
  refine vRX12_317 [.int 0] [] o (C_X12_weightOf o.1.2.2.2.2.2.2.1 o.2 F ec_2) (by decide) k_1 rfl rfl (Nat.le_of_ble_eq_true rfl) dX12_tiltNow_2 ?_
  refine x_aload_n o dX12_tiltNow_5 0 rfl rfl ?_
  refine x_iconst (v := 1) o dX12_tiltNow_6 (by decide) ?_
  obtain ⟨c_4, ec_4, hf⟩ := ob_ex hf
  refine vRX12_317 [.int 1] [.int c_2] o (C_X12_weightOf o.1.2.2.2.2.2.2.1 o.2 F ec_4) (by decide) k_1 rfl rfl (Nat.le_of_ble_eq_true rfl) dX12_tiltNow_7 ?_
  refine x_isub o dX12_tiltNow_10 ?_
  obtain ⟨c_6, ec_6, hf⟩ := ob_ex hf
  refine vRX12_320 [.int (c_2 - c_4)] [] o (C_X12_size o.1.2.2.2.2.2.2.1 o.2 F ec_6) (by decide) rfl rfl (Nat.le_of_ble_eq_true rfl) dX12_tiltNow_11 ?_
  cases hf
  exact hr _ _ dX12_tiltNow_14
theorem C_X12_tiltNow {k : Kst} (hj : Dj k) (hn : kn k = kdl.length) (F : Nat) {h : Hp} {a0 : Nat} {r : Int32} (hf : X12_tiltNow F a0 h = some r) : MI k 6 yX12_tiltNow cX12_tiltNow 1 (some .int) [.ref (ka k a0)] h r h := mI hj hn (by decide +kernel) (Nat.le_of_ble_eq_true rfl) (fun d o hr => S_X12_tiltNow_0 o F hf hr)
set_option maxRecDepth 100000 in
set_option maxHeartbeats 4000000 in
theorem S_X12_dayGoes_173 {k : Kst} {d : Kdy} (o : Ok k d cX12_dayGoes RX12 4 8) (F : Nat) {h : Hp} {a0 : Nat} {h1 : Hp} (hf : X12_dayGoes_173 F a0 h = some h1) (hr : RV k d cX12_dayGoes h1) : Wz k d h 173 [(0, .ref (ka k a0))] [] := by
  unfold X12_dayGoes_173 at hf
  refine x_aload_n o dX12_dayGoes_173 0 rfl rfl ?_
  obtain ⟨k_1, hf⟩ := gq_ex hf
  obtain ⟨j_2, ej_2, hf⟩ := ob_ex hf
  refine gRX12_7 o k_1 ej_2 dX12_dayGoes_174 ?_
  refine x_bipush (v := 44) o dX12_dayGoes_177 (by decide) ?_
  refine x_aload_n o dX12_dayGoes_179 0 rfl rfl ?_
  refine gRX12_7 o k_1 ej_2 dX12_dayGoes_180 ?_
  refine x_bipush (v := 44) o dX12_dayGoes_183 (by decide) ?_
  obtain ⟨k_3, hf⟩ := gq_ex hf
  obtain ⟨b_4, hf⟩ := gq_ex hf
  refine x_iald o k_3 b_4 dX12_dayGoes_185 ?_
  refine x_iconst (v := 1) o dX12_dayGoes_186 (by decide) ?_
  refine x_iadd o dX12_dayGoes_187 ?_
  obtain ⟨b_5, hf⟩ := gq_ex hf
  obtain ⟨h_6, eh_6, hf⟩ := bd_ex hf
  refine x_iast o k_3 b_5 dX12_dayGoes_188 (x_h eh_6 ?_)
  cases hf
  exact hr _ _ dX12_dayGoes_189
set_option maxRecDepth 100000 in
set_option maxHeartbeats 4000000 in
theorem S_X12_dayGoes_126 {k : Kst} {d : Kdy} (o : Ok k d cX12_dayGoes RX12 4 8) (F : Nat) {h : Hp} {a0 : Nat} {s0 : Int32} {h1 : Hp} (hf : X12_dayGoes_126 F a0 s0 h = some h1) (hr : RV k d cX12_dayGoes h1) : Wz k d h 126 [(0, .ref (ka k a0))] [.int s0] := by
  unfold X12_dayGoes_126 at hf
  refine x_istore_n o dX12_dayGoes_126 (by decide) rfl [(3, .int s0), (0, .ref (ka k a0))] rfl ?_
  refine x_aload_n o dX12_dayGoes_127 1 rfl rfl ?_
  obtain ⟨k_1, hf⟩ := gq_ex hf
  obtain ⟨j_2, ej_2, hf⟩ := ob_ex hf
  refine gRX12_7 o k_1 ej_2 dX12_dayGoes_128 ?_
  refine x_iconst (v := 0) o dX12_dayGoes_131 (by decide) ?_
  refine x_iload_n o dX12_dayGoes_132 0 rfl rfl ?_
  refine x_iadd o dX12_dayGoes_133 ?_
  refine x_aload_n o dX12_dayGoes_134 1 rfl rfl ?_
  refine x_iload_n o dX12_dayGoes_135 0 rfl rfl ?_
  refine x_aload_n o dX12_dayGoes_136 1 rfl rfl ?_
  refine x_iload_n o dX12_dayGoes_137 0 rfl rfl ?_
  obtain ⟨c_3, ec_3, hf⟩ := ob_ex hf
  refine vRX12_121 [.int s0] [.int s0, .ref (ka k a0), .int (0 + s0), .ref (ka k j_2)] o (C_X12_standing o.1.2.2.2.2.2.2.1 o.2 F ec_3) (by decide) k_1 rfl rfl (Nat.le_of_ble_eq_true rfl) dX12_dayGoes_138 ?_
  refine x_iconst (v := 1) o dX12_dayGoes_141 (by decide) ?_
  refine x_isub o dX12_dayGoes_142 ?_
  obtain ⟨c_5, ec_5, hf⟩ := ob_ex hf
  refine vRX12_117 [.int s0, .int (c_3 - 1)] [.int (0 + s0), .ref (ka k j_2)] o (C_X12_stonesTo o.1.2.2.2.2.2.2.1 o.2 F ec_5) (by decide) k_1 rfl rfl (Nat.le_of_ble_eq_true rfl) dX12_dayGoes_143 ?_
  obtain ⟨k_7, hf⟩ := gq_ex hf
  obtain ⟨b_8, hf⟩ := gq_ex hf
  obtain ⟨h_9, eh_9, hf⟩ := bd_ex hf
  refine x_iast o k_7 b_8 dX12_dayGoes_146 (x_h eh_9 ?_)
  refine x_aload_n o dX12_dayGoes_147 1 rfl rfl ?_
  refine gRX12_7 o k_1 (p2 (up_2 eh_9) ej_2) dX12_dayGoes_148 ?_
  refine x_bipush (v := 45) o dX12_dayGoes_151 (by decide) ?_
  refine x_aload_n o dX12_dayGoes_153 1 rfl rfl ?_
  refine gRX12_7 o k_1 (p2 (up_2 eh_9) ej_2) dX12_dayGoes_154 ?_
  refine x_bipush (v := 45) o dX12_dayGoes_157 (by decide) ?_
  obtain ⟨b_10, hf⟩ := gq_ex hf
  refine x_iald o k_7 b_10 dX12_dayGoes_159 ?_
  refine x_iconst (v := 1) o dX12_dayGoes_160 (by decide) ?_
  refine x_iadd o dX12_dayGoes_161 ?_
  obtain ⟨b_11, hf⟩ := gq_ex hf
  obtain ⟨h_12, eh_12, hf⟩ := bd_ex hf
  refine x_iast o k_7 b_11 dX12_dayGoes_162 (x_h eh_12 ?_)
  refine x_aload_n o dX12_dayGoes_163 1 rfl rfl ?_
  refine x_aload_n o dX12_dayGoes_164 1 rfl rfl ?_
  refine gRX12_332 o k_1 dX12_dayGoes_165 ?_
  refine x_iconst (v := 1) o dX12_dayGoes_168 (by decide) ?_
  refine x_iadd o dX12_dayGoes_169 ?_
  obtain ⟨h_13, eh_13, hf⟩ := bd_ex hf
  refine pRX12_332 o k_1 eh_13 dX12_dayGoes_170 ?_
  refine x_sub [1] [(0, .ref (ka k a0))] rfl ?_
  exact S_X12_dayGoes_173 o F hf hr
set_option maxRecDepth 100000 in
set_option maxHeartbeats 4000000 in
theorem S_X12_dayGoes_91 {k : Kst} {d : Kdy} (o : Ok k d cX12_dayGoes RX12 4 8) (F : Nat) {k73 : Nat → Int32 → Hp → Option Hp} (hk73 : ∀ {h : Hp} {a0 : Nat} {x3 : Int32} {h1 : Hp}, k73 a0 x3 h = some h1 → RV k d cX12_dayGoes h1 → Wz k d h 73 [(0, .ref (ka k a0)), (3, .int x3)] []) {h : Hp} {a0 : Nat} {x3 : Int32} {h1 : Hp} (hf : X12_dayGoes_91 F k73 a0 x3 h = some h1) (hr : RV k d cX12_dayGoes h1) : Wz k d h 91 [(0, .ref (ka k a0)), (3, .int x3)] [] := by
  unfold X12_dayGoes_91 at hf
  obtain ⟨x3_1, ex3_1, hf⟩ := bd_ex hf
  refine x_iinc o dX12_dayGoes_91 (by decide) 1 rfl ex3_1.symm [(3, .int x3_1), (0, .ref (ka k a0))] rfl ?_
  refine x_goto o 73 dX12_dayGoes_94 (by decide) ?_
  refine x_sub [1, 0] [(0, .ref (ka k a0)), (3, .int x3_1)] rfl ?_
  exact hk73 hf hr
set_option maxRecDepth 100000 in
set_option maxHeartbeats 4000000 in
theorem S_X12_dayGoes_73 {k : Kst} {d : Kdy} (o : Ok k d cX12_dayGoes RX12 4 8) (F : Nat) : ∀ (f : Nat) {h : Hp} {a0 : Nat} {x3 : Int32} {h1 : Hp}, X12_dayGoes_73 F f a0 x3 h = some h1 → RV k d cX12_dayGoes h1 → Wz k d h 73 [(0, .ref (ka k a0)), (3, .int x3)] [] := by
  intro f
  induction f with
  | zero =>
    intro h a0 x3 h1 hf hr
    exact nomatch (show (none : Option _) = some _ from hf)
  | succ f ih =>
    intro h a0 x3 h1 hf hr
    rw [X12_dayGoes_73] at hf
    refine x_iload_n o dX12_dayGoes_73 1 rfl rfl ?_
    refine x_iconst (v := 2) o dX12_dayGoes_74 (by decide) ?_
    refine x_icmp_ge o 97 dX12_dayGoes_75 (by decide) (fun q_1 => ?_) (fun q_1 => ?_)
    · replace hf := (if_pos q_1).symm.trans hf
      refine x_aload_n o dX12_dayGoes_97 0 rfl rfl ?_
      obtain ⟨k_2, hf⟩ := gq_ex hf
      obtain ⟨c_3, ec_3, hf⟩ := ob_ex hf
      refine vRX12_329 [] [] o (C_X12_tiltNow o.1.2.2.2.2.2.2.1 o.2 F ec_3) (by decide) k_2 rfl rfl (Nat.le_of_ble_eq_true rfl) dX12_dayGoes_98 ?_
      refine x_aload_n o dX12_dayGoes_101 0 rfl rfl ?_
      refine gRX12_109 o k_2 dX12_dayGoes_102 ?_
      refine x_icmp_le o 173 dX12_dayGoes_105 (by decide) (fun q_5 => ?_) (fun q_5 => ?_)
      · replace hf := (if_pos q_5).symm.trans hf
        refine x_sub [0] [(0, .ref (ka k a0))] rfl ?_
        exact S_X12_dayGoes_173 o F hf hr
      · replace hf := (if_neg q_5).symm.trans hf
        refine x_aload_n o dX12_dayGoes_108 0 rfl rfl ?_
        refine x_iconst (v := 0) o dX12_dayGoes_109 (by decide) ?_
        obtain ⟨c_6, ec_6, hf⟩ := ob_ex hf
        refine vRX12_317 [.int 0] [] o (C_X12_weightOf o.1.2.2.2.2.2.2.1 o.2 F ec_6) (by decide) k_2 rfl rfl (Nat.le_of_ble_eq_true rfl) dX12_dayGoes_110 ?_
        refine x_aload_n o dX12_dayGoes_113 0 rfl rfl ?_
        refine x_iconst (v := 1) o dX12_dayGoes_114 (by decide) ?_
        obtain ⟨c_8, ec_8, hf⟩ := ob_ex hf
        refine vRX12_317 [.int 1] [.int c_6] o (C_X12_weightOf o.1.2.2.2.2.2.2.1 o.2 F ec_8) (by decide) k_2 rfl rfl (Nat.le_of_ble_eq_true rfl) dX12_dayGoes_115 ?_
        refine x_icmp_le o 125 dX12_dayGoes_118 (by decide) (fun q_10 => ?_) (fun q_10 => ?_)
        · replace hf := (if_pos q_10).symm.trans hf
          refine x_iconst (v := 1) o dX12_dayGoes_125 (by decide) ?_
          refine x_sub [0] [(0, .ref (ka k a0))] rfl ?_
          exact S_X12_dayGoes_126 o F hf hr
        · replace hf := (if_neg q_10).symm.trans hf
          refine x_iconst (v := 0) o dX12_dayGoes_121 (by decide) ?_
          refine x_goto o 126 dX12_dayGoes_122 (by decide) ?_
          refine x_sub [0] [(0, .ref (ka k a0))] rfl ?_
          exact S_X12_dayGoes_126 o F hf hr
    · replace hf := (if_neg q_1).symm.trans hf
      refine x_aload_n o dX12_dayGoes_78 0 rfl rfl ?_
      refine x_iload_n o dX12_dayGoes_79 1 rfl rfl ?_
      obtain ⟨k_11, hf⟩ := gq_ex hf
      obtain ⟨c_12, ec_12, hf⟩ := ob_ex hf
      refine vRX12_323 [.int x3] [] o (C_X12_touchesNow o.1.2.2.2.2.2.2.1 o.2 F ec_12) (by decide) k_11 rfl rfl (Nat.le_of_ble_eq_true rfl) dX12_dayGoes_80 ?_
      refine x_if_ne o 91 dX12_dayGoes_83 (by decide) (fun q_14 => ?_) (fun q_14 => ?_)
      · replace hf := (if_neg q_14).symm.trans hf
        refine x_sub [0, 1] [(0, .ref (ka k a0)), (3, .int x3)] rfl ?_
        exact S_X12_dayGoes_91 o F (fun q1 q2 => ih q1 q2) hf hr
      · replace hf := (if_pos q_14).symm.trans hf
        refine x_aload_n o dX12_dayGoes_86 0 rfl rfl ?_
        refine x_iload_n o dX12_dayGoes_87 1 rfl rfl ?_
        obtain ⟨h_16, eh_16, hf⟩ := ob_ex hf
        refine vRX12_326 [.int x3] [] o (C_X12_works o.1.2.2.2.2.2.2.1 o.2 F eh_16) (by decide) k_11 rfl rfl (Nat.le_of_ble_eq_true rfl) dX12_dayGoes_88 ?_
        refine x_sub [0, 1] [(0, .ref (ka k a0)), (3, .int x3)] rfl ?_
        exact S_X12_dayGoes_91 o F (fun q1 q2 => ih q1 q2) hf hr
set_option maxRecDepth 100000 in
set_option maxHeartbeats 4000000 in
theorem S_X12_dayGoes_0 {k : Kst} {d : Kdy} (o : Ok k d cX12_dayGoes RX12 4 8) (F : Nat) {h : Hp} {a0 : Nat} {h1 : Hp} (hf : X12_dayGoes F a0 h = some h1) (hr : RV k d cX12_dayGoes h1) : Wz k d h 0 [(0, .ref (ka k a0))] [] := by
  unfold X12_dayGoes at hf
  refine x_aload_n o dX12_dayGoes_0 0 rfl rfl ?_
  refine x_aload_n o dX12_dayGoes_1 0 rfl rfl ?_
  obtain ⟨k_1, hf⟩ := gq_ex hf
  obtain ⟨c_2, h_3, ec_2, hf⟩ := bq_ex hf
  refine vRX12_296 [] [.ref (ka k a0)] o (C_X12_draws o.1.2.2.2.2.2.2.1 o.2 F ec_2) (by decide) k_1 rfl rfl (Nat.le_of_ble_eq_true rfl) dX12_dayGoes_2 ?_
  obtain ⟨h_5, eh_5, hf⟩ := ob_ex hf
  refine vRX12_299 [.int c_2] [] o (C_X12_feels o.1.2.2.2.2.2.2.1 o.2 F eh_5) (by decide) k_1 rfl rfl (Nat.le_of_ble_eq_true rfl) dX12_dayGoes_5 ?_
  refine x_aload_n o dX12_dayGoes_8 0 rfl rfl ?_
  refine x_bipush (v := 105) o dX12_dayGoes_9 (by decide) ?_
  refine x_sipush (v := 999) o dX12_dayGoes_11 (by decide) ?_
  obtain ⟨c_6, h_7, ec_6, hf⟩ := bq_ex hf
  refine vRX12_308 [.int 105, .int 999] [] o (C_X12_byLaw o.1.2.2.2.2.2.2.1 o.2 F ec_6) (by decide) k_1 rfl rfl (Nat.le_of_ble_eq_true rfl) dX12_dayGoes_14 ?_
  refine x_istore_n o dX12_dayGoes_17 (by decide) rfl [(1, .int c_6), (0, .ref (ka k a0))] rfl ?_
  refine x_aload_n o dX12_dayGoes_18 1 rfl rfl ?_
  refine x_bipush (v := 110) o dX12_dayGoes_19 (by decide) ?_
  refine x_sipush (v := 9999) o dX12_dayGoes_21 (by decide) ?_
  obtain ⟨c_8, h_9, ec_8, hf⟩ := bq_ex hf
  refine vRX12_308 [.int 110, .int 9999] [] o (C_X12_byLaw o.1.2.2.2.2.2.2.1 o.2 F ec_8) (by decide) k_1 rfl rfl (Nat.le_of_ble_eq_true rfl) dX12_dayGoes_24 ?_
  refine x_istore_n o dX12_dayGoes_27 (by decide) rfl [(2, .int c_8), (1, .int c_6), (0, .ref (ka k a0))] rfl ?_
  refine x_aload_n o dX12_dayGoes_28 2 rfl rfl ?_
  obtain ⟨j_10, ej_10, hf⟩ := ob_ex hf
  refine gRX12_7 o k_1 ej_10 dX12_dayGoes_29 ?_
  refine x_bipush (v := 42) o dX12_dayGoes_32 (by decide) ?_
  refine x_ldc (v := 99999) o dX12_dayGoes_34 wRX12_108 ?_
  refine x_aload_n o dX12_dayGoes_36 2 rfl rfl ?_
  refine gRX12_7 o k_1 ej_10 dX12_dayGoes_37 ?_
  refine x_bipush (v := 42) o dX12_dayGoes_40 (by decide) ?_
  obtain ⟨k_11, hf⟩ := gq_ex hf
  obtain ⟨b_12, hf⟩ := gq_ex hf
  refine x_iald o k_11 b_12 dX12_dayGoes_42 ?_
  refine x_iload_n o dX12_dayGoes_43 1 rfl rfl ?_
  refine x_iadd o dX12_dayGoes_44 ?_
  obtain ⟨c_13, ec_13, hf⟩ := ob_ex hf
  refine vRX12_269 [.int 99999, .int ((h_9.1 j_10 (ix 42)) + c_6)] [.int 42, .ref (ka k j_10)] o (C_X12_min o.1.2.2.2.2.2.2.1 o.2 F ec_13) (by decide) rfl rfl (Nat.le_of_ble_eq_true rfl) dX12_dayGoes_45 ?_
  obtain ⟨b_15, hf⟩ := gq_ex hf
  obtain ⟨h_16, eh_16, hf⟩ := bd_ex hf
  refine x_iast o k_11 b_15 dX12_dayGoes_48 (x_h eh_16 ?_)
  refine x_aload_n o dX12_dayGoes_49 2 rfl rfl ?_
  refine gRX12_7 o k_1 (p2 (up_2 eh_16) ej_10) dX12_dayGoes_50 ?_
  refine x_bipush (v := 43) o dX12_dayGoes_53 (by decide) ?_
  refine x_ldcw (v := 999999) o dX12_dayGoes_55 wRX12_281 ?_
  refine x_aload_n o dX12_dayGoes_58 2 rfl rfl ?_
  refine gRX12_7 o k_1 (p2 (up_2 eh_16) ej_10) dX12_dayGoes_59 ?_
  refine x_bipush (v := 43) o dX12_dayGoes_62 (by decide) ?_
  obtain ⟨b_17, hf⟩ := gq_ex hf
  refine x_iald o k_11 b_17 dX12_dayGoes_64 ?_
  refine x_iload_n o dX12_dayGoes_65 0 rfl rfl ?_
  refine x_iadd o dX12_dayGoes_66 ?_
  obtain ⟨c_18, ec_18, hf⟩ := ob_ex hf
  refine vRX12_269 [.int 999999, .int ((h_16.1 j_10 (ix 43)) + c_8)] [.int 43, .ref (ka k j_10)] o (C_X12_min o.1.2.2.2.2.2.2.1 o.2 F ec_18) (by decide) rfl rfl (Nat.le_of_ble_eq_true rfl) dX12_dayGoes_67 ?_
  obtain ⟨b_20, hf⟩ := gq_ex hf
  obtain ⟨h_21, eh_21, hf⟩ := bd_ex hf
  refine x_iast o k_11 b_20 dX12_dayGoes_70 (x_h eh_21 ?_)
  refine x_iconst (v := 0) o dX12_dayGoes_71 (by decide) ?_
  refine x_istore_n o dX12_dayGoes_72 (by decide) rfl [(3, .int 0), (2, .int c_8), (1, .int c_6), (0, .ref (ka k a0))] rfl ?_
  refine x_sub [3, 0] [(0, .ref (ka k a0)), (3, .int 0)] rfl ?_
  exact S_X12_dayGoes_73 o F _ hf hr
theorem C_X12_dayGoes {k : Kst} (hj : Dj k) (hn : kn k = kdl.length) (F : Nat) {h : Hp} {a0 : Nat} {h1 : Hp} (hf : X12_dayGoes F a0 h = some h1) : MV k 8 yX12_dayGoes cX12_dayGoes 4 [.ref (ka k a0)] h h1 := mV hj hn (by decide +kernel) (Nat.le_of_ble_eq_true rfl) (fun d o hr => S_X12_dayGoes_0 o F hf hr)
set_option maxRecDepth 100000 in
set_option maxHeartbeats 4000000 in
theorem S_X12_beginsDays_0 {k : Kst} {d : Kdy} (o : Ok k d cX12_beginsDays RX12 1 3) (F : Nat) {h : Hp} {a0 : Nat} {h1 : Hp} (hf : X12_beginsDays F a0 h = some h1) (hr : RV k d cX12_beginsDays h1) : Wz k d h 0 [(0, .ref (ka k a0))] [] := by
  unfold X12_beginsDays at hf
  refine x_aload_n o dX12_beginsDays_0 0 rfl rfl ?_
  refine x_iconst (v := 0) o dX12_beginsDays_1 (by decide) ?_
  obtain ⟨k_1, hf⟩ := gq_ex hf
  obtain ⟨h_2, eh_2, hf⟩ := bd_ex hf
  refine pRX12_314 o k_1 eh_2 dX12_beginsDays_2 ?_
  refine x_aload_n o dX12_beginsDays_5 0 rfl rfl ?_
  refine x_iconst (v := 0) o dX12_beginsDays_6 (by decide) ?_
  obtain ⟨h_3, eh_3, hf⟩ := bd_ex hf
  refine pRX12_332 o k_1 eh_3 dX12_beginsDays_7 ?_
  cases hf
  exact hr _ _ dX12_beginsDays_10
theorem C_X12_beginsDays {k : Kst} (hj : Dj k) (hn : kn k = kdl.length) (F : Nat) {h : Hp} {a0 : Nat} {h1 : Hp} (hf : X12_beginsDays F a0 h = some h1) : MV k 3 yX12_beginsDays cX12_beginsDays 1 [.ref (ka k a0)] h h1 := mV hj hn (by decide +kernel) (Nat.le_of_ble_eq_true rfl) (fun d o hr => S_X12_beginsDays_0 o F hf hr)
set_option maxRecDepth 100000 in
set_option maxHeartbeats 4000000 in
theorem S_X12_daysGo_6 {k : Kst} {d : Kdy} (o : Ok k d cX12_daysGo RX12 3 9) (F : Nat) : ∀ (f : Nat) {h : Hp} {a0 : Nat} {x1 : Int32} {x2 : Int32} {h1 : Hp}, X12_daysGo_6 F f a0 x1 x2 h = some h1 → RV k d cX12_daysGo h1 → Wz k d h 6 [(0, .ref (ka k a0)), (1, .int x1), (2, .int x2)] [] := by
  intro f
  induction f with
  | zero =>
    intro h a0 x1 x2 h1 hf hr
    exact nomatch (show (none : Option _) = some _ from hf)
  | succ f ih =>
    intro h a0 x1 x2 h1 hf hr
    rw [X12_daysGo_6] at hf
    refine x_iload_n o dX12_daysGo_6 2 rfl rfl ?_
    refine x_iload_n o dX12_daysGo_7 1 rfl rfl ?_
    refine x_icmp_ge o 34 dX12_daysGo_8 (by decide) (fun q_1 => ?_) (fun q_1 => ?_)
    · replace hf := (if_pos q_1).symm.trans hf
      cases hf
      exact hr _ _ dX12_daysGo_34
    · replace hf := (if_neg q_1).symm.trans hf
      refine x_aload_n o dX12_daysGo_11 0 rfl rfl ?_
      obtain ⟨k_2, hf⟩ := gq_ex hf
      obtain ⟨j_3, ej_3, hf⟩ := ob_ex hf
      refine gRX12_7 o k_2 ej_3 dX12_daysGo_12 ?_
      refine x_bipush (v := 44) o dX12_daysGo_15 (by decide) ?_
      obtain ⟨k_4, hf⟩ := gq_ex hf
      obtain ⟨b_5, hf⟩ := gq_ex hf
      refine x_iald o k_4 b_5 dX12_daysGo_17 ?_
      refine x_sipush (v := 9999) o dX12_daysGo_18 (by decide) ?_
      refine x_icmp_ge o 34 dX12_daysGo_21 (by decide) (fun q_6 => ?_) (fun q_6 => ?_)
      · replace hf := (if_pos q_6).symm.trans hf
        cases hf
        exact hr _ _ dX12_daysGo_34
      · replace hf := (if_neg q_6).symm.trans hf
        refine x_aload_n o dX12_daysGo_24 0 rfl rfl ?_
        obtain ⟨h_8, eh_8, hf⟩ := ob_ex hf
        refine vRX12_338 [] [] o (C_X12_dayGoes o.1.2.2.2.2.2.2.1 o.2 F eh_8) (by decide) k_2 rfl rfl (Nat.le_of_ble_eq_true rfl) dX12_daysGo_25 ?_
        obtain ⟨x2_9, ex2_9, hf⟩ := bd_ex hf
        refine x_iinc o dX12_daysGo_28 (by decide) 2 rfl ex2_9.symm [(2, .int x2_9), (0, .ref (ka k a0)), (1, .int x1)] rfl ?_
        refine x_goto o 6 dX12_daysGo_31 (by decide) ?_
        refine x_sub [1, 2, 0] [(0, .ref (ka k a0)), (1, .int x1), (2, .int x2_9)] rfl ?_
        exact ih hf hr
set_option maxRecDepth 100000 in
set_option maxHeartbeats 4000000 in
theorem S_X12_daysGo_0 {k : Kst} {d : Kdy} (o : Ok k d cX12_daysGo RX12 3 9) (F : Nat) {h : Hp} {a0 : Nat} {x1 : Int32} {h1 : Hp} (hf : X12_daysGo F a0 x1 h = some h1) (hr : RV k d cX12_daysGo h1) : Wz k d h 0 [(0, .ref (ka k a0)), (1, .int x1)] [] := by
  unfold X12_daysGo at hf
  refine x_aload_n o dX12_daysGo_0 0 rfl rfl ?_
  obtain ⟨k_1, hf⟩ := gq_ex hf
  obtain ⟨h_3, eh_3, hf⟩ := ob_ex hf
  refine vRX12_335 [] [] o (C_X12_beginsDays o.1.2.2.2.2.2.2.1 o.2 F eh_3) (by decide) k_1 rfl rfl (Nat.le_of_ble_eq_true rfl) dX12_daysGo_1 ?_
  refine x_iconst (v := 0) o dX12_daysGo_4 (by decide) ?_
  refine x_istore_n o dX12_daysGo_5 (by decide) rfl [(2, .int 0), (0, .ref (ka k a0)), (1, .int x1)] rfl ?_
  refine x_sub [1, 2, 0] [(0, .ref (ka k a0)), (1, .int x1), (2, .int 0)] rfl ?_
  exact S_X12_daysGo_6 o F _ hf hr
theorem C_X12_daysGo {k : Kst} (hj : Dj k) (hn : kn k = kdl.length) (F : Nat) {h : Hp} {a0 : Nat} {x1 : Int32} {h1 : Hp} (hf : X12_daysGo F a0 x1 h = some h1) : MV k 9 yX12_daysGo cX12_daysGo 3 [.ref (ka k a0), .int x1] h h1 := mV hj hn (by decide +kernel) (Nat.le_of_ble_eq_true rfl) (fun d o hr => S_X12_daysGo_0 o F hf hr)
set_option maxRecDepth 100000 in
set_option maxHeartbeats 4000000 in
theorem S_X12_days_0 {k : Kst} {d : Kdy} (o : Ok k d cX12_days RX12 2 10) (F : Nat) {h : Hp} {a0 : Nat} {x1 : Int32} {r : Int32} {h1 : Hp} (hf : X12_days F a0 x1 h = some (r, h1)) (hr : RI k d cX12_days r h1) : Wz k d h 0 [(0, .ref (ka k a0)), (1, .int x1)] [] := by
  unfold X12_days at hf
  refine x_iload_n o dX12_days_0 1 rfl rfl ?_
  refine x_iconst (v := 1) o dX12_days_1 (by decide) ?_
  refine x_sipush (v := 240) o dX12_days_2 (by decide) ?_
  obtain ⟨c_1, ec_1, hf⟩ := ob_ex hf
  refine vRX12_113 [.int x1, .int 1, .int 240] [] o (C_X12_in o.1.2.2.2.2.2.2.1 o.2 F ec_1) (by decide) rfl rfl (Nat.le_of_ble_eq_true rfl) dX12_days_5 ?_
  refine x_if_ne o 13 dX12_days_8 (by decide) (fun q_3 => ?_) (fun q_3 => ?_)
  · replace hf := (if_neg q_3).symm.trans hf
    refine x_aload_n o dX12_days_13 0 rfl rfl ?_
    refine x_iload_n o dX12_days_14 1 rfl rfl ?_
    obtain ⟨k_4, hf⟩ := gq_ex hf
    obtain ⟨h_6, eh_6, hf⟩ := ob_ex hf
    refine vRX12_341 [.int x1] [] o (C_X12_daysGo o.1.2.2.2.2.2.2.1 o.2 F eh_6) (by decide) k_4 rfl rfl (Nat.le_of_ble_eq_true rfl) dX12_days_15 ?_
    refine x_aload_n o dX12_days_18 0 rfl rfl ?_
    refine gRX12_314 o k_4 dX12_days_19 ?_
    cases hf
    exact hr _ _ dX12_days_22
  · replace hf := (if_pos q_3).symm.trans hf
    refine x_iconst (v := (-1)) o dX12_days_11 (by decide) ?_
    cases hf
    exact hr _ _ dX12_days_12
theorem C_X12_days {k : Kst} (hj : Dj k) (hn : kn k = kdl.length) (F : Nat) {h : Hp} {a0 : Nat} {x1 : Int32} {r : Int32} {h1 : Hp} (hf : X12_days F a0 x1 h = some (r, h1)) : MI k 10 yX12_days cX12_days 2 (some .int) [.ref (ka k a0), .int x1] h r h1 := mI hj hn (by decide +kernel) (Nat.le_of_ble_eq_true rfl) (fun d o hr => S_X12_days_0 o F hf hr)
set_option maxRecDepth 100000 in
set_option maxHeartbeats 4000000 in
theorem S_X12_tried_127 {k : Kst} {d : Kdy} (o : Ok k d cX12_tried RX12 4 10) (F : Nat) {h : Hp} {a0 : Nat} {x3 : Int32} {r : Int32} {h1 : Hp} (hf : X12_tried_127 F a0 x3 h = some (r, h1)) (hr : RI k d cX12_tried r h1) : Wz k d h 127 [(0, .ref (ka k a0)), (3, .int x3)] [] := by
  unfold X12_tried_127 at hf
  refine x_aload_n o dX12_tried_127 0 rfl rfl ?_
  obtain ⟨k_1, hf⟩ := gq_ex hf
  obtain ⟨j_2, ej_2, hf⟩ := ob_ex hf
  refine gRX12_13 o k_1 ej_2 dX12_tried_128 ?_
  refine x_aload_n o dX12_tried_131 0 rfl rfl ?_
  obtain ⟨j_3, ej_3, hf⟩ := ob_ex hf
  refine gRX12_7 o k_1 ej_3 dX12_tried_132 ?_
  obtain ⟨h_5, eh_5, hf⟩ := ob_ex hf
  refine vRX12_285 [.ref (ka k j_2), .ref (ka k j_3)] [] o (C_X12_copies o.1.2.2.2.2.2.2.1 o.2 F eh_5) (by decide) rfl rfl (Nat.le_of_ble_eq_true rfl) dX12_tried_135 ?_
  refine x_iload_n o dX12_tried_138 1 rfl rfl ?_
  cases hf
  exact hr _ _ dX12_tried_139
set_option maxRecDepth 100000 in
set_option maxHeartbeats 4000000 in
theorem S_X12_tried_33 {k : Kst} {d : Kdy} (o : Ok k d cX12_tried RX12 4 10) (F : Nat) {h : Hp} {a0 : Nat} {x1 : Int32} {x2 : Int32} {r : Int32} {h1 : Hp} (hf : X12_tried_33 F a0 x1 x2 h = some (r, h1)) (hr : RI k d cX12_tried r h1) : Wz k d h 33 [(0, .ref (ka k a0)), (1, .int x1), (2, .int x2)] [] := by
  unfold X12_tried_33 at hf
  refine x_aload_n o dX12_tried_33 0 rfl rfl ?_
  obtain ⟨k_1, hf⟩ := gq_ex hf
  obtain ⟨j_2, ej_2, hf⟩ := ob_ex hf
  refine gRX12_7 o k_1 ej_2 dX12_tried_34 ?_
  refine x_aload_n o dX12_tried_37 0 rfl rfl ?_
  obtain ⟨j_3, ej_3, hf⟩ := ob_ex hf
  refine gRX12_13 o k_1 ej_3 dX12_tried_38 ?_
  obtain ⟨h_5, eh_5, hf⟩ := ob_ex hf
  refine vRX12_285 [.ref (ka k j_2), .ref (ka k j_3)] [] o (C_X12_copies o.1.2.2.2.2.2.2.1 o.2 F eh_5) (by decide) rfl rfl (Nat.le_of_ble_eq_true rfl) dX12_tried_41 ?_
  refine x_aload_n o dX12_tried_44 0 rfl rfl ?_
  refine x_iload_n o dX12_tried_45 1 rfl rfl ?_
  obtain ⟨h_7, eh_7, hf⟩ := ob_ex hf
  refine vRX12_341 [.int x1] [] o (C_X12_daysGo o.1.2.2.2.2.2.2.1 o.2 F eh_7) (by decide) k_1 rfl rfl (Nat.le_of_ble_eq_true rfl) dX12_tried_46 ?_
  refine x_iload_n o dX12_tried_49 2 rfl rfl ?_
  obtain ⟨t_8, et_8, hf⟩ := bd_ex hf
  refine x_top et_8 ?_
  by_cases q_9 : t_8 = 0
  · replace hf := (if_pos q_9).symm.trans hf
    refine x_tabi (v := 0) o 80 q_9 (by decide) (by decide) rfl (by decide) dX12_tried_50 ?_
    refine x_aload_n o dX12_tried_80 0 rfl rfl ?_
    refine gRX12_314 o k_1 dX12_tried_81 ?_
    obtain ⟨x3_10, ex3_10, hf⟩ := bd_ex hf
    refine x_top ex3_10 ?_
    refine x_istore_n o dX12_tried_84 (by decide) rfl [(3, .int x3_10), (0, .ref (ka k a0)), (1, .int x1), (2, .int x2)] rfl ?_
    refine x_goto o 127 dX12_tried_85 (by decide) ?_
    refine x_sub [1, 0] [(0, .ref (ka k a0)), (3, .int x3_10)] rfl ?_
    exact S_X12_tried_127 o F hf hr
  replace hf := (if_neg q_9).symm.trans hf
  by_cases q_11 : t_8 = 1
  · replace hf := (if_pos q_11).symm.trans hf
    refine x_tabi (v := 1) o 88 q_11 (by decide) (by decide) rfl (by decide) dX12_tried_50 ?_
    refine x_aload_n o dX12_tried_88 0 rfl rfl ?_
    refine gRX12_332 o k_1 dX12_tried_89 ?_
    obtain ⟨x3_12, ex3_12, hf⟩ := bd_ex hf
    refine x_top ex3_12 ?_
    refine x_istore_n o dX12_tried_92 (by decide) rfl [(3, .int x3_12), (0, .ref (ka k a0)), (1, .int x1), (2, .int x2)] rfl ?_
    refine x_goto o 127 dX12_tried_93 (by decide) ?_
    refine x_sub [1, 0] [(0, .ref (ka k a0)), (3, .int x3_12)] rfl ?_
    exact S_X12_tried_127 o F hf hr
  replace hf := (if_neg q_11).symm.trans hf
  by_cases q_13 : t_8 = 2
  · replace hf := (if_pos q_13).symm.trans hf
    refine x_tabi (v := 2) o 96 q_13 (by decide) (by decide) rfl (by decide) dX12_tried_50 ?_
    refine x_aload_n o dX12_tried_96 0 rfl rfl ?_
    obtain ⟨j_14, ej_14, hf⟩ := ob_ex hf
    refine gRX12_7 o k_1 ej_14 dX12_tried_97 ?_
    refine x_bipush (v := 43) o dX12_tried_100 (by decide) ?_
    obtain ⟨k_15, hf⟩ := gq_ex hf
    obtain ⟨b_16, hf⟩ := gq_ex hf
    refine x_iald o k_15 b_16 dX12_tried_102 ?_
    obtain ⟨x3_17, ex3_17, hf⟩ := bd_ex hf
    refine x_top ex3_17 ?_
    refine x_istore_n o dX12_tried_103 (by decide) rfl [(3, .int x3_17), (0, .ref (ka k a0)), (1, .int x1), (2, .int x2)] rfl ?_
    refine x_goto o 127 dX12_tried_104 (by decide) ?_
    refine x_sub [1, 0] [(0, .ref (ka k a0)), (3, .int x3_17)] rfl ?_
    exact S_X12_tried_127 o F hf hr
  replace hf := (if_neg q_13).symm.trans hf
  by_cases q_18 : t_8 = 3
  · replace hf := (if_pos q_18).symm.trans hf
    refine x_tabi (v := 3) o 107 q_18 (by decide) (by decide) rfl (by decide) dX12_tried_50 ?_
    refine x_aload_n o dX12_tried_107 0 rfl rfl ?_
    obtain ⟨j_19, ej_19, hf⟩ := ob_ex hf
    refine gRX12_7 o k_1 ej_19 dX12_tried_108 ?_
    refine x_bipush (v := 42) o dX12_tried_111 (by decide) ?_
    obtain ⟨k_20, hf⟩ := gq_ex hf
    obtain ⟨b_21, hf⟩ := gq_ex hf
    refine x_iald o k_20 b_21 dX12_tried_113 ?_
    obtain ⟨x3_22, ex3_22, hf⟩ := bd_ex hf
    refine x_top ex3_22 ?_
    refine x_istore_n o dX12_tried_114 (by decide) rfl [(3, .int x3_22), (0, .ref (ka k a0)), (1, .int x1), (2, .int x2)] rfl ?_
    refine x_goto o 127 dX12_tried_115 (by decide) ?_
    refine x_sub [1, 0] [(0, .ref (ka k a0)), (3, .int x3_22)] rfl ?_
    exact S_X12_tried_127 o F hf hr
  replace hf := (if_neg q_18).symm.trans hf
  refine x_tabo o 118 (by have z0 := lv_neT (a := 0) q_9 rfl; have z1 := lv_neT (a := 1) q_11 rfl; have z2 := lv_neT (a := 2) q_13 rfl; have z3 := lv_neT (a := 3) q_18 rfl; omega) (by decide) dX12_tried_50 ?_
  refine x_aload_n o dX12_tried_118 0 rfl rfl ?_
  refine x_iload_n o dX12_tried_119 2 rfl rfl ?_
  refine x_bipush (v := 10) o dX12_tried_120 (by decide) ?_
  refine x_isub o dX12_tried_122 ?_
  obtain ⟨c_23, ec_23, hf⟩ := ob_ex hf
  refine vRX12_121 [.int (x2 - 10)] [] o (C_X12_standing o.1.2.2.2.2.2.2.1 o.2 F ec_23) (by decide) k_1 rfl rfl (Nat.le_of_ble_eq_true rfl) dX12_tried_123 ?_
  refine x_istore_n o dX12_tried_126 (by decide) rfl [(3, .int c_23), (0, .ref (ka k a0)), (1, .int x1), (2, .int x2)] rfl ?_
  refine x_sub [1, 0] [(0, .ref (ka k a0)), (3, .int c_23)] rfl ?_
  exact S_X12_tried_127 o F hf hr
set_option maxRecDepth 100000 in
set_option maxHeartbeats 4000000 in
theorem S_X12_tried_0 {k : Kst} {d : Kdy} (o : Ok k d cX12_tried RX12 4 10) (F : Nat) {h : Hp} {a0 : Nat} {x1 : Int32} {x2 : Int32} {r : Int32} {h1 : Hp} (hf : X12_tried F a0 x1 x2 h = some (r, h1)) (hr : RI k d cX12_tried r h1) : Wz k d h 0 [(0, .ref (ka k a0)), (1, .int x1), (2, .int x2)] [] := by
  unfold X12_tried at hf
  refine x_iload_n o dX12_tried_0 1 rfl rfl ?_
  refine x_iconst (v := 1) o dX12_tried_1 (by decide) ?_
  refine x_sipush (v := 240) o dX12_tried_2 (by decide) ?_
  obtain ⟨c_1, ec_1, hf⟩ := ob_ex hf
  refine vRX12_113 [.int x1, .int 1, .int 240] [] o (C_X12_in o.1.2.2.2.2.2.2.1 o.2 F ec_1) (by decide) rfl rfl (Nat.le_of_ble_eq_true rfl) dX12_tried_5 ?_
  refine x_if_eq o 31 dX12_tried_8 (by decide) (fun q_3 => ?_) (fun q_3 => ?_)
  · replace hf := (if_pos q_3).symm.trans hf
    refine x_iconst (v := (-1)) o dX12_tried_31 (by decide) ?_
    cases hf
    exact hr _ _ dX12_tried_32
  · replace hf := (if_neg q_3).symm.trans hf
    refine x_iload_n o dX12_tried_11 2 rfl rfl ?_
    refine x_iconst (v := 0) o dX12_tried_12 (by decide) ?_
    refine x_iconst (v := 3) o dX12_tried_13 (by decide) ?_
    obtain ⟨c_4, ec_4, hf⟩ := ob_ex hf
    refine vRX12_113 [.int x2, .int 0, .int 3] [] o (C_X12_in o.1.2.2.2.2.2.2.1 o.2 F ec_4) (by decide) rfl rfl (Nat.le_of_ble_eq_true rfl) dX12_tried_14 ?_
    refine x_if_ne o 33 dX12_tried_17 (by decide) (fun q_6 => ?_) (fun q_6 => ?_)
    · replace hf := (if_neg q_6).symm.trans hf
      refine x_sub [0, 1, 2] [(0, .ref (ka k a0)), (1, .int x1), (2, .int x2)] rfl ?_
      exact S_X12_tried_33 o F hf hr
    · replace hf := (if_pos q_6).symm.trans hf
      refine x_iload_n o dX12_tried_20 2 rfl rfl ?_
      refine x_bipush (v := 10) o dX12_tried_21 (by decide) ?_
      refine x_bipush (v := 11) o dX12_tried_23 (by decide) ?_
      obtain ⟨c_7, ec_7, hf⟩ := ob_ex hf
      refine vRX12_113 [.int x2, .int 10, .int 11] [] o (C_X12_in o.1.2.2.2.2.2.2.1 o.2 F ec_7) (by decide) rfl rfl (Nat.le_of_ble_eq_true rfl) dX12_tried_25 ?_
      refine x_if_ne o 33 dX12_tried_28 (by decide) (fun q_9 => ?_) (fun q_9 => ?_)
      · replace hf := (if_neg q_9).symm.trans hf
        refine x_sub [0, 1, 2] [(0, .ref (ka k a0)), (1, .int x1), (2, .int x2)] rfl ?_
        exact S_X12_tried_33 o F hf hr
      · replace hf := (if_pos q_9).symm.trans hf
        refine x_iconst (v := (-1)) o dX12_tried_31 (by decide) ?_
        cases hf
        exact hr _ _ dX12_tried_32
theorem C_X12_tried {k : Kst} (hj : Dj k) (hn : kn k = kdl.length) (F : Nat) {h : Hp} {a0 : Nat} {x1 : Int32} {x2 : Int32} {r : Int32} {h1 : Hp} (hf : X12_tried F a0 x1 x2 h = some (r, h1)) : MI k 10 yX12_tried cX12_tried 4 (some .int) [.ref (ka k a0), .int x1, .int x2] h r h1 := mI hj hn (by decide +kernel) (Nat.le_of_ble_eq_true rfl) (fun d o hr => S_X12_tried_0 o F hf hr)
set_option maxRecDepth 100000 in
set_option maxHeartbeats 4000000 in
theorem S_X12_sideIs_0 {k : Kst} {d : Kdy} (o : Ok k d cX12_sideIs RX12 3 7) (F : Nat) {h : Hp} {a0 : Nat} {x1 : Int32} {x2 : Int32} {r : Int32} (hf : X12_sideIs F a0 x1 x2 h = some r) (hr : RI k d cX12_sideIs r h) : Wz k d h 0 [(0, .ref (ka k a0)), (1, .int x1), (2, .int x2)] [] := by
  unfold X12_sideIs at hf
  refine x_iload_n o dX12_sideIs_0 1 rfl rfl ?_
  obtain ⟨c_1, ec_1, hf⟩ := ob_ex hf
  refine vRX12_263 [.int x1] [] o (C_X12_isSide o.1.2.2.2.2.2.2.1 o.2 F ec_1) (by decide) rfl rfl (Nat.le_of_ble_eq_true rfl) dX12_sideIs_1 ?_
  refine x_if_ne o 9 dX12_sideIs_4 (by decide) (fun q_3 => ?_) (fun q_3 => ?_)
  · replace hf := (if_neg q_3).symm.trans hf
    refine x_iload_n o dX12_sideIs_9 2 rfl rfl ?_
    obtain ⟨t_4, et_4, hf⟩ := bd_ex hf
    refine x_top et_4 ?_
    by_cases q_5 : t_4 = 0
    · replace hf := (if_pos q_5).symm.trans hf
      refine x_tabi (v := 0) o 52 q_5 (by decide) (by decide) rfl (by decide) dX12_sideIs_10 ?_
      refine x_aload_n o dX12_sideIs_52 0 rfl rfl ?_
      obtain ⟨k_6, hf⟩ := gq_ex hf
      obtain ⟨j_7, ej_7, hf⟩ := ob_ex hf
      refine gRX12_19 o k_6 ej_7 dX12_sideIs_53 ?_
      refine x_iload_n o dX12_sideIs_56 1 rfl rfl ?_
      obtain ⟨k_8, hf⟩ := gq_ex hf
      obtain ⟨b_9, hf⟩ := gq_ex hf
      refine x_iald o k_8 b_9 dX12_sideIs_57 ?_
      cases hf
      exact hr _ _ dX12_sideIs_58
    replace hf := (if_neg q_5).symm.trans hf
    by_cases q_10 : t_4 = 1
    · replace hf := (if_pos q_10).symm.trans hf
      refine x_tabi (v := 1) o 59 q_10 (by decide) (by decide) rfl (by decide) dX12_sideIs_10 ?_
      refine x_aload_n o dX12_sideIs_59 0 rfl rfl ?_
      refine x_iload_n o dX12_sideIs_60 1 rfl rfl ?_
      obtain ⟨k_11, hf⟩ := gq_ex hf
      obtain ⟨c_12, ec_12, hf⟩ := ob_ex hf
      refine vRX12_121 [.int x1] [] o (C_X12_standing o.1.2.2.2.2.2.2.1 o.2 F ec_12) (by decide) k_11 rfl rfl (Nat.le_of_ble_eq_true rfl) dX12_sideIs_61 ?_
      cases hf
      exact hr _ _ dX12_sideIs_64
    replace hf := (if_neg q_10).symm.trans hf
    by_cases q_14 : t_4 = 2
    · replace hf := (if_pos q_14).symm.trans hf
      refine x_tabi (v := 2) o 65 q_14 (by decide) (by decide) rfl (by decide) dX12_sideIs_10 ?_
      refine x_aload_n o dX12_sideIs_65 0 rfl rfl ?_
      obtain ⟨k_15, hf⟩ := gq_ex hf
      obtain ⟨j_16, ej_16, hf⟩ := ob_ex hf
      refine gRX12_7 o k_15 ej_16 dX12_sideIs_66 ?_
      refine x_iconst (v := 0) o dX12_sideIs_69 (by decide) ?_
      refine x_iload_n o dX12_sideIs_70 1 rfl rfl ?_
      refine x_iadd o dX12_sideIs_71 ?_
      obtain ⟨k_17, hf⟩ := gq_ex hf
      obtain ⟨b_18, hf⟩ := gq_ex hf
      refine x_iald o k_17 b_18 dX12_sideIs_72 ?_
      cases hf
      exact hr _ _ dX12_sideIs_73
    replace hf := (if_neg q_14).symm.trans hf
    by_cases q_19 : t_4 = 3
    · replace hf := (if_pos q_19).symm.trans hf
      refine x_tabi (v := 3) o 74 q_19 (by decide) (by decide) rfl (by decide) dX12_sideIs_10 ?_
      refine x_aload_n o dX12_sideIs_74 0 rfl rfl ?_
      refine x_iload_n o dX12_sideIs_75 1 rfl rfl ?_
      obtain ⟨k_20, hf⟩ := gq_ex hf
      obtain ⟨c_21, ec_21, hf⟩ := ob_ex hf
      refine vRX12_302 [.int x1] [] o (C_X12_nextNeeds o.1.2.2.2.2.2.2.1 o.2 F ec_21) (by decide) k_20 rfl rfl (Nat.le_of_ble_eq_true rfl) dX12_sideIs_76 ?_
      cases hf
      exact hr _ _ dX12_sideIs_79
    replace hf := (if_neg q_19).symm.trans hf
    by_cases q_23 : t_4 = 4
    · replace hf := (if_pos q_23).symm.trans hf
      refine x_tabi (v := 4) o 80 q_23 (by decide) (by decide) rfl (by decide) dX12_sideIs_10 ?_
      refine x_aload_n o dX12_sideIs_80 0 rfl rfl ?_
      refine x_iload_n o dX12_sideIs_81 1 rfl rfl ?_
      obtain ⟨k_24, hf⟩ := gq_ex hf
      obtain ⟨c_25, ec_25, hf⟩ := ob_ex hf
      refine vRX12_317 [.int x1] [] o (C_X12_weightOf o.1.2.2.2.2.2.2.1 o.2 F ec_25) (by decide) k_24 rfl rfl (Nat.le_of_ble_eq_true rfl) dX12_sideIs_82 ?_
      cases hf
      exact hr _ _ dX12_sideIs_85
    replace hf := (if_neg q_23).symm.trans hf
    by_cases q_27 : t_4 = 5
    · replace hf := (if_pos q_27).symm.trans hf
      refine x_tabi (v := 5) o 86 q_27 (by decide) (by decide) rfl (by decide) dX12_sideIs_10 ?_
      refine x_aload_n o dX12_sideIs_86 0 rfl rfl ?_
      refine x_iload_n o dX12_sideIs_87 1 rfl rfl ?_
      obtain ⟨k_28, hf⟩ := gq_ex hf
      obtain ⟨c_29, ec_29, hf⟩ := ob_ex hf
      refine vRX12_323 [.int x1] [] o (C_X12_touchesNow o.1.2.2.2.2.2.2.1 o.2 F ec_29) (by decide) k_28 rfl rfl (Nat.le_of_ble_eq_true rfl) dX12_sideIs_88 ?_
      refine x_if_eq o 98 dX12_sideIs_91 (by decide) (fun q_31 => ?_) (fun q_31 => ?_)
      · replace hf := (if_pos q_31).symm.trans hf
        refine x_iconst (v := 0) o dX12_sideIs_98 (by decide) ?_
        cases hf
        exact hr _ _ dX12_sideIs_99
      · replace hf := (if_neg q_31).symm.trans hf
        refine x_iconst (v := 1) o dX12_sideIs_94 (by decide) ?_
        refine x_goto o 99 dX12_sideIs_95 (by decide) ?_
        cases hf
        exact hr _ _ dX12_sideIs_99
    replace hf := (if_neg q_27).symm.trans hf
    by_cases q_32 : t_4 = 6
    · replace hf := (if_pos q_32).symm.trans hf
      refine x_tabi (v := 6) o 100 q_32 (by decide) (by decide) rfl (by decide) dX12_sideIs_10 ?_
      refine x_aload_n o dX12_sideIs_100 0 rfl rfl ?_
      refine x_iload_n o dX12_sideIs_101 1 rfl rfl ?_
      obtain ⟨k_33, hf⟩ := gq_ex hf
      obtain ⟨c_34, ec_34, hf⟩ := ob_ex hf
      refine vRX12_293 [.int x1] [] o (C_X12_whole o.1.2.2.2.2.2.2.1 o.2 F ec_34) (by decide) k_33 rfl rfl (Nat.le_of_ble_eq_true rfl) dX12_sideIs_102 ?_
      cases hf
      exact hr _ _ dX12_sideIs_105
    replace hf := (if_neg q_32).symm.trans hf
    refine x_tabo o 106 (by have z0 := lv_neT (a := 0) q_5 rfl; have z1 := lv_neT (a := 1) q_10 rfl; have z2 := lv_neT (a := 2) q_14 rfl; have z3 := lv_neT (a := 3) q_19 rfl; have z4 := lv_neT (a := 4) q_23 rfl; have z5 := lv_neT (a := 5) q_27 rfl; have z6 := lv_neT (a := 6) q_32 rfl; omega) (by decide) dX12_sideIs_10 ?_
    refine x_iconst (v := (-1)) o dX12_sideIs_106 (by decide) ?_
    cases hf
    exact hr _ _ dX12_sideIs_107
  · replace hf := (if_pos q_3).symm.trans hf
    refine x_iconst (v := (-1)) o dX12_sideIs_7 (by decide) ?_
    cases hf
    exact hr _ _ dX12_sideIs_8
theorem C_X12_sideIs {k : Kst} (hj : Dj k) (hn : kn k = kdl.length) (F : Nat) {h : Hp} {a0 : Nat} {x1 : Int32} {x2 : Int32} {r : Int32} (hf : X12_sideIs F a0 x1 x2 h = some r) : MI k 7 yX12_sideIs cX12_sideIs 3 (some .int) [.ref (ka k a0), .int x1, .int x2] h r h := mI hj hn (by decide +kernel) (Nat.le_of_ble_eq_true rfl) (fun d o hr => S_X12_sideIs_0 o F hf hr)
set_option maxRecDepth 100000 in
set_option maxHeartbeats 4000000 in
theorem S_X12_archIs_0 {k : Kst} {d : Kdy} (o : Ok k d cX12_archIs RX12 4 5) (F : Nat) {h : Hp} {a0 : Nat} {x1 : Int32} {x2 : Int32} {x3 : Int32} {r : Int32} (hf : X12_archIs F a0 x1 x2 x3 h = some r) (hr : RI k d cX12_archIs r h) : Wz k d h 0 [(0, .ref (ka k a0)), (1, .int x1), (2, .int x2), (3, .int x3)] [] := by
  unfold X12_archIs at hf
  refine x_iload_n o dX12_archIs_0 1 rfl rfl ?_
  obtain ⟨c_1, ec_1, hf⟩ := ob_ex hf
  refine vRX12_263 [.int x1] [] o (C_X12_isSide o.1.2.2.2.2.2.2.1 o.2 F ec_1) (by decide) rfl rfl (Nat.le_of_ble_eq_true rfl) dX12_archIs_1 ?_
  refine x_if_eq o 30 dX12_archIs_4 (by decide) (fun q_3 => ?_) (fun q_3 => ?_)
  · replace hf := (if_pos q_3).symm.trans hf
    refine x_iconst (v := (-1)) o dX12_archIs_30 (by decide) ?_
    cases hf
    exact hr _ _ dX12_archIs_31
  · replace hf := (if_neg q_3).symm.trans hf
    refine x_iload_n o dX12_archIs_7 2 rfl rfl ?_
    refine x_iconst (v := 1) o dX12_archIs_8 (by decide) ?_
    refine x_aload_n o dX12_archIs_9 0 rfl rfl ?_
    obtain ⟨k_4, hf⟩ := gq_ex hf
    obtain ⟨j_5, ej_5, hf⟩ := ob_ex hf
    refine gRX12_19 o k_4 ej_5 dX12_archIs_10 ?_
    refine x_iload_n o dX12_archIs_13 1 rfl rfl ?_
    obtain ⟨k_6, hf⟩ := gq_ex hf
    obtain ⟨b_7, hf⟩ := gq_ex hf
    refine x_iald o k_6 b_7 dX12_archIs_14 ?_
    obtain ⟨c_8, ec_8, hf⟩ := ob_ex hf
    refine vRX12_113 [.int x2, .int 1, .int (h.1 j_5 (ix x1))] [] o (C_X12_in o.1.2.2.2.2.2.2.1 o.2 F ec_8) (by decide) rfl rfl (Nat.le_of_ble_eq_true rfl) dX12_archIs_15 ?_
    refine x_if_eq o 30 dX12_archIs_18 (by decide) (fun q_10 => ?_) (fun q_10 => ?_)
    · replace hf := (if_pos q_10).symm.trans hf
      refine x_iconst (v := (-1)) o dX12_archIs_30 (by decide) ?_
      cases hf
      exact hr _ _ dX12_archIs_31
    · replace hf := (if_neg q_10).symm.trans hf
      refine x_iload_n o dX12_archIs_21 3 rfl rfl ?_
      refine x_iconst (v := 0) o dX12_archIs_22 (by decide) ?_
      refine x_iconst (v := 2) o dX12_archIs_23 (by decide) ?_
      obtain ⟨c_11, ec_11, hf⟩ := ob_ex hf
      refine vRX12_113 [.int x3, .int 0, .int 2] [] o (C_X12_in o.1.2.2.2.2.2.2.1 o.2 F ec_11) (by decide) rfl rfl (Nat.le_of_ble_eq_true rfl) dX12_archIs_24 ?_
      refine x_if_ne o 32 dX12_archIs_27 (by decide) (fun q_13 => ?_) (fun q_13 => ?_)
      · replace hf := (if_neg q_13).symm.trans hf
        refine x_iload_n o dX12_archIs_32 3 rfl rfl ?_
        refine x_iconst (v := 1) o dX12_archIs_33 (by decide) ?_
        refine x_icmp_ne o 52 dX12_archIs_34 (by decide) (fun q_14 => ?_) (fun q_14 => ?_)
        · replace hf := (if_neg q_14).symm.trans hf
          refine x_iload_n o dX12_archIs_52 3 rfl rfl ?_
          refine x_if_ne o 72 dX12_archIs_53 (by decide) (fun q_15 => ?_) (fun q_15 => ?_)
          · replace hf := (if_neg q_15).symm.trans hf
            refine x_aload_n o dX12_archIs_72 0 rfl rfl ?_
            obtain ⟨j_16, ej_16, hf⟩ := ob_ex hf
            refine gRX12_7 o k_4 ej_16 dX12_archIs_73 ?_
            refine x_iconst (v := 2) o dX12_archIs_76 (by decide) ?_
            refine x_bipush (v := 20) o dX12_archIs_77 (by decide) ?_
            refine x_iload_n o dX12_archIs_79 1 rfl rfl ?_
            refine x_imul o dX12_archIs_80 ?_
            refine x_iadd o dX12_archIs_81 ?_
            refine x_iload_n o dX12_archIs_82 2 rfl rfl ?_
            refine x_iadd o dX12_archIs_83 ?_
            refine x_iconst (v := 1) o dX12_archIs_84 (by decide) ?_
            refine x_isub o dX12_archIs_85 ?_
            obtain ⟨k_17, hf⟩ := gq_ex hf
            obtain ⟨b_18, hf⟩ := gq_ex hf
            refine x_iald o k_17 b_18 dX12_archIs_86 ?_
            cases hf
            exact hr _ _ dX12_archIs_87
          · replace hf := (if_pos q_15).symm.trans hf
            refine x_aload_n o dX12_archIs_56 0 rfl rfl ?_
            obtain ⟨j_19, ej_19, hf⟩ := ob_ex hf
            refine gRX12_22 o k_4 ej_19 dX12_archIs_57 ?_
            refine x_bipush (v := 20) o dX12_archIs_60 (by decide) ?_
            refine x_iload_n o dX12_archIs_62 1 rfl rfl ?_
            refine x_imul o dX12_archIs_63 ?_
            refine x_iload_n o dX12_archIs_64 2 rfl rfl ?_
            refine x_iadd o dX12_archIs_65 ?_
            refine x_iconst (v := 1) o dX12_archIs_66 (by decide) ?_
            refine x_isub o dX12_archIs_67 ?_
            obtain ⟨k_20, hf⟩ := gq_ex hf
            obtain ⟨b_21, hf⟩ := gq_ex hf
            refine x_iald o k_20 b_21 dX12_archIs_68 ?_
            refine x_goto o 87 dX12_archIs_69 (by decide) ?_
            cases hf
            exact hr _ _ dX12_archIs_87
        · replace hf := (if_pos q_14).symm.trans hf
          refine x_iload_n o dX12_archIs_37 2 rfl rfl ?_
          refine x_aload_n o dX12_archIs_38 0 rfl rfl ?_
          refine x_iload_n o dX12_archIs_39 1 rfl rfl ?_
          obtain ⟨c_22, ec_22, hf⟩ := ob_ex hf
          refine vRX12_121 [.int x1] [.int x2] o (C_X12_standing o.1.2.2.2.2.2.2.1 o.2 F ec_22) (by decide) k_4 rfl rfl (Nat.le_of_ble_eq_true rfl) dX12_archIs_40 ?_
          refine x_icmp_gt o 50 dX12_archIs_43 (by decide) (fun q_24 => ?_) (fun q_24 => ?_)
          · replace hf := (if_pos q_24).symm.trans hf
            refine x_iconst (v := 0) o dX12_archIs_50 (by decide) ?_
            cases hf
            exact hr _ _ dX12_archIs_51
          · replace hf := (if_neg q_24).symm.trans hf
            refine x_iconst (v := 1) o dX12_archIs_46 (by decide) ?_
            refine x_goto o 51 dX12_archIs_47 (by decide) ?_
            cases hf
            exact hr _ _ dX12_archIs_51
      · replace hf := (if_pos q_13).symm.trans hf
        refine x_iconst (v := (-1)) o dX12_archIs_30 (by decide) ?_
        cases hf
        exact hr _ _ dX12_archIs_31
theorem C_X12_archIs {k : Kst} (hj : Dj k) (hn : kn k = kdl.length) (F : Nat) {h : Hp} {a0 : Nat} {x1 : Int32} {x2 : Int32} {x3 : Int32} {r : Int32} (hf : X12_archIs F a0 x1 x2 x3 h = some r) : MI k 5 yX12_archIs cX12_archIs 4 (some .int) [.ref (ka k a0), .int x1, .int x2, .int x3] h r h := mI hj hn (by decide +kernel) (Nat.le_of_ble_eq_true rfl) (fun d o hr => S_X12_archIs_0 o F hf hr)
set_option maxRecDepth 100000 in
set_option maxHeartbeats 4000000 in
theorem S_X12_whoTouches_18 {k : Kst} {d : Kdy} (o : Ok k d cX12_whoTouches RX12 1 7) (F : Nat) {h : Hp} {a0 : Nat} {r : Int32} (hf : X12_whoTouches_18 F a0 h = some r) (hr : RI k d cX12_whoTouches r h) : Wz k d h 18 [(0, .ref (ka k a0))] [] := by
  unfold X12_whoTouches_18 at hf
  refine x_aload_n o dX12_whoTouches_18 0 rfl rfl ?_
  refine x_iconst (v := 0) o dX12_whoTouches_19 (by decide) ?_
  obtain ⟨k_1, hf⟩ := gq_ex hf
  obtain ⟨c_2, ec_2, hf⟩ := ob_ex hf
  refine vRX12_323 [.int 0] [] o (C_X12_touchesNow o.1.2.2.2.2.2.2.1 o.2 F ec_2) (by decide) k_1 rfl rfl (Nat.le_of_ble_eq_true rfl) dX12_whoTouches_20 ?_
  refine x_if_eq o 30 dX12_whoTouches_23 (by decide) (fun q_4 => ?_) (fun q_4 => ?_)
  · replace hf := (if_pos q_4).symm.trans hf
    refine x_aload_n o dX12_whoTouches_30 0 rfl rfl ?_
    refine x_iconst (v := 1) o dX12_whoTouches_31 (by decide) ?_
    obtain ⟨c_5, ec_5, hf⟩ := ob_ex hf
    refine vRX12_323 [.int 1] [] o (C_X12_touchesNow o.1.2.2.2.2.2.2.1 o.2 F ec_5) (by decide) k_1 rfl rfl (Nat.le_of_ble_eq_true rfl) dX12_whoTouches_32 ?_
    refine x_if_eq o 42 dX12_whoTouches_35 (by decide) (fun q_7 => ?_) (fun q_7 => ?_)
    · replace hf := (if_pos q_7).symm.trans hf
      refine x_iconst (v := (-1)) o dX12_whoTouches_42 (by decide) ?_
      cases hf
      exact hr _ _ dX12_whoTouches_43
    · replace hf := (if_neg q_7).symm.trans hf
      refine x_iconst (v := 1) o dX12_whoTouches_38 (by decide) ?_
      refine x_goto o 43 dX12_whoTouches_39 (by decide) ?_
      cases hf
      exact hr _ _ dX12_whoTouches_43
  · replace hf := (if_neg q_4).symm.trans hf
    refine x_iconst (v := 0) o dX12_whoTouches_26 (by decide) ?_
    refine x_goto o 43 dX12_whoTouches_27 (by decide) ?_
    cases hf
    exact hr _ _ dX12_whoTouches_43
set_option maxRecDepth 100000 in
set_option maxHeartbeats 4000000 in
theorem S_X12_whoTouches_0 {k : Kst} {d : Kdy} (o : Ok k d cX12_whoTouches RX12 1 7) (F : Nat) {h : Hp} {a0 : Nat} {r : Int32} (hf : X12_whoTouches F a0 h = some r) (hr : RI k d cX12_whoTouches r h) : Wz k d h 0 [(0, .ref (ka k a0))] [] := by
  unfold X12_whoTouches at hf
  refine x_aload_n o dX12_whoTouches_0 0 rfl rfl ?_
  refine x_iconst (v := 0) o dX12_whoTouches_1 (by decide) ?_
  obtain ⟨k_1, hf⟩ := gq_ex hf
  obtain ⟨c_2, ec_2, hf⟩ := ob_ex hf
  refine vRX12_323 [.int 0] [] o (C_X12_touchesNow o.1.2.2.2.2.2.2.1 o.2 F ec_2) (by decide) k_1 rfl rfl (Nat.le_of_ble_eq_true rfl) dX12_whoTouches_2 ?_
  refine x_if_eq o 18 dX12_whoTouches_5 (by decide) (fun q_4 => ?_) (fun q_4 => ?_)
  · replace hf := (if_pos q_4).symm.trans hf
    refine x_sub [0] [(0, .ref (ka k a0))] rfl ?_
    exact S_X12_whoTouches_18 o F hf hr
  · replace hf := (if_neg q_4).symm.trans hf
    refine x_aload_n o dX12_whoTouches_8 0 rfl rfl ?_
    refine x_iconst (v := 1) o dX12_whoTouches_9 (by decide) ?_
    obtain ⟨c_5, ec_5, hf⟩ := ob_ex hf
    refine vRX12_323 [.int 1] [] o (C_X12_touchesNow o.1.2.2.2.2.2.2.1 o.2 F ec_5) (by decide) k_1 rfl rfl (Nat.le_of_ble_eq_true rfl) dX12_whoTouches_10 ?_
    refine x_if_eq o 18 dX12_whoTouches_13 (by decide) (fun q_7 => ?_) (fun q_7 => ?_)
    · replace hf := (if_pos q_7).symm.trans hf
      refine x_sub [0] [(0, .ref (ka k a0))] rfl ?_
      exact S_X12_whoTouches_18 o F hf hr
    · replace hf := (if_neg q_7).symm.trans hf
      refine x_iconst (v := 2) o dX12_whoTouches_16 (by decide) ?_
      cases hf
      exact hr _ _ dX12_whoTouches_17
theorem C_X12_whoTouches {k : Kst} (hj : Dj k) (hn : kn k = kdl.length) (F : Nat) {h : Hp} {a0 : Nat} {r : Int32} (hf : X12_whoTouches F a0 h = some r) : MI k 7 yX12_whoTouches cX12_whoTouches 1 (some .int) [.ref (ka k a0)] h r h := mI hj hn (by decide +kernel) (Nat.le_of_ble_eq_true rfl) (fun d o hr => S_X12_whoTouches_0 o F hf hr)
set_option maxRecDepth 100000 in
set_option maxHeartbeats 4000000 in
theorem S_X12_touches_76 {k : Kst} {d : Kdy} (o : Ok k d cX12_touches RX12 5 9) (F : Nat) {h : Hp} {a0 : Nat} {x2 : Int32} {x3 : Int32} {r : Int32} {h1 : Hp} (hf : X12_touches_76 F a0 x2 x3 h = some (r, h1)) (hr : RI k d cX12_touches r h1) : Wz k d h 76 [(0, .ref (ka k a0)), (2, .int x2), (3, .int x3)] [] := by
  unfold X12_touches_76 at hf
  refine x_aload_n o dX12_touches_76 0 rfl rfl ?_
  obtain ⟨k_1, hf⟩ := gq_ex hf
  obtain ⟨c_2, ec_2, hf⟩ := ob_ex hf
  refine vRX12_344 [] [] o (C_X12_whoTouches o.1.2.2.2.2.2.2.1 o.2 F ec_2) (by decide) k_1 rfl rfl (Nat.le_of_ble_eq_true rfl) dX12_touches_77 ?_
  refine x_istore o dX12_touches_80 (by decide) [(4, .int c_2), (0, .ref (ka k a0)), (2, .int x2), (3, .int x3)] rfl ?_
  refine x_aload_n o dX12_touches_82 1 rfl rfl ?_
  obtain ⟨j_4, ej_4, hf⟩ := ob_ex hf
  refine gRX12_13 o k_1 ej_4 dX12_touches_83 ?_
  refine x_aload_n o dX12_touches_86 1 rfl rfl ?_
  obtain ⟨j_5, ej_5, hf⟩ := ob_ex hf
  refine gRX12_7 o k_1 ej_5 dX12_touches_87 ?_
  obtain ⟨h_7, eh_7, hf⟩ := ob_ex hf
  refine vRX12_285 [.ref (ka k j_4), .ref (ka k j_5)] [] o (C_X12_copies o.1.2.2.2.2.2.2.1 o.2 F eh_7) (by decide) rfl rfl (Nat.le_of_ble_eq_true rfl) dX12_touches_90 ?_
  refine x_iload o dX12_touches_93 0 rfl ?_
  refine x_iconst (v := (-1)) o dX12_touches_95 (by decide) ?_
  refine x_icmp_ne o 102 dX12_touches_96 (by decide) (fun q_8 => ?_) (fun q_8 => ?_)
  · replace hf := (if_neg q_8).symm.trans hf
    refine x_iload_n o dX12_touches_102 2 rfl rfl ?_
    refine x_if_ne o 110 dX12_touches_103 (by decide) (fun q_9 => ?_) (fun q_9 => ?_)
    · replace hf := (if_neg q_9).symm.trans hf
      refine x_iload o dX12_touches_110 0 rfl ?_
      cases hf
      exact hr _ _ dX12_touches_112
    · replace hf := (if_pos q_9).symm.trans hf
      refine x_iload_n o dX12_touches_106 3 rfl rfl ?_
      refine x_goto o 112 dX12_touches_107 (by decide) ?_
      cases hf
      exact hr _ _ dX12_touches_112
  · replace hf := (if_pos q_8).symm.trans hf
    refine x_bipush (v := (-2)) o dX12_touches_99 (by decide) ?_
    cases hf
    exact hr _ _ dX12_touches_101
set_option maxRecDepth 100000 in
set_option maxHeartbeats 4000000 in
theorem S_X12_touches_39 {k : Kst} {d : Kdy} (o : Ok k d cX12_touches RX12 5 9) (F : Nat) : ∀ (f : Nat) {h : Hp} {a0 : Nat} {x1 : Int32} {x2 : Int32} {x3 : Int32} {r : Int32} {h1 : Hp}, X12_touches_39 F f a0 x1 x2 x3 h = some (r, h1) → RI k d cX12_touches r h1 → Wz k d h 39 [(0, .ref (ka k a0)), (1, .int x1), (2, .int x2), (3, .int x3)] [] := by
  intro f
  induction f with
  | zero =>
    intro h a0 x1 x2 x3 r h1 hf hr
    exact nomatch (show (none : Option _) = some _ from hf)
  | succ f ih =>
    intro h a0 x1 x2 x3 r h1 hf hr
    rw [X12_touches_39] at hf
    refine x_iload_n o dX12_touches_39 3 rfl rfl ?_
    refine x_iload_n o dX12_touches_40 1 rfl rfl ?_
    refine x_icmp_ge o 76 dX12_touches_41 (by decide) (fun q_1 => ?_) (fun q_1 => ?_)
    · replace hf := (if_pos q_1).symm.trans hf
      refine x_sub [0, 2, 3] [(0, .ref (ka k a0)), (2, .int x2), (3, .int x3)] rfl ?_
      exact S_X12_touches_76 o F hf hr
    · replace hf := (if_neg q_1).symm.trans hf
      refine x_aload_n o dX12_touches_44 0 rfl rfl ?_
      obtain ⟨k_2, hf⟩ := gq_ex hf
      obtain ⟨c_3, ec_3, hf⟩ := ob_ex hf
      refine vRX12_344 [] [] o (C_X12_whoTouches o.1.2.2.2.2.2.2.1 o.2 F ec_3) (by decide) k_2 rfl rfl (Nat.le_of_ble_eq_true rfl) dX12_touches_45 ?_
      refine x_iconst (v := (-1)) o dX12_touches_48 (by decide) ?_
      refine x_icmp_ne o 76 dX12_touches_49 (by decide) (fun q_5 => ?_) (fun q_5 => ?_)
      · replace hf := (if_neg q_5).symm.trans hf
        refine x_sub [0, 2, 3] [(0, .ref (ka k a0)), (2, .int x2), (3, .int x3)] rfl ?_
        exact S_X12_touches_76 o F hf hr
      · replace hf := (if_pos q_5).symm.trans hf
        refine x_aload_n o dX12_touches_52 0 rfl rfl ?_
        obtain ⟨j_6, ej_6, hf⟩ := ob_ex hf
        refine gRX12_7 o k_2 ej_6 dX12_touches_53 ?_
        refine x_bipush (v := 44) o dX12_touches_56 (by decide) ?_
        obtain ⟨k_7, hf⟩ := gq_ex hf
        obtain ⟨b_8, hf⟩ := gq_ex hf
        refine x_iald o k_7 b_8 dX12_touches_58 ?_
        refine x_sipush (v := 9999) o dX12_touches_59 (by decide) ?_
        refine x_icmp_ge o 76 dX12_touches_62 (by decide) (fun q_9 => ?_) (fun q_9 => ?_)
        · replace hf := (if_pos q_9).symm.trans hf
          refine x_sub [0, 2, 3] [(0, .ref (ka k a0)), (2, .int x2), (3, .int x3)] rfl ?_
          exact S_X12_touches_76 o F hf hr
        · replace hf := (if_neg q_9).symm.trans hf
          refine x_aload_n o dX12_touches_65 0 rfl rfl ?_
          obtain ⟨h_11, eh_11, hf⟩ := ob_ex hf
          refine vRX12_338 [] [] o (C_X12_dayGoes o.1.2.2.2.2.2.2.1 o.2 F eh_11) (by decide) k_2 rfl rfl (Nat.le_of_ble_eq_true rfl) dX12_touches_66 ?_
          refine x_iload_n o dX12_touches_69 3 rfl rfl ?_
          refine x_iconst (v := 1) o dX12_touches_70 (by decide) ?_
          refine x_iadd o dX12_touches_71 ?_
          obtain ⟨x3_12, ex3_12, hf⟩ := bd_ex hf
          refine x_top ex3_12 ?_
          refine x_istore_n o dX12_touches_72 (by decide) rfl [(3, .int x3_12), (0, .ref (ka k a0)), (1, .int x1), (2, .int x2)] rfl ?_
          refine x_goto o 39 dX12_touches_73 (by decide) ?_
          refine x_sub [1, 2, 3, 0] [(0, .ref (ka k a0)), (1, .int x1), (2, .int x2), (3, .int x3_12)] rfl ?_
          exact ih hf hr
set_option maxRecDepth 100000 in
set_option maxHeartbeats 4000000 in
theorem S_X12_touches_0 {k : Kst} {d : Kdy} (o : Ok k d cX12_touches RX12 5 9) (F : Nat) {h : Hp} {a0 : Nat} {x1 : Int32} {x2 : Int32} {r : Int32} {h1 : Hp} (hf : X12_touches F a0 x1 x2 h = some (r, h1)) (hr : RI k d cX12_touches r h1) : Wz k d h 0 [(0, .ref (ka k a0)), (1, .int x1), (2, .int x2)] [] := by
  unfold X12_touches at hf
  refine x_iload_n o dX12_touches_0 1 rfl rfl ?_
  refine x_iconst (v := 1) o dX12_touches_1 (by decide) ?_
  refine x_sipush (v := 240) o dX12_touches_2 (by decide) ?_
  obtain ⟨c_1, ec_1, hf⟩ := ob_ex hf
  refine vRX12_113 [.int x1, .int 1, .int 240] [] o (C_X12_in o.1.2.2.2.2.2.2.1 o.2 F ec_1) (by decide) rfl rfl (Nat.le_of_ble_eq_true rfl) dX12_touches_5 ?_
  refine x_if_eq o 20 dX12_touches_8 (by decide) (fun q_3 => ?_) (fun q_3 => ?_)
  · replace hf := (if_pos q_3).symm.trans hf
    refine x_iconst (v := (-1)) o dX12_touches_20 (by decide) ?_
    cases hf
    exact hr _ _ dX12_touches_21
  · replace hf := (if_neg q_3).symm.trans hf
    refine x_iload_n o dX12_touches_11 2 rfl rfl ?_
    refine x_iconst (v := 0) o dX12_touches_12 (by decide) ?_
    refine x_iconst (v := 1) o dX12_touches_13 (by decide) ?_
    obtain ⟨c_4, ec_4, hf⟩ := ob_ex hf
    refine vRX12_113 [.int x2, .int 0, .int 1] [] o (C_X12_in o.1.2.2.2.2.2.2.1 o.2 F ec_4) (by decide) rfl rfl (Nat.le_of_ble_eq_true rfl) dX12_touches_14 ?_
    refine x_if_ne o 22 dX12_touches_17 (by decide) (fun q_6 => ?_) (fun q_6 => ?_)
    · replace hf := (if_neg q_6).symm.trans hf
      refine x_aload_n o dX12_touches_22 0 rfl rfl ?_
      obtain ⟨k_7, hf⟩ := gq_ex hf
      obtain ⟨j_8, ej_8, hf⟩ := ob_ex hf
      refine gRX12_7 o k_7 ej_8 dX12_touches_23 ?_
      refine x_aload_n o dX12_touches_26 0 rfl rfl ?_
      obtain ⟨j_9, ej_9, hf⟩ := ob_ex hf
      refine gRX12_13 o k_7 ej_9 dX12_touches_27 ?_
      obtain ⟨h_11, eh_11, hf⟩ := ob_ex hf
      refine vRX12_285 [.ref (ka k j_8), .ref (ka k j_9)] [] o (C_X12_copies o.1.2.2.2.2.2.2.1 o.2 F eh_11) (by decide) rfl rfl (Nat.le_of_ble_eq_true rfl) dX12_touches_30 ?_
      refine x_aload_n o dX12_touches_33 0 rfl rfl ?_
      obtain ⟨h_13, eh_13, hf⟩ := ob_ex hf
      refine vRX12_335 [] [] o (C_X12_beginsDays o.1.2.2.2.2.2.2.1 o.2 F eh_13) (by decide) k_7 rfl rfl (Nat.le_of_ble_eq_true rfl) dX12_touches_34 ?_
      refine x_iconst (v := 0) o dX12_touches_37 (by decide) ?_
      refine x_istore_n o dX12_touches_38 (by decide) rfl [(3, .int 0), (0, .ref (ka k a0)), (1, .int x1), (2, .int x2)] rfl ?_
      refine x_sub [1, 2, 3, 0] [(0, .ref (ka k a0)), (1, .int x1), (2, .int x2), (3, .int 0)] rfl ?_
      exact S_X12_touches_39 o F _ hf hr
    · replace hf := (if_pos q_6).symm.trans hf
      refine x_iconst (v := (-1)) o dX12_touches_20 (by decide) ?_
      cases hf
      exact hr _ _ dX12_touches_21
theorem C_X12_touches {k : Kst} (hj : Dj k) (hn : kn k = kdl.length) (F : Nat) {h : Hp} {a0 : Nat} {x1 : Int32} {x2 : Int32} {r : Int32} {h1 : Hp} (hf : X12_touches F a0 x1 x2 h = some (r, h1)) : MI k 9 yX12_touches cX12_touches 5 (some .int) [.ref (ka k a0), .int x1, .int x2] h r h1 := mI hj hn (by decide +kernel) (Nat.le_of_ble_eq_true rfl) (fun d o hr => S_X12_touches_0 o F hf hr)
