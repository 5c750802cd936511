set_option maxRecDepth 100000 in
set_option maxHeartbeats 4000000 in
theorem S_X11_archIs_0 {k : Kst} {d : Kdy} (o : Ok k d cX11_archIs RX11 4 5) (F : Nat) {h : Hp} {a0 : Nat} {x1 : Int32} {x2 : Int32} {x3 : Int32} {r : Int32} (hf : X11_archIs F a0 x1 x2 x3 h = some r) (hr : RI k d cX11_archIs r h) : Wz k d h 0 [(0, .ref (ka k a0)), (1, .int x1), (2, .int x2), (3, .int x3)] [] := by
  unfold X11_archIs at hf
  refine x_iload_n o dX11_archIs_0 1 rfl rfl ?_
  refine x_iconst (v := 0) o dX11_archIs_1 (by decide) ?_
  refine x_iconst (v := 1) o dX11_archIs_2 (by decide) ?_
  obtain ⟨c_1, ec_1, hf⟩ := ob_ex hf
  refine vRX11_81 [.int x1, .int 0, .int 1] [] o (C_X11_within o.1.2.2.2.2.2.2.1 o.2 F ec_1) (by decide) rfl rfl (Nat.le_of_ble_eq_true rfl) dX11_archIs_3 ?_
  refine x_if_eq o 28 dX11_archIs_6 (by decide) (fun q_3 => ?_) (fun q_3 => ?_)
  · replace hf := (if_pos q_3).symm.trans hf
    refine x_iconst (v := (-1)) o dX11_archIs_28 (by decide) ?_
    cases hf
    exact hr _ _ dX11_archIs_29
  · replace hf := (if_neg q_3).symm.trans hf
    refine x_iload_n o dX11_archIs_9 2 rfl rfl ?_
    refine x_iconst (v := 1) o dX11_archIs_10 (by decide) ?_
    refine x_aload_n o dX11_archIs_11 0 rfl rfl ?_
    obtain ⟨k_4, hf⟩ := gq_ex hf
    obtain ⟨j_5, ej_5, hf⟩ := ob_ex hf
    refine gRX11_44 o k_4 ej_5 dX11_archIs_12 ?_
    refine x_iload_n o dX11_archIs_15 1 rfl rfl ?_
    obtain ⟨k_6, hf⟩ := gq_ex hf
    obtain ⟨j_7, ej_7, hf⟩ := ob_ex hf
    refine vRX11_121 [.int x1] [.int 1, .int x2] o (C_X10_built o.1.2.2.2.2.2.2.1 o.2 F ej_7) (by decide) k_6 rfl rfl (Nat.le_of_ble_eq_true rfl) dX11_archIs_16 ?_
    obtain ⟨k_9, hf⟩ := gq_ex hf
    refine gRX11_159 o k_9 dX11_archIs_19 ?_
    obtain ⟨c_10, ec_10, hf⟩ := ob_ex hf
    refine vRX11_81 [.int x2, .int 1, .int (h.1 j_7 1)] [] o (C_X11_within o.1.2.2.2.2.2.2.1 o.2 F ec_10) (by decide) rfl rfl (Nat.le_of_ble_eq_true rfl) dX11_archIs_22 ?_
    refine x_if_ne o 30 dX11_archIs_25 (by decide) (fun q_12 => ?_) (fun q_12 => ?_)
    · replace hf := (if_neg q_12).symm.trans hf
      refine x_iload_n o dX11_archIs_30 3 rfl rfl ?_
      obtain ⟨t_13, et_13, hf⟩ := bd_ex hf
      refine x_top et_13 ?_
      by_cases q_14 : t_13 = 0
      · replace hf := (if_pos q_14).symm.trans hf
        refine x_tabi (v := 0) o 56 q_14 (by decide) (by decide) rfl (by decide) dX11_archIs_31 ?_
        refine x_aload_n o dX11_archIs_56 0 rfl rfl ?_
        refine gRX11_44 o k_4 ej_5 dX11_archIs_57 ?_
        refine x_iload_n o dX11_archIs_60 1 rfl rfl ?_
        obtain ⟨j_15, ej_15, hf⟩ := ob_ex hf
        refine vRX11_121 [.int x1] [] o (C_X10_built o.1.2.2.2.2.2.2.1 o.2 F ej_15) (by decide) k_6 rfl rfl (Nat.le_of_ble_eq_true rfl) dX11_archIs_61 ?_
        refine x_iload_n o dX11_archIs_64 2 rfl rfl ?_
        obtain ⟨k_17, hf⟩ := gq_ex hf
        obtain ⟨c_18, ec_18, hf⟩ := ob_ex hf
        refine vRX11_180 [.int x2] [] o (C_X5_stonesOf o.1.2.2.2.2.2.2.1 o.2 F ec_18) (by decide) k_17 rfl rfl (Nat.le_of_ble_eq_true rfl) dX11_archIs_65 ?_
        cases hf
        exact hr _ _ dX11_archIs_68
      replace hf := (if_neg q_14).symm.trans hf
      by_cases q_20 : t_13 = 1
      · replace hf := (if_pos q_20).symm.trans hf
        refine x_tabi (v := 1) o 69 q_20 (by decide) (by decide) rfl (by decide) dX11_archIs_31 ?_
        refine x_iload_n o dX11_archIs_69 2 rfl rfl ?_
        refine x_aload_n o dX11_archIs_70 0 rfl rfl ?_
        refine gRX11_44 o k_4 ej_5 dX11_archIs_71 ?_
        refine x_iload_n o dX11_archIs_74 1 rfl rfl ?_
        obtain ⟨c_21, ec_21, hf⟩ := ob_ex hf
        refine vRX11_160 [.int x1] [.int x2] o (C_X10_standing o.1.2.2.2.2.2.2.1 o.2 F ec_21) (by decide) k_6 rfl rfl (Nat.le_of_ble_eq_true rfl) dX11_archIs_75 ?_
        refine x_icmp_gt o 85 dX11_archIs_78 (by decide) (fun q_23 => ?_) (fun q_23 => ?_)
        · replace hf := (if_pos q_23).symm.trans hf
          refine x_iconst (v := 0) o dX11_archIs_85 (by decide) ?_
          cases hf
          exact hr _ _ dX11_archIs_86
        · replace hf := (if_neg q_23).symm.trans hf
          refine x_iconst (v := 1) o dX11_archIs_81 (by decide) ?_
          refine x_goto o 86 dX11_archIs_82 (by decide) ?_
          cases hf
          exact hr _ _ dX11_archIs_86
      replace hf := (if_neg q_20).symm.trans hf
      by_cases q_24 : t_13 = 2
      · replace hf := (if_pos q_24).symm.trans hf
        refine x_tabi (v := 2) o 87 q_24 (by decide) (by decide) rfl (by decide) dX11_archIs_31 ?_
        refine x_aload_n o dX11_archIs_87 0 rfl rfl ?_
        refine gRX11_44 o k_4 ej_5 dX11_archIs_88 ?_
        obtain ⟨j_25, ej_25, hf⟩ := ob_ex hf
        refine gRX11_138 o k_6 ej_25 dX11_archIs_91 ?_
        refine x_iload_n o dX11_archIs_94 1 rfl rfl ?_
        refine x_iload_n o dX11_archIs_95 2 rfl rfl ?_
        obtain ⟨k_26, hf⟩ := gq_ex hf
        obtain ⟨c_27, ec_27, hf⟩ := ob_ex hf
        refine vRX11_183 [.int x1, .int x2] [] o (C_X8_benchAt o.1.2.2.2.2.2.2.1 o.2 F ec_27) (by decide) k_26 rfl rfl (Nat.le_of_ble_eq_true rfl) dX11_archIs_96 ?_
        cases hf
        exact hr _ _ dX11_archIs_99
      replace hf := (if_neg q_24).symm.trans hf
      refine x_tabo o 100 (by have z0 := lv_neT (a := 0) q_14 rfl; have z1 := lv_neT (a := 1) q_20 rfl; have z2 := lv_neT (a := 2) q_24 rfl; omega) (by decide) dX11_archIs_31 ?_
      refine x_iconst (v := (-1)) o dX11_archIs_100 (by decide) ?_
      cases hf
      exact hr _ _ dX11_archIs_101
    · replace hf := (if_pos q_12).symm.trans hf
      refine x_iconst (v := (-1)) o dX11_archIs_28 (by decide) ?_
      cases hf
      exact hr _ _ dX11_archIs_29
theorem C_X11_archIs {k : Kst} (hj : Dj k) (hn : kn k = kdl.length) (F : Nat) {h : Hp} {a0 : Nat} {x1 : Int32} {x2 : Int32} {x3 : Int32} {r : Int32} (hf : X11_archIs F a0 x1 x2 x3 h = some r) : MI k 5 yX11_archIs cX11_archIs 4 (some .int) [.ref (ka k a0), .int x1, .int x2, .int x3] h r h := mI hj hn (by decide +kernel) (Nat.le_of_ble_eq_true rfl) (fun d o hr => S_X11_archIs_0 o F hf hr)
set_option maxRecDepth 100000 in
set_option maxHeartbeats 4000000 in
theorem S_X11_touches_64 {k : Kst} {d : Kdy} (o : Ok k d cX11_touches RX11 5 10) (F : Nat) {h : Hp} {a0 : Nat} {s0 : Int32} {r : Int32} {h1 : Hp} (hf : X11_touches_64 F a0 s0 h = some (r, h1)) (hr : RI k d cX11_touches r h1) : Wz k d h 64 [(0, .ref (ka k a0))] [.int s0] := by
  unfold X11_touches_64 at hf
  refine x_istore o dX11_touches_64 (by decide) [(4, .int s0), (0, .ref (ka k a0))] rfl ?_
  refine x_aload_n o dX11_touches_66 1 rfl rfl ?_
  obtain ⟨k_1, hf⟩ := gq_ex hf
  obtain ⟨j_2, ej_2, hf⟩ := ob_ex hf
  refine gRX11_44 o k_1 ej_2 dX11_touches_67 ?_
  obtain ⟨k_3, hf⟩ := gq_ex hf
  obtain ⟨j_4, ej_4, hf⟩ := ob_ex hf
  refine gRX11_138 o k_3 ej_4 dX11_touches_70 ?_
  refine x_aload_n o dX11_touches_73 1 rfl rfl ?_
  obtain ⟨j_5, ej_5, hf⟩ := ob_ex hf
  refine gRX11_55 o k_1 ej_5 dX11_touches_74 ?_
  obtain ⟨k_6, hf⟩ := gq_ex hf
  obtain ⟨h_8, eh_8, hf⟩ := ob_ex hf
  refine vRX11_152 [.ref (ka k j_5)] [] o (C_X8_copy o.1.2.2.2.2.2.2.1 o.2 F eh_8) (by decide) k_6 rfl rfl (Nat.le_of_ble_eq_true rfl) dX11_touches_77 ?_
  refine x_iload o dX11_touches_80 0 rfl ?_
  cases hf
  exact hr _ _ dX11_touches_82
set_option maxRecDepth 100000 in
set_option maxHeartbeats 4000000 in
theorem S_X11_touches_53 {k : Kst} {d : Kdy} (o : Ok k d cX11_touches RX11 5 10) (F : Nat) {h : Hp} {a0 : Nat} {x3 : Int32} {r : Int32} {h1 : Hp} (hf : X11_touches_53 F a0 x3 h = some (r, h1)) (hr : RI k d cX11_touches r h1) : Wz k d h 53 [(0, .ref (ka k a0)), (3, .int x3)] [] := by
  unfold X11_touches_53 at hf
  refine x_iload_n o dX11_touches_53 1 rfl rfl ?_
  refine x_goto o 64 dX11_touches_54 (by decide) ?_
  refine x_sub [0] [(0, .ref (ka k a0))] rfl ?_
  exact S_X11_touches_64 o F hf hr
set_option maxRecDepth 100000 in
set_option maxHeartbeats 4000000 in
theorem S_X11_touches_0 {k : Kst} {d : Kdy} (o : Ok k d cX11_touches RX11 5 10) (F : Nat) {h : Hp} {a0 : Nat} {x1 : Int32} {x2 : Int32} {r : Int32} {h1 : Hp} (hf : X11_touches F a0 x1 x2 h = some (r, h1)) (hr : RI k d cX11_touches r h1) : Wz k d h 0 [(0, .ref (ka k a0)), (1, .int x1), (2, .int x2)] [] := by
  unfold X11_touches at hf
  refine x_iload_n o dX11_touches_0 1 rfl rfl ?_
  refine x_iconst (v := 1) o dX11_touches_1 (by decide) ?_
  refine x_sipush (v := 240) o dX11_touches_2 (by decide) ?_
  obtain ⟨c_1, ec_1, hf⟩ := ob_ex hf
  refine vRX11_81 [.int x1, .int 1, .int 240] [] o (C_X11_within o.1.2.2.2.2.2.2.1 o.2 F ec_1) (by decide) rfl rfl (Nat.le_of_ble_eq_true rfl) dX11_touches_5 ?_
  refine x_if_eq o 20 dX11_touches_8 (by decide) (fun q_3 => ?_) (fun q_3 => ?_)
  · replace hf := (if_pos q_3).symm.trans hf
    refine x_iconst (v := (-1)) o dX11_touches_20 (by decide) ?_
    cases hf
    exact hr _ _ dX11_touches_21
  · replace hf := (if_neg q_3).symm.trans hf
    refine x_iload_n o dX11_touches_11 2 rfl rfl ?_
    refine x_iconst (v := 0) o dX11_touches_12 (by decide) ?_
    refine x_iconst (v := 1) o dX11_touches_13 (by decide) ?_
    obtain ⟨c_4, ec_4, hf⟩ := ob_ex hf
    refine vRX11_81 [.int x2, .int 0, .int 1] [] o (C_X11_within o.1.2.2.2.2.2.2.1 o.2 F ec_4) (by decide) rfl rfl (Nat.le_of_ble_eq_true rfl) dX11_touches_14 ?_
    refine x_if_ne o 22 dX11_touches_17 (by decide) (fun q_6 => ?_) (fun q_6 => ?_)
    · replace hf := (if_neg q_6).symm.trans hf
      refine x_aload_n o dX11_touches_22 0 rfl rfl ?_
      obtain ⟨k_7, hf⟩ := gq_ex hf
      obtain ⟨j_8, ej_8, hf⟩ := ob_ex hf
      refine gRX11_55 o k_7 ej_8 dX11_touches_23 ?_
      refine x_aload_n o dX11_touches_26 0 rfl rfl ?_
      obtain ⟨j_9, ej_9, hf⟩ := ob_ex hf
      refine gRX11_44 o k_7 ej_9 dX11_touches_27 ?_
      obtain ⟨k_10, hf⟩ := gq_ex hf
      obtain ⟨j_11, ej_11, hf⟩ := ob_ex hf
      refine gRX11_138 o k_10 ej_11 dX11_touches_30 ?_
      obtain ⟨k_12, hf⟩ := gq_ex hf
      obtain ⟨h_14, eh_14, hf⟩ := ob_ex hf
      refine vRX11_152 [.ref (ka k j_11)] [] o (C_X8_copy o.1.2.2.2.2.2.2.1 o.2 F eh_14) (by decide) k_12 rfl rfl (Nat.le_of_ble_eq_true rfl) dX11_touches_33 ?_
      refine x_aload_n o dX11_touches_36 0 rfl rfl ?_
      obtain ⟨j_15, ej_15, hf⟩ := ob_ex hf
      refine gRX11_44 o k_7 ej_15 dX11_touches_37 ?_
      refine x_iload_n o dX11_touches_40 1 rfl rfl ?_
      obtain ⟨k_16, hf⟩ := gq_ex hf
      obtain ⟨c_17, h_18, ec_17, hf⟩ := bq_ex hf
      refine vRX11_186 [.int x1] [] o (C_X10_daysTillBank o.1.2.2.2.2.2.2.1 o.2 F ec_17) (by decide) k_16 rfl rfl (Nat.le_of_ble_eq_true rfl) dX11_touches_41 ?_
      refine x_istore_n o dX11_touches_44 (by decide) rfl [(3, .int c_17), (0, .ref (ka k a0)), (1, .int x1), (2, .int x2)] rfl ?_
      refine x_iload_n o dX11_touches_45 3 rfl rfl ?_
      refine x_if_eq o 53 dX11_touches_46 (by decide) (fun q_19 => ?_) (fun q_19 => ?_)
      · replace hf := (if_pos q_19).symm.trans hf
        refine x_sub [1, 0] [(0, .ref (ka k a0)), (3, .int c_17)] rfl ?_
        exact S_X11_touches_53 o F hf hr
      · replace hf := (if_neg q_19).symm.trans hf
        refine x_iload_n o dX11_touches_49 0 rfl rfl ?_
        refine x_if_ge o 57 dX11_touches_50 (by decide) (fun q_20 => ?_) (fun q_20 => ?_)
        · replace hf := (if_pos q_20).symm.trans hf
          refine x_aload_n o dX11_touches_57 1 rfl rfl ?_
          obtain ⟨j_21, ej_21, hf⟩ := ob_ex hf
          refine gRX11_44 o k_7 ej_21 dX11_touches_58 ?_
          obtain ⟨k_22, hf⟩ := gq_ex hf
          obtain ⟨c_23, ec_23, hf⟩ := ob_ex hf
          refine vRX11_189 [] [] o (C_X10_sideAtBank o.1.2.2.2.2.2.2.1 o.2 F ec_23) (by decide) k_22 rfl rfl (Nat.le_of_ble_eq_true rfl) dX11_touches_61 ?_
          refine x_sub [1] [(0, .ref (ka k a0))] rfl ?_
          exact S_X11_touches_64 o F hf hr
        · replace hf := (if_neg q_20).symm.trans hf
          refine x_sub [1, 0] [(0, .ref (ka k a0)), (3, .int c_17)] rfl ?_
          exact S_X11_touches_53 o F hf hr
    · replace hf := (if_pos q_6).symm.trans hf
      refine x_iconst (v := (-1)) o dX11_touches_20 (by decide) ?_
      cases hf
      exact hr _ _ dX11_touches_21
theorem C_X11_touches {k : Kst} (hj : Dj k) (hn : kn k = kdl.length) (F : Nat) {h : Hp} {a0 : Nat} {x1 : Int32} {x2 : Int32} {r : Int32} {h1 : Hp} (hf : X11_touches F a0 x1 x2 h = some (r, h1)) : MI k 10 yX11_touches cX11_touches 5 (some .int) [.ref (ka k a0), .int x1, .int x2] h r h1 := mI hj hn (by decide +kernel) (Nat.le_of_ble_eq_true rfl) (fun d o hr => S_X11_touches_0 o F hf hr)
set_option maxRecDepth 100000 in
set_option maxHeartbeats 4000000 in
theorem S_X11_ahead_0 {k : Kst} {d : Kdy} (o : Ok k d cX11_ahead RX11 3 10) (F : Nat) {h : Hp} {a0 : Nat} {x1 : Int32} {r : Int32} {h1 : Hp} (hf : X11_ahead F a0 x1 h = some (r, h1)) (hr : RI k d cX11_ahead r h1) : Wz k d h 0 [(0, .ref (ka k a0)), (1, .int x1)] [] := by
  unfold X11_ahead at hf
  refine x_iload_n o dX11_ahead_0 1 rfl rfl ?_
  refine x_iconst (v := 1) o dX11_ahead_1 (by decide) ?_
  refine x_sipush (v := 240) o dX11_ahead_2 (by decide) ?_
  obtain ⟨c_1, ec_1, hf⟩ := ob_ex hf
  refine vRX11_81 [.int x1, .int 1, .int 240] [] o (C_X11_within o.1.2.2.2.2.2.2.1 o.2 F ec_1) (by decide) rfl rfl (Nat.le_of_ble_eq_true rfl) dX11_ahead_5 ?_
  refine x_if_ne o 13 dX11_ahead_8 (by decide) (fun q_3 => ?_) (fun q_3 => ?_)
  · replace hf := (if_neg q_3).symm.trans hf
    refine x_aload_n o dX11_ahead_13 0 rfl rfl ?_
    obtain ⟨k_4, hf⟩ := gq_ex hf
    obtain ⟨j_5, ej_5, hf⟩ := ob_ex hf
    refine gRX11_55 o k_4 ej_5 dX11_ahead_14 ?_
    refine x_aload_n o dX11_ahead_17 0 rfl rfl ?_
    obtain ⟨j_6, ej_6, hf⟩ := ob_ex hf
    refine gRX11_44 o k_4 ej_6 dX11_ahead_18 ?_
    obtain ⟨k_7, hf⟩ := gq_ex hf
    obtain ⟨j_8, ej_8, hf⟩ := ob_ex hf
    refine gRX11_138 o k_7 ej_8 dX11_ahead_21 ?_
    obtain ⟨k_9, hf⟩ := gq_ex hf
    obtain ⟨h_11, eh_11, hf⟩ := ob_ex hf
    refine vRX11_152 [.ref (ka k j_8)] [] o (C_X8_copy o.1.2.2.2.2.2.2.1 o.2 F eh_11) (by decide) k_9 rfl rfl (Nat.le_of_ble_eq_true rfl) dX11_ahead_24 ?_
    refine x_aload_n o dX11_ahead_27 0 rfl rfl ?_
    obtain ⟨j_12, ej_12, hf⟩ := ob_ex hf
    refine gRX11_44 o k_4 ej_12 dX11_ahead_28 ?_
    refine x_iload_n o dX11_ahead_31 1 rfl rfl ?_
    obtain ⟨k_13, hf⟩ := gq_ex hf
    obtain ⟨c_14, h_15, ec_14, hf⟩ := bq_ex hf
    refine vRX11_192 [.int x1] [] o (C_X10_mostAhead o.1.2.2.2.2.2.2.1 o.2 F ec_14) (by decide) k_13 rfl rfl (Nat.le_of_ble_eq_true rfl) dX11_ahead_32 ?_
    refine x_istore_n o dX11_ahead_35 (by decide) rfl [(2, .int c_14), (0, .ref (ka k a0)), (1, .int x1)] rfl ?_
    refine x_aload_n o dX11_ahead_36 1 rfl rfl ?_
    obtain ⟨j_16, ej_16, hf⟩ := ob_ex hf
    refine gRX11_44 o k_4 ej_16 dX11_ahead_37 ?_
    obtain ⟨k_17, hf⟩ := gq_ex hf
    obtain ⟨j_18, ej_18, hf⟩ := ob_ex hf
    refine gRX11_138 o k_17 ej_18 dX11_ahead_40 ?_
    refine x_aload_n o dX11_ahead_43 1 rfl rfl ?_
    obtain ⟨j_19, ej_19, hf⟩ := ob_ex hf
    refine gRX11_55 o k_4 ej_19 dX11_ahead_44 ?_
    obtain ⟨k_20, hf⟩ := gq_ex hf
    obtain ⟨h_22, eh_22, hf⟩ := ob_ex hf
    refine vRX11_152 [.ref (ka k j_19)] [] o (C_X8_copy o.1.2.2.2.2.2.2.1 o.2 F eh_22) (by decide) k_20 rfl rfl (Nat.le_of_ble_eq_true rfl) dX11_ahead_47 ?_
    refine x_iload_n o dX11_ahead_50 0 rfl rfl ?_
    cases hf
    exact hr _ _ dX11_ahead_51
  · replace hf := (if_pos q_3).symm.trans hf
    refine x_iconst (v := (-1)) o dX11_ahead_11 (by decide) ?_
    cases hf
    exact hr _ _ dX11_ahead_12
theorem C_X11_ahead {k : Kst} (hj : Dj k) (hn : kn k = kdl.length) (F : Nat) {h : Hp} {a0 : Nat} {x1 : Int32} {r : Int32} {h1 : Hp} (hf : X11_ahead F a0 x1 h = some (r, h1)) : MI k 10 yX11_ahead cX11_ahead 3 (some .int) [.ref (ka k a0), .int x1] h r h1 := mI hj hn (by decide +kernel) (Nat.le_of_ble_eq_true rfl) (fun d o hr => S_X11_ahead_0 o F hf hr)
set_option maxRecDepth 100000 in
set_option maxHeartbeats 4000000 in
theorem S_X11_beyond_0 {k : Kst} {d : Kdy} (o : Ok k d cX11_beyond RX11 4 10) (F : Nat) {h : Hp} {a0 : Nat} {x1 : Int32} {x2 : Int32} {r : Int32} {h1 : Hp} (hf : X11_beyond F a0 x1 x2 h = some (r, h1)) (hr : RI k d cX11_beyond r h1) : Wz k d h 0 [(0, .ref (ka k a0)), (1, .int x1), (2, .int x2)] [] := by
  unfold X11_beyond at hf
  refine x_iload_n o dX11_beyond_0 1 rfl rfl ?_
  refine x_iconst (v := 1) o dX11_beyond_1 (by decide) ?_
  refine x_sipush (v := 240) o dX11_beyond_2 (by decide) ?_
  obtain ⟨c_1, ec_1, hf⟩ := ob_ex hf
  refine vRX11_81 [.int x1, .int 1, .int 240] [] o (C_X11_within o.1.2.2.2.2.2.2.1 o.2 F ec_1) (by decide) rfl rfl (Nat.le_of_ble_eq_true rfl) dX11_beyond_5 ?_
  refine x_if_eq o 21 dX11_beyond_8 (by decide) (fun q_3 => ?_) (fun q_3 => ?_)
  · replace hf := (if_pos q_3).symm.trans hf
    refine x_iconst (v := (-1)) o dX11_beyond_21 (by decide) ?_
    cases hf
    exact hr _ _ dX11_beyond_22
  · replace hf := (if_neg q_3).symm.trans hf
    refine x_iload_n o dX11_beyond_11 2 rfl rfl ?_
    refine x_iconst (v := 0) o dX11_beyond_12 (by decide) ?_
    refine x_ldc (v := 999999) o dX11_beyond_13 wRX11_195 ?_
    obtain ⟨c_4, ec_4, hf⟩ := ob_ex hf
    refine vRX11_81 [.int x2, .int 0, .int 999999] [] o (C_X11_within o.1.2.2.2.2.2.2.1 o.2 F ec_4) (by decide) rfl rfl (Nat.le_of_ble_eq_true rfl) dX11_beyond_15 ?_
    refine x_if_ne o 23 dX11_beyond_18 (by decide) (fun q_6 => ?_) (fun q_6 => ?_)
    · replace hf := (if_neg q_6).symm.trans hf
      refine x_aload_n o dX11_beyond_23 0 rfl rfl ?_
      obtain ⟨k_7, hf⟩ := gq_ex hf
      obtain ⟨j_8, ej_8, hf⟩ := ob_ex hf
      refine gRX11_55 o k_7 ej_8 dX11_beyond_24 ?_
      refine x_aload_n o dX11_beyond_27 0 rfl rfl ?_
      obtain ⟨j_9, ej_9, hf⟩ := ob_ex hf
      refine gRX11_44 o k_7 ej_9 dX11_beyond_28 ?_
      obtain ⟨k_10, hf⟩ := gq_ex hf
      obtain ⟨j_11, ej_11, hf⟩ := ob_ex hf
      refine gRX11_138 o k_10 ej_11 dX11_beyond_31 ?_
      obtain ⟨k_12, hf⟩ := gq_ex hf
      obtain ⟨h_14, eh_14, hf⟩ := ob_ex hf
      refine vRX11_152 [.ref (ka k j_11)] [] o (C_X8_copy o.1.2.2.2.2.2.2.1 o.2 F eh_14) (by decide) k_12 rfl rfl (Nat.le_of_ble_eq_true rfl) dX11_beyond_34 ?_
      refine x_aload_n o dX11_beyond_37 0 rfl rfl ?_
      obtain ⟨j_15, ej_15, hf⟩ := ob_ex hf
      refine gRX11_44 o k_7 ej_15 dX11_beyond_38 ?_
      refine x_iload_n o dX11_beyond_41 1 rfl rfl ?_
      refine x_iload_n o dX11_beyond_42 2 rfl rfl ?_
      obtain ⟨k_16, hf⟩ := gq_ex hf
      obtain ⟨c_17, h_18, ec_17, hf⟩ := bq_ex hf
      refine vRX11_196 [.int x1, .int x2] [] o (C_X10_daysTillDebt o.1.2.2.2.2.2.2.1 o.2 F ec_17) (by decide) k_16 rfl rfl (Nat.le_of_ble_eq_true rfl) dX11_beyond_43 ?_
      refine x_istore_n o dX11_beyond_46 (by decide) rfl [(3, .int c_17), (0, .ref (ka k a0)), (1, .int x1), (2, .int x2)] rfl ?_
      refine x_aload_n o dX11_beyond_47 1 rfl rfl ?_
      obtain ⟨j_19, ej_19, hf⟩ := ob_ex hf
      refine gRX11_44 o k_7 ej_19 dX11_beyond_48 ?_
      obtain ⟨k_20, hf⟩ := gq_ex hf
      obtain ⟨j_21, ej_21, hf⟩ := ob_ex hf
      refine gRX11_138 o k_20 ej_21 dX11_beyond_51 ?_
      refine x_aload_n o dX11_beyond_54 1 rfl rfl ?_
      obtain ⟨j_22, ej_22, hf⟩ := ob_ex hf
      refine gRX11_55 o k_7 ej_22 dX11_beyond_55 ?_
      obtain ⟨k_23, hf⟩ := gq_ex hf
      obtain ⟨h_25, eh_25, hf⟩ := ob_ex hf
      refine vRX11_152 [.ref (ka k j_22)] [] o (C_X8_copy o.1.2.2.2.2.2.2.1 o.2 F eh_25) (by decide) k_23 rfl rfl (Nat.le_of_ble_eq_true rfl) dX11_beyond_58 ?_
      refine x_iload_n o dX11_beyond_61 0 rfl rfl ?_
      cases hf
      exact hr _ _ dX11_beyond_62
    · replace hf := (if_pos q_6).symm.trans hf
      refine x_iconst (v := (-1)) o dX11_beyond_21 (by decide) ?_
      cases hf
      exact hr _ _ dX11_beyond_22
theorem C_X11_beyond {k : Kst} (hj : Dj k) (hn : kn k = kdl.length) (F : Nat) {h : Hp} {a0 : Nat} {x1 : Int32} {x2 : Int32} {r : Int32} {h1 : Hp} (hf : X11_beyond F a0 x1 x2 h = some (r, h1)) : MI k 10 yX11_beyond cX11_beyond 4 (some .int) [.ref (ka k a0), .int x1, .int x2] h r h1 := mI hj hn (by decide +kernel) (Nat.le_of_ble_eq_true rfl) (fun d o hr => S_X11_beyond_0 o F hf hr)
set_option maxRecDepth 100000 in
set_option maxHeartbeats 4000000 in
theorem S_X11_even_55 {k : Kst} {d : Kdy} (o : Ok k d cX11_even RX11 7 65) (F : Nat) : ∀ (f : Nat) {h : Hp} {a0 : Nat} {x1 : Int32} {x2 : Int32} {x3 : Int32} {x4 : Int32} {x5 : Int32} {r : Int32} {h1 : Hp}, X11_even_55 F f a0 x1 x2 x3 x4 x5 h = some (r, h1) → RI k d cX11_even r h1 → Wz k d h 55 [(0, .ref (ka k a0)), (1, .int x1), (2, .int x2), (3, .int x3), (4, .int x4), (5, .int x5)] [] := by
  intro f
  induction f with
  | zero =>
    intro h a0 x1 x2 x3 x4 x5 r h1 hf hr
    exact nomatch (show (none : Option _) = some _ from hf)
  | succ f ih =>
    intro h a0 x1 x2 x3 x4 x5 r h1 hf hr
    rw [X11_even_55] at hf
    refine x_iload o dX11_even_55 5 rfl ?_
    refine x_iload_n o dX11_even_57 1 rfl rfl ?_
    refine x_icmp_ge o 82 dX11_even_58 (by decide) (fun q_1 => ?_) (fun q_1 => ?_)
    · replace hf := (if_pos q_1).symm.trans hf
      refine x_aload_n o dX11_even_82 0 rfl rfl ?_
      obtain ⟨k_2, hf⟩ := gq_ex hf
      obtain ⟨j_3, ej_3, hf⟩ := ob_ex hf
      refine gRX11_44 o k_2 ej_3 dX11_even_83 ?_
      refine x_iconst (v := 0) o dX11_even_86 (by decide) ?_
      obtain ⟨k_4, hf⟩ := gq_ex hf
      obtain ⟨c_5, ec_5, hf⟩ := ob_ex hf
      refine vRX11_169 [.int 0] [] o (C_X10_weight o.1.2.2.2.2.2.2.1 o.2 F ec_5) (by decide) k_4 rfl rfl (Nat.le_of_ble_eq_true rfl) dX11_even_87 ?_
      refine x_aload_n o dX11_even_90 0 rfl rfl ?_
      refine gRX11_44 o k_2 ej_3 dX11_even_91 ?_
      refine x_iconst (v := 1) o dX11_even_94 (by decide) ?_
      obtain ⟨c_7, ec_7, hf⟩ := ob_ex hf
      refine vRX11_169 [.int 1] [.int c_5] o (C_X10_weight o.1.2.2.2.2.2.2.1 o.2 F ec_7) (by decide) k_4 rfl rfl (Nat.le_of_ble_eq_true rfl) dX11_even_95 ?_
      refine x_isub o dX11_even_98 ?_
      obtain ⟨x5_9, ex5_9, hf⟩ := bd_ex hf
      refine x_top ex5_9 ?_
      refine x_istore o dX11_even_99 (by decide) [(5, .int x5_9), (0, .ref (ka k a0)), (1, .int x1), (2, .int x2), (3, .int x3), (4, .int x4)] rfl ?_
      refine x_aload_n o dX11_even_101 1 rfl rfl ?_
      obtain ⟨j_10, ej_10, hf⟩ := ob_ex hf
      refine gRX11_16 o k_2 ej_10 dX11_even_102 ?_
      refine x_iconst (v := 0) o dX11_even_105 (by decide) ?_
      refine x_iload_n o dX11_even_106 4 rfl rfl ?_
      refine x_iload o dX11_even_107 5 rfl ?_
      refine x_iload o dX11_even_109 0 rfl ?_
      refine x_iconst (v := 0) o dX11_even_111 (by decide) ?_
      obtain ⟨c_11, ec_11, hf⟩ := ob_ex hf
      refine vRX11_202 [.ref (ka k j_10), .int 0, .int x3, .int x4, .int x5_9, .int 0] [] o (C_X7_evenest o.1.2.2.2.2.2.2.1 o.2 F ec_11) (by decide) rfl rfl (Nat.le_of_ble_eq_true rfl) dX11_even_112 ?_
      refine x_istore o dX11_even_115 (by decide) [(6, .int c_11), (5, .int x5_9), (0, .ref (ka k a0)), (1, .int x1), (2, .int x2), (3, .int x3), (4, .int x4)] rfl ?_
      refine x_iload_n o dX11_even_117 4 rfl rfl ?_
      refine x_if_ne o 129 dX11_even_118 (by decide) (fun q_13 => ?_) (fun q_13 => ?_)
      · replace hf := (if_neg q_13).symm.trans hf
        refine x_iload o dX11_even_129 0 rfl ?_
        refine x_bipush (v := 16) o dX11_even_131 (by decide) ?_
        refine x_irem o dX11_even_133 (by decide) ?_
        cases hf
        exact hr _ _ dX11_even_134
      · replace hf := (if_pos q_13).symm.trans hf
        refine x_iload o dX11_even_121 0 rfl ?_
        refine x_bipush (v := 16) o dX11_even_123 (by decide) ?_
        refine x_idiv o dX11_even_125 (by decide) ?_
        refine x_goto o 134 dX11_even_126 (by decide) ?_
        cases hf
        exact hr _ _ dX11_even_134
    · replace hf := (if_neg q_1).symm.trans hf
      refine x_aload_n o dX11_even_61 0 rfl rfl ?_
      obtain ⟨k_14, hf⟩ := gq_ex hf
      obtain ⟨j_15, ej_15, hf⟩ := ob_ex hf
      refine gRX11_16 o k_14 ej_15 dX11_even_62 ?_
      refine x_iload o dX11_even_65 5 rfl ?_
      obtain ⟨k_16, hf⟩ := gq_ex hf
      obtain ⟨c_17, ec_17, hf⟩ := ob_ex hf
      refine vRX11_199 [.int x5] [] o (C_X9_at o.1.2.2.2.2.2.2.1 o.2 F ec_17) (by decide) k_16 rfl rfl (Nat.le_of_ble_eq_true rfl) dX11_even_67 ?_
      refine x_if_ne o 76 dX11_even_70 (by decide) (fun q_19 => ?_) (fun q_19 => ?_)
      · replace hf := (if_neg q_19).symm.trans hf
        obtain ⟨x5_20, ex5_20, hf⟩ := bd_ex hf
        refine x_iinc o dX11_even_76 (by decide) 5 rfl ex5_20.symm [(5, .int x5_20), (0, .ref (ka k a0)), (1, .int x1), (2, .int x2), (3, .int x3), (4, .int x4)] rfl ?_
        refine x_goto o 55 dX11_even_79 (by decide) ?_
        refine x_sub [1, 2, 3, 4, 5, 0] [(0, .ref (ka k a0)), (1, .int x1), (2, .int x2), (3, .int x3), (4, .int x4), (5, .int x5_20)] rfl ?_
        exact ih hf hr
      · replace hf := (if_pos q_19).symm.trans hf
        refine x_bipush (v := (-3)) o dX11_even_73 (by decide) ?_
        cases hf
        exact hr _ _ dX11_even_75
set_option maxRecDepth 100000 in
set_option maxHeartbeats 4000000 in
theorem S_X11_even_0 {k : Kst} {d : Kdy} (o : Ok k d cX11_even RX11 7 65) (F : Nat) {h : Hp} {a0 : Nat} {x1 : Int32} {x2 : Int32} {r : Int32} {h1 : Hp} (hf : X11_even F a0 x1 x2 h = some (r, h1)) (hr : RI k d cX11_even r h1) : Wz k d h 0 [(0, .ref (ka k a0)), (1, .int x1), (2, .int x2)] [] := by
  unfold X11_even at hf
  refine x_iload_n o dX11_even_0 2 rfl rfl ?_
  refine x_iconst (v := 0) o dX11_even_1 (by decide) ?_
  refine x_iconst (v := 1) o dX11_even_2 (by decide) ?_
  obtain ⟨c_1, ec_1, hf⟩ := ob_ex hf
  refine vRX11_81 [.int x2, .int 0, .int 1] [] o (C_X11_within o.1.2.2.2.2.2.2.1 o.2 F ec_1) (by decide) rfl rfl (Nat.le_of_ble_eq_true rfl) dX11_even_3 ?_
  refine x_if_eq o 19 dX11_even_6 (by decide) (fun q_3 => ?_) (fun q_3 => ?_)
  · replace hf := (if_pos q_3).symm.trans hf
    refine x_iconst (v := (-1)) o dX11_even_19 (by decide) ?_
    cases hf
    exact hr _ _ dX11_even_20
  · replace hf := (if_neg q_3).symm.trans hf
    refine x_aload_n o dX11_even_9 0 rfl rfl ?_
    refine x_iload_n o dX11_even_10 1 rfl rfl ?_
    refine x_bipush (v := 8) o dX11_even_11 (by decide) ?_
    obtain ⟨k_4, hf⟩ := gq_ex hf
    obtain ⟨c_5, h_6, ec_5, hf⟩ := bq_ex hf
    refine vRX11_92 [.int x1, .int 8] [] o (C_X11_take o.1.2.2.2.2.2.2.1 o.2 F ec_5) (by decide) k_4 rfl rfl (Nat.le_of_ble_eq_true rfl) dX11_even_13 ?_
    refine x_if_ne o 21 dX11_even_16 (by decide) (fun q_7 => ?_) (fun q_7 => ?_)
    · replace hf := (if_neg q_7).symm.trans hf
      refine x_aload_n o dX11_even_21 0 rfl rfl ?_
      obtain ⟨j_8, ej_8, hf⟩ := ob_ex hf
      refine gRX11_44 o k_4 ej_8 dX11_even_22 ?_
      refine x_iconst (v := 0) o dX11_even_25 (by decide) ?_
      obtain ⟨k_9, hf⟩ := gq_ex hf
      obtain ⟨c_10, ec_10, hf⟩ := ob_ex hf
      refine vRX11_160 [.int 0] [] o (C_X10_standing o.1.2.2.2.2.2.2.1 o.2 F ec_10) (by decide) k_9 rfl rfl (Nat.le_of_ble_eq_true rfl) dX11_even_26 ?_
      refine x_istore_n o dX11_even_29 (by decide) rfl [(3, .int c_10), (0, .ref (ka k a0)), (1, .int x1), (2, .int x2)] rfl ?_
      refine x_aload_n o dX11_even_30 1 rfl rfl ?_
      refine gRX11_44 o k_4 ej_8 dX11_even_31 ?_
      refine x_iconst (v := 1) o dX11_even_34 (by decide) ?_
      obtain ⟨c_12, ec_12, hf⟩ := ob_ex hf
      refine vRX11_160 [.int 1] [] o (C_X10_standing o.1.2.2.2.2.2.2.1 o.2 F ec_12) (by decide) k_9 rfl rfl (Nat.le_of_ble_eq_true rfl) dX11_even_35 ?_
      refine x_istore o dX11_even_38 (by decide) [(4, .int c_12), (3, .int c_10), (0, .ref (ka k a0)), (1, .int x1), (2, .int x2)] rfl ?_
      refine x_iload_n o dX11_even_40 1 rfl rfl ?_
      refine x_if_eq o 49 dX11_even_41 (by decide) (fun q_14 => ?_) (fun q_14 => ?_)
      · replace hf := (if_pos q_14).symm.trans hf
        refine x_bipush (v := (-2)) o dX11_even_49 (by decide) ?_
        cases hf
        exact hr _ _ dX11_even_51
      · replace hf := (if_neg q_14).symm.trans hf
        refine x_iload o dX11_even_44 0 rfl ?_
        refine x_if_ne o 52 dX11_even_46 (by decide) (fun q_15 => ?_) (fun q_15 => ?_)
        · replace hf := (if_neg q_15).symm.trans hf
          refine x_iconst (v := 0) o dX11_even_52 (by decide) ?_
          refine x_istore o dX11_even_53 (by decide) [(5, .int 0), (4, .int c_12), (3, .int c_10), (0, .ref (ka k a0)), (1, .int x1), (2, .int x2)] rfl ?_
          refine x_sub [3, 4, 5, 2, 1, 0] [(0, .ref (ka k a0)), (1, .int x1), (2, .int x2), (3, .int c_10), (4, .int c_12), (5, .int 0)] rfl ?_
          exact S_X11_even_55 o F _ hf hr
        · replace hf := (if_pos q_15).symm.trans hf
          refine x_bipush (v := (-2)) o dX11_even_49 (by decide) ?_
          cases hf
          exact hr _ _ dX11_even_51
    · replace hf := (if_pos q_7).symm.trans hf
      refine x_iconst (v := (-1)) o dX11_even_19 (by decide) ?_
      cases hf
      exact hr _ _ dX11_even_20
theorem C_X11_even {k : Kst} (hj : Dj k) (hn : kn k = kdl.length) (F : Nat) {h : Hp} {a0 : Nat} {x1 : Int32} {x2 : Int32} {r : Int32} {h1 : Hp} (hf : X11_even F a0 x1 x2 h = some (r, h1)) : MI k 65 yX11_even cX11_even 7 (some .int) [.ref (ka k a0), .int x1, .int x2] h r h1 := mI hj hn (by decide +kernel) (Nat.le_of_ble_eq_true rfl) (fun d o hr => S_X11_even_0 o F hf hr)
set_option maxRecDepth 100000 in
set_option maxHeartbeats 4000000 in
theorem S_X11_inARow_0 {k : Kst} {d : Kdy} (o : Ok k d cX11_inARow RX11 1 6) (F : Nat) {h : Hp} {a0 : Nat} {r : Int32} {h1 : Hp} (hf : X11_inARow F a0 h = some (r, h1)) (hr : RI k d cX11_inARow r h1) : Wz k d h 0 [(0, .ref (ka k a0))] [] := by
  unfold X11_inARow at hf
  refine x_aload_n o dX11_inARow_0 0 rfl rfl ?_
  obtain ⟨k_1, hf⟩ := gq_ex hf
  obtain ⟨j_2, ej_2, hf⟩ := ob_ex hf
  refine gRX11_68 o k_1 ej_2 dX11_inARow_1 ?_
  refine x_aload_n o dX11_inARow_4 0 rfl rfl ?_
  obtain ⟨j_3, ej_3, hf⟩ := ob_ex hf
  refine gRX11_44 o k_1 ej_3 dX11_inARow_5 ?_
  obtain ⟨k_4, hf⟩ := gq_ex hf
  obtain ⟨c_5, h_6, ec_5, hf⟩ := bq_ex hf
  refine vRX11_206 [.ref (ka k j_3)] [] o (C_X7_ordersOfBuilding o.1.2.2.2.2.2.2.1 o.2 F ec_5) (by decide) k_4 rfl rfl (Nat.le_of_ble_eq_true rfl) dX11_inARow_8 ?_
  cases hf
  exact hr _ _ dX11_inARow_11
theorem C_X11_inARow {k : Kst} (hj : Dj k) (hn : kn k = kdl.length) (F : Nat) {h : Hp} {a0 : Nat} {r : Int32} {h1 : Hp} (hf : X11_inARow F a0 h = some (r, h1)) : MI k 6 yX11_inARow cX11_inARow 1 (some .int) [.ref (ka k a0)] h r h1 := mI hj hn (by decide +kernel) (Nat.le_of_ble_eq_true rfl) (fun d o hr => S_X11_inARow_0 o F hf hr)
set_option maxRecDepth 100000 in
set_option maxHeartbeats 4000000 in
theorem S_X11_throwable_0 {k : Kst} {d : Kdy} (o : Ok k d cX11_throwable RX11 4 4) (F : Nat) {h : Hp} {x0 : Int32} {x1 : Int32} {x2 : Int32} {x3 : Int32} {r : Int32} (hf : X11_throwable F x0 x1 x2 x3 h = some r) (hr : RZ k d cX11_throwable r h) : Wz k d h 0 [(0, .int x0), (1, .int x1), (2, .int x2), (3, .int x3)] [] := by
  unfold X11_throwable at hf
  refine x_iload_n o dX11_throwable_0 0 rfl rfl ?_
  refine x_iconst (v := 1) o dX11_throwable_1 (by decide) ?_
  refine x_sipush (v := 200) o dX11_throwable_2 (by decide) ?_
  obtain ⟨c_1, ec_1, hf⟩ := ob_ex hf
  refine vRX11_81 [.int x0, .int 1, .int 200] [] o (C_X11_within o.1.2.2.2.2.2.2.1 o.2 F ec_1) (by decide) rfl rfl (Nat.le_of_ble_eq_true rfl) dX11_throwable_5 ?_
  refine x_if_eq o 45 dX11_throwable_8 (by decide) (fun q_3 => ?_) (fun q_3 => ?_)
  · replace hf := (if_pos q_3).symm.trans hf
    refine x_iconst (v := 0) o dX11_throwable_45 (by decide) ?_
    cases hf
    exact hr (Or.inl rfl) _ _ dX11_throwable_46
  · replace hf := (if_neg q_3).symm.trans hf
    refine x_iload_n o dX11_throwable_11 1 rfl rfl ?_
    refine x_iconst (v := 0) o dX11_throwable_12 (by decide) ?_
    refine x_bipush (v := 99) o dX11_throwable_13 (by decide) ?_
    obtain ⟨c_4, ec_4, hf⟩ := ob_ex hf
    refine vRX11_81 [.int x1, .int 0, .int 99] [] o (C_X11_within o.1.2.2.2.2.2.2.1 o.2 F ec_4) (by decide) rfl rfl (Nat.le_of_ble_eq_true rfl) dX11_throwable_15 ?_
    refine x_if_eq o 45 dX11_throwable_18 (by decide) (fun q_6 => ?_) (fun q_6 => ?_)
    · replace hf := (if_pos q_6).symm.trans hf
      refine x_iconst (v := 0) o dX11_throwable_45 (by decide) ?_
      cases hf
      exact hr (Or.inl rfl) _ _ dX11_throwable_46
    · replace hf := (if_neg q_6).symm.trans hf
      refine x_iload_n o dX11_throwable_21 2 rfl rfl ?_
      refine x_iconst (v := 0) o dX11_throwable_22 (by decide) ?_
      refine x_bipush (v := 99) o dX11_throwable_23 (by decide) ?_
      obtain ⟨c_7, ec_7, hf⟩ := ob_ex hf
      refine vRX11_81 [.int x2, .int 0, .int 99] [] o (C_X11_within o.1.2.2.2.2.2.2.1 o.2 F ec_7) (by decide) rfl rfl (Nat.le_of_ble_eq_true rfl) dX11_throwable_25 ?_
      refine x_if_eq o 45 dX11_throwable_28 (by decide) (fun q_9 => ?_) (fun q_9 => ?_)
      · replace hf := (if_pos q_9).symm.trans hf
        refine x_iconst (v := 0) o dX11_throwable_45 (by decide) ?_
        cases hf
        exact hr (Or.inl rfl) _ _ dX11_throwable_46
      · replace hf := (if_neg q_9).symm.trans hf
        refine x_iload_n o dX11_throwable_31 3 rfl rfl ?_
        refine x_iconst (v := 0) o dX11_throwable_32 (by decide) ?_
        refine x_bipush (v := 20) o dX11_throwable_33 (by decide) ?_
        obtain ⟨c_10, ec_10, hf⟩ := ob_ex hf
        refine vRX11_81 [.int x3, .int 0, .int 20] [] o (C_X11_within o.1.2.2.2.2.2.2.1 o.2 F ec_10) (by decide) rfl rfl (Nat.le_of_ble_eq_true rfl) dX11_throwable_35 ?_
        refine x_if_eq o 45 dX11_throwable_38 (by decide) (fun q_12 => ?_) (fun q_12 => ?_)
        · replace hf := (if_pos q_12).symm.trans hf
          refine x_iconst (v := 0) o dX11_throwable_45 (by decide) ?_
          cases hf
          exact hr (Or.inl rfl) _ _ dX11_throwable_46
        · replace hf := (if_neg q_12).symm.trans hf
          refine x_iconst (v := 1) o dX11_throwable_41 (by decide) ?_
          refine x_goto o 46 dX11_throwable_42 (by decide) ?_
          cases hf
          exact hr (Or.inr rfl) _ _ dX11_throwable_46
theorem C_X11_throwable {k : Kst} (hj : Dj k) (hn : kn k = kdl.length) (F : Nat) {h : Hp} {x0 : Int32} {x1 : Int32} {x2 : Int32} {x3 : Int32} {r : Int32} (hf : X11_throwable F x0 x1 x2 x3 h = some r) : MI k 4 yX11_throwable cX11_throwable 4 (some .boolean) [.int x0, .int x1, .int x2, .int x3] h r h := mZ hj hn (by decide +kernel) (Nat.le_of_ble_eq_true rfl) (fun d o hr => S_X11_throwable_0 o F hf hr)
set_option maxRecDepth 100000 in
set_option maxHeartbeats 4000000 in
theorem S_X11_ball_0 {k : Kst} {d : Kdy} (o : Ok k d cX11_ball RX11 6 5) (F : Nat) {h : Hp} {a0 : Nat} {x1 : Int32} {x2 : Int32} {x3 : Int32} {x4 : Int32} {x5 : Int32} {r : Int32} (hf : X11_ball F a0 x1 x2 x3 x4 x5 h = some r) (hr : RI k d cX11_ball r h) : Wz k d h 0 [(0, .ref (ka k a0)), (1, .int x1), (2, .int x2), (3, .int x3), (4, .int x4), (5, .int x5)] [] := by
  unfold X11_ball at hf
  refine x_iload_n o dX11_ball_0 1 rfl rfl ?_
  refine x_iload_n o dX11_ball_1 2 rfl rfl ?_
  refine x_iload_n o dX11_ball_2 3 rfl rfl ?_
  refine x_iload o dX11_ball_3 5 rfl ?_
  obtain ⟨c_1, ec_1, hf⟩ := ob_ex hf
  refine vRX11_210 [.int x1, .int x2, .int x3, .int x5] [] o (C_X11_throwable o.1.2.2.2.2.2.2.1 o.2 F ec_1) (by decide) rfl rfl (Nat.le_of_ble_eq_true rfl) dX11_ball_5 ?_
  refine x_if_eq o 22 dX11_ball_8 (by decide) (fun q_3 => ?_) (fun q_3 => ?_)
  · replace hf := (if_pos q_3).symm.trans hf
    refine x_iconst (v := (-1)) o dX11_ball_22 (by decide) ?_
    cases hf
    exact hr _ _ dX11_ball_23
  · replace hf := (if_neg q_3).symm.trans hf
    refine x_iload o dX11_ball_11 4 rfl ?_
    refine x_iconst (v := 1) o dX11_ball_13 (by decide) ?_
    refine x_bipush (v := 20) o dX11_ball_14 (by decide) ?_
    obtain ⟨c_4, ec_4, hf⟩ := ob_ex hf
    refine vRX11_81 [.int x4, .int 1, .int 20] [] o (C_X11_within o.1.2.2.2.2.2.2.1 o.2 F ec_4) (by decide) rfl rfl (Nat.le_of_ble_eq_true rfl) dX11_ball_16 ?_
    refine x_if_ne o 24 dX11_ball_19 (by decide) (fun q_6 => ?_) (fun q_6 => ?_)
    · replace hf := (if_neg q_6).symm.trans hf
      refine x_iload_n o dX11_ball_24 1 rfl rfl ?_
      refine x_iload_n o dX11_ball_25 2 rfl rfl ?_
      refine x_iload_n o dX11_ball_26 3 rfl rfl ?_
      refine x_iload o dX11_ball_27 4 rfl ?_
      refine x_iload o dX11_ball_29 5 rfl ?_
      obtain ⟨c_7, ec_7, hf⟩ := ob_ex hf
      refine vRX11_214 [.int x1, .int x2, .int x3, .int x4, .int x5] [] o (C_X7_fliesOver o.1.2.2.2.2.2.2.1 o.2 F ec_7) (by decide) rfl rfl (Nat.le_of_ble_eq_true rfl) dX11_ball_31 ?_
      refine x_if_eq o 41 dX11_ball_34 (by decide) (fun q_9 => ?_) (fun q_9 => ?_)
      · replace hf := (if_pos q_9).symm.trans hf
        refine x_iconst (v := 0) o dX11_ball_41 (by decide) ?_
        cases hf
        exact hr _ _ dX11_ball_42
      · replace hf := (if_neg q_9).symm.trans hf
        refine x_iconst (v := 1) o dX11_ball_37 (by decide) ?_
        refine x_goto o 42 dX11_ball_38 (by decide) ?_
        cases hf
        exact hr _ _ dX11_ball_42
    · replace hf := (if_pos q_6).symm.trans hf
      refine x_iconst (v := (-1)) o dX11_ball_22 (by decide) ?_
      cases hf
      exact hr _ _ dX11_ball_23
theorem C_X11_ball {k : Kst} (hj : Dj k) (hn : kn k = kdl.length) (F : Nat) {h : Hp} {a0 : Nat} {x1 : Int32} {x2 : Int32} {x3 : Int32} {x4 : Int32} {x5 : Int32} {r : Int32} (hf : X11_ball F a0 x1 x2 x3 x4 x5 h = some r) : MI k 5 yX11_ball cX11_ball 6 (some .int) [.ref (ka k a0), .int x1, .int x2, .int x3, .int x4, .int x5] h r h := mI hj hn (by decide +kernel) (Nat.le_of_ble_eq_true rfl) (fun d o hr => S_X11_ball_0 o F hf hr)
set_option maxRecDepth 100000 in
set_option maxHeartbeats 4000000 in
theorem S_X11_leastSpeed_16 {k : Kst} {d : Kdy} (o : Ok k d cX11_leastSpeed RX11 6 5) (F : Nat) : ∀ (f : Nat) {h : Hp} {x1 : Int32} {x2 : Int32} {x3 : Int32} {x4 : Int32} {x5 : Int32} {r : Int32}, X11_leastSpeed_16 F f x1 x2 x3 x4 x5 h = some r → RI k d cX11_leastSpeed r h → Wz k d h 16 [(1, .int x1), (2, .int x2), (3, .int x3), (4, .int x4), (5, .int x5)] [] := by
  intro f
  induction f with
  | zero =>
    intro h x1 x2 x3 x4 x5 r hf hr
    exact nomatch (show (none : Option _) = some _ from hf)
  | succ f ih =>
    intro h x1 x2 x3 x4 x5 r hf hr
    rw [X11_leastSpeed_16] at hf
    refine x_iload o dX11_leastSpeed_16 4 rfl ?_
    refine x_bipush (v := 20) o dX11_leastSpeed_18 (by decide) ?_
    refine x_icmp_gt o 45 dX11_leastSpeed_20 (by decide) (fun q_1 => ?_) (fun q_1 => ?_)
    · replace hf := (if_pos q_1).symm.trans hf
      refine x_bipush (v := (-2)) o dX11_leastSpeed_45 (by decide) ?_
      cases hf
      exact hr _ _ dX11_leastSpeed_47
    · replace hf := (if_neg q_1).symm.trans hf
      refine x_iload_n o dX11_leastSpeed_23 0 rfl rfl ?_
      refine x_iload_n o dX11_leastSpeed_24 1 rfl rfl ?_
      refine x_iload_n o dX11_leastSpeed_25 2 rfl rfl ?_
      refine x_iload o dX11_leastSpeed_26 4 rfl ?_
      refine x_iload o dX11_leastSpeed_28 3 rfl ?_
      obtain ⟨c_2, ec_2, hf⟩ := ob_ex hf
      refine vRX11_214 [.int x1, .int x2, .int x3, .int x5, .int x4] [] o (C_X7_fliesOver o.1.2.2.2.2.2.2.1 o.2 F ec_2) (by decide) rfl rfl (Nat.le_of_ble_eq_true rfl) dX11_leastSpeed_30 ?_
      refine x_if_eq o 39 dX11_leastSpeed_33 (by decide) (fun q_4 => ?_) (fun q_4 => ?_)
      · replace hf := (if_pos q_4).symm.trans hf
        obtain ⟨x5_5, ex5_5, hf⟩ := bd_ex hf
        refine x_iinc o dX11_leastSpeed_39 (by decide) 4 rfl ex5_5.symm [(5, .int x5_5), (1, .int x1), (2, .int x2), (3, .int x3), (4, .int x4)] rfl ?_
        refine x_goto o 16 dX11_leastSpeed_42 (by decide) ?_
        refine x_sub [1, 2, 3, 4, 0] [(1, .int x1), (2, .int x2), (3, .int x3), (4, .int x4), (5, .int x5_5)] rfl ?_
        exact ih hf hr
      · replace hf := (if_neg q_4).symm.trans hf
        refine x_iload o dX11_leastSpeed_36 4 rfl ?_
        cases hf
        exact hr _ _ dX11_leastSpeed_38
set_option maxRecDepth 100000 in
set_option maxHeartbeats 4000000 in
theorem S_X11_leastSpeed_0 {k : Kst} {d : Kdy} (o : Ok k d cX11_leastSpeed RX11 6 5) (F : Nat) {h : Hp} {a0 : Nat} {x1 : Int32} {x2 : Int32} {x3 : Int32} {x4 : Int32} {r : Int32} (hf : X11_leastSpeed F a0 x1 x2 x3 x4 h = some r) (hr : RI k d cX11_leastSpeed r h) : Wz k d h 0 [(0, .ref (ka k a0)), (1, .int x1), (2, .int x2), (3, .int x3), (4, .int x4)] [] := by
  unfold X11_leastSpeed at hf
  refine x_iload_n o dX11_leastSpeed_0 1 rfl rfl ?_
  refine x_iload_n o dX11_leastSpeed_1 2 rfl rfl ?_
  refine x_iload_n o dX11_leastSpeed_2 3 rfl rfl ?_
  refine x_iload o dX11_leastSpeed_3 4 rfl ?_
  obtain ⟨c_1, ec_1, hf⟩ := ob_ex hf
  refine vRX11_210 [.int x1, .int x2, .int x3, .int x4] [] o (C_X11_throwable o.1.2.2.2.2.2.2.1 o.2 F ec_1) (by decide) rfl rfl (Nat.le_of_ble_eq_true rfl) dX11_leastSpeed_5 ?_
  refine x_if_ne o 13 dX11_leastSpeed_8 (by decide) (fun q_3 => ?_) (fun q_3 => ?_)
  · replace hf := (if_neg q_3).symm.trans hf
    refine x_iconst (v := 1) o dX11_leastSpeed_13 (by decide) ?_
    refine x_istore o dX11_leastSpeed_14 (by decide) [(5, .int 1), (0, .ref (ka k a0)), (1, .int x1), (2, .int x2), (3, .int x3), (4, .int x4)] rfl ?_
    refine x_sub [2, 3, 4, 5, 0] [(1, .int x1), (2, .int x2), (3, .int x3), (4, .int x4), (5, .int 1)] rfl ?_
    exact S_X11_leastSpeed_16 o F _ hf hr
  · replace hf := (if_pos q_3).symm.trans hf
    refine x_iconst (v := (-1)) o dX11_leastSpeed_11 (by decide) ?_
    cases hf
    exact hr _ _ dX11_leastSpeed_12
theorem C_X11_leastSpeed {k : Kst} (hj : Dj k) (hn : kn k = kdl.length) (F : Nat) {h : Hp} {a0 : Nat} {x1 : Int32} {x2 : Int32} {x3 : Int32} {x4 : Int32} {r : Int32} (hf : X11_leastSpeed F a0 x1 x2 x3 x4 h = some r) : MI k 5 yX11_leastSpeed cX11_leastSpeed 6 (some .int) [.ref (ka k a0), .int x1, .int x2, .int x3, .int x4] h r h := mI hj hn (by decide +kernel) (Nat.le_of_ble_eq_true rfl) (fun d o hr => S_X11_leastSpeed_0 o F hf hr)
set_option maxRecDepth 100000 in
set_option maxHeartbeats 4000000 in
theorem S_X11_piles_0 {k : Kst} {d : Kdy} (o : Ok k d cX11_piles RX11 5 7) (F : Nat) {h : Hp} {a0 : Nat} {x1 : Int32} {x2 : Int32} {x3 : Int32} {r : Int32} {h1 : Hp} (hf : X11_piles F a0 x1 x2 x3 h = some (r, h1)) (hr : RI k d cX11_piles r h1) : Wz k d h 0 [(0, .ref (ka k a0)), (1, .int x1), (2, .int x2), (3, .int x3)] [] := by
  unfold X11_piles at hf
  refine x_iload_n o dX11_piles_0 1 rfl rfl ?_
  refine x_iconst (v := 1) o dX11_piles_1 (by decide) ?_
  refine x_bipush (v := 60) o dX11_piles_2 (by decide) ?_
  obtain ⟨c_1, ec_1, hf⟩ := ob_ex hf
  refine vRX11_81 [.int x1, .int 1, .int 60] [] o (C_X11_within o.1.2.2.2.2.2.2.1 o.2 F ec_1) (by decide) rfl rfl (Nat.le_of_ble_eq_true rfl) dX11_piles_4 ?_
  refine x_if_eq o 40 dX11_piles_7 (by decide) (fun q_3 => ?_) (fun q_3 => ?_)
  · replace hf := (if_pos q_3).symm.trans hf
    refine x_iconst (v := (-1)) o dX11_piles_40 (by decide) ?_
    cases hf
    exact hr _ _ dX11_piles_41
  · replace hf := (if_neg q_3).symm.trans hf
    refine x_iload_n o dX11_piles_10 2 rfl rfl ?_
    refine x_iconst (v := 1) o dX11_piles_11 (by decide) ?_
    refine x_bipush (v := 60) o dX11_piles_12 (by decide) ?_
    obtain ⟨c_4, ec_4, hf⟩ := ob_ex hf
    refine vRX11_81 [.int x2, .int 1, .int 60] [] o (C_X11_within o.1.2.2.2.2.2.2.1 o.2 F ec_4) (by decide) rfl rfl (Nat.le_of_ble_eq_true rfl) dX11_piles_14 ?_
    refine x_if_eq o 40 dX11_piles_17 (by decide) (fun q_6 => ?_) (fun q_6 => ?_)
    · replace hf := (if_pos q_6).symm.trans hf
      refine x_iconst (v := (-1)) o dX11_piles_40 (by decide) ?_
      cases hf
      exact hr _ _ dX11_piles_41
    · replace hf := (if_neg q_6).symm.trans hf
      refine x_iload_n o dX11_piles_20 3 rfl rfl ?_
      refine x_iconst (v := 0) o dX11_piles_21 (by decide) ?_
      refine x_iconst (v := 1) o dX11_piles_22 (by decide) ?_
      obtain ⟨c_7, ec_7, hf⟩ := ob_ex hf
      refine vRX11_81 [.int x3, .int 0, .int 1] [] o (C_X11_within o.1.2.2.2.2.2.2.1 o.2 F ec_7) (by decide) rfl rfl (Nat.le_of_ble_eq_true rfl) dX11_piles_23 ?_
      refine x_if_eq o 40 dX11_piles_26 (by decide) (fun q_9 => ?_) (fun q_9 => ?_)
      · replace hf := (if_pos q_9).symm.trans hf
        refine x_iconst (v := (-1)) o dX11_piles_40 (by decide) ?_
        cases hf
        exact hr _ _ dX11_piles_41
      · replace hf := (if_neg q_9).symm.trans hf
        refine x_aload_n o dX11_piles_29 0 rfl rfl ?_
        refine x_bipush (v := 8) o dX11_piles_30 (by decide) ?_
        refine x_bipush (v := 8) o dX11_piles_32 (by decide) ?_
        obtain ⟨k_10, hf⟩ := gq_ex hf
        obtain ⟨c_11, h_12, ec_11, hf⟩ := bq_ex hf
        refine vRX11_92 [.int 8, .int 8] [] o (C_X11_take o.1.2.2.2.2.2.2.1 o.2 F ec_11) (by decide) k_10 rfl rfl (Nat.le_of_ble_eq_true rfl) dX11_piles_34 ?_
        refine x_if_ne o 42 dX11_piles_37 (by decide) (fun q_13 => ?_) (fun q_13 => ?_)
        · replace hf := (if_neg q_13).symm.trans hf
          refine x_aload_n o dX11_piles_42 0 rfl rfl ?_
          obtain ⟨j_14, ej_14, hf⟩ := ob_ex hf
          refine gRX11_68 o k_10 ej_14 dX11_piles_43 ?_
          refine x_aload_n o dX11_piles_46 0 rfl rfl ?_
          obtain ⟨j_15, ej_15, hf⟩ := ob_ex hf
          refine gRX11_16 o k_10 ej_15 dX11_piles_47 ?_
          refine x_iload_n o dX11_piles_50 1 rfl rfl ?_
          refine x_iload_n o dX11_piles_51 2 rfl rfl ?_
          obtain ⟨k_16, hf⟩ := gq_ex hf
          obtain ⟨c_17, h_18, ec_17, hf⟩ := bq_ex hf
          refine vRX11_218 [.ref (ka k j_15), .int x1, .int x2] [] o (C_X7_lastPile o.1.2.2.2.2.2.2.1 o.2 F ec_17) (by decide) k_16 rfl rfl (Nat.le_of_ble_eq_true rfl) dX11_piles_52 ?_
          refine x_istore o dX11_piles_55 (by decide) [(4, .int c_17), (0, .ref (ka k a0)), (1, .int x1), (2, .int x2), (3, .int x3)] rfl ?_
          refine x_iload o dX11_piles_57 0 rfl ?_
          refine x_if_ge o 65 dX11_piles_59 (by decide) (fun q_19 => ?_) (fun q_19 => ?_)
          · replace hf := (if_pos q_19).symm.trans hf
            refine x_iload_n o dX11_piles_65 4 rfl rfl ?_
            refine x_if_ne o 81 dX11_piles_66 (by decide) (fun q_20 => ?_) (fun q_20 => ?_)
            · replace hf := (if_neg q_20).symm.trans hf
              refine x_iload o dX11_piles_81 0 rfl ?_
              cases hf
              exact hr _ _ dX11_piles_83
            · replace hf := (if_pos q_20).symm.trans hf
              refine x_aload_n o dX11_piles_69 1 rfl rfl ?_
              obtain ⟨j_21, ej_21, hf⟩ := ob_ex hf
              refine gRX11_68 o k_10 ej_21 dX11_piles_70 ?_
              refine x_iload o dX11_piles_73 0 rfl ?_
              obtain ⟨k_22, hf⟩ := gq_ex hf
              obtain ⟨c_23, ec_23, hf⟩ := ob_ex hf
              refine vRX11_222 [.int c_17] [] o (C_X7_pilesUpTo o.1.2.2.2.2.2.2.1 o.2 F ec_23) (by decide) k_22 rfl rfl (Nat.le_of_ble_eq_true rfl) dX11_piles_75 ?_
              refine x_goto o 83 dX11_piles_78 (by decide) ?_
              cases hf
              exact hr _ _ dX11_piles_83
          · replace hf := (if_neg q_19).symm.trans hf
            refine x_bipush (v := (-2)) o dX11_piles_62 (by decide) ?_
            cases hf
            exact hr _ _ dX11_piles_64
        · replace hf := (if_pos q_13).symm.trans hf
          refine x_iconst (v := (-1)) o dX11_piles_40 (by decide) ?_
          cases hf
          exact hr _ _ dX11_piles_41
theorem C_X11_piles {k : Kst} (hj : Dj k) (hn : kn k = kdl.length) (F : Nat) {h : Hp} {a0 : Nat} {x1 : Int32} {x2 : Int32} {x3 : Int32} {r : Int32} {h1 : Hp} (hf : X11_piles F a0 x1 x2 x3 h = some (r, h1)) : MI k 7 yX11_piles cX11_piles 5 (some .int) [.ref (ka k a0), .int x1, .int x2, .int x3] h r h1 := mI hj hn (by decide +kernel) (Nat.le_of_ble_eq_true rfl) (fun d o hr => S_X11_piles_0 o F hf hr)
set_option maxRecDepth 100000 in
set_option maxHeartbeats 4000000 in
theorem S_X11_lamps_0 {k : Kst} {d : Kdy} (o : Ok k d cX11_lamps RX11 5 6) (F : Nat) {h : Hp} {a0 : Nat} {x1 : Int32} {x2 : Int32} {x3 : Int32} {r : Int32} {h1 : Hp} (hf : X11_lamps F a0 x1 x2 x3 h = some (r, h1)) (hr : RI k d cX11_lamps r h1) : Wz k d h 0 [(0, .ref (ka k a0)), (1, .int x1), (2, .int x2), (3, .int x3)] [] := by
  unfold X11_lamps at hf
  refine x_iload_n o dX11_lamps_0 2 rfl rfl ?_
  refine x_iconst (v := 0) o dX11_lamps_1 (by decide) ?_
  refine x_iconst (v := 5) o dX11_lamps_2 (by decide) ?_
  obtain ⟨c_1, ec_1, hf⟩ := ob_ex hf
  refine vRX11_81 [.int x2, .int 0, .int 5] [] o (C_X11_within o.1.2.2.2.2.2.2.1 o.2 F ec_1) (by decide) rfl rfl (Nat.le_of_ble_eq_true rfl) dX11_lamps_3 ?_
  refine x_if_eq o 28 dX11_lamps_6 (by decide) (fun q_3 => ?_) (fun q_3 => ?_)
  · replace hf := (if_pos q_3).symm.trans hf
    refine x_iconst (v := (-1)) o dX11_lamps_28 (by decide) ?_
    cases hf
    exact hr _ _ dX11_lamps_29
  · replace hf := (if_neg q_3).symm.trans hf
    refine x_iload_n o dX11_lamps_9 3 rfl rfl ?_
    refine x_iconst (v := 0) o dX11_lamps_10 (by decide) ?_
    refine x_iconst (v := 1) o dX11_lamps_11 (by decide) ?_
    obtain ⟨c_4, ec_4, hf⟩ := ob_ex hf
    refine vRX11_81 [.int x3, .int 0, .int 1] [] o (C_X11_within o.1.2.2.2.2.2.2.1 o.2 F ec_4) (by decide) rfl rfl (Nat.le_of_ble_eq_true rfl) dX11_lamps_12 ?_
    refine x_if_eq o 28 dX11_lamps_15 (by decide) (fun q_6 => ?_) (fun q_6 => ?_)
    · replace hf := (if_pos q_6).symm.trans hf
      refine x_iconst (v := (-1)) o dX11_lamps_28 (by decide) ?_
      cases hf
      exact hr _ _ dX11_lamps_29
    · replace hf := (if_neg q_6).symm.trans hf
      refine x_aload_n o dX11_lamps_18 0 rfl rfl ?_
      refine x_iload_n o dX11_lamps_19 1 rfl rfl ?_
      refine x_bipush (v := 12) o dX11_lamps_20 (by decide) ?_
      obtain ⟨k_7, hf⟩ := gq_ex hf
      obtain ⟨c_8, h_9, ec_8, hf⟩ := bq_ex hf
      refine vRX11_92 [.int x1, .int 12] [] o (C_X11_take o.1.2.2.2.2.2.2.1 o.2 F ec_8) (by decide) k_7 rfl rfl (Nat.le_of_ble_eq_true rfl) dX11_lamps_22 ?_
      refine x_if_ne o 30 dX11_lamps_25 (by decide) (fun q_10 => ?_) (fun q_10 => ?_)
      · replace hf := (if_neg q_10).symm.trans hf
        refine x_aload_n o dX11_lamps_30 0 rfl rfl ?_
        obtain ⟨j_11, ej_11, hf⟩ := ob_ex hf
        refine gRX11_16 o k_7 ej_11 dX11_lamps_31 ?_
        refine x_iload_n o dX11_lamps_34 1 rfl rfl ?_
        refine x_iload_n o dX11_lamps_35 2 rfl rfl ?_
        obtain ⟨c_12, ec_12, hf⟩ := ob_ex hf
        refine vRX11_225 [.ref (ka k j_11), .int x1, .int x2] [] o (C_X7_fewestLamps o.1.2.2.2.2.2.2.1 o.2 F ec_12) (by decide) rfl rfl (Nat.le_of_ble_eq_true rfl) dX11_lamps_36 ?_
        refine x_istore o dX11_lamps_39 (by decide) [(4, .int c_12), (0, .ref (ka k a0)), (1, .int x1), (2, .int x2), (3, .int x3)] rfl ?_
        refine x_iload o dX11_lamps_41 0 rfl ?_
        refine x_if_ge o 49 dX11_lamps_43 (by decide) (fun q_14 => ?_) (fun q_14 => ?_)
        · replace hf := (if_pos q_14).symm.trans hf
          refine x_iload_n o dX11_lamps_49 4 rfl rfl ?_
          refine x_if_ne o 61 dX11_lamps_50 (by decide) (fun q_15 => ?_) (fun q_15 => ?_)
          · replace hf := (if_neg q_15).symm.trans hf
            refine x_iload o dX11_lamps_61 0 rfl ?_
            cases hf
            exact hr _ _ dX11_lamps_63
          · replace hf := (if_pos q_15).symm.trans hf
            refine x_iload o dX11_lamps_53 0 rfl ?_
            obtain ⟨c_16, ec_16, hf⟩ := ob_ex hf
            refine vRX11_228 [.int c_12] [] o (C_J_bitCount o.1.2.2.2.2.2.2.1 o.2 F ec_16) (by decide) rfl rfl (Nat.le_of_ble_eq_true rfl) dX11_lamps_55 ?_
            refine x_goto o 63 dX11_lamps_58 (by decide) ?_
            cases hf
            exact hr _ _ dX11_lamps_63
        · replace hf := (if_neg q_14).symm.trans hf
          refine x_bipush (v := (-2)) o dX11_lamps_46 (by decide) ?_
          cases hf
          exact hr _ _ dX11_lamps_48
      · replace hf := (if_pos q_10).symm.trans hf
        refine x_iconst (v := (-1)) o dX11_lamps_28 (by decide) ?_
        cases hf
        exact hr _ _ dX11_lamps_29
theorem C_X11_lamps {k : Kst} (hj : Dj k) (hn : kn k = kdl.length) (F : Nat) {h : Hp} {a0 : Nat} {x1 : Int32} {x2 : Int32} {x3 : Int32} {r : Int32} {h1 : Hp} (hf : X11_lamps F a0 x1 x2 x3 h = some (r, h1)) : MI k 6 yX11_lamps cX11_lamps 5 (some .int) [.ref (ka k a0), .int x1, .int x2, .int x3] h r h1 := mI hj hn (by decide +kernel) (Nat.le_of_ble_eq_true rfl) (fun d o hr => S_X11_lamps_0 o F hf hr)
set_option maxRecDepth 100000 in
set_option maxHeartbeats 4000000 in
theorem S_X11_claims_35 {k : Kst} {d : Kdy} (o : Ok k d cX11_claims RX11 4 6) (F : Nat) : ∀ (f : Nat) {h : Hp} {a0 : Nat} {x1 : Int32} {x2 : Int32} {x3 : Int32} {r : Int32} {h1 : Hp}, X11_claims_35 F f a0 x1 x2 x3 h = some (r, h1) → RI k d cX11_claims r h1 → Wz k d h 35 [(0, .ref (ka k a0)), (1, .int x1), (2, .int x2), (3, .int x3)] [] := by
  intro f
  induction f with
  | zero =>
    intro h a0 x1 x2 x3 r h1 hf hr
    exact nomatch (show (none : Option _) = some _ from hf)
  | succ f ih =>
    intro h a0 x1 x2 x3 r h1 hf hr
    rw [X11_claims_35] at hf
    refine x_iload_n o dX11_claims_35 3 rfl rfl ?_
    refine x_iload_n o dX11_claims_36 1 rfl rfl ?_
    refine x_icmp_ge o 74 dX11_claims_37 (by decide) (fun q_1 => ?_) (fun q_1 => ?_)
    · replace hf := (if_pos q_1).symm.trans hf
      refine x_aload_n o dX11_claims_74 0 rfl rfl ?_
      obtain ⟨k_2, hf⟩ := gq_ex hf
      obtain ⟨j_3, ej_3, hf⟩ := ob_ex hf
      refine gRX11_16 o k_2 ej_3 dX11_claims_75 ?_
      refine x_iload_n o dX11_claims_78 1 rfl rfl ?_
      refine x_iload_n o dX11_claims_79 2 rfl rfl ?_
      obtain ⟨c_4, ec_4, hf⟩ := ob_ex hf
      refine vRX11_233 [.ref (ka k j_3), .int x1, .int x2] [] o (C_X7_claimed o.1.2.2.2.2.2.2.1 o.2 F ec_4) (by decide) rfl rfl (Nat.le_of_ble_eq_true rfl) dX11_claims_80 ?_
      cases hf
      exact hr _ _ dX11_claims_83
    · replace hf := (if_neg q_1).symm.trans hf
      refine x_aload_n o dX11_claims_40 0 rfl rfl ?_
      obtain ⟨k_6, hf⟩ := gq_ex hf
      obtain ⟨j_7, ej_7, hf⟩ := ob_ex hf
      refine gRX11_16 o k_6 ej_7 dX11_claims_41 ?_
      refine x_iconst (v := 2) o dX11_claims_44 (by decide) ?_
      refine x_iload_n o dX11_claims_45 3 rfl rfl ?_
      refine x_imul o dX11_claims_46 ?_
      obtain ⟨k_8, hf⟩ := gq_ex hf
      obtain ⟨c_9, ec_9, hf⟩ := ob_ex hf
      refine vRX11_199 [.int (2 * x3)] [] o (C_X9_at o.1.2.2.2.2.2.2.1 o.2 F ec_9) (by decide) k_8 rfl rfl (Nat.le_of_ble_eq_true rfl) dX11_claims_47 ?_
      refine x_aload_n o dX11_claims_50 0 rfl rfl ?_
      refine gRX11_16 o k_6 ej_7 dX11_claims_51 ?_
      refine x_iconst (v := 2) o dX11_claims_54 (by decide) ?_
      refine x_iload_n o dX11_claims_55 3 rfl rfl ?_
      refine x_imul o dX11_claims_56 ?_
      refine x_iconst (v := 1) o dX11_claims_57 (by decide) ?_
      refine x_iadd o dX11_claims_58 ?_
      obtain ⟨c_11, ec_11, hf⟩ := ob_ex hf
      refine vRX11_199 [.int ((2 * x3) + 1)] [.int c_9] o (C_X9_at o.1.2.2.2.2.2.2.1 o.2 F ec_11) (by decide) k_8 rfl rfl (Nat.le_of_ble_eq_true rfl) dX11_claims_59 ?_
      refine x_icmp_lt o 68 dX11_claims_62 (by decide) (fun q_13 => ?_) (fun q_13 => ?_)
      · replace hf := (if_pos q_13).symm.trans hf
        obtain ⟨x3_14, ex3_14, hf⟩ := bd_ex hf
        refine x_iinc o dX11_claims_68 (by decide) 3 rfl ex3_14.symm [(3, .int x3_14), (0, .ref (ka k a0)), (1, .int x1), (2, .int x2)] rfl ?_
        refine x_goto o 35 dX11_claims_71 (by decide) ?_
        refine x_sub [1, 2, 3, 0] [(0, .ref (ka k a0)), (1, .int x1), (2, .int x2), (3, .int x3_14)] rfl ?_
        exact ih hf hr
      · replace hf := (if_neg q_13).symm.trans hf
        refine x_bipush (v := (-2)) o dX11_claims_65 (by decide) ?_
        cases hf
        exact hr _ _ dX11_claims_67
set_option maxRecDepth 100000 in
set_option maxHeartbeats 4000000 in
theorem S_X11_claims_0 {k : Kst} {d : Kdy} (o : Ok k d cX11_claims RX11 4 6) (F : Nat) {h : Hp} {a0 : Nat} {x1 : Int32} {x2 : Int32} {r : Int32} {h1 : Hp} (hf : X11_claims F a0 x1 x2 h = some (r, h1)) (hr : RI k d cX11_claims r h1) : Wz k d h 0 [(0, .ref (ka k a0)), (1, .int x1), (2, .int x2)] [] := by
  unfold X11_claims at hf
  refine x_iload_n o dX11_claims_0 1 rfl rfl ?_
  refine x_iconst (v := 1) o dX11_claims_1 (by decide) ?_
  refine x_bipush (v := 10) o dX11_claims_2 (by decide) ?_
  obtain ⟨c_1, ec_1, hf⟩ := ob_ex hf
  refine vRX11_81 [.int x1, .int 1, .int 10] [] o (C_X11_within o.1.2.2.2.2.2.2.1 o.2 F ec_1) (by decide) rfl rfl (Nat.le_of_ble_eq_true rfl) dX11_claims_4 ?_
  refine x_if_eq o 31 dX11_claims_7 (by decide) (fun q_3 => ?_) (fun q_3 => ?_)
  · replace hf := (if_pos q_3).symm.trans hf
    refine x_iconst (v := (-1)) o dX11_claims_31 (by decide) ?_
    cases hf
    exact hr _ _ dX11_claims_32
  · replace hf := (if_neg q_3).symm.trans hf
    refine x_iload_n o dX11_claims_10 2 rfl rfl ?_
    refine x_iconst (v := 0) o dX11_claims_11 (by decide) ?_
    refine x_iconst (v := 2) o dX11_claims_12 (by decide) ?_
    obtain ⟨c_4, ec_4, hf⟩ := ob_ex hf
    refine vRX11_81 [.int x2, .int 0, .int 2] [] o (C_X11_within o.1.2.2.2.2.2.2.1 o.2 F ec_4) (by decide) rfl rfl (Nat.le_of_ble_eq_true rfl) dX11_claims_13 ?_
    refine x_if_eq o 31 dX11_claims_16 (by decide) (fun q_6 => ?_) (fun q_6 => ?_)
    · replace hf := (if_pos q_6).symm.trans hf
      refine x_iconst (v := (-1)) o dX11_claims_31 (by decide) ?_
      cases hf
      exact hr _ _ dX11_claims_32
    · replace hf := (if_neg q_6).symm.trans hf
      refine x_aload_n o dX11_claims_19 0 rfl rfl ?_
      refine x_iconst (v := 2) o dX11_claims_20 (by decide) ?_
      refine x_iload_n o dX11_claims_21 1 rfl rfl ?_
      refine x_imul o dX11_claims_22 ?_
      refine x_bipush (v := 20) o dX11_claims_23 (by decide) ?_
      obtain ⟨k_7, hf⟩ := gq_ex hf
      obtain ⟨c_8, h_9, ec_8, hf⟩ := bq_ex hf
      refine vRX11_92 [.int (2 * x1), .int 20] [] o (C_X11_take o.1.2.2.2.2.2.2.1 o.2 F ec_8) (by decide) k_7 rfl rfl (Nat.le_of_ble_eq_true rfl) dX11_claims_25 ?_
      refine x_if_ne o 33 dX11_claims_28 (by decide) (fun q_10 => ?_) (fun q_10 => ?_)
      · replace hf := (if_neg q_10).symm.trans hf
        refine x_iconst (v := 0) o dX11_claims_33 (by decide) ?_
        refine x_istore_n o dX11_claims_34 (by decide) rfl [(3, .int 0), (0, .ref (ka k a0)), (1, .int x1), (2, .int x2)] rfl ?_
        refine x_sub [1, 2, 3, 0] [(0, .ref (ka k a0)), (1, .int x1), (2, .int x2), (3, .int 0)] rfl ?_
        exact S_X11_claims_35 o F _ hf hr
      · replace hf := (if_pos q_10).symm.trans hf
        refine x_iconst (v := (-1)) o dX11_claims_31 (by decide) ?_
        cases hf
        exact hr _ _ dX11_claims_32
theorem C_X11_claims {k : Kst} (hj : Dj k) (hn : kn k = kdl.length) (F : Nat) {h : Hp} {a0 : Nat} {x1 : Int32} {x2 : Int32} {r : Int32} {h1 : Hp} (hf : X11_claims F a0 x1 x2 h = some (r, h1)) : MI k 6 yX11_claims cX11_claims 4 (some .int) [.ref (ka k a0), .int x1, .int x2] h r h1 := mI hj hn (by decide +kernel) (Nat.le_of_ble_eq_true rfl) (fun d o hr => S_X11_claims_0 o F hf hr)
set_option maxRecDepth 100000 in
set_option maxHeartbeats 4000000 in
theorem S_X11_rowed_0 {k : Kst} {d : Kdy} (o : Ok k d cX11_rowed RX11 2 6) (F : Nat) {h : Hp} {a0 : Nat} {x1 : Int32} {r : Int32} {h1 : Hp} (hf : X11_rowed F a0 x1 h = some (r, h1)) (hr : RI k d cX11_rowed r h1) : Wz k d h 0 [(0, .ref (ka k a0)), (1, .int x1)] [] := by
  unfold X11_rowed at hf
  refine x_aload_n o dX11_rowed_0 0 rfl rfl ?_
  refine x_iload_n o dX11_rowed_1 1 rfl rfl ?_
  refine x_bipush (v := 10) o dX11_rowed_2 (by decide) ?_
  obtain ⟨k_1, hf⟩ := gq_ex hf
  obtain ⟨c_2, h_3, ec_2, hf⟩ := bq_ex hf
  refine vRX11_92 [.int x1, .int 10] [] o (C_X11_take o.1.2.2.2.2.2.2.1 o.2 F ec_2) (by decide) k_1 rfl rfl (Nat.le_of_ble_eq_true rfl) dX11_rowed_4 ?_
  refine x_if_ne o 12 dX11_rowed_7 (by decide) (fun q_4 => ?_) (fun q_4 => ?_)
  · replace hf := (if_neg q_4).symm.trans hf
    refine x_aload_n o dX11_rowed_12 0 rfl rfl ?_
    obtain ⟨j_5, ej_5, hf⟩ := ob_ex hf
    refine gRX11_68 o k_1 ej_5 dX11_rowed_13 ?_
    refine x_aload_n o dX11_rowed_16 0 rfl rfl ?_
    obtain ⟨j_6, ej_6, hf⟩ := ob_ex hf
    refine gRX11_16 o k_1 ej_6 dX11_rowed_17 ?_
    refine x_iload_n o dX11_rowed_20 1 rfl rfl ?_
    obtain ⟨k_7, hf⟩ := gq_ex hf
    obtain ⟨c_8, h_9, ec_8, hf⟩ := bq_ex hf
    refine vRX11_236 [.ref (ka k j_6), .int x1] [] o (C_X7_leastMinutes o.1.2.2.2.2.2.2.1 o.2 F ec_8) (by decide) k_7 rfl rfl (Nat.le_of_ble_eq_true rfl) dX11_rowed_21 ?_
    cases hf
    exact hr _ _ dX11_rowed_24
  · replace hf := (if_pos q_4).symm.trans hf
    refine x_iconst (v := (-1)) o dX11_rowed_10 (by decide) ?_
    cases hf
    exact hr _ _ dX11_rowed_11
theorem C_X11_rowed {k : Kst} (hj : Dj k) (hn : kn k = kdl.length) (F : Nat) {h : Hp} {a0 : Nat} {x1 : Int32} {r : Int32} {h1 : Hp} (hf : X11_rowed F a0 x1 h = some (r, h1)) : MI k 6 yX11_rowed cX11_rowed 2 (some .int) [.ref (ka k a0), .int x1] h r h1 := mI hj hn (by decide +kernel) (Nat.le_of_ble_eq_true rfl) (fun d o hr => S_X11_rowed_0 o F hf hr)
set_option maxRecDepth 100000 in
set_option maxHeartbeats 4000000 in
theorem S_X11_wed_38 {k : Kst} {d : Kdy} (o : Ok k d cX11_wed RX11 4 6) (F : Nat) : ∀ (f : Nat) {h : Hp} {a0 : Nat} {x1 : Int32} {x2 : Int32} {x3 : Int32} {r : Int32} {h1 : Hp}, X11_wed_38 F f a0 x1 x2 x3 h = some (r, h1) → RI k d cX11_wed r h1 → Wz k d h 38 [(0, .ref (ka k a0)), (1, .int x1), (2, .int x2), (3, .int x3)] [] := by
  intro f
  induction f with
  | zero =>
    intro h a0 x1 x2 x3 r h1 hf hr
    exact nomatch (show (none : Option _) = some _ from hf)
  | succ f ih =>
    intro h a0 x1 x2 x3 r h1 hf hr
    rw [X11_wed_38] at hf
    refine x_iload_n o dX11_wed_38 3 rfl rfl ?_
    refine x_iconst (v := 2) o dX11_wed_39 (by decide) ?_
    refine x_iload_n o dX11_wed_40 1 rfl rfl ?_
    refine x_imul o dX11_wed_41 ?_
    refine x_icmp_ge o 68 dX11_wed_42 (by decide) (fun q_1 => ?_) (fun q_1 => ?_)
    · replace hf := (if_pos q_1).symm.trans hf
      refine x_aload_n o dX11_wed_68 0 rfl rfl ?_
      obtain ⟨k_2, hf⟩ := gq_ex hf
      obtain ⟨j_3, ej_3, hf⟩ := ob_ex hf
      refine gRX11_68 o k_2 ej_3 dX11_wed_69 ?_
      refine x_aload_n o dX11_wed_72 0 rfl rfl ?_
      obtain ⟨j_4, ej_4, hf⟩ := ob_ex hf
      refine gRX11_16 o k_2 ej_4 dX11_wed_73 ?_
      refine x_iload_n o dX11_wed_76 1 rfl rfl ?_
      refine x_iload_n o dX11_wed_77 2 rfl rfl ?_
      obtain ⟨k_5, hf⟩ := gq_ex hf
      obtain ⟨c_6, h_7, ec_6, hf⟩ := bq_ex hf
      refine vRX11_243 [.ref (ka k j_4), .int x1, .int x2] [] o (C_X7_weds o.1.2.2.2.2.2.2.1 o.2 F ec_6) (by decide) k_5 rfl rfl (Nat.le_of_ble_eq_true rfl) dX11_wed_78 ?_
      cases hf
      exact hr _ _ dX11_wed_81
    · replace hf := (if_neg q_1).symm.trans hf
      refine x_aload_n o dX11_wed_45 0 rfl rfl ?_
      obtain ⟨k_8, hf⟩ := gq_ex hf
      obtain ⟨j_9, ej_9, hf⟩ := ob_ex hf
      refine gRX11_16 o k_8 ej_9 dX11_wed_46 ?_
      refine x_iload_n o dX11_wed_49 3 rfl rfl ?_
      refine x_iload_n o dX11_wed_50 1 rfl rfl ?_
      refine x_imul o dX11_wed_51 ?_
      refine x_iload_n o dX11_wed_52 1 rfl rfl ?_
      obtain ⟨k_10, hf⟩ := gq_ex hf
      obtain ⟨c_11, ec_11, hf⟩ := ob_ex hf
      refine vRX11_240 [.int (x3 * x1), .int x1] [] o (C_X9_tellsEachOnce o.1.2.2.2.2.2.2.1 o.2 F ec_11) (by decide) k_10 rfl rfl (Nat.le_of_ble_eq_true rfl) dX11_wed_53 ?_
      refine x_if_ne o 62 dX11_wed_56 (by decide) (fun q_13 => ?_) (fun q_13 => ?_)
      · replace hf := (if_neg q_13).symm.trans hf
        obtain ⟨x3_14, ex3_14, hf⟩ := bd_ex hf
        refine x_iinc o dX11_wed_62 (by decide) 3 rfl ex3_14.symm [(3, .int x3_14), (0, .ref (ka k a0)), (1, .int x1), (2, .int x2)] rfl ?_
        refine x_goto o 38 dX11_wed_65 (by decide) ?_
        refine x_sub [1, 2, 3, 0] [(0, .ref (ka k a0)), (1, .int x1), (2, .int x2), (3, .int x3_14)] rfl ?_
        exact ih hf hr
      · replace hf := (if_pos q_13).symm.trans hf
        refine x_bipush (v := (-2)) o dX11_wed_59 (by decide) ?_
        cases hf
        exact hr _ _ dX11_wed_61
set_option maxRecDepth 100000 in
set_option maxHeartbeats 4000000 in
theorem S_X11_wed_0 {k : Kst} {d : Kdy} (o : Ok k d cX11_wed RX11 4 6) (F : Nat) {h : Hp} {a0 : Nat} {x1 : Int32} {x2 : Int32} {r : Int32} {h1 : Hp} (hf : X11_wed F a0 x1 x2 h = some (r, h1)) (hr : RI k d cX11_wed r h1) : Wz k d h 0 [(0, .ref (ka k a0)), (1, .int x1), (2, .int x2)] [] := by
  unfold X11_wed at hf
  refine x_iload_n o dX11_wed_0 1 rfl rfl ?_
  refine x_iconst (v := 1) o dX11_wed_1 (by decide) ?_
  refine x_iconst (v := 5) o dX11_wed_2 (by decide) ?_
  obtain ⟨c_1, ec_1, hf⟩ := ob_ex hf
  refine vRX11_81 [.int x1, .int 1, .int 5] [] o (C_X11_within o.1.2.2.2.2.2.2.1 o.2 F ec_1) (by decide) rfl rfl (Nat.le_of_ble_eq_true rfl) dX11_wed_3 ?_
  refine x_if_eq o 34 dX11_wed_6 (by decide) (fun q_3 => ?_) (fun q_3 => ?_)
  · replace hf := (if_pos q_3).symm.trans hf
    refine x_iconst (v := (-1)) o dX11_wed_34 (by decide) ?_
    cases hf
    exact hr _ _ dX11_wed_35
  · replace hf := (if_neg q_3).symm.trans hf
    refine x_iload_n o dX11_wed_9 2 rfl rfl ?_
    refine x_iconst (v := 0) o dX11_wed_10 (by decide) ?_
    refine x_iload_n o dX11_wed_11 1 rfl rfl ?_
    refine x_iconst (v := 1) o dX11_wed_12 (by decide) ?_
    refine x_isub o dX11_wed_13 ?_
    obtain ⟨c_4, ec_4, hf⟩ := ob_ex hf
    refine vRX11_81 [.int x2, .int 0, .int (x1 - 1)] [] o (C_X11_within o.1.2.2.2.2.2.2.1 o.2 F ec_4) (by decide) rfl rfl (Nat.le_of_ble_eq_true rfl) dX11_wed_14 ?_
    refine x_if_eq o 34 dX11_wed_17 (by decide) (fun q_6 => ?_) (fun q_6 => ?_)
    · replace hf := (if_pos q_6).symm.trans hf
      refine x_iconst (v := (-1)) o dX11_wed_34 (by decide) ?_
      cases hf
      exact hr _ _ dX11_wed_35
    · replace hf := (if_neg q_6).symm.trans hf
      refine x_aload_n o dX11_wed_20 0 rfl rfl ?_
      refine x_iconst (v := 2) o dX11_wed_21 (by decide) ?_
      refine x_iload_n o dX11_wed_22 1 rfl rfl ?_
      refine x_imul o dX11_wed_23 ?_
      refine x_iload_n o dX11_wed_24 1 rfl rfl ?_
      refine x_imul o dX11_wed_25 ?_
      refine x_bipush (v := 50) o dX11_wed_26 (by decide) ?_
      obtain ⟨k_7, hf⟩ := gq_ex hf
      obtain ⟨c_8, h_9, ec_8, hf⟩ := bq_ex hf
      refine vRX11_92 [.int ((2 * x1) * x1), .int 50] [] o (C_X11_take o.1.2.2.2.2.2.2.1 o.2 F ec_8) (by decide) k_7 rfl rfl (Nat.le_of_ble_eq_true rfl) dX11_wed_28 ?_
      refine x_if_ne o 36 dX11_wed_31 (by decide) (fun q_10 => ?_) (fun q_10 => ?_)
      · replace hf := (if_neg q_10).symm.trans hf
        refine x_iconst (v := 0) o dX11_wed_36 (by decide) ?_
        refine x_istore_n o dX11_wed_37 (by decide) rfl [(3, .int 0), (0, .ref (ka k a0)), (1, .int x1), (2, .int x2)] rfl ?_
        refine x_sub [1, 2, 3, 0] [(0, .ref (ka k a0)), (1, .int x1), (2, .int x2), (3, .int 0)] rfl ?_
        exact S_X11_wed_38 o F _ hf hr
      · replace hf := (if_pos q_10).symm.trans hf
        refine x_iconst (v := (-1)) o dX11_wed_34 (by decide) ?_
        cases hf
        exact hr _ _ dX11_wed_35
theorem C_X11_wed {k : Kst} (hj : Dj k) (hn : kn k = kdl.length) (F : Nat) {h : Hp} {a0 : Nat} {x1 : Int32} {x2 : Int32} {r : Int32} {h1 : Hp} (hf : X11_wed F a0 x1 x2 h = some (r, h1)) : MI k 6 yX11_wed cX11_wed 4 (some .int) [.ref (ka k a0), .int x1, .int x2] h r h1 := mI hj hn (by decide +kernel) (Nat.le_of_ble_eq_true rfl) (fun d o hr => S_X11_wed_0 o F hf hr)
set_option maxRecDepth 100000 in
set_option maxHeartbeats 4000000 in
theorem S_X11_changes_0 {k : Kst} {d : Kdy} (o : Ok k d cX11_changes RX11 2 6) (F : Nat) {h : Hp} {a0 : Nat} {x1 : Int32} {r : Int32} {h1 : Hp} (hf : X11_changes F a0 x1 h = some (r, h1)) (hr : RI k d cX11_changes r h1) : Wz k d h 0 [(0, .ref (ka k a0)), (1, .int x1)] [] := by
  unfold X11_changes at hf
  refine x_iload_n o dX11_changes_0 1 rfl rfl ?_
  refine x_iconst (v := 2) o dX11_changes_1 (by decide) ?_
  refine x_bipush (v := 6) o dX11_changes_2 (by decide) ?_
  obtain ⟨c_1, ec_1, hf⟩ := ob_ex hf
  refine vRX11_81 [.int x1, .int 2, .int 6] [] o (C_X11_within o.1.2.2.2.2.2.2.1 o.2 F ec_1) (by decide) rfl rfl (Nat.le_of_ble_eq_true rfl) dX11_changes_4 ?_
  refine x_if_eq o 20 dX11_changes_7 (by decide) (fun q_3 => ?_) (fun q_3 => ?_)
  · replace hf := (if_pos q_3).symm.trans hf
    refine x_iconst (v := (-1)) o dX11_changes_20 (by decide) ?_
    cases hf
    exact hr _ _ dX11_changes_21
  · replace hf := (if_neg q_3).symm.trans hf
    refine x_aload_n o dX11_changes_10 0 rfl rfl ?_
    refine x_iload_n o dX11_changes_11 1 rfl rfl ?_
    refine x_bipush (v := 6) o dX11_changes_12 (by decide) ?_
    obtain ⟨k_4, hf⟩ := gq_ex hf
    obtain ⟨c_5, h_6, ec_5, hf⟩ := bq_ex hf
    refine vRX11_92 [.int x1, .int 6] [] o (C_X11_take o.1.2.2.2.2.2.2.1 o.2 F ec_5) (by decide) k_4 rfl rfl (Nat.le_of_ble_eq_true rfl) dX11_changes_14 ?_
    refine x_if_ne o 22 dX11_changes_17 (by decide) (fun q_7 => ?_) (fun q_7 => ?_)
    · replace hf := (if_neg q_7).symm.trans hf
      refine x_aload_n o dX11_changes_22 0 rfl rfl ?_
      obtain ⟨j_8, ej_8, hf⟩ := ob_ex hf
      refine gRX11_16 o k_4 ej_8 dX11_changes_23 ?_
      refine x_iconst (v := 0) o dX11_changes_26 (by decide) ?_
      refine x_iload_n o dX11_changes_27 1 rfl rfl ?_
      obtain ⟨k_9, hf⟩ := gq_ex hf
      obtain ⟨c_10, ec_10, hf⟩ := ob_ex hf
      refine vRX11_240 [.int 0, .int x1] [] o (C_X9_tellsEachOnce o.1.2.2.2.2.2.2.1 o.2 F ec_10) (by decide) k_9 rfl rfl (Nat.le_of_ble_eq_true rfl) dX11_changes_28 ?_
      refine x_if_ne o 37 dX11_changes_31 (by decide) (fun q_12 => ?_) (fun q_12 => ?_)
      · replace hf := (if_neg q_12).symm.trans hf
        refine x_aload_n o dX11_changes_37 0 rfl rfl ?_
        obtain ⟨j_13, ej_13, hf⟩ := ob_ex hf
        refine gRX11_61 o k_4 ej_13 dX11_changes_38 ?_
        refine x_aload_n o dX11_changes_41 0 rfl rfl ?_
        refine gRX11_16 o k_4 ej_8 dX11_changes_42 ?_
        refine x_iload_n o dX11_changes_45 1 rfl rfl ?_
        obtain ⟨k_14, hf⟩ := gq_ex hf
        obtain ⟨c_15, h_16, ec_15, hf⟩ := bq_ex hf
        refine vRX11_246 [.ref (ka k j_8), .int x1] [] o (C_X0_fewestChanges o.1.2.2.2.2.2.2.1 o.2 F ec_15) (by decide) k_14 rfl rfl (Nat.le_of_ble_eq_true rfl) dX11_changes_46 ?_
        cases hf
        exact hr _ _ dX11_changes_49
      · replace hf := (if_pos q_12).symm.trans hf
        refine x_bipush (v := (-2)) o dX11_changes_34 (by decide) ?_
        cases hf
        exact hr _ _ dX11_changes_36
    · replace hf := (if_pos q_7).symm.trans hf
      refine x_iconst (v := (-1)) o dX11_changes_20 (by decide) ?_
      cases hf
      exact hr _ _ dX11_changes_21
theorem C_X11_changes {k : Kst} (hj : Dj k) (hn : kn k = kdl.length) (F : Nat) {h : Hp} {a0 : Nat} {x1 : Int32} {r : Int32} {h1 : Hp} (hf : X11_changes F a0 x1 h = some (r, h1)) : MI k 6 yX11_changes cX11_changes 2 (some .int) [.ref (ka k a0), .int x1] h r h1 := mI hj hn (by decide +kernel) (Nat.le_of_ble_eq_true rfl) (fun d o hr => S_X11_changes_0 o F hf hr)
set_option maxRecDepth 100000 in
set_option maxHeartbeats 4000000 in
theorem S_X11_dialect_0 {k : Kst} {d : Kdy} (o : Ok k d cX11_dialect RX11 4 5) (F : Nat) {h : Hp} {a0 : Nat} {x1 : Int32} {x2 : Int32} {x3 : Int32} {r : Int32} (hf : X11_dialect F a0 x1 x2 x3 h = some r) (hr : RI k d cX11_dialect r h) : Wz k d h 0 [(0, .ref (ka k a0)), (1, .int x1), (2, .int x2), (3, .int x3)] [] := by
  unfold X11_dialect at hf
  refine x_iload_n o dX11_dialect_0 1 rfl rfl ?_
  refine x_iconst (v := 1) o dX11_dialect_1 (by decide) ?_
  refine x_bipush (v := 8) o dX11_dialect_2 (by decide) ?_
  obtain ⟨c_1, ec_1, hf⟩ := ob_ex hf
  refine vRX11_81 [.int x1, .int 1, .int 8] [] o (C_X11_within o.1.2.2.2.2.2.2.1 o.2 F ec_1) (by decide) rfl rfl (Nat.le_of_ble_eq_true rfl) dX11_dialect_4 ?_
  refine x_if_eq o 29 dX11_dialect_7 (by decide) (fun q_3 => ?_) (fun q_3 => ?_)
  · replace hf := (if_pos q_3).symm.trans hf
    refine x_iconst (v := (-1)) o dX11_dialect_29 (by decide) ?_
    cases hf
    exact hr _ _ dX11_dialect_30
  · replace hf := (if_neg q_3).symm.trans hf
    refine x_iload_n o dX11_dialect_10 2 rfl rfl ?_
    refine x_iconst (v := 0) o dX11_dialect_11 (by decide) ?_
    refine x_bipush (v := 8) o dX11_dialect_12 (by decide) ?_
    obtain ⟨c_4, ec_4, hf⟩ := ob_ex hf
    refine vRX11_81 [.int x2, .int 0, .int 8] [] o (C_X11_within o.1.2.2.2.2.2.2.1 o.2 F ec_4) (by decide) rfl rfl (Nat.le_of_ble_eq_true rfl) dX11_dialect_14 ?_
    refine x_if_eq o 29 dX11_dialect_17 (by decide) (fun q_6 => ?_) (fun q_6 => ?_)
    · replace hf := (if_pos q_6).symm.trans hf
      refine x_iconst (v := (-1)) o dX11_dialect_29 (by decide) ?_
      cases hf
      exact hr _ _ dX11_dialect_30
    · replace hf := (if_neg q_6).symm.trans hf
      refine x_iload_n o dX11_dialect_20 3 rfl rfl ?_
      refine x_iconst (v := 0) o dX11_dialect_21 (by decide) ?_
      refine x_iconst (v := 1) o dX11_dialect_22 (by decide) ?_
      obtain ⟨c_7, ec_7, hf⟩ := ob_ex hf
      refine vRX11_81 [.int x3, .int 0, .int 1] [] o (C_X11_within o.1.2.2.2.2.2.2.1 o.2 F ec_7) (by decide) rfl rfl (Nat.le_of_ble_eq_true rfl) dX11_dialect_23 ?_
      refine x_if_ne o 31 dX11_dialect_26 (by decide) (fun q_9 => ?_) (fun q_9 => ?_)
      · replace hf := (if_neg q_9).symm.trans hf
        refine x_iload_n o dX11_dialect_31 3 rfl rfl ?_
        refine x_if_ne o 43 dX11_dialect_32 (by decide) (fun q_10 => ?_) (fun q_10 => ?_)
        · replace hf := (if_neg q_10).symm.trans hf
          refine x_iload_n o dX11_dialect_43 1 rfl rfl ?_
          refine x_iload_n o dX11_dialect_44 2 rfl rfl ?_
          obtain ⟨c_11, ec_11, hf⟩ := ob_ex hf
          refine vRX11_252 [.int x1, .int x2] [] o (C_X7_leastMixture o.1.2.2.2.2.2.2.1 o.2 F ec_11) (by decide) rfl rfl (Nat.le_of_ble_eq_true rfl) dX11_dialect_45 ?_
          cases hf
          exact hr _ _ dX11_dialect_48
        · replace hf := (if_pos q_10).symm.trans hf
          refine x_iload_n o dX11_dialect_35 1 rfl rfl ?_
          refine x_iload_n o dX11_dialect_36 2 rfl rfl ?_
          obtain ⟨c_13, ec_13, hf⟩ := ob_ex hf
          refine vRX11_249 [.int x1, .int x2] [] o (C_X7_mixtures o.1.2.2.2.2.2.2.1 o.2 F ec_13) (by decide) rfl rfl (Nat.le_of_ble_eq_true rfl) dX11_dialect_37 ?_
          refine x_goto o 48 dX11_dialect_40 (by decide) ?_
          cases hf
          exact hr _ _ dX11_dialect_48
      · replace hf := (if_pos q_9).symm.trans hf
        refine x_iconst (v := (-1)) o dX11_dialect_29 (by decide) ?_
        cases hf
        exact hr _ _ dX11_dialect_30
theorem C_X11_dialect {k : Kst} (hj : Dj k) (hn : kn k = kdl.length) (F : Nat) {h : Hp} {a0 : Nat} {x1 : Int32} {x2 : Int32} {x3 : Int32} {r : Int32} (hf : X11_dialect F a0 x1 x2 x3 h = some r) : MI k 5 yX11_dialect cX11_dialect 4 (some .int) [.ref (ka k a0), .int x1, .int x2, .int x3] h r h := mI hj hn (by decide +kernel) (Nat.le_of_ble_eq_true rfl) (fun d o hr => S_X11_dialect_0 o F hf hr)
set_option maxRecDepth 100000 in
set_option maxHeartbeats 4000000 in
theorem S_X11_owed_0 {k : Kst} {d : Kdy} (o : Ok k d cX11_owed RX11 3 4) (F : Nat) {h : Hp} {a0 : Nat} {x1 : Int32} {x2 : Int32} {r : Int32} (hf : X11_owed F a0 x1 x2 h = some r) (hr : RI k d cX11_owed r h) : Wz k d h 0 [(0, .ref (ka k a0)), (1, .int x1), (2, .int x2)] [] := by
  unfold X11_owed at hf
  refine x_iload_n o dX11_owed_0 1 rfl rfl ?_
  refine x_iconst (v := 1) o dX11_owed_1 (by decide) ?_
  refine x_ldc (v := 99999) o dX11_owed_2 wRX11_80 ?_
  obtain ⟨c_1, ec_1, hf⟩ := ob_ex hf
  refine vRX11_81 [.int x1, .int 1, .int 99999] [] o (C_X11_within o.1.2.2.2.2.2.2.1 o.2 F ec_1) (by decide) rfl rfl (Nat.le_of_ble_eq_true rfl) dX11_owed_4 ?_
  refine x_if_eq o 20 dX11_owed_7 (by decide) (fun q_3 => ?_) (fun q_3 => ?_)
  · replace hf := (if_pos q_3).symm.trans hf
    refine x_iconst (v := (-1)) o dX11_owed_20 (by decide) ?_
    cases hf
    exact hr _ _ dX11_owed_21
  · replace hf := (if_neg q_3).symm.trans hf
    refine x_iload_n o dX11_owed_10 2 rfl rfl ?_
    refine x_iconst (v := 0) o dX11_owed_11 (by decide) ?_
    refine x_bipush (v := 50) o dX11_owed_12 (by decide) ?_
    obtain ⟨c_4, ec_4, hf⟩ := ob_ex hf
    refine vRX11_81 [.int x2, .int 0, .int 50] [] o (C_X11_within o.1.2.2.2.2.2.2.1 o.2 F ec_4) (by decide) rfl rfl (Nat.le_of_ble_eq_true rfl) dX11_owed_14 ?_
    refine x_if_ne o 22 dX11_owed_17 (by decide) (fun q_6 => ?_) (fun q_6 => ?_)
    · replace hf := (if_neg q_6).symm.trans hf
      refine x_aload_n o dX11_owed_22 0 rfl rfl ?_
      obtain ⟨k_7, hf⟩ := gq_ex hf
      obtain ⟨j_8, ej_8, hf⟩ := ob_ex hf
      refine gRX11_44 o k_7 ej_8 dX11_owed_23 ?_
      obtain ⟨k_9, hf⟩ := gq_ex hf
      obtain ⟨j_10, ej_10, hf⟩ := ob_ex hf
      refine gRX11_138 o k_9 ej_10 dX11_owed_26 ?_
      obtain ⟨k_11, hf⟩ := gq_ex hf
      refine gRX11_255 o k_11 dX11_owed_29 ?_
      refine x_iload_n o dX11_owed_32 1 rfl rfl ?_
      refine x_iload_n o dX11_owed_33 2 rfl rfl ?_
      obtain ⟨c_12, ec_12, hf⟩ := ob_ex hf
      refine vRX11_258 [.int (h.1 j_10 4), .int x1, .int x2] [] o (C_X7_yearsTillPaid o.1.2.2.2.2.2.2.1 o.2 F ec_12) (by decide) rfl rfl (Nat.le_of_ble_eq_true rfl) dX11_owed_34 ?_
      cases hf
      exact hr _ _ dX11_owed_37
    · replace hf := (if_pos q_6).symm.trans hf
      refine x_iconst (v := (-1)) o dX11_owed_20 (by decide) ?_
      cases hf
      exact hr _ _ dX11_owed_21
theorem C_X11_owed {k : Kst} (hj : Dj k) (hn : kn k = kdl.length) (F : Nat) {h : Hp} {a0 : Nat} {x1 : Int32} {x2 : Int32} {r : Int32} (hf : X11_owed F a0 x1 x2 h = some r) : MI k 4 yX11_owed cX11_owed 3 (some .int) [.ref (ka k a0), .int x1, .int x2] h r h := mI hj hn (by decide +kernel) (Nat.le_of_ble_eq_true rfl) (fun d o hr => S_X11_owed_0 o F hf hr)
set_option maxRecDepth 100000 in
set_option maxHeartbeats 4000000 in
theorem S_X11_seed_0 {k : Kst} {d : Kdy} (o : Ok k d cX11_seed RX11 2 4) (F : Nat) {h : Hp} {a0 : Nat} {x1 : Int32} {r : Int32} {h1 : Hp} (hf : X11_seed F a0 x1 h = some (r, h1)) (hr : RZ k d cX11_seed r h1) : Wz k d h 0 [(0, .ref (ka k a0)), (1, .int x1)] [] := by
  unfold X11_seed at hf
  refine x_iload_n o dX11_seed_0 1 rfl rfl ?_
  refine x_iconst (v := 0) o dX11_seed_1 (by decide) ?_
  refine x_ldcw (v := 65535) o dX11_seed_2 wRX11_262 ?_
  obtain ⟨c_1, ec_1, hf⟩ := ob_ex hf
  refine vRX11_81 [.int x1, .int 0, .int 65535] [] o (C_X11_within o.1.2.2.2.2.2.2.1 o.2 F ec_1) (by decide) rfl rfl (Nat.le_of_ble_eq_true rfl) dX11_seed_5 ?_
  refine x_if_ne o 13 dX11_seed_8 (by decide) (fun q_3 => ?_) (fun q_3 => ?_)
  · replace hf := (if_neg q_3).symm.trans hf
    refine x_aload_n o dX11_seed_13 0 rfl rfl ?_
    obtain ⟨k_4, hf⟩ := gq_ex hf
    obtain ⟨j_5, ej_5, hf⟩ := ob_ex hf
    refine gRX11_44 o k_4 ej_5 dX11_seed_14 ?_
    obtain ⟨k_6, hf⟩ := gq_ex hf
    obtain ⟨j_7, ej_7, hf⟩ := ob_ex hf
    refine gRX11_138 o k_6 ej_7 dX11_seed_17 ?_
    refine x_iload_n o dX11_seed_20 1 rfl rfl ?_
    obtain ⟨k_8, hf⟩ := gq_ex hf
    obtain ⟨h_9, eh_9, hf⟩ := bd_ex hf
    refine pRX11_263 o k_8 eh_9 dX11_seed_21 ?_
    refine x_iconst (v := 1) o dX11_seed_24 (by decide) ?_
    cases hf
    exact hr (Or.inr rfl) _ _ dX11_seed_25
  · replace hf := (if_pos q_3).symm.trans hf
    refine x_iconst (v := 0) o dX11_seed_11 (by decide) ?_
    cases hf
    exact hr (Or.inl rfl) _ _ dX11_seed_12
theorem C_X11_seed {k : Kst} (hj : Dj k) (hn : kn k = kdl.length) (F : Nat) {h : Hp} {a0 : Nat} {x1 : Int32} {r : Int32} {h1 : Hp} (hf : X11_seed F a0 x1 h = some (r, h1)) : MI k 4 yX11_seed cX11_seed 2 (some .boolean) [.ref (ka k a0), .int x1] h r h1 := mZ hj hn (by decide +kernel) (Nat.le_of_ble_eq_true rfl) (fun d o hr => S_X11_seed_0 o F hf hr)
set_option maxRecDepth 100000 in
set_option maxHeartbeats 4000000 in
theorem S_X11_keep_0 {k : Kst} {d : Kdy} (o : Ok k d cX11_keep RX11 1 4) (F : Nat) {h : Hp} {a0 : Nat} {r : Int32} {h1 : Hp} (hf : X11_keep F a0 h = some (r, h1)) (hr : RI k d cX11_keep r h1) : Wz k d h 0 [(0, .ref (ka k a0))] [] := by
  unfold X11_keep at hf
  refine x_aload_n o dX11_keep_0 0 rfl rfl ?_
  obtain ⟨k_1, hf⟩ := gq_ex hf
  obtain ⟨j_2, ej_2, hf⟩ := ob_ex hf
  refine gRX11_51 o k_1 ej_2 dX11_keep_1 ?_
  refine x_aload_n o dX11_keep_4 0 rfl rfl ?_
  obtain ⟨j_3, ej_3, hf⟩ := ob_ex hf
  refine gRX11_44 o k_1 ej_3 dX11_keep_5 ?_
  obtain ⟨k_4, hf⟩ := gq_ex hf
  obtain ⟨j_5, ej_5, hf⟩ := ob_ex hf
  refine gRX11_138 o k_4 ej_5 dX11_keep_8 ?_
  obtain ⟨k_6, hf⟩ := gq_ex hf
  obtain ⟨h_8, eh_8, hf⟩ := ob_ex hf
  refine vRX11_152 [.ref (ka k j_5)] [] o (C_X8_copy o.1.2.2.2.2.2.2.1 o.2 F eh_8) (by decide) k_6 rfl rfl (Nat.le_of_ble_eq_true rfl) dX11_keep_11 ?_
  refine x_aload_n o dX11_keep_14 0 rfl rfl ?_
  refine x_iconst (v := 1) o dX11_keep_15 (by decide) ?_
  obtain ⟨h_9, eh_9, hf⟩ := bd_ex hf
  refine pRX11_76 o k_1 eh_9 rfl rfl dX11_keep_16 ?_
  refine x_aload_n o dX11_keep_19 0 rfl rfl ?_
  obtain ⟨j_10, ej_10, hf⟩ := ob_ex hf
  refine gRX11_44 o k_1 ej_10 dX11_keep_20 ?_
  obtain ⟨k_11, hf⟩ := gq_ex hf
  obtain ⟨j_12, ej_12, hf⟩ := ob_ex hf
  refine gRX11_138 o k_11 ej_12 dX11_keep_23 ?_
  obtain ⟨k_13, hf⟩ := gq_ex hf
  refine gRX11_266 o k_13 dX11_keep_26 ?_
  cases hf
  exact hr _ _ dX11_keep_29
theorem C_X11_keep {k : Kst} (hj : Dj k) (hn : kn k = kdl.length) (F : Nat) {h : Hp} {a0 : Nat} {r : Int32} {h1 : Hp} (hf : X11_keep F a0 h = some (r, h1)) : MI k 4 yX11_keep cX11_keep 1 (some .int) [.ref (ka k a0)] h r h1 := mI hj hn (by decide +kernel) (Nat.le_of_ble_eq_true rfl) (fun d o hr => S_X11_keep_0 o F hf hr)
set_option maxRecDepth 100000 in
set_option maxHeartbeats 4000000 in
theorem S_X11_undo_0 {k : Kst} {d : Kdy} (o : Ok k d cX11_undo RX11 1 4) (F : Nat) {h : Hp} {a0 : Nat} {r : Int32} {h1 : Hp} (hf : X11_undo F a0 h = some (r, h1)) (hr : RZ k d cX11_undo r h1) : Wz k d h 0 [(0, .ref (ka k a0))] [] := by
  unfold X11_undo at hf
  refine x_aload_n o dX11_undo_0 0 rfl rfl ?_
  obtain ⟨k_1, hf⟩ := gq_ex hf
  refine gRX11_76 o k_1 dX11_undo_1 ?_
  refine x_if_ne o 9 dX11_undo_4 (by decide) (fun q_2 => ?_) (fun q_2 => ?_)
  · replace hf := (if_neg q_2).symm.trans hf
    refine x_aload_n o dX11_undo_9 0 rfl rfl ?_
    obtain ⟨j_3, ej_3, hf⟩ := ob_ex hf
    refine gRX11_44 o k_1 ej_3 dX11_undo_10 ?_
    obtain ⟨k_4, hf⟩ := gq_ex hf
    obtain ⟨j_5, ej_5, hf⟩ := ob_ex hf
    refine gRX11_138 o k_4 ej_5 dX11_undo_13 ?_
    refine x_aload_n o dX11_undo_16 0 rfl rfl ?_
    obtain ⟨j_6, ej_6, hf⟩ := ob_ex hf
    refine gRX11_51 o k_1 ej_6 dX11_undo_17 ?_
    obtain ⟨k_7, hf⟩ := gq_ex hf
    obtain ⟨h_9, eh_9, hf⟩ := ob_ex hf
    refine vRX11_152 [.ref (ka k j_6)] [] o (C_X8_copy o.1.2.2.2.2.2.2.1 o.2 F eh_9) (by decide) k_7 rfl rfl (Nat.le_of_ble_eq_true rfl) dX11_undo_20 ?_
    refine x_iconst (v := 1) o dX11_undo_23 (by decide) ?_
    cases hf
    exact hr (Or.inr rfl) _ _ dX11_undo_24
  · replace hf := (if_pos q_2).symm.trans hf
    refine x_iconst (v := 0) o dX11_undo_7 (by decide) ?_
    cases hf
    exact hr (Or.inl rfl) _ _ dX11_undo_8
theorem C_X11_undo {k : Kst} (hj : Dj k) (hn : kn k = kdl.length) (F : Nat) {h : Hp} {a0 : Nat} {r : Int32} {h1 : Hp} (hf : X11_undo F a0 h = some (r, h1)) : MI k 4 yX11_undo cX11_undo 1 (some .boolean) [.ref (ka k a0)] h r h1 := mZ hj hn (by decide +kernel) (Nat.le_of_ble_eq_true rfl) (fun d o hr => S_X11_undo_0 o F hf hr)
set_option maxRecDepth 100000 in
set_option maxHeartbeats 4000000 in
theorem S_X11_checkedIs_0 {k : Kst} {d : Kdy} (o : Ok k d cX11_checkedIs RX11 2 5) (F : Nat) {h : Hp} {a0 : Nat} {x1 : Int32} {r : Int32} (hf : X11_checkedIs F a0 x1 h = some r) (hr : RI k d cX11_checkedIs r h) : Wz k d h 0 [(0, .ref (ka k a0)), (1, .int x1)] [] := by
  unfold X11_checkedIs at hf
  refine x_iload_n o dX11_checkedIs_0 1 rfl rfl ?_
  obtain ⟨t_1, et_1, hf⟩ := bd_ex hf
  refine x_top et_1 ?_
  by_cases q_2 : t_1 = 0
  · replace hf := (if_pos q_2).symm.trans hf
    refine x_tabi (v := 0) o 28 q_2 (by decide) (by decide) rfl (by decide) dX11_checkedIs_1 ?_
    refine x_aload_n o dX11_checkedIs_28 0 rfl rfl ?_
    obtain ⟨k_3, hf⟩ := gq_ex hf
    obtain ⟨j_4, ej_4, hf⟩ := ob_ex hf
    refine gRX11_44 o k_3 ej_4 dX11_checkedIs_29 ?_
    refine x_iconst (v := 0) o dX11_checkedIs_32 (by decide) ?_
    obtain ⟨k_5, hf⟩ := gq_ex hf
    obtain ⟨c_6, ec_6, hf⟩ := ob_ex hf
    refine vRX11_160 [.int 0] [] o (C_X10_standing o.1.2.2.2.2.2.2.1 o.2 F ec_6) (by decide) k_5 rfl rfl (Nat.le_of_ble_eq_true rfl) dX11_checkedIs_33 ?_
    cases hf
    exact hr _ _ dX11_checkedIs_36
  replace hf := (if_neg q_2).symm.trans hf
  by_cases q_8 : t_1 = 1
  · replace hf := (if_pos q_8).symm.trans hf
    refine x_tabi (v := 1) o 37 q_8 (by decide) (by decide) rfl (by decide) dX11_checkedIs_1 ?_
    refine x_aload_n o dX11_checkedIs_37 0 rfl rfl ?_
    obtain ⟨k_9, hf⟩ := gq_ex hf
    obtain ⟨j_10, ej_10, hf⟩ := ob_ex hf
    refine gRX11_44 o k_9 ej_10 dX11_checkedIs_38 ?_
    refine x_iconst (v := 1) o dX11_checkedIs_41 (by decide) ?_
    obtain ⟨k_11, hf⟩ := gq_ex hf
    obtain ⟨c_12, ec_12, hf⟩ := ob_ex hf
    refine vRX11_160 [.int 1] [] o (C_X10_standing o.1.2.2.2.2.2.2.1 o.2 F ec_12) (by decide) k_11 rfl rfl (Nat.le_of_ble_eq_true rfl) dX11_checkedIs_42 ?_
    cases hf
    exact hr _ _ dX11_checkedIs_45
  replace hf := (if_neg q_8).symm.trans hf
  by_cases q_14 : t_1 = 2
  · replace hf := (if_pos q_14).symm.trans hf
    refine x_tabi (v := 2) o 46 q_14 (by decide) (by decide) rfl (by decide) dX11_checkedIs_1 ?_
    refine x_aload_n o dX11_checkedIs_46 0 rfl rfl ?_
    obtain ⟨k_15, hf⟩ := gq_ex hf
    obtain ⟨j_16, ej_16, hf⟩ := ob_ex hf
    refine gRX11_44 o k_15 ej_16 dX11_checkedIs_47 ?_
    obtain ⟨k_17, hf⟩ := gq_ex hf
    obtain ⟨j_18, ej_18, hf⟩ := ob_ex hf
    refine gRX11_138 o k_17 ej_18 dX11_checkedIs_50 ?_
    obtain ⟨k_19, hf⟩ := gq_ex hf
    refine gRX11_275 o k_19 dX11_checkedIs_53 ?_
    cases hf
    exact hr _ _ dX11_checkedIs_56
  replace hf := (if_neg q_14).symm.trans hf
  refine x_tabo o 57 (by have z0 := lv_neT (a := 0) q_2 rfl; have z1 := lv_neT (a := 1) q_8 rfl; have z2 := lv_neT (a := 2) q_14 rfl; omega) (by decide) dX11_checkedIs_1 ?_
  refine x_aload_n o dX11_checkedIs_57 0 rfl rfl ?_
  obtain ⟨k_20, hf⟩ := gq_ex hf
  obtain ⟨j_21, ej_21, hf⟩ := ob_ex hf
  refine gRX11_44 o k_20 ej_21 dX11_checkedIs_58 ?_
  obtain ⟨k_22, hf⟩ := gq_ex hf
  obtain ⟨j_23, ej_23, hf⟩ := ob_ex hf
  refine gRX11_138 o k_22 ej_23 dX11_checkedIs_61 ?_
  obtain ⟨k_24, hf⟩ := gq_ex hf
  refine gRX11_272 o k_24 dX11_checkedIs_64 ?_
  cases hf
  exact hr _ _ dX11_checkedIs_67
theorem C_X11_checkedIs {k : Kst} (hj : Dj k) (hn : kn k = kdl.length) (F : Nat) {h : Hp} {a0 : Nat} {x1 : Int32} {r : Int32} (hf : X11_checkedIs F a0 x1 h = some r) : MI k 5 yX11_checkedIs cX11_checkedIs 2 (some .int) [.ref (ka k a0), .int x1] h r h := mI hj hn (by decide +kernel) (Nat.le_of_ble_eq_true rfl) (fun d o hr => S_X11_checkedIs_0 o F hf hr)
set_option maxRecDepth 100000 in
set_option maxHeartbeats 4000000 in
theorem S_X11_check_14 {k : Kst} {d : Kdy} (o : Ok k d cX11_check RX11 2 6) (F : Nat) : ∀ (f : Nat) {h : Hp} {a0 : Nat} {x1 : Int32} {r : Int32} {h1 : Hp}, X11_check_14 F f a0 x1 h = some (r, h1) → RI k d cX11_check r h1 → Wz k d h 14 [(0, .ref (ka k a0)), (1, .int x1)] [] := by
  intro f
  induction f with
  | zero =>
    intro h a0 x1 r h1 hf hr
    exact nomatch (show (none : Option _) = some _ from hf)
  | succ f ih =>
    intro h a0 x1 r h1 hf hr
    rw [X11_check_14] at hf
    refine x_iload_n o dX11_check_14 1 rfl rfl ?_
    refine x_iconst (v := 4) o dX11_check_15 (by decide) ?_
    refine x_icmp_ge o 47 dX11_check_16 (by decide) (fun q_1 => ?_) (fun q_1 => ?_)
    · replace hf := (if_pos q_1).symm.trans hf
      refine x_iconst (v := (-1)) o dX11_check_47 (by decide) ?_
      cases hf
      exact hr _ _ dX11_check_48
    · replace hf := (if_neg q_1).symm.trans hf
      refine x_aload_n o dX11_check_19 0 rfl rfl ?_
      obtain ⟨k_2, hf⟩ := gq_ex hf
      obtain ⟨j_3, ej_3, hf⟩ := ob_ex hf
      refine gRX11_16 o k_2 ej_3 dX11_check_20 ?_
      refine x_iload_n o dX11_check_23 1 rfl rfl ?_
      obtain ⟨k_4, hf⟩ := gq_ex hf
      obtain ⟨c_5, ec_5, hf⟩ := ob_ex hf
      refine vRX11_199 [.int x1] [] o (C_X9_at o.1.2.2.2.2.2.2.1 o.2 F ec_5) (by decide) k_4 rfl rfl (Nat.le_of_ble_eq_true rfl) dX11_check_24 ?_
      refine x_aload_n o dX11_check_27 0 rfl rfl ?_
      refine x_iload_n o dX11_check_28 1 rfl rfl ?_
      obtain ⟨c_7, ec_7, hf⟩ := ob_ex hf
      refine vRX11_269 [.int x1] [.int c_5] o (C_X11_checkedIs o.1.2.2.2.2.2.2.1 o.2 F ec_7) (by decide) k_2 rfl rfl (Nat.le_of_ble_eq_true rfl) dX11_check_29 ?_
      refine x_sipush (v := 256) o dX11_check_32 (by decide) ?_
      refine x_irem o dX11_check_35 (by decide) ?_
      refine x_icmp_eq o 41 dX11_check_36 (by decide) (fun q_9 => ?_) (fun q_9 => ?_)
      · replace hf := (if_pos q_9).symm.trans hf
        obtain ⟨x1_10, ex1_10, hf⟩ := bd_ex hf
        refine x_iinc o dX11_check_41 (by decide) 1 rfl ex1_10.symm [(1, .int x1_10), (0, .ref (ka k a0))] rfl ?_
        refine x_goto o 14 dX11_check_44 (by decide) ?_
        refine x_sub [1, 0] [(0, .ref (ka k a0)), (1, .int x1_10)] rfl ?_
        exact ih hf hr
      · replace hf := (if_neg q_9).symm.trans hf
        refine x_iload_n o dX11_check_39 1 rfl rfl ?_
        cases hf
        exact hr _ _ dX11_check_40
set_option maxRecDepth 100000 in
set_option maxHeartbeats 4000000 in
theorem S_X11_check_0 {k : Kst} {d : Kdy} (o : Ok k d cX11_check RX11 2 6) (F : Nat) {h : Hp} {a0 : Nat} {r : Int32} {h1 : Hp} (hf : X11_check F a0 h = some (r, h1)) (hr : RI k d cX11_check r h1) : Wz k d h 0 [(0, .ref (ka k a0))] [] := by
  unfold X11_check at hf
  refine x_aload_n o dX11_check_0 0 rfl rfl ?_
  refine x_iconst (v := 4) o dX11_check_1 (by decide) ?_
  refine x_iconst (v := 4) o dX11_check_2 (by decide) ?_
  obtain ⟨k_1, hf⟩ := gq_ex hf
  obtain ⟨c_2, h_3, ec_2, hf⟩ := bq_ex hf
  refine vRX11_92 [.int 4, .int 4] [] o (C_X11_take o.1.2.2.2.2.2.2.1 o.2 F ec_2) (by decide) k_1 rfl rfl (Nat.le_of_ble_eq_true rfl) dX11_check_3 ?_
  refine x_if_ne o 12 dX11_check_6 (by decide) (fun q_4 => ?_) (fun q_4 => ?_)
  · replace hf := (if_neg q_4).symm.trans hf
    refine x_iconst (v := 0) o dX11_check_12 (by decide) ?_
    refine x_istore_n o dX11_check_13 (by decide) rfl [(1, .int 0), (0, .ref (ka k a0))] rfl ?_
    refine x_sub [1, 0] [(0, .ref (ka k a0)), (1, .int 0)] rfl ?_
    exact S_X11_check_14 o F _ hf hr
  · replace hf := (if_pos q_4).symm.trans hf
    refine x_bipush (v := (-2)) o dX11_check_9 (by decide) ?_
    cases hf
    exact hr _ _ dX11_check_11
theorem C_X11_check {k : Kst} (hj : Dj k) (hn : kn k = kdl.length) (F : Nat) {h : Hp} {a0 : Nat} {r : Int32} {h1 : Hp} (hf : X11_check F a0 h = some (r, h1)) : MI k 6 yX11_check cX11_check 2 (some .int) [.ref (ka k a0)] h r h1 := mI hj hn (by decide +kernel) (Nat.le_of_ble_eq_true rfl) (fun d o hr => S_X11_check_0 o F hf hr)
set_option maxRecDepth 100000 in
set_option maxHeartbeats 4000000 in
theorem S_X11_count_0 {k : Kst} {d : Kdy} (o : Ok k d cX11_count RX11 2 6) (F : Nat) {h : Hp} {a0 : Nat} {x1 : Int32} {r : Int32} (hf : X11_count F a0 x1 h = some r) (hr : RI k d cX11_count r h) : Wz k d h 0 [(0, .ref (ka k a0)), (1, .int x1)] [] := by
  unfold X11_count at hf
  refine x_iload_n o dX11_count_0 1 rfl rfl ?_
  obtain ⟨t_1, et_1, hf⟩ := bd_ex hf
  refine x_top et_1 ?_
  by_cases q_2 : t_1 = 0
  · replace hf := (if_pos q_2).symm.trans hf
    refine x_tabi (v := 0) o 52 q_2 (by decide) (by decide) rfl (by decide) dX11_count_1 ?_
    refine x_aload_n o dX11_count_52 0 rfl rfl ?_
    obtain ⟨k_3, hf⟩ := gq_ex hf
    obtain ⟨j_4, ej_4, hf⟩ := ob_ex hf
    refine gRX11_44 o k_3 ej_4 dX11_count_53 ?_
    obtain ⟨k_5, hf⟩ := gq_ex hf
    obtain ⟨j_6, ej_6, hf⟩ := ob_ex hf
    refine gRX11_138 o k_5 ej_6 dX11_count_56 ?_
    obtain ⟨k_7, hf⟩ := gq_ex hf
    refine gRX11_266 o k_7 dX11_count_59 ?_
    cases hf
    exact hr _ _ dX11_count_62
  replace hf := (if_neg q_2).symm.trans hf
  by_cases q_8 : t_1 = 1
  · replace hf := (if_pos q_8).symm.trans hf
    refine x_tabi (v := 1) o 63 q_8 (by decide) (by decide) rfl (by decide) dX11_count_1 ?_
    refine x_aload_n o dX11_count_63 0 rfl rfl ?_
    obtain ⟨k_9, hf⟩ := gq_ex hf
    obtain ⟨j_10, ej_10, hf⟩ := ob_ex hf
    refine gRX11_44 o k_9 ej_10 dX11_count_64 ?_
    obtain ⟨k_11, hf⟩ := gq_ex hf
    obtain ⟨j_12, ej_12, hf⟩ := ob_ex hf
    refine gRX11_138 o k_11 ej_12 dX11_count_67 ?_
    obtain ⟨k_13, hf⟩ := gq_ex hf
    refine gRX11_272 o k_13 dX11_count_70 ?_
    cases hf
    exact hr _ _ dX11_count_73
  replace hf := (if_neg q_8).symm.trans hf
  by_cases q_14 : t_1 = 2
  · replace hf := (if_pos q_14).symm.trans hf
    refine x_tabi (v := 2) o 74 q_14 (by decide) (by decide) rfl (by decide) dX11_count_1 ?_
    refine x_aload_n o dX11_count_74 0 rfl rfl ?_
    obtain ⟨k_15, hf⟩ := gq_ex hf
    obtain ⟨j_16, ej_16, hf⟩ := ob_ex hf
    refine gRX11_44 o k_15 ej_16 dX11_count_75 ?_
    obtain ⟨k_17, hf⟩ := gq_ex hf
    obtain ⟨j_18, ej_18, hf⟩ := ob_ex hf
    refine gRX11_138 o k_17 ej_18 dX11_count_78 ?_
    obtain ⟨k_19, hf⟩ := gq_ex hf
    refine gRX11_255 o k_19 dX11_count_81 ?_
    cases hf
    exact hr _ _ dX11_count_84
  replace hf := (if_neg q_14).symm.trans hf
  by_cases q_20 : t_1 = 3
  · replace hf := (if_pos q_20).symm.trans hf
    refine x_tabi (v := 3) o 85 q_20 (by decide) (by decide) rfl (by decide) dX11_count_1 ?_
    refine x_aload_n o dX11_count_85 0 rfl rfl ?_
    obtain ⟨k_21, hf⟩ := gq_ex hf
    obtain ⟨j_22, ej_22, hf⟩ := ob_ex hf
    refine gRX11_44 o k_21 ej_22 dX11_count_86 ?_
    obtain ⟨k_23, hf⟩ := gq_ex hf
    obtain ⟨j_24, ej_24, hf⟩ := ob_ex hf
    refine gRX11_138 o k_23 ej_24 dX11_count_89 ?_
    obtain ⟨k_25, hf⟩ := gq_ex hf
    refine gRX11_275 o k_25 dX11_count_92 ?_
    cases hf
    exact hr _ _ dX11_count_95
  replace hf := (if_neg q_20).symm.trans hf
  by_cases q_26 : t_1 = 4
  · replace hf := (if_pos q_26).symm.trans hf
    refine x_tabi (v := 4) o 96 q_26 (by decide) (by decide) rfl (by decide) dX11_count_1 ?_
    refine x_aload_n o dX11_count_96 0 rfl rfl ?_
    obtain ⟨k_27, hf⟩ := gq_ex hf
    obtain ⟨j_28, ej_28, hf⟩ := ob_ex hf
    refine gRX11_44 o k_27 ej_28 dX11_count_97 ?_
    obtain ⟨k_29, hf⟩ := gq_ex hf
    refine gRX11_85 o k_29 dX11_count_100 ?_
    cases hf
    exact hr _ _ dX11_count_103
  replace hf := (if_neg q_26).symm.trans hf
  by_cases q_30 : t_1 = 5
  · replace hf := (if_pos q_30).symm.trans hf
    refine x_tabi (v := 5) o 104 q_30 (by decide) (by decide) rfl (by decide) dX11_count_1 ?_
    refine x_aload_n o dX11_count_104 0 rfl rfl ?_
    obtain ⟨k_31, hf⟩ := gq_ex hf
    obtain ⟨j_32, ej_32, hf⟩ := ob_ex hf
    refine gRX11_44 o k_31 ej_32 dX11_count_105 ?_
    obtain ⟨k_33, hf⟩ := gq_ex hf
    obtain ⟨j_34, ej_34, hf⟩ := ob_ex hf
    refine gRX11_107 o k_33 ej_34 dX11_count_108 ?_
    obtain ⟨k_35, hf⟩ := gq_ex hf
    refine gRX11_115 o k_35 dX11_count_111 ?_
    cases hf
    exact hr _ _ dX11_count_114
  replace hf := (if_neg q_30).symm.trans hf
  by_cases q_36 : t_1 = 6
  · replace hf := (if_pos q_36).symm.trans hf
    refine x_tabi (v := 6) o 115 q_36 (by decide) (by decide) rfl (by decide) dX11_count_1 ?_
    refine x_aload_n o dX11_count_115 0 rfl rfl ?_
    obtain ⟨k_37, hf⟩ := gq_ex hf
    refine gRX11_72 o k_37 dX11_count_116 ?_
    cases hf
    exact hr _ _ dX11_count_119
  replace hf := (if_neg q_36).symm.trans hf
  by_cases q_38 : t_1 = 7
  · replace hf := (if_pos q_38).symm.trans hf
    refine x_tabi (v := 7) o 120 q_38 (by decide) (by decide) rfl (by decide) dX11_count_1 ?_
    refine x_aload_n o dX11_count_120 0 rfl rfl ?_
    obtain ⟨k_39, hf⟩ := gq_ex hf
    obtain ⟨j_40, ej_40, hf⟩ := ob_ex hf
    refine gRX11_44 o k_39 ej_40 dX11_count_121 ?_
    obtain ⟨k_41, hf⟩ := gq_ex hf
    obtain ⟨j_42, ej_42, hf⟩ := ob_ex hf
    refine gRX11_138 o k_41 ej_42 dX11_count_124 ?_
    obtain ⟨k_43, hf⟩ := gq_ex hf
    refine gRX11_263 o k_43 dX11_count_127 ?_
    cases hf
    exact hr _ _ dX11_count_130
  replace hf := (if_neg q_38).symm.trans hf
  by_cases q_44 : t_1 = 8
  · replace hf := (if_pos q_44).symm.trans hf
    refine x_tabi (v := 8) o 131 q_44 (by decide) (by decide) rfl (by decide) dX11_count_1 ?_
    refine x_aload_n o dX11_count_131 0 rfl rfl ?_
    obtain ⟨k_45, hf⟩ := gq_ex hf
    obtain ⟨j_46, ej_46, hf⟩ := ob_ex hf
    refine gRX11_44 o k_45 ej_46 dX11_count_132 ?_
    refine x_iconst (v := 0) o dX11_count_135 (by decide) ?_
    obtain ⟨k_47, hf⟩ := gq_ex hf
    obtain ⟨c_48, ec_48, hf⟩ := ob_ex hf
    refine vRX11_169 [.int 0] [] o (C_X10_weight o.1.2.2.2.2.2.2.1 o.2 F ec_48) (by decide) k_47 rfl rfl (Nat.le_of_ble_eq_true rfl) dX11_count_136 ?_
    refine x_aload_n o dX11_count_139 0 rfl rfl ?_
    refine gRX11_44 o k_45 ej_46 dX11_count_140 ?_
    refine x_iconst (v := 1) o dX11_count_143 (by decide) ?_
    obtain ⟨c_50, ec_50, hf⟩ := ob_ex hf
    refine vRX11_169 [.int 1] [.int c_48] o (C_X10_weight o.1.2.2.2.2.2.2.1 o.2 F ec_50) (by decide) k_47 rfl rfl (Nat.le_of_ble_eq_true rfl) dX11_count_144 ?_
    refine x_isub o dX11_count_147 ?_
    refine x_mabs o wRX11_278 (by decide) (Nat.le_of_ble_eq_true rfl) dX11_count_148 ?_
    cases hf
    exact hr _ _ dX11_count_151
  replace hf := (if_neg q_44).symm.trans hf
  refine x_tabo o 152 (by have z0 := lv_neT (a := 0) q_2 rfl; have z1 := lv_neT (a := 1) q_8 rfl; have z2 := lv_neT (a := 2) q_14 rfl; have z3 := lv_neT (a := 3) q_20 rfl; have z4 := lv_neT (a := 4) q_26 rfl; have z5 := lv_neT (a := 5) q_30 rfl; have z6 := lv_neT (a := 6) q_36 rfl; have z7 := lv_neT (a := 7) q_38 rfl; have z8 := lv_neT (a := 8) q_44 rfl; omega) (by decide) dX11_count_1 ?_
  refine x_iconst (v := (-1)) o dX11_count_152 (by decide) ?_
  cases hf
  exact hr _ _ dX11_count_153
theorem C_X11_count {k : Kst} (hj : Dj k) (hn : kn k = kdl.length) (F : Nat) {h : Hp} {a0 : Nat} {x1 : Int32} {r : Int32} (hf : X11_count F a0 x1 h = some r) : MI k 6 yX11_count cX11_count 2 (some .int) [.ref (ka k a0), .int x1] h r h := mI hj hn (by decide +kernel) (Nat.le_of_ble_eq_true rfl) (fun d o hr => S_X11_count_0 o F hf hr)
set_option maxRecDepth 100000 in
set_option maxHeartbeats 4000000 in
theorem S_X12_in_0 {k : Kst} {d : Kdy} (o : Ok k d cX12_in RX12 3 3) (F : Nat) {h : Hp} {x0 : Int32} {x1 : Int32} {x2 : Int32} {r : Int32} (hf : X12_in F x0 x1 x2 h = some r) (hr : RZ k d cX12_in r h) : Wz k d h 0 [(0, .int x0), (1, .int x1), (2, .int x2)] [] := by
  unfold X12_in at hf
  refine x_iload_n o dX12_in_0 0 rfl rfl ?_
  refine x_iload_n o dX12_in_1 1 rfl rfl ?_
  refine x_icmp_lt o 14 dX12_in_2 (by decide) (fun q_1 => ?_) (fun q_1 => ?_)
  · replace hf := (if_pos q_1).symm.trans hf
    refine x_iconst (v := 0) o dX12_in_14 (by decide) ?_
    cases hf
    exact hr (Or.inl rfl) _ _ dX12_in_15
  · replace hf := (if_neg q_1).symm.trans hf
    refine x_iload_n o dX12_in_5 0 rfl rfl ?_
    refine x_iload_n o dX12_in_6 2 rfl rfl ?_
    refine x_icmp_gt o 14 dX12_in_7 (by decide) (fun q_2 => ?_) (fun q_2 => ?_)
    · replace hf := (if_pos q_2).symm.trans hf
      refine x_iconst (v := 0) o dX12_in_14 (by decide) ?_
      cases hf
      exact hr (Or.inl rfl) _ _ dX12_in_15
    · replace hf := (if_neg q_2).symm.trans hf
      refine x_iconst (v := 1) o dX12_in_10 (by decide) ?_
      refine x_goto o 15 dX12_in_11 (by decide) ?_
      cases hf
      exact hr (Or.inr rfl) _ _ dX12_in_15
theorem C_X12_in {k : Kst} (hj : Dj k) (hn : kn k = kdl.length) (F : Nat) {h : Hp} {x0 : Int32} {x1 : Int32} {x2 : Int32} {r : Int32} (hf : X12_in F x0 x1 x2 h = some r) : MI k 3 yX12_in cX12_in 3 (some .boolean) [.int x0, .int x1, .int x2] h r h := mZ hj hn (by decide +kernel) (Nat.le_of_ble_eq_true rfl) (fun d o hr => S_X12_in_0 o F hf hr)
set_option maxRecDepth 100000 in
set_option maxHeartbeats 4000000 in
theorem S_X12_min_0 {k : Kst} {d : Kdy} (o : Ok k d cX12_min RX12 2 3) (F : Nat) {h : Hp} {x0 : Int32} {x1 : Int32} {r : Int32} (hf : X12_min F x0 x1 h = some r) (hr : RI k d cX12_min r h) : Wz k d h 0 [(0, .int x0), (1, .int x1)] [] := by
  unfold X12_min at hf
  refine x_iload_n o dX12_min_0 0 rfl rfl ?_
  refine x_iload_n o dX12_min_1 1 rfl rfl ?_
  refine x_icmp_ge o 9 dX12_min_2 (by decide) (fun q_1 => ?_) (fun q_1 => ?_)
  · replace hf := (if_pos q_1).symm.trans hf
    refine x_iload_n o dX12_min_9 1 rfl rfl ?_
    cases hf
    exact hr _ _ dX12_min_10
  · replace hf := (if_neg q_1).symm.trans hf
    refine x_iload_n o dX12_min_5 0 rfl rfl ?_
    refine x_goto o 10 dX12_min_6 (by decide) ?_
    cases hf
    exact hr _ _ dX12_min_10
theorem C_X12_min {k : Kst} (hj : Dj k) (hn : kn k = kdl.length) (F : Nat) {h : Hp} {x0 : Int32} {x1 : Int32} {r : Int32} (hf : X12_min F x0 x1 h = some r) : MI k 3 yX12_min cX12_min 2 (some .int) [.int x0, .int x1] h r h := mI hj hn (by decide +kernel) (Nat.le_of_ble_eq_true rfl) (fun d o hr => S_X12_min_0 o F hf hr)
set_option maxRecDepth 100000 in
set_option maxHeartbeats 4000000 in
theorem S_X12_max_0 {k : Kst} {d : Kdy} (o : Ok k d cX12_max RX12 2 3) (F : Nat) {h : Hp} {x0 : Int32} {x1 : Int32} {r : Int32} (hf : X12_max F x0 x1 h = some r) (hr : RI k d cX12_max r h) : Wz k d h 0 [(0, .int x0), (1, .int x1)] [] := by
  unfold X12_max at hf
  refine x_iload_n o dX12_max_0 0 rfl rfl ?_
  refine x_iload_n o dX12_max_1 1 rfl rfl ?_
  refine x_icmp_le o 9 dX12_max_2 (by decide) (fun q_1 => ?_) (fun q_1 => ?_)
  · replace hf := (if_pos q_1).symm.trans hf
    refine x_iload_n o dX12_max_9 1 rfl rfl ?_
    cases hf
    exact hr _ _ dX12_max_10
  · replace hf := (if_neg q_1).symm.trans hf
    refine x_iload_n o dX12_max_5 0 rfl rfl ?_
    refine x_goto o 10 dX12_max_6 (by decide) ?_
    cases hf
    exact hr _ _ dX12_max_10
theorem C_X12_max {k : Kst} (hj : Dj k) (hn : kn k = kdl.length) (F : Nat) {h : Hp} {x0 : Int32} {x1 : Int32} {r : Int32} (hf : X12_max F x0 x1 h = some r) : MI k 3 yX12_max cX12_max 2 (some .int) [.int x0, .int x1] h r h := mI hj hn (by decide +kernel) (Nat.le_of_ble_eq_true rfl) (fun d o hr => S_X12_max_0 o F hf hr)
set_option maxRecDepth 100000 in
set_option maxHeartbeats 4000000 in
theorem S_X12_size_0 {k : Kst} {d : Kdy} (o : Ok k d cX12_size RX12 1 3) (F : Nat) {h : Hp} {x0 : Int32} {r : Int32} (hf : X12_size F x0 h = some r) (hr : RI k d cX12_size r h) : Wz k d h 0 [(0, .int x0)] [] := by
  unfold X12_size at hf
  refine x_iload_n o dX12_size_0 0 rfl rfl ?_
  refine x_if_ge o 9 dX12_size_1 (by decide) (fun q_1 => ?_) (fun q_1 => ?_)
  · replace hf := (if_pos q_1).symm.trans hf
    refine x_iload_n o dX12_size_9 0 rfl rfl ?_
    cases hf
    exact hr _ _ dX12_size_10
  · replace hf := (if_neg q_1).symm.trans hf
    refine x_iload_n o dX12_size_4 0 rfl rfl ?_
    refine x_ineg o dX12_size_5 ?_
    refine x_goto o 10 dX12_size_6 (by decide) ?_
    cases hf
    exact hr _ _ dX12_size_10
theorem C_X12_size {k : Kst} (hj : Dj k) (hn : kn k = kdl.length) (F : Nat) {h : Hp} {x0 : Int32} {r : Int32} (hf : X12_size F x0 h = some r) : MI k 3 yX12_size cX12_size 1 (some .int) [.int x0] h r h := mI hj hn (by decide +kernel) (Nat.le_of_ble_eq_true rfl) (fun d o hr => S_X12_size_0 o F hf hr)
set_option maxRecDepth 100000 in
set_option maxHeartbeats 4000000 in
theorem S_X12_has_0 {k : Kst} {d : Kdy} (o : Ok k d cX12_has RX12 2 3) (F : Nat) {h : Hp} {x0 : Int32} {x1 : Int32} {r : Int32} (hf : X12_has F x0 x1 h = some r) (hr : RZ k d cX12_has r h) : Wz k d h 0 [(0, .int x0), (1, .int x1)] [] := by
  unfold X12_has at hf
  refine x_iload_n o dX12_has_0 0 rfl rfl ?_
  refine x_iload_n o dX12_has_1 1 rfl rfl ?_
  refine x_ishr o dX12_has_2 ?_
  refine x_iconst (v := 1) o dX12_has_3 (by decide) ?_
  refine x_iand o dX12_has_4 ?_
  refine x_iconst (v := 1) o dX12_has_5 (by decide) ?_
  refine x_icmp_ne o 13 dX12_has_6 (by decide) (fun q_1 => ?_) (fun q_1 => ?_)
  · replace hf := (if_neg q_1).symm.trans hf
    refine x_iconst (v := 0) o dX12_has_13 (by decide) ?_
    cases hf
    exact hr (Or.inl rfl) _ _ dX12_has_14
  · replace hf := (if_pos q_1).symm.trans hf
    refine x_iconst (v := 1) o dX12_has_9 (by decide) ?_
    refine x_goto o 14 dX12_has_10 (by decide) ?_
    cases hf
    exact hr (Or.inr rfl) _ _ dX12_has_14
theorem C_X12_has {k : Kst} (hj : Dj k) (hn : kn k = kdl.length) (F : Nat) {h : Hp} {x0 : Int32} {x1 : Int32} {r : Int32} (hf : X12_has F x0 x1 h = some r) : MI k 3 yX12_has cX12_has 2 (some .boolean) [.int x0, .int x1] h r h := mZ hj hn (by decide +kernel) (Nat.le_of_ble_eq_true rfl) (fun d o hr => S_X12_has_0 o F hf hr)
set_option maxRecDepth 100000 in
set_option maxHeartbeats 4000000 in
theorem S_X12_bits_4 {k : Kst} {d : Kdy} (o : Ok k d cX12_bits RX12 3 3) (F : Nat) : ∀ (f : Nat) {h : Hp} {x0 : Int32} {x1 : Int32} {x2 : Int32} {r : Int32}, X12_bits_4 F f x0 x1 x2 h = some r → RI k d cX12_bits r h → Wz k d h 4 [(0, .int x0), (1, .int x1), (2, .int x2)] [] := by
  intro f
  induction f with
  | zero =>
    intro h x0 x1 x2 r hf hr
    exact nomatch (show (none : Option _) = some _ from hf)
  | succ f ih =>
    intro h x0 x1 x2 r hf hr
    rw [X12_bits_4] at hf
    refine x_iload_n o dX12_bits_4 2 rfl rfl ?_
    refine x_bipush (v := 20) o dX12_bits_5 (by decide) ?_
    refine x_icmp_ge o 24 dX12_bits_7 (by decide) (fun q_1 => ?_) (fun q_1 => ?_)
    · replace hf := (if_pos q_1).symm.trans hf
      refine x_iload_n o dX12_bits_24 1 rfl rfl ?_
      cases hf
      exact hr _ _ dX12_bits_25
    · replace hf := (if_neg q_1).symm.trans hf
      refine x_iload_n o dX12_bits_10 1 rfl rfl ?_
      refine x_iload_n o dX12_bits_11 0 rfl rfl ?_
      refine x_iload_n o dX12_bits_12 2 rfl rfl ?_
      refine x_ishr o dX12_bits_13 ?_
      refine x_iconst (v := 1) o dX12_bits_14 (by decide) ?_
      refine x_iand o dX12_bits_15 ?_
      refine x_iadd o dX12_bits_16 ?_
      obtain ⟨x1_2, ex1_2, hf⟩ := bd_ex hf
      refine x_top ex1_2 ?_
      refine x_istore_n o dX12_bits_17 (by decide) rfl [(1, .int x1_2), (0, .int x0), (2, .int x2)] rfl ?_
      obtain ⟨x2_3, ex2_3, hf⟩ := bd_ex hf
      refine x_iinc o dX12_bits_18 (by decide) 2 rfl ex2_3.symm [(2, .int x2_3), (1, .int x1_2), (0, .int x0)] rfl ?_
      refine x_goto o 4 dX12_bits_21 (by decide) ?_
      refine x_sub [2, 1, 0] [(0, .int x0), (1, .int x1_2), (2, .int x2_3)] rfl ?_
      exact ih hf hr
set_option maxRecDepth 100000 in
set_option maxHeartbeats 4000000 in
theorem S_X12_bits_0 {k : Kst} {d : Kdy} (o : Ok k d cX12_bits RX12 3 3) (F : Nat) {h : Hp} {x0 : Int32} {r : Int32} (hf : X12_bits F x0 h = some r) (hr : RI k d cX12_bits r h) : Wz k d h 0 [(0, .int x0)] [] := by
  unfold X12_bits at hf
  refine x_iconst (v := 0) o dX12_bits_0 (by decide) ?_
  refine x_istore_n o dX12_bits_1 (by decide) rfl [(1, .int 0), (0, .int x0)] rfl ?_
  refine x_iconst (v := 0) o dX12_bits_2 (by decide) ?_
  refine x_istore_n o dX12_bits_3 (by decide) rfl [(2, .int 0), (1, .int 0), (0, .int x0)] rfl ?_
  refine x_sub [2, 1, 0] [(0, .int x0), (1, .int 0), (2, .int 0)] rfl ?_
  exact S_X12_bits_4 o F _ hf hr
theorem C_X12_bits {k : Kst} (hj : Dj k) (hn : kn k = kdl.length) (F : Nat) {h : Hp} {x0 : Int32} {r : Int32} (hf : X12_bits F x0 h = some r) : MI k 3 yX12_bits cX12_bits 3 (some .int) [.int x0] h r h := mI hj hn (by decide +kernel) (Nat.le_of_ble_eq_true rfl) (fun d o hr => S_X12_bits_0 o F hf hr)
set_option maxRecDepth 100000 in
set_option maxHeartbeats 4000000 in
theorem S_X12_copies_2 {k : Kst} {d : Kdy} (o : Ok k d cX12_copies RX12 3 3) (F : Nat) : ∀ (f : Nat) {h : Hp} {a0 : Nat} {a1 : Nat} {x2 : Int32} {h1 : Hp}, X12_copies_2 F f a0 a1 x2 h = some h1 → RV k d cX12_copies h1 → Wz k d h 2 [(0, .ref (ka k a0)), (1, .ref (ka k a1)), (2, .int x2)] [] := by
  intro f
  induction f with
  | zero =>
    intro h a0 a1 x2 h1 hf hr
    exact nomatch (show (none : Option _) = some _ from hf)
  | succ f ih =>
    intro h a0 a1 x2 h1 hf hr
    rw [X12_copies_2] at hf
    refine x_iload_n o dX12_copies_2 2 rfl rfl ?_
    refine x_bipush (v := 47) o dX12_copies_3 (by decide) ?_
    refine x_icmp_ge o 20 dX12_copies_5 (by decide) (fun q_1 => ?_) (fun q_1 => ?_)
    · replace hf := (if_pos q_1).symm.trans hf
      cases hf
      exact hr _ _ dX12_copies_20
    · replace hf := (if_neg q_1).symm.trans hf
      refine x_aload_n o dX12_copies_8 1 rfl rfl ?_
      refine x_iload_n o dX12_copies_9 2 rfl rfl ?_
      refine x_aload_n o dX12_copies_10 0 rfl rfl ?_
      refine x_iload_n o dX12_copies_11 2 rfl rfl ?_
      obtain ⟨k_2, hf⟩ := gq_ex hf
      obtain ⟨b_3, hf⟩ := gq_ex hf
      refine x_iald o k_2 b_3 dX12_copies_12 ?_
      obtain ⟨k_4, hf⟩ := gq_ex hf
      obtain ⟨b_5, hf⟩ := gq_ex hf
      obtain ⟨h_6, eh_6, hf⟩ := bd_ex hf
      refine x_iast o k_4 b_5 dX12_copies_13 (x_h eh_6 ?_)
      obtain ⟨x2_7, ex2_7, hf⟩ := bd_ex hf
      refine x_iinc o dX12_copies_14 (by decide) 2 rfl ex2_7.symm [(2, .int x2_7), (0, .ref (ka k a0)), (1, .ref (ka k a1))] rfl ?_
      refine x_goto o 2 dX12_copies_17 (by decide) ?_
      refine x_sub [1, 2, 0] [(0, .ref (ka k a0)), (1, .ref (ka k a1)), (2, .int x2_7)] rfl ?_
      exact ih hf hr
set_option maxRecDepth 100000 in
set_option maxHeartbeats 4000000 in
theorem S_X12_copies_0 {k : Kst} {d : Kdy} (o : Ok k d cX12_copies RX12 3 3) (F : Nat) {h : Hp} {a0 : Nat} {a1 : Nat} {h1 : Hp} (hf : X12_copies F a0 a1 h = some h1) (hr : RV k d cX12_copies h1) : Wz k d h 0 [(0, .ref (ka k a0)), (1, .ref (ka k a1))] [] := by
  unfold X12_copies at hf
  refine x_iconst (v := 0) o dX12_copies_0 (by decide) ?_
  refine x_istore_n o dX12_copies_1 (by decide) rfl [(2, .int 0), (0, .ref (ka k a0)), (1, .ref (ka k a1))] rfl ?_
  refine x_sub [1, 2, 0] [(0, .ref (ka k a0)), (1, .ref (ka k a1)), (2, .int 0)] rfl ?_
  exact S_X12_copies_2 o F _ hf hr
theorem C_X12_copies {k : Kst} (hj : Dj k) (hn : kn k = kdl.length) (F : Nat) {h : Hp} {a0 : Nat} {a1 : Nat} {h1 : Hp} (hf : X12_copies F a0 a1 h = some h1) : MV k 3 yX12_copies cX12_copies 3 [.ref (ka k a0), .ref (ka k a1)] h h1 := mV hj hn (by decide +kernel) (Nat.le_of_ble_eq_true rfl) (fun d o hr => S_X12_copies_0 o F hf hr)
set_option maxRecDepth 100000 in
set_option maxHeartbeats 4000000 in
theorem S_X12_isSide_0 {k : Kst} {d : Kdy} (o : Ok k d cX12_isSide RX12 1 4) (F : Nat) {h : Hp} {x0 : Int32} {r : Int32} (hf : X12_isSide F x0 h = some r) (hr : RZ k d cX12_isSide r h) : Wz k d h 0 [(0, .int x0)] [] := by
  unfold X12_isSide at hf
  refine x_iload_n o dX12_isSide_0 0 rfl rfl ?_
  refine x_iconst (v := 0) o dX12_isSide_1 (by decide) ?_
  refine x_iconst (v := 1) o dX12_isSide_2 (by decide) ?_
  obtain ⟨c_1, ec_1, hf⟩ := ob_ex hf
  refine vRX12_113 [.int x0, .int 0, .int 1] [] o (C_X12_in o.1.2.2.2.2.2.2.1 o.2 F ec_1) (by decide) rfl rfl (Nat.le_of_ble_eq_true rfl) dX12_isSide_3 ?_
  obtain ⟨n_3, hf⟩ := gq_ex hf
  cases hf
  exact hr n_3 _ _ dX12_isSide_6
theorem C_X12_isSide {k : Kst} (hj : Dj k) (hn : kn k = kdl.length) (F : Nat) {h : Hp} {x0 : Int32} {r : Int32} (hf : X12_isSide F x0 h = some r) : MI k 4 yX12_isSide cX12_isSide 1 (some .boolean) [.int x0] h r h := mZ hj hn (by decide +kernel) (Nat.le_of_ble_eq_true rfl) (fun d o hr => S_X12_isSide_0 o F hf hr)
set_option maxRecDepth 100000 in
set_option maxHeartbeats 4000000 in
theorem S_X12_stonesTo_5 {k : Kst} {d : Kdy} (o : Ok k d cX12_stonesTo RX12 5 3) (F : Nat) : ∀ (f : Nat) {h : Hp} {a0 : Nat} {x1 : Int32} {x2 : Int32} {x3 : Int32} {x4 : Int32} {r : Int32}, X12_stonesTo_5 F f a0 x1 x2 x3 x4 h = some r → RI k d cX12_stonesTo r h → Wz k d h 5 [(0, .ref (ka k a0)), (1, .int x1), (2, .int x2), (3, .int x3), (4, .int x4)] [] := by
  intro f
  induction f with
  | zero =>
    intro h a0 x1 x2 x3 x4 r hf hr
    exact nomatch (show (none : Option _) = some _ from hf)
  | succ f ih =>
    intro h a0 x1 x2 x3 x4 r hf hr
    rw [X12_stonesTo_5] at hf
    refine x_iload o dX12_stonesTo_5 4 rfl ?_
    refine x_iload_n o dX12_stonesTo_7 2 rfl rfl ?_
    refine x_icmp_ge o 32 dX12_stonesTo_8 (by decide) (fun q_1 => ?_) (fun q_1 => ?_)
    · replace hf := (if_pos q_1).symm.trans hf
      refine x_iload_n o dX12_stonesTo_32 3 rfl rfl ?_
      cases hf
      exact hr _ _ dX12_stonesTo_33
    · replace hf := (if_neg q_1).symm.trans hf
      refine x_iload_n o dX12_stonesTo_11 3 rfl rfl ?_
      refine x_aload_n o dX12_stonesTo_12 0 rfl rfl ?_
      obtain ⟨k_2, hf⟩ := gq_ex hf
      obtain ⟨j_3, ej_3, hf⟩ := ob_ex hf
      refine gRX12_22 o k_2 ej_3 dX12_stonesTo_13 ?_
      refine x_bipush (v := 20) o dX12_stonesTo_16 (by decide) ?_
      refine x_iload_n o dX12_stonesTo_18 1 rfl rfl ?_
      refine x_imul o dX12_stonesTo_19 ?_
      refine x_iload o dX12_stonesTo_20 4 rfl ?_
      refine x_iadd o dX12_stonesTo_22 ?_
      obtain ⟨k_4, hf⟩ := gq_ex hf
      obtain ⟨b_5, hf⟩ := gq_ex hf
      refine x_iald o k_4 b_5 dX12_stonesTo_23 ?_
      refine x_iadd o dX12_stonesTo_24 ?_
      obtain ⟨x3_6, ex3_6, hf⟩ := bd_ex hf
      refine x_top ex3_6 ?_
      refine x_istore_n o dX12_stonesTo_25 (by decide) rfl [(3, .int x3_6), (0, .ref (ka k a0)), (1, .int x1), (2, .int x2), (4, .int x4)] rfl ?_
      obtain ⟨x4_7, ex4_7, hf⟩ := bd_ex hf
      refine x_iinc o dX12_stonesTo_26 (by decide) 4 rfl ex4_7.symm [(4, .int x4_7), (3, .int x3_6), (0, .ref (ka k a0)), (1, .int x1), (2, .int x2)] rfl ?_
      refine x_goto o 5 dX12_stonesTo_29 (by decide) ?_
      refine x_sub [2, 3, 4, 1, 0] [(0, .ref (ka k a0)), (1, .int x1), (2, .int x2), (3, .int x3_6), (4, .int x4_7)] rfl ?_
      exact ih hf hr
set_option maxRecDepth 100000 in
set_option maxHeartbeats 4000000 in
theorem S_X12_stonesTo_0 {k : Kst} {d : Kdy} (o : Ok k d cX12_stonesTo RX12 5 3) (F : Nat) {h : Hp} {a0 : Nat} {x1 : Int32} {x2 : Int32} {r : Int32} (hf : X12_stonesTo F a0 x1 x2 h = some r) (hr : RI k d cX12_stonesTo r h) : Wz k d h 0 [(0, .ref (ka k a0)), (1, .int x1), (2, .int x2)] [] := by
  unfold X12_stonesTo at hf
  refine x_iconst (v := 0) o dX12_stonesTo_0 (by decide) ?_
  refine x_istore_n o dX12_stonesTo_1 (by decide) rfl [(3, .int 0), (0, .ref (ka k a0)), (1, .int x1), (2, .int x2)] rfl ?_
  refine x_iconst (v := 0) o dX12_stonesTo_2 (by decide) ?_
  refine x_istore o dX12_stonesTo_3 (by decide) [(4, .int 0), (3, .int 0), (0, .ref (ka k a0)), (1, .int x1), (2, .int x2)] rfl ?_
  refine x_sub [2, 3, 4, 1, 0] [(0, .ref (ka k a0)), (1, .int x1), (2, .int x2), (3, .int 0), (4, .int 0)] rfl ?_
  exact S_X12_stonesTo_5 o F _ hf hr
theorem C_X12_stonesTo {k : Kst} (hj : Dj k) (hn : kn k = kdl.length) (F : Nat) {h : Hp} {a0 : Nat} {x1 : Int32} {x2 : Int32} {r : Int32} (hf : X12_stonesTo F a0 x1 x2 h = some r) : MI k 3 yX12_stonesTo cX12_stonesTo 5 (some .int) [.ref (ka k a0), .int x1, .int x2] h r h := mI hj hn (by decide +kernel) (Nat.le_of_ble_eq_true rfl) (fun d o hr => S_X12_stonesTo_0 o F hf hr)
