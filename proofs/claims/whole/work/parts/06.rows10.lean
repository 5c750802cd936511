set_option maxRecDepth 100000 in
set_option maxHeartbeats 4000000 in
theorem S_X12_ahead_92 {k : Kst} {d : Kdy} (o : Ok k d cX12_ahead RX12 4 9) (F : Nat) {h : Hp} {a0 : Nat} {x2 : Int32} {r : Int32} {h1 : Hp} (hf : X12_ahead_92 F a0 x2 h = some (r, h1)) (hr : RI k d cX12_ahead r h1) : Wz k d h 92 [(0, .ref (ka k a0)), (2, .int x2)] [] := by
  unfold X12_ahead_92 at hf
  refine x_aload_n o dX12_ahead_92 0 rfl rfl ?_
  obtain ⟨k_1, hf⟩ := gq_ex hf
  obtain ⟨j_2, ej_2, hf⟩ := ob_ex hf
  refine gRX12_13 o k_1 ej_2 dX12_ahead_93 ?_
  refine x_aload_n o dX12_ahead_96 0 rfl rfl ?_
  obtain ⟨j_3, ej_3, hf⟩ := ob_ex hf
  refine gRX12_7 o k_1 ej_3 dX12_ahead_97 ?_
  obtain ⟨h_5, eh_5, hf⟩ := ob_ex hf
  refine vRX12_285 [.ref (ka k j_2), .ref (ka k j_3)] [] o (C_X12_copies o.1.2.2.2.2.2.2.1 o.2 F eh_5) (by decide) rfl rfl (Nat.le_of_ble_eq_true rfl) dX12_ahead_100 ?_
  refine x_iload_n o dX12_ahead_103 1 rfl rfl ?_
  cases hf
  exact hr _ _ dX12_ahead_104
set_option maxRecDepth 100000 in
set_option maxHeartbeats 4000000 in
theorem S_X12_ahead_45 {k : Kst} {d : Kdy} (o : Ok k d cX12_ahead RX12 4 9) (F : Nat) : ∀ (f : Nat) {h : Hp} {a0 : Nat} {x1 : Int32} {x2 : Int32} {x3 : Int32} {r : Int32} {h1 : Hp}, X12_ahead_45 F f a0 x1 x2 x3 h = some (r, h1) → RI k d cX12_ahead r h1 → Wz k d h 45 [(0, .ref (ka k a0)), (1, .int x1), (2, .int x2), (3, .int x3)] [] := by
  intro f
  induction f with
  | zero =>
    intro h a0 x1 x2 x3 r h1 hf hr
    exact nomatch (show (none : Option _) = some _ from hf)
  | succ f ih =>
    intro h a0 x1 x2 x3 r h1 hf hr
    rw [X12_ahead_45] at hf
    refine x_iload_n o dX12_ahead_45 3 rfl rfl ?_
    refine x_iload_n o dX12_ahead_46 1 rfl rfl ?_
    refine x_icmp_ge o 92 dX12_ahead_47 (by decide) (fun q_1 => ?_) (fun q_1 => ?_)
    · replace hf := (if_pos q_1).symm.trans hf
      refine x_sub [0, 2] [(0, .ref (ka k a0)), (2, .int x2)] rfl ?_
      exact S_X12_ahead_92 o F hf hr
    · replace hf := (if_neg q_1).symm.trans hf
      refine x_aload_n o dX12_ahead_50 0 rfl rfl ?_
      obtain ⟨k_2, hf⟩ := gq_ex hf
      obtain ⟨j_3, ej_3, hf⟩ := ob_ex hf
      refine gRX12_7 o k_2 ej_3 dX12_ahead_51 ?_
      refine x_bipush (v := 44) o dX12_ahead_54 (by decide) ?_
      obtain ⟨k_4, hf⟩ := gq_ex hf
      obtain ⟨b_5, hf⟩ := gq_ex hf
      refine x_iald o k_4 b_5 dX12_ahead_56 ?_
      refine x_sipush (v := 9999) o dX12_ahead_57 (by decide) ?_
      refine x_icmp_ge o 92 dX12_ahead_60 (by decide) (fun q_6 => ?_) (fun q_6 => ?_)
      · replace hf := (if_pos q_6).symm.trans hf
        refine x_sub [0, 2] [(0, .ref (ka k a0)), (2, .int x2)] rfl ?_
        exact S_X12_ahead_92 o F hf hr
      · replace hf := (if_neg q_6).symm.trans hf
        refine x_aload_n o dX12_ahead_63 0 rfl rfl ?_
        obtain ⟨h_8, eh_8, hf⟩ := ob_ex hf
        refine vRX12_338 [] [] o (C_X12_dayGoes o.1.2.2.2.2.2.2.1 o.2 F eh_8) (by decide) k_2 rfl rfl (Nat.le_of_ble_eq_true rfl) dX12_ahead_64 ?_
        refine x_iload_n o dX12_ahead_67 2 rfl rfl ?_
        refine x_aload_n o dX12_ahead_68 0 rfl rfl ?_
        refine x_iconst (v := 0) o dX12_ahead_69 (by decide) ?_
        obtain ⟨c_9, ec_9, hf⟩ := ob_ex hf
        refine vRX12_121 [.int 0] [.int x2] o (C_X12_standing o.1.2.2.2.2.2.2.1 o.2 F ec_9) (by decide) k_2 rfl rfl (Nat.le_of_ble_eq_true rfl) dX12_ahead_70 ?_
        refine x_aload_n o dX12_ahead_73 0 rfl rfl ?_
        refine x_iconst (v := 1) o dX12_ahead_74 (by decide) ?_
        obtain ⟨c_11, ec_11, hf⟩ := ob_ex hf
        refine vRX12_121 [.int 1] [.int c_9, .int x2] o (C_X12_standing o.1.2.2.2.2.2.2.1 o.2 F ec_11) (by decide) k_2 rfl rfl (Nat.le_of_ble_eq_true rfl) dX12_ahead_75 ?_
        refine x_isub o dX12_ahead_78 ?_
        obtain ⟨c_13, ec_13, hf⟩ := ob_ex hf
        refine vRX12_320 [.int (c_9 - c_11)] [.int x2] o (C_X12_size o.1.2.2.2.2.2.2.1 o.2 F ec_13) (by decide) rfl rfl (Nat.le_of_ble_eq_true rfl) dX12_ahead_79 ?_
        obtain ⟨c_15, ec_15, hf⟩ := ob_ex hf
        refine vRX12_272 [.int x2, .int c_13] [] o (C_X12_max o.1.2.2.2.2.2.2.1 o.2 F ec_15) (by decide) rfl rfl (Nat.le_of_ble_eq_true rfl) dX12_ahead_82 ?_
        refine x_istore_n o dX12_ahead_85 (by decide) rfl [(2, .int c_15), (0, .ref (ka k a0)), (1, .int x1), (3, .int x3)] rfl ?_
        obtain ⟨x3_17, ex3_17, hf⟩ := bd_ex hf
        refine x_iinc o dX12_ahead_86 (by decide) 3 rfl ex3_17.symm [(3, .int x3_17), (2, .int c_15), (0, .ref (ka k a0)), (1, .int x1)] rfl ?_
        refine x_goto o 45 dX12_ahead_89 (by decide) ?_
        refine x_sub [2, 3, 1, 0] [(0, .ref (ka k a0)), (1, .int x1), (2, .int c_15), (3, .int x3_17)] rfl ?_
        exact ih hf hr
set_option maxRecDepth 100000 in
set_option maxHeartbeats 4000000 in
theorem S_X12_ahead_0 {k : Kst} {d : Kdy} (o : Ok k d cX12_ahead RX12 4 9) (F : Nat) {h : Hp} {a0 : Nat} {x1 : Int32} {r : Int32} {h1 : Hp} (hf : X12_ahead F a0 x1 h = some (r, h1)) (hr : RI k d cX12_ahead r h1) : Wz k d h 0 [(0, .ref (ka k a0)), (1, .int x1)] [] := by
  unfold X12_ahead at hf
  refine x_iload_n o dX12_ahead_0 1 rfl rfl ?_
  refine x_iconst (v := 1) o dX12_ahead_1 (by decide) ?_
  refine x_sipush (v := 240) o dX12_ahead_2 (by decide) ?_
  obtain ⟨c_1, ec_1, hf⟩ := ob_ex hf
  refine vRX12_113 [.int x1, .int 1, .int 240] [] o (C_X12_in o.1.2.2.2.2.2.2.1 o.2 F ec_1) (by decide) rfl rfl (Nat.le_of_ble_eq_true rfl) dX12_ahead_5 ?_
  refine x_if_ne o 13 dX12_ahead_8 (by decide) (fun q_3 => ?_) (fun q_3 => ?_)
  · replace hf := (if_neg q_3).symm.trans hf
    refine x_aload_n o dX12_ahead_13 0 rfl rfl ?_
    obtain ⟨k_4, hf⟩ := gq_ex hf
    obtain ⟨j_5, ej_5, hf⟩ := ob_ex hf
    refine gRX12_7 o k_4 ej_5 dX12_ahead_14 ?_
    refine x_aload_n o dX12_ahead_17 0 rfl rfl ?_
    obtain ⟨j_6, ej_6, hf⟩ := ob_ex hf
    refine gRX12_13 o k_4 ej_6 dX12_ahead_18 ?_
    obtain ⟨h_8, eh_8, hf⟩ := ob_ex hf
    refine vRX12_285 [.ref (ka k j_5), .ref (ka k j_6)] [] o (C_X12_copies o.1.2.2.2.2.2.2.1 o.2 F eh_8) (by decide) rfl rfl (Nat.le_of_ble_eq_true rfl) dX12_ahead_21 ?_
    refine x_aload_n o dX12_ahead_24 0 rfl rfl ?_
    obtain ⟨h_10, eh_10, hf⟩ := ob_ex hf
    refine vRX12_335 [] [] o (C_X12_beginsDays o.1.2.2.2.2.2.2.1 o.2 F eh_10) (by decide) k_4 rfl rfl (Nat.le_of_ble_eq_true rfl) dX12_ahead_25 ?_
    refine x_aload_n o dX12_ahead_28 0 rfl rfl ?_
    refine x_iconst (v := 0) o dX12_ahead_29 (by decide) ?_
    obtain ⟨c_11, ec_11, hf⟩ := ob_ex hf
    refine vRX12_121 [.int 0] [] o (C_X12_standing o.1.2.2.2.2.2.2.1 o.2 F ec_11) (by decide) k_4 rfl rfl (Nat.le_of_ble_eq_true rfl) dX12_ahead_30 ?_
    refine x_aload_n o dX12_ahead_33 0 rfl rfl ?_
    refine x_iconst (v := 1) o dX12_ahead_34 (by decide) ?_
    obtain ⟨c_13, ec_13, hf⟩ := ob_ex hf
    refine vRX12_121 [.int 1] [.int c_11] o (C_X12_standing o.1.2.2.2.2.2.2.1 o.2 F ec_13) (by decide) k_4 rfl rfl (Nat.le_of_ble_eq_true rfl) dX12_ahead_35 ?_
    refine x_isub o dX12_ahead_38 ?_
    obtain ⟨c_15, ec_15, hf⟩ := ob_ex hf
    refine vRX12_320 [.int (c_11 - c_13)] [] o (C_X12_size o.1.2.2.2.2.2.2.1 o.2 F ec_15) (by decide) rfl rfl (Nat.le_of_ble_eq_true rfl) dX12_ahead_39 ?_
    refine x_istore_n o dX12_ahead_42 (by decide) rfl [(2, .int c_15), (0, .ref (ka k a0)), (1, .int x1)] rfl ?_
    refine x_iconst (v := 0) o dX12_ahead_43 (by decide) ?_
    refine x_istore_n o dX12_ahead_44 (by decide) rfl [(3, .int 0), (2, .int c_15), (0, .ref (ka k a0)), (1, .int x1)] rfl ?_
    refine x_sub [2, 3, 1, 0] [(0, .ref (ka k a0)), (1, .int x1), (2, .int c_15), (3, .int 0)] rfl ?_
    exact S_X12_ahead_45 o F _ hf hr
  · replace hf := (if_pos q_3).symm.trans hf
    refine x_iconst (v := (-1)) o dX12_ahead_11 (by decide) ?_
    cases hf
    exact hr _ _ dX12_ahead_12
theorem C_X12_ahead {k : Kst} (hj : Dj k) (hn : kn k = kdl.length) (F : Nat) {h : Hp} {a0 : Nat} {x1 : Int32} {r : Int32} {h1 : Hp} (hf : X12_ahead F a0 x1 h = some (r, h1)) : MI k 9 yX12_ahead cX12_ahead 4 (some .int) [.ref (ka k a0), .int x1] h r h1 := mI hj hn (by decide +kernel) (Nat.le_of_ble_eq_true rfl) (fun d o hr => S_X12_ahead_0 o F hf hr)
set_option maxRecDepth 100000 in
set_option maxHeartbeats 4000000 in
theorem S_X12_beyond_97 {k : Kst} {d : Kdy} (o : Ok k d cX12_beyond RX12 5 9) (F : Nat) {h : Hp} {a0 : Nat} {x3 : Int32} {s0 : Int32} {r : Int32} {h1 : Hp} (hf : X12_beyond_97 F a0 x3 s0 h = some (r, h1)) (hr : RI k d cX12_beyond r h1) : Wz k d h 97 [(0, .ref (ka k a0)), (3, .int x3)] [.int s0] := by
  unfold X12_beyond_97 at hf
  refine x_istore o dX12_beyond_97 (by decide) [(4, .int s0), (0, .ref (ka k a0)), (3, .int x3)] rfl ?_
  refine x_aload_n o dX12_beyond_99 1 rfl rfl ?_
  obtain ⟨k_1, hf⟩ := gq_ex hf
  obtain ⟨j_2, ej_2, hf⟩ := ob_ex hf
  refine gRX12_13 o k_1 ej_2 dX12_beyond_100 ?_
  refine x_aload_n o dX12_beyond_103 1 rfl rfl ?_
  obtain ⟨j_3, ej_3, hf⟩ := ob_ex hf
  refine gRX12_7 o k_1 ej_3 dX12_beyond_104 ?_
  obtain ⟨h_5, eh_5, hf⟩ := ob_ex hf
  refine vRX12_285 [.ref (ka k j_2), .ref (ka k j_3)] [] o (C_X12_copies o.1.2.2.2.2.2.2.1 o.2 F eh_5) (by decide) rfl rfl (Nat.le_of_ble_eq_true rfl) dX12_beyond_107 ?_
  refine x_iload o dX12_beyond_110 0 rfl ?_
  refine x_if_eq o 119 dX12_beyond_112 (by decide) (fun q_6 => ?_) (fun q_6 => ?_)
  · replace hf := (if_pos q_6).symm.trans hf
    refine x_bipush (v := (-2)) o dX12_beyond_119 (by decide) ?_
    cases hf
    exact hr _ _ dX12_beyond_121
  · replace hf := (if_neg q_6).symm.trans hf
    refine x_iload_n o dX12_beyond_115 2 rfl rfl ?_
    refine x_goto o 121 dX12_beyond_116 (by decide) ?_
    cases hf
    exact hr _ _ dX12_beyond_121
set_option maxRecDepth 100000 in
set_option maxHeartbeats 4000000 in
theorem S_X12_beyond_81 {k : Kst} {d : Kdy} (o : Ok k d cX12_beyond RX12 5 9) (F : Nat) {h : Hp} {a0 : Nat} {x2 : Int32} {x3 : Int32} {r : Int32} {h1 : Hp} (hf : X12_beyond_81 F a0 x2 x3 h = some (r, h1)) (hr : RI k d cX12_beyond r h1) : Wz k d h 81 [(0, .ref (ka k a0)), (2, .int x2), (3, .int x3)] [] := by
  unfold X12_beyond_81 at hf
  refine x_aload_n o dX12_beyond_81 0 rfl rfl ?_
  obtain ⟨k_1, hf⟩ := gq_ex hf
  obtain ⟨j_2, ej_2, hf⟩ := ob_ex hf
  refine gRX12_7 o k_1 ej_2 dX12_beyond_82 ?_
  refine x_bipush (v := 43) o dX12_beyond_85 (by decide) ?_
  obtain ⟨k_3, hf⟩ := gq_ex hf
  obtain ⟨b_4, hf⟩ := gq_ex hf
  refine x_iald o k_3 b_4 dX12_beyond_87 ?_
  refine x_iload_n o dX12_beyond_88 1 rfl rfl ?_
  refine x_icmp_le o 96 dX12_beyond_89 (by decide) (fun q_5 => ?_) (fun q_5 => ?_)
  · replace hf := (if_pos q_5).symm.trans hf
    refine x_iconst (v := 0) o dX12_beyond_96 (by decide) ?_
    refine x_sub [0, 2] [(0, .ref (ka k a0)), (3, .int x3)] rfl ?_
    exact S_X12_beyond_97 o F hf hr
  · replace hf := (if_neg q_5).symm.trans hf
    refine x_iconst (v := 1) o dX12_beyond_92 (by decide) ?_
    refine x_goto o 97 dX12_beyond_93 (by decide) ?_
    refine x_sub [0, 2] [(0, .ref (ka k a0)), (3, .int x3)] rfl ?_
    exact S_X12_beyond_97 o F hf hr
set_option maxRecDepth 100000 in
set_option maxHeartbeats 4000000 in
theorem S_X12_beyond_41 {k : Kst} {d : Kdy} (o : Ok k d cX12_beyond RX12 5 9) (F : Nat) : ∀ (f : Nat) {h : Hp} {a0 : Nat} {x1 : Int32} {x2 : Int32} {x3 : Int32} {r : Int32} {h1 : Hp}, X12_beyond_41 F f a0 x1 x2 x3 h = some (r, h1) → RI k d cX12_beyond r h1 → Wz k d h 41 [(0, .ref (ka k a0)), (1, .int x1), (2, .int x2), (3, .int x3)] [] := by
  intro f
  induction f with
  | zero =>
    intro h a0 x1 x2 x3 r h1 hf hr
    exact nomatch (show (none : Option _) = some _ from hf)
  | succ f ih =>
    intro h a0 x1 x2 x3 r h1 hf hr
    rw [X12_beyond_41] at hf
    refine x_iload_n o dX12_beyond_41 3 rfl rfl ?_
    refine x_iload_n o dX12_beyond_42 1 rfl rfl ?_
    refine x_icmp_ge o 81 dX12_beyond_43 (by decide) (fun q_1 => ?_) (fun q_1 => ?_)
    · replace hf := (if_pos q_1).symm.trans hf
      refine x_sub [0, 2, 3] [(0, .ref (ka k a0)), (2, .int x2), (3, .int x3)] rfl ?_
      exact S_X12_beyond_81 o F hf hr
    · replace hf := (if_neg q_1).symm.trans hf
      refine x_aload_n o dX12_beyond_46 0 rfl rfl ?_
      obtain ⟨k_2, hf⟩ := gq_ex hf
      obtain ⟨j_3, ej_3, hf⟩ := ob_ex hf
      refine gRX12_7 o k_2 ej_3 dX12_beyond_47 ?_
      refine x_bipush (v := 43) o dX12_beyond_50 (by decide) ?_
      obtain ⟨k_4, hf⟩ := gq_ex hf
      obtain ⟨b_5, hf⟩ := gq_ex hf
      refine x_iald o k_4 b_5 dX12_beyond_52 ?_
      refine x_iload_n o dX12_beyond_53 2 rfl rfl ?_
      refine x_icmp_gt o 81 dX12_beyond_54 (by decide) (fun q_6 => ?_) (fun q_6 => ?_)
      · replace hf := (if_pos q_6).symm.trans hf
        refine x_sub [0, 2, 3] [(0, .ref (ka k a0)), (2, .int x2), (3, .int x3)] rfl ?_
        exact S_X12_beyond_81 o F hf hr
      · replace hf := (if_neg q_6).symm.trans hf
        refine x_aload_n o dX12_beyond_57 0 rfl rfl ?_
        refine gRX12_7 o k_2 ej_3 dX12_beyond_58 ?_
        refine x_bipush (v := 44) o dX12_beyond_61 (by decide) ?_
        obtain ⟨b_7, hf⟩ := gq_ex hf
        refine x_iald o k_4 b_7 dX12_beyond_63 ?_
        refine x_sipush (v := 9999) o dX12_beyond_64 (by decide) ?_
        refine x_icmp_ge o 81 dX12_beyond_67 (by decide) (fun q_8 => ?_) (fun q_8 => ?_)
        · replace hf := (if_pos q_8).symm.trans hf
          refine x_sub [0, 2, 3] [(0, .ref (ka k a0)), (2, .int x2), (3, .int x3)] rfl ?_
          exact S_X12_beyond_81 o F hf hr
        · replace hf := (if_neg q_8).symm.trans hf
          refine x_aload_n o dX12_beyond_70 0 rfl rfl ?_
          obtain ⟨h_10, eh_10, hf⟩ := ob_ex hf
          refine vRX12_338 [] [] o (C_X12_dayGoes o.1.2.2.2.2.2.2.1 o.2 F eh_10) (by decide) k_2 rfl rfl (Nat.le_of_ble_eq_true rfl) dX12_beyond_71 ?_
          refine x_iload_n o dX12_beyond_74 3 rfl rfl ?_
          refine x_iconst (v := 1) o dX12_beyond_75 (by decide) ?_
          refine x_iadd o dX12_beyond_76 ?_
          obtain ⟨x3_11, ex3_11, hf⟩ := bd_ex hf
          refine x_top ex3_11 ?_
          refine x_istore_n o dX12_beyond_77 (by decide) rfl [(3, .int x3_11), (0, .ref (ka k a0)), (1, .int x1), (2, .int x2)] rfl ?_
          refine x_goto o 41 dX12_beyond_78 (by decide) ?_
          refine x_sub [1, 2, 3, 0] [(0, .ref (ka k a0)), (1, .int x1), (2, .int x2), (3, .int x3_11)] rfl ?_
          exact ih hf hr
set_option maxRecDepth 100000 in
set_option maxHeartbeats 4000000 in
theorem S_X12_beyond_0 {k : Kst} {d : Kdy} (o : Ok k d cX12_beyond RX12 5 9) (F : Nat) {h : Hp} {a0 : Nat} {x1 : Int32} {x2 : Int32} {r : Int32} {h1 : Hp} (hf : X12_beyond F a0 x1 x2 h = some (r, h1)) (hr : RI k d cX12_beyond r h1) : Wz k d h 0 [(0, .ref (ka k a0)), (1, .int x1), (2, .int x2)] [] := by
  unfold X12_beyond at hf
  refine x_iload_n o dX12_beyond_0 1 rfl rfl ?_
  refine x_iconst (v := 1) o dX12_beyond_1 (by decide) ?_
  refine x_sipush (v := 240) o dX12_beyond_2 (by decide) ?_
  obtain ⟨c_1, ec_1, hf⟩ := ob_ex hf
  refine vRX12_113 [.int x1, .int 1, .int 240] [] o (C_X12_in o.1.2.2.2.2.2.2.1 o.2 F ec_1) (by decide) rfl rfl (Nat.le_of_ble_eq_true rfl) dX12_beyond_5 ?_
  refine x_if_eq o 22 dX12_beyond_8 (by decide) (fun q_3 => ?_) (fun q_3 => ?_)
  · replace hf := (if_pos q_3).symm.trans hf
    refine x_iconst (v := (-1)) o dX12_beyond_22 (by decide) ?_
    cases hf
    exact hr _ _ dX12_beyond_23
  · replace hf := (if_neg q_3).symm.trans hf
    refine x_iload_n o dX12_beyond_11 2 rfl rfl ?_
    refine x_iconst (v := 0) o dX12_beyond_12 (by decide) ?_
    refine x_ldcw (v := 999999) o dX12_beyond_13 wRX12_281 ?_
    obtain ⟨c_4, ec_4, hf⟩ := ob_ex hf
    refine vRX12_113 [.int x2, .int 0, .int 999999] [] o (C_X12_in o.1.2.2.2.2.2.2.1 o.2 F ec_4) (by decide) rfl rfl (Nat.le_of_ble_eq_true rfl) dX12_beyond_16 ?_
    refine x_if_ne o 24 dX12_beyond_19 (by decide) (fun q_6 => ?_) (fun q_6 => ?_)
    · replace hf := (if_neg q_6).symm.trans hf
      refine x_aload_n o dX12_beyond_24 0 rfl rfl ?_
      obtain ⟨k_7, hf⟩ := gq_ex hf
      obtain ⟨j_8, ej_8, hf⟩ := ob_ex hf
      refine gRX12_7 o k_7 ej_8 dX12_beyond_25 ?_
      refine x_aload_n o dX12_beyond_28 0 rfl rfl ?_
      obtain ⟨j_9, ej_9, hf⟩ := ob_ex hf
      refine gRX12_13 o k_7 ej_9 dX12_beyond_29 ?_
      obtain ⟨h_11, eh_11, hf⟩ := ob_ex hf
      refine vRX12_285 [.ref (ka k j_8), .ref (ka k j_9)] [] o (C_X12_copies o.1.2.2.2.2.2.2.1 o.2 F eh_11) (by decide) rfl rfl (Nat.le_of_ble_eq_true rfl) dX12_beyond_32 ?_
      refine x_aload_n o dX12_beyond_35 0 rfl rfl ?_
      obtain ⟨h_13, eh_13, hf⟩ := ob_ex hf
      refine vRX12_335 [] [] o (C_X12_beginsDays o.1.2.2.2.2.2.2.1 o.2 F eh_13) (by decide) k_7 rfl rfl (Nat.le_of_ble_eq_true rfl) dX12_beyond_36 ?_
      refine x_iconst (v := 0) o dX12_beyond_39 (by decide) ?_
      refine x_istore_n o dX12_beyond_40 (by decide) rfl [(3, .int 0), (0, .ref (ka k a0)), (1, .int x1), (2, .int x2)] rfl ?_
      refine x_sub [1, 2, 3, 0] [(0, .ref (ka k a0)), (1, .int x1), (2, .int x2), (3, .int 0)] rfl ?_
      exact S_X12_beyond_41 o F _ hf hr
    · replace hf := (if_pos q_6).symm.trans hf
      refine x_iconst (v := (-1)) o dX12_beyond_22 (by decide) ?_
      cases hf
      exact hr _ _ dX12_beyond_23
theorem C_X12_beyond {k : Kst} (hj : Dj k) (hn : kn k = kdl.length) (F : Nat) {h : Hp} {a0 : Nat} {x1 : Int32} {x2 : Int32} {r : Int32} {h1 : Hp} (hf : X12_beyond F a0 x1 x2 h = some (r, h1)) : MI k 9 yX12_beyond cX12_beyond 5 (some .int) [.ref (ka k a0), .int x1, .int x2] h r h1 := mI hj hn (by decide +kernel) (Nat.le_of_ble_eq_true rfl) (fun d o hr => S_X12_beyond_0 o F hf hr)
set_option maxRecDepth 100000 in
set_option maxHeartbeats 4000000 in
theorem S_X12_sumOf_29 {k : Kst} {d : Kdy} (o : Ok k d cX12_sumOf RX12 5 4) (F : Nat) {k5 : Nat → Int32 → Int32 → Int32 → Int32 → Hp → Option Int32} (hk5 : ∀ {h : Hp} {a0 : Nat} {x1 : Int32} {x2 : Int32} {x3 : Int32} {x4 : Int32} {r : Int32}, k5 a0 x1 x2 x3 x4 h = some r → RI k d cX12_sumOf r h → Wz k d h 5 [(0, .ref (ka k a0)), (1, .int x1), (2, .int x2), (3, .int x3), (4, .int x4)] []) {h : Hp} {a0 : Nat} {x1 : Int32} {x2 : Int32} {x3 : Int32} {x4 : Int32} {r : Int32} (hf : X12_sumOf_29 F k5 a0 x1 x2 x3 x4 h = some r) (hr : RI k d cX12_sumOf r h) : Wz k d h 29 [(0, .ref (ka k a0)), (1, .int x1), (2, .int x2), (3, .int x3), (4, .int x4)] [] := by
  unfold X12_sumOf_29 at hf
  obtain ⟨x4_1, ex4_1, hf⟩ := bd_ex hf
  refine x_iinc o dX12_sumOf_29 (by decide) 4 rfl ex4_1.symm [(4, .int x4_1), (0, .ref (ka k a0)), (1, .int x1), (2, .int x2), (3, .int x3)] rfl ?_
  refine x_goto o 5 dX12_sumOf_32 (by decide) ?_
  refine x_sub [1, 2, 3, 4, 0] [(0, .ref (ka k a0)), (1, .int x1), (2, .int x2), (3, .int x3), (4, .int x4_1)] rfl ?_
  exact hk5 hf hr
set_option maxRecDepth 100000 in
set_option maxHeartbeats 4000000 in
theorem S_X12_sumOf_5 {k : Kst} {d : Kdy} (o : Ok k d cX12_sumOf RX12 5 4) (F : Nat) : ∀ (f : Nat) {h : Hp} {a0 : Nat} {x1 : Int32} {x2 : Int32} {x3 : Int32} {x4 : Int32} {r : Int32}, X12_sumOf_5 F f a0 x1 x2 x3 x4 h = some r → RI k d cX12_sumOf r h → Wz k d h 5 [(0, .ref (ka k a0)), (1, .int x1), (2, .int x2), (3, .int x3), (4, .int x4)] [] := by
  intro f
  induction f with
  | zero =>
    intro h a0 x1 x2 x3 x4 r hf hr
    exact nomatch (show (none : Option _) = some _ from hf)
  | succ f ih =>
    intro h a0 x1 x2 x3 x4 r hf hr
    rw [X12_sumOf_5] at hf
    refine x_iload o dX12_sumOf_5 4 rfl ?_
    refine x_iload_n o dX12_sumOf_7 2 rfl rfl ?_
    refine x_icmp_ge o 35 dX12_sumOf_8 (by decide) (fun q_1 => ?_) (fun q_1 => ?_)
    · replace hf := (if_pos q_1).symm.trans hf
      refine x_iload_n o dX12_sumOf_35 3 rfl rfl ?_
      cases hf
      exact hr _ _ dX12_sumOf_36
    · replace hf := (if_neg q_1).symm.trans hf
      refine x_iload_n o dX12_sumOf_11 1 rfl rfl ?_
      refine x_iload o dX12_sumOf_12 4 rfl ?_
      obtain ⟨c_2, ec_2, hf⟩ := ob_ex hf
      refine vRX12_354 [.int x1, .int x4] [] o (C_X12_has o.1.2.2.2.2.2.2.1 o.2 F ec_2) (by decide) rfl rfl (Nat.le_of_ble_eq_true rfl) dX12_sumOf_14 ?_
      refine x_if_eq o 29 dX12_sumOf_17 (by decide) (fun q_4 => ?_) (fun q_4 => ?_)
      · replace hf := (if_pos q_4).symm.trans hf
        refine x_sub [0, 1, 2, 3, 4] [(0, .ref (ka k a0)), (1, .int x1), (2, .int x2), (3, .int x3), (4, .int x4)] rfl ?_
        exact S_X12_sumOf_29 o F (fun q1 q2 => ih q1 q2) hf hr
      · replace hf := (if_neg q_4).symm.trans hf
        refine x_iload_n o dX12_sumOf_20 3 rfl rfl ?_
        refine x_aload_n o dX12_sumOf_21 0 rfl rfl ?_
        refine x_iload o dX12_sumOf_22 4 rfl ?_
        obtain ⟨k_5, hf⟩ := gq_ex hf
        obtain ⟨c_6, ec_6, hf⟩ := ob_ex hf
        refine vRX12_245 [.int x4] [.int x3] o (C_X12_octet o.1.2.2.2.2.2.2.1 o.2 F ec_6) (by decide) k_5 rfl rfl (Nat.le_of_ble_eq_true rfl) dX12_sumOf_24 ?_
        refine x_iadd o dX12_sumOf_27 ?_
        obtain ⟨x3_8, ex3_8, hf⟩ := bd_ex hf
        refine x_top ex3_8 ?_
        refine x_istore_n o dX12_sumOf_28 (by decide) rfl [(3, .int x3_8), (0, .ref (ka k a0)), (1, .int x1), (2, .int x2), (4, .int x4)] rfl ?_
        refine x_sub [1, 2, 3, 0, 4] [(0, .ref (ka k a0)), (1, .int x1), (2, .int x2), (3, .int x3_8), (4, .int x4)] rfl ?_
        exact S_X12_sumOf_29 o F (fun q1 q2 => ih q1 q2) hf hr
set_option maxRecDepth 100000 in
set_option maxHeartbeats 4000000 in
theorem S_X12_sumOf_0 {k : Kst} {d : Kdy} (o : Ok k d cX12_sumOf RX12 5 4) (F : Nat) {h : Hp} {a0 : Nat} {x1 : Int32} {x2 : Int32} {r : Int32} (hf : X12_sumOf F a0 x1 x2 h = some r) (hr : RI k d cX12_sumOf r h) : Wz k d h 0 [(0, .ref (ka k a0)), (1, .int x1), (2, .int x2)] [] := by
  unfold X12_sumOf at hf
  refine x_iconst (v := 0) o dX12_sumOf_0 (by decide) ?_
  refine x_istore_n o dX12_sumOf_1 (by decide) rfl [(3, .int 0), (0, .ref (ka k a0)), (1, .int x1), (2, .int x2)] rfl ?_
  refine x_iconst (v := 0) o dX12_sumOf_2 (by decide) ?_
  refine x_istore o dX12_sumOf_3 (by decide) [(4, .int 0), (3, .int 0), (0, .ref (ka k a0)), (1, .int x1), (2, .int x2)] rfl ?_
  refine x_sub [2, 3, 4, 1, 0] [(0, .ref (ka k a0)), (1, .int x1), (2, .int x2), (3, .int 0), (4, .int 0)] rfl ?_
  exact S_X12_sumOf_5 o F _ hf hr
theorem C_X12_sumOf {k : Kst} (hj : Dj k) (hn : kn k = kdl.length) (F : Nat) {h : Hp} {a0 : Nat} {x1 : Int32} {x2 : Int32} {r : Int32} (hf : X12_sumOf F a0 x1 x2 h = some r) : MI k 4 yX12_sumOf cX12_sumOf 5 (some .int) [.ref (ka k a0), .int x1, .int x2] h r h := mI hj hn (by decide +kernel) (Nat.le_of_ble_eq_true rfl) (fun d o hr => S_X12_sumOf_0 o F hf hr)
set_option maxRecDepth 100000 in
set_option maxHeartbeats 4000000 in
theorem S_X12_even_182 {k : Kst} {d : Kdy} (o : Ok k d cX12_even RX12 8 6) (F : Nat) {k97 : Nat → Int32 → Int32 → Int32 → Int32 → Int32 → Hp → Option (Int32 × Hp)} {k108 : Nat → Int32 → Int32 → Int32 → Int32 → Int32 → Int32 → Hp → Option (Int32 × Hp)} (hk97 : ∀ {h : Hp} {a0 : Nat} {x1 : Int32} {x2 : Int32} {x3 : Int32} {x4 : Int32} {x5 : Int32} {r : Int32} {h1 : Hp}, k97 a0 x1 x2 x3 x4 x5 h = some (r, h1) → RI k d cX12_even r h1 → Wz k d h 97 [(0, .ref (ka k a0)), (1, .int x1), (2, .int x2), (3, .int x3), (4, .int x4), (5, .int x5)] []) (hk108 : ∀ {h : Hp} {a0 : Nat} {x1 : Int32} {x2 : Int32} {x3 : Int32} {x4 : Int32} {x5 : Int32} {x6 : Int32} {r : Int32} {h1 : Hp}, k108 a0 x1 x2 x3 x4 x5 x6 h = some (r, h1) → RI k d cX12_even r h1 → Wz k d h 108 [(0, .ref (ka k a0)), (1, .int x1), (2, .int x2), (3, .int x3), (4, .int x4), (5, .int x5), (6, .int x6)] []) {h : Hp} {a0 : Nat} {x1 : Int32} {x2 : Int32} {x3 : Int32} {x4 : Int32} {x5 : Int32} {x6 : Int32} {r : Int32} {h1 : Hp} (hf : X12_even_182 F k97 k108 a0 x1 x2 x3 x4 x5 x6 h = some (r, h1)) (hr : RI k d cX12_even r h1) : Wz k d h 182 [(0, .ref (ka k a0)), (1, .int x1), (2, .int x2), (3, .int x3), (4, .int x4), (5, .int x5), (6, .int x6)] [] := by
  unfold X12_even_182 at hf
  obtain ⟨x6_1, ex6_1, hf⟩ := bd_ex hf
  refine x_iinc o dX12_even_182 (by decide) 6 rfl ex6_1.symm [(6, .int x6_1), (0, .ref (ka k a0)), (1, .int x1), (2, .int x2), (3, .int x3), (4, .int x4), (5, .int x5)] rfl ?_
  refine x_goto o 108 dX12_even_185 (by decide) ?_
  refine x_sub [1, 2, 3, 4, 5, 6, 0] [(0, .ref (ka k a0)), (1, .int x1), (2, .int x2), (3, .int x3), (4, .int x4), (5, .int x5), (6, .int x6_1)] rfl ?_
  exact hk108 hf hr
set_option maxRecDepth 100000 in
set_option maxHeartbeats 4000000 in
theorem S_X12_even_108 {k : Kst} {d : Kdy} (o : Ok k d cX12_even RX12 8 6) (F : Nat) {k97 : Nat → Int32 → Int32 → Int32 → Int32 → Int32 → Hp → Option (Int32 × Hp)} (hk97 : ∀ {h : Hp} {a0 : Nat} {x1 : Int32} {x2 : Int32} {x3 : Int32} {x4 : Int32} {x5 : Int32} {r : Int32} {h1 : Hp}, k97 a0 x1 x2 x3 x4 x5 h = some (r, h1) → RI k d cX12_even r h1 → Wz k d h 97 [(0, .ref (ka k a0)), (1, .int x1), (2, .int x2), (3, .int x3), (4, .int x4), (5, .int x5)] []) : ∀ (f : Nat) {h : Hp} {a0 : Nat} {x1 : Int32} {x2 : Int32} {x3 : Int32} {x4 : Int32} {x5 : Int32} {x6 : Int32} {r : Int32} {h1 : Hp}, X12_even_108 F k97 f a0 x1 x2 x3 x4 x5 x6 h = some (r, h1) → RI k d cX12_even r h1 → Wz k d h 108 [(0, .ref (ka k a0)), (1, .int x1), (2, .int x2), (3, .int x3), (4, .int x4), (5, .int x5), (6, .int x6)] [] := by
  intro f
  induction f with
  | zero =>
    intro h a0 x1 x2 x3 x4 x5 x6 r h1 hf hr
    exact nomatch (show (none : Option _) = some _ from hf)
  | succ f ih =>
    intro h a0 x1 x2 x3 x4 x5 x6 r h1 hf hr
    rw [X12_even_108] at hf
    refine x_iload o dX12_even_108 6 rfl ?_
    refine x_iconst (v := 1) o dX12_even_110 (by decide) ?_
    refine x_iload_n o dX12_even_111 1 rfl rfl ?_
    refine x_ishl o dX12_even_112 ?_
    refine x_icmp_ge o 188 dX12_even_113 (by decide) (fun q_1 => ?_) (fun q_1 => ?_)
    · replace hf := (if_pos q_1).symm.trans hf
      obtain ⟨x5_2, ex5_2, hf⟩ := bd_ex hf
      refine x_iinc o dX12_even_188 (by decide) 5 rfl ex5_2.symm [(5, .int x5_2), (0, .ref (ka k a0)), (1, .int x1), (2, .int x2), (3, .int x3), (4, .int x4), (6, .int x6)] rfl ?_
      refine x_goto o 97 dX12_even_191 (by decide) ?_
      refine x_sub [1, 2, 3, 4, 5, 0] [(0, .ref (ka k a0)), (1, .int x1), (2, .int x2), (3, .int x3), (4, .int x4), (5, .int x5_2)] rfl ?_
      exact hk97 hf hr
    · replace hf := (if_neg q_1).symm.trans hf
      refine x_iload o dX12_even_116 5 rfl ?_
      refine x_iload o dX12_even_118 6 rfl ?_
      refine x_iand o dX12_even_120 ?_
      refine x_if_eq o 127 dX12_even_121 (by decide) (fun q_3 => ?_) (fun q_3 => ?_)
      · replace hf := (if_pos q_3).symm.trans hf
        refine x_iload_n o dX12_even_127 3 rfl rfl ?_
        refine x_aload_n o dX12_even_128 0 rfl rfl ?_
        refine x_iconst (v := 0) o dX12_even_129 (by decide) ?_
        obtain ⟨k_4, hf⟩ := gq_ex hf
        obtain ⟨c_5, ec_5, hf⟩ := ob_ex hf
        refine vRX12_121 [.int 0] [.int x3] o (C_X12_standing o.1.2.2.2.2.2.2.1 o.2 F ec_5) (by decide) k_4 rfl rfl (Nat.le_of_ble_eq_true rfl) dX12_even_130 ?_
        refine x_aload_n o dX12_even_133 0 rfl rfl ?_
        refine x_iload o dX12_even_134 5 rfl ?_
        refine x_iload_n o dX12_even_136 1 rfl rfl ?_
        obtain ⟨c_7, ec_7, hf⟩ := ob_ex hf
        refine vRX12_348 [.int x5, .int x1] [.int c_5, .int x3] o (C_X12_sumOf o.1.2.2.2.2.2.2.1 o.2 F ec_7) (by decide) k_4 rfl rfl (Nat.le_of_ble_eq_true rfl) dX12_even_137 ?_
        refine x_imul o dX12_even_140 ?_
        refine x_iadd o dX12_even_141 ?_
        refine x_aload_n o dX12_even_142 0 rfl rfl ?_
        refine x_iconst (v := 1) o dX12_even_143 (by decide) ?_
        obtain ⟨c_9, ec_9, hf⟩ := ob_ex hf
        refine vRX12_121 [.int 1] [.int (x3 + (c_5 * c_7))] o (C_X12_standing o.1.2.2.2.2.2.2.1 o.2 F ec_9) (by decide) k_4 rfl rfl (Nat.le_of_ble_eq_true rfl) dX12_even_144 ?_
        refine x_aload_n o dX12_even_147 0 rfl rfl ?_
        refine x_iload o dX12_even_148 6 rfl ?_
        refine x_iload_n o dX12_even_150 1 rfl rfl ?_
        obtain ⟨c_11, ec_11, hf⟩ := ob_ex hf
        refine vRX12_348 [.int x6, .int x1] [.int c_9, .int (x3 + (c_5 * c_7))] o (C_X12_sumOf o.1.2.2.2.2.2.2.1 o.2 F ec_11) (by decide) k_4 rfl rfl (Nat.le_of_ble_eq_true rfl) dX12_even_151 ?_
        refine x_imul o dX12_even_154 ?_
        refine x_isub o dX12_even_155 ?_
        obtain ⟨c_13, ec_13, hf⟩ := ob_ex hf
        refine vRX12_320 [.int ((x3 + (c_5 * c_7)) - (c_9 * c_11))] [] o (C_X12_size o.1.2.2.2.2.2.2.1 o.2 F ec_13) (by decide) rfl rfl (Nat.le_of_ble_eq_true rfl) dX12_even_156 ?_
        refine x_istore o dX12_even_159 (by decide) [(7, .int c_13), (0, .ref (ka k a0)), (1, .int x1), (2, .int x2), (3, .int x3), (4, .int x4), (5, .int x5), (6, .int x6)] rfl ?_
        refine x_iload o dX12_even_161 5 rfl ?_
        refine x_bipush (v := 10) o dX12_even_163 (by decide) ?_
        refine x_iload o dX12_even_165 0 rfl ?_
        refine x_imul o dX12_even_167 ?_
        refine x_iload o dX12_even_168 6 rfl ?_
        refine x_iload o dX12_even_170 7 rfl ?_
        refine x_ior o dX12_even_172 ?_
        obtain ⟨c_15, ec_15, hf⟩ := ob_ex hf
        refine vRX12_351 [.int (x5 ||| x6)] [.int (10 * c_13), .int x4] o (C_X12_bits o.1.2.2.2.2.2.2.1 o.2 F ec_15) (by decide) rfl rfl (Nat.le_of_ble_eq_true rfl) dX12_even_173 ?_
        refine x_iadd o dX12_even_176 ?_
        obtain ⟨c_17, ec_17, hf⟩ := ob_ex hf
        refine vRX12_269 [.int x4, .int ((10 * c_13) + c_15)] [] o (C_X12_min o.1.2.2.2.2.2.2.1 o.2 F ec_17) (by decide) rfl rfl (Nat.le_of_ble_eq_true rfl) dX12_even_177 ?_
        refine x_istore o dX12_even_180 (by decide) [(4, .int c_17), (7, .int c_13), (0, .ref (ka k a0)), (1, .int x1), (2, .int x2), (3, .int x3), (5, .int x5), (6, .int x6)] rfl ?_
        refine x_sub [2, 3, 4, 5, 0, 6, 7] [(0, .ref (ka k a0)), (1, .int x1), (2, .int x2), (3, .int x3), (4, .int c_17), (5, .int x5), (6, .int x6)] rfl ?_
        exact S_X12_even_182 o F hk97 (fun q1 q2 => ih q1 q2) hf hr
      · replace hf := (if_neg q_3).symm.trans hf
        refine x_goto o 182 dX12_even_124 (by decide) ?_
        refine x_sub [0, 1, 2, 3, 4, 5, 6] [(0, .ref (ka k a0)), (1, .int x1), (2, .int x2), (3, .int x3), (4, .int x4), (5, .int x5), (6, .int x6)] rfl ?_
        exact S_X12_even_182 o F hk97 (fun q1 q2 => ih q1 q2) hf hr
set_option maxRecDepth 100000 in
set_option maxHeartbeats 4000000 in
theorem S_X12_even_97 {k : Kst} {d : Kdy} (o : Ok k d cX12_even RX12 8 6) (F : Nat) : ∀ (f : Nat) {h : Hp} {a0 : Nat} {x1 : Int32} {x2 : Int32} {x3 : Int32} {x4 : Int32} {x5 : Int32} {r : Int32} {h1 : Hp}, X12_even_97 F f a0 x1 x2 x3 x4 x5 h = some (r, h1) → RI k d cX12_even r h1 → Wz k d h 97 [(0, .ref (ka k a0)), (1, .int x1), (2, .int x2), (3, .int x3), (4, .int x4), (5, .int x5)] [] := by
  intro f
  induction f with
  | zero =>
    intro h a0 x1 x2 x3 x4 x5 r h1 hf hr
    exact nomatch (show (none : Option _) = some _ from hf)
  | succ f ih =>
    intro h a0 x1 x2 x3 x4 x5 r h1 hf hr
    rw [X12_even_97] at hf
    refine x_iload o dX12_even_97 5 rfl ?_
    refine x_iconst (v := 1) o dX12_even_99 (by decide) ?_
    refine x_iload_n o dX12_even_100 1 rfl rfl ?_
    refine x_ishl o dX12_even_101 ?_
    refine x_icmp_ge o 194 dX12_even_102 (by decide) (fun q_1 => ?_) (fun q_1 => ?_)
    · replace hf := (if_pos q_1).symm.trans hf
      refine x_iload_n o dX12_even_194 2 rfl rfl ?_
      refine x_if_ne o 206 dX12_even_195 (by decide) (fun q_2 => ?_) (fun q_2 => ?_)
      · replace hf := (if_neg q_2).symm.trans hf
        refine x_iload o dX12_even_206 4 rfl ?_
        refine x_bipush (v := 10) o dX12_even_208 (by decide) ?_
        refine x_irem o dX12_even_210 (by decide) ?_
        cases hf
        exact hr _ _ dX12_even_211
      · replace hf := (if_pos q_2).symm.trans hf
        refine x_iload o dX12_even_198 4 rfl ?_
        refine x_bipush (v := 10) o dX12_even_200 (by decide) ?_
        refine x_idiv o dX12_even_202 (by decide) ?_
        refine x_goto o 211 dX12_even_203 (by decide) ?_
        cases hf
        exact hr _ _ dX12_even_211
    · replace hf := (if_neg q_1).symm.trans hf
      refine x_iconst (v := 0) o dX12_even_105 (by decide) ?_
      refine x_istore o dX12_even_106 (by decide) [(6, .int 0), (0, .ref (ka k a0)), (1, .int x1), (2, .int x2), (3, .int x3), (4, .int x4), (5, .int x5)] rfl ?_
      refine x_sub [1, 2, 3, 4, 5, 6, 0] [(0, .ref (ka k a0)), (1, .int x1), (2, .int x2), (3, .int x3), (4, .int x4), (5, .int x5), (6, .int 0)] rfl ?_
      exact S_X12_even_108 o F (fun q1 q2 => ih q1 q2) _ hf hr
set_option maxRecDepth 100000 in
set_option maxHeartbeats 4000000 in
theorem S_X12_even_55 {k : Kst} {d : Kdy} (o : Ok k d cX12_even RX12 8 6) (F : Nat) : ∀ (f : Nat) {h : Hp} {a0 : Nat} {x1 : Int32} {x2 : Int32} {x3 : Int32} {r : Int32} {h1 : Hp}, X12_even_55 F f a0 x1 x2 x3 h = some (r, h1) → RI k d cX12_even r h1 → Wz k d h 55 [(0, .ref (ka k a0)), (1, .int x1), (2, .int x2), (3, .int x3)] [] := by
  intro f
  induction f with
  | zero =>
    intro h a0 x1 x2 x3 r h1 hf hr
    exact nomatch (show (none : Option _) = some _ from hf)
  | succ f ih =>
    intro h a0 x1 x2 x3 r h1 hf hr
    rw [X12_even_55] at hf
    refine x_iload_n o dX12_even_55 3 rfl rfl ?_
    refine x_iload_n o dX12_even_56 1 rfl rfl ?_
    refine x_icmp_ge o 77 dX12_even_57 (by decide) (fun q_1 => ?_) (fun q_1 => ?_)
    · replace hf := (if_pos q_1).symm.trans hf
      refine x_aload_n o dX12_even_77 0 rfl rfl ?_
      refine x_iconst (v := 0) o dX12_even_78 (by decide) ?_
      obtain ⟨k_2, hf⟩ := gq_ex hf
      obtain ⟨c_3, ec_3, hf⟩ := ob_ex hf
      refine vRX12_317 [.int 0] [] o (C_X12_weightOf o.1.2.2.2.2.2.2.1 o.2 F ec_3) (by decide) k_2 rfl rfl (Nat.le_of_ble_eq_true rfl) dX12_even_79 ?_
      refine x_aload_n o dX12_even_82 0 rfl rfl ?_
      refine x_iconst (v := 1) o dX12_even_83 (by decide) ?_
      obtain ⟨c_5, ec_5, hf⟩ := ob_ex hf
      refine vRX12_317 [.int 1] [.int c_3] o (C_X12_weightOf o.1.2.2.2.2.2.2.1 o.2 F ec_5) (by decide) k_2 rfl rfl (Nat.le_of_ble_eq_true rfl) dX12_even_84 ?_
      refine x_isub o dX12_even_87 ?_
      obtain ⟨x3_7, ex3_7, hf⟩ := bd_ex hf
      refine x_top ex3_7 ?_
      refine x_istore_n o dX12_even_88 (by decide) rfl [(3, .int x3_7), (0, .ref (ka k a0)), (1, .int x1), (2, .int x2)] rfl ?_
      refine x_ldcw (v := 100000000) o dX12_even_89 wRX12_347 ?_
      refine x_istore o dX12_even_92 (by decide) [(4, .int 100000000), (3, .int x3_7), (0, .ref (ka k a0)), (1, .int x1), (2, .int x2)] rfl ?_
      refine x_iconst (v := 0) o dX12_even_94 (by decide) ?_
      refine x_istore o dX12_even_95 (by decide) [(5, .int 0), (4, .int 100000000), (3, .int x3_7), (0, .ref (ka k a0)), (1, .int x1), (2, .int x2)] rfl ?_
      refine x_sub [3, 4, 5, 2, 1, 0] [(0, .ref (ka k a0)), (1, .int x1), (2, .int x2), (3, .int x3_7), (4, .int 100000000), (5, .int 0)] rfl ?_
      exact S_X12_even_97 o F _ hf hr
    · replace hf := (if_neg q_1).symm.trans hf
      refine x_aload_n o dX12_even_60 0 rfl rfl ?_
      refine x_iload_n o dX12_even_61 3 rfl rfl ?_
      obtain ⟨k_8, hf⟩ := gq_ex hf
      obtain ⟨c_9, ec_9, hf⟩ := ob_ex hf
      refine vRX12_245 [.int x3] [] o (C_X12_octet o.1.2.2.2.2.2.2.1 o.2 F ec_9) (by decide) k_8 rfl rfl (Nat.le_of_ble_eq_true rfl) dX12_even_62 ?_
      refine x_if_ne o 71 dX12_even_65 (by decide) (fun q_11 => ?_) (fun q_11 => ?_)
      · replace hf := (if_neg q_11).symm.trans hf
        obtain ⟨x3_12, ex3_12, hf⟩ := bd_ex hf
        refine x_iinc o dX12_even_71 (by decide) 3 rfl ex3_12.symm [(3, .int x3_12), (0, .ref (ka k a0)), (1, .int x1), (2, .int x2)] rfl ?_
        refine x_goto o 55 dX12_even_74 (by decide) ?_
        refine x_sub [1, 2, 3, 0] [(0, .ref (ka k a0)), (1, .int x1), (2, .int x2), (3, .int x3_12)] rfl ?_
        exact ih hf hr
      · replace hf := (if_pos q_11).symm.trans hf
        refine x_bipush (v := (-3)) o dX12_even_68 (by decide) ?_
        cases hf
        exact hr _ _ dX12_even_70
set_option maxRecDepth 100000 in
set_option maxHeartbeats 4000000 in
theorem S_X12_even_0 {k : Kst} {d : Kdy} (o : Ok k d cX12_even RX12 8 6) (F : Nat) {h : Hp} {a0 : Nat} {x1 : Int32} {x2 : Int32} {r : Int32} {h1 : Hp} (hf : X12_even F a0 x1 x2 h = some (r, h1)) (hr : RI k d cX12_even r h1) : Wz k d h 0 [(0, .ref (ka k a0)), (1, .int x1), (2, .int x2)] [] := by
  unfold X12_even at hf
  refine x_iload_n o dX12_even_0 1 rfl rfl ?_
  refine x_iconst (v := 1) o dX12_even_1 (by decide) ?_
  refine x_bipush (v := 8) o dX12_even_2 (by decide) ?_
  obtain ⟨c_1, ec_1, hf⟩ := ob_ex hf
  refine vRX12_113 [.int x1, .int 1, .int 8] [] o (C_X12_in o.1.2.2.2.2.2.2.1 o.2 F ec_1) (by decide) rfl rfl (Nat.le_of_ble_eq_true rfl) dX12_even_4 ?_
  refine x_if_eq o 27 dX12_even_7 (by decide) (fun q_3 => ?_) (fun q_3 => ?_)
  · replace hf := (if_pos q_3).symm.trans hf
    refine x_iconst (v := (-1)) o dX12_even_27 (by decide) ?_
    cases hf
    exact hr _ _ dX12_even_28
  · replace hf := (if_neg q_3).symm.trans hf
    refine x_iload_n o dX12_even_10 2 rfl rfl ?_
    refine x_iconst (v := 0) o dX12_even_11 (by decide) ?_
    refine x_iconst (v := 1) o dX12_even_12 (by decide) ?_
    obtain ⟨c_4, ec_4, hf⟩ := ob_ex hf
    refine vRX12_113 [.int x2, .int 0, .int 1] [] o (C_X12_in o.1.2.2.2.2.2.2.1 o.2 F ec_4) (by decide) rfl rfl (Nat.le_of_ble_eq_true rfl) dX12_even_13 ?_
    refine x_if_eq o 27 dX12_even_16 (by decide) (fun q_6 => ?_) (fun q_6 => ?_)
    · replace hf := (if_pos q_6).symm.trans hf
      refine x_iconst (v := (-1)) o dX12_even_27 (by decide) ?_
      cases hf
      exact hr _ _ dX12_even_28
    · replace hf := (if_neg q_6).symm.trans hf
      refine x_iload_n o dX12_even_19 1 rfl rfl ?_
      refine x_aload_n o dX12_even_20 0 rfl rfl ?_
      obtain ⟨k_7, hf⟩ := gq_ex hf
      refine gRX12_128 o k_7 dX12_even_21 ?_
      refine x_icmp_le o 29 dX12_even_24 (by decide) (fun q_8 => ?_) (fun q_8 => ?_)
      · replace hf := (if_pos q_8).symm.trans hf
        refine x_aload_n o dX12_even_29 0 rfl rfl ?_
        refine x_iconst (v := 0) o dX12_even_30 (by decide) ?_
        obtain ⟨h_9, eh_9, hf⟩ := bd_ex hf
        refine pRX12_128 o k_7 eh_9 dX12_even_31 ?_
        refine x_aload_n o dX12_even_34 0 rfl rfl ?_
        refine x_iconst (v := 0) o dX12_even_35 (by decide) ?_
        obtain ⟨c_10, ec_10, hf⟩ := ob_ex hf
        refine vRX12_121 [.int 0] [] o (C_X12_standing o.1.2.2.2.2.2.2.1 o.2 F ec_10) (by decide) k_7 rfl rfl (Nat.le_of_ble_eq_true rfl) dX12_even_36 ?_
        refine x_if_eq o 50 dX12_even_39 (by decide) (fun q_12 => ?_) (fun q_12 => ?_)
        · replace hf := (if_pos q_12).symm.trans hf
          refine x_bipush (v := (-2)) o dX12_even_50 (by decide) ?_
          cases hf
          exact hr _ _ dX12_even_52
        · replace hf := (if_neg q_12).symm.trans hf
          refine x_aload_n o dX12_even_42 0 rfl rfl ?_
          refine x_iconst (v := 1) o dX12_even_43 (by decide) ?_
          obtain ⟨c_13, ec_13, hf⟩ := ob_ex hf
          refine vRX12_121 [.int 1] [] o (C_X12_standing o.1.2.2.2.2.2.2.1 o.2 F ec_13) (by decide) k_7 rfl rfl (Nat.le_of_ble_eq_true rfl) dX12_even_44 ?_
          refine x_if_ne o 53 dX12_even_47 (by decide) (fun q_15 => ?_) (fun q_15 => ?_)
          · replace hf := (if_neg q_15).symm.trans hf
            refine x_iconst (v := 0) o dX12_even_53 (by decide) ?_
            refine x_istore_n o dX12_even_54 (by decide) rfl [(3, .int 0), (0, .ref (ka k a0)), (1, .int x1), (2, .int x2)] rfl ?_
            refine x_sub [1, 2, 3, 0] [(0, .ref (ka k a0)), (1, .int x1), (2, .int x2), (3, .int 0)] rfl ?_
            exact S_X12_even_55 o F _ hf hr
          · replace hf := (if_pos q_15).symm.trans hf
            refine x_bipush (v := (-2)) o dX12_even_50 (by decide) ?_
            cases hf
            exact hr _ _ dX12_even_52
      · replace hf := (if_neg q_8).symm.trans hf
        refine x_iconst (v := (-1)) o dX12_even_27 (by decide) ?_
        cases hf
        exact hr _ _ dX12_even_28
theorem C_X12_even {k : Kst} (hj : Dj k) (hn : kn k = kdl.length) (F : Nat) {h : Hp} {a0 : Nat} {x1 : Int32} {x2 : Int32} {r : Int32} {h1 : Hp} (hf : X12_even F a0 x1 x2 h = some (r, h1)) : MI k 6 yX12_even cX12_even 8 (some .int) [.ref (ka k a0), .int x1, .int x2] h r h1 := mI hj hn (by decide +kernel) (Nat.le_of_ble_eq_true rfl) (fun d o hr => S_X12_even_0 o F hf hr)
set_option maxRecDepth 100000 in
set_option maxHeartbeats 4000000 in
theorem S_X12_mayStand_19 {k : Kst} {d : Kdy} (o : Ok k d cX12_mayStand RX12 3 3) (F : Nat) {h : Hp} {a0 : Nat} {x1 : Int32} {x2 : Int32} {r : Int32} (hf : X12_mayStand_19 F a0 x1 x2 h = some r) (hr : RZ k d cX12_mayStand r h) : Wz k d h 19 [(0, .ref (ka k a0)), (1, .int x1), (2, .int x2)] [] := by
  unfold X12_mayStand_19 at hf
  refine x_iload_n o dX12_mayStand_19 2 rfl rfl ?_
  refine x_aload_n o dX12_mayStand_20 0 rfl rfl ?_
  obtain ⟨k_1, hf⟩ := gq_ex hf
  obtain ⟨j_2, ej_2, hf⟩ := ob_ex hf
  refine gRX12_19 o k_1 ej_2 dX12_mayStand_21 ?_
  refine x_iconst (v := 1) o dX12_mayStand_24 (by decide) ?_
  obtain ⟨k_3, hf⟩ := gq_ex hf
  obtain ⟨b_4, hf⟩ := gq_ex hf
  refine x_iald o k_3 b_4 dX12_mayStand_25 ?_
  refine x_icmp_ge o 36 dX12_mayStand_26 (by decide) (fun q_5 => ?_) (fun q_5 => ?_)
  · replace hf := (if_pos q_5).symm.trans hf
    refine x_iconst (v := 1) o dX12_mayStand_36 (by decide) ?_
    refine x_goto o 41 dX12_mayStand_37 (by decide) ?_
    cases hf
    exact hr (Or.inr rfl) _ _ dX12_mayStand_41
  · replace hf := (if_neg q_5).symm.trans hf
    refine x_iload_n o dX12_mayStand_29 1 rfl rfl ?_
    refine x_iload_n o dX12_mayStand_30 2 rfl rfl ?_
    refine x_isub o dX12_mayStand_31 ?_
    refine x_iconst (v := 1) o dX12_mayStand_32 (by decide) ?_
    refine x_icmp_gt o 40 dX12_mayStand_33 (by decide) (fun q_6 => ?_) (fun q_6 => ?_)
    · replace hf := (if_pos q_6).symm.trans hf
      refine x_iconst (v := 0) o dX12_mayStand_40 (by decide) ?_
      cases hf
      exact hr (Or.inl rfl) _ _ dX12_mayStand_41
    · replace hf := (if_neg q_6).symm.trans hf
      refine x_iconst (v := 1) o dX12_mayStand_36 (by decide) ?_
      refine x_goto o 41 dX12_mayStand_37 (by decide) ?_
      cases hf
      exact hr (Or.inr rfl) _ _ dX12_mayStand_41
set_option maxRecDepth 100000 in
set_option maxHeartbeats 4000000 in
theorem S_X12_mayStand_0 {k : Kst} {d : Kdy} (o : Ok k d cX12_mayStand RX12 3 3) (F : Nat) {h : Hp} {a0 : Nat} {x1 : Int32} {x2 : Int32} {r : Int32} (hf : X12_mayStand F a0 x1 x2 h = some r) (hr : RZ k d cX12_mayStand r h) : Wz k d h 0 [(0, .ref (ka k a0)), (1, .int x1), (2, .int x2)] [] := by
  unfold X12_mayStand at hf
  refine x_iload_n o dX12_mayStand_0 1 rfl rfl ?_
  refine x_aload_n o dX12_mayStand_1 0 rfl rfl ?_
  obtain ⟨k_1, hf⟩ := gq_ex hf
  obtain ⟨j_2, ej_2, hf⟩ := ob_ex hf
  refine gRX12_19 o k_1 ej_2 dX12_mayStand_2 ?_
  refine x_iconst (v := 0) o dX12_mayStand_5 (by decide) ?_
  obtain ⟨k_3, hf⟩ := gq_ex hf
  obtain ⟨b_4, hf⟩ := gq_ex hf
  refine x_iald o k_3 b_4 dX12_mayStand_6 ?_
  refine x_icmp_ge o 19 dX12_mayStand_7 (by decide) (fun q_5 => ?_) (fun q_5 => ?_)
  · replace hf := (if_pos q_5).symm.trans hf
    refine x_sub [0, 1, 2] [(0, .ref (ka k a0)), (1, .int x1), (2, .int x2)] rfl ?_
    exact S_X12_mayStand_19 o F hf hr
  · replace hf := (if_neg q_5).symm.trans hf
    refine x_iload_n o dX12_mayStand_10 2 rfl rfl ?_
    refine x_iload_n o dX12_mayStand_11 1 rfl rfl ?_
    refine x_isub o dX12_mayStand_12 ?_
    refine x_iconst (v := 1) o dX12_mayStand_13 (by decide) ?_
    refine x_icmp_le o 19 dX12_mayStand_14 (by decide) (fun q_6 => ?_) (fun q_6 => ?_)
    · replace hf := (if_pos q_6).symm.trans hf
      refine x_sub [0, 1, 2] [(0, .ref (ka k a0)), (1, .int x1), (2, .int x2)] rfl ?_
      exact S_X12_mayStand_19 o F hf hr
    · replace hf := (if_neg q_6).symm.trans hf
      refine x_iconst (v := 0) o dX12_mayStand_17 (by decide) ?_
      cases hf
      exact hr (Or.inl rfl) _ _ dX12_mayStand_18
theorem C_X12_mayStand {k : Kst} (hj : Dj k) (hn : kn k = kdl.length) (F : Nat) {h : Hp} {a0 : Nat} {x1 : Int32} {x2 : Int32} {r : Int32} (hf : X12_mayStand F a0 x1 x2 h = some r) : MI k 3 yX12_mayStand cX12_mayStand 3 (some .boolean) [.ref (ka k a0), .int x1, .int x2] h r h := mZ hj hn (by decide +kernel) (Nat.le_of_ble_eq_true rfl) (fun d o hr => S_X12_mayStand_0 o F hf hr)
set_option maxRecDepth 100000 in
set_option maxHeartbeats 4000000 in
theorem S_X12_inARow_132 {k : Kst} {d : Kdy} (o : Ok k d cX12_inARow RX12 4 5) (F : Nat) {k7 : Nat → Int32 → Hp → Option (Int32 × Hp)} {k23 : Nat → Int32 → Int32 → Hp → Option (Int32 × Hp)} (hk7 : ∀ {h : Hp} {a0 : Nat} {x1 : Int32} {r : Int32} {h1 : Hp}, k7 a0 x1 h = some (r, h1) → RI k d cX12_inARow r h1 → Wz k d h 7 [(0, .ref (ka k a0)), (1, .int x1)] []) (hk23 : ∀ {h : Hp} {a0 : Nat} {x1 : Int32} {x2 : Int32} {r : Int32} {h1 : Hp}, k23 a0 x1 x2 h = some (r, h1) → RI k d cX12_inARow r h1 → Wz k d h 23 [(0, .ref (ka k a0)), (1, .int x1), (2, .int x2)] []) {h : Hp} {a0 : Nat} {x1 : Int32} {x2 : Int32} {x3 : Int32} {r : Int32} {h1 : Hp} (hf : X12_inARow_132 F k7 k23 a0 x1 x2 x3 h = some (r, h1)) (hr : RI k d cX12_inARow r h1) : Wz k d h 132 [(0, .ref (ka k a0)), (1, .int x1), (2, .int x2), (3, .int x3)] [] := by
  unfold X12_inARow_132 at hf
  refine x_aload_n o dX12_inARow_132 0 rfl rfl ?_
  obtain ⟨k_1, hf⟩ := gq_ex hf
  obtain ⟨j_2, ej_2, hf⟩ := ob_ex hf
  refine gRX12_80 o k_1 ej_2 dX12_inARow_133 ?_
  refine x_bipush (v := 21) o dX12_inARow_136 (by decide) ?_
  refine x_iload_n o dX12_inARow_138 1 rfl rfl ?_
  refine x_imul o dX12_inARow_139 ?_
  refine x_iload_n o dX12_inARow_140 2 rfl rfl ?_
  refine x_iadd o dX12_inARow_141 ?_
  refine x_ldcw (v := 1000000000) o dX12_inARow_142 wRX12_360 ?_
  refine x_iload_n o dX12_inARow_145 3 rfl rfl ?_
  obtain ⟨c_3, ec_3, hf⟩ := ob_ex hf
  refine vRX12_269 [.int 1000000000, .int x3] [.int ((21 * x1) + x2), .ref (ka k j_2)] o (C_X12_min o.1.2.2.2.2.2.2.1 o.2 F ec_3) (by decide) rfl rfl (Nat.le_of_ble_eq_true rfl) dX12_inARow_146 ?_
  obtain ⟨k_5, hf⟩ := gq_ex hf
  obtain ⟨b_6, hf⟩ := gq_ex hf
  obtain ⟨h_7, eh_7, hf⟩ := bd_ex hf
  refine x_iast o k_5 b_6 dX12_inARow_149 (x_h eh_7 ?_)
  obtain ⟨x2_8, ex2_8, hf⟩ := bd_ex hf
  refine x_iinc o dX12_inARow_150 (by decide) 2 rfl ex2_8.symm [(2, .int x2_8), (0, .ref (ka k a0)), (1, .int x1), (3, .int x3)] rfl ?_
  refine x_goto o 23 dX12_inARow_153 (by decide) ?_
  refine x_sub [1, 2, 0] [(0, .ref (ka k a0)), (1, .int x1), (2, .int x2_8)] rfl ?_
  exact hk23 hf hr
set_option maxRecDepth 100000 in
set_option maxHeartbeats 4000000 in
theorem S_X12_inARow_95 {k : Kst} {d : Kdy} (o : Ok k d cX12_inARow RX12 4 5) (F : Nat) {k7 : Nat → Int32 → Hp → Option (Int32 × Hp)} {k23 : Nat → Int32 → Int32 → Hp → Option (Int32 × Hp)} (hk7 : ∀ {h : Hp} {a0 : Nat} {x1 : Int32} {r : Int32} {h1 : Hp}, k7 a0 x1 h = some (r, h1) → RI k d cX12_inARow r h1 → Wz k d h 7 [(0, .ref (ka k a0)), (1, .int x1)] []) (hk23 : ∀ {h : Hp} {a0 : Nat} {x1 : Int32} {x2 : Int32} {r : Int32} {h1 : Hp}, k23 a0 x1 x2 h = some (r, h1) → RI k d cX12_inARow r h1 → Wz k d h 23 [(0, .ref (ka k a0)), (1, .int x1), (2, .int x2)] []) {h : Hp} {a0 : Nat} {x1 : Int32} {x2 : Int32} {x3 : Int32} {r : Int32} {h1 : Hp} (hf : X12_inARow_95 F k7 k23 a0 x1 x2 x3 h = some (r, h1)) (hr : RI k d cX12_inARow r h1) : Wz k d h 95 [(0, .ref (ka k a0)), (1, .int x1), (2, .int x2), (3, .int x3)] [] := by
  unfold X12_inARow_95 at hf
  refine x_iload_n o dX12_inARow_95 2 rfl rfl ?_
  refine x_aload_n o dX12_inARow_96 0 rfl rfl ?_
  obtain ⟨k_1, hf⟩ := gq_ex hf
  obtain ⟨j_2, ej_2, hf⟩ := ob_ex hf
  refine gRX12_19 o k_1 ej_2 dX12_inARow_97 ?_
  refine x_iconst (v := 1) o dX12_inARow_100 (by decide) ?_
  obtain ⟨k_3, hf⟩ := gq_ex hf
  obtain ⟨b_4, hf⟩ := gq_ex hf
  refine x_iald o k_3 b_4 dX12_inARow_101 ?_
  refine x_icmp_ge o 132 dX12_inARow_102 (by decide) (fun q_5 => ?_) (fun q_5 => ?_)
  · replace hf := (if_pos q_5).symm.trans hf
    refine x_sub [0, 1, 2, 3] [(0, .ref (ka k a0)), (1, .int x1), (2, .int x2), (3, .int x3)] rfl ?_
    exact S_X12_inARow_132 o F hk7 hk23 hf hr
  · replace hf := (if_neg q_5).symm.trans hf
    refine x_aload_n o dX12_inARow_105 0 rfl rfl ?_
    refine x_iload_n o dX12_inARow_106 1 rfl rfl ?_
    refine x_iload_n o dX12_inARow_107 2 rfl rfl ?_
    refine x_iconst (v := 1) o dX12_inARow_108 (by decide) ?_
    refine x_iadd o dX12_inARow_109 ?_
    obtain ⟨c_6, ec_6, hf⟩ := ob_ex hf
    refine vRX12_357 [.int x1, .int (x2 + 1)] [] o (C_X12_mayStand o.1.2.2.2.2.2.2.1 o.2 F ec_6) (by decide) k_1 rfl rfl (Nat.le_of_ble_eq_true rfl) dX12_inARow_110 ?_
    refine x_if_eq o 132 dX12_inARow_113 (by decide) (fun q_8 => ?_) (fun q_8 => ?_)
    · replace hf := (if_pos q_8).symm.trans hf
      refine x_sub [0, 1, 2, 3] [(0, .ref (ka k a0)), (1, .int x1), (2, .int x2), (3, .int x3)] rfl ?_
      exact S_X12_inARow_132 o F hk7 hk23 hf hr
    · replace hf := (if_neg q_8).symm.trans hf
      refine x_iload_n o dX12_inARow_116 3 rfl rfl ?_
      refine x_aload_n o dX12_inARow_117 0 rfl rfl ?_
      obtain ⟨j_9, ej_9, hf⟩ := ob_ex hf
      refine gRX12_80 o k_1 ej_9 dX12_inARow_118 ?_
      refine x_bipush (v := 21) o dX12_inARow_121 (by decide) ?_
      refine x_iload_n o dX12_inARow_123 1 rfl rfl ?_
      refine x_imul o dX12_inARow_124 ?_
      refine x_iload_n o dX12_inARow_125 2 rfl rfl ?_
      refine x_iadd o dX12_inARow_126 ?_
      refine x_iconst (v := 1) o dX12_inARow_127 (by decide) ?_
      refine x_iadd o dX12_inARow_128 ?_
      obtain ⟨k_10, hf⟩ := gq_ex hf
      obtain ⟨b_11, hf⟩ := gq_ex hf
      refine x_iald o k_10 b_11 dX12_inARow_129 ?_
      refine x_iadd o dX12_inARow_130 ?_
      obtain ⟨x3_12, ex3_12, hf⟩ := bd_ex hf
      refine x_top ex3_12 ?_
      refine x_istore_n o dX12_inARow_131 (by decide) rfl [(3, .int x3_12), (0, .ref (ka k a0)), (1, .int x1), (2, .int x2)] rfl ?_
      refine x_sub [1, 2, 3, 0] [(0, .ref (ka k a0)), (1, .int x1), (2, .int x2), (3, .int x3_12)] rfl ?_
      exact S_X12_inARow_132 o F hk7 hk23 hf hr
set_option maxRecDepth 100000 in
set_option maxHeartbeats 4000000 in
theorem S_X12_inARow_57 {k : Kst} {d : Kdy} (o : Ok k d cX12_inARow RX12 4 5) (F : Nat) {k7 : Nat → Int32 → Hp → Option (Int32 × Hp)} {k23 : Nat → Int32 → Int32 → Hp → Option (Int32 × Hp)} (hk7 : ∀ {h : Hp} {a0 : Nat} {x1 : Int32} {r : Int32} {h1 : Hp}, k7 a0 x1 h = some (r, h1) → RI k d cX12_inARow r h1 → Wz k d h 7 [(0, .ref (ka k a0)), (1, .int x1)] []) (hk23 : ∀ {h : Hp} {a0 : Nat} {x1 : Int32} {x2 : Int32} {r : Int32} {h1 : Hp}, k23 a0 x1 x2 h = some (r, h1) → RI k d cX12_inARow r h1 → Wz k d h 23 [(0, .ref (ka k a0)), (1, .int x1), (2, .int x2)] []) {h : Hp} {a0 : Nat} {x1 : Int32} {x2 : Int32} {s0 : Int32} {r : Int32} {h1 : Hp} (hf : X12_inARow_57 F k7 k23 a0 x1 x2 s0 h = some (r, h1)) (hr : RI k d cX12_inARow r h1) : Wz k d h 57 [(0, .ref (ka k a0)), (1, .int x1), (2, .int x2)] [.int s0] := by
  unfold X12_inARow_57 at hf
  refine x_istore_n o dX12_inARow_57 (by decide) rfl [(3, .int s0), (0, .ref (ka k a0)), (1, .int x1), (2, .int x2)] rfl ?_
  refine x_iload_n o dX12_inARow_58 2 rfl rfl ?_
  refine x_aload_n o dX12_inARow_59 1 rfl rfl ?_
  obtain ⟨k_1, hf⟩ := gq_ex hf
  obtain ⟨j_2, ej_2, hf⟩ := ob_ex hf
  refine gRX12_19 o k_1 ej_2 dX12_inARow_60 ?_
  refine x_iconst (v := 0) o dX12_inARow_63 (by decide) ?_
  obtain ⟨k_3, hf⟩ := gq_ex hf
  obtain ⟨b_4, hf⟩ := gq_ex hf
  refine x_iald o k_3 b_4 dX12_inARow_64 ?_
  refine x_icmp_ge o 95 dX12_inARow_65 (by decide) (fun q_5 => ?_) (fun q_5 => ?_)
  · replace hf := (if_pos q_5).symm.trans hf
    refine x_sub [1, 2, 3, 0] [(0, .ref (ka k a0)), (1, .int x1), (2, .int x2), (3, .int s0)] rfl ?_
    exact S_X12_inARow_95 o F hk7 hk23 hf hr
  · replace hf := (if_neg q_5).symm.trans hf
    refine x_aload_n o dX12_inARow_68 1 rfl rfl ?_
    refine x_iload_n o dX12_inARow_69 2 rfl rfl ?_
    refine x_iconst (v := 1) o dX12_inARow_70 (by decide) ?_
    refine x_iadd o dX12_inARow_71 ?_
    refine x_iload_n o dX12_inARow_72 3 rfl rfl ?_
    obtain ⟨c_6, ec_6, hf⟩ := ob_ex hf
    refine vRX12_357 [.int (x1 + 1), .int x2] [] o (C_X12_mayStand o.1.2.2.2.2.2.2.1 o.2 F ec_6) (by decide) k_1 rfl rfl (Nat.le_of_ble_eq_true rfl) dX12_inARow_73 ?_
    refine x_if_eq o 95 dX12_inARow_76 (by decide) (fun q_8 => ?_) (fun q_8 => ?_)
    · replace hf := (if_pos q_8).symm.trans hf
      refine x_sub [1, 2, 3, 0] [(0, .ref (ka k a0)), (1, .int x1), (2, .int x2), (3, .int s0)] rfl ?_
      exact S_X12_inARow_95 o F hk7 hk23 hf hr
    · replace hf := (if_neg q_8).symm.trans hf
      refine x_iload_n o dX12_inARow_79 0 rfl rfl ?_
      refine x_aload_n o dX12_inARow_80 1 rfl rfl ?_
      obtain ⟨j_9, ej_9, hf⟩ := ob_ex hf
      refine gRX12_80 o k_1 ej_9 dX12_inARow_81 ?_
      refine x_bipush (v := 21) o dX12_inARow_84 (by decide) ?_
      refine x_iload_n o dX12_inARow_86 2 rfl rfl ?_
      refine x_iconst (v := 1) o dX12_inARow_87 (by decide) ?_
      refine x_iadd o dX12_inARow_88 ?_
      refine x_imul o dX12_inARow_89 ?_
      refine x_iload_n o dX12_inARow_90 3 rfl rfl ?_
      refine x_iadd o dX12_inARow_91 ?_
      obtain ⟨k_10, hf⟩ := gq_ex hf
      obtain ⟨b_11, hf⟩ := gq_ex hf
      refine x_iald o k_10 b_11 dX12_inARow_92 ?_
      refine x_iadd o dX12_inARow_93 ?_
      obtain ⟨x3_12, ex3_12, hf⟩ := bd_ex hf
      refine x_top ex3_12 ?_
      refine x_istore_n o dX12_inARow_94 (by decide) rfl [(3, .int x3_12), (0, .ref (ka k a0)), (1, .int x1), (2, .int x2)] rfl ?_
      refine x_sub [1, 2, 3, 0] [(0, .ref (ka k a0)), (1, .int x1), (2, .int x2), (3, .int x3_12)] rfl ?_
      exact S_X12_inARow_95 o F hk7 hk23 hf hr
set_option maxRecDepth 100000 in
set_option maxHeartbeats 4000000 in
theorem S_X12_inARow_56 {k : Kst} {d : Kdy} (o : Ok k d cX12_inARow RX12 4 5) (F : Nat) {k7 : Nat → Int32 → Hp → Option (Int32 × Hp)} {k23 : Nat → Int32 → Int32 → Hp → Option (Int32 × Hp)} (hk7 : ∀ {h : Hp} {a0 : Nat} {x1 : Int32} {r : Int32} {h1 : Hp}, k7 a0 x1 h = some (r, h1) → RI k d cX12_inARow r h1 → Wz k d h 7 [(0, .ref (ka k a0)), (1, .int x1)] []) (hk23 : ∀ {h : Hp} {a0 : Nat} {x1 : Int32} {x2 : Int32} {r : Int32} {h1 : Hp}, k23 a0 x1 x2 h = some (r, h1) → RI k d cX12_inARow r h1 → Wz k d h 23 [(0, .ref (ka k a0)), (1, .int x1), (2, .int x2)] []) {h : Hp} {a0 : Nat} {x1 : Int32} {x2 : Int32} {r : Int32} {h1 : Hp} (hf : X12_inARow_56 F k7 k23 a0 x1 x2 h = some (r, h1)) (hr : RI k d cX12_inARow r h1) : Wz k d h 56 [(0, .ref (ka k a0)), (1, .int x1), (2, .int x2)] [] := by
  unfold X12_inARow_56 at hf
  refine x_iconst (v := 0) o dX12_inARow_56 (by decide) ?_
  refine x_sub [0, 1, 2] [(0, .ref (ka k a0)), (1, .int x1), (2, .int x2)] rfl ?_
  exact S_X12_inARow_57 o F hk7 hk23 hf hr
set_option maxRecDepth 100000 in
set_option maxHeartbeats 4000000 in
theorem S_X12_inARow_23 {k : Kst} {d : Kdy} (o : Ok k d cX12_inARow RX12 4 5) (F : Nat) {k7 : Nat → Int32 → Hp → Option (Int32 × Hp)} (hk7 : ∀ {h : Hp} {a0 : Nat} {x1 : Int32} {r : Int32} {h1 : Hp}, k7 a0 x1 h = some (r, h1) → RI k d cX12_inARow r h1 → Wz k d h 7 [(0, .ref (ka k a0)), (1, .int x1)] []) : ∀ (f : Nat) {h : Hp} {a0 : Nat} {x1 : Int32} {x2 : Int32} {r : Int32} {h1 : Hp}, X12_inARow_23 F k7 f a0 x1 x2 h = some (r, h1) → RI k d cX12_inARow r h1 → Wz k d h 23 [(0, .ref (ka k a0)), (1, .int x1), (2, .int x2)] [] := by
  intro f
  induction f with
  | zero =>
    intro h a0 x1 x2 r h1 hf hr
    exact nomatch (show (none : Option _) = some _ from hf)
  | succ f ih =>
    intro h a0 x1 x2 r h1 hf hr
    rw [X12_inARow_23] at hf
    refine x_iload_n o dX12_inARow_23 2 rfl rfl ?_
    refine x_aload_n o dX12_inARow_24 0 rfl rfl ?_
    refine x_iconst (v := 1) o dX12_inARow_25 (by decide) ?_
    obtain ⟨k_1, hf⟩ := gq_ex hf
    obtain ⟨c_2, ec_2, hf⟩ := ob_ex hf
    refine vRX12_121 [.int 1] [.int x2] o (C_X12_standing o.1.2.2.2.2.2.2.1 o.2 F ec_2) (by decide) k_1 rfl rfl (Nat.le_of_ble_eq_true rfl) dX12_inARow_26 ?_
    refine x_icmp_lt o 156 dX12_inARow_29 (by decide) (fun q_4 => ?_) (fun q_4 => ?_)
    · replace hf := (if_pos q_4).symm.trans hf
      obtain ⟨x1_5, ex1_5, hf⟩ := bd_ex hf
      refine x_iinc o dX12_inARow_156 (by decide) 1 rfl ex1_5.symm [(1, .int x1_5), (0, .ref (ka k a0)), (2, .int x2)] rfl ?_
      refine x_goto o 7 dX12_inARow_159 (by decide) ?_
      refine x_sub [1, 0] [(0, .ref (ka k a0)), (1, .int x1_5)] rfl ?_
      exact hk7 hf hr
    · replace hf := (if_neg q_4).symm.trans hf
      refine x_iload_n o dX12_inARow_32 1 rfl rfl ?_
      refine x_aload_n o dX12_inARow_33 0 rfl rfl ?_
      obtain ⟨j_6, ej_6, hf⟩ := ob_ex hf
      refine gRX12_19 o k_1 ej_6 dX12_inARow_34 ?_
      refine x_iconst (v := 0) o dX12_inARow_37 (by decide) ?_
      obtain ⟨k_7, hf⟩ := gq_ex hf
      obtain ⟨b_8, hf⟩ := gq_ex hf
      refine x_iald o k_7 b_8 dX12_inARow_38 ?_
      refine x_icmp_ne o 56 dX12_inARow_39 (by decide) (fun q_9 => ?_) (fun q_9 => ?_)
      · replace hf := (if_neg q_9).symm.trans hf
        refine x_sub [0, 1, 2] [(0, .ref (ka k a0)), (1, .int x1), (2, .int x2)] rfl ?_
        exact S_X12_inARow_56 o F hk7 (fun q1 q2 => ih q1 q2) hf hr
      · replace hf := (if_pos q_9).symm.trans hf
        refine x_iload_n o dX12_inARow_42 2 rfl rfl ?_
        refine x_aload_n o dX12_inARow_43 0 rfl rfl ?_
        refine gRX12_19 o k_1 ej_6 dX12_inARow_44 ?_
        refine x_iconst (v := 1) o dX12_inARow_47 (by decide) ?_
        obtain ⟨b_10, hf⟩ := gq_ex hf
        refine x_iald o k_7 b_10 dX12_inARow_48 ?_
        refine x_icmp_ne o 56 dX12_inARow_49 (by decide) (fun q_11 => ?_) (fun q_11 => ?_)
        · replace hf := (if_neg q_11).symm.trans hf
          refine x_sub [0, 1, 2] [(0, .ref (ka k a0)), (1, .int x1), (2, .int x2)] rfl ?_
          exact S_X12_inARow_56 o F hk7 (fun q1 q2 => ih q1 q2) hf hr
        · replace hf := (if_pos q_11).symm.trans hf
          refine x_iconst (v := 1) o dX12_inARow_52 (by decide) ?_
          refine x_goto o 57 dX12_inARow_53 (by decide) ?_
          refine x_sub [0, 1, 2] [(0, .ref (ka k a0)), (1, .int x1), (2, .int x2)] rfl ?_
          exact S_X12_inARow_57 o F hk7 (fun q1 q2 => ih q1 q2) hf hr
set_option maxRecDepth 100000 in
set_option maxHeartbeats 4000000 in
theorem S_X12_inARow_7 {k : Kst} {d : Kdy} (o : Ok k d cX12_inARow RX12 4 5) (F : Nat) : ∀ (f : Nat) {h : Hp} {a0 : Nat} {x1 : Int32} {r : Int32} {h1 : Hp}, X12_inARow_7 F f a0 x1 h = some (r, h1) → RI k d cX12_inARow r h1 → Wz k d h 7 [(0, .ref (ka k a0)), (1, .int x1)] [] := by
  intro f
  induction f with
  | zero =>
    intro h a0 x1 r h1 hf hr
    exact nomatch (show (none : Option _) = some _ from hf)
  | succ f ih =>
    intro h a0 x1 r h1 hf hr
    rw [X12_inARow_7] at hf
    refine x_iload_n o dX12_inARow_7 1 rfl rfl ?_
    refine x_aload_n o dX12_inARow_8 0 rfl rfl ?_
    refine x_iconst (v := 0) o dX12_inARow_9 (by decide) ?_
    obtain ⟨k_1, hf⟩ := gq_ex hf
    obtain ⟨c_2, ec_2, hf⟩ := ob_ex hf
    refine vRX12_121 [.int 0] [.int x1] o (C_X12_standing o.1.2.2.2.2.2.2.1 o.2 F ec_2) (by decide) k_1 rfl rfl (Nat.le_of_ble_eq_true rfl) dX12_inARow_10 ?_
    refine x_icmp_lt o 162 dX12_inARow_13 (by decide) (fun q_4 => ?_) (fun q_4 => ?_)
    · replace hf := (if_pos q_4).symm.trans hf
      refine x_aload_n o dX12_inARow_162 0 rfl rfl ?_
      obtain ⟨j_5, ej_5, hf⟩ := ob_ex hf
      refine gRX12_80 o k_1 ej_5 dX12_inARow_163 ?_
      refine x_bipush (v := 21) o dX12_inARow_166 (by decide) ?_
      refine x_aload_n o dX12_inARow_168 0 rfl rfl ?_
      refine x_iconst (v := 0) o dX12_inARow_169 (by decide) ?_
      obtain ⟨c_6, ec_6, hf⟩ := ob_ex hf
      refine vRX12_121 [.int 0] [.int 21, .ref (ka k j_5)] o (C_X12_standing o.1.2.2.2.2.2.2.1 o.2 F ec_6) (by decide) k_1 rfl rfl (Nat.le_of_ble_eq_true rfl) dX12_inARow_170 ?_
      refine x_imul o dX12_inARow_173 ?_
      refine x_aload_n o dX12_inARow_174 0 rfl rfl ?_
      refine x_iconst (v := 1) o dX12_inARow_175 (by decide) ?_
      obtain ⟨c_8, ec_8, hf⟩ := ob_ex hf
      refine vRX12_121 [.int 1] [.int (21 * c_6), .ref (ka k j_5)] o (C_X12_standing o.1.2.2.2.2.2.2.1 o.2 F ec_8) (by decide) k_1 rfl rfl (Nat.le_of_ble_eq_true rfl) dX12_inARow_176 ?_
      refine x_iadd o dX12_inARow_179 ?_
      obtain ⟨k_10, hf⟩ := gq_ex hf
      obtain ⟨b_11, hf⟩ := gq_ex hf
      refine x_iald o k_10 b_11 dX12_inARow_180 ?_
      cases hf
      exact hr _ _ dX12_inARow_181
    · replace hf := (if_neg q_4).symm.trans hf
      refine x_aload_n o dX12_inARow_16 0 rfl rfl ?_
      obtain ⟨j_12, ej_12, hf⟩ := ob_ex hf
      refine gRX12_19 o k_1 ej_12 dX12_inARow_17 ?_
      refine x_iconst (v := 1) o dX12_inARow_20 (by decide) ?_
      obtain ⟨k_13, hf⟩ := gq_ex hf
      obtain ⟨b_14, hf⟩ := gq_ex hf
      refine x_iald o k_13 b_14 dX12_inARow_21 ?_
      obtain ⟨x2_15, ex2_15, hf⟩ := bd_ex hf
      refine x_top ex2_15 ?_
      refine x_istore_n o dX12_inARow_22 (by decide) rfl [(2, .int x2_15), (0, .ref (ka k a0)), (1, .int x1)] rfl ?_
      refine x_sub [1, 2, 0] [(0, .ref (ka k a0)), (1, .int x1), (2, .int x2_15)] rfl ?_
      exact S_X12_inARow_23 o F (fun q1 q2 => ih q1 q2) _ hf hr
set_option maxRecDepth 100000 in
set_option maxHeartbeats 4000000 in
theorem S_X12_inARow_0 {k : Kst} {d : Kdy} (o : Ok k d cX12_inARow RX12 4 5) (F : Nat) {h : Hp} {a0 : Nat} {r : Int32} {h1 : Hp} (hf : X12_inARow F a0 h = some (r, h1)) (hr : RI k d cX12_inARow r h1) : Wz k d h 0 [(0, .ref (ka k a0))] [] := by
  unfold X12_inARow at hf
  refine x_aload_n o dX12_inARow_0 0 rfl rfl ?_
  obtain ⟨k_1, hf⟩ := gq_ex hf
  obtain ⟨j_2, ej_2, hf⟩ := ob_ex hf
  refine gRX12_19 o k_1 ej_2 dX12_inARow_1 ?_
  refine x_iconst (v := 0) o dX12_inARow_4 (by decide) ?_
  obtain ⟨k_3, hf⟩ := gq_ex hf
  obtain ⟨b_4, hf⟩ := gq_ex hf
  refine x_iald o k_3 b_4 dX12_inARow_5 ?_
  obtain ⟨x1_5, ex1_5, hf⟩ := bd_ex hf
  refine x_top ex1_5 ?_
  refine x_istore_n o dX12_inARow_6 (by decide) rfl [(1, .int x1_5), (0, .ref (ka k a0))] rfl ?_
  refine x_sub [1, 0] [(0, .ref (ka k a0)), (1, .int x1_5)] rfl ?_
  exact S_X12_inARow_7 o F _ hf hr
theorem C_X12_inARow {k : Kst} (hj : Dj k) (hn : kn k = kdl.length) (F : Nat) {h : Hp} {a0 : Nat} {r : Int32} {h1 : Hp} (hf : X12_inARow F a0 h = some (r, h1)) : MI k 5 yX12_inARow cX12_inARow 4 (some .int) [.ref (ka k a0)] h r h1 := mI hj hn (by decide +kernel) (Nat.le_of_ble_eq_true rfl) (fun d o hr => S_X12_inARow_0 o F hf hr)
set_option maxRecDepth 100000 in
set_option maxHeartbeats 4000000 in
theorem S_X12_isOver_10 {k : Kst} {d : Kdy} (o : Ok k d cX12_isOver RX12 8 3) (F : Nat) : ∀ (f : Nat) {h : Hp} {x0 : Int32} {x1 : Int32} {x3 : Int32} {x5 : Int32} {x6 : Int32} {x7 : Int32} {r : Int32}, X12_isOver_10 F f x0 x1 x3 x5 x6 x7 h = some r → RZ k d cX12_isOver r h → Wz k d h 10 [(0, .int x0), (1, .int x1), (3, .int x3), (5, .int x5), (6, .int x6), (7, .int x7)] [] := by
  intro f
  induction f with
  | zero =>
    intro h x0 x1 x3 x5 x6 x7 r hf hr
    exact nomatch (show (none : Option _) = some _ from hf)
  | succ f ih =>
    intro h x0 x1 x3 x5 x6 x7 r hf hr
    rw [X12_isOver_10] at hf
    refine x_iload o dX12_isOver_10 3 rfl ?_
    refine x_iload_n o dX12_isOver_12 0 rfl rfl ?_
    refine x_icmp_ge o 45 dX12_isOver_13 (by decide) (fun q_1 => ?_) (fun q_1 => ?_)
    · replace hf := (if_pos q_1).symm.trans hf
      refine x_iload o dX12_isOver_45 4 rfl ?_
      refine x_iload_n o dX12_isOver_47 1 rfl rfl ?_
      refine x_icmp_lt o 55 dX12_isOver_48 (by decide) (fun q_2 => ?_) (fun q_2 => ?_)
      · replace hf := (if_pos q_2).symm.trans hf
        refine x_iconst (v := 0) o dX12_isOver_55 (by decide) ?_
        cases hf
        exact hr (Or.inl rfl) _ _ dX12_isOver_56
      · replace hf := (if_neg q_2).symm.trans hf
        refine x_iconst (v := 1) o dX12_isOver_51 (by decide) ?_
        refine x_goto o 56 dX12_isOver_52 (by decide) ?_
        cases hf
        exact hr (Or.inr rfl) _ _ dX12_isOver_56
    · replace hf := (if_neg q_1).symm.trans hf
      refine x_iload o dX12_isOver_16 4 rfl ?_
      refine x_if_ge o 23 dX12_isOver_18 (by decide) (fun q_3 => ?_) (fun q_3 => ?_)
      · replace hf := (if_pos q_3).symm.trans hf
        refine x_iload o dX12_isOver_23 3 rfl ?_
        refine x_iload_n o dX12_isOver_25 2 rfl rfl ?_
        refine x_iadd o dX12_isOver_26 ?_
        obtain ⟨x5_4, ex5_4, hf⟩ := bd_ex hf
        refine x_top ex5_4 ?_
        refine x_istore o dX12_isOver_27 (by decide) [(5, .int x5_4), (0, .int x0), (1, .int x1), (3, .int x3), (6, .int x6), (7, .int x7)] rfl ?_
        refine x_iload o dX12_isOver_29 4 rfl ?_
        refine x_iload o dX12_isOver_31 5 rfl ?_
        refine x_iadd o dX12_isOver_33 ?_
        obtain ⟨x6_5, ex6_5, hf⟩ := bd_ex hf
        refine x_top ex6_5 ?_
        refine x_istore o dX12_isOver_34 (by decide) [(6, .int x6_5), (5, .int x5_4), (0, .int x0), (1, .int x1), (3, .int x3), (7, .int x7)] rfl ?_
        refine x_iload o dX12_isOver_36 5 rfl ?_
        refine x_iconst (v := 1) o dX12_isOver_38 (by decide) ?_
        refine x_isub o dX12_isOver_39 ?_
        obtain ⟨x7_6, ex7_6, hf⟩ := bd_ex hf
        refine x_top ex7_6 ?_
        refine x_istore o dX12_isOver_40 (by decide) [(7, .int x7_6), (6, .int x6_5), (5, .int x5_4), (0, .int x0), (1, .int x1), (3, .int x3)] rfl ?_
        refine x_goto o 10 dX12_isOver_42 (by decide) ?_
        refine x_sub [3, 4, 5, 2, 1, 0] [(0, .int x0), (1, .int x1), (3, .int x3), (5, .int x5_4), (6, .int x6_5), (7, .int x7_6)] rfl ?_
        exact ih hf hr
      · replace hf := (if_neg q_3).symm.trans hf
        refine x_iconst (v := 0) o dX12_isOver_21 (by decide) ?_
        cases hf
        exact hr (Or.inl rfl) _ _ dX12_isOver_22
set_option maxRecDepth 100000 in
set_option maxHeartbeats 4000000 in
theorem S_X12_isOver_0 {k : Kst} {d : Kdy} (o : Ok k d cX12_isOver RX12 8 3) (F : Nat) {h : Hp} {x0 : Int32} {x1 : Int32} {x2 : Int32} {x3 : Int32} {x4 : Int32} {r : Int32} (hf : X12_isOver F x0 x1 x2 x3 x4 h = some r) (hr : RZ k d cX12_isOver r h) : Wz k d h 0 [(0, .int x0), (1, .int x1), (2, .int x2), (3, .int x3), (4, .int x4)] [] := by
  unfold X12_isOver at hf
  refine x_iconst (v := 0) o dX12_isOver_0 (by decide) ?_
  refine x_istore o dX12_isOver_1 (by decide) [(5, .int 0), (0, .int x0), (1, .int x1), (2, .int x2), (3, .int x3), (4, .int x4)] rfl ?_
  refine x_iload_n o dX12_isOver_3 3 rfl rfl ?_
  refine x_istore o dX12_isOver_4 (by decide) [(6, .int x2), (5, .int 0), (0, .int x0), (1, .int x1), (2, .int x2), (3, .int x3), (4, .int x4)] rfl ?_
  refine x_iload o dX12_isOver_6 6 rfl ?_
  refine x_istore o dX12_isOver_8 (by decide) [(7, .int x4), (6, .int x2), (5, .int 0), (0, .int x0), (1, .int x1), (2, .int x2), (3, .int x3), (4, .int x4)] rfl ?_
  refine x_sub [3, 4, 6, 2, 1, 0] [(0, .int x0), (1, .int x1), (3, .int x3), (5, .int 0), (6, .int x2), (7, .int x4)] rfl ?_
  exact S_X12_isOver_10 o F _ hf hr
theorem C_X12_isOver {k : Kst} (hj : Dj k) (hn : kn k = kdl.length) (F : Nat) {h : Hp} {x0 : Int32} {x1 : Int32} {x2 : Int32} {x3 : Int32} {x4 : Int32} {r : Int32} (hf : X12_isOver F x0 x1 x2 x3 x4 h = some r) : MI k 3 yX12_isOver cX12_isOver 8 (some .boolean) [.int x0, .int x1, .int x2, .int x3, .int x4] h r h := mZ hj hn (by decide +kernel) (Nat.le_of_ble_eq_true rfl) (fun d o hr => S_X12_isOver_0 o F hf hr)
set_option maxRecDepth 100000 in
set_option maxHeartbeats 4000000 in
theorem S_X12_ball_0 {k : Kst} {d : Kdy} (o : Ok k d cX12_ball RX12 6 4) (F : Nat) {h : Hp} {a0 : Nat} {x1 : Int32} {x2 : Int32} {x3 : Int32} {x4 : Int32} {x5 : Int32} {r : Int32} (hf : X12_ball F a0 x1 x2 x3 x4 x5 h = some r) (hr : RI k d cX12_ball r h) : Wz k d h 0 [(0, .ref (ka k a0)), (1, .int x1), (2, .int x2), (3, .int x3), (4, .int x4), (5, .int x5)] [] := by
  unfold X12_ball at hf
  refine x_iload_n o dX12_ball_0 1 rfl rfl ?_
  refine x_iconst (v := 1) o dX12_ball_1 (by decide) ?_
  refine x_sipush (v := 200) o dX12_ball_2 (by decide) ?_
  obtain ⟨c_1, ec_1, hf⟩ := ob_ex hf
  refine vRX12_113 [.int x1, .int 1, .int 200] [] o (C_X12_in o.1.2.2.2.2.2.2.1 o.2 F ec_1) (by decide) rfl rfl (Nat.le_of_ble_eq_true rfl) dX12_ball_5 ?_
  refine x_if_eq o 53 dX12_ball_8 (by decide) (fun q_3 => ?_) (fun q_3 => ?_)
  · replace hf := (if_pos q_3).symm.trans hf
    refine x_iconst (v := (-1)) o dX12_ball_53 (by decide) ?_
    cases hf
    exact hr _ _ dX12_ball_54
  · replace hf := (if_neg q_3).symm.trans hf
    refine x_iload_n o dX12_ball_11 2 rfl rfl ?_
    refine x_iconst (v := 0) o dX12_ball_12 (by decide) ?_
    refine x_bipush (v := 99) o dX12_ball_13 (by decide) ?_
    obtain ⟨c_4, ec_4, hf⟩ := ob_ex hf
    refine vRX12_113 [.int x2, .int 0, .int 99] [] o (C_X12_in o.1.2.2.2.2.2.2.1 o.2 F ec_4) (by decide) rfl rfl (Nat.le_of_ble_eq_true rfl) dX12_ball_15 ?_
    refine x_if_eq o 53 dX12_ball_18 (by decide) (fun q_6 => ?_) (fun q_6 => ?_)
    · replace hf := (if_pos q_6).symm.trans hf
      refine x_iconst (v := (-1)) o dX12_ball_53 (by decide) ?_
      cases hf
      exact hr _ _ dX12_ball_54
    · replace hf := (if_neg q_6).symm.trans hf
      refine x_iload_n o dX12_ball_21 3 rfl rfl ?_
      refine x_iconst (v := 0) o dX12_ball_22 (by decide) ?_
      refine x_bipush (v := 99) o dX12_ball_23 (by decide) ?_
      obtain ⟨c_7, ec_7, hf⟩ := ob_ex hf
      refine vRX12_113 [.int x3, .int 0, .int 99] [] o (C_X12_in o.1.2.2.2.2.2.2.1 o.2 F ec_7) (by decide) rfl rfl (Nat.le_of_ble_eq_true rfl) dX12_ball_25 ?_
      refine x_if_eq o 53 dX12_ball_28 (by decide) (fun q_9 => ?_) (fun q_9 => ?_)
      · replace hf := (if_pos q_9).symm.trans hf
        refine x_iconst (v := (-1)) o dX12_ball_53 (by decide) ?_
        cases hf
        exact hr _ _ dX12_ball_54
      · replace hf := (if_neg q_9).symm.trans hf
        refine x_iload o dX12_ball_31 4 rfl ?_
        refine x_iconst (v := 1) o dX12_ball_33 (by decide) ?_
        refine x_bipush (v := 20) o dX12_ball_34 (by decide) ?_
        obtain ⟨c_10, ec_10, hf⟩ := ob_ex hf
        refine vRX12_113 [.int x4, .int 1, .int 20] [] o (C_X12_in o.1.2.2.2.2.2.2.1 o.2 F ec_10) (by decide) rfl rfl (Nat.le_of_ble_eq_true rfl) dX12_ball_36 ?_
        refine x_if_eq o 53 dX12_ball_39 (by decide) (fun q_12 => ?_) (fun q_12 => ?_)
        · replace hf := (if_pos q_12).symm.trans hf
          refine x_iconst (v := (-1)) o dX12_ball_53 (by decide) ?_
          cases hf
          exact hr _ _ dX12_ball_54
        · replace hf := (if_neg q_12).symm.trans hf
          refine x_iload o dX12_ball_42 5 rfl ?_
          refine x_iconst (v := 0) o dX12_ball_44 (by decide) ?_
          refine x_bipush (v := 20) o dX12_ball_45 (by decide) ?_
          obtain ⟨c_13, ec_13, hf⟩ := ob_ex hf
          refine vRX12_113 [.int x5, .int 0, .int 20] [] o (C_X12_in o.1.2.2.2.2.2.2.1 o.2 F ec_13) (by decide) rfl rfl (Nat.le_of_ble_eq_true rfl) dX12_ball_47 ?_
          refine x_if_ne o 55 dX12_ball_50 (by decide) (fun q_15 => ?_) (fun q_15 => ?_)
          · replace hf := (if_neg q_15).symm.trans hf
            refine x_iload_n o dX12_ball_55 1 rfl rfl ?_
            refine x_iload_n o dX12_ball_56 2 rfl rfl ?_
            refine x_iload_n o dX12_ball_57 3 rfl rfl ?_
            refine x_iload o dX12_ball_58 4 rfl ?_
            refine x_iload o dX12_ball_60 5 rfl ?_
            obtain ⟨c_16, ec_16, hf⟩ := ob_ex hf
            refine vRX12_361 [.int x1, .int x2, .int x3, .int x4, .int x5] [] o (C_X12_isOver o.1.2.2.2.2.2.2.1 o.2 F ec_16) (by decide) rfl rfl (Nat.le_of_ble_eq_true rfl) dX12_ball_62 ?_
            refine x_if_eq o 72 dX12_ball_65 (by decide) (fun q_18 => ?_) (fun q_18 => ?_)
            · replace hf := (if_pos q_18).symm.trans hf
              refine x_iconst (v := 0) o dX12_ball_72 (by decide) ?_
              cases hf
              exact hr _ _ dX12_ball_73
            · replace hf := (if_neg q_18).symm.trans hf
              refine x_iconst (v := 1) o dX12_ball_68 (by decide) ?_
              refine x_goto o 73 dX12_ball_69 (by decide) ?_
              cases hf
              exact hr _ _ dX12_ball_73
          · replace hf := (if_pos q_15).symm.trans hf
            refine x_iconst (v := (-1)) o dX12_ball_53 (by decide) ?_
            cases hf
            exact hr _ _ dX12_ball_54
theorem C_X12_ball {k : Kst} (hj : Dj k) (hn : kn k = kdl.length) (F : Nat) {h : Hp} {a0 : Nat} {x1 : Int32} {x2 : Int32} {x3 : Int32} {x4 : Int32} {x5 : Int32} {r : Int32} (hf : X12_ball F a0 x1 x2 x3 x4 x5 h = some r) : MI k 4 yX12_ball cX12_ball 6 (some .int) [.ref (ka k a0), .int x1, .int x2, .int x3, .int x4, .int x5] h r h := mI hj hn (by decide +kernel) (Nat.le_of_ble_eq_true rfl) (fun d o hr => S_X12_ball_0 o F hf hr)
set_option maxRecDepth 100000 in
set_option maxHeartbeats 4000000 in
theorem S_X12_leastSpeed_47 {k : Kst} {d : Kdy} (o : Ok k d cX12_leastSpeed RX12 6 4) (F : Nat) : ∀ (f : Nat) {h : Hp} {x1 : Int32} {x2 : Int32} {x3 : Int32} {x4 : Int32} {x5 : Int32} {r : Int32}, X12_leastSpeed_47 F f x1 x2 x3 x4 x5 h = some r → RI k d cX12_leastSpeed r h → Wz k d h 47 [(1, .int x1), (2, .int x2), (3, .int x3), (4, .int x4), (5, .int x5)] [] := by
  intro f
  induction f with
  | zero =>
    intro h x1 x2 x3 x4 x5 r hf hr
    exact nomatch (show (none : Option _) = some _ from hf)
  | succ f ih =>
    intro h x1 x2 x3 x4 x5 r hf hr
    rw [X12_leastSpeed_47] at hf
    refine x_iload o dX12_leastSpeed_47 4 rfl ?_
    refine x_bipush (v := 20) o dX12_leastSpeed_49 (by decide) ?_
    refine x_icmp_gt o 76 dX12_leastSpeed_51 (by decide) (fun q_1 => ?_) (fun q_1 => ?_)
    · replace hf := (if_pos q_1).symm.trans hf
      refine x_bipush (v := (-2)) o dX12_leastSpeed_76 (by decide) ?_
      cases hf
      exact hr _ _ dX12_leastSpeed_78
    · replace hf := (if_neg q_1).symm.trans hf
      refine x_iload_n o dX12_leastSpeed_54 0 rfl rfl ?_
      refine x_iload_n o dX12_leastSpeed_55 1 rfl rfl ?_
      refine x_iload_n o dX12_leastSpeed_56 2 rfl rfl ?_
      refine x_iload o dX12_leastSpeed_57 4 rfl ?_
      refine x_iload o dX12_leastSpeed_59 3 rfl ?_
      obtain ⟨c_2, ec_2, hf⟩ := ob_ex hf
      refine vRX12_361 [.int x1, .int x2, .int x3, .int x5, .int x4] [] o (C_X12_isOver o.1.2.2.2.2.2.2.1 o.2 F ec_2) (by decide) rfl rfl (Nat.le_of_ble_eq_true rfl) dX12_leastSpeed_61 ?_
      refine x_if_eq o 70 dX12_leastSpeed_64 (by decide) (fun q_4 => ?_) (fun q_4 => ?_)
      · replace hf := (if_pos q_4).symm.trans hf
        obtain ⟨x5_5, ex5_5, hf⟩ := bd_ex hf
        refine x_iinc o dX12_leastSpeed_70 (by decide) 4 rfl ex5_5.symm [(5, .int x5_5), (1, .int x1), (2, .int x2), (3, .int x3), (4, .int x4)] rfl ?_
        refine x_goto o 47 dX12_leastSpeed_73 (by decide) ?_
        refine x_sub [1, 2, 3, 4, 0] [(1, .int x1), (2, .int x2), (3, .int x3), (4, .int x4), (5, .int x5_5)] rfl ?_
        exact ih hf hr
      · replace hf := (if_neg q_4).symm.trans hf
        refine x_iload o dX12_leastSpeed_67 4 rfl ?_
        cases hf
        exact hr _ _ dX12_leastSpeed_69
set_option maxRecDepth 100000 in
set_option maxHeartbeats 4000000 in
theorem S_X12_leastSpeed_0 {k : Kst} {d : Kdy} (o : Ok k d cX12_leastSpeed RX12 6 4) (F : Nat) {h : Hp} {a0 : Nat} {x1 : Int32} {x2 : Int32} {x3 : Int32} {x4 : Int32} {r : Int32} (hf : X12_leastSpeed F a0 x1 x2 x3 x4 h = some r) (hr : RI k d cX12_leastSpeed r h) : Wz k d h 0 [(0, .ref (ka k a0)), (1, .int x1), (2, .int x2), (3, .int x3), (4, .int x4)] [] := by
  unfold X12_leastSpeed at hf
  refine x_iload_n o dX12_leastSpeed_0 1 rfl rfl ?_
  refine x_iconst (v := 1) o dX12_leastSpeed_1 (by decide) ?_
  refine x_sipush (v := 200) o dX12_leastSpeed_2 (by decide) ?_
  obtain ⟨c_1, ec_1, hf⟩ := ob_ex hf
  refine vRX12_113 [.int x1, .int 1, .int 200] [] o (C_X12_in o.1.2.2.2.2.2.2.1 o.2 F ec_1) (by decide) rfl rfl (Nat.le_of_ble_eq_true rfl) dX12_leastSpeed_5 ?_
  refine x_if_eq o 42 dX12_leastSpeed_8 (by decide) (fun q_3 => ?_) (fun q_3 => ?_)
  · replace hf := (if_pos q_3).symm.trans hf
    refine x_iconst (v := (-1)) o dX12_leastSpeed_42 (by decide) ?_
    cases hf
    exact hr _ _ dX12_leastSpeed_43
  · replace hf := (if_neg q_3).symm.trans hf
    refine x_iload_n o dX12_leastSpeed_11 2 rfl rfl ?_
    refine x_iconst (v := 0) o dX12_leastSpeed_12 (by decide) ?_
    refine x_bipush (v := 99) o dX12_leastSpeed_13 (by decide) ?_
    obtain ⟨c_4, ec_4, hf⟩ := ob_ex hf
    refine vRX12_113 [.int x2, .int 0, .int 99] [] o (C_X12_in o.1.2.2.2.2.2.2.1 o.2 F ec_4) (by decide) rfl rfl (Nat.le_of_ble_eq_true rfl) dX12_leastSpeed_15 ?_
    refine x_if_eq o 42 dX12_leastSpeed_18 (by decide) (fun q_6 => ?_) (fun q_6 => ?_)
    · replace hf := (if_pos q_6).symm.trans hf
      refine x_iconst (v := (-1)) o dX12_leastSpeed_42 (by decide) ?_
      cases hf
      exact hr _ _ dX12_leastSpeed_43
    · replace hf := (if_neg q_6).symm.trans hf
      refine x_iload_n o dX12_leastSpeed_21 3 rfl rfl ?_
      refine x_iconst (v := 0) o dX12_leastSpeed_22 (by decide) ?_
      refine x_bipush (v := 99) o dX12_leastSpeed_23 (by decide) ?_
      obtain ⟨c_7, ec_7, hf⟩ := ob_ex hf
      refine vRX12_113 [.int x3, .int 0, .int 99] [] o (C_X12_in o.1.2.2.2.2.2.2.1 o.2 F ec_7) (by decide) rfl rfl (Nat.le_of_ble_eq_true rfl) dX12_leastSpeed_25 ?_
      refine x_if_eq o 42 dX12_leastSpeed_28 (by decide) (fun q_9 => ?_) (fun q_9 => ?_)
      · replace hf := (if_pos q_9).symm.trans hf
        refine x_iconst (v := (-1)) o dX12_leastSpeed_42 (by decide) ?_
        cases hf
        exact hr _ _ dX12_leastSpeed_43
      · replace hf := (if_neg q_9).symm.trans hf
        refine x_iload o dX12_leastSpeed_31 4 rfl ?_
        refine x_iconst (v := 0) o dX12_leastSpeed_33 (by decide) ?_
        refine x_bipush (v := 20) o dX12_leastSpeed_34 (by decide) ?_
        obtain ⟨c_10, ec_10, hf⟩ := ob_ex hf
        refine vRX12_113 [.int x4, .int 0, .int 20] [] o (C_X12_in o.1.2.2.2.2.2.2.1 o.2 F ec_10) (by decide) rfl rfl (Nat.le_of_ble_eq_true rfl) dX12_leastSpeed_36 ?_
        refine x_if_ne o 44 dX12_leastSpeed_39 (by decide) (fun q_12 => ?_) (fun q_12 => ?_)
        · replace hf := (if_neg q_12).symm.trans hf
          refine x_iconst (v := 1) o dX12_leastSpeed_44 (by decide) ?_
          refine x_istore o dX12_leastSpeed_45 (by decide) [(5, .int 1), (0, .ref (ka k a0)), (1, .int x1), (2, .int x2), (3, .int x3), (4, .int x4)] rfl ?_
          refine x_sub [2, 3, 4, 5, 0] [(1, .int x1), (2, .int x2), (3, .int x3), (4, .int x4), (5, .int 1)] rfl ?_
          exact S_X12_leastSpeed_47 o F _ hf hr
        · replace hf := (if_pos q_12).symm.trans hf
          refine x_iconst (v := (-1)) o dX12_leastSpeed_42 (by decide) ?_
          cases hf
          exact hr _ _ dX12_leastSpeed_43
theorem C_X12_leastSpeed {k : Kst} (hj : Dj k) (hn : kn k = kdl.length) (F : Nat) {h : Hp} {a0 : Nat} {x1 : Int32} {x2 : Int32} {x3 : Int32} {x4 : Int32} {r : Int32} (hf : X12_leastSpeed F a0 x1 x2 x3 x4 h = some r) : MI k 4 yX12_leastSpeed cX12_leastSpeed 6 (some .int) [.ref (ka k a0), .int x1, .int x2, .int x3, .int x4] h r h := mI hj hn (by decide +kernel) (Nat.le_of_ble_eq_true rfl) (fun d o hr => S_X12_leastSpeed_0 o F hf hr)
set_option maxRecDepth 100000 in
set_option maxHeartbeats 4000000 in
theorem S_X12_piles_213 {k : Kst} {d : Kdy} (o : Ok k d cX12_piles RX12 8 4) (F : Nat) {k58 : Nat → Int32 → Int32 → Int32 → Int32 → Int32 → Hp → Option (Int32 × Hp)} (hk58 : ∀ {h : Hp} {a0 : Nat} {x1 : Int32} {x2 : Int32} {x3 : Int32} {x4 : Int32} {x5 : Int32} {r : Int32} {h1 : Hp}, k58 a0 x1 x2 x3 x4 x5 h = some (r, h1) → RI k d cX12_piles r h1 → Wz k d h 58 [(0, .ref (ka k a0)), (1, .int x1), (2, .int x2), (3, .int x3), (4, .int x4), (5, .int x5)] []) {h : Hp} {a0 : Nat} {x1 : Int32} {x2 : Int32} {x3 : Int32} {x4 : Int32} {x5 : Int32} {r : Int32} {h1 : Hp} (hf : X12_piles_213 F k58 a0 x1 x2 x3 x4 x5 h = some (r, h1)) (hr : RI k d cX12_piles r h1) : Wz k d h 213 [(0, .ref (ka k a0)), (1, .int x1), (2, .int x2), (3, .int x3), (4, .int x4), (5, .int x5)] [] := by
  unfold X12_piles_213 at hf
  obtain ⟨x5_1, ex5_1, hf⟩ := bd_ex hf
  refine x_iinc o dX12_piles_213 (by decide) 5 rfl ex5_1.symm [(5, .int x5_1), (0, .ref (ka k a0)), (1, .int x1), (2, .int x2), (3, .int x3), (4, .int x4)] rfl ?_
  refine x_goto o 58 dX12_piles_216 (by decide) ?_
  refine x_sub [1, 2, 3, 4, 5, 0] [(0, .ref (ka k a0)), (1, .int x1), (2, .int x2), (3, .int x3), (4, .int x4), (5, .int x5_1)] rfl ?_
  exact hk58 hf hr
set_option maxRecDepth 100000 in
set_option maxHeartbeats 4000000 in
theorem S_X12_piles_209 {k : Kst} {d : Kdy} (o : Ok k d cX12_piles RX12 8 4) (F : Nat) {k58 : Nat → Int32 → Int32 → Int32 → Int32 → Int32 → Hp → Option (Int32 × Hp)} (hk58 : ∀ {h : Hp} {a0 : Nat} {x1 : Int32} {x2 : Int32} {x3 : Int32} {x4 : Int32} {x5 : Int32} {r : Int32} {h1 : Hp}, k58 a0 x1 x2 x3 x4 x5 h = some (r, h1) → RI k d cX12_piles r h1 → Wz k d h 58 [(0, .ref (ka k a0)), (1, .int x1), (2, .int x2), (3, .int x3), (4, .int x4), (5, .int x5)] []) {h : Hp} {a0 : Nat} {x1 : Int32} {x2 : Int32} {x3 : Int32} {x5 : Int32} {r : Int32} {h1 : Hp} (hf : X12_piles_209 F k58 a0 x1 x2 x3 x5 h = some (r, h1)) (hr : RI k d cX12_piles r h1) : Wz k d h 209 [(0, .ref (ka k a0)), (1, .int x1), (2, .int x2), (3, .int x3), (5, .int x5)] [] := by
  unfold X12_piles_209 at hf
  refine x_iload o dX12_piles_209 4 rfl ?_
  refine x_istore o dX12_piles_211 (by decide) [(4, .int x5), (0, .ref (ka k a0)), (1, .int x1), (2, .int x2), (3, .int x3), (5, .int x5)] rfl ?_
  refine x_sub [1, 2, 3, 4, 0, 5] [(0, .ref (ka k a0)), (1, .int x1), (2, .int x2), (3, .int x3), (4, .int x5), (5, .int x5)] rfl ?_
  exact S_X12_piles_213 o F hk58 hf hr
set_option maxRecDepth 100000 in
set_option maxHeartbeats 4000000 in
theorem S_X12_piles_159 {k : Kst} {d : Kdy} (o : Ok k d cX12_piles RX12 8 4) (F : Nat) {k58 : Nat → Int32 → Int32 → Int32 → Int32 → Int32 → Hp → Option (Int32 × Hp)} {k121 : Nat → Int32 → Int32 → Int32 → Int32 → Int32 → Int32 → Int32 → Hp → Option (Int32 × Hp)} (hk58 : ∀ {h : Hp} {a0 : Nat} {x1 : Int32} {x2 : Int32} {x3 : Int32} {x4 : Int32} {x5 : Int32} {r : Int32} {h1 : Hp}, k58 a0 x1 x2 x3 x4 x5 h = some (r, h1) → RI k d cX12_piles r h1 → Wz k d h 58 [(0, .ref (ka k a0)), (1, .int x1), (2, .int x2), (3, .int x3), (4, .int x4), (5, .int x5)] []) (hk121 : ∀ {h : Hp} {a0 : Nat} {x1 : Int32} {x2 : Int32} {x3 : Int32} {x4 : Int32} {x5 : Int32} {x6 : Int32} {x7 : Int32} {r : Int32} {h1 : Hp}, k121 a0 x1 x2 x3 x4 x5 x6 x7 h = some (r, h1) → RI k d cX12_piles r h1 → Wz k d h 121 [(0, .ref (ka k a0)), (1, .int x1), (2, .int x2), (3, .int x3), (4, .int x4), (5, .int x5), (6, .int x6), (7, .int x7)] []) {h : Hp} {a0 : Nat} {x1 : Int32} {x2 : Int32} {x3 : Int32} {x4 : Int32} {x5 : Int32} {x6 : Int32} {x7 : Int32} {r : Int32} {h1 : Hp} (hf : X12_piles_159 F k58 k121 a0 x1 x2 x3 x4 x5 x6 x7 h = some (r, h1)) (hr : RI k d cX12_piles r h1) : Wz k d h 159 [(0, .ref (ka k a0)), (1, .int x1), (2, .int x2), (3, .int x3), (4, .int x4), (5, .int x5), (6, .int x6), (7, .int x7)] [] := by
  unfold X12_piles_159 at hf
  obtain ⟨x7_1, ex7_1, hf⟩ := bd_ex hf
  refine x_iinc o dX12_piles_159 (by decide) 7 rfl ex7_1.symm [(7, .int x7_1), (0, .ref (ka k a0)), (1, .int x1), (2, .int x2), (3, .int x3), (4, .int x4), (5, .int x5), (6, .int x6)] rfl ?_
  refine x_goto o 121 dX12_piles_162 (by decide) ?_
  refine x_sub [1, 2, 3, 4, 5, 6, 7, 0] [(0, .ref (ka k a0)), (1, .int x1), (2, .int x2), (3, .int x3), (4, .int x4), (5, .int x5), (6, .int x6), (7, .int x7_1)] rfl ?_
  exact hk121 hf hr
set_option maxRecDepth 100000 in
set_option maxHeartbeats 4000000 in
theorem S_X12_piles_121 {k : Kst} {d : Kdy} (o : Ok k d cX12_piles RX12 8 4) (F : Nat) {k58 : Nat → Int32 → Int32 → Int32 → Int32 → Int32 → Hp → Option (Int32 × Hp)} (hk58 : ∀ {h : Hp} {a0 : Nat} {x1 : Int32} {x2 : Int32} {x3 : Int32} {x4 : Int32} {x5 : Int32} {r : Int32} {h1 : Hp}, k58 a0 x1 x2 x3 x4 x5 h = some (r, h1) → RI k d cX12_piles r h1 → Wz k d h 58 [(0, .ref (ka k a0)), (1, .int x1), (2, .int x2), (3, .int x3), (4, .int x4), (5, .int x5)] []) : ∀ (f : Nat) {h : Hp} {a0 : Nat} {x1 : Int32} {x2 : Int32} {x3 : Int32} {x4 : Int32} {x5 : Int32} {x6 : Int32} {x7 : Int32} {r : Int32} {h1 : Hp}, X12_piles_121 F k58 f a0 x1 x2 x3 x4 x5 x6 x7 h = some (r, h1) → RI k d cX12_piles r h1 → Wz k d h 121 [(0, .ref (ka k a0)), (1, .int x1), (2, .int x2), (3, .int x3), (4, .int x4), (5, .int x5), (6, .int x6), (7, .int x7)] [] := by
  intro f
  induction f with
  | zero =>
    intro h a0 x1 x2 x3 x4 x5 x6 x7 r h1 hf hr
    exact nomatch (show (none : Option _) = some _ from hf)
  | succ f ih =>
    intro h a0 x1 x2 x3 x4 x5 x6 x7 r h1 hf hr
    rw [X12_piles_121] at hf
    refine x_iload o dX12_piles_121 7 rfl ?_
    refine x_iload o dX12_piles_123 5 rfl ?_
    refine x_icmp_ge o 165 dX12_piles_125 (by decide) (fun q_1 => ?_) (fun q_1 => ?_)
    · replace hf := (if_pos q_1).symm.trans hf
      refine x_aload_n o dX12_piles_165 0 rfl rfl ?_
      obtain ⟨k_2, hf⟩ := gq_ex hf
      obtain ⟨j_3, ej_3, hf⟩ := ob_ex hf
      refine gRX12_83 o k_2 ej_3 dX12_piles_166 ?_
      refine x_iload o dX12_piles_169 5 rfl ?_
      obtain ⟨k_4, hf⟩ := gq_ex hf
      obtain ⟨b_5, hf⟩ := gq_ex hf
      refine x_iald o k_4 b_5 dX12_piles_171 ?_
      refine x_ldcw (v := 100000000) o dX12_piles_172 wRX12_347 ?_
      refine x_icmp_ge o 213 dX12_piles_175 (by decide) (fun q_6 => ?_) (fun q_6 => ?_)
      · replace hf := (if_pos q_6).symm.trans hf
        refine x_sub [0, 1, 2, 3, 4, 5] [(0, .ref (ka k a0)), (1, .int x1), (2, .int x2), (3, .int x3), (4, .int x4), (5, .int x5)] rfl ?_
        exact S_X12_piles_213 o F hk58 hf hr
      · replace hf := (if_neg q_6).symm.trans hf
        refine x_iload_n o dX12_piles_178 1 rfl rfl ?_
        refine x_iload o dX12_piles_179 5 rfl ?_
        refine x_isub o dX12_piles_181 ?_
        refine x_iload_n o dX12_piles_182 2 rfl rfl ?_
        refine x_icmp_gt o 213 dX12_piles_183 (by decide) (fun q_7 => ?_) (fun q_7 => ?_)
        · replace hf := (if_pos q_7).symm.trans hf
          refine x_sub [0, 1, 2, 3, 4, 5] [(0, .ref (ka k a0)), (1, .int x1), (2, .int x2), (3, .int x3), (4, .int x4), (5, .int x5)] rfl ?_
          exact S_X12_piles_213 o F hk58 hf hr
        · replace hf := (if_neg q_7).symm.trans hf
          refine x_iload o dX12_piles_186 4 rfl ?_
          refine x_iconst (v := (-1)) o dX12_piles_188 (by decide) ?_
          refine x_icmp_eq o 209 dX12_piles_189 (by decide) (fun q_8 => ?_) (fun q_8 => ?_)
          · replace hf := (if_pos q_8).symm.trans hf
            refine x_sub [0, 1, 2, 3, 5] [(0, .ref (ka k a0)), (1, .int x1), (2, .int x2), (3, .int x3), (5, .int x5)] rfl ?_
            exact S_X12_piles_209 o F hk58 hf hr
          · replace hf := (if_neg q_8).symm.trans hf
            refine x_aload_n o dX12_piles_192 0 rfl rfl ?_
            refine gRX12_83 o k_2 ej_3 dX12_piles_193 ?_
            refine x_iload o dX12_piles_196 5 rfl ?_
            obtain ⟨b_9, hf⟩ := gq_ex hf
            refine x_iald o k_4 b_9 dX12_piles_198 ?_
            refine x_aload_n o dX12_piles_199 0 rfl rfl ?_
            refine gRX12_83 o k_2 ej_3 dX12_piles_200 ?_
            refine x_iload o dX12_piles_203 4 rfl ?_
            obtain ⟨b_10, hf⟩ := gq_ex hf
            refine x_iald o k_4 b_10 dX12_piles_205 ?_
            refine x_icmp_ge o 213 dX12_piles_206 (by decide) (fun q_11 => ?_) (fun q_11 => ?_)
            · replace hf := (if_pos q_11).symm.trans hf
              refine x_sub [0, 1, 2, 3, 4, 5] [(0, .ref (ka k a0)), (1, .int x1), (2, .int x2), (3, .int x3), (4, .int x4), (5, .int x5)] rfl ?_
              exact S_X12_piles_213 o F hk58 hf hr
            · replace hf := (if_neg q_11).symm.trans hf
              refine x_sub [0, 1, 2, 3, 5] [(0, .ref (ka k a0)), (1, .int x1), (2, .int x2), (3, .int x3), (5, .int x5)] rfl ?_
              exact S_X12_piles_209 o F hk58 hf hr
    · replace hf := (if_neg q_1).symm.trans hf
      refine x_iload o dX12_piles_128 6 rfl ?_
      refine x_if_eq o 159 dX12_piles_130 (by decide) (fun q_12 => ?_) (fun q_12 => ?_)
      · replace hf := (if_pos q_12).symm.trans hf
        refine x_sub [0, 1, 2, 3, 4, 5, 6, 7] [(0, .ref (ka k a0)), (1, .int x1), (2, .int x2), (3, .int x3), (4, .int x4), (5, .int x5), (6, .int x6), (7, .int x7)] rfl ?_
        exact S_X12_piles_159 o F hk58 (fun q1 q2 => ih q1 q2) hf hr
      · replace hf := (if_neg q_12).symm.trans hf
        refine x_aload_n o dX12_piles_133 0 rfl rfl ?_
        obtain ⟨k_13, hf⟩ := gq_ex hf
        obtain ⟨j_14, ej_14, hf⟩ := ob_ex hf
        refine gRX12_83 o k_13 ej_14 dX12_piles_134 ?_
        refine x_iload o dX12_piles_137 5 rfl ?_
        refine x_aload_n o dX12_piles_139 0 rfl rfl ?_
        refine gRX12_83 o k_13 ej_14 dX12_piles_140 ?_
        refine x_iload o dX12_piles_143 5 rfl ?_
        obtain ⟨k_15, hf⟩ := gq_ex hf
        obtain ⟨b_16, hf⟩ := gq_ex hf
        refine x_iald o k_15 b_16 dX12_piles_145 ?_
        refine x_aload_n o dX12_piles_146 0 rfl rfl ?_
        refine gRX12_83 o k_13 ej_14 dX12_piles_147 ?_
        refine x_iload o dX12_piles_150 7 rfl ?_
        obtain ⟨b_17, hf⟩ := gq_ex hf
        refine x_iald o k_15 b_17 dX12_piles_152 ?_
        refine x_iconst (v := 1) o dX12_piles_153 (by decide) ?_
        refine x_iadd o dX12_piles_154 ?_
        obtain ⟨c_18, ec_18, hf⟩ := ob_ex hf
        refine vRX12_269 [.int (h.1 j_14 (ix x5)), .int ((h.1 j_14 (ix x7)) + 1)] [.int x5, .ref (ka k j_14)] o (C_X12_min o.1.2.2.2.2.2.2.1 o.2 F ec_18) (by decide) rfl rfl (Nat.le_of_ble_eq_true rfl) dX12_piles_155 ?_
        obtain ⟨b_20, hf⟩ := gq_ex hf
        obtain ⟨h_21, eh_21, hf⟩ := bd_ex hf
        refine x_iast o k_15 b_20 dX12_piles_158 (x_h eh_21 ?_)
        refine x_sub [0, 1, 2, 3, 4, 5, 6, 7] [(0, .ref (ka k a0)), (1, .int x1), (2, .int x2), (3, .int x3), (4, .int x4), (5, .int x5), (6, .int x6), (7, .int x7)] rfl ?_
        exact S_X12_piles_159 o F hk58 (fun q1 q2 => ih q1 q2) hf hr
set_option maxRecDepth 100000 in
set_option maxHeartbeats 4000000 in
theorem S_X12_piles_109 {k : Kst} {d : Kdy} (o : Ok k d cX12_piles RX12 8 4) (F : Nat) {k58 : Nat → Int32 → Int32 → Int32 → Int32 → Int32 → Hp → Option (Int32 × Hp)} (hk58 : ∀ {h : Hp} {a0 : Nat} {x1 : Int32} {x2 : Int32} {x3 : Int32} {x4 : Int32} {x5 : Int32} {r : Int32} {h1 : Hp}, k58 a0 x1 x2 x3 x4 x5 h = some (r, h1) → RI k d cX12_piles r h1 → Wz k d h 58 [(0, .ref (ka k a0)), (1, .int x1), (2, .int x2), (3, .int x3), (4, .int x4), (5, .int x5)] []) {h : Hp} {a0 : Nat} {x1 : Int32} {x2 : Int32} {x3 : Int32} {x4 : Int32} {x5 : Int32} {s0 : Int32} {r : Int32} {h1 : Hp} (hf : X12_piles_109 F k58 a0 x1 x2 x3 x4 x5 s0 h = some (r, h1)) (hr : RI k d cX12_piles r h1) : Wz k d h 109 [(0, .ref (ka k a0)), (1, .int x1), (2, .int x2), (3, .int x3), (4, .int x4), (5, .int x5)] [.int s0] := by
  unfold X12_piles_109 at hf
  refine x_istore o dX12_piles_109 (by decide) [(6, .int s0), (0, .ref (ka k a0)), (1, .int x1), (2, .int x2), (3, .int x3), (4, .int x4), (5, .int x5)] rfl ?_
  refine x_iconst (v := 0) o dX12_piles_111 (by decide) ?_
  refine x_iload o dX12_piles_112 6 rfl ?_
  refine x_iload_n o dX12_piles_114 3 rfl rfl ?_
  refine x_isub o dX12_piles_115 ?_
  obtain ⟨c_1, ec_1, hf⟩ := ob_ex hf
  refine vRX12_272 [.int 0, .int (x5 - x2)] [] o (C_X12_max o.1.2.2.2.2.2.2.1 o.2 F ec_1) (by decide) rfl rfl (Nat.le_of_ble_eq_true rfl) dX12_piles_116 ?_
  refine x_istore o dX12_piles_119 (by decide) [(7, .int c_1), (6, .int s0), (0, .ref (ka k a0)), (1, .int x1), (2, .int x2), (3, .int x3), (4, .int x4), (5, .int x5)] rfl ?_
  refine x_sub [2, 3, 4, 5, 6, 7, 1, 0] [(0, .ref (ka k a0)), (1, .int x1), (2, .int x2), (3, .int x3), (4, .int x4), (5, .int x5), (6, .int s0), (7, .int c_1)] rfl ?_
  exact S_X12_piles_121 o F hk58 _ hf hr
set_option maxRecDepth 100000 in
set_option maxHeartbeats 4000000 in
theorem S_X12_piles_108 {k : Kst} {d : Kdy} (o : Ok k d cX12_piles RX12 8 4) (F : Nat) {k58 : Nat → Int32 → Int32 → Int32 → Int32 → Int32 → Hp → Option (Int32 × Hp)} (hk58 : ∀ {h : Hp} {a0 : Nat} {x1 : Int32} {x2 : Int32} {x3 : Int32} {x4 : Int32} {x5 : Int32} {r : Int32} {h1 : Hp}, k58 a0 x1 x2 x3 x4 x5 h = some (r, h1) → RI k d cX12_piles r h1 → Wz k d h 58 [(0, .ref (ka k a0)), (1, .int x1), (2, .int x2), (3, .int x3), (4, .int x4), (5, .int x5)] []) {h : Hp} {a0 : Nat} {x1 : Int32} {x2 : Int32} {x3 : Int32} {x4 : Int32} {x5 : Int32} {r : Int32} {h1 : Hp} (hf : X12_piles_108 F k58 a0 x1 x2 x3 x4 x5 h = some (r, h1)) (hr : RI k d cX12_piles r h1) : Wz k d h 108 [(0, .ref (ka k a0)), (1, .int x1), (2, .int x2), (3, .int x3), (4, .int x4), (5, .int x5)] [] := by
  unfold X12_piles_108 at hf
  refine x_iconst (v := 0) o dX12_piles_108 (by decide) ?_
  refine x_sub [0, 1, 2, 3, 4, 5] [(0, .ref (ka k a0)), (1, .int x1), (2, .int x2), (3, .int x3), (4, .int x4), (5, .int x5)] rfl ?_
  exact S_X12_piles_109 o F hk58 hf hr
set_option maxRecDepth 100000 in
set_option maxHeartbeats 4000000 in
theorem S_X12_piles_79 {k : Kst} {d : Kdy} (o : Ok k d cX12_piles RX12 8 4) (F : Nat) {k58 : Nat → Int32 → Int32 → Int32 → Int32 → Int32 → Hp → Option (Int32 × Hp)} (hk58 : ∀ {h : Hp} {a0 : Nat} {x1 : Int32} {x2 : Int32} {x3 : Int32} {x4 : Int32} {x5 : Int32} {r : Int32} {h1 : Hp}, k58 a0 x1 x2 x3 x4 x5 h = some (r, h1) → RI k d cX12_piles r h1 → Wz k d h 58 [(0, .ref (ka k a0)), (1, .int x1), (2, .int x2), (3, .int x3), (4, .int x4), (5, .int x5)] []) {h : Hp} {a0 : Nat} {x1 : Int32} {x2 : Int32} {x3 : Int32} {x4 : Int32} {x5 : Int32} {r : Int32} {h1 : Hp} (hf : X12_piles_79 F k58 a0 x1 x2 x3 x4 x5 h = some (r, h1)) (hr : RI k d cX12_piles r h1) : Wz k d h 79 [(0, .ref (ka k a0)), (1, .int x1), (2, .int x2), (3, .int x3), (4, .int x4), (5, .int x5)] [] := by
  unfold X12_piles_79 at hf
  refine x_iload o dX12_piles_79 5 rfl ?_
  refine x_if_le o 108 dX12_piles_81 (by decide) (fun q_1 => ?_) (fun q_1 => ?_)
  · replace hf := (if_pos q_1).symm.trans hf
    refine x_sub [0, 1, 2, 3, 4, 5] [(0, .ref (ka k a0)), (1, .int x1), (2, .int x2), (3, .int x3), (4, .int x4), (5, .int x5)] rfl ?_
    exact S_X12_piles_108 o F hk58 hf hr
  · replace hf := (if_neg q_1).symm.trans hf
    refine x_aload_n o dX12_piles_84 0 rfl rfl ?_
    refine x_iload o dX12_piles_85 5 rfl ?_
    refine x_bipush (v := 8) o dX12_piles_87 (by decide) ?_
    refine x_idiv o dX12_piles_89 (by decide) ?_
    obtain ⟨k_2, hf⟩ := gq_ex hf
    obtain ⟨c_3, ec_3, hf⟩ := ob_ex hf
    refine vRX12_245 [.int (x5 / 8)] [] o (C_X12_octet o.1.2.2.2.2.2.2.1 o.2 F ec_3) (by decide) k_2 rfl rfl (Nat.le_of_ble_eq_true rfl) dX12_piles_90 ?_
    refine x_iload o dX12_piles_93 5 rfl ?_
    refine x_bipush (v := 8) o dX12_piles_95 (by decide) ?_
    refine x_irem o dX12_piles_97 (by decide) ?_
    obtain ⟨c_5, ec_5, hf⟩ := ob_ex hf
    refine vRX12_354 [.int c_3, .int (irm x5 8)] [] o (C_X12_has o.1.2.2.2.2.2.2.1 o.2 F ec_5) (by decide) rfl rfl (Nat.le_of_ble_eq_true rfl) dX12_piles_98 ?_
    refine x_if_eq o 108 dX12_piles_101 (by decide) (fun q_7 => ?_) (fun q_7 => ?_)
    · replace hf := (if_pos q_7).symm.trans hf
      refine x_sub [0, 1, 2, 3, 4, 5] [(0, .ref (ka k a0)), (1, .int x1), (2, .int x2), (3, .int x3), (4, .int x4), (5, .int x5)] rfl ?_
      exact S_X12_piles_108 o F hk58 hf hr
    · replace hf := (if_neg q_7).symm.trans hf
      refine x_iconst (v := 1) o dX12_piles_104 (by decide) ?_
      refine x_goto o 109 dX12_piles_105 (by decide) ?_
      refine x_sub [0, 1, 2, 3, 4, 5] [(0, .ref (ka k a0)), (1, .int x1), (2, .int x2), (3, .int x3), (4, .int x4), (5, .int x5)] rfl ?_
      exact S_X12_piles_109 o F hk58 hf hr
set_option maxRecDepth 100000 in
set_option maxHeartbeats 4000000 in
theorem S_X12_piles_58 {k : Kst} {d : Kdy} (o : Ok k d cX12_piles RX12 8 4) (F : Nat) : ∀ (f : Nat) {h : Hp} {a0 : Nat} {x1 : Int32} {x2 : Int32} {x3 : Int32} {x4 : Int32} {x5 : Int32} {r : Int32} {h1 : Hp}, X12_piles_58 F f a0 x1 x2 x3 x4 x5 h = some (r, h1) → RI k d cX12_piles r h1 → Wz k d h 58 [(0, .ref (ka k a0)), (1, .int x1), (2, .int x2), (3, .int x3), (4, .int x4), (5, .int x5)] [] := by
  intro f
  induction f with
  | zero =>
    intro h a0 x1 x2 x3 x4 x5 r h1 hf hr
    exact nomatch (show (none : Option _) = some _ from hf)
  | succ f ih =>
    intro h a0 x1 x2 x3 x4 x5 r h1 hf hr
    rw [X12_piles_58] at hf
    refine x_iload o dX12_piles_58 5 rfl ?_
    refine x_iload_n o dX12_piles_60 1 rfl rfl ?_
    refine x_icmp_ge o 219 dX12_piles_61 (by decide) (fun q_1 => ?_) (fun q_1 => ?_)
    · replace hf := (if_pos q_1).symm.trans hf
      refine x_iload o dX12_piles_219 4 rfl ?_
      refine x_iconst (v := (-1)) o dX12_piles_221 (by decide) ?_
      refine x_icmp_ne o 228 dX12_piles_222 (by decide) (fun q_2 => ?_) (fun q_2 => ?_)
      · replace hf := (if_neg q_2).symm.trans hf
        refine x_iload_n o dX12_piles_228 3 rfl rfl ?_
        refine x_if_ne o 242 dX12_piles_229 (by decide) (fun q_3 => ?_) (fun q_3 => ?_)
        · replace hf := (if_neg q_3).symm.trans hf
          refine x_iload o dX12_piles_242 4 rfl ?_
          cases hf
          exact hr _ _ dX12_piles_244
        · replace hf := (if_pos q_3).symm.trans hf
          refine x_aload_n o dX12_piles_232 0 rfl rfl ?_
          obtain ⟨k_4, hf⟩ := gq_ex hf
          obtain ⟨j_5, ej_5, hf⟩ := ob_ex hf
          refine gRX12_83 o k_4 ej_5 dX12_piles_233 ?_
          refine x_iload o dX12_piles_236 4 rfl ?_
          obtain ⟨k_6, hf⟩ := gq_ex hf
          obtain ⟨b_7, hf⟩ := gq_ex hf
          refine x_iald o k_6 b_7 dX12_piles_238 ?_
          refine x_goto o 244 dX12_piles_239 (by decide) ?_
          cases hf
          exact hr _ _ dX12_piles_244
      · replace hf := (if_pos q_2).symm.trans hf
        refine x_bipush (v := (-2)) o dX12_piles_225 (by decide) ?_
        cases hf
        exact hr _ _ dX12_piles_227
    · replace hf := (if_neg q_1).symm.trans hf
      refine x_iload o dX12_piles_64 5 rfl ?_
      refine x_if_le o 79 dX12_piles_66 (by decide) (fun q_8 => ?_) (fun q_8 => ?_)
      · replace hf := (if_pos q_8).symm.trans hf
        refine x_sub [0, 1, 2, 3, 4, 5] [(0, .ref (ka k a0)), (1, .int x1), (2, .int x2), (3, .int x3), (4, .int x4), (5, .int x5)] rfl ?_
        exact S_X12_piles_79 o F (fun q1 q2 => ih q1 q2) hf hr
      · replace hf := (if_neg q_8).symm.trans hf
        refine x_aload_n o dX12_piles_69 0 rfl rfl ?_
        obtain ⟨k_9, hf⟩ := gq_ex hf
        obtain ⟨j_10, ej_10, hf⟩ := ob_ex hf
        refine gRX12_83 o k_9 ej_10 dX12_piles_70 ?_
        refine x_iload o dX12_piles_73 5 rfl ?_
        refine x_ldcw (v := 100000000) o dX12_piles_75 wRX12_347 ?_
        obtain ⟨k_11, hf⟩ := gq_ex hf
        obtain ⟨b_12, hf⟩ := gq_ex hf
        obtain ⟨h_13, eh_13, hf⟩ := bd_ex hf
        refine x_iast o k_11 b_12 dX12_piles_78 (x_h eh_13 ?_)
        refine x_sub [0, 1, 2, 3, 4, 5] [(0, .ref (ka k a0)), (1, .int x1), (2, .int x2), (3, .int x3), (4, .int x4), (5, .int x5)] rfl ?_
        exact S_X12_piles_79 o F (fun q1 q2 => ih q1 q2) hf hr
set_option maxRecDepth 100000 in
set_option maxHeartbeats 4000000 in
theorem S_X12_piles_0 {k : Kst} {d : Kdy} (o : Ok k d cX12_piles RX12 8 4) (F : Nat) {h : Hp} {a0 : Nat} {x1 : Int32} {x2 : Int32} {x3 : Int32} {r : Int32} {h1 : Hp} (hf : X12_piles F a0 x1 x2 x3 h = some (r, h1)) (hr : RI k d cX12_piles r h1) : Wz k d h 0 [(0, .ref (ka k a0)), (1, .int x1), (2, .int x2), (3, .int x3)] [] := by
  unfold X12_piles at hf
  refine x_iload_n o dX12_piles_0 1 rfl rfl ?_
  refine x_iconst (v := 1) o dX12_piles_1 (by decide) ?_
  refine x_bipush (v := 60) o dX12_piles_2 (by decide) ?_
  obtain ⟨c_1, ec_1, hf⟩ := ob_ex hf
  refine vRX12_113 [.int x1, .int 1, .int 60] [] o (C_X12_in o.1.2.2.2.2.2.2.1 o.2 F ec_1) (by decide) rfl rfl (Nat.le_of_ble_eq_true rfl) dX12_piles_4 ?_
  refine x_if_eq o 38 dX12_piles_7 (by decide) (fun q_3 => ?_) (fun q_3 => ?_)
  · replace hf := (if_pos q_3).symm.trans hf
    refine x_iconst (v := (-1)) o dX12_piles_38 (by decide) ?_
    cases hf
    exact hr _ _ dX12_piles_39
  · replace hf := (if_neg q_3).symm.trans hf
    refine x_iload_n o dX12_piles_10 2 rfl rfl ?_
    refine x_iconst (v := 1) o dX12_piles_11 (by decide) ?_
    refine x_bipush (v := 60) o dX12_piles_12 (by decide) ?_
    obtain ⟨c_4, ec_4, hf⟩ := ob_ex hf
    refine vRX12_113 [.int x2, .int 1, .int 60] [] o (C_X12_in o.1.2.2.2.2.2.2.1 o.2 F ec_4) (by decide) rfl rfl (Nat.le_of_ble_eq_true rfl) dX12_piles_14 ?_
    refine x_if_eq o 38 dX12_piles_17 (by decide) (fun q_6 => ?_) (fun q_6 => ?_)
    · replace hf := (if_pos q_6).symm.trans hf
      refine x_iconst (v := (-1)) o dX12_piles_38 (by decide) ?_
      cases hf
      exact hr _ _ dX12_piles_39
    · replace hf := (if_neg q_6).symm.trans hf
      refine x_iload_n o dX12_piles_20 3 rfl rfl ?_
      refine x_iconst (v := 0) o dX12_piles_21 (by decide) ?_
      refine x_iconst (v := 1) o dX12_piles_22 (by decide) ?_
      obtain ⟨c_7, ec_7, hf⟩ := ob_ex hf
      refine vRX12_113 [.int x3, .int 0, .int 1] [] o (C_X12_in o.1.2.2.2.2.2.2.1 o.2 F ec_7) (by decide) rfl rfl (Nat.le_of_ble_eq_true rfl) dX12_piles_23 ?_
      refine x_if_eq o 38 dX12_piles_26 (by decide) (fun q_9 => ?_) (fun q_9 => ?_)
      · replace hf := (if_pos q_9).symm.trans hf
        refine x_iconst (v := (-1)) o dX12_piles_38 (by decide) ?_
        cases hf
        exact hr _ _ dX12_piles_39
      · replace hf := (if_neg q_9).symm.trans hf
        refine x_aload_n o dX12_piles_29 0 rfl rfl ?_
        obtain ⟨k_10, hf⟩ := gq_ex hf
        refine gRX12_128 o k_10 dX12_piles_30 ?_
        refine x_bipush (v := 8) o dX12_piles_33 (by decide) ?_
        refine x_icmp_ge o 40 dX12_piles_35 (by decide) (fun q_11 => ?_) (fun q_11 => ?_)
        · replace hf := (if_pos q_11).symm.trans hf
          refine x_aload_n o dX12_piles_40 0 rfl rfl ?_
          refine x_iconst (v := 0) o dX12_piles_41 (by decide) ?_
          obtain ⟨h_12, eh_12, hf⟩ := bd_ex hf
          refine pRX12_128 o k_10 eh_12 dX12_piles_42 ?_
          refine x_aload_n o dX12_piles_45 0 rfl rfl ?_
          obtain ⟨j_13, ej_13, hf⟩ := ob_ex hf
          refine gRX12_83 o k_10 ej_13 dX12_piles_46 ?_
          refine x_iconst (v := 0) o dX12_piles_49 (by decide) ?_
          refine x_iconst (v := 0) o dX12_piles_50 (by decide) ?_
          obtain ⟨k_14, hf⟩ := gq_ex hf
          obtain ⟨b_15, hf⟩ := gq_ex hf
          obtain ⟨h_16, eh_16, hf⟩ := bd_ex hf
          refine x_iast o k_14 b_15 dX12_piles_51 (x_h eh_16 ?_)
          refine x_iconst (v := (-1)) o dX12_piles_52 (by decide) ?_
          refine x_istore o dX12_piles_53 (by decide) [(4, .int (-1)), (0, .ref (ka k a0)), (1, .int x1), (2, .int x2), (3, .int x3)] rfl ?_
          refine x_iconst (v := 0) o dX12_piles_55 (by decide) ?_
          refine x_istore o dX12_piles_56 (by decide) [(5, .int 0), (4, .int (-1)), (0, .ref (ka k a0)), (1, .int x1), (2, .int x2), (3, .int x3)] rfl ?_
          refine x_sub [2, 3, 4, 5, 1, 0] [(0, .ref (ka k a0)), (1, .int x1), (2, .int x2), (3, .int x3), (4, .int (-1)), (5, .int 0)] rfl ?_
          exact S_X12_piles_58 o F _ hf hr
        · replace hf := (if_neg q_11).symm.trans hf
          refine x_iconst (v := (-1)) o dX12_piles_38 (by decide) ?_
          cases hf
          exact hr _ _ dX12_piles_39
theorem C_X12_piles {k : Kst} (hj : Dj k) (hn : kn k = kdl.length) (F : Nat) {h : Hp} {a0 : Nat} {x1 : Int32} {x2 : Int32} {x3 : Int32} {r : Int32} {h1 : Hp} (hf : X12_piles F a0 x1 x2 x3 h = some (r, h1)) : MI k 4 yX12_piles cX12_piles 8 (some .int) [.ref (ka k a0), .int x1, .int x2, .int x3] h r h1 := mI hj hn (by decide +kernel) (Nat.le_of_ble_eq_true rfl) (fun d o hr => S_X12_piles_0 o F hf hr)
set_option maxRecDepth 100000 in
set_option maxHeartbeats 4000000 in
theorem S_X12_isAllLit_55 {k : Kst} {d : Kdy} (o : Ok k d cX12_isAllLit RX12 7 4) (F : Nat) {k3 : Int32 → Int32 → Int32 → Int32 → Hp → Option Int32} (hk3 : ∀ {h : Hp} {x1 : Int32} {x2 : Int32} {x3 : Int32} {x4 : Int32} {r : Int32}, k3 x1 x2 x3 x4 h = some r → RZ k d cX12_isAllLit r h → Wz k d h 3 [(1, .int x1), (2, .int x2), (3, .int x3), (4, .int x4)] []) {h : Hp} {x1 : Int32} {x2 : Int32} {x3 : Int32} {x4 : Int32} {x5 : Int32} {r : Int32} (hf : X12_isAllLit_55 F k3 x1 x2 x3 x4 x5 h = some r) (hr : RZ k d cX12_isAllLit r h) : Wz k d h 55 [(1, .int x1), (2, .int x2), (3, .int x3), (4, .int x4), (5, .int x5)] [] := by
  unfold X12_isAllLit_55 at hf
  refine x_iload o dX12_isAllLit_55 4 rfl ?_
  refine x_if_ne o 62 dX12_isAllLit_57 (by decide) (fun q_1 => ?_) (fun q_1 => ?_)
  · replace hf := (if_neg q_1).symm.trans hf
    obtain ⟨x4_2, ex4_2, hf⟩ := bd_ex hf
    refine x_iinc o dX12_isAllLit_62 (by decide) 3 rfl ex4_2.symm [(4, .int x4_2), (1, .int x1), (2, .int x2), (3, .int x3), (5, .int x5)] rfl ?_
    refine x_goto o 3 dX12_isAllLit_65 (by decide) ?_
    refine x_sub [1, 2, 3, 0] [(1, .int x1), (2, .int x2), (3, .int x3), (4, .int x4_2)] rfl ?_
    exact hk3 hf hr
  · replace hf := (if_pos q_1).symm.trans hf
    refine x_iconst (v := 0) o dX12_isAllLit_60 (by decide) ?_
    cases hf
    exact hr (Or.inl rfl) _ _ dX12_isAllLit_61
set_option maxRecDepth 100000 in
set_option maxHeartbeats 4000000 in
theorem S_X12_isAllLit_49 {k : Kst} {d : Kdy} (o : Ok k d cX12_isAllLit RX12 7 4) (F : Nat) {k3 : Int32 → Int32 → Int32 → Int32 → Hp → Option Int32} {k22 : Int32 → Int32 → Int32 → Int32 → Int32 → Int32 → Hp → Option Int32} (hk3 : ∀ {h : Hp} {x1 : Int32} {x2 : Int32} {x3 : Int32} {x4 : Int32} {r : Int32}, k3 x1 x2 x3 x4 h = some r → RZ k d cX12_isAllLit r h → Wz k d h 3 [(1, .int x1), (2, .int x2), (3, .int x3), (4, .int x4)] []) (hk22 : ∀ {h : Hp} {x1 : Int32} {x2 : Int32} {x3 : Int32} {x4 : Int32} {x5 : Int32} {x6 : Int32} {r : Int32}, k22 x1 x2 x3 x4 x5 x6 h = some r → RZ k d cX12_isAllLit r h → Wz k d h 22 [(1, .int x1), (2, .int x2), (3, .int x3), (4, .int x4), (5, .int x5), (6, .int x6)] []) {h : Hp} {x1 : Int32} {x2 : Int32} {x3 : Int32} {x4 : Int32} {x5 : Int32} {x6 : Int32} {r : Int32} (hf : X12_isAllLit_49 F k3 k22 x1 x2 x3 x4 x5 x6 h = some r) (hr : RZ k d cX12_isAllLit r h) : Wz k d h 49 [(1, .int x1), (2, .int x2), (3, .int x3), (4, .int x4), (5, .int x5), (6, .int x6)] [] := by
  unfold X12_isAllLit_49 at hf
  obtain ⟨x6_1, ex6_1, hf⟩ := bd_ex hf
  refine x_iinc o dX12_isAllLit_49 (by decide) 5 rfl ex6_1.symm [(6, .int x6_1), (1, .int x1), (2, .int x2), (3, .int x3), (4, .int x4), (5, .int x5)] rfl ?_
  refine x_goto o 22 dX12_isAllLit_52 (by decide) ?_
  refine x_sub [1, 2, 3, 4, 5, 0] [(1, .int x1), (2, .int x2), (3, .int x3), (4, .int x4), (5, .int x5), (6, .int x6_1)] rfl ?_
  exact hk22 hf hr
set_option maxRecDepth 100000 in
set_option maxHeartbeats 4000000 in
theorem S_X12_isAllLit_22 {k : Kst} {d : Kdy} (o : Ok k d cX12_isAllLit RX12 7 4) (F : Nat) {k3 : Int32 → Int32 → Int32 → Int32 → Hp → Option Int32} (hk3 : ∀ {h : Hp} {x1 : Int32} {x2 : Int32} {x3 : Int32} {x4 : Int32} {r : Int32}, k3 x1 x2 x3 x4 h = some r → RZ k d cX12_isAllLit r h → Wz k d h 3 [(1, .int x1), (2, .int x2), (3, .int x3), (4, .int x4)] []) : ∀ (f : Nat) {h : Hp} {x1 : Int32} {x2 : Int32} {x3 : Int32} {x4 : Int32} {x5 : Int32} {x6 : Int32} {r : Int32}, X12_isAllLit_22 F k3 f x1 x2 x3 x4 x5 x6 h = some r → RZ k d cX12_isAllLit r h → Wz k d h 22 [(1, .int x1), (2, .int x2), (3, .int x3), (4, .int x4), (5, .int x5), (6, .int x6)] [] := by
  intro f
  induction f with
  | zero =>
    intro h x1 x2 x3 x4 x5 x6 r hf hr
    exact nomatch (show (none : Option _) = some _ from hf)
  | succ f ih =>
    intro h x1 x2 x3 x4 x5 x6 r hf hr
    rw [X12_isAllLit_22] at hf
    refine x_iload o dX12_isAllLit_22 5 rfl ?_
    refine x_iload_n o dX12_isAllLit_24 0 rfl rfl ?_
    refine x_icmp_ge o 55 dX12_isAllLit_25 (by decide) (fun q_1 => ?_) (fun q_1 => ?_)
    · replace hf := (if_pos q_1).symm.trans hf
      refine x_sub [0, 1, 2, 3, 4] [(1, .int x1), (2, .int x2), (3, .int x3), (4, .int x4), (5, .int x5)] rfl ?_
      exact S_X12_isAllLit_55 o F hk3 hf hr
    · replace hf := (if_neg q_1).symm.trans hf
      refine x_iload o dX12_isAllLit_28 5 rfl ?_
      refine x_iload o dX12_isAllLit_30 3 rfl ?_
      refine x_iload_n o dX12_isAllLit_32 1 rfl rfl ?_
      refine x_iadd o dX12_isAllLit_33 ?_
      refine x_icmp_gt o 55 dX12_isAllLit_34 (by decide) (fun q_2 => ?_) (fun q_2 => ?_)
      · replace hf := (if_pos q_2).symm.trans hf
        refine x_sub [0, 1, 2, 3, 4] [(1, .int x1), (2, .int x2), (3, .int x3), (4, .int x4), (5, .int x5)] rfl ?_
        exact S_X12_isAllLit_55 o F hk3 hf hr
      · replace hf := (if_neg q_2).symm.trans hf
        refine x_iload_n o dX12_isAllLit_37 2 rfl rfl ?_
        refine x_iload o dX12_isAllLit_38 5 rfl ?_
        obtain ⟨c_3, ec_3, hf⟩ := ob_ex hf
        refine vRX12_354 [.int x3, .int x6] [] o (C_X12_has o.1.2.2.2.2.2.2.1 o.2 F ec_3) (by decide) rfl rfl (Nat.le_of_ble_eq_true rfl) dX12_isAllLit_40 ?_
        refine x_if_eq o 49 dX12_isAllLit_43 (by decide) (fun q_5 => ?_) (fun q_5 => ?_)
        · replace hf := (if_pos q_5).symm.trans hf
          refine x_sub [0, 1, 2, 3, 4, 5] [(1, .int x1), (2, .int x2), (3, .int x3), (4, .int x4), (5, .int x5), (6, .int x6)] rfl ?_
          exact S_X12_isAllLit_49 o F hk3 (fun q1 q2 => ih q1 q2) hf hr
        · replace hf := (if_neg q_5).symm.trans hf
          refine x_iconst (v := 1) o dX12_isAllLit_46 (by decide) ?_
          refine x_istore o dX12_isAllLit_47 (by decide) [(5, .int 1), (1, .int x1), (2, .int x2), (3, .int x3), (4, .int x4), (6, .int x6)] rfl ?_
          refine x_sub [1, 2, 3, 4, 0, 5] [(1, .int x1), (2, .int x2), (3, .int x3), (4, .int x4), (5, .int 1), (6, .int x6)] rfl ?_
          exact S_X12_isAllLit_49 o F hk3 (fun q1 q2 => ih q1 q2) hf hr
set_option maxRecDepth 100000 in
set_option maxHeartbeats 4000000 in
theorem S_X12_isAllLit_3 {k : Kst} {d : Kdy} (o : Ok k d cX12_isAllLit RX12 7 4) (F : Nat) : ∀ (f : Nat) {h : Hp} {x1 : Int32} {x2 : Int32} {x3 : Int32} {x4 : Int32} {r : Int32}, X12_isAllLit_3 F f x1 x2 x3 x4 h = some r → RZ k d cX12_isAllLit r h → Wz k d h 3 [(1, .int x1), (2, .int x2), (3, .int x3), (4, .int x4)] [] := by
  intro f
  induction f with
  | zero =>
    intro h x1 x2 x3 x4 r hf hr
    exact nomatch (show (none : Option _) = some _ from hf)
  | succ f ih =>
    intro h x1 x2 x3 x4 r hf hr
    rw [X12_isAllLit_3] at hf
    refine x_iload o dX12_isAllLit_3 3 rfl ?_
    refine x_iload_n o dX12_isAllLit_5 0 rfl rfl ?_
    refine x_icmp_ge o 68 dX12_isAllLit_6 (by decide) (fun q_1 => ?_) (fun q_1 => ?_)
    · replace hf := (if_pos q_1).symm.trans hf
      refine x_iconst (v := 1) o dX12_isAllLit_68 (by decide) ?_
      cases hf
      exact hr (Or.inr rfl) _ _ dX12_isAllLit_69
    · replace hf := (if_neg q_1).symm.trans hf
      refine x_iconst (v := 0) o dX12_isAllLit_9 (by decide) ?_
      refine x_istore o dX12_isAllLit_10 (by decide) [(5, .int 0), (1, .int x1), (2, .int x2), (3, .int x3), (4, .int x4)] rfl ?_
      refine x_iconst (v := 0) o dX12_isAllLit_12 (by decide) ?_
      refine x_iload o dX12_isAllLit_13 4 rfl ?_
      refine x_iload_n o dX12_isAllLit_15 2 rfl rfl ?_
      refine x_isub o dX12_isAllLit_16 ?_
      obtain ⟨c_2, ec_2, hf⟩ := ob_ex hf
      refine vRX12_272 [.int 0, .int (x4 - x2)] [] o (C_X12_max o.1.2.2.2.2.2.2.1 o.2 F ec_2) (by decide) rfl rfl (Nat.le_of_ble_eq_true rfl) dX12_isAllLit_17 ?_
      refine x_istore o dX12_isAllLit_20 (by decide) [(6, .int c_2), (5, .int 0), (1, .int x1), (2, .int x2), (3, .int x3), (4, .int x4)] rfl ?_
      refine x_sub [2, 3, 4, 5, 1, 0] [(1, .int x1), (2, .int x2), (3, .int x3), (4, .int x4), (5, .int 0), (6, .int c_2)] rfl ?_
      exact S_X12_isAllLit_22 o F (fun q1 q2 => ih q1 q2) _ hf hr
set_option maxRecDepth 100000 in
set_option maxHeartbeats 4000000 in
theorem S_X12_isAllLit_0 {k : Kst} {d : Kdy} (o : Ok k d cX12_isAllLit RX12 7 4) (F : Nat) {h : Hp} {a0 : Nat} {x1 : Int32} {x2 : Int32} {x3 : Int32} {r : Int32} (hf : X12_isAllLit F a0 x1 x2 x3 h = some r) (hr : RZ k d cX12_isAllLit r h) : Wz k d h 0 [(0, .ref (ka k a0)), (1, .int x1), (2, .int x2), (3, .int x3)] [] := by
  unfold X12_isAllLit at hf
  refine x_iconst (v := 0) o dX12_isAllLit_0 (by decide) ?_
  refine x_istore o dX12_isAllLit_1 (by decide) [(4, .int 0), (0, .ref (ka k a0)), (1, .int x1), (2, .int x2), (3, .int x3)] rfl ?_
  refine x_sub [2, 3, 4, 0] [(1, .int x1), (2, .int x2), (3, .int x3), (4, .int 0)] rfl ?_
  exact S_X12_isAllLit_3 o F _ hf hr
theorem C_X12_isAllLit {k : Kst} (hj : Dj k) (hn : kn k = kdl.length) (F : Nat) {h : Hp} {a0 : Nat} {x1 : Int32} {x2 : Int32} {x3 : Int32} {r : Int32} (hf : X12_isAllLit F a0 x1 x2 x3 h = some r) : MI k 4 yX12_isAllLit cX12_isAllLit 7 (some .boolean) [.ref (ka k a0), .int x1, .int x2, .int x3] h r h := mZ hj hn (by decide +kernel) (Nat.le_of_ble_eq_true rfl) (fun d o hr => S_X12_isAllLit_0 o F hf hr)
