set_option maxRecDepth 100000 in
set_option maxHeartbeats 4000000 in
theorem S_X12_lamps_140 {k : Kst} {d : Kdy} (o : Ok k d cX12_lamps RX12 7 5) (F : Nat) {k85 : Nat → Int32 → Int32 → Int32 → Int32 → Int32 → Int32 → Hp → Option (Int32 × Hp)} (hk85 : ∀ {h : Hp} {a0 : Nat} {x1 : Int32} {x2 : Int32} {x3 : Int32} {x4 : Int32} {x5 : Int32} {x6 : Int32} {r : Int32} {h1 : Hp}, k85 a0 x1 x2 x3 x4 x5 x6 h = some (r, h1) → RI k d cX12_lamps r h1 → Wz k d h 85 [(0, .ref (ka k a0)), (1, .int x1), (2, .int x2), (3, .int x3), (4, .int x4), (5, .int x5), (6, .int x6)] []) {h : Hp} {a0 : Nat} {x1 : Int32} {x2 : Int32} {x3 : Int32} {x4 : Int32} {x5 : Int32} {x6 : Int32} {r : Int32} {h1 : Hp} (hf : X12_lamps_140 F k85 a0 x1 x2 x3 x4 x5 x6 h = some (r, h1)) (hr : RI k d cX12_lamps r h1) : Wz k d h 140 [(0, .ref (ka k a0)), (1, .int x1), (2, .int x2), (3, .int x3), (4, .int x4), (5, .int x5), (6, .int x6)] [] := by
  unfold X12_lamps_140 at hf
  obtain ⟨x6_1, ex6_1, hf⟩ := bd_ex hf
  refine x_iinc o dX12_lamps_140 (by decide) 6 rfl ex6_1.symm [(6, .int x6_1), (0, .ref (ka k a0)), (1, .int x1), (2, .int x2), (3, .int x3), (4, .int x4), (5, .int x5)] rfl ?_
  refine x_goto o 85 dX12_lamps_143 (by decide) ?_
  refine x_sub [1, 2, 3, 4, 5, 6, 0] [(0, .ref (ka k a0)), (1, .int x1), (2, .int x2), (3, .int x3), (4, .int x4), (5, .int x5), (6, .int x6_1)] rfl ?_
  exact hk85 hf hr
set_option maxRecDepth 100000 in
set_option maxHeartbeats 4000000 in
theorem S_X12_lamps_122 {k : Kst} {d : Kdy} (o : Ok k d cX12_lamps RX12 7 5) (F : Nat) {k85 : Nat → Int32 → Int32 → Int32 → Int32 → Int32 → Int32 → Hp → Option (Int32 × Hp)} (hk85 : ∀ {h : Hp} {a0 : Nat} {x1 : Int32} {x2 : Int32} {x3 : Int32} {x4 : Int32} {x5 : Int32} {x6 : Int32} {r : Int32} {h1 : Hp}, k85 a0 x1 x2 x3 x4 x5 x6 h = some (r, h1) → RI k d cX12_lamps r h1 → Wz k d h 85 [(0, .ref (ka k a0)), (1, .int x1), (2, .int x2), (3, .int x3), (4, .int x4), (5, .int x5), (6, .int x6)] []) {h : Hp} {a0 : Nat} {x1 : Int32} {x2 : Int32} {x3 : Int32} {x4 : Int32} {x5 : Int32} {x6 : Int32} {r : Int32} {h1 : Hp} (hf : X12_lamps_122 F k85 a0 x1 x2 x3 x4 x5 x6 h = some (r, h1)) (hr : RI k d cX12_lamps r h1) : Wz k d h 122 [(0, .ref (ka k a0)), (1, .int x1), (2, .int x2), (3, .int x3), (4, .int x4), (5, .int x5), (6, .int x6)] [] := by
  unfold X12_lamps_122 at hf
  refine x_aload_n o dX12_lamps_122 0 rfl rfl ?_
  refine x_iload_n o dX12_lamps_123 1 rfl rfl ?_
  refine x_iload_n o dX12_lamps_124 2 rfl rfl ?_
  refine x_iload o dX12_lamps_125 6 rfl ?_
  obtain ⟨k_1, hf⟩ := gq_ex hf
  obtain ⟨c_2, ec_2, hf⟩ := ob_ex hf
  refine vRX12_365 [.int x1, .int x2, .int x6] [] o (C_X12_isAllLit o.1.2.2.2.2.2.2.1 o.2 F ec_2) (by decide) k_1 rfl rfl (Nat.le_of_ble_eq_true rfl) dX12_lamps_127 ?_
  refine x_if_ne o 136 dX12_lamps_130 (by decide) (fun q_4 => ?_) (fun q_4 => ?_)
  · replace hf := (if_neg q_4).symm.trans hf
    refine x_iload o dX12_lamps_136 6 rfl ?_
    refine x_istore o dX12_lamps_138 (by decide) [(5, .int x6), (0, .ref (ka k a0)), (1, .int x1), (2, .int x2), (3, .int x3), (4, .int x4), (6, .int x6)] rfl ?_
    refine x_sub [1, 2, 3, 4, 5, 0, 6] [(0, .ref (ka k a0)), (1, .int x1), (2, .int x2), (3, .int x3), (4, .int x4), (5, .int x6), (6, .int x6)] rfl ?_
    exact S_X12_lamps_140 o F hk85 hf hr
  · replace hf := (if_pos q_4).symm.trans hf
    refine x_goto o 140 dX12_lamps_133 (by decide) ?_
    refine x_sub [0, 1, 2, 3, 4, 5, 6] [(0, .ref (ka k a0)), (1, .int x1), (2, .int x2), (3, .int x3), (4, .int x4), (5, .int x5), (6, .int x6)] rfl ?_
    exact S_X12_lamps_140 o F hk85 hf hr
set_option maxRecDepth 100000 in
set_option maxHeartbeats 4000000 in
theorem S_X12_lamps_85 {k : Kst} {d : Kdy} (o : Ok k d cX12_lamps RX12 7 5) (F : Nat) : ∀ (f : Nat) {h : Hp} {a0 : Nat} {x1 : Int32} {x2 : Int32} {x3 : Int32} {x4 : Int32} {x5 : Int32} {x6 : Int32} {r : Int32} {h1 : Hp}, X12_lamps_85 F f a0 x1 x2 x3 x4 x5 x6 h = some (r, h1) → RI k d cX12_lamps r h1 → Wz k d h 85 [(0, .ref (ka k a0)), (1, .int x1), (2, .int x2), (3, .int x3), (4, .int x4), (5, .int x5), (6, .int x6)] [] := by
  intro f
  induction f with
  | zero =>
    intro h a0 x1 x2 x3 x4 x5 x6 r h1 hf hr
    exact nomatch (show (none : Option _) = some _ from hf)
  | succ f ih =>
    intro h a0 x1 x2 x3 x4 x5 x6 r h1 hf hr
    rw [X12_lamps_85] at hf
    refine x_iload o dX12_lamps_85 6 rfl ?_
    refine x_iconst (v := 1) o dX12_lamps_87 (by decide) ?_
    refine x_iload_n o dX12_lamps_88 1 rfl rfl ?_
    refine x_ishl o dX12_lamps_89 ?_
    refine x_icmp_ge o 146 dX12_lamps_90 (by decide) (fun q_1 => ?_) (fun q_1 => ?_)
    · replace hf := (if_pos q_1).symm.trans hf
      refine x_iload o dX12_lamps_146 5 rfl ?_
      refine x_iconst (v := (-1)) o dX12_lamps_148 (by decide) ?_
      refine x_icmp_ne o 155 dX12_lamps_149 (by decide) (fun q_2 => ?_) (fun q_2 => ?_)
      · replace hf := (if_neg q_2).symm.trans hf
        refine x_iload_n o dX12_lamps_155 3 rfl rfl ?_
        refine x_if_ne o 167 dX12_lamps_156 (by decide) (fun q_3 => ?_) (fun q_3 => ?_)
        · replace hf := (if_neg q_3).symm.trans hf
          refine x_iload o dX12_lamps_167 5 rfl ?_
          cases hf
          exact hr _ _ dX12_lamps_169
        · replace hf := (if_pos q_3).symm.trans hf
          refine x_iload o dX12_lamps_159 5 rfl ?_
          obtain ⟨c_4, ec_4, hf⟩ := ob_ex hf
          refine vRX12_351 [.int x5] [] o (C_X12_bits o.1.2.2.2.2.2.2.1 o.2 F ec_4) (by decide) rfl rfl (Nat.le_of_ble_eq_true rfl) dX12_lamps_161 ?_
          refine x_goto o 169 dX12_lamps_164 (by decide) ?_
          cases hf
          exact hr _ _ dX12_lamps_169
      · replace hf := (if_pos q_2).symm.trans hf
        refine x_bipush (v := (-2)) o dX12_lamps_152 (by decide) ?_
        cases hf
        exact hr _ _ dX12_lamps_154
    · replace hf := (if_neg q_1).symm.trans hf
      refine x_iload o dX12_lamps_93 6 rfl ?_
      refine x_iload o dX12_lamps_95 4 rfl ?_
      refine x_iconst (v := (-1)) o dX12_lamps_97 (by decide) ?_
      refine x_ixor o dX12_lamps_98 ?_
      refine x_iand o dX12_lamps_99 ?_
      refine x_if_ne o 140 dX12_lamps_100 (by decide) (fun q_6 => ?_) (fun q_6 => ?_)
      · replace hf := (if_neg q_6).symm.trans hf
        refine x_sub [0, 1, 2, 3, 4, 5, 6] [(0, .ref (ka k a0)), (1, .int x1), (2, .int x2), (3, .int x3), (4, .int x4), (5, .int x5), (6, .int x6)] rfl ?_
        exact S_X12_lamps_140 o F (fun q1 q2 => ih q1 q2) hf hr
      · replace hf := (if_pos q_6).symm.trans hf
        refine x_iload o dX12_lamps_103 5 rfl ?_
        refine x_iconst (v := (-1)) o dX12_lamps_105 (by decide) ?_
        refine x_icmp_eq o 122 dX12_lamps_106 (by decide) (fun q_7 => ?_) (fun q_7 => ?_)
        · replace hf := (if_pos q_7).symm.trans hf
          refine x_sub [0, 1, 2, 3, 4, 5, 6] [(0, .ref (ka k a0)), (1, .int x1), (2, .int x2), (3, .int x3), (4, .int x4), (5, .int x5), (6, .int x6)] rfl ?_
          exact S_X12_lamps_122 o F (fun q1 q2 => ih q1 q2) hf hr
        · replace hf := (if_neg q_7).symm.trans hf
          refine x_iload o dX12_lamps_109 6 rfl ?_
          obtain ⟨c_8, ec_8, hf⟩ := ob_ex hf
          refine vRX12_351 [.int x6] [] o (C_X12_bits o.1.2.2.2.2.2.2.1 o.2 F ec_8) (by decide) rfl rfl (Nat.le_of_ble_eq_true rfl) dX12_lamps_111 ?_
          refine x_iload o dX12_lamps_114 5 rfl ?_
          obtain ⟨c_10, ec_10, hf⟩ := ob_ex hf
          refine vRX12_351 [.int x5] [.int c_8] o (C_X12_bits o.1.2.2.2.2.2.2.1 o.2 F ec_10) (by decide) rfl rfl (Nat.le_of_ble_eq_true rfl) dX12_lamps_116 ?_
          refine x_icmp_ge o 140 dX12_lamps_119 (by decide) (fun q_12 => ?_) (fun q_12 => ?_)
          · replace hf := (if_pos q_12).symm.trans hf
            refine x_sub [0, 1, 2, 3, 4, 5, 6] [(0, .ref (ka k a0)), (1, .int x1), (2, .int x2), (3, .int x3), (4, .int x4), (5, .int x5), (6, .int x6)] rfl ?_
            exact S_X12_lamps_140 o F (fun q1 q2 => ih q1 q2) hf hr
          · replace hf := (if_neg q_12).symm.trans hf
            refine x_sub [0, 1, 2, 3, 4, 5, 6] [(0, .ref (ka k a0)), (1, .int x1), (2, .int x2), (3, .int x3), (4, .int x4), (5, .int x5), (6, .int x6)] rfl ?_
            exact S_X12_lamps_122 o F (fun q1 q2 => ih q1 q2) hf hr
set_option maxRecDepth 100000 in
set_option maxHeartbeats 4000000 in
theorem S_X12_lamps_73 {k : Kst} {d : Kdy} (o : Ok k d cX12_lamps RX12 7 5) (F : Nat) {k49 : Nat → Int32 → Int32 → Int32 → Int32 → Int32 → Hp → Option (Int32 × Hp)} (hk49 : ∀ {h : Hp} {a0 : Nat} {x1 : Int32} {x2 : Int32} {x3 : Int32} {x4 : Int32} {x5 : Int32} {r : Int32} {h1 : Hp}, k49 a0 x1 x2 x3 x4 x5 h = some (r, h1) → RI k d cX12_lamps r h1 → Wz k d h 49 [(0, .ref (ka k a0)), (1, .int x1), (2, .int x2), (3, .int x3), (4, .int x4), (5, .int x5)] []) {h : Hp} {a0 : Nat} {x1 : Int32} {x2 : Int32} {x3 : Int32} {x4 : Int32} {x5 : Int32} {r : Int32} {h1 : Hp} (hf : X12_lamps_73 F k49 a0 x1 x2 x3 x4 x5 h = some (r, h1)) (hr : RI k d cX12_lamps r h1) : Wz k d h 73 [(0, .ref (ka k a0)), (1, .int x1), (2, .int x2), (3, .int x3), (4, .int x4), (5, .int x5)] [] := by
  unfold X12_lamps_73 at hf
  obtain ⟨x5_1, ex5_1, hf⟩ := bd_ex hf
  refine x_iinc o dX12_lamps_73 (by decide) 5 rfl ex5_1.symm [(5, .int x5_1), (0, .ref (ka k a0)), (1, .int x1), (2, .int x2), (3, .int x3), (4, .int x4)] rfl ?_
  refine x_goto o 49 dX12_lamps_76 (by decide) ?_
  refine x_sub [1, 2, 3, 4, 5, 0] [(0, .ref (ka k a0)), (1, .int x1), (2, .int x2), (3, .int x3), (4, .int x4), (5, .int x5_1)] rfl ?_
  exact hk49 hf hr
set_option maxRecDepth 100000 in
set_option maxHeartbeats 4000000 in
theorem S_X12_lamps_49 {k : Kst} {d : Kdy} (o : Ok k d cX12_lamps RX12 7 5) (F : Nat) : ∀ (f : Nat) {h : Hp} {a0 : Nat} {x1 : Int32} {x2 : Int32} {x3 : Int32} {x4 : Int32} {x5 : Int32} {r : Int32} {h1 : Hp}, X12_lamps_49 F f a0 x1 x2 x3 x4 x5 h = some (r, h1) → RI k d cX12_lamps r h1 → Wz k d h 49 [(0, .ref (ka k a0)), (1, .int x1), (2, .int x2), (3, .int x3), (4, .int x4), (5, .int x5)] [] := by
  intro f
  induction f with
  | zero =>
    intro h a0 x1 x2 x3 x4 x5 r h1 hf hr
    exact nomatch (show (none : Option _) = some _ from hf)
  | succ f ih =>
    intro h a0 x1 x2 x3 x4 x5 r h1 hf hr
    rw [X12_lamps_49] at hf
    refine x_iload o dX12_lamps_49 5 rfl ?_
    refine x_iload_n o dX12_lamps_51 1 rfl rfl ?_
    refine x_icmp_ge o 79 dX12_lamps_52 (by decide) (fun q_1 => ?_) (fun q_1 => ?_)
    · replace hf := (if_pos q_1).symm.trans hf
      refine x_iconst (v := (-1)) o dX12_lamps_79 (by decide) ?_
      refine x_istore o dX12_lamps_80 (by decide) [(5, .int (-1)), (0, .ref (ka k a0)), (1, .int x1), (2, .int x2), (3, .int x3), (4, .int x4)] rfl ?_
      refine x_iconst (v := 1) o dX12_lamps_82 (by decide) ?_
      refine x_istore o dX12_lamps_83 (by decide) [(6, .int 1), (5, .int (-1)), (0, .ref (ka k a0)), (1, .int x1), (2, .int x2), (3, .int x3), (4, .int x4)] rfl ?_
      refine x_sub [2, 3, 4, 5, 6, 1, 0] [(0, .ref (ka k a0)), (1, .int x1), (2, .int x2), (3, .int x3), (4, .int x4), (5, .int (-1)), (6, .int 1)] rfl ?_
      exact S_X12_lamps_85 o F _ hf hr
    · replace hf := (if_neg q_1).symm.trans hf
      refine x_aload_n o dX12_lamps_55 0 rfl rfl ?_
      refine x_iload o dX12_lamps_56 5 rfl ?_
      obtain ⟨k_2, hf⟩ := gq_ex hf
      obtain ⟨c_3, ec_3, hf⟩ := ob_ex hf
      refine vRX12_245 [.int x5] [] o (C_X12_octet o.1.2.2.2.2.2.2.1 o.2 F ec_3) (by decide) k_2 rfl rfl (Nat.le_of_ble_eq_true rfl) dX12_lamps_58 ?_
      refine x_if_eq o 73 dX12_lamps_61 (by decide) (fun q_5 => ?_) (fun q_5 => ?_)
      · replace hf := (if_pos q_5).symm.trans hf
        refine x_sub [0, 1, 2, 3, 4, 5] [(0, .ref (ka k a0)), (1, .int x1), (2, .int x2), (3, .int x3), (4, .int x4), (5, .int x5)] rfl ?_
        exact S_X12_lamps_73 o F (fun q1 q2 => ih q1 q2) hf hr
      · replace hf := (if_neg q_5).symm.trans hf
        refine x_iload o dX12_lamps_64 4 rfl ?_
        refine x_iconst (v := 1) o dX12_lamps_66 (by decide) ?_
        refine x_iload o dX12_lamps_67 5 rfl ?_
        refine x_ishl o dX12_lamps_69 ?_
        refine x_ior o dX12_lamps_70 ?_
        obtain ⟨x4_6, ex4_6, hf⟩ := bd_ex hf
        refine x_top ex4_6 ?_
        refine x_istore o dX12_lamps_71 (by decide) [(4, .int x4_6), (0, .ref (ka k a0)), (1, .int x1), (2, .int x2), (3, .int x3), (5, .int x5)] rfl ?_
        refine x_sub [1, 2, 3, 4, 0, 5] [(0, .ref (ka k a0)), (1, .int x1), (2, .int x2), (3, .int x3), (4, .int x4_6), (5, .int x5)] rfl ?_
        exact S_X12_lamps_73 o F (fun q1 q2 => ih q1 q2) hf hr
set_option maxRecDepth 100000 in
set_option maxHeartbeats 4000000 in
theorem S_X12_lamps_0 {k : Kst} {d : Kdy} (o : Ok k d cX12_lamps RX12 7 5) (F : Nat) {h : Hp} {a0 : Nat} {x1 : Int32} {x2 : Int32} {x3 : Int32} {r : Int32} {h1 : Hp} (hf : X12_lamps F a0 x1 x2 x3 h = some (r, h1)) (hr : RI k d cX12_lamps r h1) : Wz k d h 0 [(0, .ref (ka k a0)), (1, .int x1), (2, .int x2), (3, .int x3)] [] := by
  unfold X12_lamps at hf
  refine x_iload_n o dX12_lamps_0 1 rfl rfl ?_
  refine x_iconst (v := 1) o dX12_lamps_1 (by decide) ?_
  refine x_bipush (v := 12) o dX12_lamps_2 (by decide) ?_
  obtain ⟨c_1, ec_1, hf⟩ := ob_ex hf
  refine vRX12_113 [.int x1, .int 1, .int 12] [] o (C_X12_in o.1.2.2.2.2.2.2.1 o.2 F ec_1) (by decide) rfl rfl (Nat.le_of_ble_eq_true rfl) dX12_lamps_4 ?_
  refine x_if_eq o 36 dX12_lamps_7 (by decide) (fun q_3 => ?_) (fun q_3 => ?_)
  · replace hf := (if_pos q_3).symm.trans hf
    refine x_iconst (v := (-1)) o dX12_lamps_36 (by decide) ?_
    cases hf
    exact hr _ _ dX12_lamps_37
  · replace hf := (if_neg q_3).symm.trans hf
    refine x_iload_n o dX12_lamps_10 2 rfl rfl ?_
    refine x_iconst (v := 0) o dX12_lamps_11 (by decide) ?_
    refine x_iconst (v := 5) o dX12_lamps_12 (by decide) ?_
    obtain ⟨c_4, ec_4, hf⟩ := ob_ex hf
    refine vRX12_113 [.int x2, .int 0, .int 5] [] o (C_X12_in o.1.2.2.2.2.2.2.1 o.2 F ec_4) (by decide) rfl rfl (Nat.le_of_ble_eq_true rfl) dX12_lamps_13 ?_
    refine x_if_eq o 36 dX12_lamps_16 (by decide) (fun q_6 => ?_) (fun q_6 => ?_)
    · replace hf := (if_pos q_6).symm.trans hf
      refine x_iconst (v := (-1)) o dX12_lamps_36 (by decide) ?_
      cases hf
      exact hr _ _ dX12_lamps_37
    · replace hf := (if_neg q_6).symm.trans hf
      refine x_iload_n o dX12_lamps_19 3 rfl rfl ?_
      refine x_iconst (v := 0) o dX12_lamps_20 (by decide) ?_
      refine x_iconst (v := 1) o dX12_lamps_21 (by decide) ?_
      obtain ⟨c_7, ec_7, hf⟩ := ob_ex hf
      refine vRX12_113 [.int x3, .int 0, .int 1] [] o (C_X12_in o.1.2.2.2.2.2.2.1 o.2 F ec_7) (by decide) rfl rfl (Nat.le_of_ble_eq_true rfl) dX12_lamps_22 ?_
      refine x_if_eq o 36 dX12_lamps_25 (by decide) (fun q_9 => ?_) (fun q_9 => ?_)
      · replace hf := (if_pos q_9).symm.trans hf
        refine x_iconst (v := (-1)) o dX12_lamps_36 (by decide) ?_
        cases hf
        exact hr _ _ dX12_lamps_37
      · replace hf := (if_neg q_9).symm.trans hf
        refine x_iload_n o dX12_lamps_28 1 rfl rfl ?_
        refine x_aload_n o dX12_lamps_29 0 rfl rfl ?_
        obtain ⟨k_10, hf⟩ := gq_ex hf
        refine gRX12_128 o k_10 dX12_lamps_30 ?_
        refine x_icmp_le o 38 dX12_lamps_33 (by decide) (fun q_11 => ?_) (fun q_11 => ?_)
        · replace hf := (if_pos q_11).symm.trans hf
          refine x_aload_n o dX12_lamps_38 0 rfl rfl ?_
          refine x_iconst (v := 0) o dX12_lamps_39 (by decide) ?_
          obtain ⟨h_12, eh_12, hf⟩ := bd_ex hf
          refine pRX12_128 o k_10 eh_12 dX12_lamps_40 ?_
          refine x_iconst (v := 0) o dX12_lamps_43 (by decide) ?_
          refine x_istore o dX12_lamps_44 (by decide) [(4, .int 0), (0, .ref (ka k a0)), (1, .int x1), (2, .int x2), (3, .int x3)] rfl ?_
          refine x_iconst (v := 0) o dX12_lamps_46 (by decide) ?_
          refine x_istore o dX12_lamps_47 (by decide) [(5, .int 0), (4, .int 0), (0, .ref (ka k a0)), (1, .int x1), (2, .int x2), (3, .int x3)] rfl ?_
          refine x_sub [2, 3, 4, 5, 1, 0] [(0, .ref (ka k a0)), (1, .int x1), (2, .int x2), (3, .int x3), (4, .int 0), (5, .int 0)] rfl ?_
          exact S_X12_lamps_49 o F _ hf hr
        · replace hf := (if_neg q_11).symm.trans hf
          refine x_iconst (v := (-1)) o dX12_lamps_36 (by decide) ?_
          cases hf
          exact hr _ _ dX12_lamps_37
theorem C_X12_lamps {k : Kst} (hj : Dj k) (hn : kn k = kdl.length) (F : Nat) {h : Hp} {a0 : Nat} {x1 : Int32} {x2 : Int32} {x3 : Int32} {r : Int32} {h1 : Hp} (hf : X12_lamps F a0 x1 x2 x3 h = some (r, h1)) : MI k 5 yX12_lamps cX12_lamps 7 (some .int) [.ref (ka k a0), .int x1, .int x2, .int x3] h r h1 := mI hj hn (by decide +kernel) (Nat.le_of_ble_eq_true rfl) (fun d o hr => S_X12_lamps_0 o F hf hr)
set_option maxRecDepth 100000 in
set_option maxHeartbeats 4000000 in
theorem S_X12_claims_235 {k : Kst} {d : Kdy} (o : Ok k d cX12_claims RX12 12 4) (F : Nat) {k124 : Nat → Int32 → Int32 → Int32 → Int32 → Int32 → Int32 → Int32 → Hp → Option (Int32 × Hp)} (hk124 : ∀ {h : Hp} {a0 : Nat} {x1 : Int32} {x2 : Int32} {x4 : Int32} {x5 : Int32} {x6 : Int32} {x7 : Int32} {x8 : Int32} {r : Int32} {h1 : Hp}, k124 a0 x1 x2 x4 x5 x6 x7 x8 h = some (r, h1) → RI k d cX12_claims r h1 → Wz k d h 124 [(0, .ref (ka k a0)), (1, .int x1), (2, .int x2), (4, .int x4), (5, .int x5), (6, .int x6), (7, .int x7), (8, .int x8)] []) {h : Hp} {a0 : Nat} {x1 : Int32} {x2 : Int32} {x4 : Int32} {x5 : Int32} {x6 : Int32} {x7 : Int32} {x8 : Int32} {x9 : Int32} {x10 : Int32} {r : Int32} {h1 : Hp} (hf : X12_claims_235 F k124 a0 x1 x2 x4 x5 x6 x7 x8 x9 x10 h = some (r, h1)) (hr : RI k d cX12_claims r h1) : Wz k d h 235 [(0, .ref (ka k a0)), (1, .int x1), (2, .int x2), (4, .int x4), (5, .int x5), (6, .int x6), (7, .int x7), (8, .int x8), (9, .int x9), (10, .int x10)] [] := by
  unfold X12_claims_235 at hf
  refine x_iload o dX12_claims_235 6 rfl ?_
  refine x_iload o dX12_claims_237 8 rfl ?_
  refine x_iload o dX12_claims_239 9 rfl ?_
  refine x_iadd o dX12_claims_241 ?_
  obtain ⟨c_1, ec_1, hf⟩ := ob_ex hf
  refine vRX12_272 [.int x7, .int (x9 + x10)] [] o (C_X12_max o.1.2.2.2.2.2.2.1 o.2 F ec_1) (by decide) rfl rfl (Nat.le_of_ble_eq_true rfl) dX12_claims_242 ?_
  refine x_istore o dX12_claims_245 (by decide) [(7, .int c_1), (0, .ref (ka k a0)), (1, .int x1), (2, .int x2), (4, .int x4), (5, .int x5), (6, .int x6), (8, .int x8), (9, .int x9), (10, .int x10)] rfl ?_
  obtain ⟨x8_3, ex8_3, hf⟩ := bd_ex hf
  refine x_iinc o dX12_claims_247 (by decide) 7 rfl ex8_3.symm [(8, .int x8_3), (7, .int c_1), (0, .ref (ka k a0)), (1, .int x1), (2, .int x2), (4, .int x4), (5, .int x5), (6, .int x6), (9, .int x9), (10, .int x10)] rfl ?_
  refine x_goto o 124 dX12_claims_250 (by decide) ?_
  refine x_sub [2, 3, 4, 5, 6, 7, 1, 0] [(0, .ref (ka k a0)), (1, .int x1), (2, .int x2), (4, .int x4), (5, .int x5), (6, .int x6), (7, .int c_1), (8, .int x8_3)] rfl ?_
  exact hk124 hf hr
set_option maxRecDepth 100000 in
set_option maxHeartbeats 4000000 in
theorem S_X12_claims_221 {k : Kst} {d : Kdy} (o : Ok k d cX12_claims RX12 12 4) (F : Nat) {k124 : Nat → Int32 → Int32 → Int32 → Int32 → Int32 → Int32 → Int32 → Hp → Option (Int32 × Hp)} (hk124 : ∀ {h : Hp} {a0 : Nat} {x1 : Int32} {x2 : Int32} {x4 : Int32} {x5 : Int32} {x6 : Int32} {x7 : Int32} {x8 : Int32} {r : Int32} {h1 : Hp}, k124 a0 x1 x2 x4 x5 x6 x7 x8 h = some (r, h1) → RI k d cX12_claims r h1 → Wz k d h 124 [(0, .ref (ka k a0)), (1, .int x1), (2, .int x2), (4, .int x4), (5, .int x5), (6, .int x6), (7, .int x7), (8, .int x8)] []) {h : Hp} {a0 : Nat} {x1 : Int32} {x2 : Int32} {x4 : Int32} {x5 : Int32} {x6 : Int32} {x7 : Int32} {x8 : Int32} {x9 : Int32} {x10 : Int32} {r : Int32} {h1 : Hp} (hf : X12_claims_221 F k124 a0 x1 x2 x4 x5 x6 x7 x8 x9 x10 h = some (r, h1)) (hr : RI k d cX12_claims r h1) : Wz k d h 221 [(0, .ref (ka k a0)), (1, .int x1), (2, .int x2), (4, .int x4), (5, .int x5), (6, .int x6), (7, .int x7), (8, .int x8), (9, .int x9), (10, .int x10)] [] := by
  unfold X12_claims_221 at hf
  refine x_iload o dX12_claims_221 8 rfl ?_
  refine x_iload o dX12_claims_223 9 rfl ?_
  refine x_iadd o dX12_claims_225 ?_
  refine x_if_ne o 235 dX12_claims_226 (by decide) (fun q_1 => ?_) (fun q_1 => ?_)
  · replace hf := (if_neg q_1).symm.trans hf
    refine x_sub [0, 1, 2, 3, 4, 5, 6, 7, 8, 9] [(0, .ref (ka k a0)), (1, .int x1), (2, .int x2), (4, .int x4), (5, .int x5), (6, .int x6), (7, .int x7), (8, .int x8), (9, .int x9), (10, .int x10)] rfl ?_
    exact S_X12_claims_235 o F hk124 hf hr
  · replace hf := (if_pos q_1).symm.trans hf
    refine x_iload o dX12_claims_229 5 rfl ?_
    refine x_iconst (v := 1) o dX12_claims_231 (by decide) ?_
    refine x_iadd o dX12_claims_232 ?_
    obtain ⟨x6_2, ex6_2, hf⟩ := bd_ex hf
    refine x_top ex6_2 ?_
    refine x_istore o dX12_claims_233 (by decide) [(6, .int x6_2), (0, .ref (ka k a0)), (1, .int x1), (2, .int x2), (4, .int x4), (5, .int x5), (7, .int x7), (8, .int x8), (9, .int x9), (10, .int x10)] rfl ?_
    refine x_sub [1, 2, 3, 4, 5, 0, 6, 7, 8, 9] [(0, .ref (ka k a0)), (1, .int x1), (2, .int x2), (4, .int x4), (5, .int x5), (6, .int x6_2), (7, .int x7), (8, .int x8), (9, .int x9), (10, .int x10)] rfl ?_
    exact S_X12_claims_235 o F hk124 hf hr
set_option maxRecDepth 100000 in
set_option maxHeartbeats 4000000 in
theorem S_X12_claims_199 {k : Kst} {d : Kdy} (o : Ok k d cX12_claims RX12 12 4) (F : Nat) {k124 : Nat → Int32 → Int32 → Int32 → Int32 → Int32 → Int32 → Int32 → Hp → Option (Int32 × Hp)} {k140 : Nat → Int32 → Int32 → Int32 → Int32 → Int32 → Int32 → Int32 → Int32 → Int32 → Int32 → Hp → Option (Int32 × Hp)} (hk124 : ∀ {h : Hp} {a0 : Nat} {x1 : Int32} {x2 : Int32} {x4 : Int32} {x5 : Int32} {x6 : Int32} {x7 : Int32} {x8 : Int32} {r : Int32} {h1 : Hp}, k124 a0 x1 x2 x4 x5 x6 x7 x8 h = some (r, h1) → RI k d cX12_claims r h1 → Wz k d h 124 [(0, .ref (ka k a0)), (1, .int x1), (2, .int x2), (4, .int x4), (5, .int x5), (6, .int x6), (7, .int x7), (8, .int x8)] []) (hk140 : ∀ {h : Hp} {a0 : Nat} {x1 : Int32} {x2 : Int32} {x4 : Int32} {x5 : Int32} {x6 : Int32} {x7 : Int32} {x8 : Int32} {x9 : Int32} {x10 : Int32} {x11 : Int32} {r : Int32} {h1 : Hp}, k140 a0 x1 x2 x4 x5 x6 x7 x8 x9 x10 x11 h = some (r, h1) → RI k d cX12_claims r h1 → Wz k d h 140 [(0, .ref (ka k a0)), (1, .int x1), (2, .int x2), (4, .int x4), (5, .int x5), (6, .int x6), (7, .int x7), (8, .int x8), (9, .int x9), (10, .int x10), (11, .int x11)] []) {h : Hp} {a0 : Nat} {x1 : Int32} {x2 : Int32} {x4 : Int32} {x5 : Int32} {x6 : Int32} {x7 : Int32} {x8 : Int32} {x9 : Int32} {x10 : Int32} {x11 : Int32} {r : Int32} {h1 : Hp} (hf : X12_claims_199 F k124 k140 a0 x1 x2 x4 x5 x6 x7 x8 x9 x10 x11 h = some (r, h1)) (hr : RI k d cX12_claims r h1) : Wz k d h 199 [(0, .ref (ka k a0)), (1, .int x1), (2, .int x2), (4, .int x4), (5, .int x5), (6, .int x6), (7, .int x7), (8, .int x8), (9, .int x9), (10, .int x10), (11, .int x11)] [] := by
  unfold X12_claims_199 at hf
  obtain ⟨x11_1, ex11_1, hf⟩ := bd_ex hf
  refine x_iinc o dX12_claims_199 (by decide) 10 rfl ex11_1.symm [(11, .int x11_1), (0, .ref (ka k a0)), (1, .int x1), (2, .int x2), (4, .int x4), (5, .int x5), (6, .int x6), (7, .int x7), (8, .int x8), (9, .int x9), (10, .int x10)] rfl ?_
  refine x_goto o 140 dX12_claims_202 (by decide) ?_
  refine x_sub [1, 2, 3, 4, 5, 6, 7, 8, 9, 10, 0] [(0, .ref (ka k a0)), (1, .int x1), (2, .int x2), (4, .int x4), (5, .int x5), (6, .int x6), (7, .int x7), (8, .int x8), (9, .int x9), (10, .int x10), (11, .int x11_1)] rfl ?_
  exact hk140 hf hr
set_option maxRecDepth 100000 in
set_option maxHeartbeats 4000000 in
theorem S_X12_claims_140 {k : Kst} {d : Kdy} (o : Ok k d cX12_claims RX12 12 4) (F : Nat) {k124 : Nat → Int32 → Int32 → Int32 → Int32 → Int32 → Int32 → Int32 → Hp → Option (Int32 × Hp)} (hk124 : ∀ {h : Hp} {a0 : Nat} {x1 : Int32} {x2 : Int32} {x4 : Int32} {x5 : Int32} {x6 : Int32} {x7 : Int32} {x8 : Int32} {r : Int32} {h1 : Hp}, k124 a0 x1 x2 x4 x5 x6 x7 x8 h = some (r, h1) → RI k d cX12_claims r h1 → Wz k d h 124 [(0, .ref (ka k a0)), (1, .int x1), (2, .int x2), (4, .int x4), (5, .int x5), (6, .int x6), (7, .int x7), (8, .int x8)] []) : ∀ (f : Nat) {h : Hp} {a0 : Nat} {x1 : Int32} {x2 : Int32} {x4 : Int32} {x5 : Int32} {x6 : Int32} {x7 : Int32} {x8 : Int32} {x9 : Int32} {x10 : Int32} {x11 : Int32} {r : Int32} {h1 : Hp}, X12_claims_140 F k124 f a0 x1 x2 x4 x5 x6 x7 x8 x9 x10 x11 h = some (r, h1) → RI k d cX12_claims r h1 → Wz k d h 140 [(0, .ref (ka k a0)), (1, .int x1), (2, .int x2), (4, .int x4), (5, .int x5), (6, .int x6), (7, .int x7), (8, .int x8), (9, .int x9), (10, .int x10), (11, .int x11)] [] := by
  intro f
  induction f with
  | zero =>
    intro h a0 x1 x2 x4 x5 x6 x7 x8 x9 x10 x11 r h1 hf hr
    exact nomatch (show (none : Option _) = some _ from hf)
  | succ f ih =>
    intro h a0 x1 x2 x4 x5 x6 x7 x8 x9 x10 x11 r h1 hf hr
    rw [X12_claims_140] at hf
    refine x_iload o dX12_claims_140 10 rfl ?_
    refine x_iload_n o dX12_claims_142 1 rfl rfl ?_
    refine x_icmp_ge o 205 dX12_claims_143 (by decide) (fun q_1 => ?_) (fun q_1 => ?_)
    · replace hf := (if_pos q_1).symm.trans hf
      refine x_iload o dX12_claims_205 8 rfl ?_
      refine x_if_le o 221 dX12_claims_207 (by decide) (fun q_2 => ?_) (fun q_2 => ?_)
      · replace hf := (if_pos q_2).symm.trans hf
        refine x_sub [0, 1, 2, 3, 4, 5, 6, 7, 8, 9] [(0, .ref (ka k a0)), (1, .int x1), (2, .int x2), (4, .int x4), (5, .int x5), (6, .int x6), (7, .int x7), (8, .int x8), (9, .int x9), (10, .int x10)] rfl ?_
        exact S_X12_claims_221 o F hk124 hf hr
      · replace hf := (if_neg q_2).symm.trans hf
        refine x_iload o dX12_claims_210 9 rfl ?_
        refine x_if_le o 221 dX12_claims_212 (by decide) (fun q_3 => ?_) (fun q_3 => ?_)
        · replace hf := (if_pos q_3).symm.trans hf
          refine x_sub [0, 1, 2, 3, 4, 5, 6, 7, 8, 9] [(0, .ref (ka k a0)), (1, .int x1), (2, .int x2), (4, .int x4), (5, .int x5), (6, .int x6), (7, .int x7), (8, .int x8), (9, .int x9), (10, .int x10)] rfl ?_
          exact S_X12_claims_221 o F hk124 hf hr
        · replace hf := (if_neg q_3).symm.trans hf
          refine x_iload o dX12_claims_215 4 rfl ?_
          refine x_iconst (v := 1) o dX12_claims_217 (by decide) ?_
          refine x_iadd o dX12_claims_218 ?_
          obtain ⟨x5_4, ex5_4, hf⟩ := bd_ex hf
          refine x_top ex5_4 ?_
          refine x_istore o dX12_claims_219 (by decide) [(5, .int x5_4), (0, .ref (ka k a0)), (1, .int x1), (2, .int x2), (4, .int x4), (6, .int x6), (7, .int x7), (8, .int x8), (9, .int x9), (10, .int x10), (11, .int x11)] rfl ?_
          refine x_sub [1, 2, 3, 4, 0, 5, 6, 7, 8, 9] [(0, .ref (ka k a0)), (1, .int x1), (2, .int x2), (4, .int x4), (5, .int x5_4), (6, .int x6), (7, .int x7), (8, .int x8), (9, .int x9), (10, .int x10)] rfl ?_
          exact S_X12_claims_221 o F hk124 hf hr
    · replace hf := (if_neg q_1).symm.trans hf
      refine x_iload o dX12_claims_146 7 rfl ?_
      refine x_aload_n o dX12_claims_148 0 rfl rfl ?_
      refine x_iconst (v := 2) o dX12_claims_149 (by decide) ?_
      refine x_iload o dX12_claims_150 10 rfl ?_
      refine x_imul o dX12_claims_152 ?_
      obtain ⟨k_5, hf⟩ := gq_ex hf
      obtain ⟨c_6, ec_6, hf⟩ := ob_ex hf
      refine vRX12_245 [.int (2 * x11)] [.int x8] o (C_X12_octet o.1.2.2.2.2.2.2.1 o.2 F ec_6) (by decide) k_5 rfl rfl (Nat.le_of_ble_eq_true rfl) dX12_claims_153 ?_
      refine x_icmp_lt o 199 dX12_claims_156 (by decide) (fun q_8 => ?_) (fun q_8 => ?_)
      · replace hf := (if_pos q_8).symm.trans hf
        refine x_sub [0, 1, 2, 3, 4, 5, 6, 7, 8, 9, 10] [(0, .ref (ka k a0)), (1, .int x1), (2, .int x2), (4, .int x4), (5, .int x5), (6, .int x6), (7, .int x7), (8, .int x8), (9, .int x9), (10, .int x10), (11, .int x11)] rfl ?_
        exact S_X12_claims_199 o F hk124 (fun q1 q2 => ih q1 q2) hf hr
      · replace hf := (if_neg q_8).symm.trans hf
        refine x_iload o dX12_claims_159 7 rfl ?_
        refine x_aload_n o dX12_claims_161 0 rfl rfl ?_
        refine x_iconst (v := 2) o dX12_claims_162 (by decide) ?_
        refine x_iload o dX12_claims_163 10 rfl ?_
        refine x_imul o dX12_claims_165 ?_
        refine x_iconst (v := 1) o dX12_claims_166 (by decide) ?_
        refine x_iadd o dX12_claims_167 ?_
        obtain ⟨c_9, ec_9, hf⟩ := ob_ex hf
        refine vRX12_245 [.int ((2 * x11) + 1)] [.int x8] o (C_X12_octet o.1.2.2.2.2.2.2.1 o.2 F ec_9) (by decide) k_5 rfl rfl (Nat.le_of_ble_eq_true rfl) dX12_claims_168 ?_
        refine x_icmp_lt o 177 dX12_claims_171 (by decide) (fun q_11 => ?_) (fun q_11 => ?_)
        · replace hf := (if_pos q_11).symm.trans hf
          refine x_iload o dX12_claims_177 10 rfl ?_
          refine x_iconst (v := 2) o dX12_claims_179 (by decide) ?_
          refine x_irem o dX12_claims_180 (by decide) ?_
          refine x_if_ne o 193 dX12_claims_181 (by decide) (fun q_12 => ?_) (fun q_12 => ?_)
          · replace hf := (if_neg q_12).symm.trans hf
            refine x_iload o dX12_claims_193 9 rfl ?_
            refine x_iconst (v := 1) o dX12_claims_195 (by decide) ?_
            refine x_iadd o dX12_claims_196 ?_
            obtain ⟨x10_13, ex10_13, hf⟩ := bd_ex hf
            refine x_top ex10_13 ?_
            refine x_istore o dX12_claims_197 (by decide) [(10, .int x10_13), (0, .ref (ka k a0)), (1, .int x1), (2, .int x2), (4, .int x4), (5, .int x5), (6, .int x6), (7, .int x7), (8, .int x8), (9, .int x9), (11, .int x11)] rfl ?_
            refine x_sub [1, 2, 3, 4, 5, 6, 7, 8, 9, 0, 10] [(0, .ref (ka k a0)), (1, .int x1), (2, .int x2), (4, .int x4), (5, .int x5), (6, .int x6), (7, .int x7), (8, .int x8), (9, .int x9), (10, .int x10_13), (11, .int x11)] rfl ?_
            exact S_X12_claims_199 o F hk124 (fun q1 q2 => ih q1 q2) hf hr
          · replace hf := (if_pos q_12).symm.trans hf
            refine x_iload o dX12_claims_184 8 rfl ?_
            refine x_iconst (v := 1) o dX12_claims_186 (by decide) ?_
            refine x_iadd o dX12_claims_187 ?_
            obtain ⟨x9_14, ex9_14, hf⟩ := bd_ex hf
            refine x_top ex9_14 ?_
            refine x_istore o dX12_claims_188 (by decide) [(9, .int x9_14), (0, .ref (ka k a0)), (1, .int x1), (2, .int x2), (4, .int x4), (5, .int x5), (6, .int x6), (7, .int x7), (8, .int x8), (10, .int x10), (11, .int x11)] rfl ?_
            refine x_goto o 199 dX12_claims_190 (by decide) ?_
            refine x_sub [1, 2, 3, 4, 5, 6, 7, 8, 0, 9, 10] [(0, .ref (ka k a0)), (1, .int x1), (2, .int x2), (4, .int x4), (5, .int x5), (6, .int x6), (7, .int x7), (8, .int x8), (9, .int x9_14), (10, .int x10), (11, .int x11)] rfl ?_
            exact S_X12_claims_199 o F hk124 (fun q1 q2 => ih q1 q2) hf hr
        · replace hf := (if_neg q_11).symm.trans hf
          refine x_goto o 199 dX12_claims_174 (by decide) ?_
          refine x_sub [0, 1, 2, 3, 4, 5, 6, 7, 8, 9, 10] [(0, .ref (ka k a0)), (1, .int x1), (2, .int x2), (4, .int x4), (5, .int x5), (6, .int x6), (7, .int x7), (8, .int x8), (9, .int x9), (10, .int x10), (11, .int x11)] rfl ?_
          exact S_X12_claims_199 o F hk124 (fun q1 q2 => ih q1 q2) hf hr
set_option maxRecDepth 100000 in
set_option maxHeartbeats 4000000 in
theorem S_X12_claims_124 {k : Kst} {d : Kdy} (o : Ok k d cX12_claims RX12 12 4) (F : Nat) : ∀ (f : Nat) {h : Hp} {a0 : Nat} {x1 : Int32} {x2 : Int32} {x4 : Int32} {x5 : Int32} {x6 : Int32} {x7 : Int32} {x8 : Int32} {r : Int32} {h1 : Hp}, X12_claims_124 F f a0 x1 x2 x4 x5 x6 x7 x8 h = some (r, h1) → RI k d cX12_claims r h1 → Wz k d h 124 [(0, .ref (ka k a0)), (1, .int x1), (2, .int x2), (4, .int x4), (5, .int x5), (6, .int x6), (7, .int x7), (8, .int x8)] [] := by
  intro f
  induction f with
  | zero =>
    intro h a0 x1 x2 x4 x5 x6 x7 x8 r h1 hf hr
    exact nomatch (show (none : Option _) = some _ from hf)
  | succ f ih =>
    intro h a0 x1 x2 x4 x5 x6 x7 x8 r h1 hf hr
    rw [X12_claims_124] at hf
    refine x_iload o dX12_claims_124 7 rfl ?_
    refine x_iload o dX12_claims_126 3 rfl ?_
    refine x_icmp_ge o 253 dX12_claims_128 (by decide) (fun q_1 => ?_) (fun q_1 => ?_)
    · replace hf := (if_pos q_1).symm.trans hf
      refine x_iload_n o dX12_claims_253 2 rfl rfl ?_
      refine x_if_ne o 262 dX12_claims_254 (by decide) (fun q_2 => ?_) (fun q_2 => ?_)
      · replace hf := (if_neg q_2).symm.trans hf
        refine x_iload_n o dX12_claims_262 2 rfl rfl ?_
        refine x_iconst (v := 1) o dX12_claims_263 (by decide) ?_
        refine x_icmp_ne o 272 dX12_claims_264 (by decide) (fun q_3 => ?_) (fun q_3 => ?_)
        · replace hf := (if_neg q_3).symm.trans hf
          refine x_iload o dX12_claims_272 6 rfl ?_
          cases hf
          exact hr _ _ dX12_claims_274
        · replace hf := (if_pos q_3).symm.trans hf
          refine x_iload o dX12_claims_267 5 rfl ?_
          refine x_goto o 274 dX12_claims_269 (by decide) ?_
          cases hf
          exact hr _ _ dX12_claims_274
      · replace hf := (if_pos q_2).symm.trans hf
        refine x_iload o dX12_claims_257 4 rfl ?_
        refine x_goto o 274 dX12_claims_259 (by decide) ?_
        cases hf
        exact hr _ _ dX12_claims_274
    · replace hf := (if_neg q_1).symm.trans hf
      refine x_iconst (v := 0) o dX12_claims_131 (by decide) ?_
      refine x_istore o dX12_claims_132 (by decide) [(9, .int 0), (0, .ref (ka k a0)), (1, .int x1), (2, .int x2), (4, .int x4), (5, .int x5), (6, .int x6), (7, .int x7), (8, .int x8)] rfl ?_
      refine x_iconst (v := 0) o dX12_claims_134 (by decide) ?_
      refine x_istore o dX12_claims_135 (by decide) [(10, .int 0), (9, .int 0), (0, .ref (ka k a0)), (1, .int x1), (2, .int x2), (4, .int x4), (5, .int x5), (6, .int x6), (7, .int x7), (8, .int x8)] rfl ?_
      refine x_iconst (v := 0) o dX12_claims_137 (by decide) ?_
      refine x_istore o dX12_claims_138 (by decide) [(11, .int 0), (10, .int 0), (9, .int 0), (0, .ref (ka k a0)), (1, .int x1), (2, .int x2), (4, .int x4), (5, .int x5), (6, .int x6), (7, .int x7), (8, .int x8)] rfl ?_
      refine x_sub [3, 4, 5, 6, 7, 8, 9, 10, 2, 1, 0] [(0, .ref (ka k a0)), (1, .int x1), (2, .int x2), (4, .int x4), (5, .int x5), (6, .int x6), (7, .int x7), (8, .int x8), (9, .int 0), (10, .int 0), (11, .int 0)] rfl ?_
      exact S_X12_claims_140 o F (fun q1 q2 => ih q1 q2) _ hf hr
set_option maxRecDepth 100000 in
set_option maxHeartbeats 4000000 in
theorem S_X12_claims_46 {k : Kst} {d : Kdy} (o : Ok k d cX12_claims RX12 12 4) (F : Nat) : ∀ (f : Nat) {h : Hp} {a0 : Nat} {x1 : Int32} {x2 : Int32} {x3 : Int32} {x4 : Int32} {x5 : Int32} {r : Int32} {h1 : Hp}, X12_claims_46 F f a0 x1 x2 x3 x4 x5 h = some (r, h1) → RI k d cX12_claims r h1 → Wz k d h 46 [(0, .ref (ka k a0)), (1, .int x1), (2, .int x2), (3, .int x3), (4, .int x4), (5, .int x5)] [] := by
  intro f
  induction f with
  | zero =>
    intro h a0 x1 x2 x3 x4 x5 r h1 hf hr
    exact nomatch (show (none : Option _) = some _ from hf)
  | succ f ih =>
    intro h a0 x1 x2 x3 x4 x5 r h1 hf hr
    rw [X12_claims_46] at hf
    refine x_iload o dX12_claims_46 5 rfl ?_
    refine x_iload_n o dX12_claims_48 1 rfl rfl ?_
    refine x_icmp_ge o 112 dX12_claims_49 (by decide) (fun q_1 => ?_) (fun q_1 => ?_)
    · replace hf := (if_pos q_1).symm.trans hf
      refine x_iconst (v := 0) o dX12_claims_112 (by decide) ?_
      refine x_istore o dX12_claims_113 (by decide) [(5, .int 0), (0, .ref (ka k a0)), (1, .int x1), (2, .int x2), (3, .int x3), (4, .int x4)] rfl ?_
      refine x_iconst (v := 0) o dX12_claims_115 (by decide) ?_
      refine x_istore o dX12_claims_116 (by decide) [(6, .int 0), (5, .int 0), (0, .ref (ka k a0)), (1, .int x1), (2, .int x2), (3, .int x3), (4, .int x4)] rfl ?_
      refine x_iconst (v := 0) o dX12_claims_118 (by decide) ?_
      refine x_istore o dX12_claims_119 (by decide) [(7, .int 0), (6, .int 0), (5, .int 0), (0, .ref (ka k a0)), (1, .int x1), (2, .int x2), (3, .int x3), (4, .int x4)] rfl ?_
      refine x_iload_n o dX12_claims_121 6 rfl rfl ?_
      refine x_istore o dX12_claims_122 (by decide) [(8, .int x3), (7, .int 0), (6, .int 0), (5, .int 0), (0, .ref (ka k a0)), (1, .int x1), (2, .int x2), (3, .int x3), (4, .int x4)] rfl ?_
      refine x_sub [4, 5, 6, 8, 3, 2, 1, 0] [(0, .ref (ka k a0)), (1, .int x1), (2, .int x2), (4, .int x4), (5, .int 0), (6, .int 0), (7, .int 0), (8, .int x3)] rfl ?_
      exact S_X12_claims_124 o F _ hf hr
    · replace hf := (if_neg q_1).symm.trans hf
      refine x_aload_n o dX12_claims_52 0 rfl rfl ?_
      refine x_iconst (v := 2) o dX12_claims_53 (by decide) ?_
      refine x_iload o dX12_claims_54 5 rfl ?_
      refine x_imul o dX12_claims_56 ?_
      obtain ⟨k_2, hf⟩ := gq_ex hf
      obtain ⟨c_3, ec_3, hf⟩ := ob_ex hf
      refine vRX12_245 [.int (2 * x5)] [] o (C_X12_octet o.1.2.2.2.2.2.2.1 o.2 F ec_3) (by decide) k_2 rfl rfl (Nat.le_of_ble_eq_true rfl) dX12_claims_57 ?_
      refine x_aload_n o dX12_claims_60 0 rfl rfl ?_
      refine x_iconst (v := 2) o dX12_claims_61 (by decide) ?_
      refine x_iload o dX12_claims_62 5 rfl ?_
      refine x_imul o dX12_claims_64 ?_
      refine x_iconst (v := 1) o dX12_claims_65 (by decide) ?_
      refine x_iadd o dX12_claims_66 ?_
      obtain ⟨c_5, ec_5, hf⟩ := ob_ex hf
      refine vRX12_245 [.int ((2 * x5) + 1)] [.int c_3] o (C_X12_octet o.1.2.2.2.2.2.2.1 o.2 F ec_5) (by decide) k_2 rfl rfl (Nat.le_of_ble_eq_true rfl) dX12_claims_67 ?_
      refine x_icmp_lt o 76 dX12_claims_70 (by decide) (fun q_7 => ?_) (fun q_7 => ?_)
      · replace hf := (if_pos q_7).symm.trans hf
        refine x_iload_n o dX12_claims_76 3 rfl rfl ?_
        refine x_aload_n o dX12_claims_77 0 rfl rfl ?_
        refine x_iconst (v := 2) o dX12_claims_78 (by decide) ?_
        refine x_iload o dX12_claims_79 5 rfl ?_
        refine x_imul o dX12_claims_81 ?_
        obtain ⟨c_8, ec_8, hf⟩ := ob_ex hf
        refine vRX12_245 [.int (2 * x5)] [.int x3] o (C_X12_octet o.1.2.2.2.2.2.2.1 o.2 F ec_8) (by decide) k_2 rfl rfl (Nat.le_of_ble_eq_true rfl) dX12_claims_82 ?_
        obtain ⟨c_10, ec_10, hf⟩ := ob_ex hf
        refine vRX12_269 [.int x3, .int c_8] [] o (C_X12_min o.1.2.2.2.2.2.2.1 o.2 F ec_10) (by decide) rfl rfl (Nat.le_of_ble_eq_true rfl) dX12_claims_85 ?_
        refine x_istore_n o dX12_claims_88 (by decide) rfl [(3, .int c_10), (0, .ref (ka k a0)), (1, .int x1), (2, .int x2), (4, .int x4), (5, .int x5)] rfl ?_
        refine x_iload o dX12_claims_89 4 rfl ?_
        refine x_aload_n o dX12_claims_91 1 rfl rfl ?_
        refine x_iconst (v := 2) o dX12_claims_92 (by decide) ?_
        refine x_iload o dX12_claims_93 5 rfl ?_
        refine x_imul o dX12_claims_95 ?_
        refine x_iconst (v := 1) o dX12_claims_96 (by decide) ?_
        refine x_iadd o dX12_claims_97 ?_
        obtain ⟨c_12, ec_12, hf⟩ := ob_ex hf
        refine vRX12_245 [.int ((2 * x5) + 1)] [.int x4] o (C_X12_octet o.1.2.2.2.2.2.2.1 o.2 F ec_12) (by decide) k_2 rfl rfl (Nat.le_of_ble_eq_true rfl) dX12_claims_98 ?_
        obtain ⟨c_14, ec_14, hf⟩ := ob_ex hf
        refine vRX12_272 [.int x4, .int c_12] [] o (C_X12_max o.1.2.2.2.2.2.2.1 o.2 F ec_14) (by decide) rfl rfl (Nat.le_of_ble_eq_true rfl) dX12_claims_101 ?_
        refine x_istore o dX12_claims_104 (by decide) [(4, .int c_14), (3, .int c_10), (0, .ref (ka k a0)), (1, .int x1), (2, .int x2), (5, .int x5)] rfl ?_
        obtain ⟨x5_16, ex5_16, hf⟩ := bd_ex hf
        refine x_iinc o dX12_claims_106 (by decide) 5 rfl ex5_16.symm [(5, .int x5_16), (4, .int c_14), (3, .int c_10), (0, .ref (ka k a0)), (1, .int x1), (2, .int x2)] rfl ?_
        refine x_goto o 46 dX12_claims_109 (by decide) ?_
        refine x_sub [3, 4, 5, 2, 1, 0] [(0, .ref (ka k a0)), (1, .int x1), (2, .int x2), (3, .int c_10), (4, .int c_14), (5, .int x5_16)] rfl ?_
        exact ih hf hr
      · replace hf := (if_neg q_7).symm.trans hf
        refine x_bipush (v := (-2)) o dX12_claims_73 (by decide) ?_
        cases hf
        exact hr _ _ dX12_claims_75
set_option maxRecDepth 100000 in
set_option maxHeartbeats 4000000 in
theorem S_X12_claims_0 {k : Kst} {d : Kdy} (o : Ok k d cX12_claims RX12 12 4) (F : Nat) {h : Hp} {a0 : Nat} {x1 : Int32} {x2 : Int32} {r : Int32} {h1 : Hp} (hf : X12_claims F a0 x1 x2 h = some (r, h1)) (hr : RI k d cX12_claims r h1) : Wz k d h 0 [(0, .ref (ka k a0)), (1, .int x1), (2, .int x2)] [] := by
  unfold X12_claims at hf
  refine x_iload_n o dX12_claims_0 1 rfl rfl ?_
  refine x_iconst (v := 1) o dX12_claims_1 (by decide) ?_
  refine x_bipush (v := 10) o dX12_claims_2 (by decide) ?_
  obtain ⟨c_1, ec_1, hf⟩ := ob_ex hf
  refine vRX12_113 [.int x1, .int 1, .int 10] [] o (C_X12_in o.1.2.2.2.2.2.2.1 o.2 F ec_1) (by decide) rfl rfl (Nat.le_of_ble_eq_true rfl) dX12_claims_4 ?_
  refine x_if_eq o 29 dX12_claims_7 (by decide) (fun q_3 => ?_) (fun q_3 => ?_)
  · replace hf := (if_pos q_3).symm.trans hf
    refine x_iconst (v := (-1)) o dX12_claims_29 (by decide) ?_
    cases hf
    exact hr _ _ dX12_claims_30
  · replace hf := (if_neg q_3).symm.trans hf
    refine x_iload_n o dX12_claims_10 2 rfl rfl ?_
    refine x_iconst (v := 0) o dX12_claims_11 (by decide) ?_
    refine x_iconst (v := 2) o dX12_claims_12 (by decide) ?_
    obtain ⟨c_4, ec_4, hf⟩ := ob_ex hf
    refine vRX12_113 [.int x2, .int 0, .int 2] [] o (C_X12_in o.1.2.2.2.2.2.2.1 o.2 F ec_4) (by decide) rfl rfl (Nat.le_of_ble_eq_true rfl) dX12_claims_13 ?_
    refine x_if_eq o 29 dX12_claims_16 (by decide) (fun q_6 => ?_) (fun q_6 => ?_)
    · replace hf := (if_pos q_6).symm.trans hf
      refine x_iconst (v := (-1)) o dX12_claims_29 (by decide) ?_
      cases hf
      exact hr _ _ dX12_claims_30
    · replace hf := (if_neg q_6).symm.trans hf
      refine x_iconst (v := 2) o dX12_claims_19 (by decide) ?_
      refine x_iload_n o dX12_claims_20 1 rfl rfl ?_
      refine x_imul o dX12_claims_21 ?_
      refine x_aload_n o dX12_claims_22 0 rfl rfl ?_
      obtain ⟨k_7, hf⟩ := gq_ex hf
      refine gRX12_128 o k_7 dX12_claims_23 ?_
      refine x_icmp_le o 31 dX12_claims_26 (by decide) (fun q_8 => ?_) (fun q_8 => ?_)
      · replace hf := (if_pos q_8).symm.trans hf
        refine x_aload_n o dX12_claims_31 0 rfl rfl ?_
        refine x_iconst (v := 0) o dX12_claims_32 (by decide) ?_
        obtain ⟨h_9, eh_9, hf⟩ := bd_ex hf
        refine pRX12_128 o k_7 eh_9 dX12_claims_33 ?_
        refine x_sipush (v := 255) o dX12_claims_36 (by decide) ?_
        refine x_istore_n o dX12_claims_39 (by decide) rfl [(3, .int 255), (0, .ref (ka k a0)), (1, .int x1), (2, .int x2)] rfl ?_
        refine x_iconst (v := 0) o dX12_claims_40 (by decide) ?_
        refine x_istore o dX12_claims_41 (by decide) [(4, .int 0), (3, .int 255), (0, .ref (ka k a0)), (1, .int x1), (2, .int x2)] rfl ?_
        refine x_iconst (v := 0) o dX12_claims_43 (by decide) ?_
        refine x_istore o dX12_claims_44 (by decide) [(5, .int 0), (4, .int 0), (3, .int 255), (0, .ref (ka k a0)), (1, .int x1), (2, .int x2)] rfl ?_
        refine x_sub [3, 4, 5, 2, 1, 0] [(0, .ref (ka k a0)), (1, .int x1), (2, .int x2), (3, .int 255), (4, .int 0), (5, .int 0)] rfl ?_
        exact S_X12_claims_46 o F _ hf hr
      · replace hf := (if_neg q_8).symm.trans hf
        refine x_iconst (v := (-1)) o dX12_claims_29 (by decide) ?_
        cases hf
        exact hr _ _ dX12_claims_30
theorem C_X12_claims {k : Kst} (hj : Dj k) (hn : kn k = kdl.length) (F : Nat) {h : Hp} {a0 : Nat} {x1 : Int32} {x2 : Int32} {r : Int32} {h1 : Hp} (hf : X12_claims F a0 x1 x2 h = some (r, h1)) : MI k 4 yX12_claims cX12_claims 12 (some .int) [.ref (ka k a0), .int x1, .int x2] h r h1 := mI hj hn (by decide +kernel) (Nat.le_of_ble_eq_true rfl) (fun d o hr => S_X12_claims_0 o F hf hr)
set_option maxRecDepth 100000 in
set_option maxHeartbeats 4000000 in
theorem S_X12_sorts_50 {k : Kst} {d : Kdy} (o : Ok k d cX12_sorts RX12 4 4) (F : Nat) {k2 : Nat → Int32 → Int32 → Hp → Option Hp} (hk2 : ∀ {h : Hp} {a0 : Nat} {x1 : Int32} {x2 : Int32} {h1 : Hp}, k2 a0 x1 x2 h = some h1 → RV k d cX12_sorts h1 → Wz k d h 2 [(0, .ref (ka k a0)), (1, .int x1), (2, .int x2)] []) {h : Hp} {a0 : Nat} {x1 : Int32} {x2 : Int32} {x3 : Int32} {h1 : Hp} (hf : X12_sorts_50 F k2 a0 x1 x2 x3 h = some h1) (hr : RV k d cX12_sorts h1) : Wz k d h 50 [(0, .ref (ka k a0)), (1, .int x1), (2, .int x2), (3, .int x3)] [] := by
  unfold X12_sorts_50 at hf
  refine x_aload_n o dX12_sorts_50 0 rfl rfl ?_
  obtain ⟨k_1, hf⟩ := gq_ex hf
  obtain ⟨j_2, ej_2, hf⟩ := ob_ex hf
  refine gRX12_86 o k_1 ej_2 dX12_sorts_51 ?_
  refine x_iload_n o dX12_sorts_54 3 rfl rfl ?_
  refine x_aload_n o dX12_sorts_55 0 rfl rfl ?_
  refine x_iload_n o dX12_sorts_56 2 rfl rfl ?_
  obtain ⟨c_3, ec_3, hf⟩ := ob_ex hf
  refine vRX12_245 [.int x2] [.int x3, .ref (ka k j_2)] o (C_X12_octet o.1.2.2.2.2.2.2.1 o.2 F ec_3) (by decide) k_1 rfl rfl (Nat.le_of_ble_eq_true rfl) dX12_sorts_57 ?_
  obtain ⟨k_5, hf⟩ := gq_ex hf
  obtain ⟨b_6, hf⟩ := gq_ex hf
  obtain ⟨h_7, eh_7, hf⟩ := bd_ex hf
  refine x_iast o k_5 b_6 dX12_sorts_60 (x_h eh_7 ?_)
  obtain ⟨x2_8, ex2_8, hf⟩ := bd_ex hf
  refine x_iinc o dX12_sorts_61 (by decide) 2 rfl ex2_8.symm [(2, .int x2_8), (0, .ref (ka k a0)), (1, .int x1), (3, .int x3)] rfl ?_
  refine x_goto o 2 dX12_sorts_64 (by decide) ?_
  refine x_sub [1, 2, 0] [(0, .ref (ka k a0)), (1, .int x1), (2, .int x2_8)] rfl ?_
  exact hk2 hf hr
set_option maxRecDepth 100000 in
set_option maxHeartbeats 4000000 in
theorem S_X12_sorts_9 {k : Kst} {d : Kdy} (o : Ok k d cX12_sorts RX12 4 4) (F : Nat) {k2 : Nat → Int32 → Int32 → Hp → Option Hp} (hk2 : ∀ {h : Hp} {a0 : Nat} {x1 : Int32} {x2 : Int32} {h1 : Hp}, k2 a0 x1 x2 h = some h1 → RV k d cX12_sorts h1 → Wz k d h 2 [(0, .ref (ka k a0)), (1, .int x1), (2, .int x2)] []) : ∀ (f : Nat) {h : Hp} {a0 : Nat} {x1 : Int32} {x2 : Int32} {x3 : Int32} {h1 : Hp}, X12_sorts_9 F k2 f a0 x1 x2 x3 h = some h1 → RV k d cX12_sorts h1 → Wz k d h 9 [(0, .ref (ka k a0)), (1, .int x1), (2, .int x2), (3, .int x3)] [] := by
  intro f
  induction f with
  | zero =>
    intro h a0 x1 x2 x3 h1 hf hr
    exact nomatch (show (none : Option _) = some _ from hf)
  | succ f ih =>
    intro h a0 x1 x2 x3 h1 hf hr
    rw [X12_sorts_9] at hf
    refine x_iload_n o dX12_sorts_9 3 rfl rfl ?_
    refine x_if_le o 50 dX12_sorts_10 (by decide) (fun q_1 => ?_) (fun q_1 => ?_)
    · replace hf := (if_pos q_1).symm.trans hf
      refine x_sub [0, 1, 2, 3] [(0, .ref (ka k a0)), (1, .int x1), (2, .int x2), (3, .int x3)] rfl ?_
      exact S_X12_sorts_50 o F hk2 hf hr
    · replace hf := (if_neg q_1).symm.trans hf
      refine x_aload_n o dX12_sorts_13 0 rfl rfl ?_
      obtain ⟨k_2, hf⟩ := gq_ex hf
      obtain ⟨j_3, ej_3, hf⟩ := ob_ex hf
      refine gRX12_86 o k_2 ej_3 dX12_sorts_14 ?_
      refine x_iload_n o dX12_sorts_17 3 rfl rfl ?_
      refine x_iconst (v := 1) o dX12_sorts_18 (by decide) ?_
      refine x_isub o dX12_sorts_19 ?_
      obtain ⟨k_4, hf⟩ := gq_ex hf
      obtain ⟨b_5, hf⟩ := gq_ex hf
      refine x_iald o k_4 b_5 dX12_sorts_20 ?_
      refine x_aload_n o dX12_sorts_21 0 rfl rfl ?_
      refine x_iload_n o dX12_sorts_22 2 rfl rfl ?_
      obtain ⟨c_6, ec_6, hf⟩ := ob_ex hf
      refine vRX12_245 [.int x2] [.int (h.1 j_3 (ix (x3 - 1)))] o (C_X12_octet o.1.2.2.2.2.2.2.1 o.2 F ec_6) (by decide) k_2 rfl rfl (Nat.le_of_ble_eq_true rfl) dX12_sorts_23 ?_
      refine x_icmp_le o 50 dX12_sorts_26 (by decide) (fun q_8 => ?_) (fun q_8 => ?_)
      · replace hf := (if_pos q_8).symm.trans hf
        refine x_sub [0, 1, 2, 3] [(0, .ref (ka k a0)), (1, .int x1), (2, .int x2), (3, .int x3)] rfl ?_
        exact S_X12_sorts_50 o F hk2 hf hr
      · replace hf := (if_neg q_8).symm.trans hf
        refine x_aload_n o dX12_sorts_29 0 rfl rfl ?_
        refine gRX12_86 o k_2 ej_3 dX12_sorts_30 ?_
        refine x_iload_n o dX12_sorts_33 3 rfl rfl ?_
        refine x_aload_n o dX12_sorts_34 0 rfl rfl ?_
        refine gRX12_86 o k_2 ej_3 dX12_sorts_35 ?_
        refine x_iload_n o dX12_sorts_38 3 rfl rfl ?_
        refine x_iconst (v := 1) o dX12_sorts_39 (by decide) ?_
        refine x_isub o dX12_sorts_40 ?_
        obtain ⟨b_9, hf⟩ := gq_ex hf
        refine x_iald o k_4 b_9 dX12_sorts_41 ?_
        obtain ⟨b_10, hf⟩ := gq_ex hf
        obtain ⟨h_11, eh_11, hf⟩ := bd_ex hf
        refine x_iast o k_4 b_10 dX12_sorts_42 (x_h eh_11 ?_)
        refine x_iload_n o dX12_sorts_43 3 rfl rfl ?_
        refine x_iconst (v := 1) o dX12_sorts_44 (by decide) ?_
        refine x_isub o dX12_sorts_45 ?_
        obtain ⟨x3_12, ex3_12, hf⟩ := bd_ex hf
        refine x_top ex3_12 ?_
        refine x_istore_n o dX12_sorts_46 (by decide) rfl [(3, .int x3_12), (0, .ref (ka k a0)), (1, .int x1), (2, .int x2)] rfl ?_
        refine x_goto o 9 dX12_sorts_47 (by decide) ?_
        refine x_sub [1, 2, 3, 0] [(0, .ref (ka k a0)), (1, .int x1), (2, .int x2), (3, .int x3_12)] rfl ?_
        exact ih hf hr
set_option maxRecDepth 100000 in
set_option maxHeartbeats 4000000 in
theorem S_X12_sorts_2 {k : Kst} {d : Kdy} (o : Ok k d cX12_sorts RX12 4 4) (F : Nat) : ∀ (f : Nat) {h : Hp} {a0 : Nat} {x1 : Int32} {x2 : Int32} {h1 : Hp}, X12_sorts_2 F f a0 x1 x2 h = some h1 → RV k d cX12_sorts h1 → Wz k d h 2 [(0, .ref (ka k a0)), (1, .int x1), (2, .int x2)] [] := by
  intro f
  induction f with
  | zero =>
    intro h a0 x1 x2 h1 hf hr
    exact nomatch (show (none : Option _) = some _ from hf)
  | succ f ih =>
    intro h a0 x1 x2 h1 hf hr
    rw [X12_sorts_2] at hf
    refine x_iload_n o dX12_sorts_2 2 rfl rfl ?_
    refine x_iload_n o dX12_sorts_3 1 rfl rfl ?_
    refine x_icmp_ge o 67 dX12_sorts_4 (by decide) (fun q_1 => ?_) (fun q_1 => ?_)
    · replace hf := (if_pos q_1).symm.trans hf
      cases hf
      exact hr _ _ dX12_sorts_67
    · replace hf := (if_neg q_1).symm.trans hf
      refine x_iload_n o dX12_sorts_7 2 rfl rfl ?_
      refine x_istore_n o dX12_sorts_8 (by decide) rfl [(3, .int x2), (0, .ref (ka k a0)), (1, .int x1), (2, .int x2)] rfl ?_
      refine x_sub [1, 2, 3, 0] [(0, .ref (ka k a0)), (1, .int x1), (2, .int x2), (3, .int x2)] rfl ?_
      exact S_X12_sorts_9 o F (fun q1 q2 => ih q1 q2) _ hf hr
set_option maxRecDepth 100000 in
set_option maxHeartbeats 4000000 in
theorem S_X12_sorts_0 {k : Kst} {d : Kdy} (o : Ok k d cX12_sorts RX12 4 4) (F : Nat) {h : Hp} {a0 : Nat} {x1 : Int32} {h1 : Hp} (hf : X12_sorts F a0 x1 h = some h1) (hr : RV k d cX12_sorts h1) : Wz k d h 0 [(0, .ref (ka k a0)), (1, .int x1)] [] := by
  unfold X12_sorts at hf
  refine x_iconst (v := 0) o dX12_sorts_0 (by decide) ?_
  refine x_istore_n o dX12_sorts_1 (by decide) rfl [(2, .int 0), (0, .ref (ka k a0)), (1, .int x1)] rfl ?_
  refine x_sub [1, 2, 0] [(0, .ref (ka k a0)), (1, .int x1), (2, .int 0)] rfl ?_
  exact S_X12_sorts_2 o F _ hf hr
theorem C_X12_sorts {k : Kst} (hj : Dj k) (hn : kn k = kdl.length) (F : Nat) {h : Hp} {a0 : Nat} {x1 : Int32} {h1 : Hp} (hf : X12_sorts F a0 x1 h = some h1) : MV k 4 yX12_sorts cX12_sorts 4 [.ref (ka k a0), .int x1] h h1 := mV hj hn (by decide +kernel) (Nat.le_of_ble_eq_true rfl) (fun d o hr => S_X12_sorts_0 o F hf hr)
set_option maxRecDepth 100000 in
set_option maxHeartbeats 4000000 in
theorem S_X12_rowed_34 {k : Kst} {d : Kdy} (o : Ok k d cX12_rowed RX12 6 5) (F : Nat) : ∀ (f : Nat) {h : Hp} {a0 : Nat} {x2 : Int32} {x3 : Int32} {r : Int32} {h1 : Hp}, X12_rowed_34 F f a0 x2 x3 h = some (r, h1) → RI k d cX12_rowed r h1 → Wz k d h 34 [(0, .ref (ka k a0)), (2, .int x2), (3, .int x3)] [] := by
  intro f
  induction f with
  | zero =>
    intro h a0 x2 x3 r h1 hf hr
    exact nomatch (show (none : Option _) = some _ from hf)
  | succ f ih =>
    intro h a0 x2 x3 r h1 hf hr
    rw [X12_rowed_34] at hf
    refine x_iload_n o dX12_rowed_34 1 rfl rfl ?_
    refine x_iconst (v := 3) o dX12_rowed_35 (by decide) ?_
    refine x_icmp_le o 110 dX12_rowed_36 (by decide) (fun q_1 => ?_) (fun q_1 => ?_)
    · replace hf := (if_pos q_1).symm.trans hf
      refine x_iload_n o dX12_rowed_110 1 rfl rfl ?_
      refine x_iconst (v := 3) o dX12_rowed_111 (by decide) ?_
      refine x_icmp_ne o 138 dX12_rowed_112 (by decide) (fun q_2 => ?_) (fun q_2 => ?_)
      · replace hf := (if_neg q_2).symm.trans hf
        refine x_iload_n o dX12_rowed_138 2 rfl rfl ?_
        refine x_aload_n o dX12_rowed_139 0 rfl rfl ?_
        obtain ⟨k_3, hf⟩ := gq_ex hf
        obtain ⟨j_4, ej_4, hf⟩ := ob_ex hf
        refine gRX12_86 o k_3 ej_4 dX12_rowed_140 ?_
        refine x_iload_n o dX12_rowed_143 1 rfl rfl ?_
        refine x_iconst (v := 1) o dX12_rowed_144 (by decide) ?_
        refine x_isub o dX12_rowed_145 ?_
        obtain ⟨k_5, hf⟩ := gq_ex hf
        obtain ⟨b_6, hf⟩ := gq_ex hf
        refine x_iald o k_5 b_6 dX12_rowed_146 ?_
        refine x_iadd o dX12_rowed_147 ?_
        cases hf
        exact hr _ _ dX12_rowed_148
      · replace hf := (if_pos q_2).symm.trans hf
        refine x_iload_n o dX12_rowed_115 2 rfl rfl ?_
        refine x_aload_n o dX12_rowed_116 0 rfl rfl ?_
        obtain ⟨k_7, hf⟩ := gq_ex hf
        obtain ⟨j_8, ej_8, hf⟩ := ob_ex hf
        refine gRX12_86 o k_7 ej_8 dX12_rowed_117 ?_
        refine x_iconst (v := 0) o dX12_rowed_120 (by decide) ?_
        obtain ⟨k_9, hf⟩ := gq_ex hf
        obtain ⟨b_10, hf⟩ := gq_ex hf
        refine x_iald o k_9 b_10 dX12_rowed_121 ?_
        refine x_iadd o dX12_rowed_122 ?_
        refine x_aload_n o dX12_rowed_123 0 rfl rfl ?_
        refine gRX12_86 o k_7 ej_8 dX12_rowed_124 ?_
        refine x_iconst (v := 1) o dX12_rowed_127 (by decide) ?_
        obtain ⟨b_11, hf⟩ := gq_ex hf
        refine x_iald o k_9 b_11 dX12_rowed_128 ?_
        refine x_iadd o dX12_rowed_129 ?_
        refine x_aload_n o dX12_rowed_130 0 rfl rfl ?_
        refine gRX12_86 o k_7 ej_8 dX12_rowed_131 ?_
        refine x_iconst (v := 2) o dX12_rowed_134 (by decide) ?_
        obtain ⟨b_12, hf⟩ := gq_ex hf
        refine x_iald o k_9 b_12 dX12_rowed_135 ?_
        refine x_iadd o dX12_rowed_136 ?_
        cases hf
        exact hr _ _ dX12_rowed_137
    · replace hf := (if_neg q_1).symm.trans hf
      refine x_iconst (v := 2) o dX12_rowed_39 (by decide) ?_
      refine x_aload_n o dX12_rowed_40 0 rfl rfl ?_
      obtain ⟨k_13, hf⟩ := gq_ex hf
      obtain ⟨j_14, ej_14, hf⟩ := ob_ex hf
      refine gRX12_86 o k_13 ej_14 dX12_rowed_41 ?_
      refine x_iconst (v := 0) o dX12_rowed_44 (by decide) ?_
      obtain ⟨k_15, hf⟩ := gq_ex hf
      obtain ⟨b_16, hf⟩ := gq_ex hf
      refine x_iald o k_15 b_16 dX12_rowed_45 ?_
      refine x_imul o dX12_rowed_46 ?_
      refine x_aload_n o dX12_rowed_47 0 rfl rfl ?_
      refine gRX12_86 o k_13 ej_14 dX12_rowed_48 ?_
      refine x_iload_n o dX12_rowed_51 1 rfl rfl ?_
      refine x_iconst (v := 2) o dX12_rowed_52 (by decide) ?_
      refine x_isub o dX12_rowed_53 ?_
      obtain ⟨b_17, hf⟩ := gq_ex hf
      refine x_iald o k_15 b_17 dX12_rowed_54 ?_
      refine x_iadd o dX12_rowed_55 ?_
      refine x_aload_n o dX12_rowed_56 0 rfl rfl ?_
      refine gRX12_86 o k_13 ej_14 dX12_rowed_57 ?_
      refine x_iload_n o dX12_rowed_60 1 rfl rfl ?_
      refine x_iconst (v := 1) o dX12_rowed_61 (by decide) ?_
      refine x_isub o dX12_rowed_62 ?_
      obtain ⟨b_18, hf⟩ := gq_ex hf
      refine x_iald o k_15 b_18 dX12_rowed_63 ?_
      refine x_iadd o dX12_rowed_64 ?_
      obtain ⟨x4_19, ex4_19, hf⟩ := bd_ex hf
      refine x_top ex4_19 ?_
      refine x_istore o dX12_rowed_65 (by decide) [(4, .int x4_19), (0, .ref (ka k a0)), (2, .int x2), (3, .int x3)] rfl ?_
      refine x_aload_n o dX12_rowed_67 1 rfl rfl ?_
      refine gRX12_86 o k_13 ej_14 dX12_rowed_68 ?_
      refine x_iconst (v := 0) o dX12_rowed_71 (by decide) ?_
      obtain ⟨b_20, hf⟩ := gq_ex hf
      refine x_iald o k_15 b_20 dX12_rowed_72 ?_
      refine x_iconst (v := 2) o dX12_rowed_73 (by decide) ?_
      refine x_aload_n o dX12_rowed_74 1 rfl rfl ?_
      refine gRX12_86 o k_13 ej_14 dX12_rowed_75 ?_
      refine x_iconst (v := 1) o dX12_rowed_78 (by decide) ?_
      obtain ⟨b_21, hf⟩ := gq_ex hf
      refine x_iald o k_15 b_21 dX12_rowed_79 ?_
      refine x_imul o dX12_rowed_80 ?_
      refine x_iadd o dX12_rowed_81 ?_
      refine x_aload_n o dX12_rowed_82 1 rfl rfl ?_
      refine gRX12_86 o k_13 ej_14 dX12_rowed_83 ?_
      refine x_iload_n o dX12_rowed_86 2 rfl rfl ?_
      refine x_iconst (v := 1) o dX12_rowed_87 (by decide) ?_
      refine x_isub o dX12_rowed_88 ?_
      obtain ⟨b_22, hf⟩ := gq_ex hf
      refine x_iald o k_15 b_22 dX12_rowed_89 ?_
      refine x_iadd o dX12_rowed_90 ?_
      obtain ⟨x5_23, ex5_23, hf⟩ := bd_ex hf
      refine x_top ex5_23 ?_
      refine x_istore o dX12_rowed_91 (by decide) [(5, .int x5_23), (4, .int x4_19), (0, .ref (ka k a0)), (2, .int x2), (3, .int x3)] rfl ?_
      refine x_iload_n o dX12_rowed_93 4 rfl rfl ?_
      refine x_iload o dX12_rowed_94 1 rfl ?_
      refine x_iload o dX12_rowed_96 0 rfl ?_
      obtain ⟨c_24, ec_24, hf⟩ := ob_ex hf
      refine vRX12_269 [.int x4_19, .int x5_23] [.int x3] o (C_X12_min o.1.2.2.2.2.2.2.1 o.2 F ec_24) (by decide) rfl rfl (Nat.le_of_ble_eq_true rfl) dX12_rowed_98 ?_
      refine x_iadd o dX12_rowed_101 ?_
      obtain ⟨x3_26, ex3_26, hf⟩ := bd_ex hf
      refine x_top ex3_26 ?_
      refine x_istore_n o dX12_rowed_102 (by decide) rfl [(3, .int x3_26), (5, .int x5_23), (4, .int x4_19), (0, .ref (ka k a0)), (2, .int x2)] rfl ?_
      refine x_iload_n o dX12_rowed_103 4 rfl rfl ?_
      refine x_iconst (v := 2) o dX12_rowed_104 (by decide) ?_
      refine x_isub o dX12_rowed_105 ?_
      obtain ⟨x2_27, ex2_27, hf⟩ := bd_ex hf
      refine x_top ex2_27 ?_
      refine x_istore_n o dX12_rowed_106 (by decide) rfl [(2, .int x2_27), (3, .int x3_26), (5, .int x5_23), (4, .int x4_19), (0, .ref (ka k a0))] rfl ?_
      refine x_goto o 34 dX12_rowed_107 (by decide) ?_
      refine x_sub [4, 0, 1] [(0, .ref (ka k a0)), (2, .int x2_27), (3, .int x3_26)] rfl ?_
      exact ih hf hr
set_option maxRecDepth 100000 in
set_option maxHeartbeats 4000000 in
theorem S_X12_rowed_0 {k : Kst} {d : Kdy} (o : Ok k d cX12_rowed RX12 6 5) (F : Nat) {h : Hp} {a0 : Nat} {x1 : Int32} {r : Int32} {h1 : Hp} (hf : X12_rowed F a0 x1 h = some (r, h1)) (hr : RI k d cX12_rowed r h1) : Wz k d h 0 [(0, .ref (ka k a0)), (1, .int x1)] [] := by
  unfold X12_rowed at hf
  refine x_iload_n o dX12_rowed_0 1 rfl rfl ?_
  refine x_iconst (v := 1) o dX12_rowed_1 (by decide) ?_
  refine x_bipush (v := 10) o dX12_rowed_2 (by decide) ?_
  obtain ⟨c_1, ec_1, hf⟩ := ob_ex hf
  refine vRX12_113 [.int x1, .int 1, .int 10] [] o (C_X12_in o.1.2.2.2.2.2.2.1 o.2 F ec_1) (by decide) rfl rfl (Nat.le_of_ble_eq_true rfl) dX12_rowed_4 ?_
  refine x_if_eq o 18 dX12_rowed_7 (by decide) (fun q_3 => ?_) (fun q_3 => ?_)
  · replace hf := (if_pos q_3).symm.trans hf
    refine x_iconst (v := (-1)) o dX12_rowed_18 (by decide) ?_
    cases hf
    exact hr _ _ dX12_rowed_19
  · replace hf := (if_neg q_3).symm.trans hf
    refine x_iload_n o dX12_rowed_10 1 rfl rfl ?_
    refine x_aload_n o dX12_rowed_11 0 rfl rfl ?_
    obtain ⟨k_4, hf⟩ := gq_ex hf
    refine gRX12_128 o k_4 dX12_rowed_12 ?_
    refine x_icmp_le o 20 dX12_rowed_15 (by decide) (fun q_5 => ?_) (fun q_5 => ?_)
    · replace hf := (if_pos q_5).symm.trans hf
      refine x_aload_n o dX12_rowed_20 0 rfl rfl ?_
      refine x_iconst (v := 0) o dX12_rowed_21 (by decide) ?_
      obtain ⟨h_6, eh_6, hf⟩ := bd_ex hf
      refine pRX12_128 o k_4 eh_6 dX12_rowed_22 ?_
      refine x_aload_n o dX12_rowed_25 0 rfl rfl ?_
      refine x_iload_n o dX12_rowed_26 1 rfl rfl ?_
      obtain ⟨h_8, eh_8, hf⟩ := ob_ex hf
      refine vRX12_368 [.int x1] [] o (C_X12_sorts o.1.2.2.2.2.2.2.1 o.2 F eh_8) (by decide) k_4 rfl rfl (Nat.le_of_ble_eq_true rfl) dX12_rowed_27 ?_
      refine x_iload_n o dX12_rowed_30 1 rfl rfl ?_
      refine x_istore_n o dX12_rowed_31 (by decide) rfl [(2, .int x1), (0, .ref (ka k a0)), (1, .int x1)] rfl ?_
      refine x_iconst (v := 0) o dX12_rowed_32 (by decide) ?_
      refine x_istore_n o dX12_rowed_33 (by decide) rfl [(3, .int 0), (2, .int x1), (0, .ref (ka k a0)), (1, .int x1)] rfl ?_
      refine x_sub [2, 1, 0] [(0, .ref (ka k a0)), (2, .int x1), (3, .int 0)] rfl ?_
      exact S_X12_rowed_34 o F _ hf hr
    · replace hf := (if_neg q_5).symm.trans hf
      refine x_iconst (v := (-1)) o dX12_rowed_18 (by decide) ?_
      cases hf
      exact hr _ _ dX12_rowed_19
theorem C_X12_rowed {k : Kst} (hj : Dj k) (hn : kn k = kdl.length) (F : Nat) {h : Hp} {a0 : Nat} {x1 : Int32} {r : Int32} {h1 : Hp} (hf : X12_rowed F a0 x1 h = some (r, h1)) : MI k 5 yX12_rowed cX12_rowed 6 (some .int) [.ref (ka k a0), .int x1] h r h1 := mI hj hn (by decide +kernel) (Nat.le_of_ble_eq_true rfl) (fun d o hr => S_X12_rowed_0 o F hf hr)
set_option maxRecDepth 100000 in
set_option maxHeartbeats 4000000 in
theorem S_X12_isOnceEach_5 {k : Kst} {d : Kdy} (o : Ok k d cX12_isOnceEach RX12 6 4) (F : Nat) : ∀ (f : Nat) {h : Hp} {a0 : Nat} {x1 : Int32} {x2 : Int32} {x3 : Int32} {x4 : Int32} {r : Int32}, X12_isOnceEach_5 F f a0 x1 x2 x3 x4 h = some r → RZ k d cX12_isOnceEach r h → Wz k d h 5 [(0, .ref (ka k a0)), (1, .int x1), (2, .int x2), (3, .int x3), (4, .int x4)] [] := by
  intro f
  induction f with
  | zero =>
    intro h a0 x1 x2 x3 x4 r hf hr
    exact nomatch (show (none : Option _) = some _ from hf)
  | succ f ih =>
    intro h a0 x1 x2 x3 x4 r hf hr
    rw [X12_isOnceEach_5] at hf
    refine x_iload o dX12_isOnceEach_5 4 rfl ?_
    refine x_iload_n o dX12_isOnceEach_7 2 rfl rfl ?_
    refine x_icmp_ge o 51 dX12_isOnceEach_8 (by decide) (fun q_1 => ?_) (fun q_1 => ?_)
    · replace hf := (if_pos q_1).symm.trans hf
      refine x_iconst (v := 1) o dX12_isOnceEach_51 (by decide) ?_
      cases hf
      exact hr (Or.inr rfl) _ _ dX12_isOnceEach_52
    · replace hf := (if_neg q_1).symm.trans hf
      refine x_aload_n o dX12_isOnceEach_11 0 rfl rfl ?_
      refine x_iload_n o dX12_isOnceEach_12 1 rfl rfl ?_
      refine x_iload o dX12_isOnceEach_13 4 rfl ?_
      refine x_iadd o dX12_isOnceEach_15 ?_
      obtain ⟨k_2, hf⟩ := gq_ex hf
      obtain ⟨c_3, ec_3, hf⟩ := ob_ex hf
      refine vRX12_245 [.int (x1 + x4)] [] o (C_X12_octet o.1.2.2.2.2.2.2.1 o.2 F ec_3) (by decide) k_2 rfl rfl (Nat.le_of_ble_eq_true rfl) dX12_isOnceEach_16 ?_
      refine x_istore o dX12_isOnceEach_19 (by decide) [(5, .int c_3), (0, .ref (ka k a0)), (1, .int x1), (2, .int x2), (3, .int x3), (4, .int x4)] rfl ?_
      refine x_iload o dX12_isOnceEach_21 0 rfl ?_
      refine x_iload_n o dX12_isOnceEach_23 3 rfl rfl ?_
      refine x_icmp_ge o 36 dX12_isOnceEach_24 (by decide) (fun q_5 => ?_) (fun q_5 => ?_)
      · replace hf := (if_pos q_5).symm.trans hf
        refine x_iconst (v := 0) o dX12_isOnceEach_36 (by decide) ?_
        cases hf
        exact hr (Or.inl rfl) _ _ dX12_isOnceEach_37
      · replace hf := (if_neg q_5).symm.trans hf
        refine x_iload_n o dX12_isOnceEach_27 4 rfl rfl ?_
        refine x_iload o dX12_isOnceEach_28 0 rfl ?_
        obtain ⟨c_6, ec_6, hf⟩ := ob_ex hf
        refine vRX12_354 [.int x3, .int c_3] [] o (C_X12_has o.1.2.2.2.2.2.2.1 o.2 F ec_6) (by decide) rfl rfl (Nat.le_of_ble_eq_true rfl) dX12_isOnceEach_30 ?_
        refine x_if_eq o 38 dX12_isOnceEach_33 (by decide) (fun q_8 => ?_) (fun q_8 => ?_)
        · replace hf := (if_pos q_8).symm.trans hf
          refine x_iload_n o dX12_isOnceEach_38 4 rfl rfl ?_
          refine x_iconst (v := 1) o dX12_isOnceEach_39 (by decide) ?_
          refine x_iload o dX12_isOnceEach_40 0 rfl ?_
          refine x_ishl o dX12_isOnceEach_42 ?_
          refine x_ior o dX12_isOnceEach_43 ?_
          obtain ⟨x3_9, ex3_9, hf⟩ := bd_ex hf
          refine x_top ex3_9 ?_
          refine x_istore_n o dX12_isOnceEach_44 (by decide) rfl [(3, .int x3_9), (5, .int c_3), (0, .ref (ka k a0)), (1, .int x1), (2, .int x2), (4, .int x4)] rfl ?_
          obtain ⟨x4_10, ex4_10, hf⟩ := bd_ex hf
          refine x_iinc o dX12_isOnceEach_45 (by decide) 5 rfl ex4_10.symm [(4, .int x4_10), (3, .int x3_9), (5, .int c_3), (0, .ref (ka k a0)), (1, .int x1), (2, .int x2)] rfl ?_
          refine x_goto o 5 dX12_isOnceEach_48 (by decide) ?_
          refine x_sub [3, 4, 5, 1, 0] [(0, .ref (ka k a0)), (1, .int x1), (2, .int x2), (3, .int x3_9), (4, .int x4_10)] rfl ?_
          exact ih hf hr
        · replace hf := (if_neg q_8).symm.trans hf
          refine x_iconst (v := 0) o dX12_isOnceEach_36 (by decide) ?_
          cases hf
          exact hr (Or.inl rfl) _ _ dX12_isOnceEach_37
set_option maxRecDepth 100000 in
set_option maxHeartbeats 4000000 in
theorem S_X12_isOnceEach_0 {k : Kst} {d : Kdy} (o : Ok k d cX12_isOnceEach RX12 6 4) (F : Nat) {h : Hp} {a0 : Nat} {x1 : Int32} {x2 : Int32} {r : Int32} (hf : X12_isOnceEach F a0 x1 x2 h = some r) (hr : RZ k d cX12_isOnceEach r h) : Wz k d h 0 [(0, .ref (ka k a0)), (1, .int x1), (2, .int x2)] [] := by
  unfold X12_isOnceEach at hf
  refine x_iconst (v := 0) o dX12_isOnceEach_0 (by decide) ?_
  refine x_istore_n o dX12_isOnceEach_1 (by decide) rfl [(3, .int 0), (0, .ref (ka k a0)), (1, .int x1), (2, .int x2)] rfl ?_
  refine x_iconst (v := 0) o dX12_isOnceEach_2 (by decide) ?_
  refine x_istore o dX12_isOnceEach_3 (by decide) [(4, .int 0), (3, .int 0), (0, .ref (ka k a0)), (1, .int x1), (2, .int x2)] rfl ?_
  refine x_sub [2, 3, 4, 1, 0] [(0, .ref (ka k a0)), (1, .int x1), (2, .int x2), (3, .int 0), (4, .int 0)] rfl ?_
  exact S_X12_isOnceEach_5 o F _ hf hr
theorem C_X12_isOnceEach {k : Kst} (hj : Dj k) (hn : kn k = kdl.length) (F : Nat) {h : Hp} {a0 : Nat} {x1 : Int32} {x2 : Int32} {r : Int32} (hf : X12_isOnceEach F a0 x1 x2 h = some r) : MI k 4 yX12_isOnceEach cX12_isOnceEach 6 (some .boolean) [.ref (ka k a0), .int x1, .int x2] h r h := mZ hj hn (by decide +kernel) (Nat.le_of_ble_eq_true rfl) (fun d o hr => S_X12_isOnceEach_0 o F hf hr)
set_option maxRecDepth 100000 in
set_option maxHeartbeats 4000000 in
theorem S_X12_likes_3 {k : Kst} {d : Kdy} (o : Ok k d cX12_likes RX12 5 4) (F : Nat) : ∀ (f : Nat) {h : Hp} {a0 : Nat} {x1 : Int32} {x2 : Int32} {x3 : Int32} {x4 : Int32} {r : Int32}, X12_likes_3 F f a0 x1 x2 x3 x4 h = some r → RI k d cX12_likes r h → Wz k d h 3 [(0, .ref (ka k a0)), (1, .int x1), (2, .int x2), (3, .int x3), (4, .int x4)] [] := by
  intro f
  induction f with
  | zero =>
    intro h a0 x1 x2 x3 x4 r hf hr
    exact nomatch (show (none : Option _) = some _ from hf)
  | succ f ih =>
    intro h a0 x1 x2 x3 x4 r hf hr
    rw [X12_likes_3] at hf
    refine x_aload_n o dX12_likes_3 0 rfl rfl ?_
    refine x_iload_n o dX12_likes_4 3 rfl rfl ?_
    refine x_iload_n o dX12_likes_5 3 rfl rfl ?_
    refine x_imul o dX12_likes_6 ?_
    refine x_iload_n o dX12_likes_7 3 rfl rfl ?_
    refine x_iload_n o dX12_likes_8 1 rfl rfl ?_
    refine x_imul o dX12_likes_9 ?_
    refine x_iadd o dX12_likes_10 ?_
    refine x_iload o dX12_likes_11 4 rfl ?_
    refine x_iadd o dX12_likes_13 ?_
    obtain ⟨k_1, hf⟩ := gq_ex hf
    obtain ⟨c_2, ec_2, hf⟩ := ob_ex hf
    refine vRX12_245 [.int (((x3 * x3) + (x3 * x1)) + x4)] [] o (C_X12_octet o.1.2.2.2.2.2.2.1 o.2 F ec_2) (by decide) k_1 rfl rfl (Nat.le_of_ble_eq_true rfl) dX12_likes_14 ?_
    refine x_iload_n o dX12_likes_17 2 rfl rfl ?_
    refine x_icmp_eq o 30 dX12_likes_18 (by decide) (fun q_4 => ?_) (fun q_4 => ?_)
    · replace hf := (if_pos q_4).symm.trans hf
      refine x_iload o dX12_likes_30 4 rfl ?_
      cases hf
      exact hr _ _ dX12_likes_32
    · replace hf := (if_neg q_4).symm.trans hf
      refine x_iload o dX12_likes_21 4 rfl ?_
      refine x_iconst (v := 1) o dX12_likes_23 (by decide) ?_
      refine x_iadd o dX12_likes_24 ?_
      obtain ⟨x4_5, ex4_5, hf⟩ := bd_ex hf
      refine x_top ex4_5 ?_
      refine x_istore o dX12_likes_25 (by decide) [(4, .int x4_5), (0, .ref (ka k a0)), (1, .int x1), (2, .int x2), (3, .int x3)] rfl ?_
      refine x_goto o 3 dX12_likes_27 (by decide) ?_
      refine x_sub [1, 2, 3, 4, 0] [(0, .ref (ka k a0)), (1, .int x1), (2, .int x2), (3, .int x3), (4, .int x4_5)] rfl ?_
      exact ih hf hr
set_option maxRecDepth 100000 in
set_option maxHeartbeats 4000000 in
theorem S_X12_likes_0 {k : Kst} {d : Kdy} (o : Ok k d cX12_likes RX12 5 4) (F : Nat) {h : Hp} {a0 : Nat} {x1 : Int32} {x2 : Int32} {x3 : Int32} {r : Int32} (hf : X12_likes F a0 x1 x2 x3 h = some r) (hr : RI k d cX12_likes r h) : Wz k d h 0 [(0, .ref (ka k a0)), (1, .int x1), (2, .int x2), (3, .int x3)] [] := by
  unfold X12_likes at hf
  refine x_iconst (v := 0) o dX12_likes_0 (by decide) ?_
  refine x_istore o dX12_likes_1 (by decide) [(4, .int 0), (0, .ref (ka k a0)), (1, .int x1), (2, .int x2), (3, .int x3)] rfl ?_
  refine x_sub [1, 2, 3, 4, 0] [(0, .ref (ka k a0)), (1, .int x1), (2, .int x2), (3, .int x3), (4, .int 0)] rfl ?_
  exact S_X12_likes_3 o F _ hf hr
theorem C_X12_likes {k : Kst} (hj : Dj k) (hn : kn k = kdl.length) (F : Nat) {h : Hp} {a0 : Nat} {x1 : Int32} {x2 : Int32} {x3 : Int32} {r : Int32} (hf : X12_likes F a0 x1 x2 x3 h = some r) : MI k 4 yX12_likes cX12_likes 5 (some .int) [.ref (ka k a0), .int x1, .int x2, .int x3] h r h := mI hj hn (by decide +kernel) (Nat.le_of_ble_eq_true rfl) (fun d o hr => S_X12_likes_0 o F hf hr)
set_option maxRecDepth 100000 in
set_option maxHeartbeats 4000000 in
theorem S_X12_whoAsks_31 {k : Kst} {d : Kdy} (o : Ok k d cX12_whoAsks RX12 5 3) (F : Nat) {k2 : Nat → Int32 → Int32 → Hp → Option Int32} {k12 : Nat → Int32 → Int32 → Int32 → Int32 → Hp → Option Int32} (hk2 : ∀ {h : Hp} {a0 : Nat} {x1 : Int32} {x2 : Int32} {r : Int32}, k2 a0 x1 x2 h = some r → RI k d cX12_whoAsks r h → Wz k d h 2 [(0, .ref (ka k a0)), (1, .int x1), (2, .int x2)] []) (hk12 : ∀ {h : Hp} {a0 : Nat} {x1 : Int32} {x2 : Int32} {x3 : Int32} {x4 : Int32} {r : Int32}, k12 a0 x1 x2 x3 x4 h = some r → RI k d cX12_whoAsks r h → Wz k d h 12 [(0, .ref (ka k a0)), (1, .int x1), (2, .int x2), (3, .int x3), (4, .int x4)] []) {h : Hp} {a0 : Nat} {x1 : Int32} {x2 : Int32} {x3 : Int32} {x4 : Int32} {r : Int32} (hf : X12_whoAsks_31 F k2 k12 a0 x1 x2 x3 x4 h = some r) (hr : RI k d cX12_whoAsks r h) : Wz k d h 31 [(0, .ref (ka k a0)), (1, .int x1), (2, .int x2), (3, .int x3), (4, .int x4)] [] := by
  unfold X12_whoAsks_31 at hf
  obtain ⟨x4_1, ex4_1, hf⟩ := bd_ex hf
  refine x_iinc o dX12_whoAsks_31 (by decide) 4 rfl ex4_1.symm [(4, .int x4_1), (0, .ref (ka k a0)), (1, .int x1), (2, .int x2), (3, .int x3)] rfl ?_
  refine x_goto o 12 dX12_whoAsks_34 (by decide) ?_
  refine x_sub [1, 2, 3, 4, 0] [(0, .ref (ka k a0)), (1, .int x1), (2, .int x2), (3, .int x3), (4, .int x4_1)] rfl ?_
  exact hk12 hf hr
set_option maxRecDepth 100000 in
set_option maxHeartbeats 4000000 in
theorem S_X12_whoAsks_12 {k : Kst} {d : Kdy} (o : Ok k d cX12_whoAsks RX12 5 3) (F : Nat) {k2 : Nat → Int32 → Int32 → Hp → Option Int32} (hk2 : ∀ {h : Hp} {a0 : Nat} {x1 : Int32} {x2 : Int32} {r : Int32}, k2 a0 x1 x2 h = some r → RI k d cX12_whoAsks r h → Wz k d h 2 [(0, .ref (ka k a0)), (1, .int x1), (2, .int x2)] []) : ∀ (f : Nat) {h : Hp} {a0 : Nat} {x1 : Int32} {x2 : Int32} {x3 : Int32} {x4 : Int32} {r : Int32}, X12_whoAsks_12 F k2 f a0 x1 x2 x3 x4 h = some r → RI k d cX12_whoAsks r h → Wz k d h 12 [(0, .ref (ka k a0)), (1, .int x1), (2, .int x2), (3, .int x3), (4, .int x4)] [] := by
  intro f
  induction f with
  | zero =>
    intro h a0 x1 x2 x3 x4 r hf hr
    exact nomatch (show (none : Option _) = some _ from hf)
  | succ f ih =>
    intro h a0 x1 x2 x3 x4 r hf hr
    rw [X12_whoAsks_12] at hf
    refine x_iload o dX12_whoAsks_12 4 rfl ?_
    refine x_iload_n o dX12_whoAsks_14 1 rfl rfl ?_
    refine x_icmp_ge o 37 dX12_whoAsks_15 (by decide) (fun q_1 => ?_) (fun q_1 => ?_)
    · replace hf := (if_pos q_1).symm.trans hf
      refine x_iload_n o dX12_whoAsks_37 3 rfl rfl ?_
      refine x_if_ne o 43 dX12_whoAsks_38 (by decide) (fun q_2 => ?_) (fun q_2 => ?_)
      · replace hf := (if_neg q_2).symm.trans hf
        obtain ⟨x2_3, ex2_3, hf⟩ := bd_ex hf
        refine x_iinc o dX12_whoAsks_43 (by decide) 2 rfl ex2_3.symm [(2, .int x2_3), (0, .ref (ka k a0)), (1, .int x1), (3, .int x3), (4, .int x4)] rfl ?_
        refine x_goto o 2 dX12_whoAsks_46 (by decide) ?_
        refine x_sub [1, 2, 0] [(0, .ref (ka k a0)), (1, .int x1), (2, .int x2_3)] rfl ?_
        exact hk2 hf hr
      · replace hf := (if_pos q_2).symm.trans hf
        refine x_iload_n o dX12_whoAsks_41 2 rfl rfl ?_
        cases hf
        exact hr _ _ dX12_whoAsks_42
    · replace hf := (if_neg q_1).symm.trans hf
      refine x_aload_n o dX12_whoAsks_18 0 rfl rfl ?_
      obtain ⟨k_4, hf⟩ := gq_ex hf
      obtain ⟨j_5, ej_5, hf⟩ := ob_ex hf
      refine gRX12_89 o k_4 ej_5 dX12_whoAsks_19 ?_
      refine x_iload o dX12_whoAsks_22 4 rfl ?_
      obtain ⟨k_6, hf⟩ := gq_ex hf
      obtain ⟨b_7, hf⟩ := gq_ex hf
      refine x_iald o k_6 b_7 dX12_whoAsks_24 ?_
      refine x_iload_n o dX12_whoAsks_25 2 rfl rfl ?_
      refine x_icmp_ne o 31 dX12_whoAsks_26 (by decide) (fun q_8 => ?_) (fun q_8 => ?_)
      · replace hf := (if_neg q_8).symm.trans hf
        refine x_sub [0, 1, 2, 3, 4] [(0, .ref (ka k a0)), (1, .int x1), (2, .int x2), (3, .int x3), (4, .int x4)] rfl ?_
        exact S_X12_whoAsks_31 o F hk2 (fun q1 q2 => ih q1 q2) hf hr
      · replace hf := (if_pos q_8).symm.trans hf
        refine x_iconst (v := 1) o dX12_whoAsks_29 (by decide) ?_
        refine x_istore_n o dX12_whoAsks_30 (by decide) rfl [(3, .int 1), (0, .ref (ka k a0)), (1, .int x1), (2, .int x2), (4, .int x4)] rfl ?_
        refine x_sub [1, 2, 3, 0, 4] [(0, .ref (ka k a0)), (1, .int x1), (2, .int x2), (3, .int 1), (4, .int x4)] rfl ?_
        exact S_X12_whoAsks_31 o F hk2 (fun q1 q2 => ih q1 q2) hf hr
set_option maxRecDepth 100000 in
set_option maxHeartbeats 4000000 in
theorem S_X12_whoAsks_2 {k : Kst} {d : Kdy} (o : Ok k d cX12_whoAsks RX12 5 3) (F : Nat) : ∀ (f : Nat) {h : Hp} {a0 : Nat} {x1 : Int32} {x2 : Int32} {r : Int32}, X12_whoAsks_2 F f a0 x1 x2 h = some r → RI k d cX12_whoAsks r h → Wz k d h 2 [(0, .ref (ka k a0)), (1, .int x1), (2, .int x2)] [] := by
  intro f
  induction f with
  | zero =>
    intro h a0 x1 x2 r hf hr
    exact nomatch (show (none : Option _) = some _ from hf)
  | succ f ih =>
    intro h a0 x1 x2 r hf hr
    rw [X12_whoAsks_2] at hf
    refine x_iload_n o dX12_whoAsks_2 2 rfl rfl ?_
    refine x_iload_n o dX12_whoAsks_3 1 rfl rfl ?_
    refine x_icmp_ge o 49 dX12_whoAsks_4 (by decide) (fun q_1 => ?_) (fun q_1 => ?_)
    · replace hf := (if_pos q_1).symm.trans hf
      refine x_iconst (v := (-1)) o dX12_whoAsks_49 (by decide) ?_
      cases hf
      exact hr _ _ dX12_whoAsks_50
    · replace hf := (if_neg q_1).symm.trans hf
      refine x_iconst (v := 0) o dX12_whoAsks_7 (by decide) ?_
      refine x_istore_n o dX12_whoAsks_8 (by decide) rfl [(3, .int 0), (0, .ref (ka k a0)), (1, .int x1), (2, .int x2)] rfl ?_
      refine x_iconst (v := 0) o dX12_whoAsks_9 (by decide) ?_
      refine x_istore o dX12_whoAsks_10 (by decide) [(4, .int 0), (3, .int 0), (0, .ref (ka k a0)), (1, .int x1), (2, .int x2)] rfl ?_
      refine x_sub [2, 3, 4, 1, 0] [(0, .ref (ka k a0)), (1, .int x1), (2, .int x2), (3, .int 0), (4, .int 0)] rfl ?_
      exact S_X12_whoAsks_12 o F (fun q1 q2 => ih q1 q2) _ hf hr
set_option maxRecDepth 100000 in
set_option maxHeartbeats 4000000 in
theorem S_X12_whoAsks_0 {k : Kst} {d : Kdy} (o : Ok k d cX12_whoAsks RX12 5 3) (F : Nat) {h : Hp} {a0 : Nat} {x1 : Int32} {r : Int32} (hf : X12_whoAsks F a0 x1 h = some r) (hr : RI k d cX12_whoAsks r h) : Wz k d h 0 [(0, .ref (ka k a0)), (1, .int x1)] [] := by
  unfold X12_whoAsks at hf
  refine x_iconst (v := 0) o dX12_whoAsks_0 (by decide) ?_
  refine x_istore_n o dX12_whoAsks_1 (by decide) rfl [(2, .int 0), (0, .ref (ka k a0)), (1, .int x1)] rfl ?_
  refine x_sub [1, 2, 0] [(0, .ref (ka k a0)), (1, .int x1), (2, .int 0)] rfl ?_
  exact S_X12_whoAsks_2 o F _ hf hr
theorem C_X12_whoAsks {k : Kst} (hj : Dj k) (hn : kn k = kdl.length) (F : Nat) {h : Hp} {a0 : Nat} {x1 : Int32} {r : Int32} (hf : X12_whoAsks F a0 x1 h = some r) : MI k 3 yX12_whoAsks cX12_whoAsks 5 (some .int) [.ref (ka k a0), .int x1] h r h := mI hj hn (by decide +kernel) (Nat.le_of_ble_eq_true rfl) (fun d o hr => S_X12_whoAsks_0 o F hf hr)
set_option maxRecDepth 100000 in
set_option maxHeartbeats 4000000 in
theorem S_X12_wed_192 {k : Kst} {d : Kdy} (o : Ok k d cX12_wed RX12 5 5) (F : Nat) : ∀ (f : Nat) {h : Hp} {a0 : Nat} {x2 : Int32} {x4 : Int32} {r : Int32} {h1 : Hp}, X12_wed_192 F f a0 x2 x4 h = some (r, h1) → RI k d cX12_wed r h1 → Wz k d h 192 [(0, .ref (ka k a0)), (2, .int x2), (4, .int x4)] [] := by
  intro f
  induction f with
  | zero =>
    intro h a0 x2 x4 r h1 hf hr
    exact nomatch (show (none : Option _) = some _ from hf)
  | succ f ih =>
    intro h a0 x2 x4 r h1 hf hr
    rw [X12_wed_192] at hf
    refine x_aload_n o dX12_wed_192 0 rfl rfl ?_
    obtain ⟨k_1, hf⟩ := gq_ex hf
    obtain ⟨j_2, ej_2, hf⟩ := ob_ex hf
    refine gRX12_89 o k_1 ej_2 dX12_wed_193 ?_
    refine x_iload o dX12_wed_196 2 rfl ?_
    obtain ⟨k_3, hf⟩ := gq_ex hf
    obtain ⟨b_4, hf⟩ := gq_ex hf
    refine x_iald o k_3 b_4 dX12_wed_198 ?_
    refine x_iload_n o dX12_wed_199 1 rfl rfl ?_
    refine x_icmp_eq o 212 dX12_wed_200 (by decide) (fun q_5 => ?_) (fun q_5 => ?_)
    · replace hf := (if_pos q_5).symm.trans hf
      refine x_iload o dX12_wed_212 2 rfl ?_
      cases hf
      exact hr _ _ dX12_wed_214
    · replace hf := (if_neg q_5).symm.trans hf
      refine x_iload o dX12_wed_203 2 rfl ?_
      refine x_iconst (v := 1) o dX12_wed_205 (by decide) ?_
      refine x_iadd o dX12_wed_206 ?_
      obtain ⟨x4_6, ex4_6, hf⟩ := bd_ex hf
      refine x_top ex4_6 ?_
      refine x_istore o dX12_wed_207 (by decide) [(4, .int x4_6), (0, .ref (ka k a0)), (2, .int x2)] rfl ?_
      refine x_goto o 192 dX12_wed_209 (by decide) ?_
      refine x_sub [1, 2, 0] [(0, .ref (ka k a0)), (2, .int x2), (4, .int x4_6)] rfl ?_
      exact ih hf hr
set_option maxRecDepth 100000 in
set_option maxHeartbeats 4000000 in
theorem S_X12_wed_180 {k : Kst} {d : Kdy} (o : Ok k d cX12_wed RX12 5 5) (F : Nat) {k101 : Nat → Int32 → Int32 → Int32 → Hp → Option (Int32 × Hp)} (hk101 : ∀ {h : Hp} {a0 : Nat} {x1 : Int32} {x2 : Int32} {x3 : Int32} {r : Int32} {h1 : Hp}, k101 a0 x1 x2 x3 h = some (r, h1) → RI k d cX12_wed r h1 → Wz k d h 101 [(0, .ref (ka k a0)), (1, .int x1), (2, .int x2), (3, .int x3)] []) {h : Hp} {a0 : Nat} {x1 : Int32} {x2 : Int32} {r : Int32} {h1 : Hp} (hf : X12_wed_180 F k101 a0 x1 x2 h = some (r, h1)) (hr : RI k d cX12_wed r h1) : Wz k d h 180 [(0, .ref (ka k a0)), (1, .int x1), (2, .int x2)] [] := by
  unfold X12_wed_180 at hf
  refine x_aload_n o dX12_wed_180 0 rfl rfl ?_
  refine x_iload_n o dX12_wed_181 1 rfl rfl ?_
  obtain ⟨k_1, hf⟩ := gq_ex hf
  obtain ⟨c_2, ec_2, hf⟩ := ob_ex hf
  refine vRX12_374 [.int x1] [] o (C_X12_whoAsks o.1.2.2.2.2.2.2.1 o.2 F ec_2) (by decide) k_1 rfl rfl (Nat.le_of_ble_eq_true rfl) dX12_wed_182 ?_
  refine x_istore_n o dX12_wed_185 (by decide) rfl [(3, .int c_2), (0, .ref (ka k a0)), (1, .int x1), (2, .int x2)] rfl ?_
  refine x_goto o 101 dX12_wed_186 (by decide) ?_
  refine x_sub [1, 2, 3, 0] [(0, .ref (ka k a0)), (1, .int x1), (2, .int x2), (3, .int c_2)] rfl ?_
  exact hk101 hf hr
set_option maxRecDepth 100000 in
set_option maxHeartbeats 4000000 in
theorem S_X12_wed_172 {k : Kst} {d : Kdy} (o : Ok k d cX12_wed RX12 5 5) (F : Nat) {k101 : Nat → Int32 → Int32 → Int32 → Hp → Option (Int32 × Hp)} (hk101 : ∀ {h : Hp} {a0 : Nat} {x1 : Int32} {x2 : Int32} {x3 : Int32} {r : Int32} {h1 : Hp}, k101 a0 x1 x2 x3 h = some (r, h1) → RI k d cX12_wed r h1 → Wz k d h 101 [(0, .ref (ka k a0)), (1, .int x1), (2, .int x2), (3, .int x3)] []) {h : Hp} {a0 : Nat} {x1 : Int32} {x2 : Int32} {x3 : Int32} {x4 : Int32} {r : Int32} {h1 : Hp} (hf : X12_wed_172 F k101 a0 x1 x2 x3 x4 h = some (r, h1)) (hr : RI k d cX12_wed r h1) : Wz k d h 172 [(0, .ref (ka k a0)), (1, .int x1), (2, .int x2), (3, .int x3), (4, .int x4)] [] := by
  unfold X12_wed_172 at hf
  refine x_aload_n o dX12_wed_172 0 rfl rfl ?_
  obtain ⟨k_1, hf⟩ := gq_ex hf
  obtain ⟨j_2, ej_2, hf⟩ := ob_ex hf
  refine gRX12_89 o k_1 ej_2 dX12_wed_173 ?_
  refine x_iload o dX12_wed_176 4 rfl ?_
  refine x_iload_n o dX12_wed_178 3 rfl rfl ?_
  obtain ⟨k_3, hf⟩ := gq_ex hf
  obtain ⟨b_4, hf⟩ := gq_ex hf
  obtain ⟨h_5, eh_5, hf⟩ := bd_ex hf
  refine x_iast o k_3 b_4 dX12_wed_179 (x_h eh_5 ?_)
  refine x_sub [0, 1, 2] [(0, .ref (ka k a0)), (1, .int x1), (2, .int x2)] rfl ?_
  exact S_X12_wed_180 o F hk101 hf hr
set_option maxRecDepth 100000 in
set_option maxHeartbeats 4000000 in
theorem S_X12_wed_101 {k : Kst} {d : Kdy} (o : Ok k d cX12_wed RX12 5 5) (F : Nat) : ∀ (f : Nat) {h : Hp} {a0 : Nat} {x1 : Int32} {x2 : Int32} {x3 : Int32} {r : Int32} {h1 : Hp}, X12_wed_101 F f a0 x1 x2 x3 h = some (r, h1) → RI k d cX12_wed r h1 → Wz k d h 101 [(0, .ref (ka k a0)), (1, .int x1), (2, .int x2), (3, .int x3)] [] := by
  intro f
  induction f with
  | zero =>
    intro h a0 x1 x2 x3 r h1 hf hr
    exact nomatch (show (none : Option _) = some _ from hf)
  | succ f ih =>
    intro h a0 x1 x2 x3 r h1 hf hr
    rw [X12_wed_101] at hf
    refine x_iload_n o dX12_wed_101 3 rfl rfl ?_
    refine x_iconst (v := (-1)) o dX12_wed_102 (by decide) ?_
    refine x_icmp_eq o 189 dX12_wed_103 (by decide) (fun q_1 => ?_) (fun q_1 => ?_)
    · replace hf := (if_pos q_1).symm.trans hf
      refine x_iconst (v := 0) o dX12_wed_189 (by decide) ?_
      refine x_istore o dX12_wed_190 (by decide) [(4, .int 0), (0, .ref (ka k a0)), (1, .int x1), (2, .int x2), (3, .int x3)] rfl ?_
      refine x_sub [1, 3, 0] [(0, .ref (ka k a0)), (2, .int x2), (4, .int 0)] rfl ?_
      exact S_X12_wed_192 o F _ hf hr
    · replace hf := (if_neg q_1).symm.trans hf
      refine x_aload_n o dX12_wed_106 0 rfl rfl ?_
      refine x_iload_n o dX12_wed_107 1 rfl rfl ?_
      refine x_iload_n o dX12_wed_108 3 rfl rfl ?_
      refine x_imul o dX12_wed_109 ?_
      refine x_aload_n o dX12_wed_110 0 rfl rfl ?_
      obtain ⟨k_2, hf⟩ := gq_ex hf
      obtain ⟨j_3, ej_3, hf⟩ := ob_ex hf
      refine gRX12_92 o k_2 ej_3 dX12_wed_111 ?_
      refine x_iload_n o dX12_wed_114 3 rfl rfl ?_
      obtain ⟨k_4, hf⟩ := gq_ex hf
      obtain ⟨b_5, hf⟩ := gq_ex hf
      refine x_iald o k_4 b_5 dX12_wed_115 ?_
      refine x_iadd o dX12_wed_116 ?_
      obtain ⟨c_6, ec_6, hf⟩ := ob_ex hf
      refine vRX12_245 [.int ((x1 * x3) + (h.1 j_3 (ix x3)))] [] o (C_X12_octet o.1.2.2.2.2.2.2.1 o.2 F ec_6) (by decide) k_2 rfl rfl (Nat.le_of_ble_eq_true rfl) dX12_wed_117 ?_
      refine x_istore o dX12_wed_120 (by decide) [(4, .int c_6), (0, .ref (ka k a0)), (1, .int x1), (2, .int x2), (3, .int x3)] rfl ?_
      refine x_aload_n o dX12_wed_122 1 rfl rfl ?_
      refine gRX12_92 o k_2 ej_3 dX12_wed_123 ?_
      refine x_iload_n o dX12_wed_126 4 rfl rfl ?_
      refine x_aload_n o dX12_wed_127 1 rfl rfl ?_
      refine gRX12_92 o k_2 ej_3 dX12_wed_128 ?_
      refine x_iload_n o dX12_wed_131 4 rfl rfl ?_
      obtain ⟨b_8, hf⟩ := gq_ex hf
      refine x_iald o k_4 b_8 dX12_wed_132 ?_
      refine x_iconst (v := 1) o dX12_wed_133 (by decide) ?_
      refine x_iadd o dX12_wed_134 ?_
      obtain ⟨b_9, hf⟩ := gq_ex hf
      obtain ⟨h_10, eh_10, hf⟩ := bd_ex hf
      refine x_iast o k_4 b_9 dX12_wed_135 (x_h eh_10 ?_)
      refine x_aload_n o dX12_wed_136 1 rfl rfl ?_
      obtain ⟨j_11, ej_11, hf⟩ := ob_ex hf
      refine gRX12_89 o k_2 ej_11 dX12_wed_137 ?_
      refine x_iload o dX12_wed_140 0 rfl ?_
      obtain ⟨k_12, hf⟩ := gq_ex hf
      obtain ⟨b_13, hf⟩ := gq_ex hf
      refine x_iald o k_12 b_13 dX12_wed_142 ?_
      refine x_iconst (v := (-1)) o dX12_wed_143 (by decide) ?_
      refine x_icmp_eq o 172 dX12_wed_144 (by decide) (fun q_14 => ?_) (fun q_14 => ?_)
      · replace hf := (if_pos q_14).symm.trans hf
        refine x_sub [1, 2, 3, 4, 0] [(0, .ref (ka k a0)), (1, .int x1), (2, .int x2), (3, .int x3), (4, .int c_6)] rfl ?_
        exact S_X12_wed_172 o F (fun q1 q2 => ih q1 q2) hf hr
      · replace hf := (if_neg q_14).symm.trans hf
        refine x_aload_n o dX12_wed_147 1 rfl rfl ?_
        refine x_iload o dX12_wed_148 0 rfl ?_
        refine x_iload_n o dX12_wed_150 4 rfl rfl ?_
        refine x_iload_n o dX12_wed_151 2 rfl rfl ?_
        obtain ⟨c_15, ec_15, hf⟩ := ob_ex hf
        refine vRX12_377 [.int c_6, .int x3, .int x1] [] o (C_X12_likes o.1.2.2.2.2.2.2.1 o.2 F ec_15) (by decide) k_2 rfl rfl (Nat.le_of_ble_eq_true rfl) dX12_wed_152 ?_
        refine x_aload_n o dX12_wed_155 1 rfl rfl ?_
        refine x_iload o dX12_wed_156 0 rfl ?_
        refine x_aload_n o dX12_wed_158 1 rfl rfl ?_
        refine gRX12_89 o k_2 ej_11 dX12_wed_159 ?_
        refine x_iload o dX12_wed_162 0 rfl ?_
        obtain ⟨b_17, hf⟩ := gq_ex hf
        refine x_iald o k_12 b_17 dX12_wed_164 ?_
        refine x_iload_n o dX12_wed_165 2 rfl rfl ?_
        obtain ⟨c_18, ec_18, hf⟩ := ob_ex hf
        refine vRX12_377 [.int c_6, .int (h_10.1 j_11 (ix c_6)), .int x1] [.int c_15] o (C_X12_likes o.1.2.2.2.2.2.2.1 o.2 F ec_18) (by decide) k_2 rfl rfl (Nat.le_of_ble_eq_true rfl) dX12_wed_166 ?_
        refine x_icmp_ge o 180 dX12_wed_169 (by decide) (fun q_20 => ?_) (fun q_20 => ?_)
        · replace hf := (if_pos q_20).symm.trans hf
          refine x_sub [1, 2, 3] [(0, .ref (ka k a0)), (1, .int x1), (2, .int x2)] rfl ?_
          exact S_X12_wed_180 o F (fun q1 q2 => ih q1 q2) hf hr
        · replace hf := (if_neg q_20).symm.trans hf
          refine x_sub [1, 2, 3, 4, 0] [(0, .ref (ka k a0)), (1, .int x1), (2, .int x2), (3, .int x3), (4, .int c_6)] rfl ?_
          exact S_X12_wed_172 o F (fun q1 q2 => ih q1 q2) hf hr
set_option maxRecDepth 100000 in
set_option maxHeartbeats 4000000 in
theorem S_X12_wed_70 {k : Kst} {d : Kdy} (o : Ok k d cX12_wed RX12 5 5) (F : Nat) : ∀ (f : Nat) {h : Hp} {a0 : Nat} {x1 : Int32} {x2 : Int32} {x3 : Int32} {r : Int32} {h1 : Hp}, X12_wed_70 F f a0 x1 x2 x3 h = some (r, h1) → RI k d cX12_wed r h1 → Wz k d h 70 [(0, .ref (ka k a0)), (1, .int x1), (2, .int x2), (3, .int x3)] [] := by
  intro f
  induction f with
  | zero =>
    intro h a0 x1 x2 x3 r h1 hf hr
    exact nomatch (show (none : Option _) = some _ from hf)
  | succ f ih =>
    intro h a0 x1 x2 x3 r h1 hf hr
    rw [X12_wed_70] at hf
    refine x_iload_n o dX12_wed_70 3 rfl rfl ?_
    refine x_iload_n o dX12_wed_71 1 rfl rfl ?_
    refine x_icmp_ge o 95 dX12_wed_72 (by decide) (fun q_1 => ?_) (fun q_1 => ?_)
    · replace hf := (if_pos q_1).symm.trans hf
      refine x_aload_n o dX12_wed_95 0 rfl rfl ?_
      refine x_iload_n o dX12_wed_96 1 rfl rfl ?_
      obtain ⟨k_2, hf⟩ := gq_ex hf
      obtain ⟨c_3, ec_3, hf⟩ := ob_ex hf
      refine vRX12_374 [.int x1] [] o (C_X12_whoAsks o.1.2.2.2.2.2.2.1 o.2 F ec_3) (by decide) k_2 rfl rfl (Nat.le_of_ble_eq_true rfl) dX12_wed_97 ?_
      refine x_istore_n o dX12_wed_100 (by decide) rfl [(3, .int c_3), (0, .ref (ka k a0)), (1, .int x1), (2, .int x2)] rfl ?_
      refine x_sub [1, 2, 3, 0] [(0, .ref (ka k a0)), (1, .int x1), (2, .int x2), (3, .int c_3)] rfl ?_
      exact S_X12_wed_101 o F _ hf hr
    · replace hf := (if_neg q_1).symm.trans hf
      refine x_aload_n o dX12_wed_75 0 rfl rfl ?_
      obtain ⟨k_5, hf⟩ := gq_ex hf
      obtain ⟨j_6, ej_6, hf⟩ := ob_ex hf
      refine gRX12_89 o k_5 ej_6 dX12_wed_76 ?_
      refine x_iload_n o dX12_wed_79 3 rfl rfl ?_
      refine x_iconst (v := (-1)) o dX12_wed_80 (by decide) ?_
      obtain ⟨k_7, hf⟩ := gq_ex hf
      obtain ⟨b_8, hf⟩ := gq_ex hf
      obtain ⟨h_9, eh_9, hf⟩ := bd_ex hf
      refine x_iast o k_7 b_8 dX12_wed_81 (x_h eh_9 ?_)
      refine x_aload_n o dX12_wed_82 0 rfl rfl ?_
      obtain ⟨j_10, ej_10, hf⟩ := ob_ex hf
      refine gRX12_92 o k_5 ej_10 dX12_wed_83 ?_
      refine x_iload_n o dX12_wed_86 3 rfl rfl ?_
      refine x_iconst (v := 0) o dX12_wed_87 (by decide) ?_
      obtain ⟨k_11, hf⟩ := gq_ex hf
      obtain ⟨b_12, hf⟩ := gq_ex hf
      obtain ⟨h_13, eh_13, hf⟩ := bd_ex hf
      refine x_iast o k_11 b_12 dX12_wed_88 (x_h eh_13 ?_)
      obtain ⟨x3_14, ex3_14, hf⟩ := bd_ex hf
      refine x_iinc o dX12_wed_89 (by decide) 3 rfl ex3_14.symm [(3, .int x3_14), (0, .ref (ka k a0)), (1, .int x1), (2, .int x2)] rfl ?_
      refine x_goto o 70 dX12_wed_92 (by decide) ?_
      refine x_sub [1, 2, 3, 0] [(0, .ref (ka k a0)), (1, .int x1), (2, .int x2), (3, .int x3_14)] rfl ?_
      exact ih hf hr
set_option maxRecDepth 100000 in
set_option maxHeartbeats 4000000 in
theorem S_X12_wed_41 {k : Kst} {d : Kdy} (o : Ok k d cX12_wed RX12 5 5) (F : Nat) : ∀ (f : Nat) {h : Hp} {a0 : Nat} {x1 : Int32} {x2 : Int32} {x3 : Int32} {r : Int32} {h1 : Hp}, X12_wed_41 F f a0 x1 x2 x3 h = some (r, h1) → RI k d cX12_wed r h1 → Wz k d h 41 [(0, .ref (ka k a0)), (1, .int x1), (2, .int x2), (3, .int x3)] [] := by
  intro f
  induction f with
  | zero =>
    intro h a0 x1 x2 x3 r h1 hf hr
    exact nomatch (show (none : Option _) = some _ from hf)
  | succ f ih =>
    intro h a0 x1 x2 x3 r h1 hf hr
    rw [X12_wed_41] at hf
    refine x_iload_n o dX12_wed_41 3 rfl rfl ?_
    refine x_iconst (v := 2) o dX12_wed_42 (by decide) ?_
    refine x_iload_n o dX12_wed_43 1 rfl rfl ?_
    refine x_imul o dX12_wed_44 ?_
    refine x_icmp_ge o 68 dX12_wed_45 (by decide) (fun q_1 => ?_) (fun q_1 => ?_)
    · replace hf := (if_pos q_1).symm.trans hf
      refine x_iconst (v := 0) o dX12_wed_68 (by decide) ?_
      refine x_istore_n o dX12_wed_69 (by decide) rfl [(3, .int 0), (0, .ref (ka k a0)), (1, .int x1), (2, .int x2)] rfl ?_
      refine x_sub [1, 2, 3, 0] [(0, .ref (ka k a0)), (1, .int x1), (2, .int x2), (3, .int 0)] rfl ?_
      exact S_X12_wed_70 o F _ hf hr
    · replace hf := (if_neg q_1).symm.trans hf
      refine x_aload_n o dX12_wed_48 0 rfl rfl ?_
      refine x_iload_n o dX12_wed_49 1 rfl rfl ?_
      refine x_iload_n o dX12_wed_50 3 rfl rfl ?_
      refine x_imul o dX12_wed_51 ?_
      refine x_iload_n o dX12_wed_52 1 rfl rfl ?_
      obtain ⟨k_2, hf⟩ := gq_ex hf
      obtain ⟨c_3, ec_3, hf⟩ := ob_ex hf
      refine vRX12_371 [.int (x1 * x3), .int x1] [] o (C_X12_isOnceEach o.1.2.2.2.2.2.2.1 o.2 F ec_3) (by decide) k_2 rfl rfl (Nat.le_of_ble_eq_true rfl) dX12_wed_53 ?_
      refine x_if_ne o 62 dX12_wed_56 (by decide) (fun q_5 => ?_) (fun q_5 => ?_)
      · replace hf := (if_neg q_5).symm.trans hf
        obtain ⟨x3_6, ex3_6, hf⟩ := bd_ex hf
        refine x_iinc o dX12_wed_62 (by decide) 3 rfl ex3_6.symm [(3, .int x3_6), (0, .ref (ka k a0)), (1, .int x1), (2, .int x2)] rfl ?_
        refine x_goto o 41 dX12_wed_65 (by decide) ?_
        refine x_sub [1, 2, 3, 0] [(0, .ref (ka k a0)), (1, .int x1), (2, .int x2), (3, .int x3_6)] rfl ?_
        exact ih hf hr
      · replace hf := (if_pos q_5).symm.trans hf
        refine x_bipush (v := (-2)) o dX12_wed_59 (by decide) ?_
        cases hf
        exact hr _ _ dX12_wed_61
set_option maxRecDepth 100000 in
set_option maxHeartbeats 4000000 in
theorem S_X12_wed_0 {k : Kst} {d : Kdy} (o : Ok k d cX12_wed RX12 5 5) (F : Nat) {h : Hp} {a0 : Nat} {x1 : Int32} {x2 : Int32} {r : Int32} {h1 : Hp} (hf : X12_wed F a0 x1 x2 h = some (r, h1)) (hr : RI k d cX12_wed r h1) : Wz k d h 0 [(0, .ref (ka k a0)), (1, .int x1), (2, .int x2)] [] := by
  unfold X12_wed at hf
  refine x_iload_n o dX12_wed_0 1 rfl rfl ?_
  refine x_iconst (v := 1) o dX12_wed_1 (by decide) ?_
  refine x_iconst (v := 5) o dX12_wed_2 (by decide) ?_
  obtain ⟨c_1, ec_1, hf⟩ := ob_ex hf
  refine vRX12_113 [.int x1, .int 1, .int 5] [] o (C_X12_in o.1.2.2.2.2.2.2.1 o.2 F ec_1) (by decide) rfl rfl (Nat.le_of_ble_eq_true rfl) dX12_wed_3 ?_
  refine x_if_eq o 32 dX12_wed_6 (by decide) (fun q_3 => ?_) (fun q_3 => ?_)
  · replace hf := (if_pos q_3).symm.trans hf
    refine x_iconst (v := (-1)) o dX12_wed_32 (by decide) ?_
    cases hf
    exact hr _ _ dX12_wed_33
  · replace hf := (if_neg q_3).symm.trans hf
    refine x_iload_n o dX12_wed_9 2 rfl rfl ?_
    refine x_iconst (v := 0) o dX12_wed_10 (by decide) ?_
    refine x_iload_n o dX12_wed_11 1 rfl rfl ?_
    refine x_iconst (v := 1) o dX12_wed_12 (by decide) ?_
    refine x_isub o dX12_wed_13 ?_
    obtain ⟨c_4, ec_4, hf⟩ := ob_ex hf
    refine vRX12_113 [.int x2, .int 0, .int (x1 - 1)] [] o (C_X12_in o.1.2.2.2.2.2.2.1 o.2 F ec_4) (by decide) rfl rfl (Nat.le_of_ble_eq_true rfl) dX12_wed_14 ?_
    refine x_if_eq o 32 dX12_wed_17 (by decide) (fun q_6 => ?_) (fun q_6 => ?_)
    · replace hf := (if_pos q_6).symm.trans hf
      refine x_iconst (v := (-1)) o dX12_wed_32 (by decide) ?_
      cases hf
      exact hr _ _ dX12_wed_33
    · replace hf := (if_neg q_6).symm.trans hf
      refine x_iconst (v := 2) o dX12_wed_20 (by decide) ?_
      refine x_iload_n o dX12_wed_21 1 rfl rfl ?_
      refine x_imul o dX12_wed_22 ?_
      refine x_iload_n o dX12_wed_23 1 rfl rfl ?_
      refine x_imul o dX12_wed_24 ?_
      refine x_aload_n o dX12_wed_25 0 rfl rfl ?_
      obtain ⟨k_7, hf⟩ := gq_ex hf
      refine gRX12_128 o k_7 dX12_wed_26 ?_
      refine x_icmp_le o 34 dX12_wed_29 (by decide) (fun q_8 => ?_) (fun q_8 => ?_)
      · replace hf := (if_pos q_8).symm.trans hf
        refine x_aload_n o dX12_wed_34 0 rfl rfl ?_
        refine x_iconst (v := 0) o dX12_wed_35 (by decide) ?_
        obtain ⟨h_9, eh_9, hf⟩ := bd_ex hf
        refine pRX12_128 o k_7 eh_9 dX12_wed_36 ?_
        refine x_iconst (v := 0) o dX12_wed_39 (by decide) ?_
        refine x_istore_n o dX12_wed_40 (by decide) rfl [(3, .int 0), (0, .ref (ka k a0)), (1, .int x1), (2, .int x2)] rfl ?_
        refine x_sub [1, 2, 3, 0] [(0, .ref (ka k a0)), (1, .int x1), (2, .int x2), (3, .int 0)] rfl ?_
        exact S_X12_wed_41 o F _ hf hr
      · replace hf := (if_neg q_8).symm.trans hf
        refine x_iconst (v := (-1)) o dX12_wed_32 (by decide) ?_
        cases hf
        exact hr _ _ dX12_wed_33
theorem C_X12_wed {k : Kst} (hj : Dj k) (hn : kn k = kdl.length) (F : Nat) {h : Hp} {a0 : Nat} {x1 : Int32} {x2 : Int32} {r : Int32} {h1 : Hp} (hf : X12_wed F a0 x1 x2 h = some (r, h1)) : MI k 5 yX12_wed cX12_wed 5 (some .int) [.ref (ka k a0), .int x1, .int x2] h r h1 := mI hj hn (by decide +kernel) (Nat.le_of_ble_eq_true rfl) (fun d o hr => S_X12_wed_0 o F hf hr)
set_option maxRecDepth 100000 in
set_option maxHeartbeats 4000000 in
theorem S_X12_unfolds_5 {k : Kst} {d : Kdy} (o : Ok k d cX12_unfolds RX12 5 3) (F : Nat) : ∀ (f : Nat) {h : Hp} {a0 : Nat} {x2 : Int32} {x3 : Int32} {x4 : Int32} {h1 : Hp}, X12_unfolds_5 F f a0 x2 x3 x4 h = some h1 → RV k d cX12_unfolds h1 → Wz k d h 5 [(0, .ref (ka k a0)), (2, .int x2), (3, .int x3), (4, .int x4)] [] := by
  intro f
  induction f with
  | zero =>
    intro h a0 x2 x3 x4 h1 hf hr
    exact nomatch (show (none : Option _) = some _ from hf)
  | succ f ih =>
    intro h a0 x2 x3 x4 h1 hf hr
    rw [X12_unfolds_5] at hf
    refine x_iload o dX12_unfolds_5 3 rfl ?_
    refine x_iload_n o dX12_unfolds_7 1 rfl rfl ?_
    refine x_icmp_ge o 33 dX12_unfolds_8 (by decide) (fun q_1 => ?_) (fun q_1 => ?_)
    · replace hf := (if_pos q_1).symm.trans hf
      cases hf
      exact hr _ _ dX12_unfolds_33
    · replace hf := (if_neg q_1).symm.trans hf
      refine x_aload_n o dX12_unfolds_11 0 rfl rfl ?_
      obtain ⟨k_2, hf⟩ := gq_ex hf
      obtain ⟨j_3, ej_3, hf⟩ := ob_ex hf
      refine gRX12_102 o k_2 ej_3 dX12_unfolds_12 ?_
      refine x_iload o dX12_unfolds_15 3 rfl ?_
      refine x_iload_n o dX12_unfolds_17 2 rfl rfl ?_
      refine x_bipush (v := 6) o dX12_unfolds_18 (by decide) ?_
      refine x_irem o dX12_unfolds_20 (by decide) ?_
      obtain ⟨k_4, hf⟩ := gq_ex hf
      obtain ⟨b_5, hf⟩ := gq_ex hf
      obtain ⟨h_6, eh_6, hf⟩ := bd_ex hf
      refine x_iast o k_4 b_5 dX12_unfolds_21 (x_h eh_6 ?_)
      refine x_iload_n o dX12_unfolds_22 2 rfl rfl ?_
      refine x_bipush (v := 6) o dX12_unfolds_23 (by decide) ?_
      refine x_idiv o dX12_unfolds_25 (by decide) ?_
      obtain ⟨x3_7, ex3_7, hf⟩ := bd_ex hf
      refine x_top ex3_7 ?_
      refine x_istore_n o dX12_unfolds_26 (by decide) rfl [(3, .int x3_7), (0, .ref (ka k a0)), (2, .int x2), (4, .int x4)] rfl ?_
      obtain ⟨x4_8, ex4_8, hf⟩ := bd_ex hf
      refine x_iinc o dX12_unfolds_27 (by decide) 3 rfl ex4_8.symm [(4, .int x4_8), (3, .int x3_7), (0, .ref (ka k a0)), (2, .int x2)] rfl ?_
      refine x_goto o 5 dX12_unfolds_30 (by decide) ?_
      refine x_sub [2, 3, 1, 0] [(0, .ref (ka k a0)), (2, .int x2), (3, .int x3_7), (4, .int x4_8)] rfl ?_
      exact ih hf hr
set_option maxRecDepth 100000 in
set_option maxHeartbeats 4000000 in
theorem S_X12_unfolds_0 {k : Kst} {d : Kdy} (o : Ok k d cX12_unfolds RX12 5 3) (F : Nat) {h : Hp} {a0 : Nat} {x1 : Int32} {x2 : Int32} {h1 : Hp} (hf : X12_unfolds F a0 x1 x2 h = some h1) (hr : RV k d cX12_unfolds h1) : Wz k d h 0 [(0, .ref (ka k a0)), (1, .int x1), (2, .int x2)] [] := by
  unfold X12_unfolds at hf
  refine x_iload_n o dX12_unfolds_0 1 rfl rfl ?_
  refine x_istore_n o dX12_unfolds_1 (by decide) rfl [(3, .int x1), (0, .ref (ka k a0)), (1, .int x1), (2, .int x2)] rfl ?_
  refine x_iconst (v := 0) o dX12_unfolds_2 (by decide) ?_
  refine x_istore o dX12_unfolds_3 (by decide) [(4, .int 0), (3, .int x1), (0, .ref (ka k a0)), (1, .int x1), (2, .int x2)] rfl ?_
  refine x_sub [2, 4, 1, 0] [(0, .ref (ka k a0)), (2, .int x2), (3, .int x1), (4, .int 0)] rfl ?_
  exact S_X12_unfolds_5 o F _ hf hr
theorem C_X12_unfolds {k : Kst} (hj : Dj k) (hn : kn k = kdl.length) (F : Nat) {h : Hp} {a0 : Nat} {x1 : Int32} {x2 : Int32} {h1 : Hp} (hf : X12_unfolds F a0 x1 x2 h = some h1) : MV k 3 yX12_unfolds cX12_unfolds 5 [.ref (ka k a0), .int x1, .int x2] h h1 := mV hj hn (by decide +kernel) (Nat.le_of_ble_eq_true rfl) (fun d o hr => S_X12_unfolds_0 o F hf hr)
set_option maxRecDepth 100000 in
set_option maxHeartbeats 4000000 in
theorem S_X12_changedBy_62 {k : Kst} {d : Kdy} (o : Ok k d cX12_changedBy RX12 6 4) (F : Nat) {k15 : Nat → Int32 → Int32 → Int32 → Int32 → Hp → Option Int32} (hk15 : ∀ {h : Hp} {a0 : Nat} {x1 : Int32} {x2 : Int32} {x3 : Int32} {x4 : Int32} {r : Int32}, k15 a0 x1 x2 x3 x4 h = some r → RI k d cX12_changedBy r h → Wz k d h 15 [(0, .ref (ka k a0)), (1, .int x1), (2, .int x2), (3, .int x3), (4, .int x4)] []) {h : Hp} {a0 : Nat} {x1 : Int32} {x2 : Int32} {x3 : Int32} {x4 : Int32} {s0 : Int32} {r : Int32} (hf : X12_changedBy_62 F k15 a0 x1 x2 x3 x4 s0 h = some r) (hr : RI k d cX12_changedBy r h) : Wz k d h 62 [(0, .ref (ka k a0)), (1, .int x1), (2, .int x2), (3, .int x3), (4, .int x4)] [.int s0] := by
  unfold X12_changedBy_62 at hf
  refine x_istore o dX12_changedBy_62 (by decide) [(5, .int s0), (0, .ref (ka k a0)), (1, .int x1), (2, .int x2), (3, .int x3), (4, .int x4)] rfl ?_
  refine x_iload_n o dX12_changedBy_64 4 rfl rfl ?_
  refine x_aload_n o dX12_changedBy_65 1 rfl rfl ?_
  obtain ⟨k_1, hf⟩ := gq_ex hf
  obtain ⟨j_2, ej_2, hf⟩ := ob_ex hf
  refine gRX12_105 o k_1 ej_2 dX12_changedBy_66 ?_
  refine x_iload o dX12_changedBy_69 5 rfl ?_
  obtain ⟨k_3, hf⟩ := gq_ex hf
  obtain ⟨b_4, hf⟩ := gq_ex hf
  refine x_iald o k_3 b_4 dX12_changedBy_71 ?_
  refine x_aload_n o dX12_changedBy_72 1 rfl rfl ?_
  obtain ⟨j_5, ej_5, hf⟩ := ob_ex hf
  refine gRX12_102 o k_1 ej_5 dX12_changedBy_73 ?_
  refine x_iload o dX12_changedBy_76 0 rfl ?_
  obtain ⟨k_6, hf⟩ := gq_ex hf
  obtain ⟨b_7, hf⟩ := gq_ex hf
  refine x_iald o k_6 b_7 dX12_changedBy_78 ?_
  refine x_imul o dX12_changedBy_79 ?_
  refine x_iadd o dX12_changedBy_80 ?_
  obtain ⟨x3_8, ex3_8, hf⟩ := bd_ex hf
  refine x_top ex3_8 ?_
  refine x_istore_n o dX12_changedBy_81 (by decide) rfl [(3, .int x3_8), (5, .int s0), (0, .ref (ka k a0)), (1, .int x1), (2, .int x2), (4, .int x4)] rfl ?_
  obtain ⟨x4_9, ex4_9, hf⟩ := bd_ex hf
  refine x_iinc o dX12_changedBy_82 (by decide) 5 rfl ex4_9.symm [(4, .int x4_9), (3, .int x3_8), (5, .int s0), (0, .ref (ka k a0)), (1, .int x1), (2, .int x2)] rfl ?_
  refine x_goto o 15 dX12_changedBy_85 (by decide) ?_
  refine x_sub [3, 4, 5, 1, 0] [(0, .ref (ka k a0)), (1, .int x1), (2, .int x2), (3, .int x3_8), (4, .int x4_9)] rfl ?_
  exact hk15 hf hr
set_option maxRecDepth 100000 in
set_option maxHeartbeats 4000000 in
theorem S_X12_changedBy_60 {k : Kst} {d : Kdy} (o : Ok k d cX12_changedBy RX12 6 4) (F : Nat) {k15 : Nat → Int32 → Int32 → Int32 → Int32 → Hp → Option Int32} (hk15 : ∀ {h : Hp} {a0 : Nat} {x1 : Int32} {x2 : Int32} {x3 : Int32} {x4 : Int32} {r : Int32}, k15 a0 x1 x2 x3 x4 h = some r → RI k d cX12_changedBy r h → Wz k d h 15 [(0, .ref (ka k a0)), (1, .int x1), (2, .int x2), (3, .int x3), (4, .int x4)] []) {h : Hp} {a0 : Nat} {x1 : Int32} {x2 : Int32} {x3 : Int32} {x4 : Int32} {r : Int32} (hf : X12_changedBy_60 F k15 a0 x1 x2 x3 x4 h = some r) (hr : RI k d cX12_changedBy r h) : Wz k d h 60 [(0, .ref (ka k a0)), (1, .int x1), (2, .int x2), (3, .int x3), (4, .int x4)] [] := by
  unfold X12_changedBy_60 at hf
  refine x_iload o dX12_changedBy_60 4 rfl ?_
  refine x_sub [0, 1, 2, 3, 4] [(0, .ref (ka k a0)), (1, .int x1), (2, .int x2), (3, .int x3), (4, .int x4)] rfl ?_
  exact S_X12_changedBy_62 o F hk15 hf hr
set_option maxRecDepth 100000 in
set_option maxHeartbeats 4000000 in
theorem S_X12_changedBy_15 {k : Kst} {d : Kdy} (o : Ok k d cX12_changedBy RX12 6 4) (F : Nat) : ∀ (f : Nat) {h : Hp} {a0 : Nat} {x1 : Int32} {x2 : Int32} {x3 : Int32} {x4 : Int32} {r : Int32}, X12_changedBy_15 F f a0 x1 x2 x3 x4 h = some r → RI k d cX12_changedBy r h → Wz k d h 15 [(0, .ref (ka k a0)), (1, .int x1), (2, .int x2), (3, .int x3), (4, .int x4)] [] := by
  intro f
  induction f with
  | zero =>
    intro h a0 x1 x2 x3 x4 r hf hr
    exact nomatch (show (none : Option _) = some _ from hf)
  | succ f ih =>
    intro h a0 x1 x2 x3 x4 r hf hr
    rw [X12_changedBy_15] at hf
    refine x_iload o dX12_changedBy_15 4 rfl ?_
    refine x_iload_n o dX12_changedBy_17 1 rfl rfl ?_
    refine x_icmp_ge o 88 dX12_changedBy_18 (by decide) (fun q_1 => ?_) (fun q_1 => ?_)
    · replace hf := (if_pos q_1).symm.trans hf
      refine x_iload_n o dX12_changedBy_88 3 rfl rfl ?_
      cases hf
      exact hr _ _ dX12_changedBy_89
    · replace hf := (if_neg q_1).symm.trans hf
      refine x_iload_n o dX12_changedBy_21 2 rfl rfl ?_
      refine x_iload o dX12_changedBy_22 4 rfl ?_
      obtain ⟨c_2, ec_2, hf⟩ := ob_ex hf
      refine vRX12_354 [.int x2, .int x4] [] o (C_X12_has o.1.2.2.2.2.2.2.1 o.2 F ec_2) (by decide) rfl rfl (Nat.le_of_ble_eq_true rfl) dX12_changedBy_24 ?_
      refine x_if_eq o 37 dX12_changedBy_27 (by decide) (fun q_4 => ?_) (fun q_4 => ?_)
      · replace hf := (if_pos q_4).symm.trans hf
        refine x_iload o dX12_changedBy_37 4 rfl ?_
        refine x_if_le o 60 dX12_changedBy_39 (by decide) (fun q_5 => ?_) (fun q_5 => ?_)
        · replace hf := (if_pos q_5).symm.trans hf
          refine x_sub [0, 1, 2, 3, 4] [(0, .ref (ka k a0)), (1, .int x1), (2, .int x2), (3, .int x3), (4, .int x4)] rfl ?_
          exact S_X12_changedBy_60 o F (fun q1 q2 => ih q1 q2) hf hr
        · replace hf := (if_neg q_5).symm.trans hf
          refine x_iload_n o dX12_changedBy_42 2 rfl rfl ?_
          refine x_iload o dX12_changedBy_43 4 rfl ?_
          refine x_iconst (v := 1) o dX12_changedBy_45 (by decide) ?_
          refine x_isub o dX12_changedBy_46 ?_
          obtain ⟨c_6, ec_6, hf⟩ := ob_ex hf
          refine vRX12_354 [.int x2, .int (x4 - 1)] [] o (C_X12_has o.1.2.2.2.2.2.2.1 o.2 F ec_6) (by decide) rfl rfl (Nat.le_of_ble_eq_true rfl) dX12_changedBy_47 ?_
          refine x_if_eq o 60 dX12_changedBy_50 (by decide) (fun q_8 => ?_) (fun q_8 => ?_)
          · replace hf := (if_pos q_8).symm.trans hf
            refine x_sub [0, 1, 2, 3, 4] [(0, .ref (ka k a0)), (1, .int x1), (2, .int x2), (3, .int x3), (4, .int x4)] rfl ?_
            exact S_X12_changedBy_60 o F (fun q1 q2 => ih q1 q2) hf hr
          · replace hf := (if_neg q_8).symm.trans hf
            refine x_iload o dX12_changedBy_53 4 rfl ?_
            refine x_iconst (v := 1) o dX12_changedBy_55 (by decide) ?_
            refine x_isub o dX12_changedBy_56 ?_
            refine x_goto o 62 dX12_changedBy_57 (by decide) ?_
            refine x_sub [0, 1, 2, 3, 4] [(0, .ref (ka k a0)), (1, .int x1), (2, .int x2), (3, .int x3), (4, .int x4)] rfl ?_
            exact S_X12_changedBy_62 o F (fun q1 q2 => ih q1 q2) hf hr
      · replace hf := (if_neg q_4).symm.trans hf
        refine x_iload o dX12_changedBy_30 4 rfl ?_
        refine x_iconst (v := 1) o dX12_changedBy_32 (by decide) ?_
        refine x_iadd o dX12_changedBy_33 ?_
        refine x_goto o 62 dX12_changedBy_34 (by decide) ?_
        refine x_sub [0, 1, 2, 3, 4] [(0, .ref (ka k a0)), (1, .int x1), (2, .int x2), (3, .int x3), (4, .int x4)] rfl ?_
        exact S_X12_changedBy_62 o F (fun q1 q2 => ih q1 q2) hf hr
set_option maxRecDepth 100000 in
set_option maxHeartbeats 4000000 in
theorem S_X12_changedBy_0 {k : Kst} {d : Kdy} (o : Ok k d cX12_changedBy RX12 6 4) (F : Nat) {h : Hp} {a0 : Nat} {x1 : Int32} {x2 : Int32} {r : Int32} (hf : X12_changedBy F a0 x1 x2 h = some r) (hr : RI k d cX12_changedBy r h) : Wz k d h 0 [(0, .ref (ka k a0)), (1, .int x1), (2, .int x2)] [] := by
  unfold X12_changedBy at hf
  refine x_iload_n o dX12_changedBy_0 2 rfl rfl ?_
  refine x_iload_n o dX12_changedBy_1 2 rfl rfl ?_
  refine x_iconst (v := 1) o dX12_changedBy_2 (by decide) ?_
  refine x_ishr o dX12_changedBy_3 ?_
  refine x_iand o dX12_changedBy_4 ?_
  refine x_if_eq o 10 dX12_changedBy_5 (by decide) (fun q_1 => ?_) (fun q_1 => ?_)
  · replace hf := (if_pos q_1).symm.trans hf
    refine x_iconst (v := 0) o dX12_changedBy_10 (by decide) ?_
    refine x_istore_n o dX12_changedBy_11 (by decide) rfl [(3, .int 0), (0, .ref (ka k a0)), (1, .int x1), (2, .int x2)] rfl ?_
    refine x_iconst (v := 0) o dX12_changedBy_12 (by decide) ?_
    refine x_istore o dX12_changedBy_13 (by decide) [(4, .int 0), (3, .int 0), (0, .ref (ka k a0)), (1, .int x1), (2, .int x2)] rfl ?_
    refine x_sub [2, 3, 4, 1, 0] [(0, .ref (ka k a0)), (1, .int x1), (2, .int x2), (3, .int 0), (4, .int 0)] rfl ?_
    exact S_X12_changedBy_15 o F _ hf hr
  · replace hf := (if_neg q_1).symm.trans hf
    refine x_iconst (v := (-1)) o dX12_changedBy_8 (by decide) ?_
    cases hf
    exact hr _ _ dX12_changedBy_9
theorem C_X12_changedBy {k : Kst} (hj : Dj k) (hn : kn k = kdl.length) (F : Nat) {h : Hp} {a0 : Nat} {x1 : Int32} {x2 : Int32} {r : Int32} (hf : X12_changedBy F a0 x1 x2 h = some r) : MI k 4 yX12_changedBy cX12_changedBy 6 (some .int) [.ref (ka k a0), .int x1, .int x2] h r h := mI hj hn (by decide +kernel) (Nat.le_of_ble_eq_true rfl) (fun d o hr => S_X12_changedBy_0 o F hf hr)
set_option maxRecDepth 100000 in
set_option maxHeartbeats 4000000 in
theorem S_X12_changes_268 {k : Kst} {d : Kdy} (o : Ok k d cX12_changes RX12 8 5) (F : Nat) {k168 : Nat → Int32 → Int32 → Int32 → Int32 → Hp → Option (Int32 × Hp)} {k193 : Nat → Int32 → Int32 → Int32 → Int32 → Int32 → Hp → Option (Int32 × Hp)} (hk168 : ∀ {h : Hp} {a0 : Nat} {x1 : Int32} {x3 : Int32} {x4 : Int32} {x5 : Int32} {r : Int32} {h1 : Hp}, k168 a0 x1 x3 x4 x5 h = some (r, h1) → RI k d cX12_changes r h1 → Wz k d h 168 [(0, .ref (ka k a0)), (1, .int x1), (3, .int x3), (4, .int x4), (5, .int x5)] []) (hk193 : ∀ {h : Hp} {a0 : Nat} {x1 : Int32} {x3 : Int32} {x4 : Int32} {x5 : Int32} {x6 : Int32} {r : Int32} {h1 : Hp}, k193 a0 x1 x3 x4 x5 x6 h = some (r, h1) → RI k d cX12_changes r h1 → Wz k d h 193 [(0, .ref (ka k a0)), (1, .int x1), (3, .int x3), (4, .int x4), (5, .int x5), (6, .int x6)] []) {h : Hp} {a0 : Nat} {x1 : Int32} {x3 : Int32} {x4 : Int32} {x5 : Int32} {x6 : Int32} {r : Int32} {h1 : Hp} (hf : X12_changes_268 F k168 k193 a0 x1 x3 x4 x5 x6 h = some (r, h1)) (hr : RI k d cX12_changes r h1) : Wz k d h 268 [(0, .ref (ka k a0)), (1, .int x1), (3, .int x3), (4, .int x4), (5, .int x5), (6, .int x6)] [] := by
  unfold X12_changes_268 at hf
  obtain ⟨x6_1, ex6_1, hf⟩ := bd_ex hf
  refine x_iinc o dX12_changes_268 (by decide) 5 rfl ex6_1.symm [(6, .int x6_1), (0, .ref (ka k a0)), (1, .int x1), (3, .int x3), (4, .int x4), (5, .int x5)] rfl ?_
  refine x_goto o 193 dX12_changes_271 (by decide) ?_
  refine x_sub [1, 2, 3, 4, 5, 0] [(0, .ref (ka k a0)), (1, .int x1), (3, .int x3), (4, .int x4), (5, .int x5), (6, .int x6_1)] rfl ?_
  exact hk193 hf hr
set_option maxRecDepth 100000 in
set_option maxHeartbeats 4000000 in
theorem S_X12_changes_193 {k : Kst} {d : Kdy} (o : Ok k d cX12_changes RX12 8 5) (F : Nat) {k168 : Nat → Int32 → Int32 → Int32 → Int32 → Hp → Option (Int32 × Hp)} (hk168 : ∀ {h : Hp} {a0 : Nat} {x1 : Int32} {x3 : Int32} {x4 : Int32} {x5 : Int32} {r : Int32} {h1 : Hp}, k168 a0 x1 x3 x4 x5 h = some (r, h1) → RI k d cX12_changes r h1 → Wz k d h 168 [(0, .ref (ka k a0)), (1, .int x1), (3, .int x3), (4, .int x4), (5, .int x5)] []) : ∀ (f : Nat) {h : Hp} {a0 : Nat} {x1 : Int32} {x3 : Int32} {x4 : Int32} {x5 : Int32} {x6 : Int32} {r : Int32} {h1 : Hp}, X12_changes_193 F k168 f a0 x1 x3 x4 x5 x6 h = some (r, h1) → RI k d cX12_changes r h1 → Wz k d h 193 [(0, .ref (ka k a0)), (1, .int x1), (3, .int x3), (4, .int x4), (5, .int x5), (6, .int x6)] [] := by
  intro f
  induction f with
  | zero =>
    intro h a0 x1 x3 x4 x5 x6 r h1 hf hr
    exact nomatch (show (none : Option _) = some _ from hf)
  | succ f ih =>
    intro h a0 x1 x3 x4 x5 x6 r h1 hf hr
    rw [X12_changes_193] at hf
    refine x_iload o dX12_changes_193 5 rfl ?_
    refine x_iconst (v := 1) o dX12_changes_195 (by decide) ?_
    refine x_iload_n o dX12_changes_196 1 rfl rfl ?_
    refine x_iconst (v := 1) o dX12_changes_197 (by decide) ?_
    refine x_isub o dX12_changes_198 ?_
    refine x_ishl o dX12_changes_199 ?_
    refine x_icmp_ge o 274 dX12_changes_200 (by decide) (fun q_1 => ?_) (fun q_1 => ?_)
    · replace hf := (if_pos q_1).symm.trans hf
      obtain ⟨x5_2, ex5_2, hf⟩ := bd_ex hf
      refine x_iinc o dX12_changes_274 (by decide) 4 rfl ex5_2.symm [(5, .int x5_2), (0, .ref (ka k a0)), (1, .int x1), (3, .int x3), (4, .int x4), (6, .int x6)] rfl ?_
      refine x_goto o 168 dX12_changes_277 (by decide) ?_
      refine x_sub [1, 2, 3, 4, 0] [(0, .ref (ka k a0)), (1, .int x1), (3, .int x3), (4, .int x4), (5, .int x5_2)] rfl ?_
      exact hk168 hf hr
    · replace hf := (if_neg q_1).symm.trans hf
      refine x_aload_n o dX12_changes_203 0 rfl rfl ?_
      refine x_iload_n o dX12_changes_204 1 rfl rfl ?_
      refine x_iload o dX12_changes_205 5 rfl ?_
      obtain ⟨k_3, hf⟩ := gq_ex hf
      obtain ⟨c_4, ec_4, hf⟩ := ob_ex hf
      refine vRX12_383 [.int x1, .int x6] [] o (C_X12_changedBy o.1.2.2.2.2.2.2.1 o.2 F ec_4) (by decide) k_3 rfl rfl (Nat.le_of_ble_eq_true rfl) dX12_changes_207 ?_
      refine x_istore o dX12_changes_210 (by decide) [(7, .int c_4), (0, .ref (ka k a0)), (1, .int x1), (3, .int x3), (4, .int x4), (5, .int x5), (6, .int x6)] rfl ?_
      refine x_iload o dX12_changes_212 0 rfl ?_
      refine x_iconst (v := (-1)) o dX12_changes_214 (by decide) ?_
      refine x_icmp_eq o 268 dX12_changes_215 (by decide) (fun q_6 => ?_) (fun q_6 => ?_)
      · replace hf := (if_pos q_6).symm.trans hf
        refine x_sub [1, 2, 3, 4, 5, 6] [(0, .ref (ka k a0)), (1, .int x1), (3, .int x3), (4, .int x4), (5, .int x5), (6, .int x6)] rfl ?_
        exact S_X12_changes_268 o F hk168 (fun q1 q2 => ih q1 q2) hf hr
      · replace hf := (if_neg q_6).symm.trans hf
        refine x_aload_n o dX12_changes_218 1 rfl rfl ?_
        obtain ⟨j_7, ej_7, hf⟩ := ob_ex hf
        refine gRX12_96 o k_3 ej_7 dX12_changes_219 ?_
        refine x_iload o dX12_changes_222 0 rfl ?_
        obtain ⟨k_8, hf⟩ := gq_ex hf
        obtain ⟨b_9, hf⟩ := gq_ex hf
        refine x_iald o k_8 b_9 dX12_changes_224 ?_
        refine x_iconst (v := (-1)) o dX12_changes_225 (by decide) ?_
        refine x_icmp_eq o 232 dX12_changes_226 (by decide) (fun q_10 => ?_) (fun q_10 => ?_)
        · replace hf := (if_pos q_10).symm.trans hf
          refine x_aload_n o dX12_changes_232 1 rfl rfl ?_
          refine gRX12_96 o k_3 ej_7 dX12_changes_233 ?_
          refine x_iload o dX12_changes_236 0 rfl ?_
          refine x_aload_n o dX12_changes_238 1 rfl rfl ?_
          refine gRX12_96 o k_3 ej_7 dX12_changes_239 ?_
          refine x_aload_n o dX12_changes_242 1 rfl rfl ?_
          obtain ⟨j_11, ej_11, hf⟩ := ob_ex hf
          refine gRX12_99 o k_3 ej_11 dX12_changes_243 ?_
          refine x_iload o dX12_changes_246 5 rfl ?_
          obtain ⟨k_12, hf⟩ := gq_ex hf
          obtain ⟨b_13, hf⟩ := gq_ex hf
          refine x_iald o k_12 b_13 dX12_changes_248 ?_
          obtain ⟨b_14, hf⟩ := gq_ex hf
          refine x_iald o k_8 b_14 dX12_changes_249 ?_
          refine x_iconst (v := 1) o dX12_changes_250 (by decide) ?_
          refine x_iadd o dX12_changes_251 ?_
          obtain ⟨b_15, hf⟩ := gq_ex hf
          obtain ⟨h_16, eh_16, hf⟩ := bd_ex hf
          refine x_iast o k_8 b_15 dX12_changes_252 (x_h eh_16 ?_)
          refine x_aload_n o dX12_changes_253 1 rfl rfl ?_
          refine gRX12_99 o k_3 (p2 (up_2 eh_16) ej_11) dX12_changes_254 ?_
          refine x_iload o dX12_changes_257 4 rfl ?_
          refine x_iload o dX12_changes_259 0 rfl ?_
          obtain ⟨b_17, hf⟩ := gq_ex hf
          obtain ⟨h_18, eh_18, hf⟩ := bd_ex hf
          refine x_iast o k_12 b_17 dX12_changes_261 (x_h eh_18 ?_)
          refine x_iload o dX12_changes_262 4 rfl ?_
          refine x_iconst (v := 1) o dX12_changes_264 (by decide) ?_
          refine x_iadd o dX12_changes_265 ?_
          obtain ⟨x4_19, ex4_19, hf⟩ := bd_ex hf
          refine x_top ex4_19 ?_
          refine x_istore o dX12_changes_266 (by decide) [(4, .int x4_19), (7, .int c_4), (0, .ref (ka k a0)), (1, .int x1), (3, .int x3), (5, .int x5), (6, .int x6)] rfl ?_
          refine x_sub [2, 3, 4, 0, 5, 6] [(0, .ref (ka k a0)), (1, .int x1), (3, .int x3), (4, .int x4_19), (5, .int x5), (6, .int x6)] rfl ?_
          exact S_X12_changes_268 o F hk168 (fun q1 q2 => ih q1 q2) hf hr
        · replace hf := (if_neg q_10).symm.trans hf
          refine x_goto o 268 dX12_changes_229 (by decide) ?_
          refine x_sub [1, 2, 3, 4, 5, 6] [(0, .ref (ka k a0)), (1, .int x1), (3, .int x3), (4, .int x4), (5, .int x5), (6, .int x6)] rfl ?_
          exact S_X12_changes_268 o F hk168 (fun q1 q2 => ih q1 q2) hf hr
set_option maxRecDepth 100000 in
set_option maxHeartbeats 4000000 in
theorem S_X12_changes_168 {k : Kst} {d : Kdy} (o : Ok k d cX12_changes RX12 8 5) (F : Nat) : ∀ (f : Nat) {h : Hp} {a0 : Nat} {x1 : Int32} {x3 : Int32} {x4 : Int32} {x5 : Int32} {r : Int32} {h1 : Hp}, X12_changes_168 F f a0 x1 x3 x4 x5 h = some (r, h1) → RI k d cX12_changes r h1 → Wz k d h 168 [(0, .ref (ka k a0)), (1, .int x1), (3, .int x3), (4, .int x4), (5, .int x5)] [] := by
  intro f
  induction f with
  | zero =>
    intro h a0 x1 x3 x4 x5 r h1 hf hr
    exact nomatch (show (none : Option _) = some _ from hf)
  | succ f ih =>
    intro h a0 x1 x3 x4 x5 r h1 hf hr
    rw [X12_changes_168] at hf
    refine x_aload_n o dX12_changes_168 0 rfl rfl ?_
    obtain ⟨k_1, hf⟩ := gq_ex hf
    obtain ⟨j_2, ej_2, hf⟩ := ob_ex hf
    refine gRX12_96 o k_1 ej_2 dX12_changes_169 ?_
    refine x_iload_n o dX12_changes_172 2 rfl rfl ?_
    obtain ⟨k_3, hf⟩ := gq_ex hf
    obtain ⟨b_4, hf⟩ := gq_ex hf
    refine x_iald o k_3 b_4 dX12_changes_173 ?_
    refine x_iconst (v := (-1)) o dX12_changes_174 (by decide) ?_
    refine x_icmp_ne o 280 dX12_changes_175 (by decide) (fun q_5 => ?_) (fun q_5 => ?_)
    · replace hf := (if_neg q_5).symm.trans hf
      refine x_aload_n o dX12_changes_280 0 rfl rfl ?_
      refine gRX12_96 o k_1 ej_2 dX12_changes_281 ?_
      refine x_iload_n o dX12_changes_284 2 rfl rfl ?_
      obtain ⟨b_6, hf⟩ := gq_ex hf
      refine x_iald o k_3 b_6 dX12_changes_285 ?_
      cases hf
      exact hr _ _ dX12_changes_286
    · replace hf := (if_pos q_5).symm.trans hf
      refine x_aload_n o dX12_changes_178 0 rfl rfl ?_
      refine x_aload_n o dX12_changes_179 0 rfl rfl ?_
      obtain ⟨j_7, ej_7, hf⟩ := ob_ex hf
      refine gRX12_99 o k_1 ej_7 dX12_changes_180 ?_
      refine x_iload o dX12_changes_183 4 rfl ?_
      obtain ⟨k_8, hf⟩ := gq_ex hf
      obtain ⟨b_9, hf⟩ := gq_ex hf
      refine x_iald o k_8 b_9 dX12_changes_185 ?_
      refine x_iload_n o dX12_changes_186 1 rfl rfl ?_
      obtain ⟨h_11, eh_11, hf⟩ := ob_ex hf
      refine vRX12_380 [.int (h.1 j_7 (ix x5)), .int x1] [] o (C_X12_unfolds o.1.2.2.2.2.2.2.1 o.2 F eh_11) (by decide) k_1 rfl rfl (Nat.le_of_ble_eq_true rfl) dX12_changes_187 ?_
      refine x_iconst (v := 1) o dX12_changes_190 (by decide) ?_
      refine x_istore o dX12_changes_191 (by decide) [(6, .int 1), (0, .ref (ka k a0)), (1, .int x1), (3, .int x3), (4, .int x4), (5, .int x5)] rfl ?_
      refine x_sub [1, 2, 3, 4, 5, 0] [(0, .ref (ka k a0)), (1, .int x1), (3, .int x3), (4, .int x4), (5, .int x5), (6, .int 1)] rfl ?_
      exact S_X12_changes_193 o F (fun q1 q2 => ih q1 q2) _ hf hr
set_option maxRecDepth 100000 in
set_option maxHeartbeats 4000000 in
theorem S_X12_changes_127 {k : Kst} {d : Kdy} (o : Ok k d cX12_changes RX12 8 5) (F : Nat) : ∀ (f : Nat) {h : Hp} {a0 : Nat} {x1 : Int32} {x2 : Int32} {x3 : Int32} {x4 : Int32} {r : Int32} {h1 : Hp}, X12_changes_127 F f a0 x1 x2 x3 x4 h = some (r, h1) → RI k d cX12_changes r h1 → Wz k d h 127 [(0, .ref (ka k a0)), (1, .int x1), (2, .int x2), (3, .int x3), (4, .int x4)] [] := by
  intro f
  induction f with
  | zero =>
    intro h a0 x1 x2 x3 x4 r h1 hf hr
    exact nomatch (show (none : Option _) = some _ from hf)
  | succ f ih =>
    intro h a0 x1 x2 x3 x4 r h1 hf hr
    rw [X12_changes_127] at hf
    refine x_iload o dX12_changes_127 4 rfl ?_
    refine x_ldc (v := 46656) o dX12_changes_129 wRX12_95 ?_
    refine x_icmp_ge o 148 dX12_changes_131 (by decide) (fun q_1 => ?_) (fun q_1 => ?_)
    · replace hf := (if_pos q_1).symm.trans hf
      refine x_aload_n o dX12_changes_148 0 rfl rfl ?_
      obtain ⟨k_2, hf⟩ := gq_ex hf
      obtain ⟨j_3, ej_3, hf⟩ := ob_ex hf
      refine gRX12_96 o k_2 ej_3 dX12_changes_149 ?_
      refine x_iload_n o dX12_changes_152 2 rfl rfl ?_
      refine x_iconst (v := 0) o dX12_changes_153 (by decide) ?_
      obtain ⟨k_4, hf⟩ := gq_ex hf
      obtain ⟨b_5, hf⟩ := gq_ex hf
      obtain ⟨h_6, eh_6, hf⟩ := bd_ex hf
      refine x_iast o k_4 b_5 dX12_changes_154 (x_h eh_6 ?_)
      refine x_aload_n o dX12_changes_155 0 rfl rfl ?_
      obtain ⟨j_7, ej_7, hf⟩ := ob_ex hf
      refine gRX12_99 o k_2 ej_7 dX12_changes_156 ?_
      refine x_iconst (v := 0) o dX12_changes_159 (by decide) ?_
      refine x_iload_n o dX12_changes_160 2 rfl rfl ?_
      obtain ⟨k_8, hf⟩ := gq_ex hf
      obtain ⟨b_9, hf⟩ := gq_ex hf
      obtain ⟨h_10, eh_10, hf⟩ := bd_ex hf
      refine x_iast o k_8 b_9 dX12_changes_161 (x_h eh_10 ?_)
      refine x_iconst (v := 1) o dX12_changes_162 (by decide) ?_
      refine x_istore o dX12_changes_163 (by decide) [(4, .int 1), (0, .ref (ka k a0)), (1, .int x1), (2, .int x2), (3, .int x3)] rfl ?_
      refine x_iconst (v := 0) o dX12_changes_165 (by decide) ?_
      refine x_istore o dX12_changes_166 (by decide) [(5, .int 0), (4, .int 1), (0, .ref (ka k a0)), (1, .int x1), (2, .int x2), (3, .int x3)] rfl ?_
      refine x_sub [2, 3, 5, 1, 0] [(0, .ref (ka k a0)), (1, .int x1), (3, .int x3), (4, .int 1), (5, .int 0)] rfl ?_
      exact S_X12_changes_168 o F _ hf hr
    · replace hf := (if_neg q_1).symm.trans hf
      refine x_aload_n o dX12_changes_134 0 rfl rfl ?_
      obtain ⟨k_11, hf⟩ := gq_ex hf
      obtain ⟨j_12, ej_12, hf⟩ := ob_ex hf
      refine gRX12_96 o k_11 ej_12 dX12_changes_135 ?_
      refine x_iload o dX12_changes_138 4 rfl ?_
      refine x_iconst (v := (-1)) o dX12_changes_140 (by decide) ?_
      obtain ⟨k_13, hf⟩ := gq_ex hf
      obtain ⟨b_14, hf⟩ := gq_ex hf
      obtain ⟨h_15, eh_15, hf⟩ := bd_ex hf
      refine x_iast o k_13 b_14 dX12_changes_141 (x_h eh_15 ?_)
      obtain ⟨x4_16, ex4_16, hf⟩ := bd_ex hf
      refine x_iinc o dX12_changes_142 (by decide) 4 rfl ex4_16.symm [(4, .int x4_16), (0, .ref (ka k a0)), (1, .int x1), (2, .int x2), (3, .int x3)] rfl ?_
      refine x_goto o 127 dX12_changes_145 (by decide) ?_
      refine x_sub [1, 2, 3, 4, 0] [(0, .ref (ka k a0)), (1, .int x1), (2, .int x2), (3, .int x3), (4, .int x4_16)] rfl ?_
      exact ih hf hr
set_option maxRecDepth 100000 in
set_option maxHeartbeats 4000000 in
theorem S_X12_changes_82 {k : Kst} {d : Kdy} (o : Ok k d cX12_changes RX12 8 5) (F : Nat) : ∀ (f : Nat) {h : Hp} {a0 : Nat} {x1 : Int32} {x2 : Int32} {x3 : Int32} {x4 : Int32} {r : Int32} {h1 : Hp}, X12_changes_82 F f a0 x1 x2 x3 x4 h = some (r, h1) → RI k d cX12_changes r h1 → Wz k d h 82 [(0, .ref (ka k a0)), (1, .int x1), (2, .int x2), (3, .int x3), (4, .int x4)] [] := by
  intro f
  induction f with
  | zero =>
    intro h a0 x1 x2 x3 x4 r h1 hf hr
    exact nomatch (show (none : Option _) = some _ from hf)
  | succ f ih =>
    intro h a0 x1 x2 x3 x4 r h1 hf hr
    rw [X12_changes_82] at hf
    refine x_iload o dX12_changes_82 4 rfl ?_
    refine x_iload_n o dX12_changes_84 1 rfl rfl ?_
    refine x_icmp_ge o 124 dX12_changes_85 (by decide) (fun q_1 => ?_) (fun q_1 => ?_)
    · replace hf := (if_pos q_1).symm.trans hf
      refine x_iconst (v := 0) o dX12_changes_124 (by decide) ?_
      refine x_istore o dX12_changes_125 (by decide) [(4, .int 0), (0, .ref (ka k a0)), (1, .int x1), (2, .int x2), (3, .int x3)] rfl ?_
      refine x_sub [1, 2, 3, 4, 0] [(0, .ref (ka k a0)), (1, .int x1), (2, .int x2), (3, .int x3), (4, .int 0)] rfl ?_
      exact S_X12_changes_127 o F _ hf hr
    · replace hf := (if_neg q_1).symm.trans hf
      refine x_iload_n o dX12_changes_88 2 rfl rfl ?_
      refine x_aload_n o dX12_changes_89 0 rfl rfl ?_
      obtain ⟨k_2, hf⟩ := gq_ex hf
      obtain ⟨j_3, ej_3, hf⟩ := ob_ex hf
      refine gRX12_105 o k_2 ej_3 dX12_changes_90 ?_
      refine x_iload o dX12_changes_93 4 rfl ?_
      obtain ⟨k_4, hf⟩ := gq_ex hf
      obtain ⟨b_5, hf⟩ := gq_ex hf
      refine x_iald o k_4 b_5 dX12_changes_95 ?_
      refine x_iload o dX12_changes_96 4 rfl ?_
      refine x_imul o dX12_changes_98 ?_
      refine x_iadd o dX12_changes_99 ?_
      obtain ⟨x2_6, ex2_6, hf⟩ := bd_ex hf
      refine x_top ex2_6 ?_
      refine x_istore_n o dX12_changes_100 (by decide) rfl [(2, .int x2_6), (0, .ref (ka k a0)), (1, .int x1), (3, .int x3), (4, .int x4)] rfl ?_
      refine x_iload_n o dX12_changes_101 3 rfl rfl ?_
      refine x_aload_n o dX12_changes_102 1 rfl rfl ?_
      refine gRX12_105 o k_2 ej_3 dX12_changes_103 ?_
      refine x_iload o dX12_changes_106 4 rfl ?_
      obtain ⟨b_7, hf⟩ := gq_ex hf
      refine x_iald o k_4 b_7 dX12_changes_108 ?_
      refine x_aload_n o dX12_changes_109 1 rfl rfl ?_
      refine x_iload o dX12_changes_110 4 rfl ?_
      obtain ⟨c_8, ec_8, hf⟩ := ob_ex hf
      refine vRX12_245 [.int x4] [.int (h.1 j_3 (ix x4)), .int x3] o (C_X12_octet o.1.2.2.2.2.2.2.1 o.2 F ec_8) (by decide) k_2 rfl rfl (Nat.le_of_ble_eq_true rfl) dX12_changes_112 ?_
      refine x_imul o dX12_changes_115 ?_
      refine x_iadd o dX12_changes_116 ?_
      obtain ⟨x3_10, ex3_10, hf⟩ := bd_ex hf
      refine x_top ex3_10 ?_
      refine x_istore_n o dX12_changes_117 (by decide) rfl [(3, .int x3_10), (2, .int x2_6), (0, .ref (ka k a0)), (1, .int x1), (4, .int x4)] rfl ?_
      obtain ⟨x4_11, ex4_11, hf⟩ := bd_ex hf
      refine x_iinc o dX12_changes_118 (by decide) 4 rfl ex4_11.symm [(4, .int x4_11), (3, .int x3_10), (2, .int x2_6), (0, .ref (ka k a0)), (1, .int x1)] rfl ?_
      refine x_goto o 82 dX12_changes_121 (by decide) ?_
      refine x_sub [3, 4, 2, 1, 0] [(0, .ref (ka k a0)), (1, .int x1), (2, .int x2_6), (3, .int x3_10), (4, .int x4_11)] rfl ?_
      exact ih hf hr
set_option maxRecDepth 100000 in
set_option maxHeartbeats 4000000 in
theorem S_X12_changes_46 {k : Kst} {d : Kdy} (o : Ok k d cX12_changes RX12 8 5) (F : Nat) : ∀ (f : Nat) {h : Hp} {a0 : Nat} {x1 : Int32} {x2 : Int32} {r : Int32} {h1 : Hp}, X12_changes_46 F f a0 x1 x2 h = some (r, h1) → RI k d cX12_changes r h1 → Wz k d h 46 [(0, .ref (ka k a0)), (1, .int x1), (2, .int x2)] [] := by
  intro f
  induction f with
  | zero =>
    intro h a0 x1 x2 r h1 hf hr
    exact nomatch (show (none : Option _) = some _ from hf)
  | succ f ih =>
    intro h a0 x1 x2 r h1 hf hr
    rw [X12_changes_46] at hf
    refine x_iload_n o dX12_changes_46 2 rfl rfl ?_
    refine x_bipush (v := 6) o dX12_changes_47 (by decide) ?_
    refine x_icmp_ge o 75 dX12_changes_49 (by decide) (fun q_1 => ?_) (fun q_1 => ?_)
    · replace hf := (if_pos q_1).symm.trans hf
      refine x_iconst (v := 0) o dX12_changes_75 (by decide) ?_
      refine x_istore_n o dX12_changes_76 (by decide) rfl [(2, .int 0), (0, .ref (ka k a0)), (1, .int x1)] rfl ?_
      refine x_iconst (v := 0) o dX12_changes_77 (by decide) ?_
      refine x_istore_n o dX12_changes_78 (by decide) rfl [(3, .int 0), (2, .int 0), (0, .ref (ka k a0)), (1, .int x1)] rfl ?_
      refine x_iconst (v := 0) o dX12_changes_79 (by decide) ?_
      refine x_istore o dX12_changes_80 (by decide) [(4, .int 0), (3, .int 0), (2, .int 0), (0, .ref (ka k a0)), (1, .int x1)] rfl ?_
      refine x_sub [3, 4, 2, 1, 0] [(0, .ref (ka k a0)), (1, .int x1), (2, .int 0), (3, .int 0), (4, .int 0)] rfl ?_
      exact S_X12_changes_82 o F _ hf hr
    · replace hf := (if_neg q_1).symm.trans hf
      refine x_aload_n o dX12_changes_52 0 rfl rfl ?_
      obtain ⟨k_2, hf⟩ := gq_ex hf
      obtain ⟨j_3, ej_3, hf⟩ := ob_ex hf
      refine gRX12_105 o k_2 ej_3 dX12_changes_53 ?_
      refine x_iload_n o dX12_changes_56 2 rfl rfl ?_
      refine x_iconst (v := 1) o dX12_changes_57 (by decide) ?_
      refine x_iadd o dX12_changes_58 ?_
      refine x_bipush (v := 6) o dX12_changes_59 (by decide) ?_
      refine x_aload_n o dX12_changes_61 0 rfl rfl ?_
      refine gRX12_105 o k_2 ej_3 dX12_changes_62 ?_
      refine x_iload_n o dX12_changes_65 2 rfl rfl ?_
      obtain ⟨k_4, hf⟩ := gq_ex hf
      obtain ⟨b_5, hf⟩ := gq_ex hf
      refine x_iald o k_4 b_5 dX12_changes_66 ?_
      refine x_imul o dX12_changes_67 ?_
      obtain ⟨b_6, hf⟩ := gq_ex hf
      obtain ⟨h_7, eh_7, hf⟩ := bd_ex hf
      refine x_iast o k_4 b_6 dX12_changes_68 (x_h eh_7 ?_)
      obtain ⟨x2_8, ex2_8, hf⟩ := bd_ex hf
      refine x_iinc o dX12_changes_69 (by decide) 2 rfl ex2_8.symm [(2, .int x2_8), (0, .ref (ka k a0)), (1, .int x1)] rfl ?_
      refine x_goto o 46 dX12_changes_72 (by decide) ?_
      refine x_sub [1, 2, 0] [(0, .ref (ka k a0)), (1, .int x1), (2, .int x2_8)] rfl ?_
      exact ih hf hr
set_option maxRecDepth 100000 in
set_option maxHeartbeats 4000000 in
theorem S_X12_changes_0 {k : Kst} {d : Kdy} (o : Ok k d cX12_changes RX12 8 5) (F : Nat) {h : Hp} {a0 : Nat} {x1 : Int32} {r : Int32} {h1 : Hp} (hf : X12_changes F a0 x1 h = some (r, h1)) (hr : RI k d cX12_changes r h1) : Wz k d h 0 [(0, .ref (ka k a0)), (1, .int x1)] [] := by
  unfold X12_changes at hf
  refine x_iload_n o dX12_changes_0 1 rfl rfl ?_
  refine x_iconst (v := 2) o dX12_changes_1 (by decide) ?_
  refine x_bipush (v := 6) o dX12_changes_2 (by decide) ?_
  obtain ⟨c_1, ec_1, hf⟩ := ob_ex hf
  refine vRX12_113 [.int x1, .int 2, .int 6] [] o (C_X12_in o.1.2.2.2.2.2.2.1 o.2 F ec_1) (by decide) rfl rfl (Nat.le_of_ble_eq_true rfl) dX12_changes_4 ?_
  refine x_if_eq o 18 dX12_changes_7 (by decide) (fun q_3 => ?_) (fun q_3 => ?_)
  · replace hf := (if_pos q_3).symm.trans hf
    refine x_iconst (v := (-1)) o dX12_changes_18 (by decide) ?_
    cases hf
    exact hr _ _ dX12_changes_19
  · replace hf := (if_neg q_3).symm.trans hf
    refine x_iload_n o dX12_changes_10 1 rfl rfl ?_
    refine x_aload_n o dX12_changes_11 0 rfl rfl ?_
    obtain ⟨k_4, hf⟩ := gq_ex hf
    refine gRX12_128 o k_4 dX12_changes_12 ?_
    refine x_icmp_le o 20 dX12_changes_15 (by decide) (fun q_5 => ?_) (fun q_5 => ?_)
    · replace hf := (if_pos q_5).symm.trans hf
      refine x_aload_n o dX12_changes_20 0 rfl rfl ?_
      refine x_iconst (v := 0) o dX12_changes_21 (by decide) ?_
      obtain ⟨h_6, eh_6, hf⟩ := bd_ex hf
      refine pRX12_128 o k_4 eh_6 dX12_changes_22 ?_
      refine x_aload_n o dX12_changes_25 0 rfl rfl ?_
      refine x_iconst (v := 0) o dX12_changes_26 (by decide) ?_
      refine x_iload_n o dX12_changes_27 1 rfl rfl ?_
      obtain ⟨c_7, ec_7, hf⟩ := ob_ex hf
      refine vRX12_371 [.int 0, .int x1] [] o (C_X12_isOnceEach o.1.2.2.2.2.2.2.1 o.2 F ec_7) (by decide) k_4 rfl rfl (Nat.le_of_ble_eq_true rfl) dX12_changes_28 ?_
      refine x_if_ne o 37 dX12_changes_31 (by decide) (fun q_9 => ?_) (fun q_9 => ?_)
      · replace hf := (if_neg q_9).symm.trans hf
        refine x_aload_n o dX12_changes_37 0 rfl rfl ?_
        obtain ⟨j_10, ej_10, hf⟩ := ob_ex hf
        refine gRX12_105 o k_4 ej_10 dX12_changes_38 ?_
        refine x_iconst (v := 0) o dX12_changes_41 (by decide) ?_
        refine x_iconst (v := 1) o dX12_changes_42 (by decide) ?_
        obtain ⟨k_11, hf⟩ := gq_ex hf
        obtain ⟨b_12, hf⟩ := gq_ex hf
        obtain ⟨h_13, eh_13, hf⟩ := bd_ex hf
        refine x_iast o k_11 b_12 dX12_changes_43 (x_h eh_13 ?_)
        refine x_iconst (v := 0) o dX12_changes_44 (by decide) ?_
        refine x_istore_n o dX12_changes_45 (by decide) rfl [(2, .int 0), (0, .ref (ka k a0)), (1, .int x1)] rfl ?_
        refine x_sub [1, 2, 0] [(0, .ref (ka k a0)), (1, .int x1), (2, .int 0)] rfl ?_
        exact S_X12_changes_46 o F _ hf hr
      · replace hf := (if_pos q_9).symm.trans hf
        refine x_bipush (v := (-2)) o dX12_changes_34 (by decide) ?_
        cases hf
        exact hr _ _ dX12_changes_36
    · replace hf := (if_neg q_5).symm.trans hf
      refine x_iconst (v := (-1)) o dX12_changes_18 (by decide) ?_
      cases hf
      exact hr _ _ dX12_changes_19
theorem C_X12_changes {k : Kst} (hj : Dj k) (hn : kn k = kdl.length) (F : Nat) {h : Hp} {a0 : Nat} {x1 : Int32} {r : Int32} {h1 : Hp} (hf : X12_changes F a0 x1 h = some (r, h1)) : MI k 5 yX12_changes cX12_changes 8 (some .int) [.ref (ka k a0), .int x1] h r h1 := mI hj hn (by decide +kernel) (Nat.le_of_ble_eq_true rfl) (fun d o hr => S_X12_changes_0 o F hf hr)
