set_option maxRecDepth 100000 in
set_option maxHeartbeats 4000000 in
theorem S_X12_readsRule_122 {k : Kst} {d : Kdy} (o : Ok k d cX12_readsRule RX12 2 10) (F : Nat) {h : Hp} {a0 : Nat} {r : Int32} {h1 : Hp} (hf : X12_readsRule_122 F a0 h = some (r, h1)) (hr : RZ k d cX12_readsRule r h1) : Wz k d h 122 [(0, .ref (ka k a0))] [] := by
  unfold X12_readsRule_122 at hf
  refine x_aload_n o dX12_readsRule_122 0 rfl rfl ?_
  obtain ⟨k_1, hf⟩ := gq_ex hf
  obtain ⟨j_2, ej_2, hf⟩ := ob_ex hf
  refine gRX12_41 o k_1 ej_2 dX12_readsRule_123 ?_
  refine x_aload_n o dX12_readsRule_126 0 rfl rfl ?_
  refine gRX12_214 o k_1 dX12_readsRule_127 ?_
  refine x_aload_n o dX12_readsRule_130 0 rfl rfl ?_
  refine gRX12_159 o k_1 dX12_readsRule_131 ?_
  obtain ⟨k_3, hf⟩ := gq_ex hf
  obtain ⟨b_4, hf⟩ := gq_ex hf
  obtain ⟨h_5, eh_5, hf⟩ := bd_ex hf
  refine x_iast o k_3 b_4 dX12_readsRule_134 (x_h eh_5 ?_)
  refine x_aload_n o dX12_readsRule_135 0 rfl rfl ?_
  obtain ⟨c_6, h_7, ec_6, hf⟩ := bq_ex hf
  refine vRX12_217 [] [] o (C_X12_readsCondition o.1.2.2.2.2.2.2.1 o.2 F ec_6) (by decide) k_1 rfl rfl (Nat.le_of_ble_eq_true rfl) dX12_readsRule_136 ?_
  refine x_if_ne o 144 dX12_readsRule_139 (by decide) (fun q_8 => ?_) (fun q_8 => ?_)
  · replace hf := (if_neg q_8).symm.trans hf
    refine x_aload_n o dX12_readsRule_144 0 rfl rfl ?_
    obtain ⟨j_9, ej_9, hf⟩ := ob_ex hf
    refine gRX12_44 o k_1 ej_9 dX12_readsRule_145 ?_
    refine x_aload_n o dX12_readsRule_148 0 rfl rfl ?_
    refine gRX12_214 o k_1 dX12_readsRule_149 ?_
    refine x_aload_n o dX12_readsRule_152 0 rfl rfl ?_
    refine gRX12_159 o k_1 dX12_readsRule_153 ?_
    obtain ⟨k_10, hf⟩ := gq_ex hf
    obtain ⟨b_11, hf⟩ := gq_ex hf
    obtain ⟨h_12, eh_12, hf⟩ := bd_ex hf
    refine x_iast o k_10 b_11 dX12_readsRule_156 (x_h eh_12 ?_)
    refine x_aload_n o dX12_readsRule_157 0 rfl rfl ?_
    refine x_aload_n o dX12_readsRule_158 0 rfl rfl ?_
    refine gRX12_214 o k_1 dX12_readsRule_159 ?_
    refine x_iconst (v := 1) o dX12_readsRule_162 (by decide) ?_
    refine x_iadd o dX12_readsRule_163 ?_
    obtain ⟨h_13, eh_13, hf⟩ := bd_ex hf
    refine pRX12_214 o k_1 eh_13 dX12_readsRule_164 ?_
    refine x_iconst (v := 1) o dX12_readsRule_167 (by decide) ?_
    cases hf
    exact hr (Or.inr rfl) _ _ dX12_readsRule_168
  · replace hf := (if_pos q_8).symm.trans hf
    refine x_iconst (v := 0) o dX12_readsRule_142 (by decide) ?_
    cases hf
    exact hr (Or.inl rfl) _ _ dX12_readsRule_143
set_option maxRecDepth 100000 in
set_option maxHeartbeats 4000000 in
theorem S_X12_readsRule_45 {k : Kst} {d : Kdy} (o : Ok k d cX12_readsRule RX12 2 10) (F : Nat) {h : Hp} {a0 : Nat} {x1 : Int32} {r : Int32} {h1 : Hp} (hf : X12_readsRule_45 F a0 x1 h = some (r, h1)) (hr : RZ k d cX12_readsRule r h1) : Wz k d h 45 [(0, .ref (ka k a0)), (1, .int x1)] [] := by
  unfold X12_readsRule_45 at hf
  refine x_aload_n o dX12_readsRule_45 0 rfl rfl ?_
  obtain ⟨k_1, hf⟩ := gq_ex hf
  refine gRX12_214 o k_1 dX12_readsRule_46 ?_
  refine x_bipush (v := 16) o dX12_readsRule_49 (by decide) ?_
  refine x_icmp_ne o 64 dX12_readsRule_51 (by decide) (fun q_2 => ?_) (fun q_2 => ?_)
  · replace hf := (if_neg q_2).symm.trans hf
    refine x_aload_n o dX12_readsRule_64 0 rfl rfl ?_
    obtain ⟨j_3, ej_3, hf⟩ := ob_ex hf
    refine gRX12_35 o k_1 ej_3 dX12_readsRule_65 ?_
    refine x_aload_n o dX12_readsRule_68 0 rfl rfl ?_
    refine gRX12_214 o k_1 dX12_readsRule_69 ?_
    refine x_iload_n o dX12_readsRule_72 1 rfl rfl ?_
    obtain ⟨k_4, hf⟩ := gq_ex hf
    obtain ⟨b_5, hf⟩ := gq_ex hf
    obtain ⟨h_6, eh_6, hf⟩ := bd_ex hf
    refine x_iast o k_4 b_5 dX12_readsRule_73 (x_h eh_6 ?_)
    refine x_aload_n o dX12_readsRule_74 0 rfl rfl ?_
    refine x_aload_n o dX12_readsRule_75 0 rfl rfl ?_
    refine gRX12_135 o k_1 dX12_readsRule_76 ?_
    refine x_iconst (v := 1) o dX12_readsRule_79 (by decide) ?_
    refine x_iadd o dX12_readsRule_80 ?_
    obtain ⟨h_7, eh_7, hf⟩ := bd_ex hf
    refine pRX12_135 o k_1 eh_7 dX12_readsRule_81 ?_
    refine x_aload_n o dX12_readsRule_84 0 rfl rfl ?_
    obtain ⟨j_8, ej_8, hf⟩ := ob_ex hf
    refine gRX12_38 o k_1 ej_8 dX12_readsRule_85 ?_
    refine x_aload_n o dX12_readsRule_88 0 rfl rfl ?_
    refine gRX12_214 o k_1 dX12_readsRule_89 ?_
    refine x_aload_n o dX12_readsRule_92 0 rfl rfl ?_
    refine gRX12_159 o k_1 dX12_readsRule_93 ?_
    obtain ⟨k_9, hf⟩ := gq_ex hf
    obtain ⟨b_10, hf⟩ := gq_ex hf
    obtain ⟨h_11, eh_11, hf⟩ := bd_ex hf
    refine x_iast o k_9 b_10 dX12_readsRule_96 (x_h eh_11 ?_)
    refine x_aload_n o dX12_readsRule_97 0 rfl rfl ?_
    refine x_iconst (v := 0) o dX12_readsRule_98 (by decide) ?_
    obtain ⟨h_12, eh_12, hf⟩ := bd_ex hf
    refine pRX12_163 o k_1 eh_12 dX12_readsRule_99 ?_
    refine x_aload_n o dX12_readsRule_102 0 rfl rfl ?_
    refine x_iconst (v := 0) o dX12_readsRule_103 (by decide) ?_
    obtain ⟨h_13, eh_13, hf⟩ := bd_ex hf
    refine pRX12_166 o k_1 eh_13 dX12_readsRule_104 ?_
    refine x_iload_n o dX12_readsRule_107 1 rfl rfl ?_
    refine x_bipush (v := 120) o dX12_readsRule_108 (by decide) ?_
    refine x_icmp_eq o 122 dX12_readsRule_110 (by decide) (fun q_14 => ?_) (fun q_14 => ?_)
    · replace hf := (if_pos q_14).symm.trans hf
      refine x_sub [0] [(0, .ref (ka k a0))] rfl ?_
      exact S_X12_readsRule_122 o F hf hr
    · replace hf := (if_neg q_14).symm.trans hf
      refine x_aload_n o dX12_readsRule_113 0 rfl rfl ?_
      obtain ⟨c_15, h_16, ec_15, hf⟩ := bq_ex hf
      refine vRX12_199 [] [] o (C_X12_readsSum o.1.2.2.2.2.2.2.1 o.2 F ec_15) (by decide) k_1 rfl rfl (Nat.le_of_ble_eq_true rfl) dX12_readsRule_114 ?_
      refine x_if_ne o 122 dX12_readsRule_117 (by decide) (fun q_17 => ?_) (fun q_17 => ?_)
      · replace hf := (if_neg q_17).symm.trans hf
        refine x_sub [0] [(0, .ref (ka k a0))] rfl ?_
        exact S_X12_readsRule_122 o F hf hr
      · replace hf := (if_pos q_17).symm.trans hf
        refine x_iconst (v := 0) o dX12_readsRule_120 (by decide) ?_
        cases hf
        exact hr (Or.inl rfl) _ _ dX12_readsRule_121
  · replace hf := (if_pos q_2).symm.trans hf
    refine x_aload_n o dX12_readsRule_54 0 rfl rfl ?_
    refine x_iconst (v := 4) o dX12_readsRule_55 (by decide) ?_
    refine x_aload_n o dX12_readsRule_56 0 rfl rfl ?_
    refine gRX12_135 o k_1 dX12_readsRule_57 ?_
    obtain ⟨c_18, h_19, ec_18, hf⟩ := bq_ex hf
    refine vRX12_148 [.int 4, .int (h.1 a0 8)] [] o (C_X12_wrongAt o.1.2.2.2.2.2.2.1 o.2 F ec_18) (by decide) k_1 rfl rfl (Nat.le_of_ble_eq_true rfl) dX12_readsRule_60 ?_
    obtain ⟨n_20, hf⟩ := gq_ex hf
    cases hf
    exact hr n_20 _ _ dX12_readsRule_63
set_option maxRecDepth 100000 in
set_option maxHeartbeats 4000000 in
theorem S_X12_readsRule_0 {k : Kst} {d : Kdy} (o : Ok k d cX12_readsRule RX12 2 10) (F : Nat) {h : Hp} {a0 : Nat} {r : Int32} {h1 : Hp} (hf : X12_readsRule F a0 h = some (r, h1)) (hr : RZ k d cX12_readsRule r h1) : Wz k d h 0 [(0, .ref (ka k a0))] [] := by
  unfold X12_readsRule at hf
  refine x_aload_n o dX12_readsRule_0 0 rfl rfl ?_
  obtain ⟨k_1, hf⟩ := gq_ex hf
  obtain ⟨c_2, ec_2, hf⟩ := ob_ex hf
  refine vRX12_141 [] [] o (C_X12_here o.1.2.2.2.2.2.2.1 o.2 F ec_2) (by decide) k_1 rfl rfl (Nat.le_of_ble_eq_true rfl) dX12_readsRule_1 ?_
  refine x_istore_n o dX12_readsRule_4 (by decide) rfl [(1, .int c_2), (0, .ref (ka k a0))] rfl ?_
  refine x_iload_n o dX12_readsRule_5 0 rfl rfl ?_
  refine x_bipush (v := 119) o dX12_readsRule_6 (by decide) ?_
  refine x_icmp_eq o 45 dX12_readsRule_8 (by decide) (fun q_4 => ?_) (fun q_4 => ?_)
  · replace hf := (if_pos q_4).symm.trans hf
    refine x_sub [1, 0] [(0, .ref (ka k a0)), (1, .int c_2)] rfl ?_
    exact S_X12_readsRule_45 o F hf hr
  · replace hf := (if_neg q_4).symm.trans hf
    refine x_iload_n o dX12_readsRule_11 0 rfl rfl ?_
    refine x_bipush (v := 99) o dX12_readsRule_12 (by decide) ?_
    refine x_icmp_eq o 45 dX12_readsRule_14 (by decide) (fun q_5 => ?_) (fun q_5 => ?_)
    · replace hf := (if_pos q_5).symm.trans hf
      refine x_sub [1, 0] [(0, .ref (ka k a0)), (1, .int c_2)] rfl ?_
      exact S_X12_readsRule_45 o F hf hr
    · replace hf := (if_neg q_5).symm.trans hf
      refine x_iload_n o dX12_readsRule_17 0 rfl rfl ?_
      refine x_bipush (v := 105) o dX12_readsRule_18 (by decide) ?_
      refine x_icmp_eq o 45 dX12_readsRule_20 (by decide) (fun q_6 => ?_) (fun q_6 => ?_)
      · replace hf := (if_pos q_6).symm.trans hf
        refine x_sub [1, 0] [(0, .ref (ka k a0)), (1, .int c_2)] rfl ?_
        exact S_X12_readsRule_45 o F hf hr
      · replace hf := (if_neg q_6).symm.trans hf
        refine x_iload_n o dX12_readsRule_23 0 rfl rfl ?_
        refine x_bipush (v := 110) o dX12_readsRule_24 (by decide) ?_
        refine x_icmp_eq o 45 dX12_readsRule_26 (by decide) (fun q_7 => ?_) (fun q_7 => ?_)
        · replace hf := (if_pos q_7).symm.trans hf
          refine x_sub [1, 0] [(0, .ref (ka k a0)), (1, .int c_2)] rfl ?_
          exact S_X12_readsRule_45 o F hf hr
        · replace hf := (if_neg q_7).symm.trans hf
          refine x_iload_n o dX12_readsRule_29 0 rfl rfl ?_
          refine x_bipush (v := 120) o dX12_readsRule_30 (by decide) ?_
          refine x_icmp_eq o 45 dX12_readsRule_32 (by decide) (fun q_8 => ?_) (fun q_8 => ?_)
          · replace hf := (if_pos q_8).symm.trans hf
            refine x_sub [1, 0] [(0, .ref (ka k a0)), (1, .int c_2)] rfl ?_
            exact S_X12_readsRule_45 o F hf hr
          · replace hf := (if_neg q_8).symm.trans hf
            refine x_aload_n o dX12_readsRule_35 1 rfl rfl ?_
            refine x_iconst (v := 1) o dX12_readsRule_36 (by decide) ?_
            refine x_aload_n o dX12_readsRule_37 1 rfl rfl ?_
            refine gRX12_135 o k_1 dX12_readsRule_38 ?_
            obtain ⟨c_9, h_10, ec_9, hf⟩ := bq_ex hf
            refine vRX12_148 [.int 1, .int (h.1 a0 8)] [] o (C_X12_wrongAt o.1.2.2.2.2.2.2.1 o.2 F ec_9) (by decide) k_1 rfl rfl (Nat.le_of_ble_eq_true rfl) dX12_readsRule_41 ?_
            obtain ⟨n_11, hf⟩ := gq_ex hf
            cases hf
            exact hr n_11 _ _ dX12_readsRule_44
theorem C_X12_readsRule {k : Kst} (hj : Dj k) (hn : kn k = kdl.length) (F : Nat) {h : Hp} {a0 : Nat} {r : Int32} {h1 : Hp} (hf : X12_readsRule F a0 h = some (r, h1)) : MI k 10 yX12_readsRule cX12_readsRule 2 (some .boolean) [.ref (ka k a0)] h r h1 := mZ hj hn (by decide +kernel) (Nat.le_of_ble_eq_true rfl) (fun d o hr => S_X12_readsRule_0 o F hf hr)
set_option maxRecDepth 100000 in
set_option maxHeartbeats 4000000 in
theorem S_X12_beginsText_0 {k : Kst} {d : Kdy} (o : Ok k d cX12_beginsText RX12 2 3) (F : Nat) {h : Hp} {a0 : Nat} {x1 : Int32} {h1 : Hp} (hf : X12_beginsText F a0 x1 h = some h1) (hr : RV k d cX12_beginsText h1) : Wz k d h 0 [(0, .ref (ka k a0)), (1, .int x1)] [] := by
  unfold X12_beginsText at hf
  refine x_aload_n o dX12_beginsText_0 0 rfl rfl ?_
  refine x_iconst (v := 0) o dX12_beginsText_1 (by decide) ?_
  obtain ⟨k_1, hf⟩ := gq_ex hf
  obtain ⟨h_2, eh_2, hf⟩ := bd_ex hf
  refine pRX12_135 o k_1 eh_2 dX12_beginsText_2 ?_
  refine x_aload_n o dX12_beginsText_5 0 rfl rfl ?_
  refine x_iload_n o dX12_beginsText_6 1 rfl rfl ?_
  obtain ⟨h_3, eh_3, hf⟩ := bd_ex hf
  refine pRX12_138 o k_1 eh_3 dX12_beginsText_7 ?_
  refine x_aload_n o dX12_beginsText_10 0 rfl rfl ?_
  refine x_iconst (v := 0) o dX12_beginsText_11 (by decide) ?_
  obtain ⟨h_4, eh_4, hf⟩ := bd_ex hf
  refine pRX12_159 o k_1 eh_4 dX12_beginsText_12 ?_
  refine x_aload_n o dX12_beginsText_15 0 rfl rfl ?_
  refine x_iconst (v := 0) o dX12_beginsText_16 (by decide) ?_
  obtain ⟨h_5, eh_5, hf⟩ := bd_ex hf
  refine pRX12_214 o k_1 eh_5 dX12_beginsText_17 ?_
  cases hf
  exact hr _ _ dX12_beginsText_20
theorem C_X12_beginsText {k : Kst} (hj : Dj k) (hn : kn k = kdl.length) (F : Nat) {h : Hp} {a0 : Nat} {x1 : Int32} {h1 : Hp} (hf : X12_beginsText F a0 x1 h = some h1) : MV k 3 yX12_beginsText cX12_beginsText 2 [.ref (ka k a0), .int x1] h h1 := mV hj hn (by decide +kernel) (Nat.le_of_ble_eq_true rfl) (fun d o hr => S_X12_beginsText_0 o F hf hr)
set_option maxRecDepth 100000 in
set_option maxHeartbeats 4000000 in
theorem S_X12_law_123 {k : Kst} {d : Kdy} (o : Ok k d cX12_law RX12 4 11) (F : Nat) : ∀ (f : Nat) {h : Hp} {a0 : Nat} {x3 : Int32} {r : Int32} {h1 : Hp}, X12_law_123 F f a0 x3 h = some (r, h1) → RI k d cX12_law r h1 → Wz k d h 123 [(0, .ref (ka k a0)), (3, .int x3)] [] := by
  intro f
  induction f with
  | zero =>
    intro h a0 x3 r h1 hf hr
    exact nomatch (show (none : Option _) = some _ from hf)
  | succ f ih =>
    intro h a0 x3 r h1 hf hr
    rw [X12_law_123] at hf
    refine x_iload_n o dX12_law_123 1 rfl rfl ?_
    refine x_aload_n o dX12_law_124 0 rfl rfl ?_
    obtain ⟨k_1, hf⟩ := gq_ex hf
    refine gRX12_214 o k_1 dX12_law_125 ?_
    refine x_icmp_ge o 185 dX12_law_128 (by decide) (fun q_2 => ?_) (fun q_2 => ?_)
    · replace hf := (if_pos q_2).symm.trans hf
      refine x_aload_n o dX12_law_185 0 rfl rfl ?_
      refine gRX12_214 o k_1 dX12_law_186 ?_
      cases hf
      exact hr _ _ dX12_law_189
    · replace hf := (if_neg q_2).symm.trans hf
      refine x_aload_n o dX12_law_131 0 rfl rfl ?_
      obtain ⟨j_3, ej_3, hf⟩ := ob_ex hf
      refine gRX12_50 o k_1 ej_3 dX12_law_132 ?_
      refine x_iload_n o dX12_law_135 1 rfl rfl ?_
      refine x_aload_n o dX12_law_136 0 rfl rfl ?_
      obtain ⟨j_4, ej_4, hf⟩ := ob_ex hf
      refine gRX12_35 o k_1 ej_4 dX12_law_137 ?_
      refine x_iload_n o dX12_law_140 1 rfl rfl ?_
      obtain ⟨k_5, hf⟩ := gq_ex hf
      obtain ⟨b_6, hf⟩ := gq_ex hf
      refine x_iald o k_5 b_6 dX12_law_141 ?_
      obtain ⟨k_7, hf⟩ := gq_ex hf
      obtain ⟨b_8, hf⟩ := gq_ex hf
      obtain ⟨h_9, eh_9, hf⟩ := bd_ex hf
      refine x_iast o k_7 b_8 dX12_law_142 (x_h eh_9 ?_)
      refine x_aload_n o dX12_law_143 0 rfl rfl ?_
      obtain ⟨j_10, ej_10, hf⟩ := ob_ex hf
      refine gRX12_53 o k_1 ej_10 dX12_law_144 ?_
      refine x_iload_n o dX12_law_147 1 rfl rfl ?_
      refine x_aload_n o dX12_law_148 0 rfl rfl ?_
      obtain ⟨j_11, ej_11, hf⟩ := ob_ex hf
      refine gRX12_38 o k_1 ej_11 dX12_law_149 ?_
      refine x_iload_n o dX12_law_152 1 rfl rfl ?_
      obtain ⟨k_12, hf⟩ := gq_ex hf
      obtain ⟨b_13, hf⟩ := gq_ex hf
      refine x_iald o k_12 b_13 dX12_law_153 ?_
      obtain ⟨k_14, hf⟩ := gq_ex hf
      obtain ⟨b_15, hf⟩ := gq_ex hf
      obtain ⟨h_16, eh_16, hf⟩ := bd_ex hf
      refine x_iast o k_14 b_15 dX12_law_154 (x_h eh_16 ?_)
      refine x_aload_n o dX12_law_155 0 rfl rfl ?_
      obtain ⟨j_17, ej_17, hf⟩ := ob_ex hf
      refine gRX12_56 o k_1 ej_17 dX12_law_156 ?_
      refine x_iload_n o dX12_law_159 1 rfl rfl ?_
      refine x_aload_n o dX12_law_160 0 rfl rfl ?_
      obtain ⟨j_18, ej_18, hf⟩ := ob_ex hf
      refine gRX12_41 o k_1 ej_18 dX12_law_161 ?_
      refine x_iload_n o dX12_law_164 1 rfl rfl ?_
      obtain ⟨k_19, hf⟩ := gq_ex hf
      obtain ⟨b_20, hf⟩ := gq_ex hf
      refine x_iald o k_19 b_20 dX12_law_165 ?_
      obtain ⟨k_21, hf⟩ := gq_ex hf
      obtain ⟨b_22, hf⟩ := gq_ex hf
      obtain ⟨h_23, eh_23, hf⟩ := bd_ex hf
      refine x_iast o k_21 b_22 dX12_law_166 (x_h eh_23 ?_)
      refine x_aload_n o dX12_law_167 0 rfl rfl ?_
      obtain ⟨j_24, ej_24, hf⟩ := ob_ex hf
      refine gRX12_59 o k_1 ej_24 dX12_law_168 ?_
      refine x_iload_n o dX12_law_171 1 rfl rfl ?_
      refine x_aload_n o dX12_law_172 0 rfl rfl ?_
      obtain ⟨j_25, ej_25, hf⟩ := ob_ex hf
      refine gRX12_44 o k_1 ej_25 dX12_law_173 ?_
      refine x_iload_n o dX12_law_176 1 rfl rfl ?_
      obtain ⟨k_26, hf⟩ := gq_ex hf
      obtain ⟨b_27, hf⟩ := gq_ex hf
      refine x_iald o k_26 b_27 dX12_law_177 ?_
      obtain ⟨k_28, hf⟩ := gq_ex hf
      obtain ⟨b_29, hf⟩ := gq_ex hf
      obtain ⟨h_30, eh_30, hf⟩ := bd_ex hf
      refine x_iast o k_28 b_29 dX12_law_178 (x_h eh_30 ?_)
      obtain ⟨x3_31, ex3_31, hf⟩ := bd_ex hf
      refine x_iinc o dX12_law_179 (by decide) 1 rfl ex3_31.symm [(3, .int x3_31), (0, .ref (ka k a0))] rfl ?_
      refine x_goto o 123 dX12_law_182 (by decide) ?_
      refine x_sub [1, 0] [(0, .ref (ka k a0)), (3, .int x3_31)] rfl ?_
      exact ih hf hr
set_option maxRecDepth 100000 in
set_option maxHeartbeats 4000000 in
theorem S_X12_law_95 {k : Kst} {d : Kdy} (o : Ok k d cX12_law RX12 4 11) (F : Nat) : ∀ (f : Nat) {h : Hp} {a0 : Nat} {x3 : Int32} {r : Int32} {h1 : Hp}, X12_law_95 F f a0 x3 h = some (r, h1) → RI k d cX12_law r h1 → Wz k d h 95 [(0, .ref (ka k a0)), (3, .int x3)] [] := by
  intro f
  induction f with
  | zero =>
    intro h a0 x3 r h1 hf hr
    exact nomatch (show (none : Option _) = some _ from hf)
  | succ f ih =>
    intro h a0 x3 r h1 hf hr
    rw [X12_law_95] at hf
    refine x_iload_n o dX12_law_95 1 rfl rfl ?_
    refine x_aload_n o dX12_law_96 0 rfl rfl ?_
    obtain ⟨k_1, hf⟩ := gq_ex hf
    refine gRX12_159 o k_1 dX12_law_97 ?_
    refine x_icmp_ge o 121 dX12_law_100 (by decide) (fun q_2 => ?_) (fun q_2 => ?_)
    · replace hf := (if_pos q_2).symm.trans hf
      refine x_iconst (v := 0) o dX12_law_121 (by decide) ?_
      refine x_istore_n o dX12_law_122 (by decide) rfl [(3, .int 0), (0, .ref (ka k a0))] rfl ?_
      refine x_sub [1, 0] [(0, .ref (ka k a0)), (3, .int 0)] rfl ?_
      exact S_X12_law_123 o F _ hf hr
    · replace hf := (if_neg q_2).symm.trans hf
      refine x_aload_n o dX12_law_103 0 rfl rfl ?_
      obtain ⟨j_3, ej_3, hf⟩ := ob_ex hf
      refine gRX12_47 o k_1 ej_3 dX12_law_104 ?_
      refine x_iload_n o dX12_law_107 1 rfl rfl ?_
      refine x_aload_n o dX12_law_108 0 rfl rfl ?_
      obtain ⟨j_4, ej_4, hf⟩ := ob_ex hf
      refine gRX12_29 o k_1 ej_4 dX12_law_109 ?_
      refine x_iload_n o dX12_law_112 1 rfl rfl ?_
      obtain ⟨k_5, hf⟩ := gq_ex hf
      obtain ⟨b_6, hf⟩ := gq_ex hf
      refine x_iald o k_5 b_6 dX12_law_113 ?_
      obtain ⟨k_7, hf⟩ := gq_ex hf
      obtain ⟨b_8, hf⟩ := gq_ex hf
      obtain ⟨h_9, eh_9, hf⟩ := bd_ex hf
      refine x_iast o k_7 b_8 dX12_law_114 (x_h eh_9 ?_)
      obtain ⟨x3_10, ex3_10, hf⟩ := bd_ex hf
      refine x_iinc o dX12_law_115 (by decide) 1 rfl ex3_10.symm [(3, .int x3_10), (0, .ref (ka k a0))] rfl ?_
      refine x_goto o 95 dX12_law_118 (by decide) ?_
      refine x_sub [1, 0] [(0, .ref (ka k a0)), (3, .int x3_10)] rfl ?_
      exact ih hf hr
set_option maxRecDepth 100000 in
set_option maxHeartbeats 4000000 in
theorem S_X12_law_71 {k : Kst} {d : Kdy} (o : Ok k d cX12_law RX12 4 11) (F : Nat) {h : Hp} {a0 : Nat} {x2 : Int32} {r : Int32} {h1 : Hp} (hf : X12_law_71 F a0 x2 h = some (r, h1)) (hr : RI k d cX12_law r h1) : Wz k d h 71 [(0, .ref (ka k a0)), (2, .int x2)] [] := by
  unfold X12_law_71 at hf
  refine x_aload_n o dX12_law_71 0 rfl rfl ?_
  refine x_iconst (v := 0) o dX12_law_72 (by decide) ?_
  obtain ⟨k_1, hf⟩ := gq_ex hf
  obtain ⟨h_2, eh_2, hf⟩ := bd_ex hf
  refine pRX12_128 o k_1 eh_2 dX12_law_73 ?_
  refine x_iload_n o dX12_law_76 1 rfl rfl ?_
  refine x_if_ne o 85 dX12_law_77 (by decide) (fun q_3 => ?_) (fun q_3 => ?_)
  · replace hf := (if_neg q_3).symm.trans hf
    refine x_aload_n o dX12_law_85 0 rfl rfl ?_
    refine x_aload_n o dX12_law_86 0 rfl rfl ?_
    refine gRX12_214 o k_1 dX12_law_87 ?_
    obtain ⟨h_4, eh_4, hf⟩ := bd_ex hf
    refine pRX12_229 o k_1 eh_4 dX12_law_90 ?_
    refine x_iconst (v := 0) o dX12_law_93 (by decide) ?_
    refine x_istore_n o dX12_law_94 (by decide) rfl [(3, .int 0), (0, .ref (ka k a0)), (2, .int x2)] rfl ?_
    refine x_sub [1, 0] [(0, .ref (ka k a0)), (3, .int 0)] rfl ?_
    exact S_X12_law_95 o F _ hf hr
  · replace hf := (if_pos q_3).symm.trans hf
    refine x_aload_n o dX12_law_80 0 rfl rfl ?_
    refine gRX12_145 o k_1 dX12_law_81 ?_
    cases hf
    exact hr _ _ dX12_law_84
set_option maxRecDepth 100000 in
set_option maxHeartbeats 4000000 in
theorem S_X12_law_67 {k : Kst} {d : Kdy} (o : Ok k d cX12_law RX12 4 11) (F : Nat) {k31 : Nat → Int32 → Hp → Option (Int32 × Hp)} (hk31 : ∀ {h : Hp} {a0 : Nat} {x2 : Int32} {r : Int32} {h1 : Hp}, k31 a0 x2 h = some (r, h1) → RI k d cX12_law r h1 → Wz k d h 31 [(0, .ref (ka k a0)), (2, .int x2)] []) {h : Hp} {a0 : Nat} {s0 : Int32} {r : Int32} {h1 : Hp} (hf : X12_law_67 F k31 a0 s0 h = some (r, h1)) (hr : RI k d cX12_law r h1) : Wz k d h 67 [(0, .ref (ka k a0))] [.int s0] := by
  unfold X12_law_67 at hf
  refine x_istore_n o dX12_law_67 (by decide) rfl [(2, .int s0), (0, .ref (ka k a0))] rfl ?_
  refine x_goto o 31 dX12_law_68 (by decide) ?_
  refine x_sub [1, 0] [(0, .ref (ka k a0)), (2, .int s0)] rfl ?_
  exact hk31 hf hr
set_option maxRecDepth 100000 in
set_option maxHeartbeats 4000000 in
theorem S_X12_law_66 {k : Kst} {d : Kdy} (o : Ok k d cX12_law RX12 4 11) (F : Nat) {k31 : Nat → Int32 → Hp → Option (Int32 × Hp)} (hk31 : ∀ {h : Hp} {a0 : Nat} {x2 : Int32} {r : Int32} {h1 : Hp}, k31 a0 x2 h = some (r, h1) → RI k d cX12_law r h1 → Wz k d h 31 [(0, .ref (ka k a0)), (2, .int x2)] []) {h : Hp} {a0 : Nat} {r : Int32} {h1 : Hp} (hf : X12_law_66 F k31 a0 h = some (r, h1)) (hr : RI k d cX12_law r h1) : Wz k d h 66 [(0, .ref (ka k a0))] [] := by
  unfold X12_law_66 at hf
  refine x_iconst (v := 0) o dX12_law_66 (by decide) ?_
  refine x_sub [0] [(0, .ref (ka k a0))] rfl ?_
  exact S_X12_law_67 o F hk31 hf hr
set_option maxRecDepth 100000 in
set_option maxHeartbeats 4000000 in
theorem S_X12_law_31 {k : Kst} {d : Kdy} (o : Ok k d cX12_law RX12 4 11) (F : Nat) : ∀ (f : Nat) {h : Hp} {a0 : Nat} {x2 : Int32} {r : Int32} {h1 : Hp}, X12_law_31 F f a0 x2 h = some (r, h1) → RI k d cX12_law r h1 → Wz k d h 31 [(0, .ref (ka k a0)), (2, .int x2)] [] := by
  intro f
  induction f with
  | zero =>
    intro h a0 x2 r h1 hf hr
    exact nomatch (show (none : Option _) = some _ from hf)
  | succ f ih =>
    intro h a0 x2 r h1 hf hr
    rw [X12_law_31] at hf
    refine x_iload_n o dX12_law_31 1 rfl rfl ?_
    refine x_if_eq o 71 dX12_law_32 (by decide) (fun q_1 => ?_) (fun q_1 => ?_)
    · replace hf := (if_pos q_1).symm.trans hf
      refine x_sub [0, 1] [(0, .ref (ka k a0)), (2, .int x2)] rfl ?_
      exact S_X12_law_71 o F hf hr
    · replace hf := (if_neg q_1).symm.trans hf
      refine x_aload_n o dX12_law_35 0 rfl rfl ?_
      obtain ⟨k_2, hf⟩ := gq_ex hf
      refine gRX12_135 o k_2 dX12_law_36 ?_
      refine x_aload_n o dX12_law_39 0 rfl rfl ?_
      refine gRX12_138 o k_2 dX12_law_40 ?_
      refine x_icmp_ge o 71 dX12_law_43 (by decide) (fun q_3 => ?_) (fun q_3 => ?_)
      · replace hf := (if_pos q_3).symm.trans hf
        refine x_sub [0, 1] [(0, .ref (ka k a0)), (2, .int x2)] rfl ?_
        exact S_X12_law_71 o F hf hr
      · replace hf := (if_neg q_3).symm.trans hf
        refine x_aload_n o dX12_law_46 0 rfl rfl ?_
        refine x_bipush (v := 59) o dX12_law_47 (by decide) ?_
        obtain ⟨c_4, h_5, ec_4, hf⟩ := bq_ex hf
        refine vRX12_226 [.int 59] [] o (C_X12_takes o.1.2.2.2.2.2.2.1 o.2 F ec_4) (by decide) k_2 rfl rfl (Nat.le_of_ble_eq_true rfl) dX12_law_49 ?_
        refine x_if_eq o 66 dX12_law_52 (by decide) (fun q_6 => ?_) (fun q_6 => ?_)
        · replace hf := (if_pos q_6).symm.trans hf
          refine x_sub [0] [(0, .ref (ka k a0))] rfl ?_
          exact S_X12_law_66 o F (fun q1 q2 => ih q1 q2) hf hr
        · replace hf := (if_neg q_6).symm.trans hf
          refine x_aload_n o dX12_law_55 0 rfl rfl ?_
          obtain ⟨c_7, h_8, ec_7, hf⟩ := bq_ex hf
          refine vRX12_223 [] [] o (C_X12_readsRule o.1.2.2.2.2.2.2.1 o.2 F ec_7) (by decide) k_2 rfl rfl (Nat.le_of_ble_eq_true rfl) dX12_law_56 ?_
          refine x_if_eq o 66 dX12_law_59 (by decide) (fun q_9 => ?_) (fun q_9 => ?_)
          · replace hf := (if_pos q_9).symm.trans hf
            refine x_sub [0] [(0, .ref (ka k a0))] rfl ?_
            exact S_X12_law_66 o F (fun q1 q2 => ih q1 q2) hf hr
          · replace hf := (if_neg q_9).symm.trans hf
            refine x_iconst (v := 1) o dX12_law_62 (by decide) ?_
            refine x_goto o 67 dX12_law_63 (by decide) ?_
            refine x_sub [0] [(0, .ref (ka k a0))] rfl ?_
            exact S_X12_law_67 o F (fun q1 q2 => ih q1 q2) hf hr
set_option maxRecDepth 100000 in
set_option maxHeartbeats 4000000 in
theorem S_X12_law_0 {k : Kst} {d : Kdy} (o : Ok k d cX12_law RX12 4 11) (F : Nat) {h : Hp} {a0 : Nat} {x1 : Int32} {r : Int32} {h1 : Hp} (hf : X12_law F a0 x1 h = some (r, h1)) (hr : RI k d cX12_law r h1) : Wz k d h 0 [(0, .ref (ka k a0)), (1, .int x1)] [] := by
  unfold X12_law at hf
  refine x_iload_n o dX12_law_0 1 rfl rfl ?_
  refine x_iconst (v := 1) o dX12_law_1 (by decide) ?_
  refine x_sipush (v := 240) o dX12_law_2 (by decide) ?_
  obtain ⟨c_1, ec_1, hf⟩ := ob_ex hf
  refine vRX12_113 [.int x1, .int 1, .int 240] [] o (C_X12_in o.1.2.2.2.2.2.2.1 o.2 F ec_1) (by decide) rfl rfl (Nat.le_of_ble_eq_true rfl) dX12_law_5 ?_
  refine x_if_eq o 19 dX12_law_8 (by decide) (fun q_3 => ?_) (fun q_3 => ?_)
  · replace hf := (if_pos q_3).symm.trans hf
    refine x_iconst (v := (-1)) o dX12_law_19 (by decide) ?_
    cases hf
    exact hr _ _ dX12_law_20
  · replace hf := (if_neg q_3).symm.trans hf
    refine x_iload_n o dX12_law_11 1 rfl rfl ?_
    refine x_aload_n o dX12_law_12 0 rfl rfl ?_
    obtain ⟨k_4, hf⟩ := gq_ex hf
    refine gRX12_128 o k_4 dX12_law_13 ?_
    refine x_icmp_le o 21 dX12_law_16 (by decide) (fun q_5 => ?_) (fun q_5 => ?_)
    · replace hf := (if_pos q_5).symm.trans hf
      refine x_aload_n o dX12_law_21 0 rfl rfl ?_
      refine x_iload_n o dX12_law_22 1 rfl rfl ?_
      obtain ⟨h_7, eh_7, hf⟩ := ob_ex hf
      refine vRX12_220 [.int x1] [] o (C_X12_beginsText o.1.2.2.2.2.2.2.1 o.2 F eh_7) (by decide) k_4 rfl rfl (Nat.le_of_ble_eq_true rfl) dX12_law_23 ?_
      refine x_aload_n o dX12_law_26 0 rfl rfl ?_
      obtain ⟨c_8, h_9, ec_8, hf⟩ := bq_ex hf
      refine vRX12_223 [] [] o (C_X12_readsRule o.1.2.2.2.2.2.2.1 o.2 F ec_8) (by decide) k_4 rfl rfl (Nat.le_of_ble_eq_true rfl) dX12_law_27 ?_
      refine x_istore_n o dX12_law_30 (by decide) rfl [(2, .int c_8), (0, .ref (ka k a0)), (1, .int x1)] rfl ?_
      refine x_sub [1, 0] [(0, .ref (ka k a0)), (2, .int c_8)] rfl ?_
      exact S_X12_law_31 o F _ hf hr
    · replace hf := (if_neg q_5).symm.trans hf
      refine x_iconst (v := (-1)) o dX12_law_19 (by decide) ?_
      cases hf
      exact hr _ _ dX12_law_20
theorem C_X12_law {k : Kst} (hj : Dj k) (hn : kn k = kdl.length) (F : Nat) {h : Hp} {a0 : Nat} {x1 : Int32} {r : Int32} {h1 : Hp} (hf : X12_law F a0 x1 h = some (r, h1)) : MI k 11 yX12_law cX12_law 4 (some .int) [.ref (ka k a0), .int x1] h r h1 := mI hj hn (by decide +kernel) (Nat.le_of_ble_eq_true rfl) (fun d o hr => S_X12_law_0 o F hf hr)
set_option maxRecDepth 100000 in
set_option maxHeartbeats 4000000 in
theorem S_X12_reckon_0 {k : Kst} {d : Kdy} (o : Ok k d cX12_reckon RX12 3 3) (F : Nat) {h : Hp} {x0 : Int32} {x1 : Int32} {x2 : Int32} {r : Int32} (hf : X12_reckon F x0 x1 x2 h = some r) (hr : RI k d cX12_reckon r h) : Wz k d h 0 [(0, .int x0), (1, .int x1), (2, .int x2)] [] := by
  unfold X12_reckon at hf
  refine x_iload_n o dX12_reckon_0 0 rfl rfl ?_
  obtain ⟨t_1, et_1, hf⟩ := bd_ex hf
  refine x_top et_1 ?_
  by_cases q_2 : t_1 = 2
  · replace hf := (if_pos q_2).symm.trans hf
    refine x_tabi (v := 2) o 44 q_2 (by decide) (by decide) rfl (by decide) dX12_reckon_1 ?_
    refine x_iload_n o dX12_reckon_44 1 rfl rfl ?_
    refine x_iload_n o dX12_reckon_45 2 rfl rfl ?_
    refine x_iadd o dX12_reckon_46 ?_
    cases hf
    exact hr _ _ dX12_reckon_47
  replace hf := (if_neg q_2).symm.trans hf
  by_cases q_3 : t_1 = 3
  · replace hf := (if_pos q_3).symm.trans hf
    refine x_tabi (v := 3) o 48 q_3 (by decide) (by decide) rfl (by decide) dX12_reckon_1 ?_
    refine x_iload_n o dX12_reckon_48 1 rfl rfl ?_
    refine x_iload_n o dX12_reckon_49 2 rfl rfl ?_
    refine x_isub o dX12_reckon_50 ?_
    cases hf
    exact hr _ _ dX12_reckon_51
  replace hf := (if_neg q_3).symm.trans hf
  by_cases q_4 : t_1 = 4
  · replace hf := (if_pos q_4).symm.trans hf
    refine x_tabi (v := 4) o 52 q_4 (by decide) (by decide) rfl (by decide) dX12_reckon_1 ?_
    refine x_iload_n o dX12_reckon_52 1 rfl rfl ?_
    refine x_iload_n o dX12_reckon_53 2 rfl rfl ?_
    refine x_imul o dX12_reckon_54 ?_
    cases hf
    exact hr _ _ dX12_reckon_55
  replace hf := (if_neg q_4).symm.trans hf
  by_cases q_5 : t_1 = 5
  · replace hf := (if_pos q_5).symm.trans hf
    refine x_tabi (v := 5) o 56 q_5 (by decide) (by decide) rfl (by decide) dX12_reckon_1 ?_
    refine x_iload_n o dX12_reckon_56 1 rfl rfl ?_
    refine x_iload_n o dX12_reckon_57 2 rfl rfl ?_
    obtain ⟨n_6, hf⟩ := gq_ex hf
    refine x_idiv o dX12_reckon_58 n_6 ?_
    cases hf
    exact hr _ _ dX12_reckon_59
  replace hf := (if_neg q_5).symm.trans hf
  by_cases q_7 : t_1 = 6
  · replace hf := (if_pos q_7).symm.trans hf
    refine x_tabi (v := 6) o 60 q_7 (by decide) (by decide) rfl (by decide) dX12_reckon_1 ?_
    refine x_iload_n o dX12_reckon_60 1 rfl rfl ?_
    refine x_iload_n o dX12_reckon_61 2 rfl rfl ?_
    obtain ⟨n_8, hf⟩ := gq_ex hf
    refine x_irem o dX12_reckon_62 n_8 ?_
    cases hf
    exact hr _ _ dX12_reckon_63
  replace hf := (if_neg q_7).symm.trans hf
  by_cases q_9 : t_1 = 7
  · replace hf := (if_pos q_9).symm.trans hf
    refine x_tabi (v := 7) o 64 q_9 (by decide) (by decide) rfl (by decide) dX12_reckon_1 ?_
    refine x_iload_n o dX12_reckon_64 1 rfl rfl ?_
    refine x_iload_n o dX12_reckon_65 2 rfl rfl ?_
    refine x_icmp_ge o 73 dX12_reckon_66 (by decide) (fun q_10 => ?_) (fun q_10 => ?_)
    · replace hf := (if_pos q_10).symm.trans hf
      refine x_iconst (v := 0) o dX12_reckon_73 (by decide) ?_
      cases hf
      exact hr _ _ dX12_reckon_74
    · replace hf := (if_neg q_10).symm.trans hf
      refine x_iconst (v := 1) o dX12_reckon_69 (by decide) ?_
      refine x_goto o 74 dX12_reckon_70 (by decide) ?_
      cases hf
      exact hr _ _ dX12_reckon_74
  replace hf := (if_neg q_9).symm.trans hf
  by_cases q_11 : t_1 = 8
  · replace hf := (if_pos q_11).symm.trans hf
    refine x_tabi (v := 8) o 75 q_11 (by decide) (by decide) rfl (by decide) dX12_reckon_1 ?_
    refine x_iload_n o dX12_reckon_75 1 rfl rfl ?_
    refine x_iload_n o dX12_reckon_76 2 rfl rfl ?_
    refine x_icmp_le o 84 dX12_reckon_77 (by decide) (fun q_12 => ?_) (fun q_12 => ?_)
    · replace hf := (if_pos q_12).symm.trans hf
      refine x_iconst (v := 0) o dX12_reckon_84 (by decide) ?_
      cases hf
      exact hr _ _ dX12_reckon_85
    · replace hf := (if_neg q_12).symm.trans hf
      refine x_iconst (v := 1) o dX12_reckon_80 (by decide) ?_
      refine x_goto o 85 dX12_reckon_81 (by decide) ?_
      cases hf
      exact hr _ _ dX12_reckon_85
  replace hf := (if_neg q_11).symm.trans hf
  refine x_tabo o 86 (by have z2 := lv_neT (a := 2) q_2 rfl; have z3 := lv_neT (a := 3) q_3 rfl; have z4 := lv_neT (a := 4) q_4 rfl; have z5 := lv_neT (a := 5) q_5 rfl; have z6 := lv_neT (a := 6) q_7 rfl; have z7 := lv_neT (a := 7) q_9 rfl; have z8 := lv_neT (a := 8) q_11 rfl; omega) (by decide) dX12_reckon_1 ?_
  refine x_iload_n o dX12_reckon_86 1 rfl rfl ?_
  refine x_iload_n o dX12_reckon_87 2 rfl rfl ?_
  refine x_icmp_ne o 95 dX12_reckon_88 (by decide) (fun q_13 => ?_) (fun q_13 => ?_)
  · replace hf := (if_neg q_13).symm.trans hf
    refine x_iconst (v := 0) o dX12_reckon_95 (by decide) ?_
    cases hf
    exact hr _ _ dX12_reckon_96
  · replace hf := (if_pos q_13).symm.trans hf
    refine x_iconst (v := 1) o dX12_reckon_91 (by decide) ?_
    refine x_goto o 96 dX12_reckon_92 (by decide) ?_
    cases hf
    exact hr _ _ dX12_reckon_96
theorem C_X12_reckon {k : Kst} (hj : Dj k) (hn : kn k = kdl.length) (F : Nat) {h : Hp} {x0 : Int32} {x1 : Int32} {x2 : Int32} {r : Int32} (hf : X12_reckon F x0 x1 x2 h = some r) : MI k 3 yX12_reckon cX12_reckon 3 (some .int) [.int x0, .int x1, .int x2] h r h := mI hj hn (by decide +kernel) (Nat.le_of_ble_eq_true rfl) (fun d o hr => S_X12_reckon_0 o F hf hr)
set_option maxRecDepth 100000 in
set_option maxHeartbeats 4000000 in
theorem S_X12_comesTo_230 {k : Kst} {d : Kdy} (o : Ok k d cX12_comesTo RX12 8 4) (F : Nat) {k16 : Nat → Int32 → Int32 → Int32 → Int32 → Hp → Option (Int32 × Hp)} (hk16 : ∀ {h : Hp} {a0 : Nat} {x2 : Int32} {x3 : Int32} {x4 : Int32} {x5 : Int32} {r : Int32} {h1 : Hp}, k16 a0 x2 x3 x4 x5 h = some (r, h1) → RI k d cX12_comesTo r h1 → Wz k d h 16 [(0, .ref (ka k a0)), (2, .int x2), (3, .int x3), (4, .int x4), (5, .int x5)] []) {h : Hp} {a0 : Nat} {x2 : Int32} {x3 : Int32} {x4 : Int32} {x5 : Int32} {r : Int32} {h1 : Hp} (hf : X12_comesTo_230 F k16 a0 x2 x3 x4 x5 h = some (r, h1)) (hr : RI k d cX12_comesTo r h1) : Wz k d h 230 [(0, .ref (ka k a0)), (2, .int x2), (3, .int x3), (4, .int x4), (5, .int x5)] [] := by
  unfold X12_comesTo_230 at hf
  refine x_goto o 16 dX12_comesTo_230 (by decide) ?_
  refine x_sub [0, 1, 2, 3, 4] [(0, .ref (ka k a0)), (2, .int x2), (3, .int x3), (4, .int x4), (5, .int x5)] rfl ?_
  exact hk16 hf hr
set_option maxRecDepth 100000 in
set_option maxHeartbeats 4000000 in
theorem S_X12_comesTo_203 {k : Kst} {d : Kdy} (o : Ok k d cX12_comesTo RX12 8 4) (F : Nat) {k16 : Nat → Int32 → Int32 → Int32 → Int32 → Hp → Option (Int32 × Hp)} (hk16 : ∀ {h : Hp} {a0 : Nat} {x2 : Int32} {x3 : Int32} {x4 : Int32} {x5 : Int32} {r : Int32} {h1 : Hp}, k16 a0 x2 x3 x4 x5 h = some (r, h1) → RI k d cX12_comesTo r h1 → Wz k d h 16 [(0, .ref (ka k a0)), (2, .int x2), (3, .int x3), (4, .int x4), (5, .int x5)] []) {h : Hp} {a0 : Nat} {x2 : Int32} {x3 : Int32} {x4 : Int32} {x5 : Int32} {x6 : Int32} {r : Int32} {h1 : Hp} (hf : X12_comesTo_203 F k16 a0 x2 x3 x4 x5 x6 h = some (r, h1)) (hr : RI k d cX12_comesTo r h1) : Wz k d h 203 [(0, .ref (ka k a0)), (2, .int x2), (3, .int x3), (4, .int x4), (5, .int x5), (6, .int x6)] [] := by
  unfold X12_comesTo_203 at hf
  refine x_aload_n o dX12_comesTo_203 0 rfl rfl ?_
  obtain ⟨k_1, hf⟩ := gq_ex hf
  obtain ⟨j_2, ej_2, hf⟩ := ob_ex hf
  refine gRX12_62 o k_1 ej_2 dX12_comesTo_204 ?_
  refine x_iload_n o dX12_comesTo_207 2 rfl rfl ?_
  refine x_iconst (v := 1) o dX12_comesTo_208 (by decide) ?_
  refine x_isub o dX12_comesTo_209 ?_
  refine x_iload o dX12_comesTo_210 5 rfl ?_
  refine x_aload_n o dX12_comesTo_212 0 rfl rfl ?_
  refine gRX12_62 o k_1 ej_2 dX12_comesTo_213 ?_
  refine x_iload_n o dX12_comesTo_216 2 rfl rfl ?_
  refine x_iconst (v := 1) o dX12_comesTo_217 (by decide) ?_
  refine x_isub o dX12_comesTo_218 ?_
  obtain ⟨k_3, hf⟩ := gq_ex hf
  obtain ⟨b_4, hf⟩ := gq_ex hf
  refine x_iald o k_3 b_4 dX12_comesTo_219 ?_
  refine x_aload_n o dX12_comesTo_220 0 rfl rfl ?_
  refine gRX12_62 o k_1 ej_2 dX12_comesTo_221 ?_
  refine x_iload_n o dX12_comesTo_224 2 rfl rfl ?_
  obtain ⟨b_5, hf⟩ := gq_ex hf
  refine x_iald o k_3 b_5 dX12_comesTo_225 ?_
  obtain ⟨c_6, ec_6, hf⟩ := ob_ex hf
  refine vRX12_232 [.int x6, .int (h.1 j_2 (ix (x3 - 1))), .int (h.1 j_2 (ix x3))] [.int (x3 - 1), .ref (ka k j_2)] o (C_X12_reckon o.1.2.2.2.2.2.2.1 o.2 F ec_6) (by decide) rfl rfl (Nat.le_of_ble_eq_true rfl) dX12_comesTo_226 ?_
  obtain ⟨b_8, hf⟩ := gq_ex hf
  obtain ⟨h_9, eh_9, hf⟩ := bd_ex hf
  refine x_iast o k_3 b_8 dX12_comesTo_229 (x_h eh_9 ?_)
  refine x_sub [0, 1, 2, 3, 4] [(0, .ref (ka k a0)), (2, .int x2), (3, .int x3), (4, .int x4), (5, .int x5)] rfl ?_
  exact S_X12_comesTo_230 o F hk16 hf hr
set_option maxRecDepth 100000 in
set_option maxHeartbeats 4000000 in
theorem S_X12_comesTo_192 {k : Kst} {d : Kdy} (o : Ok k d cX12_comesTo RX12 8 4) (F : Nat) {k16 : Nat → Int32 → Int32 → Int32 → Int32 → Hp → Option (Int32 × Hp)} (hk16 : ∀ {h : Hp} {a0 : Nat} {x2 : Int32} {x3 : Int32} {x4 : Int32} {x5 : Int32} {r : Int32} {h1 : Hp}, k16 a0 x2 x3 x4 x5 h = some (r, h1) → RI k d cX12_comesTo r h1 → Wz k d h 16 [(0, .ref (ka k a0)), (2, .int x2), (3, .int x3), (4, .int x4), (5, .int x5)] []) {h : Hp} {a0 : Nat} {x2 : Int32} {x3 : Int32} {x4 : Int32} {x5 : Int32} {x6 : Int32} {r : Int32} {h1 : Hp} (hf : X12_comesTo_192 F k16 a0 x2 x3 x4 x5 x6 h = some (r, h1)) (hr : RI k d cX12_comesTo r h1) : Wz k d h 192 [(0, .ref (ka k a0)), (2, .int x2), (3, .int x3), (4, .int x4), (5, .int x5), (6, .int x6)] [] := by
  unfold X12_comesTo_192 at hf
  refine x_aload_n o dX12_comesTo_192 0 rfl rfl ?_
  obtain ⟨k_1, hf⟩ := gq_ex hf
  obtain ⟨j_2, ej_2, hf⟩ := ob_ex hf
  refine gRX12_62 o k_1 ej_2 dX12_comesTo_193 ?_
  refine x_iload_n o dX12_comesTo_196 2 rfl rfl ?_
  obtain ⟨k_3, hf⟩ := gq_ex hf
  obtain ⟨b_4, hf⟩ := gq_ex hf
  refine x_iald o k_3 b_4 dX12_comesTo_197 ?_
  refine x_if_ne o 203 dX12_comesTo_198 (by decide) (fun q_5 => ?_) (fun q_5 => ?_)
  · replace hf := (if_neg q_5).symm.trans hf
    refine x_sub [0, 1, 2, 3, 4, 5] [(0, .ref (ka k a0)), (2, .int x2), (3, .int x3), (4, .int x4), (5, .int x5), (6, .int x6)] rfl ?_
    exact S_X12_comesTo_203 o F hk16 hf hr
  · replace hf := (if_pos q_5).symm.trans hf
    refine x_iconst (v := 0) o dX12_comesTo_201 (by decide) ?_
    cases hf
    exact hr _ _ dX12_comesTo_202
set_option maxRecDepth 100000 in
set_option maxHeartbeats 4000000 in
theorem S_X12_comesTo_155 {k : Kst} {d : Kdy} (o : Ok k d cX12_comesTo RX12 8 4) (F : Nat) {k16 : Nat → Int32 → Int32 → Int32 → Int32 → Hp → Option (Int32 × Hp)} (hk16 : ∀ {h : Hp} {a0 : Nat} {x2 : Int32} {x3 : Int32} {x4 : Int32} {x5 : Int32} {r : Int32} {h1 : Hp}, k16 a0 x2 x3 x4 x5 h = some (r, h1) → RI k d cX12_comesTo r h1 → Wz k d h 16 [(0, .ref (ka k a0)), (2, .int x2), (3, .int x3), (4, .int x4), (5, .int x5)] []) {h : Hp} {a0 : Nat} {x2 : Int32} {x3 : Int32} {x4 : Int32} {x5 : Int32} {x7 : Int32} {s0 : Int32} {s1 : Int32} {r : Int32} {h1 : Hp} (hf : X12_comesTo_155 F k16 a0 x2 x3 x4 x5 x7 s0 s1 h = some (r, h1)) (hr : RI k d cX12_comesTo r h1) : Wz k d h 155 [(0, .ref (ka k a0)), (2, .int x2), (3, .int x3), (4, .int x4), (5, .int x5), (7, .int x7)] [.int s1, .int s0] := by
  unfold X12_comesTo_155 at hf
  refine x_icmp_ne o 168 dX12_comesTo_155 (by decide) (fun q_1 => ?_) (fun q_1 => ?_)
  · replace hf := (if_neg q_1).symm.trans hf
    refine x_iload_n o dX12_comesTo_168 2 rfl rfl ?_
    refine x_iconst (v := 1) o dX12_comesTo_169 (by decide) ?_
    refine x_isub o dX12_comesTo_170 ?_
    obtain ⟨x3_2, ex3_2, hf⟩ := bd_ex hf
    refine x_top ex3_2 ?_
    refine x_istore_n o dX12_comesTo_171 (by decide) rfl [(3, .int x3_2), (0, .ref (ka k a0)), (2, .int x2), (4, .int x4), (5, .int x5), (7, .int x7)] rfl ?_
    refine x_goto o 230 dX12_comesTo_172 (by decide) ?_
    refine x_sub [1, 2, 0, 3, 4] [(0, .ref (ka k a0)), (2, .int x2), (3, .int x3_2), (4, .int x4), (5, .int x5)] rfl ?_
    exact S_X12_comesTo_230 o F hk16 hf hr
  · replace hf := (if_pos q_1).symm.trans hf
    refine x_iload o dX12_comesTo_158 3 rfl ?_
    refine x_iload o dX12_comesTo_160 5 rfl ?_
    refine x_iadd o dX12_comesTo_162 ?_
    obtain ⟨x5_3, ex5_3, hf⟩ := bd_ex hf
    refine x_top ex5_3 ?_
    refine x_istore o dX12_comesTo_163 (by decide) [(5, .int x5_3), (0, .ref (ka k a0)), (2, .int x2), (3, .int x3), (4, .int x4), (7, .int x7)] rfl ?_
    refine x_goto o 230 dX12_comesTo_165 (by decide) ?_
    refine x_sub [1, 2, 3, 4, 0] [(0, .ref (ka k a0)), (2, .int x2), (3, .int x3), (4, .int x4), (5, .int x5_3)] rfl ?_
    exact S_X12_comesTo_230 o F hk16 hf hr
set_option maxRecDepth 100000 in
set_option maxHeartbeats 4000000 in
theorem S_X12_comesTo_135 {k : Kst} {d : Kdy} (o : Ok k d cX12_comesTo RX12 8 4) (F : Nat) {k16 : Nat → Int32 → Int32 → Int32 → Int32 → Hp → Option (Int32 × Hp)} (hk16 : ∀ {h : Hp} {a0 : Nat} {x2 : Int32} {x3 : Int32} {x4 : Int32} {x5 : Int32} {r : Int32} {h1 : Hp}, k16 a0 x2 x3 x4 x5 h = some (r, h1) → RI k d cX12_comesTo r h1 → Wz k d h 16 [(0, .ref (ka k a0)), (2, .int x2), (3, .int x3), (4, .int x4), (5, .int x5)] []) {h : Hp} {a0 : Nat} {x2 : Int32} {x3 : Int32} {x4 : Int32} {x5 : Int32} {x6 : Int32} {x7 : Int32} {r : Int32} {h1 : Hp} (hf : X12_comesTo_135 F k16 a0 x2 x3 x4 x5 x6 x7 h = some (r, h1)) (hr : RI k d cX12_comesTo r h1) : Wz k d h 135 [(0, .ref (ka k a0)), (2, .int x2), (3, .int x3), (4, .int x4), (5, .int x5), (6, .int x6), (7, .int x7)] [] := by
  unfold X12_comesTo_135 at hf
  refine x_aload_n o dX12_comesTo_135 0 rfl rfl ?_
  obtain ⟨k_1, hf⟩ := gq_ex hf
  obtain ⟨j_2, ej_2, hf⟩ := ob_ex hf
  refine gRX12_62 o k_1 ej_2 dX12_comesTo_136 ?_
  refine x_iload_n o dX12_comesTo_139 2 rfl rfl ?_
  refine x_iconst (v := 1) o dX12_comesTo_140 (by decide) ?_
  refine x_isub o dX12_comesTo_141 ?_
  obtain ⟨k_3, hf⟩ := gq_ex hf
  obtain ⟨b_4, hf⟩ := gq_ex hf
  refine x_iald o k_3 b_4 dX12_comesTo_142 ?_
  refine x_iload o dX12_comesTo_143 5 rfl ?_
  refine x_bipush (v := 12) o dX12_comesTo_145 (by decide) ?_
  refine x_icmp_ne o 154 dX12_comesTo_147 (by decide) (fun q_5 => ?_) (fun q_5 => ?_)
  · replace hf := (if_neg q_5).symm.trans hf
    refine x_iconst (v := 0) o dX12_comesTo_154 (by decide) ?_
    refine x_sub [0, 1, 2, 3, 4, 6] [(0, .ref (ka k a0)), (2, .int x2), (3, .int x3), (4, .int x4), (5, .int x5), (7, .int x7)] rfl ?_
    exact S_X12_comesTo_155 o F hk16 hf hr
  · replace hf := (if_pos q_5).symm.trans hf
    refine x_iconst (v := 1) o dX12_comesTo_150 (by decide) ?_
    refine x_goto o 155 dX12_comesTo_151 (by decide) ?_
    refine x_sub [0, 1, 2, 3, 4, 6] [(0, .ref (ka k a0)), (2, .int x2), (3, .int x3), (4, .int x4), (5, .int x5), (7, .int x7)] rfl ?_
    exact S_X12_comesTo_155 o F hk16 hf hr
set_option maxRecDepth 100000 in
set_option maxHeartbeats 4000000 in
theorem S_X12_comesTo_85 {k : Kst} {d : Kdy} (o : Ok k d cX12_comesTo RX12 8 4) (F : Nat) {k16 : Nat → Int32 → Int32 → Int32 → Int32 → Hp → Option (Int32 × Hp)} (hk16 : ∀ {h : Hp} {a0 : Nat} {x2 : Int32} {x3 : Int32} {x4 : Int32} {x5 : Int32} {r : Int32} {h1 : Hp}, k16 a0 x2 x3 x4 x5 h = some (r, h1) → RI k d cX12_comesTo r h1 → Wz k d h 16 [(0, .ref (ka k a0)), (2, .int x2), (3, .int x3), (4, .int x4), (5, .int x5)] []) {h : Hp} {a0 : Nat} {x2 : Int32} {x3 : Int32} {x4 : Int32} {x5 : Int32} {r0 : Nat} {s1 : Int32} {s2 : Int32} {r : Int32} {h1 : Hp} (hf : X12_comesTo_85 F k16 a0 x2 x3 x4 x5 r0 s1 s2 h = some (r, h1)) (hr : RI k d cX12_comesTo r h1) : Wz k d h 85 [(0, .ref (ka k a0)), (2, .int x2), (3, .int x3), (4, .int x4), (5, .int x5)] [.int s2, .int s1, .ref (ka k r0)] := by
  unfold X12_comesTo_85 at hf
  obtain ⟨k_1, hf⟩ := gq_ex hf
  obtain ⟨b_2, hf⟩ := gq_ex hf
  obtain ⟨h_3, eh_3, hf⟩ := bd_ex hf
  refine x_iast o k_1 b_2 dX12_comesTo_85 (x_h eh_3 ?_)
  refine x_iload_n o dX12_comesTo_86 2 rfl rfl ?_
  refine x_iconst (v := 1) o dX12_comesTo_87 (by decide) ?_
  refine x_iadd o dX12_comesTo_88 ?_
  obtain ⟨x3_4, ex3_4, hf⟩ := bd_ex hf
  refine x_top ex3_4 ?_
  refine x_istore_n o dX12_comesTo_89 (by decide) rfl [(3, .int x3_4), (0, .ref (ka k a0)), (2, .int x2), (4, .int x4), (5, .int x5)] rfl ?_
  refine x_goto o 230 dX12_comesTo_90 (by decide) ?_
  refine x_sub [1, 2, 0, 3, 4] [(0, .ref (ka k a0)), (2, .int x2), (3, .int x3_4), (4, .int x4), (5, .int x5)] rfl ?_
  exact S_X12_comesTo_230 o F hk16 hf hr
set_option maxRecDepth 100000 in
set_option maxHeartbeats 4000000 in
theorem S_X12_comesTo_63 {k : Kst} {d : Kdy} (o : Ok k d cX12_comesTo RX12 8 4) (F : Nat) {k16 : Nat → Int32 → Int32 → Int32 → Int32 → Hp → Option (Int32 × Hp)} (hk16 : ∀ {h : Hp} {a0 : Nat} {x2 : Int32} {x3 : Int32} {x4 : Int32} {x5 : Int32} {r : Int32} {h1 : Hp}, k16 a0 x2 x3 x4 x5 h = some (r, h1) → RI k d cX12_comesTo r h1 → Wz k d h 16 [(0, .ref (ka k a0)), (2, .int x2), (3, .int x3), (4, .int x4), (5, .int x5)] []) {h : Hp} {a0 : Nat} {x2 : Int32} {x3 : Int32} {x4 : Int32} {x5 : Int32} {x6 : Int32} {x7 : Int32} {r : Int32} {h1 : Hp} (hf : X12_comesTo_63 F k16 a0 x2 x3 x4 x5 x6 x7 h = some (r, h1)) (hr : RI k d cX12_comesTo r h1) : Wz k d h 63 [(0, .ref (ka k a0)), (2, .int x2), (3, .int x3), (4, .int x4), (5, .int x5), (6, .int x6), (7, .int x7)] [] := by
  unfold X12_comesTo_63 at hf
  refine x_aload_n o dX12_comesTo_63 0 rfl rfl ?_
  obtain ⟨k_1, hf⟩ := gq_ex hf
  obtain ⟨j_2, ej_2, hf⟩ := ob_ex hf
  refine gRX12_62 o k_1 ej_2 dX12_comesTo_64 ?_
  refine x_iload_n o dX12_comesTo_67 2 rfl rfl ?_
  refine x_iload o dX12_comesTo_68 5 rfl ?_
  refine x_if_ne o 78 dX12_comesTo_70 (by decide) (fun q_3 => ?_) (fun q_3 => ?_)
  · replace hf := (if_neg q_3).symm.trans hf
    refine x_aload_n o dX12_comesTo_78 0 rfl rfl ?_
    obtain ⟨j_4, ej_4, hf⟩ := ob_ex hf
    refine gRX12_65 o k_1 ej_4 dX12_comesTo_79 ?_
    refine x_iload o dX12_comesTo_82 6 rfl ?_
    obtain ⟨k_5, hf⟩ := gq_ex hf
    obtain ⟨b_6, hf⟩ := gq_ex hf
    refine x_iald o k_5 b_6 dX12_comesTo_84 ?_
    refine x_sub [0, 1, 2, 3, 4] [(0, .ref (ka k a0)), (2, .int x2), (3, .int x3), (4, .int x4), (5, .int x5)] rfl ?_
    exact S_X12_comesTo_85 o F hk16 hf hr
  · replace hf := (if_pos q_3).symm.trans hf
    refine x_iload o dX12_comesTo_73 6 rfl ?_
    refine x_goto o 85 dX12_comesTo_75 (by decide) ?_
    refine x_sub [0, 1, 2, 3, 4] [(0, .ref (ka k a0)), (2, .int x2), (3, .int x3), (4, .int x4), (5, .int x5)] rfl ?_
    exact S_X12_comesTo_85 o F hk16 hf hr
set_option maxRecDepth 100000 in
set_option maxHeartbeats 4000000 in
theorem S_X12_comesTo_16 {k : Kst} {d : Kdy} (o : Ok k d cX12_comesTo RX12 8 4) (F : Nat) : ∀ (f : Nat) {h : Hp} {a0 : Nat} {x2 : Int32} {x3 : Int32} {x4 : Int32} {x5 : Int32} {r : Int32} {h1 : Hp}, X12_comesTo_16 F f a0 x2 x3 x4 x5 h = some (r, h1) → RI k d cX12_comesTo r h1 → Wz k d h 16 [(0, .ref (ka k a0)), (2, .int x2), (3, .int x3), (4, .int x4), (5, .int x5)] [] := by
  intro f
  induction f with
  | zero =>
    intro h a0 x2 x3 x4 x5 r h1 hf hr
    exact nomatch (show (none : Option _) = some _ from hf)
  | succ f ih =>
    intro h a0 x2 x3 x4 x5 r h1 hf hr
    rw [X12_comesTo_16] at hf
    refine x_iload o dX12_comesTo_16 4 rfl ?_
    refine x_iload_n o dX12_comesTo_18 1 rfl rfl ?_
    refine x_icmp_ge o 233 dX12_comesTo_19 (by decide) (fun q_1 => ?_) (fun q_1 => ?_)
    · replace hf := (if_pos q_1).symm.trans hf
      refine x_aload_n o dX12_comesTo_233 0 rfl rfl ?_
      obtain ⟨k_2, hf⟩ := gq_ex hf
      obtain ⟨j_3, ej_3, hf⟩ := ob_ex hf
      refine gRX12_62 o k_2 ej_3 dX12_comesTo_234 ?_
      refine x_iconst (v := 0) o dX12_comesTo_237 (by decide) ?_
      obtain ⟨k_4, hf⟩ := gq_ex hf
      obtain ⟨b_5, hf⟩ := gq_ex hf
      refine x_iald o k_4 b_5 dX12_comesTo_238 ?_
      cases hf
      exact hr _ _ dX12_comesTo_239
    · replace hf := (if_neg q_1).symm.trans hf
      refine x_aload_n o dX12_comesTo_22 0 rfl rfl ?_
      obtain ⟨k_6, hf⟩ := gq_ex hf
      obtain ⟨j_7, ej_7, hf⟩ := ob_ex hf
      refine gRX12_47 o k_6 ej_7 dX12_comesTo_23 ?_
      refine x_iload o dX12_comesTo_26 4 rfl ?_
      obtain ⟨k_8, hf⟩ := gq_ex hf
      obtain ⟨b_9, hf⟩ := gq_ex hf
      refine x_iald o k_8 b_9 dX12_comesTo_28 ?_
      refine x_ldc (v := 1048576) o dX12_comesTo_29 wRX12_162 ?_
      refine x_idiv o dX12_comesTo_31 (by decide) ?_
      obtain ⟨x6_10, ex6_10, hf⟩ := bd_ex hf
      refine x_top ex6_10 ?_
      refine x_istore o dX12_comesTo_32 (by decide) [(6, .int x6_10), (0, .ref (ka k a0)), (2, .int x2), (3, .int x3), (4, .int x4), (5, .int x5)] rfl ?_
      refine x_aload_n o dX12_comesTo_34 1 rfl rfl ?_
      refine gRX12_47 o k_6 ej_7 dX12_comesTo_35 ?_
      refine x_iload o dX12_comesTo_38 5 rfl ?_
      obtain ⟨b_11, hf⟩ := gq_ex hf
      refine x_iald o k_8 b_11 dX12_comesTo_40 ?_
      refine x_ldc (v := 1048576) o dX12_comesTo_41 wRX12_162 ?_
      refine x_irem o dX12_comesTo_43 (by decide) ?_
      obtain ⟨x7_12, ex7_12, hf⟩ := bd_ex hf
      refine x_top ex7_12 ?_
      refine x_istore o dX12_comesTo_44 (by decide) [(7, .int x7_12), (6, .int x6_10), (0, .ref (ka k a0)), (2, .int x2), (3, .int x3), (4, .int x4), (5, .int x5)] rfl ?_
      refine x_iload o dX12_comesTo_46 6 rfl ?_
      refine x_iconst (v := 1) o dX12_comesTo_48 (by decide) ?_
      refine x_iadd o dX12_comesTo_49 ?_
      obtain ⟨x5_13, ex5_13, hf⟩ := bd_ex hf
      refine x_top ex5_13 ?_
      refine x_istore o dX12_comesTo_50 (by decide) [(5, .int x5_13), (7, .int x7_12), (6, .int x6_10), (0, .ref (ka k a0)), (2, .int x2), (3, .int x3), (4, .int x4)] rfl ?_
      refine x_iload o dX12_comesTo_52 2 rfl ?_
      refine x_if_eq o 63 dX12_comesTo_54 (by decide) (fun q_14 => ?_) (fun q_14 => ?_)
      · replace hf := (if_pos q_14).symm.trans hf
        refine x_sub [3, 4, 5, 6, 0, 2, 1] [(0, .ref (ka k a0)), (2, .int x2), (3, .int x3), (4, .int x4), (5, .int x5_13), (6, .int x6_10), (7, .int x7_12)] rfl ?_
        exact S_X12_comesTo_63 o F (fun q1 q2 => ih q1 q2) hf hr
      · replace hf := (if_neg q_14).symm.trans hf
        refine x_iload o dX12_comesTo_57 2 rfl ?_
        refine x_iconst (v := 1) o dX12_comesTo_59 (by decide) ?_
        refine x_icmp_ne o 93 dX12_comesTo_60 (by decide) (fun q_15 => ?_) (fun q_15 => ?_)
        · replace hf := (if_neg q_15).symm.trans hf
          refine x_iload o dX12_comesTo_93 2 rfl ?_
          refine x_bipush (v := 10) o dX12_comesTo_95 (by decide) ?_
          refine x_icmp_ne o 121 dX12_comesTo_97 (by decide) (fun q_16 => ?_) (fun q_16 => ?_)
          · replace hf := (if_neg q_16).symm.trans hf
            refine x_iload o dX12_comesTo_121 2 rfl ?_
            refine x_bipush (v := 11) o dX12_comesTo_123 (by decide) ?_
            refine x_icmp_eq o 135 dX12_comesTo_125 (by decide) (fun q_17 => ?_) (fun q_17 => ?_)
            · replace hf := (if_pos q_17).symm.trans hf
              refine x_sub [3, 4, 5, 6, 0, 2, 1] [(0, .ref (ka k a0)), (2, .int x2), (3, .int x3), (4, .int x4), (5, .int x5_13), (6, .int x6_10), (7, .int x7_12)] rfl ?_
              exact S_X12_comesTo_135 o F (fun q1 q2 => ih q1 q2) hf hr
            · replace hf := (if_neg q_17).symm.trans hf
              refine x_iload o dX12_comesTo_128 2 rfl ?_
              refine x_bipush (v := 12) o dX12_comesTo_130 (by decide) ?_
              refine x_icmp_ne o 175 dX12_comesTo_132 (by decide) (fun q_18 => ?_) (fun q_18 => ?_)
              · replace hf := (if_neg q_18).symm.trans hf
                refine x_iload_n o dX12_comesTo_175 5 rfl rfl ?_
                refine x_iconst (v := 1) o dX12_comesTo_176 (by decide) ?_
                refine x_isub o dX12_comesTo_177 ?_
                obtain ⟨x3_19, ex3_19, hf⟩ := bd_ex hf
                refine x_top ex3_19 ?_
                refine x_istore_n o dX12_comesTo_178 (by decide) rfl [(3, .int x3_19), (5, .int x5_13), (7, .int x7_12), (6, .int x6_10), (0, .ref (ka k a0)), (2, .int x2), (4, .int x4)] rfl ?_
                refine x_iload o dX12_comesTo_179 3 rfl ?_
                refine x_iconst (v := 5) o dX12_comesTo_181 (by decide) ?_
                refine x_icmp_eq o 192 dX12_comesTo_182 (by decide) (fun q_20 => ?_) (fun q_20 => ?_)
                · replace hf := (if_pos q_20).symm.trans hf
                  refine x_sub [4, 5, 0, 6, 1, 3] [(0, .ref (ka k a0)), (2, .int x2), (3, .int x3_19), (4, .int x4), (5, .int x5_13), (6, .int x6_10)] rfl ?_
                  exact S_X12_comesTo_192 o F (fun q1 q2 => ih q1 q2) hf hr
                · replace hf := (if_neg q_20).symm.trans hf
                  refine x_iload o dX12_comesTo_185 3 rfl ?_
                  refine x_bipush (v := 6) o dX12_comesTo_187 (by decide) ?_
                  refine x_icmp_ne o 203 dX12_comesTo_189 (by decide) (fun q_21 => ?_) (fun q_21 => ?_)
                  · replace hf := (if_neg q_21).symm.trans hf
                    refine x_sub [4, 5, 0, 6, 1, 3] [(0, .ref (ka k a0)), (2, .int x2), (3, .int x3_19), (4, .int x4), (5, .int x5_13), (6, .int x6_10)] rfl ?_
                    exact S_X12_comesTo_203 o F (fun q1 q2 => ih q1 q2) hf hr
                  · replace hf := (if_pos q_21).symm.trans hf
                    refine x_sub [4, 5, 0, 6, 1, 3] [(0, .ref (ka k a0)), (2, .int x2), (3, .int x3_19), (4, .int x4), (5, .int x5_13), (6, .int x6_10)] rfl ?_
                    exact S_X12_comesTo_192 o F (fun q1 q2 => ih q1 q2) hf hr
              · replace hf := (if_pos q_18).symm.trans hf
                refine x_sub [3, 4, 5, 6, 0, 2, 1] [(0, .ref (ka k a0)), (2, .int x2), (3, .int x3), (4, .int x4), (5, .int x5_13), (6, .int x6_10), (7, .int x7_12)] rfl ?_
                exact S_X12_comesTo_135 o F (fun q1 q2 => ih q1 q2) hf hr
          · replace hf := (if_pos q_16).symm.trans hf
            refine x_aload_n o dX12_comesTo_100 3 rfl rfl ?_
            obtain ⟨j_22, ej_22, hf⟩ := ob_ex hf
            refine gRX12_62 o k_6 ej_22 dX12_comesTo_101 ?_
            refine x_iload_n o dX12_comesTo_104 5 rfl rfl ?_
            refine x_iconst (v := 1) o dX12_comesTo_105 (by decide) ?_
            refine x_isub o dX12_comesTo_106 ?_
            refine x_iconst (v := 1) o dX12_comesTo_107 (by decide) ?_
            refine x_aload_n o dX12_comesTo_108 3 rfl rfl ?_
            refine gRX12_62 o k_6 ej_22 dX12_comesTo_109 ?_
            refine x_iload_n o dX12_comesTo_112 5 rfl rfl ?_
            refine x_iconst (v := 1) o dX12_comesTo_113 (by decide) ?_
            refine x_isub o dX12_comesTo_114 ?_
            obtain ⟨k_23, hf⟩ := gq_ex hf
            obtain ⟨b_24, hf⟩ := gq_ex hf
            refine x_iald o k_23 b_24 dX12_comesTo_115 ?_
            refine x_isub o dX12_comesTo_116 ?_
            obtain ⟨b_25, hf⟩ := gq_ex hf
            obtain ⟨h_26, eh_26, hf⟩ := bd_ex hf
            refine x_iast o k_23 b_25 dX12_comesTo_117 (x_h eh_26 ?_)
            refine x_goto o 230 dX12_comesTo_118 (by decide) ?_
            refine x_sub [3, 4, 5, 6, 0] [(0, .ref (ka k a0)), (2, .int x2), (3, .int x3), (4, .int x4), (5, .int x5_13)] rfl ?_
            exact S_X12_comesTo_230 o F (fun q1 q2 => ih q1 q2) hf hr
        · replace hf := (if_pos q_15).symm.trans hf
          refine x_sub [3, 4, 5, 6, 0, 2, 1] [(0, .ref (ka k a0)), (2, .int x2), (3, .int x3), (4, .int x4), (5, .int x5_13), (6, .int x6_10), (7, .int x7_12)] rfl ?_
          exact S_X12_comesTo_63 o F (fun q1 q2 => ih q1 q2) hf hr
set_option maxRecDepth 100000 in
set_option maxHeartbeats 4000000 in
theorem S_X12_comesTo_0 {k : Kst} {d : Kdy} (o : Ok k d cX12_comesTo RX12 8 4) (F : Nat) {h : Hp} {a0 : Nat} {x1 : Int32} {x2 : Int32} {r : Int32} {h1 : Hp} (hf : X12_comesTo F a0 x1 x2 h = some (r, h1)) (hr : RI k d cX12_comesTo r h1) : Wz k d h 0 [(0, .ref (ka k a0)), (1, .int x1), (2, .int x2)] [] := by
  unfold X12_comesTo at hf
  refine x_iconst (v := 0) o dX12_comesTo_0 (by decide) ?_
  refine x_istore_n o dX12_comesTo_1 (by decide) rfl [(3, .int 0), (0, .ref (ka k a0)), (1, .int x1), (2, .int x2)] rfl ?_
  refine x_sipush (v := 260) o dX12_comesTo_2 (by decide) ?_
  refine x_iload_n o dX12_comesTo_5 2 rfl rfl ?_
  refine x_sipush (v := 260) o dX12_comesTo_6 (by decide) ?_
  refine x_idiv o dX12_comesTo_9 (by decide) ?_
  refine x_imul o dX12_comesTo_10 ?_
  obtain ⟨x4_1, ex4_1, hf⟩ := bd_ex hf
  refine x_top ex4_1 ?_
  refine x_istore o dX12_comesTo_11 (by decide) [(4, .int x4_1), (3, .int 0), (0, .ref (ka k a0)), (1, .int x1), (2, .int x2)] rfl ?_
  refine x_iload_n o dX12_comesTo_13 3 rfl rfl ?_
  refine x_istore o dX12_comesTo_14 (by decide) [(5, .int x1), (4, .int x4_1), (3, .int 0), (0, .ref (ka k a0)), (1, .int x1), (2, .int x2)] rfl ?_
  refine x_sub [3, 5, 2, 1, 0] [(0, .ref (ka k a0)), (2, .int x2), (3, .int 0), (4, .int x4_1), (5, .int x1)] rfl ?_
  exact S_X12_comesTo_16 o F _ hf hr
theorem C_X12_comesTo {k : Kst} (hj : Dj k) (hn : kn k = kdl.length) (F : Nat) {h : Hp} {a0 : Nat} {x1 : Int32} {x2 : Int32} {r : Int32} {h1 : Hp} (hf : X12_comesTo F a0 x1 x2 h = some (r, h1)) : MI k 4 yX12_comesTo cX12_comesTo 8 (some .int) [.ref (ka k a0), .int x1, .int x2] h r h1 := mI hj hn (by decide +kernel) (Nat.le_of_ble_eq_true rfl) (fun d o hr => S_X12_comesTo_0 o F hf hr)
set_option maxRecDepth 100000 in
set_option maxHeartbeats 4000000 in
theorem S_X12_byLaw_83 {k : Kst} {d : Kdy} (o : Ok k d cX12_byLaw RX12 5 5) (F : Nat) {k2 : Nat → Int32 → Int32 → Int32 → Hp → Option (Int32 × Hp)} (hk2 : ∀ {h : Hp} {a0 : Nat} {x1 : Int32} {x2 : Int32} {x3 : Int32} {r : Int32} {h1 : Hp}, k2 a0 x1 x2 x3 h = some (r, h1) → RI k d cX12_byLaw r h1 → Wz k d h 2 [(0, .ref (ka k a0)), (1, .int x1), (2, .int x2), (3, .int x3)] []) {h : Hp} {a0 : Nat} {x1 : Int32} {x2 : Int32} {x3 : Int32} {r : Int32} {h1 : Hp} (hf : X12_byLaw_83 F k2 a0 x1 x2 x3 h = some (r, h1)) (hr : RI k d cX12_byLaw r h1) : Wz k d h 83 [(0, .ref (ka k a0)), (1, .int x1), (2, .int x2), (3, .int x3)] [] := by
  unfold X12_byLaw_83 at hf
  obtain ⟨x3_1, ex3_1, hf⟩ := bd_ex hf
  refine x_iinc o dX12_byLaw_83 (by decide) 3 rfl ex3_1.symm [(3, .int x3_1), (0, .ref (ka k a0)), (1, .int x1), (2, .int x2)] rfl ?_
  refine x_goto o 2 dX12_byLaw_86 (by decide) ?_
  refine x_sub [1, 2, 3, 0] [(0, .ref (ka k a0)), (1, .int x1), (2, .int x2), (3, .int x3_1)] rfl ?_
  exact hk2 hf hr
set_option maxRecDepth 100000 in
set_option maxHeartbeats 4000000 in
theorem S_X12_byLaw_2 {k : Kst} {d : Kdy} (o : Ok k d cX12_byLaw RX12 5 5) (F : Nat) : ∀ (f : Nat) {h : Hp} {a0 : Nat} {x1 : Int32} {x2 : Int32} {x3 : Int32} {r : Int32} {h1 : Hp}, X12_byLaw_2 F f a0 x1 x2 x3 h = some (r, h1) → RI k d cX12_byLaw r h1 → Wz k d h 2 [(0, .ref (ka k a0)), (1, .int x1), (2, .int x2), (3, .int x3)] [] := by
  intro f
  induction f with
  | zero =>
    intro h a0 x1 x2 x3 r h1 hf hr
    exact nomatch (show (none : Option _) = some _ from hf)
  | succ f ih =>
    intro h a0 x1 x2 x3 r h1 hf hr
    rw [X12_byLaw_2] at hf
    refine x_iload_n o dX12_byLaw_2 3 rfl rfl ?_
    refine x_aload_n o dX12_byLaw_3 0 rfl rfl ?_
    obtain ⟨k_1, hf⟩ := gq_ex hf
    refine gRX12_229 o k_1 dX12_byLaw_4 ?_
    refine x_icmp_ge o 89 dX12_byLaw_7 (by decide) (fun q_2 => ?_) (fun q_2 => ?_)
    · replace hf := (if_pos q_2).symm.trans hf
      refine x_iconst (v := 0) o dX12_byLaw_89 (by decide) ?_
      cases hf
      exact hr _ _ dX12_byLaw_90
    · replace hf := (if_neg q_2).symm.trans hf
      refine x_aload_n o dX12_byLaw_10 0 rfl rfl ?_
      obtain ⟨j_3, ej_3, hf⟩ := ob_ex hf
      refine gRX12_50 o k_1 ej_3 dX12_byLaw_11 ?_
      refine x_iload_n o dX12_byLaw_14 3 rfl rfl ?_
      obtain ⟨k_4, hf⟩ := gq_ex hf
      obtain ⟨b_5, hf⟩ := gq_ex hf
      refine x_iald o k_4 b_5 dX12_byLaw_15 ?_
      refine x_iload_n o dX12_byLaw_16 1 rfl rfl ?_
      refine x_icmp_ne o 83 dX12_byLaw_17 (by decide) (fun q_6 => ?_) (fun q_6 => ?_)
      · replace hf := (if_neg q_6).symm.trans hf
        refine x_sub [0, 1, 2, 3] [(0, .ref (ka k a0)), (1, .int x1), (2, .int x2), (3, .int x3)] rfl ?_
        exact S_X12_byLaw_83 o F (fun q1 q2 => ih q1 q2) hf hr
      · replace hf := (if_pos q_6).symm.trans hf
        refine x_aload_n o dX12_byLaw_20 0 rfl rfl ?_
        refine x_aload_n o dX12_byLaw_21 0 rfl rfl ?_
        obtain ⟨j_7, ej_7, hf⟩ := ob_ex hf
        refine gRX12_56 o k_1 ej_7 dX12_byLaw_22 ?_
        refine x_iload_n o dX12_byLaw_25 3 rfl rfl ?_
        obtain ⟨k_8, hf⟩ := gq_ex hf
        obtain ⟨b_9, hf⟩ := gq_ex hf
        refine x_iald o k_8 b_9 dX12_byLaw_26 ?_
        refine x_aload_n o dX12_byLaw_27 0 rfl rfl ?_
        obtain ⟨j_10, ej_10, hf⟩ := ob_ex hf
        refine gRX12_59 o k_1 ej_10 dX12_byLaw_28 ?_
        refine x_iload_n o dX12_byLaw_31 3 rfl rfl ?_
        obtain ⟨k_11, hf⟩ := gq_ex hf
        obtain ⟨b_12, hf⟩ := gq_ex hf
        refine x_iald o k_11 b_12 dX12_byLaw_32 ?_
        obtain ⟨c_13, h_14, ec_13, hf⟩ := bq_ex hf
        refine vRX12_236 [.int (h.1 j_7 (ix x3)), .int (h.1 j_10 (ix x3))] [] o (C_X12_comesTo o.1.2.2.2.2.2.2.1 o.2 F ec_13) (by decide) k_1 rfl rfl (Nat.le_of_ble_eq_true rfl) dX12_byLaw_33 ?_
        refine x_iconst (v := 1) o dX12_byLaw_36 (by decide) ?_
        refine x_icmp_eq o 43 dX12_byLaw_37 (by decide) (fun q_15 => ?_) (fun q_15 => ?_)
        · replace hf := (if_pos q_15).symm.trans hf
          refine x_aload_n o dX12_byLaw_43 0 rfl rfl ?_
          refine x_aload_n o dX12_byLaw_44 0 rfl rfl ?_
          obtain ⟨j_16, ej_16, hf⟩ := ob_ex hf
          refine gRX12_53 o k_1 ej_16 dX12_byLaw_45 ?_
          refine x_iload_n o dX12_byLaw_48 3 rfl rfl ?_
          obtain ⟨k_17, hf⟩ := gq_ex hf
          obtain ⟨b_18, hf⟩ := gq_ex hf
          refine x_iald o k_17 b_18 dX12_byLaw_49 ?_
          refine x_aload_n o dX12_byLaw_50 0 rfl rfl ?_
          obtain ⟨j_19, ej_19, hf⟩ := ob_ex hf
          refine gRX12_56 o k_1 ej_19 dX12_byLaw_51 ?_
          refine x_iload_n o dX12_byLaw_54 3 rfl rfl ?_
          obtain ⟨k_20, hf⟩ := gq_ex hf
          obtain ⟨b_21, hf⟩ := gq_ex hf
          refine x_iald o k_20 b_21 dX12_byLaw_55 ?_
          obtain ⟨c_22, h_23, ec_22, hf⟩ := bq_ex hf
          refine vRX12_236 [.int (h_14.1 j_16 (ix x3)), .int (h_14.1 j_19 (ix x3))] [] o (C_X12_comesTo o.1.2.2.2.2.2.2.1 o.2 F ec_22) (by decide) k_1 rfl rfl (Nat.le_of_ble_eq_true rfl) dX12_byLaw_56 ?_
          refine x_istore o dX12_byLaw_59 (by decide) [(4, .int c_22), (0, .ref (ka k a0)), (1, .int x1), (2, .int x2), (3, .int x3)] rfl ?_
          refine x_iload o dX12_byLaw_61 0 rfl ?_
          refine x_if_ge o 70 dX12_byLaw_63 (by decide) (fun q_24 => ?_) (fun q_24 => ?_)
          · replace hf := (if_pos q_24).symm.trans hf
            refine x_iload o dX12_byLaw_70 0 rfl ?_
            refine x_iload_n o dX12_byLaw_72 3 rfl rfl ?_
            refine x_icmp_le o 80 dX12_byLaw_73 (by decide) (fun q_25 => ?_) (fun q_25 => ?_)
            · replace hf := (if_pos q_25).symm.trans hf
              refine x_iload o dX12_byLaw_80 0 rfl ?_
              cases hf
              exact hr _ _ dX12_byLaw_82
            · replace hf := (if_neg q_25).symm.trans hf
              refine x_iload_n o dX12_byLaw_76 3 rfl rfl ?_
              refine x_goto o 82 dX12_byLaw_77 (by decide) ?_
              cases hf
              exact hr _ _ dX12_byLaw_82
          · replace hf := (if_neg q_24).symm.trans hf
            refine x_iconst (v := 0) o dX12_byLaw_66 (by decide) ?_
            refine x_goto o 82 dX12_byLaw_67 (by decide) ?_
            cases hf
            exact hr _ _ dX12_byLaw_82
        · replace hf := (if_neg q_15).symm.trans hf
          refine x_goto o 83 dX12_byLaw_40 (by decide) ?_
          refine x_sub [0, 1, 2, 3] [(0, .ref (ka k a0)), (1, .int x1), (2, .int x2), (3, .int x3)] rfl ?_
          exact S_X12_byLaw_83 o F (fun q1 q2 => ih q1 q2) hf hr
set_option maxRecDepth 100000 in
set_option maxHeartbeats 4000000 in
theorem S_X12_byLaw_0 {k : Kst} {d : Kdy} (o : Ok k d cX12_byLaw RX12 5 5) (F : Nat) {h : Hp} {a0 : Nat} {x1 : Int32} {x2 : Int32} {r : Int32} {h1 : Hp} (hf : X12_byLaw F a0 x1 x2 h = some (r, h1)) (hr : RI k d cX12_byLaw r h1) : Wz k d h 0 [(0, .ref (ka k a0)), (1, .int x1), (2, .int x2)] [] := by
  unfold X12_byLaw at hf
  refine x_iconst (v := 0) o dX12_byLaw_0 (by decide) ?_
  refine x_istore_n o dX12_byLaw_1 (by decide) rfl [(3, .int 0), (0, .ref (ka k a0)), (1, .int x1), (2, .int x2)] rfl ?_
  refine x_sub [1, 2, 3, 0] [(0, .ref (ka k a0)), (1, .int x1), (2, .int x2), (3, .int 0)] rfl ?_
  exact S_X12_byLaw_2 o F _ hf hr
theorem C_X12_byLaw {k : Kst} (hj : Dj k) (hn : kn k = kdl.length) (F : Nat) {h : Hp} {a0 : Nat} {x1 : Int32} {x2 : Int32} {r : Int32} {h1 : Hp} (hf : X12_byLaw F a0 x1 x2 h = some (r, h1)) : MI k 5 yX12_byLaw cX12_byLaw 5 (some .int) [.ref (ka k a0), .int x1, .int x2] h r h1 := mI hj hn (by decide +kernel) (Nat.le_of_ble_eq_true rfl) (fun d o hr => S_X12_byLaw_0 o F hf hr)
set_option maxRecDepth 100000 in
set_option maxHeartbeats 4000000 in
theorem S_X12_holdsAny_42 {k : Kst} {d : Kdy} (o : Ok k d cX12_holdsAny RX12 3 5) (F : Nat) {k2 : Nat → Int32 → Int32 → Hp → Option (Int32 × Hp)} (hk2 : ∀ {h : Hp} {a0 : Nat} {x1 : Int32} {x2 : Int32} {r : Int32} {h1 : Hp}, k2 a0 x1 x2 h = some (r, h1) → RZ k d cX12_holdsAny r h1 → Wz k d h 2 [(0, .ref (ka k a0)), (1, .int x1), (2, .int x2)] []) {h : Hp} {a0 : Nat} {x1 : Int32} {x2 : Int32} {r : Int32} {h1 : Hp} (hf : X12_holdsAny_42 F k2 a0 x1 x2 h = some (r, h1)) (hr : RZ k d cX12_holdsAny r h1) : Wz k d h 42 [(0, .ref (ka k a0)), (1, .int x1), (2, .int x2)] [] := by
  unfold X12_holdsAny_42 at hf
  obtain ⟨x2_1, ex2_1, hf⟩ := bd_ex hf
  refine x_iinc o dX12_holdsAny_42 (by decide) 2 rfl ex2_1.symm [(2, .int x2_1), (0, .ref (ka k a0)), (1, .int x1)] rfl ?_
  refine x_goto o 2 dX12_holdsAny_45 (by decide) ?_
  refine x_sub [1, 2, 0] [(0, .ref (ka k a0)), (1, .int x1), (2, .int x2_1)] rfl ?_
  exact hk2 hf hr
set_option maxRecDepth 100000 in
set_option maxHeartbeats 4000000 in
theorem S_X12_holdsAny_2 {k : Kst} {d : Kdy} (o : Ok k d cX12_holdsAny RX12 3 5) (F : Nat) : ∀ (f : Nat) {h : Hp} {a0 : Nat} {x1 : Int32} {x2 : Int32} {r : Int32} {h1 : Hp}, X12_holdsAny_2 F f a0 x1 x2 h = some (r, h1) → RZ k d cX12_holdsAny r h1 → Wz k d h 2 [(0, .ref (ka k a0)), (1, .int x1), (2, .int x2)] [] := by
  intro f
  induction f with
  | zero =>
    intro h a0 x1 x2 r h1 hf hr
    exact nomatch (show (none : Option _) = some _ from hf)
  | succ f ih =>
    intro h a0 x1 x2 r h1 hf hr
    rw [X12_holdsAny_2] at hf
    refine x_iload_n o dX12_holdsAny_2 2 rfl rfl ?_
    refine x_aload_n o dX12_holdsAny_3 0 rfl rfl ?_
    obtain ⟨k_1, hf⟩ := gq_ex hf
    refine gRX12_229 o k_1 dX12_holdsAny_4 ?_
    refine x_icmp_ge o 48 dX12_holdsAny_7 (by decide) (fun q_2 => ?_) (fun q_2 => ?_)
    · replace hf := (if_pos q_2).symm.trans hf
      refine x_iconst (v := 0) o dX12_holdsAny_48 (by decide) ?_
      cases hf
      exact hr (Or.inl rfl) _ _ dX12_holdsAny_49
    · replace hf := (if_neg q_2).symm.trans hf
      refine x_aload_n o dX12_holdsAny_10 0 rfl rfl ?_
      obtain ⟨j_3, ej_3, hf⟩ := ob_ex hf
      refine gRX12_50 o k_1 ej_3 dX12_holdsAny_11 ?_
      refine x_iload_n o dX12_holdsAny_14 2 rfl rfl ?_
      obtain ⟨k_4, hf⟩ := gq_ex hf
      obtain ⟨b_5, hf⟩ := gq_ex hf
      refine x_iald o k_4 b_5 dX12_holdsAny_15 ?_
      refine x_iload_n o dX12_holdsAny_16 1 rfl rfl ?_
      refine x_icmp_ne o 42 dX12_holdsAny_17 (by decide) (fun q_6 => ?_) (fun q_6 => ?_)
      · replace hf := (if_neg q_6).symm.trans hf
        refine x_sub [0, 1, 2] [(0, .ref (ka k a0)), (1, .int x1), (2, .int x2)] rfl ?_
        exact S_X12_holdsAny_42 o F (fun q1 q2 => ih q1 q2) hf hr
      · replace hf := (if_pos q_6).symm.trans hf
        refine x_aload_n o dX12_holdsAny_20 0 rfl rfl ?_
        refine x_aload_n o dX12_holdsAny_21 0 rfl rfl ?_
        obtain ⟨j_7, ej_7, hf⟩ := ob_ex hf
        refine gRX12_56 o k_1 ej_7 dX12_holdsAny_22 ?_
        refine x_iload_n o dX12_holdsAny_25 2 rfl rfl ?_
        obtain ⟨k_8, hf⟩ := gq_ex hf
        obtain ⟨b_9, hf⟩ := gq_ex hf
        refine x_iald o k_8 b_9 dX12_holdsAny_26 ?_
        refine x_aload_n o dX12_holdsAny_27 0 rfl rfl ?_
        obtain ⟨j_10, ej_10, hf⟩ := ob_ex hf
        refine gRX12_59 o k_1 ej_10 dX12_holdsAny_28 ?_
        refine x_iload_n o dX12_holdsAny_31 2 rfl rfl ?_
        obtain ⟨k_11, hf⟩ := gq_ex hf
        obtain ⟨b_12, hf⟩ := gq_ex hf
        refine x_iald o k_11 b_12 dX12_holdsAny_32 ?_
        obtain ⟨c_13, h_14, ec_13, hf⟩ := bq_ex hf
        refine vRX12_236 [.int (h.1 j_7 (ix x2)), .int (h.1 j_10 (ix x2))] [] o (C_X12_comesTo o.1.2.2.2.2.2.2.1 o.2 F ec_13) (by decide) k_1 rfl rfl (Nat.le_of_ble_eq_true rfl) dX12_holdsAny_33 ?_
        refine x_iconst (v := 1) o dX12_holdsAny_36 (by decide) ?_
        refine x_icmp_ne o 42 dX12_holdsAny_37 (by decide) (fun q_15 => ?_) (fun q_15 => ?_)
        · replace hf := (if_neg q_15).symm.trans hf
          refine x_sub [0, 1, 2] [(0, .ref (ka k a0)), (1, .int x1), (2, .int x2)] rfl ?_
          exact S_X12_holdsAny_42 o F (fun q1 q2 => ih q1 q2) hf hr
        · replace hf := (if_pos q_15).symm.trans hf
          refine x_iconst (v := 1) o dX12_holdsAny_40 (by decide) ?_
          cases hf
          exact hr (Or.inr rfl) _ _ dX12_holdsAny_41
set_option maxRecDepth 100000 in
set_option maxHeartbeats 4000000 in
theorem S_X12_holdsAny_0 {k : Kst} {d : Kdy} (o : Ok k d cX12_holdsAny RX12 3 5) (F : Nat) {h : Hp} {a0 : Nat} {x1 : Int32} {r : Int32} {h1 : Hp} (hf : X12_holdsAny F a0 x1 h = some (r, h1)) (hr : RZ k d cX12_holdsAny r h1) : Wz k d h 0 [(0, .ref (ka k a0)), (1, .int x1)] [] := by
  unfold X12_holdsAny at hf
  refine x_iconst (v := 0) o dX12_holdsAny_0 (by decide) ?_
  refine x_istore_n o dX12_holdsAny_1 (by decide) rfl [(2, .int 0), (0, .ref (ka k a0)), (1, .int x1)] rfl ?_
  refine x_sub [1, 2, 0] [(0, .ref (ka k a0)), (1, .int x1), (2, .int 0)] rfl ?_
  exact S_X12_holdsAny_2 o F _ hf hr
theorem C_X12_holdsAny {k : Kst} (hj : Dj k) (hn : kn k = kdl.length) (F : Nat) {h : Hp} {a0 : Nat} {x1 : Int32} {r : Int32} {h1 : Hp} (hf : X12_holdsAny F a0 x1 h = some (r, h1)) : MI k 5 yX12_holdsAny cX12_holdsAny 3 (some .boolean) [.ref (ka k a0), .int x1] h r h1 := mZ hj hn (by decide +kernel) (Nat.le_of_ble_eq_true rfl) (fun d o hr => S_X12_holdsAny_0 o F hf hr)
set_option maxRecDepth 100000 in
set_option maxHeartbeats 4000000 in
theorem S_X12_readsTimes_0 {k : Kst} {d : Kdy} (o : Ok k d cX12_readsTimes RX12 1 4) (F : Nat) {h : Hp} {a0 : Nat} {h1 : Hp} (hf : X12_readsTimes F a0 h = some h1) (hr : RV k d cX12_readsTimes h1) : Wz k d h 0 [(0, .ref (ka k a0))] [] := by
  unfold X12_readsTimes at hf
  refine x_aload_n o dX12_readsTimes_0 0 rfl rfl ?_
  refine x_aload_n o dX12_readsTimes_1 0 rfl rfl ?_
  obtain ⟨k_1, hf⟩ := gq_ex hf
  refine gRX12_135 o k_1 dX12_readsTimes_2 ?_
  obtain ⟨h_2, eh_2, hf⟩ := bd_ex hf
  refine pRX12_239 o k_1 eh_2 dX12_readsTimes_5 ?_
  refine x_aload_n o dX12_readsTimes_8 0 rfl rfl ?_
  refine x_iconst (v := 1) o dX12_readsTimes_9 (by decide) ?_
  obtain ⟨h_3, eh_3, hf⟩ := bd_ex hf
  refine pRX12_242 o k_1 eh_3 dX12_readsTimes_10 ?_
  refine x_aload_n o dX12_readsTimes_13 0 rfl rfl ?_
  obtain ⟨c_4, ec_4, hf⟩ := ob_ex hf
  refine vRX12_141 [] [] o (C_X12_here o.1.2.2.2.2.2.2.1 o.2 F ec_4) (by decide) k_1 rfl rfl (Nat.le_of_ble_eq_true rfl) dX12_readsTimes_14 ?_
  refine x_bipush (v := 50) o dX12_readsTimes_17 (by decide) ?_
  refine x_bipush (v := 57) o dX12_readsTimes_19 (by decide) ?_
  obtain ⟨c_6, ec_6, hf⟩ := ob_ex hf
  refine vRX12_113 [.int c_4, .int 50, .int 57] [] o (C_X12_in o.1.2.2.2.2.2.2.1 o.2 F ec_6) (by decide) rfl rfl (Nat.le_of_ble_eq_true rfl) dX12_readsTimes_21 ?_
  refine x_if_eq o 55 dX12_readsTimes_24 (by decide) (fun q_8 => ?_) (fun q_8 => ?_)
  · replace hf := (if_pos q_8).symm.trans hf
    cases hf
    exact hr _ _ dX12_readsTimes_55
  · replace hf := (if_neg q_8).symm.trans hf
    refine x_aload_n o dX12_readsTimes_27 0 rfl rfl ?_
    refine gRX12_135 o k_1 dX12_readsTimes_28 ?_
    refine x_iconst (v := 1) o dX12_readsTimes_31 (by decide) ?_
    refine x_iadd o dX12_readsTimes_32 ?_
    refine x_aload_n o dX12_readsTimes_33 0 rfl rfl ?_
    refine gRX12_138 o k_1 dX12_readsTimes_34 ?_
    refine x_icmp_ge o 55 dX12_readsTimes_37 (by decide) (fun q_9 => ?_) (fun q_9 => ?_)
    · replace hf := (if_pos q_9).symm.trans hf
      cases hf
      exact hr _ _ dX12_readsTimes_55
    · replace hf := (if_neg q_9).symm.trans hf
      refine x_aload_n o dX12_readsTimes_40 0 rfl rfl ?_
      refine x_aload_n o dX12_readsTimes_41 0 rfl rfl ?_
      refine gRX12_135 o k_1 dX12_readsTimes_42 ?_
      refine x_iconst (v := 1) o dX12_readsTimes_45 (by decide) ?_
      refine x_iadd o dX12_readsTimes_46 ?_
      obtain ⟨c_10, ec_10, hf⟩ := ob_ex hf
      refine vRX12_245 [.int ((h_3.1 a0 8) + 1)] [] o (C_X12_octet o.1.2.2.2.2.2.2.1 o.2 F ec_10) (by decide) k_1 rfl rfl (Nat.le_of_ble_eq_true rfl) dX12_readsTimes_47 ?_
      refine x_bipush (v := 120) o dX12_readsTimes_50 (by decide) ?_
      refine x_icmp_eq o 56 dX12_readsTimes_52 (by decide) (fun q_12 => ?_) (fun q_12 => ?_)
      · replace hf := (if_pos q_12).symm.trans hf
        refine x_aload_n o dX12_readsTimes_56 0 rfl rfl ?_
        refine x_aload_n o dX12_readsTimes_57 0 rfl rfl ?_
        obtain ⟨c_13, ec_13, hf⟩ := ob_ex hf
        refine vRX12_141 [] [.ref (ka k a0)] o (C_X12_here o.1.2.2.2.2.2.2.1 o.2 F ec_13) (by decide) k_1 rfl rfl (Nat.le_of_ble_eq_true rfl) dX12_readsTimes_58 ?_
        refine x_bipush (v := 48) o dX12_readsTimes_61 (by decide) ?_
        refine x_isub o dX12_readsTimes_63 ?_
        obtain ⟨h_15, eh_15, hf⟩ := bd_ex hf
        refine pRX12_242 o k_1 eh_15 dX12_readsTimes_64 ?_
        refine x_aload_n o dX12_readsTimes_67 0 rfl rfl ?_
        refine x_aload_n o dX12_readsTimes_68 0 rfl rfl ?_
        refine gRX12_135 o k_1 dX12_readsTimes_69 ?_
        refine x_iconst (v := 2) o dX12_readsTimes_72 (by decide) ?_
        refine x_iadd o dX12_readsTimes_73 ?_
        obtain ⟨h_16, eh_16, hf⟩ := bd_ex hf
        refine pRX12_135 o k_1 eh_16 dX12_readsTimes_74 ?_
        cases hf
        exact hr _ _ dX12_readsTimes_77
      · replace hf := (if_neg q_12).symm.trans hf
        cases hf
        exact hr _ _ dX12_readsTimes_55
theorem C_X12_readsTimes {k : Kst} (hj : Dj k) (hn : kn k = kdl.length) (F : Nat) {h : Hp} {a0 : Nat} {h1 : Hp} (hf : X12_readsTimes F a0 h = some h1) : MV k 4 yX12_readsTimes cX12_readsTimes 1 [.ref (ka k a0)] h h1 := mV hj hn (by decide +kernel) (Nat.le_of_ble_eq_true rfl) (fun d o hr => S_X12_readsTimes_0 o F hf hr)
set_option maxRecDepth 100000 in
set_option maxHeartbeats 4000000 in
theorem S_X12_repeats_31 {k : Kst} {d : Kdy} (o : Ok k d cX12_repeats RX12 6 4) (F : Nat) : ∀ (f : Nat) {h : Hp} {a0 : Nat} {x1 : Int32} {x2 : Int32} {x4 : Int32} {x5 : Int32} {r : Int32} {h1 : Hp}, X12_repeats_31 F f a0 x1 x2 x4 x5 h = some (r, h1) → RZ k d cX12_repeats r h1 → Wz k d h 31 [(0, .ref (ka k a0)), (1, .int x1), (2, .int x2), (4, .int x4), (5, .int x5)] [] := by
  intro f
  induction f with
  | zero =>
    intro h a0 x1 x2 x4 x5 r h1 hf hr
    exact nomatch (show (none : Option _) = some _ from hf)
  | succ f ih =>
    intro h a0 x1 x2 x4 x5 r h1 hf hr
    rw [X12_repeats_31] at hf
    refine x_iload o dX12_repeats_31 4 rfl ?_
    refine x_iload o dX12_repeats_33 3 rfl ?_
    refine x_iload_n o dX12_repeats_35 2 rfl rfl ?_
    refine x_imul o dX12_repeats_36 ?_
    refine x_icmp_ge o 67 dX12_repeats_37 (by decide) (fun q_1 => ?_) (fun q_1 => ?_)
    · replace hf := (if_pos q_1).symm.trans hf
      refine x_aload_n o dX12_repeats_67 0 rfl rfl ?_
      refine x_iload_n o dX12_repeats_68 1 rfl rfl ?_
      refine x_iload o dX12_repeats_69 3 rfl ?_
      refine x_iload_n o dX12_repeats_71 2 rfl rfl ?_
      refine x_imul o dX12_repeats_72 ?_
      refine x_iadd o dX12_repeats_73 ?_
      obtain ⟨k_2, hf⟩ := gq_ex hf
      obtain ⟨h_3, eh_3, hf⟩ := bd_ex hf
      refine pRX12_248 o k_2 eh_3 dX12_repeats_74 ?_
      refine x_iconst (v := 1) o dX12_repeats_77 (by decide) ?_
      cases hf
      exact hr (Or.inr rfl) _ _ dX12_repeats_78
    · replace hf := (if_neg q_1).symm.trans hf
      refine x_aload_n o dX12_repeats_40 0 rfl rfl ?_
      obtain ⟨k_4, hf⟩ := gq_ex hf
      obtain ⟨j_5, ej_5, hf⟩ := ob_ex hf
      refine gRX12_68 o k_4 ej_5 dX12_repeats_41 ?_
      refine x_iload_n o dX12_repeats_44 1 rfl rfl ?_
      refine x_iload o dX12_repeats_45 4 rfl ?_
      refine x_iadd o dX12_repeats_47 ?_
      refine x_aload_n o dX12_repeats_48 0 rfl rfl ?_
      refine gRX12_68 o k_4 ej_5 dX12_repeats_49 ?_
      refine x_iload_n o dX12_repeats_52 1 rfl rfl ?_
      refine x_iload o dX12_repeats_53 4 rfl ?_
      refine x_iadd o dX12_repeats_55 ?_
      refine x_iload o dX12_repeats_56 3 rfl ?_
      refine x_isub o dX12_repeats_58 ?_
      obtain ⟨k_6, hf⟩ := gq_ex hf
      obtain ⟨b_7, hf⟩ := gq_ex hf
      refine x_iald o k_6 b_7 dX12_repeats_59 ?_
      obtain ⟨b_8, hf⟩ := gq_ex hf
      obtain ⟨h_9, eh_9, hf⟩ := bd_ex hf
      refine x_iast o k_6 b_8 dX12_repeats_60 (x_h eh_9 ?_)
      obtain ⟨x5_10, ex5_10, hf⟩ := bd_ex hf
      refine x_iinc o dX12_repeats_61 (by decide) 4 rfl ex5_10.symm [(5, .int x5_10), (0, .ref (ka k a0)), (1, .int x1), (2, .int x2), (4, .int x4)] rfl ?_
      refine x_goto o 31 dX12_repeats_64 (by decide) ?_
      refine x_sub [1, 2, 3, 4, 0] [(0, .ref (ka k a0)), (1, .int x1), (2, .int x2), (4, .int x4), (5, .int x5_10)] rfl ?_
      exact ih hf hr
set_option maxRecDepth 100000 in
set_option maxHeartbeats 4000000 in
theorem S_X12_repeats_0 {k : Kst} {d : Kdy} (o : Ok k d cX12_repeats RX12 6 4) (F : Nat) {h : Hp} {a0 : Nat} {x1 : Int32} {x2 : Int32} {x3 : Int32} {r : Int32} {h1 : Hp} (hf : X12_repeats F a0 x1 x2 x3 h = some (r, h1)) (hr : RZ k d cX12_repeats r h1) : Wz k d h 0 [(0, .ref (ka k a0)), (1, .int x1), (2, .int x2), (3, .int x3)] [] := by
  unfold X12_repeats at hf
  refine x_aload_n o dX12_repeats_0 0 rfl rfl ?_
  obtain ⟨k_1, hf⟩ := gq_ex hf
  refine gRX12_248 o k_1 dX12_repeats_1 ?_
  refine x_iload_n o dX12_repeats_4 1 rfl rfl ?_
  refine x_isub o dX12_repeats_5 ?_
  obtain ⟨x4_2, ex4_2, hf⟩ := bd_ex hf
  refine x_top ex4_2 ?_
  refine x_istore o dX12_repeats_6 (by decide) [(4, .int x4_2), (0, .ref (ka k a0)), (1, .int x1), (2, .int x2), (3, .int x3)] rfl ?_
  refine x_iload_n o dX12_repeats_8 2 rfl rfl ?_
  refine x_iload o dX12_repeats_9 0 rfl ?_
  refine x_iload_n o dX12_repeats_11 3 rfl rfl ?_
  refine x_imul o dX12_repeats_12 ?_
  refine x_iadd o dX12_repeats_13 ?_
  refine x_bipush (v := 20) o dX12_repeats_14 (by decide) ?_
  refine x_icmp_le o 27 dX12_repeats_16 (by decide) (fun q_3 => ?_) (fun q_3 => ?_)
  · replace hf := (if_pos q_3).symm.trans hf
    refine x_iload o dX12_repeats_27 0 rfl ?_
    refine x_istore o dX12_repeats_29 (by decide) [(5, .int x4_2), (4, .int x4_2), (0, .ref (ka k a0)), (1, .int x1), (2, .int x2), (3, .int x3)] rfl ?_
    refine x_sub [2, 3, 4, 1, 0] [(0, .ref (ka k a0)), (1, .int x1), (2, .int x2), (4, .int x4_2), (5, .int x4_2)] rfl ?_
    exact S_X12_repeats_31 o F _ hf hr
  · replace hf := (if_neg q_3).symm.trans hf
    refine x_aload_n o dX12_repeats_19 1 rfl rfl ?_
    refine x_bipush (v := 6) o dX12_repeats_20 (by decide) ?_
    refine x_iload_n o dX12_repeats_22 4 rfl rfl ?_
    obtain ⟨c_4, h_5, ec_4, hf⟩ := bq_ex hf
    refine vRX12_148 [.int 6, .int x3] [] o (C_X12_wrongAt o.1.2.2.2.2.2.2.1 o.2 F ec_4) (by decide) k_1 rfl rfl (Nat.le_of_ble_eq_true rfl) dX12_repeats_23 ?_
    obtain ⟨n_6, hf⟩ := gq_ex hf
    cases hf
    exact hr n_6 _ _ dX12_repeats_26
theorem C_X12_repeats {k : Kst} (hj : Dj k) (hn : kn k = kdl.length) (F : Nat) {h : Hp} {a0 : Nat} {x1 : Int32} {x2 : Int32} {x3 : Int32} {r : Int32} {h1 : Hp} (hf : X12_repeats F a0 x1 x2 x3 h = some (r, h1)) : MI k 4 yX12_repeats cX12_repeats 6 (some .boolean) [.ref (ka k a0), .int x1, .int x2, .int x3] h r h1 := mZ hj hn (by decide +kernel) (Nat.le_of_ble_eq_true rfl) (fun d o hr => S_X12_repeats_0 o F hf hr)
set_option maxRecDepth 100000 in
set_option maxHeartbeats 4000000 in
theorem S_X12_readsAmount_27 {k : Kst} {d : Kdy} (o : Ok k d cX12_readsAmount RX12 3 5) (F : Nat) : ∀ (f : Nat) {h : Hp} {a0 : Nat} {x1 : Int32} {x2 : Int32} {r : Int32} {h1 : Hp}, X12_readsAmount_27 F f a0 x1 x2 h = some (r, h1) → RZ k d cX12_readsAmount r h1 → Wz k d h 27 [(0, .ref (ka k a0)), (1, .int x1), (2, .int x2)] [] := by
  intro f
  induction f with
  | zero =>
    intro h a0 x1 x2 r h1 hf hr
    exact nomatch (show (none : Option _) = some _ from hf)
  | succ f ih =>
    intro h a0 x1 x2 r h1 hf hr
    rw [X12_readsAmount_27] at hf
    refine x_aload_n o dX12_readsAmount_27 0 rfl rfl ?_
    obtain ⟨k_1, hf⟩ := gq_ex hf
    obtain ⟨c_2, ec_2, hf⟩ := ob_ex hf
    refine vRX12_155 [] [] o (C_X12_isDigit o.1.2.2.2.2.2.2.1 o.2 F ec_2) (by decide) k_1 rfl rfl (Nat.le_of_ble_eq_true rfl) dX12_readsAmount_28 ?_
    refine x_if_eq o 86 dX12_readsAmount_31 (by decide) (fun q_4 => ?_) (fun q_4 => ?_)
    · replace hf := (if_pos q_4).symm.trans hf
      refine x_iconst (v := 1) o dX12_readsAmount_86 (by decide) ?_
      cases hf
      exact hr (Or.inr rfl) _ _ dX12_readsAmount_87
    · replace hf := (if_neg q_4).symm.trans hf
      refine x_aload_n o dX12_readsAmount_34 0 rfl rfl ?_
      refine gRX12_135 o k_1 dX12_readsAmount_35 ?_
      refine x_iload_n o dX12_readsAmount_38 2 rfl rfl ?_
      refine x_iload_n o dX12_readsAmount_39 1 rfl rfl ?_
      refine x_iadd o dX12_readsAmount_40 ?_
      refine x_icmp_ne o 54 dX12_readsAmount_41 (by decide) (fun q_5 => ?_) (fun q_5 => ?_)
      · replace hf := (if_neg q_5).symm.trans hf
        refine x_aload_n o dX12_readsAmount_54 0 rfl rfl ?_
        refine x_bipush (v := 10) o dX12_readsAmount_55 (by decide) ?_
        refine x_aload_n o dX12_readsAmount_57 0 rfl rfl ?_
        refine gRX12_152 o k_1 dX12_readsAmount_58 ?_
        refine x_imul o dX12_readsAmount_61 ?_
        refine x_aload_n o dX12_readsAmount_62 0 rfl rfl ?_
        obtain ⟨c_6, ec_6, hf⟩ := ob_ex hf
        refine vRX12_141 [] [.int (10 * (h.1 a0 11)), .ref (ka k a0)] o (C_X12_here o.1.2.2.2.2.2.2.1 o.2 F ec_6) (by decide) k_1 rfl rfl (Nat.le_of_ble_eq_true rfl) dX12_readsAmount_63 ?_
        refine x_iadd o dX12_readsAmount_66 ?_
        refine x_bipush (v := 48) o dX12_readsAmount_67 (by decide) ?_
        refine x_isub o dX12_readsAmount_69 ?_
        obtain ⟨h_8, eh_8, hf⟩ := bd_ex hf
        refine pRX12_152 o k_1 eh_8 dX12_readsAmount_70 ?_
        refine x_aload_n o dX12_readsAmount_73 0 rfl rfl ?_
        refine x_aload_n o dX12_readsAmount_74 0 rfl rfl ?_
        refine gRX12_135 o k_1 dX12_readsAmount_75 ?_
        refine x_iconst (v := 1) o dX12_readsAmount_78 (by decide) ?_
        refine x_iadd o dX12_readsAmount_79 ?_
        obtain ⟨h_9, eh_9, hf⟩ := bd_ex hf
        refine pRX12_135 o k_1 eh_9 dX12_readsAmount_80 ?_
        refine x_goto o 27 dX12_readsAmount_83 (by decide) ?_
        refine x_sub [0, 1, 2] [(0, .ref (ka k a0)), (1, .int x1), (2, .int x2)] rfl ?_
        exact ih hf hr
      · replace hf := (if_pos q_5).symm.trans hf
        refine x_aload_n o dX12_readsAmount_44 0 rfl rfl ?_
        refine x_iconst (v := 2) o dX12_readsAmount_45 (by decide) ?_
        refine x_aload_n o dX12_readsAmount_46 0 rfl rfl ?_
        refine gRX12_135 o k_1 dX12_readsAmount_47 ?_
        obtain ⟨c_10, h_11, ec_10, hf⟩ := bq_ex hf
        refine vRX12_148 [.int 2, .int (h.1 a0 8)] [] o (C_X12_wrongAt o.1.2.2.2.2.2.2.1 o.2 F ec_10) (by decide) k_1 rfl rfl (Nat.le_of_ble_eq_true rfl) dX12_readsAmount_50 ?_
        obtain ⟨n_12, hf⟩ := gq_ex hf
        cases hf
        exact hr n_12 _ _ dX12_readsAmount_53
set_option maxRecDepth 100000 in
set_option maxHeartbeats 4000000 in
theorem S_X12_readsAmount_0 {k : Kst} {d : Kdy} (o : Ok k d cX12_readsAmount RX12 3 5) (F : Nat) {h : Hp} {a0 : Nat} {x1 : Int32} {r : Int32} {h1 : Hp} (hf : X12_readsAmount F a0 x1 h = some (r, h1)) (hr : RZ k d cX12_readsAmount r h1) : Wz k d h 0 [(0, .ref (ka k a0)), (1, .int x1)] [] := by
  unfold X12_readsAmount at hf
  refine x_aload_n o dX12_readsAmount_0 0 rfl rfl ?_
  obtain ⟨k_1, hf⟩ := gq_ex hf
  refine gRX12_135 o k_1 dX12_readsAmount_1 ?_
  obtain ⟨x2_2, ex2_2, hf⟩ := bd_ex hf
  refine x_top ex2_2 ?_
  refine x_istore_n o dX12_readsAmount_4 (by decide) rfl [(2, .int x2_2), (0, .ref (ka k a0)), (1, .int x1)] rfl ?_
  refine x_aload_n o dX12_readsAmount_5 1 rfl rfl ?_
  obtain ⟨c_3, ec_3, hf⟩ := ob_ex hf
  refine vRX12_155 [] [] o (C_X12_isDigit o.1.2.2.2.2.2.2.1 o.2 F ec_3) (by decide) k_1 rfl rfl (Nat.le_of_ble_eq_true rfl) dX12_readsAmount_6 ?_
  refine x_if_ne o 22 dX12_readsAmount_9 (by decide) (fun q_5 => ?_) (fun q_5 => ?_)
  · replace hf := (if_neg q_5).symm.trans hf
    refine x_aload_n o dX12_readsAmount_22 1 rfl rfl ?_
    refine x_iconst (v := 0) o dX12_readsAmount_23 (by decide) ?_
    obtain ⟨h_6, eh_6, hf⟩ := bd_ex hf
    refine pRX12_152 o k_1 eh_6 dX12_readsAmount_24 ?_
    refine x_sub [1, 2, 0] [(0, .ref (ka k a0)), (1, .int x1), (2, .int x2_2)] rfl ?_
    exact S_X12_readsAmount_27 o F _ hf hr
  · replace hf := (if_pos q_5).symm.trans hf
    refine x_aload_n o dX12_readsAmount_12 1 rfl rfl ?_
    refine x_iconst (v := 1) o dX12_readsAmount_13 (by decide) ?_
    refine x_aload_n o dX12_readsAmount_14 1 rfl rfl ?_
    refine gRX12_135 o k_1 dX12_readsAmount_15 ?_
    obtain ⟨c_7, h_8, ec_7, hf⟩ := bq_ex hf
    refine vRX12_148 [.int 1, .int (h.1 a0 8)] [] o (C_X12_wrongAt o.1.2.2.2.2.2.2.1 o.2 F ec_7) (by decide) k_1 rfl rfl (Nat.le_of_ble_eq_true rfl) dX12_readsAmount_18 ?_
    obtain ⟨n_9, hf⟩ := gq_ex hf
    cases hf
    exact hr n_9 _ _ dX12_readsAmount_21
theorem C_X12_readsAmount {k : Kst} (hj : Dj k) (hn : kn k = kdl.length) (F : Nat) {h : Hp} {a0 : Nat} {x1 : Int32} {r : Int32} {h1 : Hp} (hf : X12_readsAmount F a0 x1 h = some (r, h1)) : MI k 5 yX12_readsAmount cX12_readsAmount 3 (some .boolean) [.ref (ka k a0), .int x1] h r h1 := mZ hj hn (by decide +kernel) (Nat.le_of_ble_eq_true rfl) (fun d o hr => S_X12_readsAmount_0 o F hf hr)
set_option maxRecDepth 100000 in
set_option maxHeartbeats 4000000 in
theorem S_X12_readsItem_202 {k : Kst} {d : Kdy} (o : Ok k d cX12_readsItem RX12 4 6) (F : Nat) : ∀ (f : Nat) {h : Hp} {a0 : Nat} {r : Int32} {h1 : Hp}, X12_readsItem_202 F f a0 h = some (r, h1) → RZ k d cX12_readsItem r h1 → Wz k d h 202 [(0, .ref (ka k a0))] [] := by
  intro f
  induction f with
  | zero =>
    intro h a0 r h1 hf hr
    exact nomatch (show (none : Option _) = some _ from hf)
  | succ f ih =>
    intro h a0 r h1 hf hr
    rw [X12_readsItem_202] at hf
    refine x_aload_n o dX12_readsItem_202 0 rfl rfl ?_
    obtain ⟨k_1, hf⟩ := gq_ex hf
    obtain ⟨c_2, ec_2, hf⟩ := ob_ex hf
    refine vRX12_141 [] [] o (C_X12_here o.1.2.2.2.2.2.2.1 o.2 F ec_2) (by decide) k_1 rfl rfl (Nat.le_of_ble_eq_true rfl) dX12_readsItem_203 ?_
    refine x_bipush (v := 41) o dX12_readsItem_206 (by decide) ?_
    refine x_icmp_ne o 274 dX12_readsItem_208 (by decide) (fun q_4 => ?_) (fun q_4 => ?_)
    · replace hf := (if_neg q_4).symm.trans hf
      refine x_iconst (v := 1) o dX12_readsItem_274 (by decide) ?_
      cases hf
      exact hr (Or.inr rfl) _ _ dX12_readsItem_275
    · replace hf := (if_pos q_4).symm.trans hf
      refine x_aload_n o dX12_readsItem_211 0 rfl rfl ?_
      refine gRX12_254 o k_1 dX12_readsItem_212 ?_
      refine x_if_le o 274 dX12_readsItem_215 (by decide) (fun q_5 => ?_) (fun q_5 => ?_)
      · replace hf := (if_pos q_5).symm.trans hf
        refine x_iconst (v := 1) o dX12_readsItem_274 (by decide) ?_
        cases hf
        exact hr (Or.inr rfl) _ _ dX12_readsItem_275
      · replace hf := (if_neg q_5).symm.trans hf
        refine x_aload_n o dX12_readsItem_218 0 rfl rfl ?_
        refine x_aload_n o dX12_readsItem_219 0 rfl rfl ?_
        refine gRX12_135 o k_1 dX12_readsItem_220 ?_
        refine x_iconst (v := 1) o dX12_readsItem_223 (by decide) ?_
        refine x_iadd o dX12_readsItem_224 ?_
        obtain ⟨h_6, eh_6, hf⟩ := bd_ex hf
        refine pRX12_135 o k_1 eh_6 dX12_readsItem_225 ?_
        refine x_aload_n o dX12_readsItem_228 0 rfl rfl ?_
        refine x_aload_n o dX12_readsItem_229 0 rfl rfl ?_
        refine gRX12_254 o k_1 dX12_readsItem_230 ?_
        refine x_iconst (v := 1) o dX12_readsItem_233 (by decide) ?_
        refine x_isub o dX12_readsItem_234 ?_
        obtain ⟨h_7, eh_7, hf⟩ := bd_ex hf
        refine pRX12_254 o k_1 eh_7 dX12_readsItem_235 ?_
        refine x_aload_n o dX12_readsItem_238 0 rfl rfl ?_
        refine x_aload_n o dX12_readsItem_239 0 rfl rfl ?_
        obtain ⟨j_8, ej_8, hf⟩ := ob_ex hf
        refine gRX12_74 o k_1 ej_8 dX12_readsItem_240 ?_
        refine x_aload_n o dX12_readsItem_243 0 rfl rfl ?_
        refine gRX12_254 o k_1 dX12_readsItem_244 ?_
        obtain ⟨k_9, hf⟩ := gq_ex hf
        obtain ⟨b_10, hf⟩ := gq_ex hf
        refine x_iald o k_9 b_10 dX12_readsItem_247 ?_
        refine x_aload_n o dX12_readsItem_248 0 rfl rfl ?_
        obtain ⟨j_11, ej_11, hf⟩ := ob_ex hf
        refine gRX12_77 o k_1 ej_11 dX12_readsItem_249 ?_
        refine x_aload_n o dX12_readsItem_252 0 rfl rfl ?_
        refine gRX12_254 o k_1 dX12_readsItem_253 ?_
        obtain ⟨k_12, hf⟩ := gq_ex hf
        obtain ⟨b_13, hf⟩ := gq_ex hf
        refine x_iald o k_12 b_13 dX12_readsItem_256 ?_
        refine x_aload_n o dX12_readsItem_257 0 rfl rfl ?_
        obtain ⟨j_14, ej_14, hf⟩ := ob_ex hf
        refine gRX12_71 o k_1 ej_14 dX12_readsItem_258 ?_
        refine x_aload_n o dX12_readsItem_261 0 rfl rfl ?_
        refine gRX12_254 o k_1 dX12_readsItem_262 ?_
        obtain ⟨k_15, hf⟩ := gq_ex hf
        obtain ⟨b_16, hf⟩ := gq_ex hf
        refine x_iald o k_15 b_16 dX12_readsItem_265 ?_
        obtain ⟨c_17, h_18, ec_17, hf⟩ := bq_ex hf
        refine vRX12_260 [.int (h_7.1 j_8 (ix (h_7.1 a0 35))), .int (h_7.1 j_11 (ix (h_7.1 a0 35))), .int (h_7.1 j_14 (ix (h_7.1 a0 35)))] [] o (C_X12_repeats o.1.2.2.2.2.2.2.1 o.2 F ec_17) (by decide) k_1 rfl rfl (Nat.le_of_ble_eq_true rfl) dX12_readsItem_266 ?_
        refine x_if_ne o 202 dX12_readsItem_269 (by decide) (fun q_19 => ?_) (fun q_19 => ?_)
        · replace hf := (if_neg q_19).symm.trans hf
          refine x_sub [0] [(0, .ref (ka k a0))] rfl ?_
          exact ih hf hr
        · replace hf := (if_pos q_19).symm.trans hf
          refine x_iconst (v := 0) o dX12_readsItem_272 (by decide) ?_
          cases hf
          exact hr (Or.inl rfl) _ _ dX12_readsItem_273
set_option maxRecDepth 100000 in
set_option maxHeartbeats 4000000 in
theorem S_X12_readsItem_4 {k : Kst} {d : Kdy} (o : Ok k d cX12_readsItem RX12 4 6) (F : Nat) : ∀ (f : Nat) {h : Hp} {a0 : Nat} {r : Int32} {h1 : Hp}, X12_readsItem_4 F f a0 h = some (r, h1) → RZ k d cX12_readsItem r h1 → Wz k d h 4 [(0, .ref (ka k a0))] [] := by
  intro f
  induction f with
  | zero =>
    intro h a0 r h1 hf hr
    exact nomatch (show (none : Option _) = some _ from hf)
  | succ f ih =>
    intro h a0 r h1 hf hr
    rw [X12_readsItem_4] at hf
    refine x_aload_n o dX12_readsItem_4 0 rfl rfl ?_
    obtain ⟨k_1, hf⟩ := gq_ex hf
    obtain ⟨c_2, ec_2, hf⟩ := ob_ex hf
    refine vRX12_141 [] [] o (C_X12_here o.1.2.2.2.2.2.2.1 o.2 F ec_2) (by decide) k_1 rfl rfl (Nat.le_of_ble_eq_true rfl) dX12_readsItem_5 ?_
    refine x_bipush (v := 40) o dX12_readsItem_8 (by decide) ?_
    refine x_icmp_ne o 97 dX12_readsItem_10 (by decide) (fun q_4 => ?_) (fun q_4 => ?_)
    · replace hf := (if_neg q_4).symm.trans hf
      refine x_aload_n o dX12_readsItem_97 0 rfl rfl ?_
      refine gRX12_239 o k_1 dX12_readsItem_98 ?_
      obtain ⟨x1_5, ex1_5, hf⟩ := bd_ex hf
      refine x_top ex1_5 ?_
      refine x_istore_n o dX12_readsItem_101 (by decide) rfl [(1, .int x1_5), (0, .ref (ka k a0))] rfl ?_
      refine x_aload_n o dX12_readsItem_102 1 rfl rfl ?_
      refine gRX12_242 o k_1 dX12_readsItem_103 ?_
      obtain ⟨x2_6, ex2_6, hf⟩ := bd_ex hf
      refine x_top ex2_6 ?_
      refine x_istore_n o dX12_readsItem_106 (by decide) rfl [(2, .int x2_6), (1, .int x1_5), (0, .ref (ka k a0))] rfl ?_
      refine x_aload_n o dX12_readsItem_107 2 rfl rfl ?_
      refine gRX12_135 o k_1 dX12_readsItem_108 ?_
      obtain ⟨x3_7, ex3_7, hf⟩ := bd_ex hf
      refine x_top ex3_7 ?_
      refine x_istore_n o dX12_readsItem_111 (by decide) rfl [(3, .int x3_7), (2, .int x2_6), (1, .int x1_5), (0, .ref (ka k a0))] rfl ?_
      refine x_aload_n o dX12_readsItem_112 3 rfl rfl ?_
      refine x_iconst (v := 3) o dX12_readsItem_113 (by decide) ?_
      obtain ⟨c_8, h_9, ec_8, hf⟩ := bq_ex hf
      refine vRX12_257 [.int 3] [] o (C_X12_readsAmount o.1.2.2.2.2.2.2.1 o.2 F ec_8) (by decide) k_1 rfl rfl (Nat.le_of_ble_eq_true rfl) dX12_readsItem_114 ?_
      refine x_if_ne o 122 dX12_readsItem_117 (by decide) (fun q_10 => ?_) (fun q_10 => ?_)
      · replace hf := (if_neg q_10).symm.trans hf
        refine x_aload_n o dX12_readsItem_122 3 rfl rfl ?_
        refine gRX12_152 o k_1 dX12_readsItem_123 ?_
        refine x_iconst (v := 1) o dX12_readsItem_126 (by decide) ?_
        refine x_sipush (v := 255) o dX12_readsItem_127 (by decide) ?_
        obtain ⟨c_11, ec_11, hf⟩ := ob_ex hf
        refine vRX12_113 [.int (h_9.1 a0 11), .int 1, .int 255] [] o (C_X12_in o.1.2.2.2.2.2.2.1 o.2 F ec_11) (by decide) rfl rfl (Nat.le_of_ble_eq_true rfl) dX12_readsItem_130 ?_
        refine x_if_ne o 143 dX12_readsItem_133 (by decide) (fun q_13 => ?_) (fun q_13 => ?_)
        · replace hf := (if_neg q_13).symm.trans hf
          refine x_aload_n o dX12_readsItem_143 3 rfl rfl ?_
          refine gRX12_248 o k_1 dX12_readsItem_144 ?_
          refine x_iload_n o dX12_readsItem_147 1 rfl rfl ?_
          refine x_iadd o dX12_readsItem_148 ?_
          refine x_bipush (v := 20) o dX12_readsItem_149 (by decide) ?_
          refine x_icmp_le o 162 dX12_readsItem_151 (by decide) (fun q_14 => ?_) (fun q_14 => ?_)
          · replace hf := (if_pos q_14).symm.trans hf
            refine x_aload_n o dX12_readsItem_162 3 rfl rfl ?_
            obtain ⟨j_15, ej_15, hf⟩ := ob_ex hf
            refine gRX12_68 o k_1 ej_15 dX12_readsItem_163 ?_
            refine x_aload_n o dX12_readsItem_166 3 rfl rfl ?_
            refine gRX12_248 o k_1 dX12_readsItem_167 ?_
            refine x_aload_n o dX12_readsItem_170 3 rfl rfl ?_
            refine gRX12_152 o k_1 dX12_readsItem_171 ?_
            obtain ⟨k_16, hf⟩ := gq_ex hf
            obtain ⟨b_17, hf⟩ := gq_ex hf
            obtain ⟨h_18, eh_18, hf⟩ := bd_ex hf
            refine x_iast o k_16 b_17 dX12_readsItem_174 (x_h eh_18 ?_)
            refine x_aload_n o dX12_readsItem_175 3 rfl rfl ?_
            refine x_aload_n o dX12_readsItem_176 3 rfl rfl ?_
            refine gRX12_248 o k_1 dX12_readsItem_177 ?_
            refine x_iconst (v := 1) o dX12_readsItem_180 (by decide) ?_
            refine x_iadd o dX12_readsItem_181 ?_
            obtain ⟨h_19, eh_19, hf⟩ := bd_ex hf
            refine pRX12_248 o k_1 eh_19 dX12_readsItem_182 ?_
            refine x_aload_n o dX12_readsItem_185 3 rfl rfl ?_
            refine x_aload_n o dX12_readsItem_186 3 rfl rfl ?_
            refine gRX12_248 o k_1 dX12_readsItem_187 ?_
            refine x_iconst (v := 1) o dX12_readsItem_190 (by decide) ?_
            refine x_isub o dX12_readsItem_191 ?_
            refine x_iload_n o dX12_readsItem_192 1 rfl rfl ?_
            refine x_iload_n o dX12_readsItem_193 2 rfl rfl ?_
            obtain ⟨c_20, h_21, ec_20, hf⟩ := bq_ex hf
            refine vRX12_260 [.int ((h_19.1 a0 34) - 1), .int x2_6, .int x1_5] [] o (C_X12_repeats o.1.2.2.2.2.2.2.1 o.2 F ec_20) (by decide) k_1 rfl rfl (Nat.le_of_ble_eq_true rfl) dX12_readsItem_194 ?_
            refine x_if_ne o 202 dX12_readsItem_197 (by decide) (fun q_22 => ?_) (fun q_22 => ?_)
            · replace hf := (if_neg q_22).symm.trans hf
              refine x_sub [3] [(0, .ref (ka k a0))] rfl ?_
              exact S_X12_readsItem_202 o F _ hf hr
            · replace hf := (if_pos q_22).symm.trans hf
              refine x_iconst (v := 0) o dX12_readsItem_200 (by decide) ?_
              cases hf
              exact hr (Or.inl rfl) _ _ dX12_readsItem_201
          · replace hf := (if_neg q_14).symm.trans hf
            refine x_aload_n o dX12_readsItem_154 3 rfl rfl ?_
            refine x_bipush (v := 6) o dX12_readsItem_155 (by decide) ?_
            refine x_iload_n o dX12_readsItem_157 2 rfl rfl ?_
            obtain ⟨c_23, h_24, ec_23, hf⟩ := bq_ex hf
            refine vRX12_148 [.int 6, .int x1_5] [] o (C_X12_wrongAt o.1.2.2.2.2.2.2.1 o.2 F ec_23) (by decide) k_1 rfl rfl (Nat.le_of_ble_eq_true rfl) dX12_readsItem_158 ?_
            obtain ⟨n_25, hf⟩ := gq_ex hf
            cases hf
            exact hr n_25 _ _ dX12_readsItem_161
        · replace hf := (if_pos q_13).symm.trans hf
          refine x_aload_n o dX12_readsItem_136 3 rfl rfl ?_
          refine x_iconst (v := 3) o dX12_readsItem_137 (by decide) ?_
          refine x_iload_n o dX12_readsItem_138 0 rfl rfl ?_
          obtain ⟨c_26, h_27, ec_26, hf⟩ := bq_ex hf
          refine vRX12_148 [.int 3, .int x3_7] [] o (C_X12_wrongAt o.1.2.2.2.2.2.2.1 o.2 F ec_26) (by decide) k_1 rfl rfl (Nat.le_of_ble_eq_true rfl) dX12_readsItem_139 ?_
          obtain ⟨n_28, hf⟩ := gq_ex hf
          cases hf
          exact hr n_28 _ _ dX12_readsItem_142
      · replace hf := (if_pos q_10).symm.trans hf
        refine x_iconst (v := 0) o dX12_readsItem_120 (by decide) ?_
        cases hf
        exact hr (Or.inl rfl) _ _ dX12_readsItem_121
    · replace hf := (if_pos q_4).symm.trans hf
      refine x_aload_n o dX12_readsItem_13 0 rfl rfl ?_
      refine gRX12_254 o k_1 dX12_readsItem_14 ?_
      refine x_iconst (v := 2) o dX12_readsItem_17 (by decide) ?_
      refine x_icmp_ne o 31 dX12_readsItem_18 (by decide) (fun q_29 => ?_) (fun q_29 => ?_)
      · replace hf := (if_neg q_29).symm.trans hf
        refine x_aload_n o dX12_readsItem_31 0 rfl rfl ?_
        obtain ⟨j_30, ej_30, hf⟩ := ob_ex hf
        refine gRX12_71 o k_1 ej_30 dX12_readsItem_32 ?_
        refine x_aload_n o dX12_readsItem_35 0 rfl rfl ?_
        refine gRX12_254 o k_1 dX12_readsItem_36 ?_
        refine x_aload_n o dX12_readsItem_39 0 rfl rfl ?_
        refine gRX12_239 o k_1 dX12_readsItem_40 ?_
        obtain ⟨k_31, hf⟩ := gq_ex hf
        obtain ⟨b_32, hf⟩ := gq_ex hf
        obtain ⟨h_33, eh_33, hf⟩ := bd_ex hf
        refine x_iast o k_31 b_32 dX12_readsItem_43 (x_h eh_33 ?_)
        refine x_aload_n o dX12_readsItem_44 0 rfl rfl ?_
        obtain ⟨j_34, ej_34, hf⟩ := ob_ex hf
        refine gRX12_74 o k_1 ej_34 dX12_readsItem_45 ?_
        refine x_aload_n o dX12_readsItem_48 0 rfl rfl ?_
        refine gRX12_254 o k_1 dX12_readsItem_49 ?_
        refine x_aload_n o dX12_readsItem_52 0 rfl rfl ?_
        refine gRX12_248 o k_1 dX12_readsItem_53 ?_
        obtain ⟨k_35, hf⟩ := gq_ex hf
        obtain ⟨b_36, hf⟩ := gq_ex hf
        obtain ⟨h_37, eh_37, hf⟩ := bd_ex hf
        refine x_iast o k_35 b_36 dX12_readsItem_56 (x_h eh_37 ?_)
        refine x_aload_n o dX12_readsItem_57 0 rfl rfl ?_
        obtain ⟨j_38, ej_38, hf⟩ := ob_ex hf
        refine gRX12_77 o k_1 ej_38 dX12_readsItem_58 ?_
        refine x_aload_n o dX12_readsItem_61 0 rfl rfl ?_
        refine gRX12_254 o k_1 dX12_readsItem_62 ?_
        refine x_aload_n o dX12_readsItem_65 0 rfl rfl ?_
        refine gRX12_242 o k_1 dX12_readsItem_66 ?_
        obtain ⟨k_39, hf⟩ := gq_ex hf
        obtain ⟨b_40, hf⟩ := gq_ex hf
        obtain ⟨h_41, eh_41, hf⟩ := bd_ex hf
        refine x_iast o k_39 b_40 dX12_readsItem_69 (x_h eh_41 ?_)
        refine x_aload_n o dX12_readsItem_70 0 rfl rfl ?_
        refine x_aload_n o dX12_readsItem_71 0 rfl rfl ?_
        refine gRX12_254 o k_1 dX12_readsItem_72 ?_
        refine x_iconst (v := 1) o dX12_readsItem_75 (by decide) ?_
        refine x_iadd o dX12_readsItem_76 ?_
        obtain ⟨h_42, eh_42, hf⟩ := bd_ex hf
        refine pRX12_254 o k_1 eh_42 dX12_readsItem_77 ?_
        refine x_aload_n o dX12_readsItem_80 0 rfl rfl ?_
        refine x_aload_n o dX12_readsItem_81 0 rfl rfl ?_
        refine gRX12_135 o k_1 dX12_readsItem_82 ?_
        refine x_iconst (v := 1) o dX12_readsItem_85 (by decide) ?_
        refine x_iadd o dX12_readsItem_86 ?_
        obtain ⟨h_43, eh_43, hf⟩ := bd_ex hf
        refine pRX12_135 o k_1 eh_43 dX12_readsItem_87 ?_
        refine x_aload_n o dX12_readsItem_90 0 rfl rfl ?_
        obtain ⟨h_45, eh_45, hf⟩ := ob_ex hf
        refine vRX12_251 [] [] o (C_X12_readsTimes o.1.2.2.2.2.2.2.1 o.2 F eh_45) (by decide) k_1 rfl rfl (Nat.le_of_ble_eq_true rfl) dX12_readsItem_91 ?_
        refine x_goto o 4 dX12_readsItem_94 (by decide) ?_
        refine x_sub [0] [(0, .ref (ka k a0))] rfl ?_
        exact ih hf hr
      · replace hf := (if_pos q_29).symm.trans hf
        refine x_aload_n o dX12_readsItem_21 0 rfl rfl ?_
        refine x_iconst (v := 5) o dX12_readsItem_22 (by decide) ?_
        refine x_aload_n o dX12_readsItem_23 0 rfl rfl ?_
        refine gRX12_135 o k_1 dX12_readsItem_24 ?_
        obtain ⟨c_46, h_47, ec_46, hf⟩ := bq_ex hf
        refine vRX12_148 [.int 5, .int (h.1 a0 8)] [] o (C_X12_wrongAt o.1.2.2.2.2.2.2.1 o.2 F ec_46) (by decide) k_1 rfl rfl (Nat.le_of_ble_eq_true rfl) dX12_readsItem_27 ?_
        obtain ⟨n_48, hf⟩ := gq_ex hf
        cases hf
        exact hr n_48 _ _ dX12_readsItem_30
set_option maxRecDepth 100000 in
set_option maxHeartbeats 4000000 in
theorem S_X12_readsItem_0 {k : Kst} {d : Kdy} (o : Ok k d cX12_readsItem RX12 4 6) (F : Nat) {h : Hp} {a0 : Nat} {r : Int32} {h1 : Hp} (hf : X12_readsItem F a0 h = some (r, h1)) (hr : RZ k d cX12_readsItem r h1) : Wz k d h 0 [(0, .ref (ka k a0))] [] := by
  unfold X12_readsItem at hf
  refine x_aload_n o dX12_readsItem_0 0 rfl rfl ?_
  obtain ⟨k_1, hf⟩ := gq_ex hf
  obtain ⟨h_3, eh_3, hf⟩ := ob_ex hf
  refine vRX12_251 [] [] o (C_X12_readsTimes o.1.2.2.2.2.2.2.1 o.2 F eh_3) (by decide) k_1 rfl rfl (Nat.le_of_ble_eq_true rfl) dX12_readsItem_1 ?_
  refine x_sub [0] [(0, .ref (ka k a0))] rfl ?_
  exact S_X12_readsItem_4 o F _ hf hr
theorem C_X12_readsItem {k : Kst} (hj : Dj k) (hn : kn k = kdl.length) (F : Nat) {h : Hp} {a0 : Nat} {r : Int32} {h1 : Hp} (hf : X12_readsItem F a0 h = some (r, h1)) : MI k 6 yX12_readsItem cX12_readsItem 4 (some .boolean) [.ref (ka k a0)] h r h1 := mZ hj hn (by decide +kernel) (Nat.le_of_ble_eq_true rfl) (fun d o hr => S_X12_readsItem_0 o F hf hr)
set_option maxRecDepth 100000 in
set_option maxHeartbeats 4000000 in
theorem S_X12_plan_121 {k : Kst} {d : Kdy} (o : Ok k d cX12_plan RX12 5 7) (F : Nat) : ∀ (f : Nat) {h : Hp} {a0 : Nat} {x1 : Int32} {x4 : Int32} {r : Int32} {h1 : Hp}, X12_plan_121 F f a0 x1 x4 h = some (r, h1) → RI k d cX12_plan r h1 → Wz k d h 121 [(0, .ref (ka k a0)), (1, .int x1), (4, .int x4)] [] := by
  intro f
  induction f with
  | zero =>
    intro h a0 x1 x4 r h1 hf hr
    exact nomatch (show (none : Option _) = some _ from hf)
  | succ f ih =>
    intro h a0 x1 x4 r h1 hf hr
    rw [X12_plan_121] at hf
    refine x_iload o dX12_plan_121 2 rfl ?_
    refine x_aload_n o dX12_plan_123 0 rfl rfl ?_
    obtain ⟨k_1, hf⟩ := gq_ex hf
    refine gRX12_248 o k_1 dX12_plan_124 ?_
    refine x_icmp_ge o 155 dX12_plan_127 (by decide) (fun q_2 => ?_) (fun q_2 => ?_)
    · replace hf := (if_pos q_2).symm.trans hf
      refine x_aload_n o dX12_plan_155 0 rfl rfl ?_
      refine gRX12_248 o k_1 dX12_plan_156 ?_
      cases hf
      exact hr _ _ dX12_plan_159
    · replace hf := (if_neg q_2).symm.trans hf
      refine x_aload_n o dX12_plan_130 0 rfl rfl ?_
      obtain ⟨j_3, ej_3, hf⟩ := ob_ex hf
      refine gRX12_22 o k_1 ej_3 dX12_plan_131 ?_
      refine x_bipush (v := 20) o dX12_plan_134 (by decide) ?_
      refine x_iload_n o dX12_plan_136 1 rfl rfl ?_
      refine x_imul o dX12_plan_137 ?_
      refine x_iload o dX12_plan_138 2 rfl ?_
      refine x_iadd o dX12_plan_140 ?_
      refine x_aload_n o dX12_plan_141 0 rfl rfl ?_
      obtain ⟨j_4, ej_4, hf⟩ := ob_ex hf
      refine gRX12_68 o k_1 ej_4 dX12_plan_142 ?_
      refine x_iload o dX12_plan_145 2 rfl ?_
      obtain ⟨k_5, hf⟩ := gq_ex hf
      obtain ⟨b_6, hf⟩ := gq_ex hf
      refine x_iald o k_5 b_6 dX12_plan_147 ?_
      obtain ⟨k_7, hf⟩ := gq_ex hf
      obtain ⟨b_8, hf⟩ := gq_ex hf
      obtain ⟨h_9, eh_9, hf⟩ := bd_ex hf
      refine x_iast o k_7 b_8 dX12_plan_148 (x_h eh_9 ?_)
      obtain ⟨x4_10, ex4_10, hf⟩ := bd_ex hf
      refine x_iinc o dX12_plan_149 (by decide) 2 rfl ex4_10.symm [(4, .int x4_10), (0, .ref (ka k a0)), (1, .int x1)] rfl ?_
      refine x_goto o 121 dX12_plan_152 (by decide) ?_
      refine x_sub [1, 2, 0] [(0, .ref (ka k a0)), (1, .int x1), (4, .int x4_10)] rfl ?_
      exact ih hf hr
set_option maxRecDepth 100000 in
set_option maxHeartbeats 4000000 in
theorem S_X12_plan_94 {k : Kst} {d : Kdy} (o : Ok k d cX12_plan RX12 5 7) (F : Nat) {h : Hp} {a0 : Nat} {x1 : Int32} {x3 : Int32} {r : Int32} {h1 : Hp} (hf : X12_plan_94 F a0 x1 x3 h = some (r, h1)) (hr : RI k d cX12_plan r h1) : Wz k d h 94 [(0, .ref (ka k a0)), (1, .int x1), (3, .int x3)] [] := by
  unfold X12_plan_94 at hf
  refine x_aload_n o dX12_plan_94 0 rfl rfl ?_
  refine x_iconst (v := 0) o dX12_plan_95 (by decide) ?_
  obtain ⟨k_1, hf⟩ := gq_ex hf
  obtain ⟨h_2, eh_2, hf⟩ := bd_ex hf
  refine pRX12_128 o k_1 eh_2 dX12_plan_96 ?_
  refine x_iload_n o dX12_plan_99 2 rfl rfl ?_
  refine x_if_ne o 108 dX12_plan_100 (by decide) (fun q_3 => ?_) (fun q_3 => ?_)
  · replace hf := (if_neg q_3).symm.trans hf
    refine x_aload_n o dX12_plan_108 0 rfl rfl ?_
    obtain ⟨j_4, ej_4, hf⟩ := ob_ex hf
    refine gRX12_19 o k_1 ej_4 dX12_plan_109 ?_
    refine x_iload_n o dX12_plan_112 1 rfl rfl ?_
    refine x_aload_n o dX12_plan_113 0 rfl rfl ?_
    refine gRX12_248 o k_1 dX12_plan_114 ?_
    obtain ⟨k_5, hf⟩ := gq_ex hf
    obtain ⟨b_6, hf⟩ := gq_ex hf
    obtain ⟨h_7, eh_7, hf⟩ := bd_ex hf
    refine x_iast o k_5 b_6 dX12_plan_117 (x_h eh_7 ?_)
    refine x_iconst (v := 0) o dX12_plan_118 (by decide) ?_
    refine x_istore o dX12_plan_119 (by decide) [(4, .int 0), (0, .ref (ka k a0)), (1, .int x1), (3, .int x3)] rfl ?_
    refine x_sub [1, 2, 0] [(0, .ref (ka k a0)), (1, .int x1), (4, .int 0)] rfl ?_
    exact S_X12_plan_121 o F _ hf hr
  · replace hf := (if_pos q_3).symm.trans hf
    refine x_aload_n o dX12_plan_103 0 rfl rfl ?_
    refine gRX12_145 o k_1 dX12_plan_104 ?_
    cases hf
    exact hr _ _ dX12_plan_107
set_option maxRecDepth 100000 in
set_option maxHeartbeats 4000000 in
theorem S_X12_plan_90 {k : Kst} {d : Kdy} (o : Ok k d cX12_plan RX12 5 7) (F : Nat) {k47 : Nat → Int32 → Int32 → Hp → Option (Int32 × Hp)} (hk47 : ∀ {h : Hp} {a0 : Nat} {x1 : Int32} {x3 : Int32} {r : Int32} {h1 : Hp}, k47 a0 x1 x3 h = some (r, h1) → RI k d cX12_plan r h1 → Wz k d h 47 [(0, .ref (ka k a0)), (1, .int x1), (3, .int x3)] []) {h : Hp} {a0 : Nat} {x1 : Int32} {s0 : Int32} {r : Int32} {h1 : Hp} (hf : X12_plan_90 F k47 a0 x1 s0 h = some (r, h1)) (hr : RI k d cX12_plan r h1) : Wz k d h 90 [(0, .ref (ka k a0)), (1, .int x1)] [.int s0] := by
  unfold X12_plan_90 at hf
  refine x_istore_n o dX12_plan_90 (by decide) rfl [(3, .int s0), (0, .ref (ka k a0)), (1, .int x1)] rfl ?_
  refine x_goto o 47 dX12_plan_91 (by decide) ?_
  refine x_sub [1, 2, 0] [(0, .ref (ka k a0)), (1, .int x1), (3, .int s0)] rfl ?_
  exact hk47 hf hr
set_option maxRecDepth 100000 in
set_option maxHeartbeats 4000000 in
theorem S_X12_plan_89 {k : Kst} {d : Kdy} (o : Ok k d cX12_plan RX12 5 7) (F : Nat) {k47 : Nat → Int32 → Int32 → Hp → Option (Int32 × Hp)} (hk47 : ∀ {h : Hp} {a0 : Nat} {x1 : Int32} {x3 : Int32} {r : Int32} {h1 : Hp}, k47 a0 x1 x3 h = some (r, h1) → RI k d cX12_plan r h1 → Wz k d h 47 [(0, .ref (ka k a0)), (1, .int x1), (3, .int x3)] []) {h : Hp} {a0 : Nat} {x1 : Int32} {r : Int32} {h1 : Hp} (hf : X12_plan_89 F k47 a0 x1 h = some (r, h1)) (hr : RI k d cX12_plan r h1) : Wz k d h 89 [(0, .ref (ka k a0)), (1, .int x1)] [] := by
  unfold X12_plan_89 at hf
  refine x_iconst (v := 0) o dX12_plan_89 (by decide) ?_
  refine x_sub [0, 1] [(0, .ref (ka k a0)), (1, .int x1)] rfl ?_
  exact S_X12_plan_90 o F hk47 hf hr
set_option maxRecDepth 100000 in
set_option maxHeartbeats 4000000 in
theorem S_X12_plan_69 {k : Kst} {d : Kdy} (o : Ok k d cX12_plan RX12 5 7) (F : Nat) {k47 : Nat → Int32 → Int32 → Hp → Option (Int32 × Hp)} (hk47 : ∀ {h : Hp} {a0 : Nat} {x1 : Int32} {x3 : Int32} {r : Int32} {h1 : Hp}, k47 a0 x1 x3 h = some (r, h1) → RI k d cX12_plan r h1 → Wz k d h 47 [(0, .ref (ka k a0)), (1, .int x1), (3, .int x3)] []) {h : Hp} {a0 : Nat} {x1 : Int32} {r : Int32} {h1 : Hp} (hf : X12_plan_69 F k47 a0 x1 h = some (r, h1)) (hr : RI k d cX12_plan r h1) : Wz k d h 69 [(0, .ref (ka k a0)), (1, .int x1)] [] := by
  unfold X12_plan_69 at hf
  refine x_aload_n o dX12_plan_69 0 rfl rfl ?_
  refine x_bipush (v := 44) o dX12_plan_70 (by decide) ?_
  obtain ⟨k_1, hf⟩ := gq_ex hf
  obtain ⟨c_2, h_3, ec_2, hf⟩ := bq_ex hf
  refine vRX12_226 [.int 44] [] o (C_X12_takes o.1.2.2.2.2.2.2.1 o.2 F ec_2) (by decide) k_1 rfl rfl (Nat.le_of_ble_eq_true rfl) dX12_plan_72 ?_
  refine x_if_eq o 89 dX12_plan_75 (by decide) (fun q_4 => ?_) (fun q_4 => ?_)
  · replace hf := (if_pos q_4).symm.trans hf
    refine x_sub [0, 1] [(0, .ref (ka k a0)), (1, .int x1)] rfl ?_
    exact S_X12_plan_89 o F hk47 hf hr
  · replace hf := (if_neg q_4).symm.trans hf
    refine x_aload_n o dX12_plan_78 0 rfl rfl ?_
    obtain ⟨c_5, h_6, ec_5, hf⟩ := bq_ex hf
    refine vRX12_266 [] [] o (C_X12_readsItem o.1.2.2.2.2.2.2.1 o.2 F ec_5) (by decide) k_1 rfl rfl (Nat.le_of_ble_eq_true rfl) dX12_plan_79 ?_
    refine x_if_eq o 89 dX12_plan_82 (by decide) (fun q_7 => ?_) (fun q_7 => ?_)
    · replace hf := (if_pos q_7).symm.trans hf
      refine x_sub [0, 1] [(0, .ref (ka k a0)), (1, .int x1)] rfl ?_
      exact S_X12_plan_89 o F hk47 hf hr
    · replace hf := (if_neg q_7).symm.trans hf
      refine x_iconst (v := 1) o dX12_plan_85 (by decide) ?_
      refine x_goto o 90 dX12_plan_86 (by decide) ?_
      refine x_sub [0, 1] [(0, .ref (ka k a0)), (1, .int x1)] rfl ?_
      exact S_X12_plan_90 o F hk47 hf hr
set_option maxRecDepth 100000 in
set_option maxHeartbeats 4000000 in
theorem S_X12_plan_47 {k : Kst} {d : Kdy} (o : Ok k d cX12_plan RX12 5 7) (F : Nat) : ∀ (f : Nat) {h : Hp} {a0 : Nat} {x1 : Int32} {x3 : Int32} {r : Int32} {h1 : Hp}, X12_plan_47 F f a0 x1 x3 h = some (r, h1) → RI k d cX12_plan r h1 → Wz k d h 47 [(0, .ref (ka k a0)), (1, .int x1), (3, .int x3)] [] := by
  intro f
  induction f with
  | zero =>
    intro h a0 x1 x3 r h1 hf hr
    exact nomatch (show (none : Option _) = some _ from hf)
  | succ f ih =>
    intro h a0 x1 x3 r h1 hf hr
    rw [X12_plan_47] at hf
    refine x_iload_n o dX12_plan_47 2 rfl rfl ?_
    refine x_if_eq o 94 dX12_plan_48 (by decide) (fun q_1 => ?_) (fun q_1 => ?_)
    · replace hf := (if_pos q_1).symm.trans hf
      refine x_sub [0, 1, 2] [(0, .ref (ka k a0)), (1, .int x1), (3, .int x3)] rfl ?_
      exact S_X12_plan_94 o F hf hr
    · replace hf := (if_neg q_1).symm.trans hf
      refine x_aload_n o dX12_plan_51 0 rfl rfl ?_
      obtain ⟨k_2, hf⟩ := gq_ex hf
      refine gRX12_135 o k_2 dX12_plan_52 ?_
      refine x_aload_n o dX12_plan_55 0 rfl rfl ?_
      refine gRX12_138 o k_2 dX12_plan_56 ?_
      refine x_icmp_lt o 69 dX12_plan_59 (by decide) (fun q_3 => ?_) (fun q_3 => ?_)
      · replace hf := (if_pos q_3).symm.trans hf
        refine x_sub [0, 1] [(0, .ref (ka k a0)), (1, .int x1)] rfl ?_
        exact S_X12_plan_69 o F (fun q1 q2 => ih q1 q2) hf hr
      · replace hf := (if_neg q_3).symm.trans hf
        refine x_aload_n o dX12_plan_62 0 rfl rfl ?_
        refine gRX12_254 o k_2 dX12_plan_63 ?_
        refine x_if_le o 94 dX12_plan_66 (by decide) (fun q_4 => ?_) (fun q_4 => ?_)
        · replace hf := (if_pos q_4).symm.trans hf
          refine x_sub [0, 1, 2] [(0, .ref (ka k a0)), (1, .int x1), (3, .int x3)] rfl ?_
          exact S_X12_plan_94 o F hf hr
        · replace hf := (if_neg q_4).symm.trans hf
          refine x_sub [0, 1] [(0, .ref (ka k a0)), (1, .int x1)] rfl ?_
          exact S_X12_plan_69 o F (fun q1 q2 => ih q1 q2) hf hr
set_option maxRecDepth 100000 in
set_option maxHeartbeats 4000000 in
theorem S_X12_plan_0 {k : Kst} {d : Kdy} (o : Ok k d cX12_plan RX12 5 7) (F : Nat) {h : Hp} {a0 : Nat} {x1 : Int32} {x2 : Int32} {r : Int32} {h1 : Hp} (hf : X12_plan F a0 x1 x2 h = some (r, h1)) (hr : RI k d cX12_plan r h1) : Wz k d h 0 [(0, .ref (ka k a0)), (1, .int x1), (2, .int x2)] [] := by
  unfold X12_plan at hf
  refine x_iload_n o dX12_plan_0 1 rfl rfl ?_
  obtain ⟨c_1, ec_1, hf⟩ := ob_ex hf
  refine vRX12_263 [.int x1] [] o (C_X12_isSide o.1.2.2.2.2.2.2.1 o.2 F ec_1) (by decide) rfl rfl (Nat.le_of_ble_eq_true rfl) dX12_plan_1 ?_
  refine x_if_eq o 25 dX12_plan_4 (by decide) (fun q_3 => ?_) (fun q_3 => ?_)
  · replace hf := (if_pos q_3).symm.trans hf
    refine x_iconst (v := (-1)) o dX12_plan_25 (by decide) ?_
    cases hf
    exact hr _ _ dX12_plan_26
  · replace hf := (if_neg q_3).symm.trans hf
    refine x_iload_n o dX12_plan_7 2 rfl rfl ?_
    refine x_iconst (v := 1) o dX12_plan_8 (by decide) ?_
    refine x_bipush (v := 80) o dX12_plan_9 (by decide) ?_
    obtain ⟨c_4, ec_4, hf⟩ := ob_ex hf
    refine vRX12_113 [.int x2, .int 1, .int 80] [] o (C_X12_in o.1.2.2.2.2.2.2.1 o.2 F ec_4) (by decide) rfl rfl (Nat.le_of_ble_eq_true rfl) dX12_plan_11 ?_
    refine x_if_eq o 25 dX12_plan_14 (by decide) (fun q_6 => ?_) (fun q_6 => ?_)
    · replace hf := (if_pos q_6).symm.trans hf
      refine x_iconst (v := (-1)) o dX12_plan_25 (by decide) ?_
      cases hf
      exact hr _ _ dX12_plan_26
    · replace hf := (if_neg q_6).symm.trans hf
      refine x_iload_n o dX12_plan_17 2 rfl rfl ?_
      refine x_aload_n o dX12_plan_18 0 rfl rfl ?_
      obtain ⟨k_7, hf⟩ := gq_ex hf
      refine gRX12_128 o k_7 dX12_plan_19 ?_
      refine x_icmp_le o 27 dX12_plan_22 (by decide) (fun q_8 => ?_) (fun q_8 => ?_)
      · replace hf := (if_pos q_8).symm.trans hf
        refine x_aload_n o dX12_plan_27 0 rfl rfl ?_
        refine x_iload_n o dX12_plan_28 2 rfl rfl ?_
        obtain ⟨h_10, eh_10, hf⟩ := ob_ex hf
        refine vRX12_220 [.int x2] [] o (C_X12_beginsText o.1.2.2.2.2.2.2.1 o.2 F eh_10) (by decide) k_7 rfl rfl (Nat.le_of_ble_eq_true rfl) dX12_plan_29 ?_
        refine x_aload_n o dX12_plan_32 0 rfl rfl ?_
        refine x_iconst (v := 0) o dX12_plan_33 (by decide) ?_
        obtain ⟨h_11, eh_11, hf⟩ := bd_ex hf
        refine pRX12_248 o k_7 eh_11 dX12_plan_34 ?_
        refine x_aload_n o dX12_plan_37 0 rfl rfl ?_
        refine x_iconst (v := 0) o dX12_plan_38 (by decide) ?_
        obtain ⟨h_12, eh_12, hf⟩ := bd_ex hf
        refine pRX12_254 o k_7 eh_12 dX12_plan_39 ?_
        refine x_aload_n o dX12_plan_42 0 rfl rfl ?_
        obtain ⟨c_13, h_14, ec_13, hf⟩ := bq_ex hf
        refine vRX12_266 [] [] o (C_X12_readsItem o.1.2.2.2.2.2.2.1 o.2 F ec_13) (by decide) k_7 rfl rfl (Nat.le_of_ble_eq_true rfl) dX12_plan_43 ?_
        refine x_istore_n o dX12_plan_46 (by decide) rfl [(3, .int c_13), (0, .ref (ka k a0)), (1, .int x1), (2, .int x2)] rfl ?_
        refine x_sub [1, 2, 0] [(0, .ref (ka k a0)), (1, .int x1), (3, .int c_13)] rfl ?_
        exact S_X12_plan_47 o F _ hf hr
      · replace hf := (if_neg q_8).symm.trans hf
        refine x_iconst (v := (-1)) o dX12_plan_25 (by decide) ?_
        cases hf
        exact hr _ _ dX12_plan_26
theorem C_X12_plan {k : Kst} (hj : Dj k) (hn : kn k = kdl.length) (F : Nat) {h : Hp} {a0 : Nat} {x1 : Int32} {x2 : Int32} {r : Int32} {h1 : Hp} (hf : X12_plan F a0 x1 x2 h = some (r, h1)) : MI k 7 yX12_plan cX12_plan 5 (some .int) [.ref (ka k a0), .int x1, .int x2] h r h1 := mI hj hn (by decide +kernel) (Nat.le_of_ble_eq_true rfl) (fun d o hr => S_X12_plan_0 o F hf hr)
