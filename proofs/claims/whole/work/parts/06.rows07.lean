set_option maxRecDepth 100000 in
set_option maxHeartbeats 4000000 in
theorem S_X12_whole_0 {k : Kst} {d : Kdy} (o : Ok k d cX12_whole RX12 2 4) (F : Nat) {h : Hp} {a0 : Nat} {x1 : Int32} {r : Int32} (hf : X12_whole F a0 x1 h = some r) (hr : RI k d cX12_whole r h) : Wz k d h 0 [(0, .ref (ka k a0)), (1, .int x1)] [] := by
  unfold X12_whole at hf
  refine x_aload_n o dX12_whole_0 0 rfl rfl ?_
  refine x_iload_n o dX12_whole_1 1 rfl rfl ?_
  refine x_aload_n o dX12_whole_2 0 rfl rfl ?_
  obtain ⟨k_1, hf⟩ := gq_ex hf
  obtain ⟨j_2, ej_2, hf⟩ := ob_ex hf
  refine gRX12_19 o k_1 ej_2 dX12_whole_3 ?_
  refine x_iload_n o dX12_whole_6 1 rfl rfl ?_
  obtain ⟨k_3, hf⟩ := gq_ex hf
  obtain ⟨b_4, hf⟩ := gq_ex hf
  refine x_iald o k_3 b_4 dX12_whole_7 ?_
  obtain ⟨c_5, ec_5, hf⟩ := ob_ex hf
  refine vRX12_117 [.int x1, .int (h.1 j_2 (ix x1))] [] o (C_X12_stonesTo o.1.2.2.2.2.2.2.1 o.2 F ec_5) (by decide) k_1 rfl rfl (Nat.le_of_ble_eq_true rfl) dX12_whole_8 ?_
  cases hf
  exact hr _ _ dX12_whole_11
theorem C_X12_whole {k : Kst} (hj : Dj k) (hn : kn k = kdl.length) (F : Nat) {h : Hp} {a0 : Nat} {x1 : Int32} {r : Int32} (hf : X12_whole F a0 x1 h = some r) : MI k 4 yX12_whole cX12_whole 2 (some .int) [.ref (ka k a0), .int x1] h r h := mI hj hn (by decide +kernel) (Nat.le_of_ble_eq_true rfl) (fun d o hr => S_X12_whole_0 o F hf hr)
set_option maxRecDepth 100000 in
set_option maxHeartbeats 4000000 in
theorem S_X12_standing_2 {k : Kst} {d : Kdy} (o : Ok k d cX12_standing RX12 3 4) (F : Nat) : ∀ (f : Nat) {h : Hp} {a0 : Nat} {x1 : Int32} {x2 : Int32} {r : Int32}, X12_standing_2 F f a0 x1 x2 h = some r → RI k d cX12_standing r h → Wz k d h 2 [(0, .ref (ka k a0)), (1, .int x1), (2, .int x2)] [] := by
  intro f
  induction f with
  | zero =>
    intro h a0 x1 x2 r hf hr
    exact nomatch (show (none : Option _) = some _ from hf)
  | succ f ih =>
    intro h a0 x1 x2 r hf hr
    rw [X12_standing_2] at hf
    refine x_iload_n o dX12_standing_2 2 rfl rfl ?_
    refine x_aload_n o dX12_standing_3 0 rfl rfl ?_
    obtain ⟨k_1, hf⟩ := gq_ex hf
    obtain ⟨j_2, ej_2, hf⟩ := ob_ex hf
    refine gRX12_19 o k_1 ej_2 dX12_standing_4 ?_
    refine x_iload_n o dX12_standing_7 1 rfl rfl ?_
    obtain ⟨k_3, hf⟩ := gq_ex hf
    obtain ⟨b_4, hf⟩ := gq_ex hf
    refine x_iald o k_3 b_4 dX12_standing_8 ?_
    refine x_icmp_ge o 38 dX12_standing_9 (by decide) (fun q_5 => ?_) (fun q_5 => ?_)
    · replace hf := (if_pos q_5).symm.trans hf
      refine x_iload_n o dX12_standing_38 2 rfl rfl ?_
      cases hf
      exact hr _ _ dX12_standing_39
    · replace hf := (if_neg q_5).symm.trans hf
      refine x_aload_n o dX12_standing_12 0 rfl rfl ?_
      refine x_iload_n o dX12_standing_13 1 rfl rfl ?_
      refine x_iload_n o dX12_standing_14 2 rfl rfl ?_
      refine x_iconst (v := 1) o dX12_standing_15 (by decide) ?_
      refine x_iadd o dX12_standing_16 ?_
      obtain ⟨c_6, ec_6, hf⟩ := ob_ex hf
      refine vRX12_117 [.int x1, .int (x2 + 1)] [] o (C_X12_stonesTo o.1.2.2.2.2.2.2.1 o.2 F ec_6) (by decide) k_1 rfl rfl (Nat.le_of_ble_eq_true rfl) dX12_standing_17 ?_
      refine x_aload_n o dX12_standing_20 0 rfl rfl ?_
      obtain ⟨j_8, ej_8, hf⟩ := ob_ex hf
      refine gRX12_7 o k_1 ej_8 dX12_standing_21 ?_
      refine x_iconst (v := 0) o dX12_standing_24 (by decide) ?_
      refine x_iload_n o dX12_standing_25 1 rfl rfl ?_
      refine x_iadd o dX12_standing_26 ?_
      obtain ⟨k_9, hf⟩ := gq_ex hf
      obtain ⟨b_10, hf⟩ := gq_ex hf
      refine x_iald o k_9 b_10 dX12_standing_27 ?_
      refine x_icmp_gt o 38 dX12_standing_28 (by decide) (fun q_11 => ?_) (fun q_11 => ?_)
      · replace hf := (if_pos q_11).symm.trans hf
        refine x_iload_n o dX12_standing_38 2 rfl rfl ?_
        cases hf
        exact hr _ _ dX12_standing_39
      · replace hf := (if_neg q_11).symm.trans hf
        refine x_iload_n o dX12_standing_31 2 rfl rfl ?_
        refine x_iconst (v := 1) o dX12_standing_32 (by decide) ?_
        refine x_iadd o dX12_standing_33 ?_
        obtain ⟨x2_12, ex2_12, hf⟩ := bd_ex hf
        refine x_top ex2_12 ?_
        refine x_istore_n o dX12_standing_34 (by decide) rfl [(2, .int x2_12), (0, .ref (ka k a0)), (1, .int x1)] rfl ?_
        refine x_goto o 2 dX12_standing_35 (by decide) ?_
        refine x_sub [1, 2, 0] [(0, .ref (ka k a0)), (1, .int x1), (2, .int x2_12)] rfl ?_
        exact ih hf hr
set_option maxRecDepth 100000 in
set_option maxHeartbeats 4000000 in
theorem S_X12_standing_0 {k : Kst} {d : Kdy} (o : Ok k d cX12_standing RX12 3 4) (F : Nat) {h : Hp} {a0 : Nat} {x1 : Int32} {r : Int32} (hf : X12_standing F a0 x1 h = some r) (hr : RI k d cX12_standing r h) : Wz k d h 0 [(0, .ref (ka k a0)), (1, .int x1)] [] := by
  unfold X12_standing at hf
  refine x_iconst (v := 0) o dX12_standing_0 (by decide) ?_
  refine x_istore_n o dX12_standing_1 (by decide) rfl [(2, .int 0), (0, .ref (ka k a0)), (1, .int x1)] rfl ?_
  refine x_sub [1, 2, 0] [(0, .ref (ka k a0)), (1, .int x1), (2, .int 0)] rfl ?_
  exact S_X12_standing_2 o F _ hf hr
theorem C_X12_standing {k : Kst} (hj : Dj k) (hn : kn k = kdl.length) (F : Nat) {h : Hp} {a0 : Nat} {x1 : Int32} {r : Int32} (hf : X12_standing F a0 x1 h = some r) : MI k 4 yX12_standing cX12_standing 3 (some .int) [.ref (ka k a0), .int x1] h r h := mI hj hn (by decide +kernel) (Nat.le_of_ble_eq_true rfl) (fun d o hr => S_X12_standing_0 o F hf hr)
set_option maxRecDepth 100000 in
set_option maxHeartbeats 4000000 in
theorem S_X12_leftToBuild_0 {k : Kst} {d : Kdy} (o : Ok k d cX12_leftToBuild RX12 2 5) (F : Nat) {h : Hp} {a0 : Nat} {x1 : Int32} {r : Int32} (hf : X12_leftToBuild F a0 x1 h = some r) (hr : RI k d cX12_leftToBuild r h) : Wz k d h 0 [(0, .ref (ka k a0)), (1, .int x1)] [] := by
  unfold X12_leftToBuild at hf
  refine x_aload_n o dX12_leftToBuild_0 0 rfl rfl ?_
  obtain ⟨k_1, hf⟩ := gq_ex hf
  obtain ⟨j_2, ej_2, hf⟩ := ob_ex hf
  refine gRX12_19 o k_1 ej_2 dX12_leftToBuild_1 ?_
  refine x_iload_n o dX12_leftToBuild_4 1 rfl rfl ?_
  obtain ⟨k_3, hf⟩ := gq_ex hf
  obtain ⟨b_4, hf⟩ := gq_ex hf
  refine x_iald o k_3 b_4 dX12_leftToBuild_5 ?_
  refine x_aload_n o dX12_leftToBuild_6 0 rfl rfl ?_
  refine x_iload_n o dX12_leftToBuild_7 1 rfl rfl ?_
  obtain ⟨c_5, ec_5, hf⟩ := ob_ex hf
  refine vRX12_121 [.int x1] [.int (h.1 j_2 (ix x1))] o (C_X12_standing o.1.2.2.2.2.2.2.1 o.2 F ec_5) (by decide) k_1 rfl rfl (Nat.le_of_ble_eq_true rfl) dX12_leftToBuild_8 ?_
  refine x_isub o dX12_leftToBuild_11 ?_
  cases hf
  exact hr _ _ dX12_leftToBuild_12
theorem C_X12_leftToBuild {k : Kst} (hj : Dj k) (hn : kn k = kdl.length) (F : Nat) {h : Hp} {a0 : Nat} {x1 : Int32} {r : Int32} (hf : X12_leftToBuild F a0 x1 h = some r) : MI k 5 yX12_leftToBuild cX12_leftToBuild 2 (some .int) [.ref (ka k a0), .int x1] h r h := mI hj hn (by decide +kernel) (Nat.le_of_ble_eq_true rfl) (fun d o hr => S_X12_leftToBuild_0 o F hf hr)
set_option maxRecDepth 100000 in
set_option maxHeartbeats 4000000 in
theorem S_X12_nextNeeds_0 {k : Kst} {d : Kdy} (o : Ok k d cX12_nextNeeds RX12 2 6) (F : Nat) {h : Hp} {a0 : Nat} {x1 : Int32} {r : Int32} (hf : X12_nextNeeds F a0 x1 h = some r) (hr : RI k d cX12_nextNeeds r h) : Wz k d h 0 [(0, .ref (ka k a0)), (1, .int x1)] [] := by
  unfold X12_nextNeeds at hf
  refine x_aload_n o dX12_nextNeeds_0 0 rfl rfl ?_
  refine x_iload_n o dX12_nextNeeds_1 1 rfl rfl ?_
  obtain ⟨k_1, hf⟩ := gq_ex hf
  obtain ⟨c_2, ec_2, hf⟩ := ob_ex hf
  refine vRX12_125 [.int x1] [] o (C_X12_leftToBuild o.1.2.2.2.2.2.2.1 o.2 F ec_2) (by decide) k_1 rfl rfl (Nat.le_of_ble_eq_true rfl) dX12_nextNeeds_2 ?_
  refine x_if_ne o 12 dX12_nextNeeds_5 (by decide) (fun q_4 => ?_) (fun q_4 => ?_)
  · replace hf := (if_neg q_4).symm.trans hf
    refine x_aload_n o dX12_nextNeeds_12 0 rfl rfl ?_
    refine x_iload_n o dX12_nextNeeds_13 1 rfl rfl ?_
    refine x_aload_n o dX12_nextNeeds_14 0 rfl rfl ?_
    refine x_iload_n o dX12_nextNeeds_15 1 rfl rfl ?_
    obtain ⟨c_5, ec_5, hf⟩ := ob_ex hf
    refine vRX12_121 [.int x1] [.int x1, .ref (ka k a0)] o (C_X12_standing o.1.2.2.2.2.2.2.1 o.2 F ec_5) (by decide) k_1 rfl rfl (Nat.le_of_ble_eq_true rfl) dX12_nextNeeds_16 ?_
    refine x_iconst (v := 1) o dX12_nextNeeds_19 (by decide) ?_
    refine x_iadd o dX12_nextNeeds_20 ?_
    obtain ⟨c_7, ec_7, hf⟩ := ob_ex hf
    refine vRX12_117 [.int x1, .int (c_5 + 1)] [] o (C_X12_stonesTo o.1.2.2.2.2.2.2.1 o.2 F ec_7) (by decide) k_1 rfl rfl (Nat.le_of_ble_eq_true rfl) dX12_nextNeeds_21 ?_
    refine x_aload_n o dX12_nextNeeds_24 0 rfl rfl ?_
    obtain ⟨j_9, ej_9, hf⟩ := ob_ex hf
    refine gRX12_7 o k_1 ej_9 dX12_nextNeeds_25 ?_
    refine x_iconst (v := 0) o dX12_nextNeeds_28 (by decide) ?_
    refine x_iload_n o dX12_nextNeeds_29 1 rfl rfl ?_
    refine x_iadd o dX12_nextNeeds_30 ?_
    obtain ⟨k_10, hf⟩ := gq_ex hf
    obtain ⟨b_11, hf⟩ := gq_ex hf
    refine x_iald o k_10 b_11 dX12_nextNeeds_31 ?_
    refine x_isub o dX12_nextNeeds_32 ?_
    cases hf
    exact hr _ _ dX12_nextNeeds_33
  · replace hf := (if_pos q_4).symm.trans hf
    refine x_iconst (v := 0) o dX12_nextNeeds_8 (by decide) ?_
    refine x_goto o 33 dX12_nextNeeds_9 (by decide) ?_
    cases hf
    exact hr _ _ dX12_nextNeeds_33
theorem C_X12_nextNeeds {k : Kst} (hj : Dj k) (hn : kn k = kdl.length) (F : Nat) {h : Hp} {a0 : Nat} {x1 : Int32} {r : Int32} (hf : X12_nextNeeds F a0 x1 h = some r) : MI k 6 yX12_nextNeeds cX12_nextNeeds 2 (some .int) [.ref (ka k a0), .int x1] h r h := mI hj hn (by decide +kernel) (Nat.le_of_ble_eq_true rfl) (fun d o hr => S_X12_nextNeeds_0 o F hf hr)
set_option maxRecDepth 100000 in
set_option maxHeartbeats 4000000 in
theorem S_X12_touchesNow_0 {k : Kst} {d : Kdy} (o : Ok k d cX12_touchesNow RX12 2 6) (F : Nat) {h : Hp} {a0 : Nat} {x1 : Int32} {r : Int32} (hf : X12_touchesNow F a0 x1 h = some r) (hr : RZ k d cX12_touchesNow r h) : Wz k d h 0 [(0, .ref (ka k a0)), (1, .int x1)] [] := by
  unfold X12_touchesNow at hf
  refine x_aload_n o dX12_touchesNow_0 0 rfl rfl ?_
  obtain ⟨k_1, hf⟩ := gq_ex hf
  obtain ⟨j_2, ej_2, hf⟩ := ob_ex hf
  refine gRX12_19 o k_1 ej_2 dX12_touchesNow_1 ?_
  refine x_iload_n o dX12_touchesNow_4 1 rfl rfl ?_
  obtain ⟨k_3, hf⟩ := gq_ex hf
  obtain ⟨b_4, hf⟩ := gq_ex hf
  refine x_iald o k_3 b_4 dX12_touchesNow_5 ?_
  refine x_if_le o 21 dX12_touchesNow_6 (by decide) (fun q_5 => ?_) (fun q_5 => ?_)
  · replace hf := (if_pos q_5).symm.trans hf
    refine x_iconst (v := 0) o dX12_touchesNow_21 (by decide) ?_
    cases hf
    exact hr (Or.inl rfl) _ _ dX12_touchesNow_22
  · replace hf := (if_neg q_5).symm.trans hf
    refine x_aload_n o dX12_touchesNow_9 0 rfl rfl ?_
    refine x_iload_n o dX12_touchesNow_10 1 rfl rfl ?_
    obtain ⟨c_6, ec_6, hf⟩ := ob_ex hf
    refine vRX12_125 [.int x1] [] o (C_X12_leftToBuild o.1.2.2.2.2.2.2.1 o.2 F ec_6) (by decide) k_1 rfl rfl (Nat.le_of_ble_eq_true rfl) dX12_touchesNow_11 ?_
    refine x_if_ne o 21 dX12_touchesNow_14 (by decide) (fun q_8 => ?_) (fun q_8 => ?_)
    · replace hf := (if_neg q_8).symm.trans hf
      refine x_iconst (v := 0) o dX12_touchesNow_21 (by decide) ?_
      cases hf
      exact hr (Or.inl rfl) _ _ dX12_touchesNow_22
    · replace hf := (if_pos q_8).symm.trans hf
      refine x_iconst (v := 1) o dX12_touchesNow_17 (by decide) ?_
      refine x_goto o 22 dX12_touchesNow_18 (by decide) ?_
      cases hf
      exact hr (Or.inr rfl) _ _ dX12_touchesNow_22
theorem C_X12_touchesNow {k : Kst} (hj : Dj k) (hn : kn k = kdl.length) (F : Nat) {h : Hp} {a0 : Nat} {x1 : Int32} {r : Int32} (hf : X12_touchesNow F a0 x1 h = some r) : MI k 6 yX12_touchesNow cX12_touchesNow 2 (some .boolean) [.ref (ka k a0), .int x1] h r h := mZ hj hn (by decide +kernel) (Nat.le_of_ble_eq_true rfl) (fun d o hr => S_X12_touchesNow_0 o F hf hr)
set_option maxRecDepth 100000 in
set_option maxHeartbeats 4000000 in
theorem S_X12_weightOf_4 {k : Kst} {d : Kdy} (o : Ok k d cX12_weightOf RX12 4 5) (F : Nat) : ∀ (f : Nat) {h : Hp} {a0 : Nat} {x1 : Int32} {x2 : Int32} {x3 : Int32} {r : Int32}, X12_weightOf_4 F f a0 x1 x2 x3 h = some r → RI k d cX12_weightOf r h → Wz k d h 4 [(0, .ref (ka k a0)), (1, .int x1), (2, .int x2), (3, .int x3)] [] := by
  intro f
  induction f with
  | zero =>
    intro h a0 x1 x2 x3 r hf hr
    exact nomatch (show (none : Option _) = some _ from hf)
  | succ f ih =>
    intro h a0 x1 x2 x3 r hf hr
    rw [X12_weightOf_4] at hf
    refine x_iload_n o dX12_weightOf_4 3 rfl rfl ?_
    refine x_aload_n o dX12_weightOf_5 0 rfl rfl ?_
    refine x_iload_n o dX12_weightOf_6 1 rfl rfl ?_
    obtain ⟨k_1, hf⟩ := gq_ex hf
    obtain ⟨c_2, ec_2, hf⟩ := ob_ex hf
    refine vRX12_121 [.int x1] [.int x3] o (C_X12_standing o.1.2.2.2.2.2.2.1 o.2 F ec_2) (by decide) k_1 rfl rfl (Nat.le_of_ble_eq_true rfl) dX12_weightOf_7 ?_
    refine x_icmp_ge o 51 dX12_weightOf_10 (by decide) (fun q_4 => ?_) (fun q_4 => ?_)
    · replace hf := (if_pos q_4).symm.trans hf
      refine x_iload_n o dX12_weightOf_51 2 rfl rfl ?_
      cases hf
      exact hr _ _ dX12_weightOf_52
    · replace hf := (if_neg q_4).symm.trans hf
      refine x_iload_n o dX12_weightOf_13 2 rfl rfl ?_
      refine x_iload_n o dX12_weightOf_14 3 rfl rfl ?_
      refine x_iconst (v := 1) o dX12_weightOf_15 (by decide) ?_
      refine x_iadd o dX12_weightOf_16 ?_
      refine x_aload_n o dX12_weightOf_17 0 rfl rfl ?_
      obtain ⟨j_5, ej_5, hf⟩ := ob_ex hf
      refine gRX12_22 o k_1 ej_5 dX12_weightOf_18 ?_
      refine x_bipush (v := 20) o dX12_weightOf_21 (by decide) ?_
      refine x_iload_n o dX12_weightOf_23 1 rfl rfl ?_
      refine x_imul o dX12_weightOf_24 ?_
      refine x_iload_n o dX12_weightOf_25 3 rfl rfl ?_
      refine x_iadd o dX12_weightOf_26 ?_
      obtain ⟨k_6, hf⟩ := gq_ex hf
      obtain ⟨b_7, hf⟩ := gq_ex hf
      refine x_iald o k_6 b_7 dX12_weightOf_27 ?_
      refine x_aload_n o dX12_weightOf_28 0 rfl rfl ?_
      obtain ⟨j_8, ej_8, hf⟩ := ob_ex hf
      refine gRX12_7 o k_1 ej_8 dX12_weightOf_29 ?_
      refine x_iconst (v := 2) o dX12_weightOf_32 (by decide) ?_
      refine x_bipush (v := 20) o dX12_weightOf_33 (by decide) ?_
      refine x_iload_n o dX12_weightOf_35 1 rfl rfl ?_
      refine x_imul o dX12_weightOf_36 ?_
      refine x_iadd o dX12_weightOf_37 ?_
      refine x_iload_n o dX12_weightOf_38 3 rfl rfl ?_
      refine x_iadd o dX12_weightOf_39 ?_
      obtain ⟨k_9, hf⟩ := gq_ex hf
      obtain ⟨b_10, hf⟩ := gq_ex hf
      refine x_iald o k_9 b_10 dX12_weightOf_40 ?_
      refine x_iadd o dX12_weightOf_41 ?_
      refine x_imul o dX12_weightOf_42 ?_
      refine x_iadd o dX12_weightOf_43 ?_
      obtain ⟨x2_11, ex2_11, hf⟩ := bd_ex hf
      refine x_top ex2_11 ?_
      refine x_istore_n o dX12_weightOf_44 (by decide) rfl [(2, .int x2_11), (0, .ref (ka k a0)), (1, .int x1), (3, .int x3)] rfl ?_
      obtain ⟨x3_12, ex3_12, hf⟩ := bd_ex hf
      refine x_iinc o dX12_weightOf_45 (by decide) 3 rfl ex3_12.symm [(3, .int x3_12), (2, .int x2_11), (0, .ref (ka k a0)), (1, .int x1)] rfl ?_
      refine x_goto o 4 dX12_weightOf_48 (by decide) ?_
      refine x_sub [2, 3, 1, 0] [(0, .ref (ka k a0)), (1, .int x1), (2, .int x2_11), (3, .int x3_12)] rfl ?_
      exact ih hf hr
set_option maxRecDepth 100000 in
set_option maxHeartbeats 4000000 in
theorem S_X12_weightOf_0 {k : Kst} {d : Kdy} (o : Ok k d cX12_weightOf RX12 4 5) (F : Nat) {h : Hp} {a0 : Nat} {x1 : Int32} {r : Int32} (hf : X12_weightOf F a0 x1 h = some r) (hr : RI k d cX12_weightOf r h) : Wz k d h 0 [(0, .ref (ka k a0)), (1, .int x1)] [] := by
  unfold X12_weightOf at hf
  refine x_iconst (v := 0) o dX12_weightOf_0 (by decide) ?_
  refine x_istore_n o dX12_weightOf_1 (by decide) rfl [(2, .int 0), (0, .ref (ka k a0)), (1, .int x1)] rfl ?_
  refine x_iconst (v := 0) o dX12_weightOf_2 (by decide) ?_
  refine x_istore_n o dX12_weightOf_3 (by decide) rfl [(3, .int 0), (2, .int 0), (0, .ref (ka k a0)), (1, .int x1)] rfl ?_
  refine x_sub [2, 3, 1, 0] [(0, .ref (ka k a0)), (1, .int x1), (2, .int 0), (3, .int 0)] rfl ?_
  exact S_X12_weightOf_4 o F _ hf hr
theorem C_X12_weightOf {k : Kst} (hj : Dj k) (hn : kn k = kdl.length) (F : Nat) {h : Hp} {a0 : Nat} {x1 : Int32} {r : Int32} (hf : X12_weightOf F a0 x1 h = some r) : MI k 5 yX12_weightOf cX12_weightOf 4 (some .int) [.ref (ka k a0), .int x1] h r h := mI hj hn (by decide +kernel) (Nat.le_of_ble_eq_true rfl) (fun d o hr => S_X12_weightOf_0 o F hf hr)
set_option maxRecDepth 100000 in
set_option maxHeartbeats 4000000 in
theorem S_X12_tilt_0 {k : Kst} {d : Kdy} (o : Ok k d cX12_tilt RX12 2 4) (F : Nat) {h : Hp} {a0 : Nat} {x1 : Int32} {r : Int32} {h1 : Hp} (hf : X12_tilt F a0 x1 h = some (r, h1)) (hr : RZ k d cX12_tilt r h1) : Wz k d h 0 [(0, .ref (ka k a0)), (1, .int x1)] [] := by
  unfold X12_tilt at hf
  refine x_iload_n o dX12_tilt_0 1 rfl rfl ?_
  refine x_iconst (v := 0) o dX12_tilt_1 (by decide) ?_
  refine x_ldc (v := 99999) o dX12_tilt_2 wRX12_108 ?_
  obtain ⟨c_1, ec_1, hf⟩ := ob_ex hf
  refine vRX12_113 [.int x1, .int 0, .int 99999] [] o (C_X12_in o.1.2.2.2.2.2.2.1 o.2 F ec_1) (by decide) rfl rfl (Nat.le_of_ble_eq_true rfl) dX12_tilt_4 ?_
  refine x_if_ne o 12 dX12_tilt_7 (by decide) (fun q_3 => ?_) (fun q_3 => ?_)
  · replace hf := (if_neg q_3).symm.trans hf
    refine x_aload_n o dX12_tilt_12 0 rfl rfl ?_
    refine x_iload_n o dX12_tilt_13 1 rfl rfl ?_
    obtain ⟨k_4, hf⟩ := gq_ex hf
    obtain ⟨h_5, eh_5, hf⟩ := bd_ex hf
    refine pRX12_109 o k_4 eh_5 dX12_tilt_14 ?_
    refine x_iconst (v := 1) o dX12_tilt_17 (by decide) ?_
    cases hf
    exact hr (Or.inr rfl) _ _ dX12_tilt_18
  · replace hf := (if_pos q_3).symm.trans hf
    refine x_iconst (v := 0) o dX12_tilt_10 (by decide) ?_
    cases hf
    exact hr (Or.inl rfl) _ _ dX12_tilt_11
theorem C_X12_tilt {k : Kst} (hj : Dj k) (hn : kn k = kdl.length) (F : Nat) {h : Hp} {a0 : Nat} {x1 : Int32} {r : Int32} {h1 : Hp} (hf : X12_tilt F a0 x1 h = some (r, h1)) : MI k 4 yX12_tilt cX12_tilt 2 (some .boolean) [.ref (ka k a0), .int x1] h r h1 := mZ hj hn (by decide +kernel) (Nat.le_of_ble_eq_true rfl) (fun d o hr => S_X12_tilt_0 o F hf hr)
set_option maxRecDepth 100000 in
set_option maxHeartbeats 4000000 in
theorem S_X12_types_2 {k : Kst} {d : Kdy} (o : Ok k d cX12_types RX12 3 3) (F : Nat) : ∀ (f : Nat) {h : Hp} {a0 : Nat} {x1 : Int32} {x2 : Int32} {h1 : Hp}, X12_types_2 F f a0 x1 x2 h = some h1 → RV k d cX12_types h1 → Wz k d h 2 [(0, .ref (ka k a0)), (1, .int x1), (2, .int x2)] [] := by
  intro f
  induction f with
  | zero =>
    intro h a0 x1 x2 h1 hf hr
    exact nomatch (show (none : Option _) = some _ from hf)
  | succ f ih =>
    intro h a0 x1 x2 h1 hf hr
    rw [X12_types_2] at hf
    refine x_iload_n o dX12_types_2 2 rfl rfl ?_
    refine x_if_lt o 38 dX12_types_3 (by decide) (fun q_1 => ?_) (fun q_1 => ?_)
    · replace hf := (if_pos q_1).symm.trans hf
      cases hf
      exact hr _ _ dX12_types_38
    · replace hf := (if_neg q_1).symm.trans hf
      refine x_aload_n o dX12_types_6 0 rfl rfl ?_
      obtain ⟨k_2, hf⟩ := gq_ex hf
      obtain ⟨j_3, ej_3, hf⟩ := ob_ex hf
      refine gRX12_25 o k_2 ej_3 dX12_types_7 ?_
      refine x_aload_n o dX12_types_10 0 rfl rfl ?_
      refine gRX12_128 o k_2 dX12_types_11 ?_
      refine x_iload_n o dX12_types_14 1 rfl rfl ?_
      refine x_bipush (v := 8) o dX12_types_15 (by decide) ?_
      refine x_iload_n o dX12_types_17 2 rfl rfl ?_
      refine x_imul o dX12_types_18 ?_
      refine x_ishr o dX12_types_19 ?_
      refine x_i2b o dX12_types_20 ?_
      obtain ⟨k_4, hf⟩ := gq_ex hf
      obtain ⟨b_5, hf⟩ := gq_ex hf
      obtain ⟨h_6, eh_6, hf⟩ := bd_ex hf
      refine x_bast o k_4 b_5 dX12_types_21 (x_h eh_6 ?_)
      refine x_aload_n o dX12_types_22 0 rfl rfl ?_
      refine x_aload_n o dX12_types_23 0 rfl rfl ?_
      refine gRX12_128 o k_2 dX12_types_24 ?_
      refine x_iconst (v := 1) o dX12_types_27 (by decide) ?_
      refine x_iadd o dX12_types_28 ?_
      obtain ⟨h_7, eh_7, hf⟩ := bd_ex hf
      refine pRX12_128 o k_2 eh_7 dX12_types_29 ?_
      obtain ⟨x2_8, ex2_8, hf⟩ := bd_ex hf
      refine x_iinc o dX12_types_32 (by decide) 2 rfl ex2_8.symm [(2, .int x2_8), (0, .ref (ka k a0)), (1, .int x1)] rfl ?_
      refine x_goto o 2 dX12_types_35 (by decide) ?_
      refine x_sub [1, 2, 0] [(0, .ref (ka k a0)), (1, .int x1), (2, .int x2_8)] rfl ?_
      exact ih hf hr
set_option maxRecDepth 100000 in
set_option maxHeartbeats 4000000 in
theorem S_X12_types_0 {k : Kst} {d : Kdy} (o : Ok k d cX12_types RX12 3 3) (F : Nat) {h : Hp} {a0 : Nat} {x1 : Int32} {h1 : Hp} (hf : X12_types F a0 x1 h = some h1) (hr : RV k d cX12_types h1) : Wz k d h 0 [(0, .ref (ka k a0)), (1, .int x1)] [] := by
  unfold X12_types at hf
  refine x_iconst (v := 3) o dX12_types_0 (by decide) ?_
  refine x_istore_n o dX12_types_1 (by decide) rfl [(2, .int 3), (0, .ref (ka k a0)), (1, .int x1)] rfl ?_
  refine x_sub [1, 2, 0] [(0, .ref (ka k a0)), (1, .int x1), (2, .int 3)] rfl ?_
  exact S_X12_types_2 o F _ hf hr
theorem C_X12_types {k : Kst} (hj : Dj k) (hn : kn k = kdl.length) (F : Nat) {h : Hp} {a0 : Nat} {x1 : Int32} {h1 : Hp} (hf : X12_types F a0 x1 h = some h1) : MV k 3 yX12_types cX12_types 3 [.ref (ka k a0), .int x1] h h1 := mV hj hn (by decide +kernel) (Nat.le_of_ble_eq_true rfl) (fun d o hr => S_X12_types_0 o F hf hr)
set_option maxRecDepth 100000 in
set_option maxHeartbeats 4000000 in
theorem S_X12_feed_0 {k : Kst} {d : Kdy} (o : Ok k d cX12_feed RX12 6 4) (F : Nat) {h : Hp} {a0 : Nat} {x1 : Int32} {x2 : Int32} {x3 : Int32} {x4 : Int32} {x5 : Int32} {r : Int32} {h1 : Hp} (hf : X12_feed F a0 x1 x2 x3 x4 x5 h = some (r, h1)) (hr : RI k d cX12_feed r h1) : Wz k d h 0 [(0, .ref (ka k a0)), (1, .int x1), (2, .int x2), (3, .int x3), (4, .int x4), (5, .int x5)] [] := by
  unfold X12_feed at hf
  refine x_aload_n o dX12_feed_0 0 rfl rfl ?_
  obtain ⟨k_1, hf⟩ := gq_ex hf
  refine gRX12_128 o k_1 dX12_feed_1 ?_
  refine x_bipush (v := 20) o dX12_feed_4 (by decide) ?_
  refine x_iadd o dX12_feed_6 ?_
  refine x_sipush (v := 260) o dX12_feed_7 (by decide) ?_
  refine x_icmp_le o 15 dX12_feed_10 (by decide) (fun q_2 => ?_) (fun q_2 => ?_)
  · replace hf := (if_pos q_2).symm.trans hf
    refine x_aload_n o dX12_feed_15 0 rfl rfl ?_
    refine x_iload_n o dX12_feed_16 1 rfl rfl ?_
    obtain ⟨h_4, eh_4, hf⟩ := ob_ex hf
    refine vRX12_131 [.int x1] [] o (C_X12_types o.1.2.2.2.2.2.2.1 o.2 F eh_4) (by decide) k_1 rfl rfl (Nat.le_of_ble_eq_true rfl) dX12_feed_17 ?_
    refine x_aload_n o dX12_feed_20 0 rfl rfl ?_
    refine x_iload_n o dX12_feed_21 2 rfl rfl ?_
    obtain ⟨h_6, eh_6, hf⟩ := ob_ex hf
    refine vRX12_131 [.int x2] [] o (C_X12_types o.1.2.2.2.2.2.2.1 o.2 F eh_6) (by decide) k_1 rfl rfl (Nat.le_of_ble_eq_true rfl) dX12_feed_22 ?_
    refine x_aload_n o dX12_feed_25 0 rfl rfl ?_
    refine x_iload_n o dX12_feed_26 3 rfl rfl ?_
    obtain ⟨h_8, eh_8, hf⟩ := ob_ex hf
    refine vRX12_131 [.int x3] [] o (C_X12_types o.1.2.2.2.2.2.2.1 o.2 F eh_8) (by decide) k_1 rfl rfl (Nat.le_of_ble_eq_true rfl) dX12_feed_27 ?_
    refine x_aload_n o dX12_feed_30 0 rfl rfl ?_
    refine x_iload o dX12_feed_31 4 rfl ?_
    obtain ⟨h_10, eh_10, hf⟩ := ob_ex hf
    refine vRX12_131 [.int x4] [] o (C_X12_types o.1.2.2.2.2.2.2.1 o.2 F eh_10) (by decide) k_1 rfl rfl (Nat.le_of_ble_eq_true rfl) dX12_feed_33 ?_
    refine x_aload_n o dX12_feed_36 0 rfl rfl ?_
    refine x_iload o dX12_feed_37 5 rfl ?_
    obtain ⟨h_12, eh_12, hf⟩ := ob_ex hf
    refine vRX12_131 [.int x5] [] o (C_X12_types o.1.2.2.2.2.2.2.1 o.2 F eh_12) (by decide) k_1 rfl rfl (Nat.le_of_ble_eq_true rfl) dX12_feed_39 ?_
    refine x_aload_n o dX12_feed_42 0 rfl rfl ?_
    refine gRX12_128 o k_1 dX12_feed_43 ?_
    cases hf
    exact hr _ _ dX12_feed_46
  · replace hf := (if_neg q_2).symm.trans hf
    refine x_iconst (v := (-1)) o dX12_feed_13 (by decide) ?_
    cases hf
    exact hr _ _ dX12_feed_14
theorem C_X12_feed {k : Kst} (hj : Dj k) (hn : kn k = kdl.length) (F : Nat) {h : Hp} {a0 : Nat} {x1 : Int32} {x2 : Int32} {x3 : Int32} {x4 : Int32} {x5 : Int32} {r : Int32} {h1 : Hp} (hf : X12_feed F a0 x1 x2 x3 x4 x5 h = some (r, h1)) : MI k 4 yX12_feed cX12_feed 6 (some .int) [.ref (ka k a0), .int x1, .int x2, .int x3, .int x4, .int x5] h r h1 := mI hj hn (by decide +kernel) (Nat.le_of_ble_eq_true rfl) (fun d o hr => S_X12_feed_0 o F hf hr)
set_option maxRecDepth 100000 in
set_option maxHeartbeats 4000000 in
theorem S_X12_octet_0 {k : Kst} {d : Kdy} (o : Ok k d cX12_octet RX12 2 3) (F : Nat) {h : Hp} {a0 : Nat} {x1 : Int32} {r : Int32} (hf : X12_octet F a0 x1 h = some r) (hr : RI k d cX12_octet r h) : Wz k d h 0 [(0, .ref (ka k a0)), (1, .int x1)] [] := by
  unfold X12_octet at hf
  refine x_aload_n o dX12_octet_0 0 rfl rfl ?_
  obtain ⟨k_1, hf⟩ := gq_ex hf
  obtain ⟨j_2, ej_2, hf⟩ := ob_ex hf
  refine gRX12_25 o k_1 ej_2 dX12_octet_1 ?_
  refine x_iload_n o dX12_octet_4 1 rfl rfl ?_
  obtain ⟨k_3, hf⟩ := gq_ex hf
  obtain ⟨b_4, hf⟩ := gq_ex hf
  refine x_bald o k_3 b_4 dX12_octet_5 ?_
  refine x_sipush (v := 255) o dX12_octet_6 (by decide) ?_
  refine x_iand o dX12_octet_9 ?_
  cases hf
  exact hr _ _ dX12_octet_10
theorem C_X12_octet {k : Kst} (hj : Dj k) (hn : kn k = kdl.length) (F : Nat) {h : Hp} {a0 : Nat} {x1 : Int32} {r : Int32} (hf : X12_octet F a0 x1 h = some r) : MI k 3 yX12_octet cX12_octet 2 (some .int) [.ref (ka k a0), .int x1] h r h := mI hj hn (by decide +kernel) (Nat.le_of_ble_eq_true rfl) (fun d o hr => S_X12_octet_0 o F hf hr)
set_option maxRecDepth 100000 in
set_option maxHeartbeats 4000000 in
theorem S_X12_here_0 {k : Kst} {d : Kdy} (o : Ok k d cX12_here RX12 1 3) (F : Nat) {h : Hp} {a0 : Nat} {r : Int32} (hf : X12_here F a0 h = some r) (hr : RI k d cX12_here r h) : Wz k d h 0 [(0, .ref (ka k a0))] [] := by
  unfold X12_here at hf
  refine x_aload_n o dX12_here_0 0 rfl rfl ?_
  obtain ⟨k_1, hf⟩ := gq_ex hf
  refine gRX12_135 o k_1 dX12_here_1 ?_
  refine x_aload_n o dX12_here_4 0 rfl rfl ?_
  refine gRX12_138 o k_1 dX12_here_5 ?_
  refine x_icmp_ge o 27 dX12_here_8 (by decide) (fun q_2 => ?_) (fun q_2 => ?_)
  · replace hf := (if_pos q_2).symm.trans hf
    refine x_iconst (v := (-1)) o dX12_here_27 (by decide) ?_
    cases hf
    exact hr _ _ dX12_here_28
  · replace hf := (if_neg q_2).symm.trans hf
    refine x_aload_n o dX12_here_11 0 rfl rfl ?_
    obtain ⟨j_3, ej_3, hf⟩ := ob_ex hf
    refine gRX12_25 o k_1 ej_3 dX12_here_12 ?_
    refine x_aload_n o dX12_here_15 0 rfl rfl ?_
    refine gRX12_135 o k_1 dX12_here_16 ?_
    obtain ⟨k_4, hf⟩ := gq_ex hf
    obtain ⟨b_5, hf⟩ := gq_ex hf
    refine x_bald o k_4 b_5 dX12_here_19 ?_
    refine x_sipush (v := 255) o dX12_here_20 (by decide) ?_
    refine x_iand o dX12_here_23 ?_
    refine x_goto o 28 dX12_here_24 (by decide) ?_
    cases hf
    exact hr _ _ dX12_here_28
theorem C_X12_here {k : Kst} (hj : Dj k) (hn : kn k = kdl.length) (F : Nat) {h : Hp} {a0 : Nat} {r : Int32} (hf : X12_here F a0 h = some r) : MI k 3 yX12_here cX12_here 1 (some .int) [.ref (ka k a0)] h r h := mI hj hn (by decide +kernel) (Nat.le_of_ble_eq_true rfl) (fun d o hr => S_X12_here_0 o F hf hr)
set_option maxRecDepth 100000 in
set_option maxHeartbeats 4000000 in
theorem S_X12_isDigit_0 {k : Kst} {d : Kdy} (o : Ok k d cX12_isDigit RX12 1 4) (F : Nat) {h : Hp} {a0 : Nat} {r : Int32} (hf : X12_isDigit F a0 h = some r) (hr : RZ k d cX12_isDigit r h) : Wz k d h 0 [(0, .ref (ka k a0))] [] := by
  unfold X12_isDigit at hf
  refine x_aload_n o dX12_isDigit_0 0 rfl rfl ?_
  obtain ⟨k_1, hf⟩ := gq_ex hf
  obtain ⟨c_2, ec_2, hf⟩ := ob_ex hf
  refine vRX12_141 [] [] o (C_X12_here o.1.2.2.2.2.2.2.1 o.2 F ec_2) (by decide) k_1 rfl rfl (Nat.le_of_ble_eq_true rfl) dX12_isDigit_1 ?_
  refine x_bipush (v := 48) o dX12_isDigit_4 (by decide) ?_
  refine x_icmp_lt o 22 dX12_isDigit_6 (by decide) (fun q_4 => ?_) (fun q_4 => ?_)
  · replace hf := (if_pos q_4).symm.trans hf
    refine x_iconst (v := 0) o dX12_isDigit_22 (by decide) ?_
    cases hf
    exact hr (Or.inl rfl) _ _ dX12_isDigit_23
  · replace hf := (if_neg q_4).symm.trans hf
    refine x_aload_n o dX12_isDigit_9 0 rfl rfl ?_
    obtain ⟨c_5, ec_5, hf⟩ := ob_ex hf
    refine vRX12_141 [] [] o (C_X12_here o.1.2.2.2.2.2.2.1 o.2 F ec_5) (by decide) k_1 rfl rfl (Nat.le_of_ble_eq_true rfl) dX12_isDigit_10 ?_
    refine x_bipush (v := 57) o dX12_isDigit_13 (by decide) ?_
    refine x_icmp_gt o 22 dX12_isDigit_15 (by decide) (fun q_7 => ?_) (fun q_7 => ?_)
    · replace hf := (if_pos q_7).symm.trans hf
      refine x_iconst (v := 0) o dX12_isDigit_22 (by decide) ?_
      cases hf
      exact hr (Or.inl rfl) _ _ dX12_isDigit_23
    · replace hf := (if_neg q_7).symm.trans hf
      refine x_iconst (v := 1) o dX12_isDigit_18 (by decide) ?_
      refine x_goto o 23 dX12_isDigit_19 (by decide) ?_
      cases hf
      exact hr (Or.inr rfl) _ _ dX12_isDigit_23
theorem C_X12_isDigit {k : Kst} (hj : Dj k) (hn : kn k = kdl.length) (F : Nat) {h : Hp} {a0 : Nat} {r : Int32} (hf : X12_isDigit F a0 h = some r) : MI k 4 yX12_isDigit cX12_isDigit 1 (some .boolean) [.ref (ka k a0)] h r h := mZ hj hn (by decide +kernel) (Nat.le_of_ble_eq_true rfl) (fun d o hr => S_X12_isDigit_0 o F hf hr)
set_option maxRecDepth 100000 in
set_option maxHeartbeats 4000000 in
theorem S_X12_wrongAt_0 {k : Kst} {d : Kdy} (o : Ok k d cX12_wrongAt RX12 3 3) (F : Nat) {h : Hp} {a0 : Nat} {x1 : Int32} {x2 : Int32} {r : Int32} {h1 : Hp} (hf : X12_wrongAt F a0 x1 x2 h = some (r, h1)) (hr : RZ k d cX12_wrongAt r h1) : Wz k d h 0 [(0, .ref (ka k a0)), (1, .int x1), (2, .int x2)] [] := by
  unfold X12_wrongAt at hf
  refine x_aload_n o dX12_wrongAt_0 0 rfl rfl ?_
  refine x_sipush (v := (-1000)) o dX12_wrongAt_1 (by decide) ?_
  refine x_iload_n o dX12_wrongAt_4 1 rfl rfl ?_
  refine x_imul o dX12_wrongAt_5 ?_
  refine x_iload_n o dX12_wrongAt_6 2 rfl rfl ?_
  refine x_isub o dX12_wrongAt_7 ?_
  obtain ⟨k_1, hf⟩ := gq_ex hf
  obtain ⟨h_2, eh_2, hf⟩ := bd_ex hf
  refine pRX12_145 o k_1 eh_2 dX12_wrongAt_8 ?_
  refine x_iconst (v := 0) o dX12_wrongAt_11 (by decide) ?_
  cases hf
  exact hr (Or.inl rfl) _ _ dX12_wrongAt_12
theorem C_X12_wrongAt {k : Kst} (hj : Dj k) (hn : kn k = kdl.length) (F : Nat) {h : Hp} {a0 : Nat} {x1 : Int32} {x2 : Int32} {r : Int32} {h1 : Hp} (hf : X12_wrongAt F a0 x1 x2 h = some (r, h1)) : MI k 3 yX12_wrongAt cX12_wrongAt 3 (some .boolean) [.ref (ka k a0), .int x1, .int x2] h r h1 := mZ hj hn (by decide +kernel) (Nat.le_of_ble_eq_true rfl) (fun d o hr => S_X12_wrongAt_0 o F hf hr)
set_option maxRecDepth 100000 in
set_option maxHeartbeats 4000000 in
theorem S_X12_takes_0 {k : Kst} {d : Kdy} (o : Ok k d cX12_takes RX12 2 4) (F : Nat) {h : Hp} {a0 : Nat} {x1 : Int32} {r : Int32} {h1 : Hp} (hf : X12_takes F a0 x1 h = some (r, h1)) (hr : RZ k d cX12_takes r h1) : Wz k d h 0 [(0, .ref (ka k a0)), (1, .int x1)] [] := by
  unfold X12_takes at hf
  refine x_aload_n o dX12_takes_0 0 rfl rfl ?_
  obtain ⟨k_1, hf⟩ := gq_ex hf
  obtain ⟨c_2, ec_2, hf⟩ := ob_ex hf
  refine vRX12_141 [] [] o (C_X12_here o.1.2.2.2.2.2.2.1 o.2 F ec_2) (by decide) k_1 rfl rfl (Nat.le_of_ble_eq_true rfl) dX12_takes_1 ?_
  refine x_iload_n o dX12_takes_4 1 rfl rfl ?_
  refine x_icmp_eq o 18 dX12_takes_5 (by decide) (fun q_4 => ?_) (fun q_4 => ?_)
  · replace hf := (if_pos q_4).symm.trans hf
    refine x_aload_n o dX12_takes_18 0 rfl rfl ?_
    refine x_aload_n o dX12_takes_19 0 rfl rfl ?_
    refine gRX12_135 o k_1 dX12_takes_20 ?_
    refine x_iconst (v := 1) o dX12_takes_23 (by decide) ?_
    refine x_iadd o dX12_takes_24 ?_
    obtain ⟨h_5, eh_5, hf⟩ := bd_ex hf
    refine pRX12_135 o k_1 eh_5 dX12_takes_25 ?_
    refine x_iconst (v := 1) o dX12_takes_28 (by decide) ?_
    cases hf
    exact hr (Or.inr rfl) _ _ dX12_takes_29
  · replace hf := (if_neg q_4).symm.trans hf
    refine x_aload_n o dX12_takes_8 0 rfl rfl ?_
    refine x_iconst (v := 1) o dX12_takes_9 (by decide) ?_
    refine x_aload_n o dX12_takes_10 0 rfl rfl ?_
    refine gRX12_135 o k_1 dX12_takes_11 ?_
    obtain ⟨c_6, h_7, ec_6, hf⟩ := bq_ex hf
    refine vRX12_148 [.int 1, .int (h.1 a0 8)] [] o (C_X12_wrongAt o.1.2.2.2.2.2.2.1 o.2 F ec_6) (by decide) k_1 rfl rfl (Nat.le_of_ble_eq_true rfl) dX12_takes_14 ?_
    obtain ⟨n_8, hf⟩ := gq_ex hf
    cases hf
    exact hr n_8 _ _ dX12_takes_17
theorem C_X12_takes {k : Kst} (hj : Dj k) (hn : kn k = kdl.length) (F : Nat) {h : Hp} {a0 : Nat} {x1 : Int32} {r : Int32} {h1 : Hp} (hf : X12_takes F a0 x1 h = some (r, h1)) : MI k 4 yX12_takes cX12_takes 2 (some .boolean) [.ref (ka k a0), .int x1] h r h1 := mZ hj hn (by decide +kernel) (Nat.le_of_ble_eq_true rfl) (fun d o hr => S_X12_takes_0 o F hf hr)
set_option maxRecDepth 100000 in
set_option maxHeartbeats 4000000 in
theorem S_X12_readsNumber_10 {k : Kst} {d : Kdy} (o : Ok k d cX12_readsNumber RX12 2 5) (F : Nat) : ∀ (f : Nat) {h : Hp} {a0 : Nat} {x1 : Int32} {r : Int32} {h1 : Hp}, X12_readsNumber_10 F f a0 x1 h = some (r, h1) → RZ k d cX12_readsNumber r h1 → Wz k d h 10 [(0, .ref (ka k a0)), (1, .int x1)] [] := by
  intro f
  induction f with
  | zero =>
    intro h a0 x1 r h1 hf hr
    exact nomatch (show (none : Option _) = some _ from hf)
  | succ f ih =>
    intro h a0 x1 r h1 hf hr
    rw [X12_readsNumber_10] at hf
    refine x_aload_n o dX12_readsNumber_10 0 rfl rfl ?_
    obtain ⟨k_1, hf⟩ := gq_ex hf
    obtain ⟨c_2, ec_2, hf⟩ := ob_ex hf
    refine vRX12_155 [] [] o (C_X12_isDigit o.1.2.2.2.2.2.2.1 o.2 F ec_2) (by decide) k_1 rfl rfl (Nat.le_of_ble_eq_true rfl) dX12_readsNumber_11 ?_
    refine x_if_eq o 69 dX12_readsNumber_14 (by decide) (fun q_4 => ?_) (fun q_4 => ?_)
    · replace hf := (if_pos q_4).symm.trans hf
      refine x_iconst (v := 1) o dX12_readsNumber_69 (by decide) ?_
      cases hf
      exact hr (Or.inr rfl) _ _ dX12_readsNumber_70
    · replace hf := (if_neg q_4).symm.trans hf
      refine x_aload_n o dX12_readsNumber_17 0 rfl rfl ?_
      refine gRX12_135 o k_1 dX12_readsNumber_18 ?_
      refine x_iload_n o dX12_readsNumber_21 1 rfl rfl ?_
      refine x_iconst (v := 5) o dX12_readsNumber_22 (by decide) ?_
      refine x_iadd o dX12_readsNumber_23 ?_
      refine x_icmp_ne o 37 dX12_readsNumber_24 (by decide) (fun q_5 => ?_) (fun q_5 => ?_)
      · replace hf := (if_neg q_5).symm.trans hf
        refine x_aload_n o dX12_readsNumber_37 0 rfl rfl ?_
        refine x_bipush (v := 10) o dX12_readsNumber_38 (by decide) ?_
        refine x_aload_n o dX12_readsNumber_40 0 rfl rfl ?_
        refine gRX12_152 o k_1 dX12_readsNumber_41 ?_
        refine x_imul o dX12_readsNumber_44 ?_
        refine x_aload_n o dX12_readsNumber_45 0 rfl rfl ?_
        obtain ⟨c_6, ec_6, hf⟩ := ob_ex hf
        refine vRX12_141 [] [.int (10 * (h.1 a0 11)), .ref (ka k a0)] o (C_X12_here o.1.2.2.2.2.2.2.1 o.2 F ec_6) (by decide) k_1 rfl rfl (Nat.le_of_ble_eq_true rfl) dX12_readsNumber_46 ?_
        refine x_iadd o dX12_readsNumber_49 ?_
        refine x_bipush (v := 48) o dX12_readsNumber_50 (by decide) ?_
        refine x_isub o dX12_readsNumber_52 ?_
        obtain ⟨h_8, eh_8, hf⟩ := bd_ex hf
        refine pRX12_152 o k_1 eh_8 dX12_readsNumber_53 ?_
        refine x_aload_n o dX12_readsNumber_56 0 rfl rfl ?_
        refine x_aload_n o dX12_readsNumber_57 0 rfl rfl ?_
        refine gRX12_135 o k_1 dX12_readsNumber_58 ?_
        refine x_iconst (v := 1) o dX12_readsNumber_61 (by decide) ?_
        refine x_iadd o dX12_readsNumber_62 ?_
        obtain ⟨h_9, eh_9, hf⟩ := bd_ex hf
        refine pRX12_135 o k_1 eh_9 dX12_readsNumber_63 ?_
        refine x_goto o 10 dX12_readsNumber_66 (by decide) ?_
        refine x_sub [0, 1] [(0, .ref (ka k a0)), (1, .int x1)] rfl ?_
        exact ih hf hr
      · replace hf := (if_pos q_5).symm.trans hf
        refine x_aload_n o dX12_readsNumber_27 0 rfl rfl ?_
        refine x_iconst (v := 2) o dX12_readsNumber_28 (by decide) ?_
        refine x_aload_n o dX12_readsNumber_29 0 rfl rfl ?_
        refine gRX12_135 o k_1 dX12_readsNumber_30 ?_
        obtain ⟨c_10, h_11, ec_10, hf⟩ := bq_ex hf
        refine vRX12_148 [.int 2, .int (h.1 a0 8)] [] o (C_X12_wrongAt o.1.2.2.2.2.2.2.1 o.2 F ec_10) (by decide) k_1 rfl rfl (Nat.le_of_ble_eq_true rfl) dX12_readsNumber_33 ?_
        obtain ⟨n_12, hf⟩ := gq_ex hf
        cases hf
        exact hr n_12 _ _ dX12_readsNumber_36
set_option maxRecDepth 100000 in
set_option maxHeartbeats 4000000 in
theorem S_X12_readsNumber_0 {k : Kst} {d : Kdy} (o : Ok k d cX12_readsNumber RX12 2 5) (F : Nat) {h : Hp} {a0 : Nat} {r : Int32} {h1 : Hp} (hf : X12_readsNumber F a0 h = some (r, h1)) (hr : RZ k d cX12_readsNumber r h1) : Wz k d h 0 [(0, .ref (ka k a0))] [] := by
  unfold X12_readsNumber at hf
  refine x_aload_n o dX12_readsNumber_0 0 rfl rfl ?_
  obtain ⟨k_1, hf⟩ := gq_ex hf
  refine gRX12_135 o k_1 dX12_readsNumber_1 ?_
  obtain ⟨x1_2, ex1_2, hf⟩ := bd_ex hf
  refine x_top ex1_2 ?_
  refine x_istore_n o dX12_readsNumber_4 (by decide) rfl [(1, .int x1_2), (0, .ref (ka k a0))] rfl ?_
  refine x_aload_n o dX12_readsNumber_5 1 rfl rfl ?_
  refine x_iconst (v := 0) o dX12_readsNumber_6 (by decide) ?_
  obtain ⟨h_3, eh_3, hf⟩ := bd_ex hf
  refine pRX12_152 o k_1 eh_3 dX12_readsNumber_7 ?_
  refine x_sub [1, 0] [(0, .ref (ka k a0)), (1, .int x1_2)] rfl ?_
  exact S_X12_readsNumber_10 o F _ hf hr
theorem C_X12_readsNumber {k : Kst} (hj : Dj k) (hn : kn k = kdl.length) (F : Nat) {h : Hp} {a0 : Nat} {r : Int32} {h1 : Hp} (hf : X12_readsNumber F a0 h = some (r, h1)) : MI k 5 yX12_readsNumber cX12_readsNumber 2 (some .boolean) [.ref (ka k a0)] h r h1 := mZ hj hn (by decide +kernel) (Nat.le_of_ble_eq_true rfl) (fun d o hr => S_X12_readsNumber_0 o F hf hr)
set_option maxRecDepth 100000 in
set_option maxHeartbeats 4000000 in
theorem S_X12_notes_0 {k : Kst} {d : Kdy} (o : Ok k d cX12_notes RX12 3 3) (F : Nat) {h : Hp} {a0 : Nat} {x1 : Int32} {x2 : Int32} {h1 : Hp} (hf : X12_notes F a0 x1 x2 h = some h1) (hr : RV k d cX12_notes h1) : Wz k d h 0 [(0, .ref (ka k a0)), (1, .int x1), (2, .int x2)] [] := by
  unfold X12_notes at hf
  refine x_aload_n o dX12_notes_0 0 rfl rfl ?_
  obtain ⟨k_1, hf⟩ := gq_ex hf
  obtain ⟨j_2, ej_2, hf⟩ := ob_ex hf
  refine gRX12_29 o k_1 ej_2 dX12_notes_1 ?_
  refine x_aload_n o dX12_notes_4 0 rfl rfl ?_
  refine gRX12_159 o k_1 dX12_notes_5 ?_
  refine x_ldc (v := 1048576) o dX12_notes_8 wRX12_162 ?_
  refine x_iload_n o dX12_notes_10 1 rfl rfl ?_
  refine x_imul o dX12_notes_11 ?_
  refine x_iload_n o dX12_notes_12 2 rfl rfl ?_
  refine x_iadd o dX12_notes_13 ?_
  obtain ⟨k_3, hf⟩ := gq_ex hf
  obtain ⟨b_4, hf⟩ := gq_ex hf
  obtain ⟨h_5, eh_5, hf⟩ := bd_ex hf
  refine x_iast o k_3 b_4 dX12_notes_14 (x_h eh_5 ?_)
  refine x_aload_n o dX12_notes_15 0 rfl rfl ?_
  refine x_aload_n o dX12_notes_16 0 rfl rfl ?_
  refine gRX12_159 o k_1 dX12_notes_17 ?_
  refine x_iconst (v := 1) o dX12_notes_20 (by decide) ?_
  refine x_iadd o dX12_notes_21 ?_
  obtain ⟨h_6, eh_6, hf⟩ := bd_ex hf
  refine pRX12_159 o k_1 eh_6 dX12_notes_22 ?_
  cases hf
  exact hr _ _ dX12_notes_25
theorem C_X12_notes {k : Kst} (hj : Dj k) (hn : kn k = kdl.length) (F : Nat) {h : Hp} {a0 : Nat} {x1 : Int32} {x2 : Int32} {h1 : Hp} (hf : X12_notes F a0 x1 x2 h = some h1) : MV k 3 yX12_notes cX12_notes 3 [.ref (ka k a0), .int x1, .int x2] h h1 := mV hj hn (by decide +kernel) (Nat.le_of_ble_eq_true rfl) (fun d o hr => S_X12_notes_0 o F hf hr)
set_option maxRecDepth 100000 in
set_option maxHeartbeats 4000000 in
theorem S_X12_opens_0 {k : Kst} {d : Kdy} (o : Ok k d cX12_opens RX12 2 4) (F : Nat) {h : Hp} {a0 : Nat} {x1 : Int32} {r : Int32} {h1 : Hp} (hf : X12_opens F a0 x1 h = some (r, h1)) (hr : RZ k d cX12_opens r h1) : Wz k d h 0 [(0, .ref (ka k a0)), (1, .int x1)] [] := by
  unfold X12_opens at hf
  refine x_aload_n o dX12_opens_0 0 rfl rfl ?_
  obtain ⟨k_1, hf⟩ := gq_ex hf
  refine gRX12_163 o k_1 dX12_opens_1 ?_
  refine x_bipush (v := 6) o dX12_opens_4 (by decide) ?_
  refine x_icmp_ne o 19 dX12_opens_6 (by decide) (fun q_2 => ?_) (fun q_2 => ?_)
  · replace hf := (if_neg q_2).symm.trans hf
    refine x_aload_n o dX12_opens_19 0 rfl rfl ?_
    refine x_aload_n o dX12_opens_20 0 rfl rfl ?_
    refine gRX12_163 o k_1 dX12_opens_21 ?_
    refine x_iconst (v := 1) o dX12_opens_24 (by decide) ?_
    refine x_iadd o dX12_opens_25 ?_
    obtain ⟨h_3, eh_3, hf⟩ := bd_ex hf
    refine pRX12_163 o k_1 eh_3 dX12_opens_26 ?_
    refine x_aload_n o dX12_opens_29 0 rfl rfl ?_
    obtain ⟨j_4, ej_4, hf⟩ := ob_ex hf
    refine gRX12_32 o k_1 ej_4 dX12_opens_30 ?_
    refine x_aload_n o dX12_opens_33 0 rfl rfl ?_
    refine gRX12_166 o k_1 dX12_opens_34 ?_
    refine x_ldc (v := 1048576) o dX12_opens_37 wRX12_162 ?_
    refine x_iload_n o dX12_opens_39 1 rfl rfl ?_
    refine x_imul o dX12_opens_40 ?_
    obtain ⟨k_5, hf⟩ := gq_ex hf
    obtain ⟨b_6, hf⟩ := gq_ex hf
    obtain ⟨h_7, eh_7, hf⟩ := bd_ex hf
    refine x_iast o k_5 b_6 dX12_opens_41 (x_h eh_7 ?_)
    refine x_aload_n o dX12_opens_42 0 rfl rfl ?_
    refine x_aload_n o dX12_opens_43 0 rfl rfl ?_
    refine gRX12_166 o k_1 dX12_opens_44 ?_
    refine x_iconst (v := 1) o dX12_opens_47 (by decide) ?_
    refine x_iadd o dX12_opens_48 ?_
    obtain ⟨h_8, eh_8, hf⟩ := bd_ex hf
    refine pRX12_166 o k_1 eh_8 dX12_opens_49 ?_
    refine x_aload_n o dX12_opens_52 0 rfl rfl ?_
    refine x_aload_n o dX12_opens_53 0 rfl rfl ?_
    refine gRX12_135 o k_1 dX12_opens_54 ?_
    refine x_iconst (v := 1) o dX12_opens_57 (by decide) ?_
    refine x_iadd o dX12_opens_58 ?_
    obtain ⟨h_9, eh_9, hf⟩ := bd_ex hf
    refine pRX12_135 o k_1 eh_9 dX12_opens_59 ?_
    refine x_iconst (v := 1) o dX12_opens_62 (by decide) ?_
    cases hf
    exact hr (Or.inr rfl) _ _ dX12_opens_63
  · replace hf := (if_pos q_2).symm.trans hf
    refine x_aload_n o dX12_opens_9 0 rfl rfl ?_
    refine x_iconst (v := 5) o dX12_opens_10 (by decide) ?_
    refine x_aload_n o dX12_opens_11 0 rfl rfl ?_
    refine gRX12_135 o k_1 dX12_opens_12 ?_
    obtain ⟨c_10, h_11, ec_10, hf⟩ := bq_ex hf
    refine vRX12_148 [.int 5, .int (h.1 a0 8)] [] o (C_X12_wrongAt o.1.2.2.2.2.2.2.1 o.2 F ec_10) (by decide) k_1 rfl rfl (Nat.le_of_ble_eq_true rfl) dX12_opens_15 ?_
    obtain ⟨n_12, hf⟩ := gq_ex hf
    cases hf
    exact hr n_12 _ _ dX12_opens_18
theorem C_X12_opens {k : Kst} (hj : Dj k) (hn : kn k = kdl.length) (F : Nat) {h : Hp} {a0 : Nat} {x1 : Int32} {r : Int32} {h1 : Hp} (hf : X12_opens F a0 x1 h = some (r, h1)) : MI k 4 yX12_opens cX12_opens 2 (some .boolean) [.ref (ka k a0), .int x1] h r h1 := mZ hj hn (by decide +kernel) (Nat.le_of_ble_eq_true rfl) (fun d o hr => S_X12_opens_0 o F hf hr)
set_option maxRecDepth 100000 in
set_option maxHeartbeats 4000000 in
theorem S_X12_waitTop_0 {k : Kst} {d : Kdy} (o : Ok k d cX12_waitTop RX12 1 3) (F : Nat) {h : Hp} {a0 : Nat} {r : Int32} (hf : X12_waitTop F a0 h = some r) (hr : RI k d cX12_waitTop r h) : Wz k d h 0 [(0, .ref (ka k a0))] [] := by
  unfold X12_waitTop at hf
  refine x_aload_n o dX12_waitTop_0 0 rfl rfl ?_
  obtain ⟨k_1, hf⟩ := gq_ex hf
  refine gRX12_166 o k_1 dX12_waitTop_1 ?_
  refine x_if_ne o 11 dX12_waitTop_4 (by decide) (fun q_2 => ?_) (fun q_2 => ?_)
  · replace hf := (if_neg q_2).symm.trans hf
    refine x_aload_n o dX12_waitTop_11 0 rfl rfl ?_
    obtain ⟨j_3, ej_3, hf⟩ := ob_ex hf
    refine gRX12_32 o k_1 ej_3 dX12_waitTop_12 ?_
    refine x_aload_n o dX12_waitTop_15 0 rfl rfl ?_
    refine gRX12_166 o k_1 dX12_waitTop_16 ?_
    refine x_iconst (v := 1) o dX12_waitTop_19 (by decide) ?_
    refine x_isub o dX12_waitTop_20 ?_
    obtain ⟨k_4, hf⟩ := gq_ex hf
    obtain ⟨b_5, hf⟩ := gq_ex hf
    refine x_iald o k_4 b_5 dX12_waitTop_21 ?_
    refine x_ldc (v := 1048576) o dX12_waitTop_22 wRX12_162 ?_
    refine x_idiv o dX12_waitTop_24 (by decide) ?_
    cases hf
    exact hr _ _ dX12_waitTop_25
  · replace hf := (if_pos q_2).symm.trans hf
    refine x_iconst (v := (-1)) o dX12_waitTop_7 (by decide) ?_
    refine x_goto o 25 dX12_waitTop_8 (by decide) ?_
    cases hf
    exact hr _ _ dX12_waitTop_25
theorem C_X12_waitTop {k : Kst} (hj : Dj k) (hn : kn k = kdl.length) (F : Nat) {h : Hp} {a0 : Nat} {r : Int32} (hf : X12_waitTop F a0 h = some r) : MI k 3 yX12_waitTop cX12_waitTop 1 (some .int) [.ref (ka k a0)] h r h := mI hj hn (by decide +kernel) (Nat.le_of_ble_eq_true rfl) (fun d o hr => S_X12_waitTop_0 o F hf hr)
set_option maxRecDepth 100000 in
set_option maxHeartbeats 4000000 in
theorem S_X12_factOf_0 {k : Kst} {d : Kdy} (o : Ok k d cX12_factOf RX12 1 3) (F : Nat) {h : Hp} {x0 : Int32} {r : Int32} (hf : X12_factOf F x0 h = some r) (hr : RI k d cX12_factOf r h) : Wz k d h 0 [(0, .int x0)] [] := by
  unfold X12_factOf at hf
  refine x_iload_n o dX12_factOf_0 0 rfl rfl ?_
  obtain ⟨t_1, et_1, hf⟩ := bd_ex hf
  refine x_top et_1 ?_
  by_cases q_2 : t_1 = 97
  · replace hf := (if_pos q_2).symm.trans hf
    refine x_tabi (v := 97) o 98 q_2 (by decide) (by decide) rfl (by decide) dX12_factOf_1 ?_
    refine x_iconst (v := 1) o dX12_factOf_98 (by decide) ?_
    cases hf
    exact hr _ _ dX12_factOf_99
  replace hf := (if_neg q_2).symm.trans hf
  by_cases q_3 : t_1 = 98
  · replace hf := (if_pos q_3).symm.trans hf
    refine x_tabi (v := 98) o 100 q_3 (by decide) (by decide) rfl (by decide) dX12_factOf_1 ?_
    refine x_iconst (v := 2) o dX12_factOf_100 (by decide) ?_
    cases hf
    exact hr _ _ dX12_factOf_101
  replace hf := (if_neg q_3).symm.trans hf
  by_cases q_4 : t_1 = 99
  · replace hf := (if_pos q_4).symm.trans hf
    refine x_tabi (v := 99) o 117 q_4 (by decide) (by decide) rfl (by decide) dX12_factOf_1 ?_
    refine x_iconst (v := (-1)) o dX12_factOf_117 (by decide) ?_
    cases hf
    exact hr _ _ dX12_factOf_118
  replace hf := (if_neg q_4).symm.trans hf
  by_cases q_5 : t_1 = 100
  · replace hf := (if_pos q_5).symm.trans hf
    refine x_tabi (v := 100) o 117 q_5 (by decide) (by decide) rfl (by decide) dX12_factOf_1 ?_
    refine x_iconst (v := (-1)) o dX12_factOf_117 (by decide) ?_
    cases hf
    exact hr _ _ dX12_factOf_118
  replace hf := (if_neg q_5).symm.trans hf
  by_cases q_6 : t_1 = 101
  · replace hf := (if_pos q_6).symm.trans hf
    refine x_tabi (v := 101) o 96 q_6 (by decide) (by decide) rfl (by decide) dX12_factOf_1 ?_
    refine x_iconst (v := 0) o dX12_factOf_96 (by decide) ?_
    cases hf
    exact hr _ _ dX12_factOf_97
  replace hf := (if_neg q_6).symm.trans hf
  by_cases q_7 : t_1 = 102
  · replace hf := (if_pos q_7).symm.trans hf
    refine x_tabi (v := 102) o 117 q_7 (by decide) (by decide) rfl (by decide) dX12_factOf_1 ?_
    refine x_iconst (v := (-1)) o dX12_factOf_117 (by decide) ?_
    cases hf
    exact hr _ _ dX12_factOf_118
  replace hf := (if_neg q_7).symm.trans hf
  by_cases q_8 : t_1 = 103
  · replace hf := (if_pos q_8).symm.trans hf
    refine x_tabi (v := 103) o 102 q_8 (by decide) (by decide) rfl (by decide) dX12_factOf_1 ?_
    refine x_iconst (v := 3) o dX12_factOf_102 (by decide) ?_
    cases hf
    exact hr _ _ dX12_factOf_103
  replace hf := (if_neg q_8).symm.trans hf
  by_cases q_9 : t_1 = 104
  · replace hf := (if_pos q_9).symm.trans hf
    refine x_tabi (v := 104) o 104 q_9 (by decide) (by decide) rfl (by decide) dX12_factOf_1 ?_
    refine x_iconst (v := 4) o dX12_factOf_104 (by decide) ?_
    cases hf
    exact hr _ _ dX12_factOf_105
  replace hf := (if_neg q_9).symm.trans hf
  by_cases q_10 : t_1 = 105
  · replace hf := (if_pos q_10).symm.trans hf
    refine x_tabi (v := 105) o 117 q_10 (by decide) (by decide) rfl (by decide) dX12_factOf_1 ?_
    refine x_iconst (v := (-1)) o dX12_factOf_117 (by decide) ?_
    cases hf
    exact hr _ _ dX12_factOf_118
  replace hf := (if_neg q_10).symm.trans hf
  by_cases q_11 : t_1 = 106
  · replace hf := (if_pos q_11).symm.trans hf
    refine x_tabi (v := 106) o 117 q_11 (by decide) (by decide) rfl (by decide) dX12_factOf_1 ?_
    refine x_iconst (v := (-1)) o dX12_factOf_117 (by decide) ?_
    cases hf
    exact hr _ _ dX12_factOf_118
  replace hf := (if_neg q_11).symm.trans hf
  by_cases q_12 : t_1 = 107
  · replace hf := (if_pos q_12).symm.trans hf
    refine x_tabi (v := 107) o 108 q_12 (by decide) (by decide) rfl (by decide) dX12_factOf_1 ?_
    refine x_bipush (v := 6) o dX12_factOf_108 (by decide) ?_
    cases hf
    exact hr _ _ dX12_factOf_110
  replace hf := (if_neg q_12).symm.trans hf
  by_cases q_13 : t_1 = 108
  · replace hf := (if_pos q_13).symm.trans hf
    refine x_tabi (v := 108) o 117 q_13 (by decide) (by decide) rfl (by decide) dX12_factOf_1 ?_
    refine x_iconst (v := (-1)) o dX12_factOf_117 (by decide) ?_
    cases hf
    exact hr _ _ dX12_factOf_118
  replace hf := (if_neg q_13).symm.trans hf
  by_cases q_14 : t_1 = 109
  · replace hf := (if_pos q_14).symm.trans hf
    refine x_tabi (v := 109) o 117 q_14 (by decide) (by decide) rfl (by decide) dX12_factOf_1 ?_
    refine x_iconst (v := (-1)) o dX12_factOf_117 (by decide) ?_
    cases hf
    exact hr _ _ dX12_factOf_118
  replace hf := (if_neg q_14).symm.trans hf
  by_cases q_15 : t_1 = 110
  · replace hf := (if_pos q_15).symm.trans hf
    refine x_tabi (v := 110) o 117 q_15 (by decide) (by decide) rfl (by decide) dX12_factOf_1 ?_
    refine x_iconst (v := (-1)) o dX12_factOf_117 (by decide) ?_
    cases hf
    exact hr _ _ dX12_factOf_118
  replace hf := (if_neg q_15).symm.trans hf
  by_cases q_16 : t_1 = 111
  · replace hf := (if_pos q_16).symm.trans hf
    refine x_tabi (v := 111) o 117 q_16 (by decide) (by decide) rfl (by decide) dX12_factOf_1 ?_
    refine x_iconst (v := (-1)) o dX12_factOf_117 (by decide) ?_
    cases hf
    exact hr _ _ dX12_factOf_118
  replace hf := (if_neg q_16).symm.trans hf
  by_cases q_17 : t_1 = 112
  · replace hf := (if_pos q_17).symm.trans hf
    refine x_tabi (v := 112) o 117 q_17 (by decide) (by decide) rfl (by decide) dX12_factOf_1 ?_
    refine x_iconst (v := (-1)) o dX12_factOf_117 (by decide) ?_
    cases hf
    exact hr _ _ dX12_factOf_118
  replace hf := (if_neg q_17).symm.trans hf
  by_cases q_18 : t_1 = 113
  · replace hf := (if_pos q_18).symm.trans hf
    refine x_tabi (v := 113) o 117 q_18 (by decide) (by decide) rfl (by decide) dX12_factOf_1 ?_
    refine x_iconst (v := (-1)) o dX12_factOf_117 (by decide) ?_
    cases hf
    exact hr _ _ dX12_factOf_118
  replace hf := (if_neg q_18).symm.trans hf
  by_cases q_19 : t_1 = 114
  · replace hf := (if_pos q_19).symm.trans hf
    refine x_tabi (v := 114) o 114 q_19 (by decide) (by decide) rfl (by decide) dX12_factOf_1 ?_
    refine x_bipush (v := 8) o dX12_factOf_114 (by decide) ?_
    cases hf
    exact hr _ _ dX12_factOf_116
  replace hf := (if_neg q_19).symm.trans hf
  by_cases q_20 : t_1 = 115
  · replace hf := (if_pos q_20).symm.trans hf
    refine x_tabi (v := 115) o 106 q_20 (by decide) (by decide) rfl (by decide) dX12_factOf_1 ?_
    refine x_iconst (v := 5) o dX12_factOf_106 (by decide) ?_
    cases hf
    exact hr _ _ dX12_factOf_107
  replace hf := (if_neg q_20).symm.trans hf
  by_cases q_21 : t_1 = 116
  · replace hf := (if_pos q_21).symm.trans hf
    refine x_tabi (v := 116) o 111 q_21 (by decide) (by decide) rfl (by decide) dX12_factOf_1 ?_
    refine x_bipush (v := 7) o dX12_factOf_111 (by decide) ?_
    cases hf
    exact hr _ _ dX12_factOf_113
  replace hf := (if_neg q_21).symm.trans hf
  refine x_tabo o 117 (by have z97 := lv_neT (a := 97) q_2 rfl; have z98 := lv_neT (a := 98) q_3 rfl; have z99 := lv_neT (a := 99) q_4 rfl; have z100 := lv_neT (a := 100) q_5 rfl; have z101 := lv_neT (a := 101) q_6 rfl; have z102 := lv_neT (a := 102) q_7 rfl; have z103 := lv_neT (a := 103) q_8 rfl; have z104 := lv_neT (a := 104) q_9 rfl; have z105 := lv_neT (a := 105) q_10 rfl; have z106 := lv_neT (a := 106) q_11 rfl; have z107 := lv_neT (a := 107) q_12 rfl; have z108 := lv_neT (a := 108) q_13 rfl; have z109 := lv_neT (a := 109) q_14 rfl; have z110 := lv_neT (a := 110) q_15 rfl; have z111 := lv_neT (a := 111) q_16 rfl; have z112 := lv_neT (a := 112) q_17 rfl; have z113 := lv_neT (a := 113) q_18 rfl; have z114 := lv_neT (a := 114) q_19 rfl; have z115 := lv_neT (a := 115) q_20 rfl; have z116 := lv_neT (a := 116) q_21 rfl; omega) (by decide) dX12_factOf_1 ?_
  refine x_iconst (v := (-1)) o dX12_factOf_117 (by decide) ?_
  cases hf
  exact hr _ _ dX12_factOf_118
theorem C_X12_factOf {k : Kst} (hj : Dj k) (hn : kn k = kdl.length) (F : Nat) {h : Hp} {x0 : Int32} {r : Int32} (hf : X12_factOf F x0 h = some r) : MI k 3 yX12_factOf cX12_factOf 1 (some .int) [.int x0] h r h := mI hj hn (by decide +kernel) (Nat.le_of_ble_eq_true rfl) (fun d o hr => S_X12_factOf_0 o F hf hr)
set_option maxRecDepth 100000 in
set_option maxHeartbeats 4000000 in
theorem S_X12_sumSign_0 {k : Kst} {d : Kdy} (o : Ok k d cX12_sumSign RX12 1 3) (F : Nat) {h : Hp} {x0 : Int32} {r : Int32} (hf : X12_sumSign F x0 h = some r) (hr : RI k d cX12_sumSign r h) : Wz k d h 0 [(0, .int x0)] [] := by
  unfold X12_sumSign at hf
  refine x_iload_n o dX12_sumSign_0 0 rfl rfl ?_
  refine x_bipush (v := 43) o dX12_sumSign_1 (by decide) ?_
  refine x_icmp_ne o 10 dX12_sumSign_3 (by decide) (fun q_1 => ?_) (fun q_1 => ?_)
  · replace hf := (if_neg q_1).symm.trans hf
    refine x_iload_n o dX12_sumSign_10 0 rfl rfl ?_
    refine x_bipush (v := 45) o dX12_sumSign_11 (by decide) ?_
    refine x_icmp_ne o 20 dX12_sumSign_13 (by decide) (fun q_2 => ?_) (fun q_2 => ?_)
    · replace hf := (if_neg q_2).symm.trans hf
      refine x_iload_n o dX12_sumSign_20 0 rfl rfl ?_
      refine x_bipush (v := 42) o dX12_sumSign_21 (by decide) ?_
      refine x_icmp_ne o 30 dX12_sumSign_23 (by decide) (fun q_3 => ?_) (fun q_3 => ?_)
      · replace hf := (if_neg q_3).symm.trans hf
        refine x_iload_n o dX12_sumSign_30 0 rfl rfl ?_
        refine x_bipush (v := 47) o dX12_sumSign_31 (by decide) ?_
        refine x_icmp_ne o 40 dX12_sumSign_33 (by decide) (fun q_4 => ?_) (fun q_4 => ?_)
        · replace hf := (if_neg q_4).symm.trans hf
          refine x_iload_n o dX12_sumSign_40 0 rfl rfl ?_
          refine x_bipush (v := 37) o dX12_sumSign_41 (by decide) ?_
          refine x_icmp_ne o 51 dX12_sumSign_43 (by decide) (fun q_5 => ?_) (fun q_5 => ?_)
          · replace hf := (if_neg q_5).symm.trans hf
            refine x_iconst (v := (-1)) o dX12_sumSign_51 (by decide) ?_
            cases hf
            exact hr _ _ dX12_sumSign_52
          · replace hf := (if_pos q_5).symm.trans hf
            refine x_bipush (v := 6) o dX12_sumSign_46 (by decide) ?_
            refine x_goto o 52 dX12_sumSign_48 (by decide) ?_
            cases hf
            exact hr _ _ dX12_sumSign_52
        · replace hf := (if_pos q_4).symm.trans hf
          refine x_iconst (v := 5) o dX12_sumSign_36 (by decide) ?_
          refine x_goto o 52 dX12_sumSign_37 (by decide) ?_
          cases hf
          exact hr _ _ dX12_sumSign_52
      · replace hf := (if_pos q_3).symm.trans hf
        refine x_iconst (v := 4) o dX12_sumSign_26 (by decide) ?_
        refine x_goto o 52 dX12_sumSign_27 (by decide) ?_
        cases hf
        exact hr _ _ dX12_sumSign_52
    · replace hf := (if_pos q_2).symm.trans hf
      refine x_iconst (v := 3) o dX12_sumSign_16 (by decide) ?_
      refine x_goto o 52 dX12_sumSign_17 (by decide) ?_
      cases hf
      exact hr _ _ dX12_sumSign_52
  · replace hf := (if_pos q_1).symm.trans hf
    refine x_iconst (v := 2) o dX12_sumSign_6 (by decide) ?_
    refine x_goto o 52 dX12_sumSign_7 (by decide) ?_
    cases hf
    exact hr _ _ dX12_sumSign_52
theorem C_X12_sumSign {k : Kst} (hj : Dj k) (hn : kn k = kdl.length) (F : Nat) {h : Hp} {x0 : Int32} {r : Int32} (hf : X12_sumSign F x0 h = some r) : MI k 3 yX12_sumSign cX12_sumSign 1 (some .int) [.int x0] h r h := mI hj hn (by decide +kernel) (Nat.le_of_ble_eq_true rfl) (fun d o hr => S_X12_sumSign_0 o F hf hr)
set_option maxRecDepth 100000 in
set_option maxHeartbeats 4000000 in
theorem S_X12_closesSums_37 {k : Kst} {d : Kdy} (o : Ok k d cX12_closesSums RX12 2 4) (F : Nat) {k0 : Nat → Int32 → Hp → Option Hp} (hk0 : ∀ {h : Hp} {a0 : Nat} {x1 : Int32} {h1 : Hp}, k0 a0 x1 h = some h1 → RV k d cX12_closesSums h1 → Wz k d h 0 [(0, .ref (ka k a0)), (1, .int x1)] []) {h : Hp} {a0 : Nat} {x1 : Int32} {h1 : Hp} (hf : X12_closesSums_37 F k0 a0 x1 h = some h1) (hr : RV k d cX12_closesSums h1) : Wz k d h 37 [(0, .ref (ka k a0)), (1, .int x1)] [] := by
  unfold X12_closesSums_37 at hf
  refine x_aload_n o dX12_closesSums_37 0 rfl rfl ?_
  refine x_aload_n o dX12_closesSums_38 0 rfl rfl ?_
  obtain ⟨k_1, hf⟩ := gq_ex hf
  obtain ⟨c_2, ec_2, hf⟩ := ob_ex hf
  refine vRX12_169 [] [.ref (ka k a0)] o (C_X12_waitTop o.1.2.2.2.2.2.2.1 o.2 F ec_2) (by decide) k_1 rfl rfl (Nat.le_of_ble_eq_true rfl) dX12_closesSums_39 ?_
  refine x_iconst (v := 0) o dX12_closesSums_42 (by decide) ?_
  obtain ⟨h_5, eh_5, hf⟩ := ob_ex hf
  refine vRX12_172 [.int c_2, .int 0] [] o (C_X12_notes o.1.2.2.2.2.2.2.1 o.2 F eh_5) (by decide) k_1 rfl rfl (Nat.le_of_ble_eq_true rfl) dX12_closesSums_43 ?_
  refine x_aload_n o dX12_closesSums_46 0 rfl rfl ?_
  refine x_aload_n o dX12_closesSums_47 0 rfl rfl ?_
  refine gRX12_166 o k_1 dX12_closesSums_48 ?_
  refine x_iconst (v := 1) o dX12_closesSums_51 (by decide) ?_
  refine x_isub o dX12_closesSums_52 ?_
  obtain ⟨h_6, eh_6, hf⟩ := bd_ex hf
  refine pRX12_166 o k_1 eh_6 dX12_closesSums_53 ?_
  refine x_goto o 0 dX12_closesSums_56 (by decide) ?_
  refine x_sub [0, 1] [(0, .ref (ka k a0)), (1, .int x1)] rfl ?_
  exact hk0 hf hr
set_option maxRecDepth 100000 in
set_option maxHeartbeats 4000000 in
theorem S_X12_closesSums_17 {k : Kst} {d : Kdy} (o : Ok k d cX12_closesSums RX12 2 4) (F : Nat) {k0 : Nat → Int32 → Hp → Option Hp} (hk0 : ∀ {h : Hp} {a0 : Nat} {x1 : Int32} {h1 : Hp}, k0 a0 x1 h = some h1 → RV k d cX12_closesSums h1 → Wz k d h 0 [(0, .ref (ka k a0)), (1, .int x1)] []) {h : Hp} {a0 : Nat} {x1 : Int32} {h1 : Hp} (hf : X12_closesSums_17 F k0 a0 x1 h = some h1) (hr : RV k d cX12_closesSums h1) : Wz k d h 17 [(0, .ref (ka k a0)), (1, .int x1)] [] := by
  unfold X12_closesSums_17 at hf
  refine x_iload_n o dX12_closesSums_17 1 rfl rfl ?_
  refine x_if_eq o 59 dX12_closesSums_18 (by decide) (fun q_1 => ?_) (fun q_1 => ?_)
  · replace hf := (if_pos q_1).symm.trans hf
    cases hf
    exact hr _ _ dX12_closesSums_59
  · replace hf := (if_neg q_1).symm.trans hf
    refine x_aload_n o dX12_closesSums_21 0 rfl rfl ?_
    obtain ⟨k_2, hf⟩ := gq_ex hf
    obtain ⟨c_3, ec_3, hf⟩ := ob_ex hf
    refine vRX12_169 [] [] o (C_X12_waitTop o.1.2.2.2.2.2.2.1 o.2 F ec_3) (by decide) k_2 rfl rfl (Nat.le_of_ble_eq_true rfl) dX12_closesSums_22 ?_
    refine x_iconst (v := 2) o dX12_closesSums_25 (by decide) ?_
    refine x_icmp_eq o 37 dX12_closesSums_26 (by decide) (fun q_5 => ?_) (fun q_5 => ?_)
    · replace hf := (if_pos q_5).symm.trans hf
      refine x_sub [0, 1] [(0, .ref (ka k a0)), (1, .int x1)] rfl ?_
      exact S_X12_closesSums_37 o F hk0 hf hr
    · replace hf := (if_neg q_5).symm.trans hf
      refine x_aload_n o dX12_closesSums_29 0 rfl rfl ?_
      obtain ⟨c_6, ec_6, hf⟩ := ob_ex hf
      refine vRX12_169 [] [] o (C_X12_waitTop o.1.2.2.2.2.2.2.1 o.2 F ec_6) (by decide) k_2 rfl rfl (Nat.le_of_ble_eq_true rfl) dX12_closesSums_30 ?_
      refine x_iconst (v := 3) o dX12_closesSums_33 (by decide) ?_
      refine x_icmp_ne o 59 dX12_closesSums_34 (by decide) (fun q_8 => ?_) (fun q_8 => ?_)
      · replace hf := (if_neg q_8).symm.trans hf
        cases hf
        exact hr _ _ dX12_closesSums_59
      · replace hf := (if_pos q_8).symm.trans hf
        refine x_sub [0, 1] [(0, .ref (ka k a0)), (1, .int x1)] rfl ?_
        exact S_X12_closesSums_37 o F hk0 hf hr
set_option maxRecDepth 100000 in
set_option maxHeartbeats 4000000 in
theorem S_X12_closesSums_0 {k : Kst} {d : Kdy} (o : Ok k d cX12_closesSums RX12 2 4) (F : Nat) : ∀ (f : Nat) {h : Hp} {a0 : Nat} {x1 : Int32} {h1 : Hp}, X12_closesSums_0 F f a0 x1 h = some h1 → RV k d cX12_closesSums h1 → Wz k d h 0 [(0, .ref (ka k a0)), (1, .int x1)] [] := by
  intro f
  induction f with
  | zero =>
    intro h a0 x1 h1 hf hr
    exact nomatch (show (none : Option _) = some _ from hf)
  | succ f ih =>
    intro h a0 x1 h1 hf hr
    rw [X12_closesSums_0] at hf
    refine x_aload_n o dX12_closesSums_0 0 rfl rfl ?_
    obtain ⟨k_1, hf⟩ := gq_ex hf
    obtain ⟨c_2, ec_2, hf⟩ := ob_ex hf
    refine vRX12_169 [] [] o (C_X12_waitTop o.1.2.2.2.2.2.2.1 o.2 F ec_2) (by decide) k_1 rfl rfl (Nat.le_of_ble_eq_true rfl) dX12_closesSums_1 ?_
    refine x_iconst (v := 4) o dX12_closesSums_4 (by decide) ?_
    refine x_icmp_lt o 17 dX12_closesSums_5 (by decide) (fun q_4 => ?_) (fun q_4 => ?_)
    · replace hf := (if_pos q_4).symm.trans hf
      refine x_sub [0, 1] [(0, .ref (ka k a0)), (1, .int x1)] rfl ?_
      exact S_X12_closesSums_17 o F (fun q1 q2 => ih q1 q2) hf hr
    · replace hf := (if_neg q_4).symm.trans hf
      refine x_aload_n o dX12_closesSums_8 0 rfl rfl ?_
      obtain ⟨c_5, ec_5, hf⟩ := ob_ex hf
      refine vRX12_169 [] [] o (C_X12_waitTop o.1.2.2.2.2.2.2.1 o.2 F ec_5) (by decide) k_1 rfl rfl (Nat.le_of_ble_eq_true rfl) dX12_closesSums_9 ?_
      refine x_bipush (v := 6) o dX12_closesSums_12 (by decide) ?_
      refine x_icmp_le o 37 dX12_closesSums_14 (by decide) (fun q_7 => ?_) (fun q_7 => ?_)
      · replace hf := (if_pos q_7).symm.trans hf
        refine x_sub [0, 1] [(0, .ref (ka k a0)), (1, .int x1)] rfl ?_
        exact S_X12_closesSums_37 o F (fun q1 q2 => ih q1 q2) hf hr
      · replace hf := (if_neg q_7).symm.trans hf
        refine x_sub [0, 1] [(0, .ref (ka k a0)), (1, .int x1)] rfl ?_
        exact S_X12_closesSums_17 o F (fun q1 q2 => ih q1 q2) hf hr
theorem C_X12_closesSums {k : Kst} (hj : Dj k) (hn : kn k = kdl.length) (F : Nat) {h : Hp} {a0 : Nat} {x1 : Int32} {h1 : Hp} (hf : X12_closesSums F a0 x1 h = some h1) : MV k 4 yX12_closesSums cX12_closesSums 2 [.ref (ka k a0), .int x1] h h1 := mV hj hn (by decide +kernel) (Nat.le_of_ble_eq_true rfl) (fun d o hr => S_X12_closesSums_0 o F _ hf hr)
set_option maxRecDepth 100000 in
set_option maxHeartbeats 4000000 in
theorem S_X12_readsFactor_0 {k : Kst} {d : Kdy} (o : Ok k d cX12_readsFactor RX12 2 6) (F : Nat) : ∀ (f : Nat) {h : Hp} {a0 : Nat} {r : Int32} {h1 : Hp}, X12_readsFactor_0 F f a0 h = some (r, h1) → RZ k d cX12_readsFactor r h1 → Wz k d h 0 [(0, .ref (ka k a0))] [] := by
  intro f
  induction f with
  | zero =>
    intro h a0 r h1 hf hr
    exact nomatch (show (none : Option _) = some _ from hf)
  | succ f ih =>
    intro h a0 r h1 hf hr
    rw [X12_readsFactor_0] at hf
    refine x_aload_n o dX12_readsFactor_0 0 rfl rfl ?_
    obtain ⟨k_1, hf⟩ := gq_ex hf
    obtain ⟨c_2, ec_2, hf⟩ := ob_ex hf
    refine vRX12_141 [] [] o (C_X12_here o.1.2.2.2.2.2.2.1 o.2 F ec_2) (by decide) k_1 rfl rfl (Nat.le_of_ble_eq_true rfl) dX12_readsFactor_1 ?_
    refine x_bipush (v := 91) o dX12_readsFactor_4 (by decide) ?_
    refine x_icmp_ne o 20 dX12_readsFactor_6 (by decide) (fun q_4 => ?_) (fun q_4 => ?_)
    · replace hf := (if_neg q_4).symm.trans hf
      refine x_aload_n o dX12_readsFactor_20 0 rfl rfl ?_
      obtain ⟨c_5, ec_5, hf⟩ := ob_ex hf
      refine vRX12_155 [] [] o (C_X12_isDigit o.1.2.2.2.2.2.2.1 o.2 F ec_5) (by decide) k_1 rfl rfl (Nat.le_of_ble_eq_true rfl) dX12_readsFactor_21 ?_
      refine x_if_eq o 47 dX12_readsFactor_24 (by decide) (fun q_7 => ?_) (fun q_7 => ?_)
      · replace hf := (if_pos q_7).symm.trans hf
        refine x_aload_n o dX12_readsFactor_47 0 rfl rfl ?_
        obtain ⟨c_8, ec_8, hf⟩ := ob_ex hf
        refine vRX12_141 [] [] o (C_X12_here o.1.2.2.2.2.2.2.1 o.2 F ec_8) (by decide) k_1 rfl rfl (Nat.le_of_ble_eq_true rfl) dX12_readsFactor_48 ?_
        obtain ⟨c_10, ec_10, hf⟩ := ob_ex hf
        refine vRX12_183 [.int c_8] [] o (C_X12_factOf o.1.2.2.2.2.2.2.1 o.2 F ec_10) (by decide) rfl rfl (Nat.le_of_ble_eq_true rfl) dX12_readsFactor_51 ?_
        refine x_istore_n o dX12_readsFactor_54 (by decide) rfl [(1, .int c_10), (0, .ref (ka k a0))] rfl ?_
        refine x_iload_n o dX12_readsFactor_55 0 rfl rfl ?_
        refine x_iconst (v := (-1)) o dX12_readsFactor_56 (by decide) ?_
        refine x_icmp_ne o 70 dX12_readsFactor_57 (by decide) (fun q_12 => ?_) (fun q_12 => ?_)
        · replace hf := (if_neg q_12).symm.trans hf
          refine x_aload_n o dX12_readsFactor_70 1 rfl rfl ?_
          refine x_iconst (v := 1) o dX12_readsFactor_71 (by decide) ?_
          refine x_iload_n o dX12_readsFactor_72 0 rfl rfl ?_
          obtain ⟨h_14, eh_14, hf⟩ := ob_ex hf
          refine vRX12_172 [.int 1, .int c_10] [] o (C_X12_notes o.1.2.2.2.2.2.2.1 o.2 F eh_14) (by decide) k_1 rfl rfl (Nat.le_of_ble_eq_true rfl) dX12_readsFactor_73 ?_
          refine x_aload_n o dX12_readsFactor_76 1 rfl rfl ?_
          refine x_aload_n o dX12_readsFactor_77 1 rfl rfl ?_
          refine gRX12_135 o k_1 dX12_readsFactor_78 ?_
          refine x_iconst (v := 1) o dX12_readsFactor_81 (by decide) ?_
          refine x_iadd o dX12_readsFactor_82 ?_
          obtain ⟨h_15, eh_15, hf⟩ := bd_ex hf
          refine pRX12_135 o k_1 eh_15 dX12_readsFactor_83 ?_
          refine x_iconst (v := 1) o dX12_readsFactor_86 (by decide) ?_
          cases hf
          exact hr (Or.inr rfl) _ _ dX12_readsFactor_87
        · replace hf := (if_pos q_12).symm.trans hf
          refine x_aload_n o dX12_readsFactor_60 1 rfl rfl ?_
          refine x_iconst (v := 1) o dX12_readsFactor_61 (by decide) ?_
          refine x_aload_n o dX12_readsFactor_62 1 rfl rfl ?_
          refine gRX12_135 o k_1 dX12_readsFactor_63 ?_
          obtain ⟨c_16, h_17, ec_16, hf⟩ := bq_ex hf
          refine vRX12_148 [.int 1, .int (h.1 a0 8)] [] o (C_X12_wrongAt o.1.2.2.2.2.2.2.1 o.2 F ec_16) (by decide) k_1 rfl rfl (Nat.le_of_ble_eq_true rfl) dX12_readsFactor_66 ?_
          obtain ⟨n_18, hf⟩ := gq_ex hf
          cases hf
          exact hr n_18 _ _ dX12_readsFactor_69
      · replace hf := (if_neg q_7).symm.trans hf
        refine x_aload_n o dX12_readsFactor_27 0 rfl rfl ?_
        obtain ⟨c_19, h_20, ec_19, hf⟩ := bq_ex hf
        refine vRX12_180 [] [] o (C_X12_readsNumber o.1.2.2.2.2.2.2.1 o.2 F ec_19) (by decide) k_1 rfl rfl (Nat.le_of_ble_eq_true rfl) dX12_readsFactor_28 ?_
        refine x_if_ne o 36 dX12_readsFactor_31 (by decide) (fun q_21 => ?_) (fun q_21 => ?_)
        · replace hf := (if_neg q_21).symm.trans hf
          refine x_aload_n o dX12_readsFactor_36 0 rfl rfl ?_
          refine x_iconst (v := 0) o dX12_readsFactor_37 (by decide) ?_
          refine x_aload_n o dX12_readsFactor_38 0 rfl rfl ?_
          refine gRX12_152 o k_1 dX12_readsFactor_39 ?_
          obtain ⟨h_23, eh_23, hf⟩ := ob_ex hf
          refine vRX12_172 [.int 0, .int (h_20.1 a0 11)] [] o (C_X12_notes o.1.2.2.2.2.2.2.1 o.2 F eh_23) (by decide) k_1 rfl rfl (Nat.le_of_ble_eq_true rfl) dX12_readsFactor_42 ?_
          refine x_iconst (v := 1) o dX12_readsFactor_45 (by decide) ?_
          cases hf
          exact hr (Or.inr rfl) _ _ dX12_readsFactor_46
        · replace hf := (if_pos q_21).symm.trans hf
          refine x_iconst (v := 0) o dX12_readsFactor_34 (by decide) ?_
          cases hf
          exact hr (Or.inl rfl) _ _ dX12_readsFactor_35
    · replace hf := (if_pos q_4).symm.trans hf
      refine x_aload_n o dX12_readsFactor_9 0 rfl rfl ?_
      refine x_bipush (v := 14) o dX12_readsFactor_10 (by decide) ?_
      obtain ⟨c_24, h_25, ec_24, hf⟩ := bq_ex hf
      refine vRX12_176 [.int 14] [] o (C_X12_opens o.1.2.2.2.2.2.2.1 o.2 F ec_24) (by decide) k_1 rfl rfl (Nat.le_of_ble_eq_true rfl) dX12_readsFactor_12 ?_
      refine x_if_ne o 0 dX12_readsFactor_15 (by decide) (fun q_26 => ?_) (fun q_26 => ?_)
      · replace hf := (if_neg q_26).symm.trans hf
        refine x_sub [0] [(0, .ref (ka k a0))] rfl ?_
        exact ih hf hr
      · replace hf := (if_pos q_26).symm.trans hf
        refine x_iconst (v := 0) o dX12_readsFactor_18 (by decide) ?_
        cases hf
        exact hr (Or.inl rfl) _ _ dX12_readsFactor_19
theorem C_X12_readsFactor {k : Kst} (hj : Dj k) (hn : kn k = kdl.length) (F : Nat) {h : Hp} {a0 : Nat} {r : Int32} {h1 : Hp} (hf : X12_readsFactor F a0 h = some (r, h1)) : MI k 6 yX12_readsFactor cX12_readsFactor 2 (some .boolean) [.ref (ka k a0)] h r h1 := mZ hj hn (by decide +kernel) (Nat.le_of_ble_eq_true rfl) (fun d o hr => S_X12_readsFactor_0 o F _ hf hr)
set_option maxRecDepth 100000 in
set_option maxHeartbeats 4000000 in
theorem S_X12_hasOpenSum_2 {k : Kst} {d : Kdy} (o : Ok k d cX12_hasOpenSum RX12 3 3) (F : Nat) : ∀ (f : Nat) {h : Hp} {a0 : Nat} {x2 : Int32} {r : Int32}, X12_hasOpenSum_2 F f a0 x2 h = some r → RZ k d cX12_hasOpenSum r h → Wz k d h 2 [(0, .ref (ka k a0)), (2, .int x2)] [] := by
  intro f
  induction f with
  | zero =>
    intro h a0 x2 r hf hr
    exact nomatch (show (none : Option _) = some _ from hf)
  | succ f ih =>
    intro h a0 x2 r hf hr
    rw [X12_hasOpenSum_2] at hf
    refine x_iload_n o dX12_hasOpenSum_2 1 rfl rfl ?_
    refine x_aload_n o dX12_hasOpenSum_3 0 rfl rfl ?_
    obtain ⟨k_1, hf⟩ := gq_ex hf
    refine gRX12_166 o k_1 dX12_hasOpenSum_4 ?_
    refine x_icmp_ge o 32 dX12_hasOpenSum_7 (by decide) (fun q_2 => ?_) (fun q_2 => ?_)
    · replace hf := (if_pos q_2).symm.trans hf
      refine x_iconst (v := 0) o dX12_hasOpenSum_32 (by decide) ?_
      cases hf
      exact hr (Or.inl rfl) _ _ dX12_hasOpenSum_33
    · replace hf := (if_neg q_2).symm.trans hf
      refine x_aload_n o dX12_hasOpenSum_10 0 rfl rfl ?_
      obtain ⟨j_3, ej_3, hf⟩ := ob_ex hf
      refine gRX12_32 o k_1 ej_3 dX12_hasOpenSum_11 ?_
      refine x_iload_n o dX12_hasOpenSum_14 1 rfl rfl ?_
      obtain ⟨k_4, hf⟩ := gq_ex hf
      obtain ⟨b_5, hf⟩ := gq_ex hf
      refine x_iald o k_4 b_5 dX12_hasOpenSum_15 ?_
      refine x_ldc (v := 1048576) o dX12_hasOpenSum_16 wRX12_162 ?_
      refine x_idiv o dX12_hasOpenSum_18 (by decide) ?_
      refine x_bipush (v := 14) o dX12_hasOpenSum_19 (by decide) ?_
      refine x_icmp_ne o 26 dX12_hasOpenSum_21 (by decide) (fun q_6 => ?_) (fun q_6 => ?_)
      · replace hf := (if_neg q_6).symm.trans hf
        obtain ⟨x2_7, ex2_7, hf⟩ := bd_ex hf
        refine x_iinc o dX12_hasOpenSum_26 (by decide) 1 rfl ex2_7.symm [(2, .int x2_7), (0, .ref (ka k a0))] rfl ?_
        refine x_goto o 2 dX12_hasOpenSum_29 (by decide) ?_
        refine x_sub [1, 0] [(0, .ref (ka k a0)), (2, .int x2_7)] rfl ?_
        exact ih hf hr
      · replace hf := (if_pos q_6).symm.trans hf
        refine x_iconst (v := 1) o dX12_hasOpenSum_24 (by decide) ?_
        cases hf
        exact hr (Or.inr rfl) _ _ dX12_hasOpenSum_25
set_option maxRecDepth 100000 in
set_option maxHeartbeats 4000000 in
theorem S_X12_hasOpenSum_0 {k : Kst} {d : Kdy} (o : Ok k d cX12_hasOpenSum RX12 3 3) (F : Nat) {h : Hp} {a0 : Nat} {x1 : Int32} {r : Int32} (hf : X12_hasOpenSum F a0 x1 h = some r) (hr : RZ k d cX12_hasOpenSum r h) : Wz k d h 0 [(0, .ref (ka k a0)), (1, .int x1)] [] := by
  unfold X12_hasOpenSum at hf
  refine x_iload_n o dX12_hasOpenSum_0 1 rfl rfl ?_
  refine x_istore_n o dX12_hasOpenSum_1 (by decide) rfl [(2, .int x1), (0, .ref (ka k a0)), (1, .int x1)] rfl ?_
  refine x_sub [1, 0] [(0, .ref (ka k a0)), (2, .int x1)] rfl ?_
  exact S_X12_hasOpenSum_2 o F _ hf hr
theorem C_X12_hasOpenSum {k : Kst} (hj : Dj k) (hn : kn k = kdl.length) (F : Nat) {h : Hp} {a0 : Nat} {x1 : Int32} {r : Int32} (hf : X12_hasOpenSum F a0 x1 h = some r) : MI k 3 yX12_hasOpenSum cX12_hasOpenSum 3 (some .boolean) [.ref (ka k a0), .int x1] h r h := mZ hj hn (by decide +kernel) (Nat.le_of_ble_eq_true rfl) (fun d o hr => S_X12_hasOpenSum_0 o F hf hr)
set_option maxRecDepth 100000 in
set_option maxHeartbeats 4000000 in
theorem S_X12_readsSum_163 {k : Kst} {d : Kdy} (o : Ok k d cX12_readsSum RX12 3 7) (F : Nat) {k14 : Nat → Int32 → Hp → Option (Int32 × Hp)} (hk14 : ∀ {h : Hp} {a0 : Nat} {x1 : Int32} {r : Int32} {h1 : Hp}, k14 a0 x1 h = some (r, h1) → RZ k d cX12_readsSum r h1 → Wz k d h 14 [(0, .ref (ka k a0)), (1, .int x1)] []) {h : Hp} {a0 : Nat} {x1 : Int32} {r : Int32} {h1 : Hp} (hf : X12_readsSum_163 F k14 a0 x1 h = some (r, h1)) (hr : RZ k d cX12_readsSum r h1) : Wz k d h 163 [(0, .ref (ka k a0)), (1, .int x1)] [] := by
  unfold X12_readsSum_163 at hf
  refine x_goto o 14 dX12_readsSum_163 (by decide) ?_
  refine x_sub [0, 1] [(0, .ref (ka k a0)), (1, .int x1)] rfl ?_
  exact hk14 hf hr
set_option maxRecDepth 100000 in
set_option maxHeartbeats 4000000 in
theorem S_X12_readsSum_138 {k : Kst} {d : Kdy} (o : Ok k d cX12_readsSum RX12 3 7) (F : Nat) {h : Hp} {a0 : Nat} {x1 : Int32} {r : Int32} {h1 : Hp} (hf : X12_readsSum_138 F a0 x1 h = some (r, h1)) (hr : RZ k d cX12_readsSum r h1) : Wz k d h 138 [(0, .ref (ka k a0)), (1, .int x1)] [] := by
  unfold X12_readsSum_138 at hf
  refine x_aload_n o dX12_readsSum_138 0 rfl rfl ?_
  refine x_iload_n o dX12_readsSum_139 1 rfl rfl ?_
  obtain ⟨k_1, hf⟩ := gq_ex hf
  obtain ⟨c_2, ec_2, hf⟩ := ob_ex hf
  refine vRX12_196 [.int x1] [] o (C_X12_hasOpenSum o.1.2.2.2.2.2.2.1 o.2 F ec_2) (by decide) k_1 rfl rfl (Nat.le_of_ble_eq_true rfl) dX12_readsSum_140 ?_
  refine x_if_eq o 156 dX12_readsSum_143 (by decide) (fun q_4 => ?_) (fun q_4 => ?_)
  · replace hf := (if_pos q_4).symm.trans hf
    refine x_aload_n o dX12_readsSum_156 0 rfl rfl ?_
    refine x_iconst (v := 1) o dX12_readsSum_157 (by decide) ?_
    obtain ⟨h_6, eh_6, hf⟩ := ob_ex hf
    refine vRX12_192 [.int 1] [] o (C_X12_closesSums o.1.2.2.2.2.2.2.1 o.2 F eh_6) (by decide) k_1 rfl rfl (Nat.le_of_ble_eq_true rfl) dX12_readsSum_158 ?_
    refine x_iconst (v := 1) o dX12_readsSum_161 (by decide) ?_
    cases hf
    exact hr (Or.inr rfl) _ _ dX12_readsSum_162
  · replace hf := (if_neg q_4).symm.trans hf
    refine x_aload_n o dX12_readsSum_146 0 rfl rfl ?_
    refine x_iconst (v := 1) o dX12_readsSum_147 (by decide) ?_
    refine x_aload_n o dX12_readsSum_148 0 rfl rfl ?_
    refine gRX12_135 o k_1 dX12_readsSum_149 ?_
    obtain ⟨c_7, h_8, ec_7, hf⟩ := bq_ex hf
    refine vRX12_148 [.int 1, .int (h.1 a0 8)] [] o (C_X12_wrongAt o.1.2.2.2.2.2.2.1 o.2 F ec_7) (by decide) k_1 rfl rfl (Nat.le_of_ble_eq_true rfl) dX12_readsSum_152 ?_
    obtain ⟨n_9, hf⟩ := gq_ex hf
    cases hf
    exact hr n_9 _ _ dX12_readsSum_155
set_option maxRecDepth 100000 in
set_option maxHeartbeats 4000000 in
theorem S_X12_readsSum_38 {k : Kst} {d : Kdy} (o : Ok k d cX12_readsSum RX12 3 7) (F : Nat) {k14 : Nat → Int32 → Hp → Option (Int32 × Hp)} (hk14 : ∀ {h : Hp} {a0 : Nat} {x1 : Int32} {r : Int32} {h1 : Hp}, k14 a0 x1 h = some (r, h1) → RZ k d cX12_readsSum r h1 → Wz k d h 14 [(0, .ref (ka k a0)), (1, .int x1)] []) {h : Hp} {a0 : Nat} {x1 : Int32} {x2 : Int32} {r0 : Nat} {s1 : Int32} {r : Int32} {h1 : Hp} (hf : X12_readsSum_38 F k14 a0 x1 x2 r0 s1 h = some (r, h1)) (hr : RZ k d cX12_readsSum r h1) : Wz k d h 38 [(0, .ref (ka k a0)), (1, .int x1), (2, .int x2)] [.int s1, .ref (ka k r0)] := by
  unfold X12_readsSum_38 at hf
  obtain ⟨k_1, hf⟩ := gq_ex hf
  obtain ⟨h_3, eh_3, hf⟩ := ob_ex hf
  refine vRX12_192 [.int s1] [] o (C_X12_closesSums o.1.2.2.2.2.2.2.1 o.2 F eh_3) (by decide) k_1 rfl rfl (Nat.le_of_ble_eq_true rfl) dX12_readsSum_38 ?_
  refine x_aload_n o dX12_readsSum_41 0 rfl rfl ?_
  obtain ⟨k_4, hf⟩ := gq_ex hf
  obtain ⟨j_5, ej_5, hf⟩ := ob_ex hf
  refine gRX12_32 o k_4 ej_5 dX12_readsSum_42 ?_
  refine x_aload_n o dX12_readsSum_45 0 rfl rfl ?_
  refine gRX12_166 o k_4 dX12_readsSum_46 ?_
  refine x_ldc (v := 1048576) o dX12_readsSum_49 wRX12_162 ?_
  refine x_iload_n o dX12_readsSum_51 2 rfl rfl ?_
  refine x_imul o dX12_readsSum_52 ?_
  obtain ⟨k_6, hf⟩ := gq_ex hf
  obtain ⟨b_7, hf⟩ := gq_ex hf
  obtain ⟨h_8, eh_8, hf⟩ := bd_ex hf
  refine x_iast o k_6 b_7 dX12_readsSum_53 (x_h eh_8 ?_)
  refine x_aload_n o dX12_readsSum_54 0 rfl rfl ?_
  refine x_aload_n o dX12_readsSum_55 0 rfl rfl ?_
  refine gRX12_166 o k_4 dX12_readsSum_56 ?_
  refine x_iconst (v := 1) o dX12_readsSum_59 (by decide) ?_
  refine x_iadd o dX12_readsSum_60 ?_
  obtain ⟨h_9, eh_9, hf⟩ := bd_ex hf
  refine pRX12_166 o k_4 eh_9 dX12_readsSum_61 ?_
  refine x_aload_n o dX12_readsSum_64 0 rfl rfl ?_
  refine x_aload_n o dX12_readsSum_65 0 rfl rfl ?_
  refine gRX12_135 o k_4 dX12_readsSum_66 ?_
  refine x_iconst (v := 1) o dX12_readsSum_69 (by decide) ?_
  refine x_iadd o dX12_readsSum_70 ?_
  obtain ⟨h_10, eh_10, hf⟩ := bd_ex hf
  refine pRX12_135 o k_4 eh_10 dX12_readsSum_71 ?_
  refine x_aload_n o dX12_readsSum_74 0 rfl rfl ?_
  obtain ⟨c_11, h_12, ec_11, hf⟩ := bq_ex hf
  refine vRX12_186 [] [] o (C_X12_readsFactor o.1.2.2.2.2.2.2.1 o.2 F ec_11) (by decide) k_4 rfl rfl (Nat.le_of_ble_eq_true rfl) dX12_readsSum_75 ?_
  refine x_if_ne o 163 dX12_readsSum_78 (by decide) (fun q_13 => ?_) (fun q_13 => ?_)
  · replace hf := (if_neg q_13).symm.trans hf
    refine x_sub [0, 1] [(0, .ref (ka k a0)), (1, .int x1)] rfl ?_
    exact S_X12_readsSum_163 o F hk14 hf hr
  · replace hf := (if_pos q_13).symm.trans hf
    refine x_iconst (v := 0) o dX12_readsSum_81 (by decide) ?_
    cases hf
    exact hr (Or.inl rfl) _ _ dX12_readsSum_82
set_option maxRecDepth 100000 in
set_option maxHeartbeats 4000000 in
theorem S_X12_readsSum_14 {k : Kst} {d : Kdy} (o : Ok k d cX12_readsSum RX12 3 7) (F : Nat) : ∀ (f : Nat) {h : Hp} {a0 : Nat} {x1 : Int32} {r : Int32} {h1 : Hp}, X12_readsSum_14 F f a0 x1 h = some (r, h1) → RZ k d cX12_readsSum r h1 → Wz k d h 14 [(0, .ref (ka k a0)), (1, .int x1)] [] := by
  intro f
  induction f with
  | zero =>
    intro h a0 x1 r h1 hf hr
    exact nomatch (show (none : Option _) = some _ from hf)
  | succ f ih =>
    intro h a0 x1 r h1 hf hr
    rw [X12_readsSum_14] at hf
    refine x_aload_n o dX12_readsSum_14 0 rfl rfl ?_
    obtain ⟨k_1, hf⟩ := gq_ex hf
    obtain ⟨c_2, ec_2, hf⟩ := ob_ex hf
    refine vRX12_141 [] [] o (C_X12_here o.1.2.2.2.2.2.2.1 o.2 F ec_2) (by decide) k_1 rfl rfl (Nat.le_of_ble_eq_true rfl) dX12_readsSum_15 ?_
    obtain ⟨c_4, ec_4, hf⟩ := ob_ex hf
    refine vRX12_189 [.int c_2] [] o (C_X12_sumSign o.1.2.2.2.2.2.2.1 o.2 F ec_4) (by decide) rfl rfl (Nat.le_of_ble_eq_true rfl) dX12_readsSum_18 ?_
    refine x_istore_n o dX12_readsSum_21 (by decide) rfl [(2, .int c_4), (0, .ref (ka k a0)), (1, .int x1)] rfl ?_
    refine x_iload_n o dX12_readsSum_22 0 rfl rfl ?_
    refine x_iconst (v := (-1)) o dX12_readsSum_23 (by decide) ?_
    refine x_icmp_eq o 83 dX12_readsSum_24 (by decide) (fun q_6 => ?_) (fun q_6 => ?_)
    · replace hf := (if_pos q_6).symm.trans hf
      refine x_aload_n o dX12_readsSum_83 1 rfl rfl ?_
      obtain ⟨c_7, ec_7, hf⟩ := ob_ex hf
      refine vRX12_141 [] [] o (C_X12_here o.1.2.2.2.2.2.2.1 o.2 F ec_7) (by decide) k_1 rfl rfl (Nat.le_of_ble_eq_true rfl) dX12_readsSum_84 ?_
      refine x_bipush (v := 93) o dX12_readsSum_87 (by decide) ?_
      refine x_icmp_ne o 138 dX12_readsSum_89 (by decide) (fun q_9 => ?_) (fun q_9 => ?_)
      · replace hf := (if_neg q_9).symm.trans hf
        refine x_sub [1, 2] [(0, .ref (ka k a0)), (1, .int x1)] rfl ?_
        exact S_X12_readsSum_138 o F hf hr
      · replace hf := (if_pos q_9).symm.trans hf
        refine x_aload_n o dX12_readsSum_92 1 rfl rfl ?_
        refine x_iload_n o dX12_readsSum_93 2 rfl rfl ?_
        obtain ⟨c_10, ec_10, hf⟩ := ob_ex hf
        refine vRX12_196 [.int x1] [] o (C_X12_hasOpenSum o.1.2.2.2.2.2.2.1 o.2 F ec_10) (by decide) k_1 rfl rfl (Nat.le_of_ble_eq_true rfl) dX12_readsSum_94 ?_
        refine x_if_eq o 138 dX12_readsSum_97 (by decide) (fun q_12 => ?_) (fun q_12 => ?_)
        · replace hf := (if_pos q_12).symm.trans hf
          refine x_sub [1, 2] [(0, .ref (ka k a0)), (1, .int x1)] rfl ?_
          exact S_X12_readsSum_138 o F hf hr
        · replace hf := (if_neg q_12).symm.trans hf
          refine x_aload_n o dX12_readsSum_100 1 rfl rfl ?_
          refine x_iconst (v := 1) o dX12_readsSum_101 (by decide) ?_
          obtain ⟨h_14, eh_14, hf⟩ := ob_ex hf
          refine vRX12_192 [.int 1] [] o (C_X12_closesSums o.1.2.2.2.2.2.2.1 o.2 F eh_14) (by decide) k_1 rfl rfl (Nat.le_of_ble_eq_true rfl) dX12_readsSum_102 ?_
          refine x_aload_n o dX12_readsSum_105 1 rfl rfl ?_
          refine x_aload_n o dX12_readsSum_106 1 rfl rfl ?_
          refine gRX12_166 o k_1 dX12_readsSum_107 ?_
          refine x_iconst (v := 1) o dX12_readsSum_110 (by decide) ?_
          refine x_isub o dX12_readsSum_111 ?_
          obtain ⟨h_15, eh_15, hf⟩ := bd_ex hf
          refine pRX12_166 o k_1 eh_15 dX12_readsSum_112 ?_
          refine x_aload_n o dX12_readsSum_115 1 rfl rfl ?_
          refine x_aload_n o dX12_readsSum_116 1 rfl rfl ?_
          refine gRX12_163 o k_1 dX12_readsSum_117 ?_
          refine x_iconst (v := 1) o dX12_readsSum_120 (by decide) ?_
          refine x_isub o dX12_readsSum_121 ?_
          obtain ⟨h_16, eh_16, hf⟩ := bd_ex hf
          refine pRX12_163 o k_1 eh_16 dX12_readsSum_122 ?_
          refine x_aload_n o dX12_readsSum_125 1 rfl rfl ?_
          refine x_aload_n o dX12_readsSum_126 1 rfl rfl ?_
          refine gRX12_135 o k_1 dX12_readsSum_127 ?_
          refine x_iconst (v := 1) o dX12_readsSum_130 (by decide) ?_
          refine x_iadd o dX12_readsSum_131 ?_
          obtain ⟨h_17, eh_17, hf⟩ := bd_ex hf
          refine pRX12_135 o k_1 eh_17 dX12_readsSum_132 ?_
          refine x_goto o 163 dX12_readsSum_135 (by decide) ?_
          refine x_sub [1, 2] [(0, .ref (ka k a0)), (1, .int x1)] rfl ?_
          exact S_X12_readsSum_163 o F (fun q1 q2 => ih q1 q2) hf hr
    · replace hf := (if_neg q_6).symm.trans hf
      refine x_aload_n o dX12_readsSum_27 1 rfl rfl ?_
      refine x_iload_n o dX12_readsSum_28 0 rfl rfl ?_
      refine x_iconst (v := 4) o dX12_readsSum_29 (by decide) ?_
      refine x_icmp_ge o 37 dX12_readsSum_30 (by decide) (fun q_18 => ?_) (fun q_18 => ?_)
      · replace hf := (if_pos q_18).symm.trans hf
        refine x_iconst (v := 0) o dX12_readsSum_37 (by decide) ?_
        refine x_sub [1, 2, 0] [(0, .ref (ka k a0)), (1, .int x1), (2, .int c_4)] rfl ?_
        exact S_X12_readsSum_38 o F (fun q1 q2 => ih q1 q2) hf hr
      · replace hf := (if_neg q_18).symm.trans hf
        refine x_iconst (v := 1) o dX12_readsSum_33 (by decide) ?_
        refine x_goto o 38 dX12_readsSum_34 (by decide) ?_
        refine x_sub [1, 2, 0] [(0, .ref (ka k a0)), (1, .int x1), (2, .int c_4)] rfl ?_
        exact S_X12_readsSum_38 o F (fun q1 q2 => ih q1 q2) hf hr
set_option maxRecDepth 100000 in
set_option maxHeartbeats 4000000 in
theorem S_X12_readsSum_0 {k : Kst} {d : Kdy} (o : Ok k d cX12_readsSum RX12 3 7) (F : Nat) {h : Hp} {a0 : Nat} {r : Int32} {h1 : Hp} (hf : X12_readsSum F a0 h = some (r, h1)) (hr : RZ k d cX12_readsSum r h1) : Wz k d h 0 [(0, .ref (ka k a0))] [] := by
  unfold X12_readsSum at hf
  refine x_aload_n o dX12_readsSum_0 0 rfl rfl ?_
  obtain ⟨k_1, hf⟩ := gq_ex hf
  refine gRX12_166 o k_1 dX12_readsSum_1 ?_
  obtain ⟨x1_2, ex1_2, hf⟩ := bd_ex hf
  refine x_top ex1_2 ?_
  refine x_istore_n o dX12_readsSum_4 (by decide) rfl [(1, .int x1_2), (0, .ref (ka k a0))] rfl ?_
  refine x_aload_n o dX12_readsSum_5 1 rfl rfl ?_
  obtain ⟨c_3, h_4, ec_3, hf⟩ := bq_ex hf
  refine vRX12_186 [] [] o (C_X12_readsFactor o.1.2.2.2.2.2.2.1 o.2 F ec_3) (by decide) k_1 rfl rfl (Nat.le_of_ble_eq_true rfl) dX12_readsSum_6 ?_
  refine x_if_ne o 14 dX12_readsSum_9 (by decide) (fun q_5 => ?_) (fun q_5 => ?_)
  · replace hf := (if_neg q_5).symm.trans hf
    refine x_sub [1, 0] [(0, .ref (ka k a0)), (1, .int x1_2)] rfl ?_
    exact S_X12_readsSum_14 o F _ hf hr
  · replace hf := (if_pos q_5).symm.trans hf
    refine x_iconst (v := 0) o dX12_readsSum_12 (by decide) ?_
    cases hf
    exact hr (Or.inl rfl) _ _ dX12_readsSum_13
theorem C_X12_readsSum {k : Kst} (hj : Dj k) (hn : kn k = kdl.length) (F : Nat) {h : Hp} {a0 : Nat} {r : Int32} {h1 : Hp} (hf : X12_readsSum F a0 h = some (r, h1)) : MI k 7 yX12_readsSum cX12_readsSum 3 (some .boolean) [.ref (ka k a0)] h r h1 := mZ hj hn (by decide +kernel) (Nat.le_of_ble_eq_true rfl) (fun d o hr => S_X12_readsSum_0 o F hf hr)
set_option maxRecDepth 100000 in
set_option maxHeartbeats 4000000 in
theorem S_X12_endsPiece_0 {k : Kst} {d : Kdy} (o : Ok k d cX12_endsPiece RX12 1 4) (F : Nat) : ∀ (f : Nat) {h : Hp} {a0 : Nat} {h1 : Hp}, X12_endsPiece_0 F f a0 h = some h1 → RV k d cX12_endsPiece h1 → Wz k d h 0 [(0, .ref (ka k a0))] [] := by
  intro f
  induction f with
  | zero =>
    intro h a0 h1 hf hr
    exact nomatch (show (none : Option _) = some _ from hf)
  | succ f ih =>
    intro h a0 h1 hf hr
    rw [X12_endsPiece_0] at hf
    refine x_aload_n o dX12_endsPiece_0 0 rfl rfl ?_
    obtain ⟨k_1, hf⟩ := gq_ex hf
    obtain ⟨c_2, ec_2, hf⟩ := ob_ex hf
    refine vRX12_169 [] [] o (C_X12_waitTop o.1.2.2.2.2.2.2.1 o.2 F ec_2) (by decide) k_1 rfl rfl (Nat.le_of_ble_eq_true rfl) dX12_endsPiece_1 ?_
    refine x_bipush (v := 10) o dX12_endsPiece_4 (by decide) ?_
    refine x_icmp_ne o 39 dX12_endsPiece_6 (by decide) (fun q_4 => ?_) (fun q_4 => ?_)
    · replace hf := (if_neg q_4).symm.trans hf
      cases hf
      exact hr _ _ dX12_endsPiece_39
    · replace hf := (if_pos q_4).symm.trans hf
      refine x_aload_n o dX12_endsPiece_9 0 rfl rfl ?_
      refine x_bipush (v := 10) o dX12_endsPiece_10 (by decide) ?_
      refine x_iconst (v := 0) o dX12_endsPiece_12 (by decide) ?_
      obtain ⟨h_6, eh_6, hf⟩ := ob_ex hf
      refine vRX12_172 [.int 10, .int 0] [] o (C_X12_notes o.1.2.2.2.2.2.2.1 o.2 F eh_6) (by decide) k_1 rfl rfl (Nat.le_of_ble_eq_true rfl) dX12_endsPiece_13 ?_
      refine x_aload_n o dX12_endsPiece_16 0 rfl rfl ?_
      refine x_aload_n o dX12_endsPiece_17 0 rfl rfl ?_
      refine gRX12_166 o k_1 dX12_endsPiece_18 ?_
      refine x_iconst (v := 1) o dX12_endsPiece_21 (by decide) ?_
      refine x_isub o dX12_endsPiece_22 ?_
      obtain ⟨h_7, eh_7, hf⟩ := bd_ex hf
      refine pRX12_166 o k_1 eh_7 dX12_endsPiece_23 ?_
      refine x_aload_n o dX12_endsPiece_26 0 rfl rfl ?_
      refine x_aload_n o dX12_endsPiece_27 0 rfl rfl ?_
      refine gRX12_163 o k_1 dX12_endsPiece_28 ?_
      refine x_iconst (v := 1) o dX12_endsPiece_31 (by decide) ?_
      refine x_isub o dX12_endsPiece_32 ?_
      obtain ⟨h_8, eh_8, hf⟩ := bd_ex hf
      refine pRX12_163 o k_1 eh_8 dX12_endsPiece_33 ?_
      refine x_goto o 0 dX12_endsPiece_36 (by decide) ?_
      refine x_sub [0] [(0, .ref (ka k a0))] rfl ?_
      exact ih hf hr
theorem C_X12_endsPiece {k : Kst} (hj : Dj k) (hn : kn k = kdl.length) (F : Nat) {h : Hp} {a0 : Nat} {h1 : Hp} (hf : X12_endsPiece F a0 h = some h1) : MV k 4 yX12_endsPiece cX12_endsPiece 1 [.ref (ka k a0)] h h1 := mV hj hn (by decide +kernel) (Nat.le_of_ble_eq_true rfl) (fun d o hr => S_X12_endsPiece_0 o F _ hf hr)
set_option maxRecDepth 100000 in
set_option maxHeartbeats 4000000 in
theorem S_X12_lands_22 {k : Kst} {d : Kdy} (o : Ok k d cX12_lands RX12 3 4) (F : Nat) {k0 : Nat → Int32 → Hp → Option Hp} (hk0 : ∀ {h : Hp} {a0 : Nat} {x1 : Int32} {h1 : Hp}, k0 a0 x1 h = some h1 → RV k d cX12_lands h1 → Wz k d h 0 [(0, .ref (ka k a0)), (1, .int x1)] []) {h : Hp} {a0 : Nat} {x1 : Int32} {h1 : Hp} (hf : X12_lands_22 F k0 a0 x1 h = some h1) (hr : RV k d cX12_lands h1) : Wz k d h 22 [(0, .ref (ka k a0)), (1, .int x1)] [] := by
  unfold X12_lands_22 at hf
  refine x_aload_n o dX12_lands_22 0 rfl rfl ?_
  obtain ⟨k_1, hf⟩ := gq_ex hf
  obtain ⟨j_2, ej_2, hf⟩ := ob_ex hf
  refine gRX12_32 o k_1 ej_2 dX12_lands_23 ?_
  refine x_aload_n o dX12_lands_26 0 rfl rfl ?_
  refine gRX12_166 o k_1 dX12_lands_27 ?_
  refine x_iconst (v := 1) o dX12_lands_30 (by decide) ?_
  refine x_isub o dX12_lands_31 ?_
  obtain ⟨k_3, hf⟩ := gq_ex hf
  obtain ⟨b_4, hf⟩ := gq_ex hf
  refine x_iald o k_3 b_4 dX12_lands_32 ?_
  refine x_ldc (v := 1048576) o dX12_lands_33 wRX12_162 ?_
  refine x_irem o dX12_lands_35 (by decide) ?_
  obtain ⟨x2_5, ex2_5, hf⟩ := bd_ex hf
  refine x_top ex2_5 ?_
  refine x_istore_n o dX12_lands_36 (by decide) rfl [(2, .int x2_5), (0, .ref (ka k a0)), (1, .int x1)] rfl ?_
  refine x_aload_n o dX12_lands_37 1 rfl rfl ?_
  obtain ⟨j_6, ej_6, hf⟩ := ob_ex hf
  refine gRX12_29 o k_1 ej_6 dX12_lands_38 ?_
  refine x_iload_n o dX12_lands_41 0 rfl rfl ?_
  refine x_ldc (v := 1048576) o dX12_lands_42 wRX12_162 ?_
  refine x_aload_n o dX12_lands_44 1 rfl rfl ?_
  refine gRX12_29 o k_1 ej_6 dX12_lands_45 ?_
  refine x_iload_n o dX12_lands_48 0 rfl rfl ?_
  obtain ⟨k_7, hf⟩ := gq_ex hf
  obtain ⟨b_8, hf⟩ := gq_ex hf
  refine x_iald o k_7 b_8 dX12_lands_49 ?_
  refine x_ldc (v := 1048576) o dX12_lands_50 wRX12_162 ?_
  refine x_idiv o dX12_lands_52 (by decide) ?_
  refine x_imul o dX12_lands_53 ?_
  refine x_aload_n o dX12_lands_54 1 rfl rfl ?_
  refine gRX12_159 o k_1 dX12_lands_55 ?_
  refine x_iadd o dX12_lands_58 ?_
  obtain ⟨b_9, hf⟩ := gq_ex hf
  obtain ⟨h_10, eh_10, hf⟩ := bd_ex hf
  refine x_iast o k_7 b_9 dX12_lands_59 (x_h eh_10 ?_)
  refine x_aload_n o dX12_lands_60 1 rfl rfl ?_
  refine x_aload_n o dX12_lands_61 1 rfl rfl ?_
  refine gRX12_166 o k_1 dX12_lands_62 ?_
  refine x_iconst (v := 1) o dX12_lands_65 (by decide) ?_
  refine x_isub o dX12_lands_66 ?_
  obtain ⟨h_11, eh_11, hf⟩ := bd_ex hf
  refine pRX12_166 o k_1 eh_11 dX12_lands_67 ?_
  refine x_goto o 0 dX12_lands_70 (by decide) ?_
  refine x_sub [1, 2] [(0, .ref (ka k a0)), (1, .int x1)] rfl ?_
  exact hk0 hf hr
set_option maxRecDepth 100000 in
set_option maxHeartbeats 4000000 in
theorem S_X12_lands_0 {k : Kst} {d : Kdy} (o : Ok k d cX12_lands RX12 3 4) (F : Nat) : ∀ (f : Nat) {h : Hp} {a0 : Nat} {x1 : Int32} {h1 : Hp}, X12_lands_0 F f a0 x1 h = some h1 → RV k d cX12_lands h1 → Wz k d h 0 [(0, .ref (ka k a0)), (1, .int x1)] [] := by
  intro f
  induction f with
  | zero =>
    intro h a0 x1 h1 hf hr
    exact nomatch (show (none : Option _) = some _ from hf)
  | succ f ih =>
    intro h a0 x1 h1 hf hr
    rw [X12_lands_0] at hf
    refine x_aload_n o dX12_lands_0 0 rfl rfl ?_
    obtain ⟨k_1, hf⟩ := gq_ex hf
    obtain ⟨c_2, ec_2, hf⟩ := ob_ex hf
    refine vRX12_169 [] [] o (C_X12_waitTop o.1.2.2.2.2.2.2.1 o.2 F ec_2) (by decide) k_1 rfl rfl (Nat.le_of_ble_eq_true rfl) dX12_lands_1 ?_
    refine x_bipush (v := 11) o dX12_lands_4 (by decide) ?_
    refine x_icmp_eq o 22 dX12_lands_6 (by decide) (fun q_4 => ?_) (fun q_4 => ?_)
    · replace hf := (if_pos q_4).symm.trans hf
      refine x_sub [0, 1] [(0, .ref (ka k a0)), (1, .int x1)] rfl ?_
      exact S_X12_lands_22 o F (fun q1 q2 => ih q1 q2) hf hr
    · replace hf := (if_neg q_4).symm.trans hf
      refine x_iload_n o dX12_lands_9 1 rfl rfl ?_
      refine x_if_eq o 73 dX12_lands_10 (by decide) (fun q_5 => ?_) (fun q_5 => ?_)
      · replace hf := (if_pos q_5).symm.trans hf
        cases hf
        exact hr _ _ dX12_lands_73
      · replace hf := (if_neg q_5).symm.trans hf
        refine x_aload_n o dX12_lands_13 0 rfl rfl ?_
        obtain ⟨c_6, ec_6, hf⟩ := ob_ex hf
        refine vRX12_169 [] [] o (C_X12_waitTop o.1.2.2.2.2.2.2.1 o.2 F ec_6) (by decide) k_1 rfl rfl (Nat.le_of_ble_eq_true rfl) dX12_lands_14 ?_
        refine x_bipush (v := 12) o dX12_lands_17 (by decide) ?_
        refine x_icmp_ne o 73 dX12_lands_19 (by decide) (fun q_8 => ?_) (fun q_8 => ?_)
        · replace hf := (if_neg q_8).symm.trans hf
          cases hf
          exact hr _ _ dX12_lands_73
        · replace hf := (if_pos q_8).symm.trans hf
          refine x_sub [0, 1] [(0, .ref (ka k a0)), (1, .int x1)] rfl ?_
          exact S_X12_lands_22 o F (fun q1 q2 => ih q1 q2) hf hr
theorem C_X12_lands {k : Kst} (hj : Dj k) (hn : kn k = kdl.length) (F : Nat) {h : Hp} {a0 : Nat} {x1 : Int32} {h1 : Hp} (hf : X12_lands F a0 x1 h = some h1) : MV k 4 yX12_lands cX12_lands 3 [.ref (ka k a0), .int x1] h h1 := mV hj hn (by decide +kernel) (Nat.le_of_ble_eq_true rfl) (fun d o hr => S_X12_lands_0 o F _ hf hr)
set_option maxRecDepth 100000 in
set_option maxHeartbeats 4000000 in
theorem S_X12_jumps_0 {k : Kst} {d : Kdy} (o : Ok k d cX12_jumps RX12 2 4) (F : Nat) {h : Hp} {a0 : Nat} {x1 : Int32} {h1 : Hp} (hf : X12_jumps F a0 x1 h = some h1) (hr : RV k d cX12_jumps h1) : Wz k d h 0 [(0, .ref (ka k a0)), (1, .int x1)] [] := by
  unfold X12_jumps at hf
  refine x_aload_n o dX12_jumps_0 0 rfl rfl ?_
  obtain ⟨k_1, hf⟩ := gq_ex hf
  obtain ⟨j_2, ej_2, hf⟩ := ob_ex hf
  refine gRX12_32 o k_1 ej_2 dX12_jumps_1 ?_
  refine x_aload_n o dX12_jumps_4 0 rfl rfl ?_
  refine gRX12_166 o k_1 dX12_jumps_5 ?_
  refine x_ldc (v := 1048576) o dX12_jumps_8 wRX12_162 ?_
  refine x_iload_n o dX12_jumps_10 1 rfl rfl ?_
  refine x_imul o dX12_jumps_11 ?_
  refine x_aload_n o dX12_jumps_12 0 rfl rfl ?_
  refine gRX12_159 o k_1 dX12_jumps_13 ?_
  refine x_iadd o dX12_jumps_16 ?_
  obtain ⟨k_3, hf⟩ := gq_ex hf
  obtain ⟨b_4, hf⟩ := gq_ex hf
  obtain ⟨h_5, eh_5, hf⟩ := bd_ex hf
  refine x_iast o k_3 b_4 dX12_jumps_17 (x_h eh_5 ?_)
  refine x_aload_n o dX12_jumps_18 0 rfl rfl ?_
  refine x_aload_n o dX12_jumps_19 0 rfl rfl ?_
  refine gRX12_166 o k_1 dX12_jumps_20 ?_
  refine x_iconst (v := 1) o dX12_jumps_23 (by decide) ?_
  refine x_iadd o dX12_jumps_24 ?_
  obtain ⟨h_6, eh_6, hf⟩ := bd_ex hf
  refine pRX12_166 o k_1 eh_6 dX12_jumps_25 ?_
  refine x_aload_n o dX12_jumps_28 0 rfl rfl ?_
  refine x_iload_n o dX12_jumps_29 1 rfl rfl ?_
  refine x_iconst (v := 0) o dX12_jumps_30 (by decide) ?_
  obtain ⟨h_8, eh_8, hf⟩ := ob_ex hf
  refine vRX12_172 [.int x1, .int 0] [] o (C_X12_notes o.1.2.2.2.2.2.2.1 o.2 F eh_8) (by decide) k_1 rfl rfl (Nat.le_of_ble_eq_true rfl) dX12_jumps_31 ?_
  refine x_aload_n o dX12_jumps_34 0 rfl rfl ?_
  refine x_aload_n o dX12_jumps_35 0 rfl rfl ?_
  refine gRX12_135 o k_1 dX12_jumps_36 ?_
  refine x_iconst (v := 1) o dX12_jumps_39 (by decide) ?_
  refine x_iadd o dX12_jumps_40 ?_
  obtain ⟨h_9, eh_9, hf⟩ := bd_ex hf
  refine pRX12_135 o k_1 eh_9 dX12_jumps_41 ?_
  cases hf
  exact hr _ _ dX12_jumps_44
theorem C_X12_jumps {k : Kst} (hj : Dj k) (hn : kn k = kdl.length) (F : Nat) {h : Hp} {a0 : Nat} {x1 : Int32} {h1 : Hp} (hf : X12_jumps F a0 x1 h = some h1) : MV k 4 yX12_jumps cX12_jumps 2 [.ref (ka k a0), .int x1] h h1 := mV hj hn (by decide +kernel) (Nat.le_of_ble_eq_true rfl) (fun d o hr => S_X12_jumps_0 o F hf hr)
set_option maxRecDepth 100000 in
set_option maxHeartbeats 4000000 in
theorem S_X12_readsCompared_52 {k : Kst} {d : Kdy} (o : Ok k d cX12_readsCompared RX12 2 8) (F : Nat) {h : Hp} {a0 : Nat} {s0 : Int32} {r : Int32} {h1 : Hp} (hf : X12_readsCompared_52 F a0 s0 h = some (r, h1)) (hr : RZ k d cX12_readsCompared r h1) : Wz k d h 52 [(0, .ref (ka k a0))] [.int s0] := by
  unfold X12_readsCompared_52 at hf
  refine x_istore_n o dX12_readsCompared_52 (by decide) rfl [(1, .int s0), (0, .ref (ka k a0))] rfl ?_
  refine x_iload_n o dX12_readsCompared_53 0 rfl rfl ?_
  refine x_iconst (v := (-1)) o dX12_readsCompared_54 (by decide) ?_
  refine x_icmp_ne o 68 dX12_readsCompared_55 (by decide) (fun q_1 => ?_) (fun q_1 => ?_)
  · replace hf := (if_neg q_1).symm.trans hf
    refine x_aload_n o dX12_readsCompared_68 1 rfl rfl ?_
    refine x_aload_n o dX12_readsCompared_69 1 rfl rfl ?_
    obtain ⟨k_2, hf⟩ := gq_ex hf
    refine gRX12_135 o k_2 dX12_readsCompared_70 ?_
    refine x_iconst (v := 1) o dX12_readsCompared_73 (by decide) ?_
    refine x_iadd o dX12_readsCompared_74 ?_
    obtain ⟨h_3, eh_3, hf⟩ := bd_ex hf
    refine pRX12_135 o k_2 eh_3 dX12_readsCompared_75 ?_
    refine x_aload_n o dX12_readsCompared_78 1 rfl rfl ?_
    obtain ⟨c_4, h_5, ec_4, hf⟩ := bq_ex hf
    refine vRX12_199 [] [] o (C_X12_readsSum o.1.2.2.2.2.2.2.1 o.2 F ec_4) (by decide) k_2 rfl rfl (Nat.le_of_ble_eq_true rfl) dX12_readsCompared_79 ?_
    refine x_if_ne o 87 dX12_readsCompared_82 (by decide) (fun q_6 => ?_) (fun q_6 => ?_)
    · replace hf := (if_neg q_6).symm.trans hf
      refine x_aload_n o dX12_readsCompared_87 1 rfl rfl ?_
      refine x_iload_n o dX12_readsCompared_88 0 rfl rfl ?_
      refine x_iconst (v := 0) o dX12_readsCompared_89 (by decide) ?_
      obtain ⟨h_8, eh_8, hf⟩ := ob_ex hf
      refine vRX12_172 [.int s0, .int 0] [] o (C_X12_notes o.1.2.2.2.2.2.2.1 o.2 F eh_8) (by decide) k_2 rfl rfl (Nat.le_of_ble_eq_true rfl) dX12_readsCompared_90 ?_
      refine x_aload_n o dX12_readsCompared_93 1 rfl rfl ?_
      obtain ⟨h_10, eh_10, hf⟩ := ob_ex hf
      refine vRX12_202 [] [] o (C_X12_endsPiece o.1.2.2.2.2.2.2.1 o.2 F eh_10) (by decide) k_2 rfl rfl (Nat.le_of_ble_eq_true rfl) dX12_readsCompared_94 ?_
      refine x_iconst (v := 1) o dX12_readsCompared_97 (by decide) ?_
      cases hf
      exact hr (Or.inr rfl) _ _ dX12_readsCompared_98
    · replace hf := (if_pos q_6).symm.trans hf
      refine x_iconst (v := 0) o dX12_readsCompared_85 (by decide) ?_
      cases hf
      exact hr (Or.inl rfl) _ _ dX12_readsCompared_86
  · replace hf := (if_pos q_1).symm.trans hf
    refine x_aload_n o dX12_readsCompared_58 1 rfl rfl ?_
    refine x_iconst (v := 1) o dX12_readsCompared_59 (by decide) ?_
    refine x_aload_n o dX12_readsCompared_60 1 rfl rfl ?_
    obtain ⟨k_11, hf⟩ := gq_ex hf
    refine gRX12_135 o k_11 dX12_readsCompared_61 ?_
    obtain ⟨c_12, h_13, ec_12, hf⟩ := bq_ex hf
    refine vRX12_148 [.int 1, .int (h.1 a0 8)] [] o (C_X12_wrongAt o.1.2.2.2.2.2.2.1 o.2 F ec_12) (by decide) k_11 rfl rfl (Nat.le_of_ble_eq_true rfl) dX12_readsCompared_64 ?_
    obtain ⟨n_14, hf⟩ := gq_ex hf
    cases hf
    exact hr n_14 _ _ dX12_readsCompared_67
set_option maxRecDepth 100000 in
set_option maxHeartbeats 4000000 in
theorem S_X12_readsCompared_0 {k : Kst} {d : Kdy} (o : Ok k d cX12_readsCompared RX12 2 8) (F : Nat) {h : Hp} {a0 : Nat} {r : Int32} {h1 : Hp} (hf : X12_readsCompared F a0 h = some (r, h1)) (hr : RZ k d cX12_readsCompared r h1) : Wz k d h 0 [(0, .ref (ka k a0))] [] := by
  unfold X12_readsCompared at hf
  refine x_aload_n o dX12_readsCompared_0 0 rfl rfl ?_
  obtain ⟨k_1, hf⟩ := gq_ex hf
  obtain ⟨c_2, h_3, ec_2, hf⟩ := bq_ex hf
  refine vRX12_199 [] [] o (C_X12_readsSum o.1.2.2.2.2.2.2.1 o.2 F ec_2) (by decide) k_1 rfl rfl (Nat.le_of_ble_eq_true rfl) dX12_readsCompared_1 ?_
  refine x_if_ne o 9 dX12_readsCompared_4 (by decide) (fun q_4 => ?_) (fun q_4 => ?_)
  · replace hf := (if_neg q_4).symm.trans hf
    refine x_aload_n o dX12_readsCompared_9 0 rfl rfl ?_
    obtain ⟨c_5, ec_5, hf⟩ := ob_ex hf
    refine vRX12_141 [] [] o (C_X12_here o.1.2.2.2.2.2.2.1 o.2 F ec_5) (by decide) k_1 rfl rfl (Nat.le_of_ble_eq_true rfl) dX12_readsCompared_10 ?_
    refine x_bipush (v := 60) o dX12_readsCompared_13 (by decide) ?_
    refine x_icmp_ne o 23 dX12_readsCompared_15 (by decide) (fun q_7 => ?_) (fun q_7 => ?_)
    · replace hf := (if_neg q_7).symm.trans hf
      refine x_aload_n o dX12_readsCompared_23 0 rfl rfl ?_
      obtain ⟨c_8, ec_8, hf⟩ := ob_ex hf
      refine vRX12_141 [] [] o (C_X12_here o.1.2.2.2.2.2.2.1 o.2 F ec_8) (by decide) k_1 rfl rfl (Nat.le_of_ble_eq_true rfl) dX12_readsCompared_24 ?_
      refine x_bipush (v := 62) o dX12_readsCompared_27 (by decide) ?_
      refine x_icmp_ne o 37 dX12_readsCompared_29 (by decide) (fun q_10 => ?_) (fun q_10 => ?_)
      · replace hf := (if_neg q_10).symm.trans hf
        refine x_aload_n o dX12_readsCompared_37 0 rfl rfl ?_
        obtain ⟨c_11, ec_11, hf⟩ := ob_ex hf
        refine vRX12_141 [] [] o (C_X12_here o.1.2.2.2.2.2.2.1 o.2 F ec_11) (by decide) k_1 rfl rfl (Nat.le_of_ble_eq_true rfl) dX12_readsCompared_38 ?_
        refine x_bipush (v := 61) o dX12_readsCompared_41 (by decide) ?_
        refine x_icmp_ne o 51 dX12_readsCompared_43 (by decide) (fun q_13 => ?_) (fun q_13 => ?_)
        · replace hf := (if_neg q_13).symm.trans hf
          refine x_iconst (v := (-1)) o dX12_readsCompared_51 (by decide) ?_
          refine x_sub [0] [(0, .ref (ka k a0))] rfl ?_
          exact S_X12_readsCompared_52 o F hf hr
        · replace hf := (if_pos q_13).symm.trans hf
          refine x_bipush (v := 9) o dX12_readsCompared_46 (by decide) ?_
          refine x_goto o 52 dX12_readsCompared_48 (by decide) ?_
          refine x_sub [0] [(0, .ref (ka k a0))] rfl ?_
          exact S_X12_readsCompared_52 o F hf hr
      · replace hf := (if_pos q_10).symm.trans hf
        refine x_bipush (v := 8) o dX12_readsCompared_32 (by decide) ?_
        refine x_goto o 52 dX12_readsCompared_34 (by decide) ?_
        refine x_sub [0] [(0, .ref (ka k a0))] rfl ?_
        exact S_X12_readsCompared_52 o F hf hr
    · replace hf := (if_pos q_7).symm.trans hf
      refine x_bipush (v := 7) o dX12_readsCompared_18 (by decide) ?_
      refine x_goto o 52 dX12_readsCompared_20 (by decide) ?_
      refine x_sub [0] [(0, .ref (ka k a0))] rfl ?_
      exact S_X12_readsCompared_52 o F hf hr
  · replace hf := (if_pos q_4).symm.trans hf
    refine x_iconst (v := 0) o dX12_readsCompared_7 (by decide) ?_
    cases hf
    exact hr (Or.inl rfl) _ _ dX12_readsCompared_8
theorem C_X12_readsCompared {k : Kst} (hj : Dj k) (hn : kn k = kdl.length) (F : Nat) {h : Hp} {a0 : Nat} {r : Int32} {h1 : Hp} (hf : X12_readsCompared F a0 h = some (r, h1)) : MI k 8 yX12_readsCompared cX12_readsCompared 2 (some .boolean) [.ref (ka k a0)] h r h1 := mZ hj hn (by decide +kernel) (Nat.le_of_ble_eq_true rfl) (fun d o hr => S_X12_readsCompared_0 o F hf hr)
set_option maxRecDepth 100000 in
set_option maxHeartbeats 4000000 in
theorem S_X12_readsCondition_215 {k : Kst} {d : Kdy} (o : Ok k d cX12_readsCondition RX12 1 9) (F : Nat) {k40 : Nat → Hp → Option (Int32 × Hp)} (hk40 : ∀ {h : Hp} {a0 : Nat} {r : Int32} {h1 : Hp}, k40 a0 h = some (r, h1) → RZ k d cX12_readsCondition r h1 → Wz k d h 40 [(0, .ref (ka k a0))] []) {h : Hp} {a0 : Nat} {r0 : Nat} {s1 : Int32} {r : Int32} {h1 : Hp} (hf : X12_readsCondition_215 F k40 a0 r0 s1 h = some (r, h1)) (hr : RZ k d cX12_readsCondition r h1) : Wz k d h 215 [(0, .ref (ka k a0))] [.int s1, .ref (ka k r0)] := by
  unfold X12_readsCondition_215 at hf
  obtain ⟨k_1, hf⟩ := gq_ex hf
  obtain ⟨h_3, eh_3, hf⟩ := ob_ex hf
  refine vRX12_211 [.int s1] [] o (C_X12_jumps o.1.2.2.2.2.2.2.1 o.2 F eh_3) (by decide) k_1 rfl rfl (Nat.le_of_ble_eq_true rfl) dX12_readsCondition_215 ?_
  refine x_goto o 40 dX12_readsCondition_218 (by decide) ?_
  refine x_sub [0] [(0, .ref (ka k a0))] rfl ?_
  exact hk40 hf hr
set_option maxRecDepth 100000 in
set_option maxHeartbeats 4000000 in
theorem S_X12_readsCondition_195 {k : Kst} {d : Kdy} (o : Ok k d cX12_readsCondition RX12 1 9) (F : Nat) {k40 : Nat → Hp → Option (Int32 × Hp)} (hk40 : ∀ {h : Hp} {a0 : Nat} {r : Int32} {h1 : Hp}, k40 a0 h = some (r, h1) → RZ k d cX12_readsCondition r h1 → Wz k d h 40 [(0, .ref (ka k a0))] []) {h : Hp} {a0 : Nat} {r0 : Nat} {s1 : Int32} {r : Int32} {h1 : Hp} (hf : X12_readsCondition_195 F k40 a0 r0 s1 h = some (r, h1)) (hr : RZ k d cX12_readsCondition r h1) : Wz k d h 195 [(0, .ref (ka k a0))] [.int s1, .ref (ka k r0)] := by
  unfold X12_readsCondition_195 at hf
  obtain ⟨k_1, hf⟩ := gq_ex hf
  obtain ⟨h_3, eh_3, hf⟩ := ob_ex hf
  refine vRX12_208 [.int s1] [] o (C_X12_lands o.1.2.2.2.2.2.2.1 o.2 F eh_3) (by decide) k_1 rfl rfl (Nat.le_of_ble_eq_true rfl) dX12_readsCondition_195 ?_
  refine x_aload_n o dX12_readsCondition_198 0 rfl rfl ?_
  refine x_aload_n o dX12_readsCondition_199 0 rfl rfl ?_
  obtain ⟨k_4, hf⟩ := gq_ex hf
  obtain ⟨c_5, ec_5, hf⟩ := ob_ex hf
  refine vRX12_141 [] [.ref (ka k a0)] o (C_X12_here o.1.2.2.2.2.2.2.1 o.2 F ec_5) (by decide) k_4 rfl rfl (Nat.le_of_ble_eq_true rfl) dX12_readsCondition_200 ?_
  refine x_bipush (v := 38) o dX12_readsCondition_203 (by decide) ?_
  refine x_icmp_ne o 213 dX12_readsCondition_205 (by decide) (fun q_7 => ?_) (fun q_7 => ?_)
  · replace hf := (if_neg q_7).symm.trans hf
    refine x_bipush (v := 12) o dX12_readsCondition_213 (by decide) ?_
    refine x_sub [0] [(0, .ref (ka k a0))] rfl ?_
    exact S_X12_readsCondition_215 o F hk40 hf hr
  · replace hf := (if_pos q_7).symm.trans hf
    refine x_bipush (v := 11) o dX12_readsCondition_208 (by decide) ?_
    refine x_goto o 215 dX12_readsCondition_210 (by decide) ?_
    refine x_sub [0] [(0, .ref (ka k a0))] rfl ?_
    exact S_X12_readsCondition_215 o F hk40 hf hr
set_option maxRecDepth 100000 in
set_option maxHeartbeats 4000000 in
theorem S_X12_readsCondition_180 {k : Kst} {d : Kdy} (o : Ok k d cX12_readsCondition RX12 1 9) (F : Nat) {k40 : Nat → Hp → Option (Int32 × Hp)} (hk40 : ∀ {h : Hp} {a0 : Nat} {r : Int32} {h1 : Hp}, k40 a0 h = some (r, h1) → RZ k d cX12_readsCondition r h1 → Wz k d h 40 [(0, .ref (ka k a0))] []) {h : Hp} {a0 : Nat} {r : Int32} {h1 : Hp} (hf : X12_readsCondition_180 F k40 a0 h = some (r, h1)) (hr : RZ k d cX12_readsCondition r h1) : Wz k d h 180 [(0, .ref (ka k a0))] [] := by
  unfold X12_readsCondition_180 at hf
  refine x_aload_n o dX12_readsCondition_180 0 rfl rfl ?_
  refine x_aload_n o dX12_readsCondition_181 0 rfl rfl ?_
  obtain ⟨k_1, hf⟩ := gq_ex hf
  obtain ⟨c_2, ec_2, hf⟩ := ob_ex hf
  refine vRX12_141 [] [.ref (ka k a0)] o (C_X12_here o.1.2.2.2.2.2.2.1 o.2 F ec_2) (by decide) k_1 rfl rfl (Nat.le_of_ble_eq_true rfl) dX12_readsCondition_182 ?_
  refine x_bipush (v := 124) o dX12_readsCondition_185 (by decide) ?_
  refine x_icmp_ne o 194 dX12_readsCondition_187 (by decide) (fun q_4 => ?_) (fun q_4 => ?_)
  · replace hf := (if_neg q_4).symm.trans hf
    refine x_iconst (v := 0) o dX12_readsCondition_194 (by decide) ?_
    refine x_sub [0] [(0, .ref (ka k a0))] rfl ?_
    exact S_X12_readsCondition_195 o F hk40 hf hr
  · replace hf := (if_pos q_4).symm.trans hf
    refine x_iconst (v := 1) o dX12_readsCondition_190 (by decide) ?_
    refine x_goto o 195 dX12_readsCondition_191 (by decide) ?_
    refine x_sub [0] [(0, .ref (ka k a0))] rfl ?_
    exact S_X12_readsCondition_195 o F hk40 hf hr
set_option maxRecDepth 100000 in
set_option maxHeartbeats 4000000 in
theorem S_X12_readsCondition_92 {k : Kst} {d : Kdy} (o : Ok k d cX12_readsCondition RX12 1 9) (F : Nat) {k40 : Nat → Hp → Option (Int32 × Hp)} (hk40 : ∀ {h : Hp} {a0 : Nat} {r : Int32} {h1 : Hp}, k40 a0 h = some (r, h1) → RZ k d cX12_readsCondition r h1 → Wz k d h 40 [(0, .ref (ka k a0))] []) : ∀ (f : Nat) {h : Hp} {a0 : Nat} {r : Int32} {h1 : Hp}, X12_readsCondition_92 F k40 f a0 h = some (r, h1) → RZ k d cX12_readsCondition r h1 → Wz k d h 92 [(0, .ref (ka k a0))] [] := by
  intro f
  induction f with
  | zero =>
    intro h a0 r h1 hf hr
    exact nomatch (show (none : Option _) = some _ from hf)
  | succ f ih =>
    intro h a0 r h1 hf hr
    rw [X12_readsCondition_92] at hf
    refine x_aload_n o dX12_readsCondition_92 0 rfl rfl ?_
    obtain ⟨k_1, hf⟩ := gq_ex hf
    obtain ⟨c_2, ec_2, hf⟩ := ob_ex hf
    refine vRX12_141 [] [] o (C_X12_here o.1.2.2.2.2.2.2.1 o.2 F ec_2) (by decide) k_1 rfl rfl (Nat.le_of_ble_eq_true rfl) dX12_readsCondition_93 ?_
    refine x_bipush (v := 41) o dX12_readsCondition_96 (by decide) ?_
    refine x_icmp_ne o 152 dX12_readsCondition_98 (by decide) (fun q_4 => ?_) (fun q_4 => ?_)
    · replace hf := (if_neg q_4).symm.trans hf
      refine x_aload_n o dX12_readsCondition_152 0 rfl rfl ?_
      obtain ⟨c_5, ec_5, hf⟩ := ob_ex hf
      refine vRX12_141 [] [] o (C_X12_here o.1.2.2.2.2.2.2.1 o.2 F ec_5) (by decide) k_1 rfl rfl (Nat.le_of_ble_eq_true rfl) dX12_readsCondition_153 ?_
      refine x_bipush (v := 38) o dX12_readsCondition_156 (by decide) ?_
      refine x_icmp_eq o 180 dX12_readsCondition_158 (by decide) (fun q_7 => ?_) (fun q_7 => ?_)
      · replace hf := (if_pos q_7).symm.trans hf
        refine x_sub [0] [(0, .ref (ka k a0))] rfl ?_
        exact S_X12_readsCondition_180 o F hk40 hf hr
      · replace hf := (if_neg q_7).symm.trans hf
        refine x_aload_n o dX12_readsCondition_161 0 rfl rfl ?_
        obtain ⟨c_8, ec_8, hf⟩ := ob_ex hf
        refine vRX12_141 [] [] o (C_X12_here o.1.2.2.2.2.2.2.1 o.2 F ec_8) (by decide) k_1 rfl rfl (Nat.le_of_ble_eq_true rfl) dX12_readsCondition_162 ?_
        refine x_bipush (v := 124) o dX12_readsCondition_165 (by decide) ?_
        refine x_icmp_eq o 180 dX12_readsCondition_167 (by decide) (fun q_10 => ?_) (fun q_10 => ?_)
        · replace hf := (if_pos q_10).symm.trans hf
          refine x_sub [0] [(0, .ref (ka k a0))] rfl ?_
          exact S_X12_readsCondition_180 o F hk40 hf hr
        · replace hf := (if_neg q_10).symm.trans hf
          refine x_aload_n o dX12_readsCondition_170 0 rfl rfl ?_
          refine x_iconst (v := 1) o dX12_readsCondition_171 (by decide) ?_
          refine x_aload_n o dX12_readsCondition_172 0 rfl rfl ?_
          refine gRX12_135 o k_1 dX12_readsCondition_173 ?_
          obtain ⟨c_11, h_12, ec_11, hf⟩ := bq_ex hf
          refine vRX12_148 [.int 1, .int (h.1 a0 8)] [] o (C_X12_wrongAt o.1.2.2.2.2.2.2.1 o.2 F ec_11) (by decide) k_1 rfl rfl (Nat.le_of_ble_eq_true rfl) dX12_readsCondition_176 ?_
          obtain ⟨n_13, hf⟩ := gq_ex hf
          cases hf
          exact hr n_13 _ _ dX12_readsCondition_179
    · replace hf := (if_pos q_4).symm.trans hf
      refine x_aload_n o dX12_readsCondition_101 0 rfl rfl ?_
      refine x_iconst (v := 1) o dX12_readsCondition_102 (by decide) ?_
      obtain ⟨h_15, eh_15, hf⟩ := ob_ex hf
      refine vRX12_208 [.int 1] [] o (C_X12_lands o.1.2.2.2.2.2.2.1 o.2 F eh_15) (by decide) k_1 rfl rfl (Nat.le_of_ble_eq_true rfl) dX12_readsCondition_103 ?_
      refine x_aload_n o dX12_readsCondition_106 0 rfl rfl ?_
      refine x_aload_n o dX12_readsCondition_107 0 rfl rfl ?_
      refine gRX12_166 o k_1 dX12_readsCondition_108 ?_
      refine x_iconst (v := 1) o dX12_readsCondition_111 (by decide) ?_
      refine x_isub o dX12_readsCondition_112 ?_
      obtain ⟨h_16, eh_16, hf⟩ := bd_ex hf
      refine pRX12_166 o k_1 eh_16 dX12_readsCondition_113 ?_
      refine x_aload_n o dX12_readsCondition_116 0 rfl rfl ?_
      refine x_aload_n o dX12_readsCondition_117 0 rfl rfl ?_
      refine gRX12_163 o k_1 dX12_readsCondition_118 ?_
      refine x_iconst (v := 1) o dX12_readsCondition_121 (by decide) ?_
      refine x_isub o dX12_readsCondition_122 ?_
      obtain ⟨h_17, eh_17, hf⟩ := bd_ex hf
      refine pRX12_163 o k_1 eh_17 dX12_readsCondition_123 ?_
      refine x_aload_n o dX12_readsCondition_126 0 rfl rfl ?_
      refine x_aload_n o dX12_readsCondition_127 0 rfl rfl ?_
      refine gRX12_135 o k_1 dX12_readsCondition_128 ?_
      refine x_iconst (v := 1) o dX12_readsCondition_131 (by decide) ?_
      refine x_iadd o dX12_readsCondition_132 ?_
      obtain ⟨h_18, eh_18, hf⟩ := bd_ex hf
      refine pRX12_135 o k_1 eh_18 dX12_readsCondition_133 ?_
      refine x_aload_n o dX12_readsCondition_136 0 rfl rfl ?_
      refine gRX12_166 o k_1 dX12_readsCondition_137 ?_
      refine x_if_ne o 145 dX12_readsCondition_140 (by decide) (fun q_19 => ?_) (fun q_19 => ?_)
      · replace hf := (if_neg q_19).symm.trans hf
        refine x_aload_n o dX12_readsCondition_145 0 rfl rfl ?_
        obtain ⟨h_21, eh_21, hf⟩ := ob_ex hf
        refine vRX12_202 [] [] o (C_X12_endsPiece o.1.2.2.2.2.2.2.1 o.2 F eh_21) (by decide) k_1 rfl rfl (Nat.le_of_ble_eq_true rfl) dX12_readsCondition_146 ?_
        refine x_goto o 92 dX12_readsCondition_149 (by decide) ?_
        refine x_sub [0] [(0, .ref (ka k a0))] rfl ?_
        exact ih hf hr
      · replace hf := (if_pos q_19).symm.trans hf
        refine x_iconst (v := 1) o dX12_readsCondition_143 (by decide) ?_
        cases hf
        exact hr (Or.inr rfl) _ _ dX12_readsCondition_144
set_option maxRecDepth 100000 in
set_option maxHeartbeats 4000000 in
theorem S_X12_readsCondition_75 {k : Kst} {d : Kdy} (o : Ok k d cX12_readsCondition RX12 1 9) (F : Nat) {k40 : Nat → Hp → Option (Int32 × Hp)} (hk40 : ∀ {h : Hp} {a0 : Nat} {r : Int32} {h1 : Hp}, k40 a0 h = some (r, h1) → RZ k d cX12_readsCondition r h1 → Wz k d h 40 [(0, .ref (ka k a0))] []) {h : Hp} {a0 : Nat} {r0 : Nat} {s1 : Int32} {r : Int32} {h1 : Hp} (hf : X12_readsCondition_75 F k40 a0 r0 s1 h = some (r, h1)) (hr : RZ k d cX12_readsCondition r h1) : Wz k d h 75 [(0, .ref (ka k a0))] [.int s1, .ref (ka k r0)] := by
  unfold X12_readsCondition_75 at hf
  obtain ⟨k_1, hf⟩ := gq_ex hf
  obtain ⟨c_2, h_3, ec_2, hf⟩ := bq_ex hf
  refine vRX12_176 [.int s1] [] o (C_X12_opens o.1.2.2.2.2.2.2.1 o.2 F ec_2) (by decide) k_1 rfl rfl (Nat.le_of_ble_eq_true rfl) dX12_readsCondition_75 ?_
  refine x_if_ne o 40 dX12_readsCondition_78 (by decide) (fun q_4 => ?_) (fun q_4 => ?_)
  · replace hf := (if_neg q_4).symm.trans hf
    refine x_sub [0] [(0, .ref (ka k a0))] rfl ?_
    exact hk40 hf hr
  · replace hf := (if_pos q_4).symm.trans hf
    refine x_iconst (v := 0) o dX12_readsCondition_81 (by decide) ?_
    cases hf
    exact hr (Or.inl rfl) _ _ dX12_readsCondition_82
set_option maxRecDepth 100000 in
set_option maxHeartbeats 4000000 in
theorem S_X12_readsCondition_58 {k : Kst} {d : Kdy} (o : Ok k d cX12_readsCondition RX12 1 9) (F : Nat) {k40 : Nat → Hp → Option (Int32 × Hp)} (hk40 : ∀ {h : Hp} {a0 : Nat} {r : Int32} {h1 : Hp}, k40 a0 h = some (r, h1) → RZ k d cX12_readsCondition r h1 → Wz k d h 40 [(0, .ref (ka k a0))] []) {h : Hp} {a0 : Nat} {r : Int32} {h1 : Hp} (hf : X12_readsCondition_58 F k40 a0 h = some (r, h1)) (hr : RZ k d cX12_readsCondition r h1) : Wz k d h 58 [(0, .ref (ka k a0))] [] := by
  unfold X12_readsCondition_58 at hf
  refine x_aload_n o dX12_readsCondition_58 0 rfl rfl ?_
  refine x_aload_n o dX12_readsCondition_59 0 rfl rfl ?_
  obtain ⟨k_1, hf⟩ := gq_ex hf
  obtain ⟨c_2, ec_2, hf⟩ := ob_ex hf
  refine vRX12_141 [] [.ref (ka k a0)] o (C_X12_here o.1.2.2.2.2.2.2.1 o.2 F ec_2) (by decide) k_1 rfl rfl (Nat.le_of_ble_eq_true rfl) dX12_readsCondition_60 ?_
  refine x_bipush (v := 33) o dX12_readsCondition_63 (by decide) ?_
  refine x_icmp_ne o 73 dX12_readsCondition_65 (by decide) (fun q_4 => ?_) (fun q_4 => ?_)
  · replace hf := (if_neg q_4).symm.trans hf
    refine x_bipush (v := 13) o dX12_readsCondition_73 (by decide) ?_
    refine x_sub [0] [(0, .ref (ka k a0))] rfl ?_
    exact S_X12_readsCondition_75 o F hk40 hf hr
  · replace hf := (if_pos q_4).symm.trans hf
    refine x_bipush (v := 10) o dX12_readsCondition_68 (by decide) ?_
    refine x_goto o 75 dX12_readsCondition_70 (by decide) ?_
    refine x_sub [0] [(0, .ref (ka k a0))] rfl ?_
    exact S_X12_readsCondition_75 o F hk40 hf hr
set_option maxRecDepth 100000 in
set_option maxHeartbeats 4000000 in
theorem S_X12_readsCondition_40 {k : Kst} {d : Kdy} (o : Ok k d cX12_readsCondition RX12 1 9) (F : Nat) : ∀ (f : Nat) {h : Hp} {a0 : Nat} {r : Int32} {h1 : Hp}, X12_readsCondition_40 F f a0 h = some (r, h1) → RZ k d cX12_readsCondition r h1 → Wz k d h 40 [(0, .ref (ka k a0))] [] := by
  intro f
  induction f with
  | zero =>
    intro h a0 r h1 hf hr
    exact nomatch (show (none : Option _) = some _ from hf)
  | succ f ih =>
    intro h a0 r h1 hf hr
    rw [X12_readsCondition_40] at hf
    refine x_aload_n o dX12_readsCondition_40 0 rfl rfl ?_
    obtain ⟨k_1, hf⟩ := gq_ex hf
    obtain ⟨c_2, ec_2, hf⟩ := ob_ex hf
    refine vRX12_141 [] [] o (C_X12_here o.1.2.2.2.2.2.2.1 o.2 F ec_2) (by decide) k_1 rfl rfl (Nat.le_of_ble_eq_true rfl) dX12_readsCondition_41 ?_
    refine x_bipush (v := 33) o dX12_readsCondition_44 (by decide) ?_
    refine x_icmp_eq o 58 dX12_readsCondition_46 (by decide) (fun q_4 => ?_) (fun q_4 => ?_)
    · replace hf := (if_pos q_4).symm.trans hf
      refine x_sub [0] [(0, .ref (ka k a0))] rfl ?_
      exact S_X12_readsCondition_58 o F (fun q1 q2 => ih q1 q2) hf hr
    · replace hf := (if_neg q_4).symm.trans hf
      refine x_aload_n o dX12_readsCondition_49 0 rfl rfl ?_
      obtain ⟨c_5, ec_5, hf⟩ := ob_ex hf
      refine vRX12_141 [] [] o (C_X12_here o.1.2.2.2.2.2.2.1 o.2 F ec_5) (by decide) k_1 rfl rfl (Nat.le_of_ble_eq_true rfl) dX12_readsCondition_50 ?_
      refine x_bipush (v := 40) o dX12_readsCondition_53 (by decide) ?_
      refine x_icmp_ne o 83 dX12_readsCondition_55 (by decide) (fun q_7 => ?_) (fun q_7 => ?_)
      · replace hf := (if_neg q_7).symm.trans hf
        refine x_aload_n o dX12_readsCondition_83 0 rfl rfl ?_
        obtain ⟨c_8, h_9, ec_8, hf⟩ := bq_ex hf
        refine vRX12_205 [] [] o (C_X12_readsCompared o.1.2.2.2.2.2.2.1 o.2 F ec_8) (by decide) k_1 rfl rfl (Nat.le_of_ble_eq_true rfl) dX12_readsCondition_84 ?_
        refine x_if_ne o 92 dX12_readsCondition_87 (by decide) (fun q_10 => ?_) (fun q_10 => ?_)
        · replace hf := (if_neg q_10).symm.trans hf
          refine x_sub [0] [(0, .ref (ka k a0))] rfl ?_
          exact S_X12_readsCondition_92 o F (fun q1 q2 => ih q1 q2) _ hf hr
        · replace hf := (if_pos q_10).symm.trans hf
          refine x_iconst (v := 0) o dX12_readsCondition_90 (by decide) ?_
          cases hf
          exact hr (Or.inl rfl) _ _ dX12_readsCondition_91
      · replace hf := (if_pos q_7).symm.trans hf
        refine x_sub [0] [(0, .ref (ka k a0))] rfl ?_
        exact S_X12_readsCondition_58 o F (fun q1 q2 => ih q1 q2) hf hr
set_option maxRecDepth 100000 in
set_option maxHeartbeats 4000000 in
theorem S_X12_readsCondition_0 {k : Kst} {d : Kdy} (o : Ok k d cX12_readsCondition RX12 1 9) (F : Nat) {h : Hp} {a0 : Nat} {r : Int32} {h1 : Hp} (hf : X12_readsCondition F a0 h = some (r, h1)) (hr : RZ k d cX12_readsCondition r h1) : Wz k d h 0 [(0, .ref (ka k a0))] [] := by
  unfold X12_readsCondition at hf
  refine x_aload_n o dX12_readsCondition_0 0 rfl rfl ?_
  obtain ⟨k_1, hf⟩ := gq_ex hf
  obtain ⟨c_2, ec_2, hf⟩ := ob_ex hf
  refine vRX12_141 [] [] o (C_X12_here o.1.2.2.2.2.2.2.1 o.2 F ec_2) (by decide) k_1 rfl rfl (Nat.le_of_ble_eq_true rfl) dX12_readsCondition_1 ?_
  refine x_bipush (v := 40) o dX12_readsCondition_4 (by decide) ?_
  refine x_icmp_eq o 19 dX12_readsCondition_6 (by decide) (fun q_4 => ?_) (fun q_4 => ?_)
  · replace hf := (if_pos q_4).symm.trans hf
    refine x_aload_n o dX12_readsCondition_19 0 rfl rfl ?_
    refine x_iconst (v := 0) o dX12_readsCondition_20 (by decide) ?_
    obtain ⟨h_5, eh_5, hf⟩ := bd_ex hf
    refine pRX12_163 o k_1 eh_5 dX12_readsCondition_21 ?_
    refine x_aload_n o dX12_readsCondition_24 0 rfl rfl ?_
    refine x_iconst (v := 0) o dX12_readsCondition_25 (by decide) ?_
    obtain ⟨h_6, eh_6, hf⟩ := bd_ex hf
    refine pRX12_166 o k_1 eh_6 dX12_readsCondition_26 ?_
    refine x_aload_n o dX12_readsCondition_29 0 rfl rfl ?_
    refine x_bipush (v := 13) o dX12_readsCondition_30 (by decide) ?_
    obtain ⟨c_7, h_8, ec_7, hf⟩ := bq_ex hf
    refine vRX12_176 [.int 13] [] o (C_X12_opens o.1.2.2.2.2.2.2.1 o.2 F ec_7) (by decide) k_1 rfl rfl (Nat.le_of_ble_eq_true rfl) dX12_readsCondition_32 ?_
    refine x_if_ne o 40 dX12_readsCondition_35 (by decide) (fun q_9 => ?_) (fun q_9 => ?_)
    · replace hf := (if_neg q_9).symm.trans hf
      refine x_sub [0] [(0, .ref (ka k a0))] rfl ?_
      exact S_X12_readsCondition_40 o F _ hf hr
    · replace hf := (if_pos q_9).symm.trans hf
      refine x_iconst (v := 0) o dX12_readsCondition_38 (by decide) ?_
      cases hf
      exact hr (Or.inl rfl) _ _ dX12_readsCondition_39
  · replace hf := (if_neg q_4).symm.trans hf
    refine x_aload_n o dX12_readsCondition_9 0 rfl rfl ?_
    refine x_iconst (v := 1) o dX12_readsCondition_10 (by decide) ?_
    refine x_aload_n o dX12_readsCondition_11 0 rfl rfl ?_
    refine gRX12_135 o k_1 dX12_readsCondition_12 ?_
    obtain ⟨c_10, h_11, ec_10, hf⟩ := bq_ex hf
    refine vRX12_148 [.int 1, .int (h.1 a0 8)] [] o (C_X12_wrongAt o.1.2.2.2.2.2.2.1 o.2 F ec_10) (by decide) k_1 rfl rfl (Nat.le_of_ble_eq_true rfl) dX12_readsCondition_15 ?_
    obtain ⟨n_12, hf⟩ := gq_ex hf
    cases hf
    exact hr n_12 _ _ dX12_readsCondition_18
theorem C_X12_readsCondition {k : Kst} (hj : Dj k) (hn : kn k = kdl.length) (F : Nat) {h : Hp} {a0 : Nat} {r : Int32} {h1 : Hp} (hf : X12_readsCondition F a0 h = some (r, h1)) : MI k 9 yX12_readsCondition cX12_readsCondition 1 (some .boolean) [.ref (ka k a0)] h r h1 := mZ hj hn (by decide +kernel) (Nat.le_of_ble_eq_true rfl) (fun d o hr => S_X12_readsCondition_0 o F hf hr)
