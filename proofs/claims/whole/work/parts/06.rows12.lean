set_option maxRecDepth 100000 in
set_option maxHeartbeats 4000000 in
theorem S_X12_longestRun_37 {k : Kst} {d : Kdy} (o : Ok k d cX12_longestRun RX12 5 4) (F : Nat) {k7 : Int32 → Int32 → Int32 → Int32 → Int32 → Hp → Option Int32} (hk7 : ∀ {h : Hp} {x0 : Int32} {x1 : Int32} {x2 : Int32} {x3 : Int32} {x4 : Int32} {r : Int32}, k7 x0 x1 x2 x3 x4 h = some r → RI k d cX12_longestRun r h → Wz k d h 7 [(0, .int x0), (1, .int x1), (2, .int x2), (3, .int x3), (4, .int x4)] []) {h : Hp} {x0 : Int32} {x1 : Int32} {x2 : Int32} {x4 : Int32} {s0 : Int32} {r : Int32} (hf : X12_longestRun_37 F k7 x0 x1 x2 x4 s0 h = some r) (hr : RI k d cX12_longestRun r h) : Wz k d h 37 [(0, .int x0), (1, .int x1), (2, .int x2), (4, .int x4)] [.int s0] := by
  unfold X12_longestRun_37 at hf
  refine x_istore_n o dX12_longestRun_37 (by decide) rfl [(3, .int s0), (0, .int x0), (1, .int x1), (2, .int x2), (4, .int x4)] rfl ?_
  refine x_iload_n o dX12_longestRun_38 3 rfl rfl ?_
  refine x_iload_n o dX12_longestRun_39 0 rfl rfl ?_
  obtain ⟨c_1, ec_1, hf⟩ := ob_ex hf
  refine vRX12_272 [.int x2, .int s0] [] o (C_X12_max o.1.2.2.2.2.2.2.1 o.2 F ec_1) (by decide) rfl rfl (Nat.le_of_ble_eq_true rfl) dX12_longestRun_40 ?_
  refine x_istore_n o dX12_longestRun_43 (by decide) rfl [(2, .int c_1), (3, .int s0), (0, .int x0), (1, .int x1), (4, .int x4)] rfl ?_
  obtain ⟨x4_3, ex4_3, hf⟩ := bd_ex hf
  refine x_iinc o dX12_longestRun_44 (by decide) 4 rfl ex4_3.symm [(4, .int x4_3), (2, .int c_1), (3, .int s0), (0, .int x0), (1, .int x1)] rfl ?_
  refine x_goto o 7 dX12_longestRun_47 (by decide) ?_
  refine x_sub [3, 4, 1, 2, 0] [(0, .int x0), (1, .int x1), (2, .int c_1), (3, .int s0), (4, .int x4_3)] rfl ?_
  exact hk7 hf hr
set_option maxRecDepth 100000 in
set_option maxHeartbeats 4000000 in
theorem S_X12_longestRun_7 {k : Kst} {d : Kdy} (o : Ok k d cX12_longestRun RX12 5 4) (F : Nat) : ∀ (f : Nat) {h : Hp} {x0 : Int32} {x1 : Int32} {x2 : Int32} {x3 : Int32} {x4 : Int32} {r : Int32}, X12_longestRun_7 F f x0 x1 x2 x3 x4 h = some r → RI k d cX12_longestRun r h → Wz k d h 7 [(0, .int x0), (1, .int x1), (2, .int x2), (3, .int x3), (4, .int x4)] [] := by
  intro f
  induction f with
  | zero =>
    intro h x0 x1 x2 x3 x4 r hf hr
    exact nomatch (show (none : Option _) = some _ from hf)
  | succ f ih =>
    intro h x0 x1 x2 x3 x4 r hf hr
    rw [X12_longestRun_7] at hf
    refine x_iload o dX12_longestRun_7 4 rfl ?_
    refine x_iload_n o dX12_longestRun_9 1 rfl rfl ?_
    refine x_icmp_ge o 50 dX12_longestRun_10 (by decide) (fun q_1 => ?_) (fun q_1 => ?_)
    · replace hf := (if_pos q_1).symm.trans hf
      refine x_iload_n o dX12_longestRun_50 2 rfl rfl ?_
      cases hf
      exact hr _ _ dX12_longestRun_51
    · replace hf := (if_neg q_1).symm.trans hf
      refine x_iload_n o dX12_longestRun_13 0 rfl rfl ?_
      refine x_iload o dX12_longestRun_14 4 rfl ?_
      obtain ⟨c_2, ec_2, hf⟩ := ob_ex hf
      refine vRX12_354 [.int x0, .int x4] [] o (C_X12_has o.1.2.2.2.2.2.2.1 o.2 F ec_2) (by decide) rfl rfl (Nat.le_of_ble_eq_true rfl) dX12_longestRun_16 ?_
      refine x_iload_n o dX12_longestRun_19 0 rfl rfl ?_
      refine x_iload o dX12_longestRun_20 4 rfl ?_
      refine x_iconst (v := 1) o dX12_longestRun_22 (by decide) ?_
      refine x_isub o dX12_longestRun_23 ?_
      obtain ⟨c_4, ec_4, hf⟩ := ob_ex hf
      refine vRX12_354 [.int x0, .int (x4 - 1)] [.int c_2] o (C_X12_has o.1.2.2.2.2.2.2.1 o.2 F ec_4) (by decide) rfl rfl (Nat.le_of_ble_eq_true rfl) dX12_longestRun_24 ?_
      refine x_icmp_ne o 36 dX12_longestRun_27 (by decide) (fun q_6 => ?_) (fun q_6 => ?_)
      · replace hf := (if_neg q_6).symm.trans hf
        refine x_iconst (v := 1) o dX12_longestRun_36 (by decide) ?_
        refine x_sub [0, 1, 2, 4] [(0, .int x0), (1, .int x1), (2, .int x2), (4, .int x4)] rfl ?_
        exact S_X12_longestRun_37 o F (fun q1 q2 => ih q1 q2) hf hr
      · replace hf := (if_pos q_6).symm.trans hf
        refine x_iload_n o dX12_longestRun_30 3 rfl rfl ?_
        refine x_iconst (v := 1) o dX12_longestRun_31 (by decide) ?_
        refine x_iadd o dX12_longestRun_32 ?_
        refine x_goto o 37 dX12_longestRun_33 (by decide) ?_
        refine x_sub [0, 1, 2, 4] [(0, .int x0), (1, .int x1), (2, .int x2), (4, .int x4)] rfl ?_
        exact S_X12_longestRun_37 o F (fun q1 q2 => ih q1 q2) hf hr
set_option maxRecDepth 100000 in
set_option maxHeartbeats 4000000 in
theorem S_X12_longestRun_0 {k : Kst} {d : Kdy} (o : Ok k d cX12_longestRun RX12 5 4) (F : Nat) {h : Hp} {x0 : Int32} {x1 : Int32} {r : Int32} (hf : X12_longestRun F x0 x1 h = some r) (hr : RI k d cX12_longestRun r h) : Wz k d h 0 [(0, .int x0), (1, .int x1)] [] := by
  unfold X12_longestRun at hf
  refine x_iconst (v := 1) o dX12_longestRun_0 (by decide) ?_
  refine x_istore_n o dX12_longestRun_1 (by decide) rfl [(2, .int 1), (0, .int x0), (1, .int x1)] rfl ?_
  refine x_iconst (v := 1) o dX12_longestRun_2 (by decide) ?_
  refine x_istore_n o dX12_longestRun_3 (by decide) rfl [(3, .int 1), (2, .int 1), (0, .int x0), (1, .int x1)] rfl ?_
  refine x_iconst (v := 1) o dX12_longestRun_4 (by decide) ?_
  refine x_istore o dX12_longestRun_5 (by decide) [(4, .int 1), (3, .int 1), (2, .int 1), (0, .int x0), (1, .int x1)] rfl ?_
  refine x_sub [3, 4, 2, 1, 0] [(0, .int x0), (1, .int x1), (2, .int 1), (3, .int 1), (4, .int 1)] rfl ?_
  exact S_X12_longestRun_7 o F _ hf hr
theorem C_X12_longestRun {k : Kst} (hj : Dj k) (hn : kn k = kdl.length) (F : Nat) {h : Hp} {x0 : Int32} {x1 : Int32} {r : Int32} (hf : X12_longestRun F x0 x1 h = some r) : MI k 4 yX12_longestRun cX12_longestRun 5 (some .int) [.int x0, .int x1] h r h := mI hj hn (by decide +kernel) (Nat.le_of_ble_eq_true rfl) (fun d o hr => S_X12_longestRun_0 o F hf hr)
set_option maxRecDepth 100000 in
set_option maxHeartbeats 4000000 in
theorem S_X12_dialect_73 {k : Kst} {d : Kdy} (o : Ok k d cX12_dialect RX12 7 5) (F : Nat) {k45 : Int32 → Int32 → Int32 → Int32 → Int32 → Int32 → Hp → Option Int32} (hk45 : ∀ {h : Hp} {x1 : Int32} {x2 : Int32} {x3 : Int32} {x4 : Int32} {x5 : Int32} {x6 : Int32} {r : Int32}, k45 x1 x2 x3 x4 x5 x6 h = some r → RI k d cX12_dialect r h → Wz k d h 45 [(1, .int x1), (2, .int x2), (3, .int x3), (4, .int x4), (5, .int x5), (6, .int x6)] []) {h : Hp} {x1 : Int32} {x2 : Int32} {x3 : Int32} {x4 : Int32} {x5 : Int32} {x6 : Int32} {r : Int32} (hf : X12_dialect_73 F k45 x1 x2 x3 x4 x5 x6 h = some r) (hr : RI k d cX12_dialect r h) : Wz k d h 73 [(1, .int x1), (2, .int x2), (3, .int x3), (4, .int x4), (5, .int x5), (6, .int x6)] [] := by
  unfold X12_dialect_73 at hf
  obtain ⟨x6_1, ex6_1, hf⟩ := bd_ex hf
  refine x_iinc o dX12_dialect_73 (by decide) 5 rfl ex6_1.symm [(6, .int x6_1), (1, .int x1), (2, .int x2), (3, .int x3), (4, .int x4), (5, .int x5)] rfl ?_
  refine x_goto o 45 dX12_dialect_76 (by decide) ?_
  refine x_sub [1, 2, 3, 4, 5, 0] [(1, .int x1), (2, .int x2), (3, .int x3), (4, .int x4), (5, .int x5), (6, .int x6_1)] rfl ?_
  exact hk45 hf hr
set_option maxRecDepth 100000 in
set_option maxHeartbeats 4000000 in
theorem S_X12_dialect_45 {k : Kst} {d : Kdy} (o : Ok k d cX12_dialect RX12 7 5) (F : Nat) : ∀ (f : Nat) {h : Hp} {x1 : Int32} {x2 : Int32} {x3 : Int32} {x4 : Int32} {x5 : Int32} {x6 : Int32} {r : Int32}, X12_dialect_45 F f x1 x2 x3 x4 x5 x6 h = some r → RI k d cX12_dialect r h → Wz k d h 45 [(1, .int x1), (2, .int x2), (3, .int x3), (4, .int x4), (5, .int x5), (6, .int x6)] [] := by
  intro f
  induction f with
  | zero =>
    intro h x1 x2 x3 x4 x5 x6 r hf hr
    exact nomatch (show (none : Option _) = some _ from hf)
  | succ f ih =>
    intro h x1 x2 x3 x4 x5 x6 r hf hr
    rw [X12_dialect_45] at hf
    refine x_iload o dX12_dialect_45 5 rfl ?_
    refine x_if_lt o 79 dX12_dialect_47 (by decide) (fun q_1 => ?_) (fun q_1 => ?_)
    · replace hf := (if_pos q_1).symm.trans hf
      refine x_iload_n o dX12_dialect_79 2 rfl rfl ?_
      refine x_if_ne o 88 dX12_dialect_80 (by decide) (fun q_2 => ?_) (fun q_2 => ?_)
      · replace hf := (if_neg q_2).symm.trans hf
        refine x_iload o dX12_dialect_88 4 rfl ?_
        cases hf
        exact hr _ _ dX12_dialect_90
      · replace hf := (if_pos q_2).symm.trans hf
        refine x_iload o dX12_dialect_83 3 rfl ?_
        refine x_goto o 90 dX12_dialect_85 (by decide) ?_
        cases hf
        exact hr _ _ dX12_dialect_90
    · replace hf := (if_neg q_1).symm.trans hf
      refine x_iload o dX12_dialect_50 5 rfl ?_
      refine x_iload_n o dX12_dialect_52 0 rfl rfl ?_
      obtain ⟨c_3, ec_3, hf⟩ := ob_ex hf
      refine vRX12_386 [.int x6, .int x1] [] o (C_X12_longestRun o.1.2.2.2.2.2.2.1 o.2 F ec_3) (by decide) rfl rfl (Nat.le_of_ble_eq_true rfl) dX12_dialect_53 ?_
      refine x_iload_n o dX12_dialect_56 1 rfl rfl ?_
      refine x_icmp_le o 63 dX12_dialect_57 (by decide) (fun q_5 => ?_) (fun q_5 => ?_)
      · replace hf := (if_pos q_5).symm.trans hf
        refine x_iload o dX12_dialect_63 3 rfl ?_
        refine x_iconst (v := 1) o dX12_dialect_65 (by decide) ?_
        refine x_iadd o dX12_dialect_66 ?_
        obtain ⟨x4_6, ex4_6, hf⟩ := bd_ex hf
        refine x_top ex4_6 ?_
        refine x_istore o dX12_dialect_67 (by decide) [(4, .int x4_6), (1, .int x1), (2, .int x2), (3, .int x3), (5, .int x5), (6, .int x6)] rfl ?_
        refine x_iload o dX12_dialect_69 5 rfl ?_
        refine x_istore o dX12_dialect_71 (by decide) [(5, .int x6), (4, .int x4_6), (1, .int x1), (2, .int x2), (3, .int x3), (6, .int x6)] rfl ?_
        refine x_sub [2, 3, 4, 1, 0, 5] [(1, .int x1), (2, .int x2), (3, .int x3), (4, .int x4_6), (5, .int x6), (6, .int x6)] rfl ?_
        exact S_X12_dialect_73 o F (fun q1 q2 => ih q1 q2) hf hr
      · replace hf := (if_neg q_5).symm.trans hf
        refine x_goto o 73 dX12_dialect_60 (by decide) ?_
        refine x_sub [0, 1, 2, 3, 4, 5] [(1, .int x1), (2, .int x2), (3, .int x3), (4, .int x4), (5, .int x5), (6, .int x6)] rfl ?_
        exact S_X12_dialect_73 o F (fun q1 q2 => ih q1 q2) hf hr
set_option maxRecDepth 100000 in
set_option maxHeartbeats 4000000 in
theorem S_X12_dialect_0 {k : Kst} {d : Kdy} (o : Ok k d cX12_dialect RX12 7 5) (F : Nat) {h : Hp} {a0 : Nat} {x1 : Int32} {x2 : Int32} {x3 : Int32} {r : Int32} (hf : X12_dialect F a0 x1 x2 x3 h = some r) (hr : RI k d cX12_dialect r h) : Wz k d h 0 [(0, .ref (ka k a0)), (1, .int x1), (2, .int x2), (3, .int x3)] [] := by
  unfold X12_dialect at hf
  refine x_iload_n o dX12_dialect_0 1 rfl rfl ?_
  refine x_iconst (v := 1) o dX12_dialect_1 (by decide) ?_
  refine x_bipush (v := 8) o dX12_dialect_2 (by decide) ?_
  obtain ⟨c_1, ec_1, hf⟩ := ob_ex hf
  refine vRX12_113 [.int x1, .int 1, .int 8] [] o (C_X12_in o.1.2.2.2.2.2.2.1 o.2 F ec_1) (by decide) rfl rfl (Nat.le_of_ble_eq_true rfl) dX12_dialect_4 ?_
  refine x_if_eq o 29 dX12_dialect_7 (by decide) (fun q_3 => ?_) (fun q_3 => ?_)
  · replace hf := (if_pos q_3).symm.trans hf
    refine x_iconst (v := (-1)) o dX12_dialect_29 (by decide) ?_
    cases hf
    exact hr _ _ dX12_dialect_30
  · replace hf := (if_neg q_3).symm.trans hf
    refine x_iload_n o dX12_dialect_10 2 rfl rfl ?_
    refine x_iconst (v := 0) o dX12_dialect_11 (by decide) ?_
    refine x_bipush (v := 8) o dX12_dialect_12 (by decide) ?_
    obtain ⟨c_4, ec_4, hf⟩ := ob_ex hf
    refine vRX12_113 [.int x2, .int 0, .int 8] [] o (C_X12_in o.1.2.2.2.2.2.2.1 o.2 F ec_4) (by decide) rfl rfl (Nat.le_of_ble_eq_true rfl) dX12_dialect_14 ?_
    refine x_if_eq o 29 dX12_dialect_17 (by decide) (fun q_6 => ?_) (fun q_6 => ?_)
    · replace hf := (if_pos q_6).symm.trans hf
      refine x_iconst (v := (-1)) o dX12_dialect_29 (by decide) ?_
      cases hf
      exact hr _ _ dX12_dialect_30
    · replace hf := (if_neg q_6).symm.trans hf
      refine x_iload_n o dX12_dialect_20 3 rfl rfl ?_
      refine x_iconst (v := 0) o dX12_dialect_21 (by decide) ?_
      refine x_iconst (v := 1) o dX12_dialect_22 (by decide) ?_
      obtain ⟨c_7, ec_7, hf⟩ := ob_ex hf
      refine vRX12_113 [.int x3, .int 0, .int 1] [] o (C_X12_in o.1.2.2.2.2.2.2.1 o.2 F ec_7) (by decide) rfl rfl (Nat.le_of_ble_eq_true rfl) dX12_dialect_23 ?_
      refine x_if_ne o 31 dX12_dialect_26 (by decide) (fun q_9 => ?_) (fun q_9 => ?_)
      · replace hf := (if_neg q_9).symm.trans hf
        refine x_iconst (v := 0) o dX12_dialect_31 (by decide) ?_
        refine x_istore o dX12_dialect_32 (by decide) [(4, .int 0), (0, .ref (ka k a0)), (1, .int x1), (2, .int x2), (3, .int x3)] rfl ?_
        refine x_bipush (v := (-2)) o dX12_dialect_34 (by decide) ?_
        refine x_istore o dX12_dialect_36 (by decide) [(5, .int (-2)), (4, .int 0), (0, .ref (ka k a0)), (1, .int x1), (2, .int x2), (3, .int x3)] rfl ?_
        refine x_iconst (v := 1) o dX12_dialect_38 (by decide) ?_
        refine x_iload_n o dX12_dialect_39 3 rfl rfl ?_
        refine x_ishl o dX12_dialect_40 ?_
        refine x_iconst (v := 1) o dX12_dialect_41 (by decide) ?_
        refine x_isub o dX12_dialect_42 ?_
        obtain ⟨x6_10, ex6_10, hf⟩ := bd_ex hf
        refine x_top ex6_10 ?_
        refine x_istore o dX12_dialect_43 (by decide) [(6, .int x6_10), (5, .int (-2)), (4, .int 0), (0, .ref (ka k a0)), (1, .int x1), (2, .int x2), (3, .int x3)] rfl ?_
        refine x_sub [4, 5, 6, 2, 1, 0] [(1, .int x1), (2, .int x2), (3, .int x3), (4, .int 0), (5, .int (-2)), (6, .int x6_10)] rfl ?_
        exact S_X12_dialect_45 o F _ hf hr
      · replace hf := (if_pos q_9).symm.trans hf
        refine x_iconst (v := (-1)) o dX12_dialect_29 (by decide) ?_
        cases hf
        exact hr _ _ dX12_dialect_30
theorem C_X12_dialect {k : Kst} (hj : Dj k) (hn : kn k = kdl.length) (F : Nat) {h : Hp} {a0 : Nat} {x1 : Int32} {x2 : Int32} {x3 : Int32} {r : Int32} (hf : X12_dialect F a0 x1 x2 x3 h = some r) : MI k 5 yX12_dialect cX12_dialect 7 (some .int) [.ref (ka k a0), .int x1, .int x2, .int x3] h r h := mI hj hn (by decide +kernel) (Nat.le_of_ble_eq_true rfl) (fun d o hr => S_X12_dialect_0 o F hf hr)
set_option maxRecDepth 100000 in
set_option maxHeartbeats 4000000 in
theorem S_X12_owed_33 {k : Kst} {d : Kdy} (o : Ok k d cX12_owed RX12 5 4) (F : Nat) : ∀ (f : Nat) {h : Hp} {x1 : Int32} {x2 : Int32} {x3 : Int32} {x4 : Int32} {r : Int32}, X12_owed_33 F f x1 x2 x3 x4 h = some r → RI k d cX12_owed r h → Wz k d h 33 [(1, .int x1), (2, .int x2), (3, .int x3), (4, .int x4)] [] := by
  intro f
  induction f with
  | zero =>
    intro h x1 x2 x3 x4 r hf hr
    exact nomatch (show (none : Option _) = some _ from hf)
  | succ f ih =>
    intro h x1 x2 x3 x4 r hf hr
    rw [X12_owed_33] at hf
    refine x_iload o dX12_owed_33 3 rfl ?_
    refine x_sipush (v := 200) o dX12_owed_35 (by decide) ?_
    refine x_icmp_gt o 88 dX12_owed_38 (by decide) (fun q_1 => ?_) (fun q_1 => ?_)
    · replace hf := (if_pos q_1).symm.trans hf
      refine x_bipush (v := (-2)) o dX12_owed_88 (by decide) ?_
      cases hf
      exact hr _ _ dX12_owed_90
    · replace hf := (if_neg q_1).symm.trans hf
      refine x_iload_n o dX12_owed_41 2 rfl rfl ?_
      refine x_if_gt o 48 dX12_owed_42 (by decide) (fun q_2 => ?_) (fun q_2 => ?_)
      · replace hf := (if_pos q_2).symm.trans hf
        refine x_iload_n o dX12_owed_48 2 rfl rfl ?_
        refine x_iload_n o dX12_owed_49 2 rfl rfl ?_
        refine x_bipush (v := 100) o dX12_owed_50 (by decide) ?_
        refine x_idiv o dX12_owed_52 (by decide) ?_
        refine x_iload_n o dX12_owed_53 1 rfl rfl ?_
        refine x_imul o dX12_owed_54 ?_
        refine x_iadd o dX12_owed_55 ?_
        refine x_iload_n o dX12_owed_56 2 rfl rfl ?_
        refine x_bipush (v := 100) o dX12_owed_57 (by decide) ?_
        refine x_irem o dX12_owed_59 (by decide) ?_
        refine x_iload_n o dX12_owed_60 1 rfl rfl ?_
        refine x_imul o dX12_owed_61 ?_
        refine x_bipush (v := 99) o dX12_owed_62 (by decide) ?_
        refine x_iadd o dX12_owed_64 ?_
        refine x_bipush (v := 100) o dX12_owed_65 (by decide) ?_
        refine x_idiv o dX12_owed_67 (by decide) ?_
        refine x_iadd o dX12_owed_68 ?_
        refine x_iload_n o dX12_owed_69 0 rfl rfl ?_
        refine x_isub o dX12_owed_70 ?_
        obtain ⟨x3_3, ex3_3, hf⟩ := bd_ex hf
        refine x_top ex3_3 ?_
        refine x_istore_n o dX12_owed_71 (by decide) rfl [(3, .int x3_3), (1, .int x1), (2, .int x2), (4, .int x4)] rfl ?_
        refine x_iload_n o dX12_owed_72 0 rfl rfl ?_
        refine x_ldcw (v := 100000000) o dX12_owed_73 wRX12_347 ?_
        refine x_icmp_le o 82 dX12_owed_76 (by decide) (fun q_4 => ?_) (fun q_4 => ?_)
        · replace hf := (if_pos q_4).symm.trans hf
          obtain ⟨x4_5, ex4_5, hf⟩ := bd_ex hf
          refine x_iinc o dX12_owed_82 (by decide) 3 rfl ex4_5.symm [(4, .int x4_5), (3, .int x3_3), (1, .int x1), (2, .int x2)] rfl ?_
          refine x_goto o 33 dX12_owed_85 (by decide) ?_
          refine x_sub [2, 3, 1, 0] [(1, .int x1), (2, .int x2), (3, .int x3_3), (4, .int x4_5)] rfl ?_
          exact ih hf hr
        · replace hf := (if_neg q_4).symm.trans hf
          refine x_bipush (v := (-2)) o dX12_owed_79 (by decide) ?_
          cases hf
          exact hr _ _ dX12_owed_81
      · replace hf := (if_neg q_2).symm.trans hf
        refine x_iload o dX12_owed_45 3 rfl ?_
        cases hf
        exact hr _ _ dX12_owed_47
set_option maxRecDepth 100000 in
set_option maxHeartbeats 4000000 in
theorem S_X12_owed_0 {k : Kst} {d : Kdy} (o : Ok k d cX12_owed RX12 5 4) (F : Nat) {h : Hp} {a0 : Nat} {x1 : Int32} {x2 : Int32} {r : Int32} (hf : X12_owed F a0 x1 x2 h = some r) (hr : RI k d cX12_owed r h) : Wz k d h 0 [(0, .ref (ka k a0)), (1, .int x1), (2, .int x2)] [] := by
  unfold X12_owed at hf
  refine x_iload_n o dX12_owed_0 1 rfl rfl ?_
  refine x_iconst (v := 1) o dX12_owed_1 (by decide) ?_
  refine x_ldc (v := 99999) o dX12_owed_2 wRX12_108 ?_
  obtain ⟨c_1, ec_1, hf⟩ := ob_ex hf
  refine vRX12_113 [.int x1, .int 1, .int 99999] [] o (C_X12_in o.1.2.2.2.2.2.2.1 o.2 F ec_1) (by decide) rfl rfl (Nat.le_of_ble_eq_true rfl) dX12_owed_4 ?_
  refine x_if_eq o 20 dX12_owed_7 (by decide) (fun q_3 => ?_) (fun q_3 => ?_)
  · replace hf := (if_pos q_3).symm.trans hf
    refine x_iconst (v := (-1)) o dX12_owed_20 (by decide) ?_
    cases hf
    exact hr _ _ dX12_owed_21
  · replace hf := (if_neg q_3).symm.trans hf
    refine x_iload_n o dX12_owed_10 2 rfl rfl ?_
    refine x_iconst (v := 0) o dX12_owed_11 (by decide) ?_
    refine x_bipush (v := 50) o dX12_owed_12 (by decide) ?_
    obtain ⟨c_4, ec_4, hf⟩ := ob_ex hf
    refine vRX12_113 [.int x2, .int 0, .int 50] [] o (C_X12_in o.1.2.2.2.2.2.2.1 o.2 F ec_4) (by decide) rfl rfl (Nat.le_of_ble_eq_true rfl) dX12_owed_14 ?_
    refine x_if_ne o 22 dX12_owed_17 (by decide) (fun q_6 => ?_) (fun q_6 => ?_)
    · replace hf := (if_neg q_6).symm.trans hf
      refine x_aload_n o dX12_owed_22 0 rfl rfl ?_
      obtain ⟨k_7, hf⟩ := gq_ex hf
      obtain ⟨j_8, ej_8, hf⟩ := ob_ex hf
      refine gRX12_7 o k_7 ej_8 dX12_owed_23 ?_
      refine x_bipush (v := 43) o dX12_owed_26 (by decide) ?_
      obtain ⟨k_9, hf⟩ := gq_ex hf
      obtain ⟨b_10, hf⟩ := gq_ex hf
      refine x_iald o k_9 b_10 dX12_owed_28 ?_
      obtain ⟨x3_11, ex3_11, hf⟩ := bd_ex hf
      refine x_top ex3_11 ?_
      refine x_istore_n o dX12_owed_29 (by decide) rfl [(3, .int x3_11), (0, .ref (ka k a0)), (1, .int x1), (2, .int x2)] rfl ?_
      refine x_iconst (v := 0) o dX12_owed_30 (by decide) ?_
      refine x_istore o dX12_owed_31 (by decide) [(4, .int 0), (3, .int x3_11), (0, .ref (ka k a0)), (1, .int x1), (2, .int x2)] rfl ?_
      refine x_sub [3, 4, 1, 0] [(1, .int x1), (2, .int x2), (3, .int x3_11), (4, .int 0)] rfl ?_
      exact S_X12_owed_33 o F _ hf hr
    · replace hf := (if_pos q_6).symm.trans hf
      refine x_iconst (v := (-1)) o dX12_owed_20 (by decide) ?_
      cases hf
      exact hr _ _ dX12_owed_21
theorem C_X12_owed {k : Kst} (hj : Dj k) (hn : kn k = kdl.length) (F : Nat) {h : Hp} {a0 : Nat} {x1 : Int32} {x2 : Int32} {r : Int32} (hf : X12_owed F a0 x1 x2 h = some r) : MI k 4 yX12_owed cX12_owed 5 (some .int) [.ref (ka k a0), .int x1, .int x2] h r h := mI hj hn (by decide +kernel) (Nat.le_of_ble_eq_true rfl) (fun d o hr => S_X12_owed_0 o F hf hr)
set_option maxRecDepth 100000 in
set_option maxHeartbeats 4000000 in
theorem S_X12_seed_0 {k : Kst} {d : Kdy} (o : Ok k d cX12_seed RX12 2 4) (F : Nat) {h : Hp} {a0 : Nat} {x1 : Int32} {r : Int32} {h1 : Hp} (hf : X12_seed F a0 x1 h = some (r, h1)) (hr : RZ k d cX12_seed r h1) : Wz k d h 0 [(0, .ref (ka k a0)), (1, .int x1)] [] := by
  unfold X12_seed at hf
  refine x_iload_n o dX12_seed_0 1 rfl rfl ?_
  refine x_iconst (v := 0) o dX12_seed_1 (by decide) ?_
  refine x_ldcw (v := 65535) o dX12_seed_2 wRX12_389 ?_
  obtain ⟨c_1, ec_1, hf⟩ := ob_ex hf
  refine vRX12_113 [.int x1, .int 0, .int 65535] [] o (C_X12_in o.1.2.2.2.2.2.2.1 o.2 F ec_1) (by decide) rfl rfl (Nat.le_of_ble_eq_true rfl) dX12_seed_5 ?_
  refine x_if_ne o 13 dX12_seed_8 (by decide) (fun q_3 => ?_) (fun q_3 => ?_)
  · replace hf := (if_neg q_3).symm.trans hf
    refine x_aload_n o dX12_seed_13 0 rfl rfl ?_
    obtain ⟨k_4, hf⟩ := gq_ex hf
    obtain ⟨j_5, ej_5, hf⟩ := ob_ex hf
    refine gRX12_7 o k_4 ej_5 dX12_seed_14 ?_
    refine x_bipush (v := 46) o dX12_seed_17 (by decide) ?_
    refine x_iload_n o dX12_seed_19 1 rfl rfl ?_
    obtain ⟨k_6, hf⟩ := gq_ex hf
    obtain ⟨b_7, hf⟩ := gq_ex hf
    obtain ⟨h_8, eh_8, hf⟩ := bd_ex hf
    refine x_iast o k_6 b_7 dX12_seed_20 (x_h eh_8 ?_)
    refine x_iconst (v := 1) o dX12_seed_21 (by decide) ?_
    cases hf
    exact hr (Or.inr rfl) _ _ dX12_seed_22
  · replace hf := (if_pos q_3).symm.trans hf
    refine x_iconst (v := 0) o dX12_seed_11 (by decide) ?_
    cases hf
    exact hr (Or.inl rfl) _ _ dX12_seed_12
theorem C_X12_seed {k : Kst} (hj : Dj k) (hn : kn k = kdl.length) (F : Nat) {h : Hp} {a0 : Nat} {x1 : Int32} {r : Int32} {h1 : Hp} (hf : X12_seed F a0 x1 h = some (r, h1)) : MI k 4 yX12_seed cX12_seed 2 (some .boolean) [.ref (ka k a0), .int x1] h r h1 := mZ hj hn (by decide +kernel) (Nat.le_of_ble_eq_true rfl) (fun d o hr => S_X12_seed_0 o F hf hr)
set_option maxRecDepth 100000 in
set_option maxHeartbeats 4000000 in
theorem S_X12_keep_0 {k : Kst} {d : Kdy} (o : Ok k d cX12_keep RX12 1 4) (F : Nat) {h : Hp} {a0 : Nat} {r : Int32} {h1 : Hp} (hf : X12_keep F a0 h = some (r, h1)) (hr : RI k d cX12_keep r h1) : Wz k d h 0 [(0, .ref (ka k a0))] [] := by
  unfold X12_keep at hf
  refine x_aload_n o dX12_keep_0 0 rfl rfl ?_
  refine x_iconst (v := 1) o dX12_keep_1 (by decide) ?_
  obtain ⟨k_1, hf⟩ := gq_ex hf
  obtain ⟨h_2, eh_2, hf⟩ := bd_ex hf
  refine pRX12_390 o k_1 eh_2 rfl rfl dX12_keep_2 ?_
  refine x_aload_n o dX12_keep_5 0 rfl rfl ?_
  obtain ⟨j_3, ej_3, hf⟩ := ob_ex hf
  refine gRX12_7 o k_1 ej_3 dX12_keep_6 ?_
  refine x_aload_n o dX12_keep_9 0 rfl rfl ?_
  obtain ⟨j_4, ej_4, hf⟩ := ob_ex hf
  refine gRX12_16 o k_1 ej_4 dX12_keep_10 ?_
  obtain ⟨h_6, eh_6, hf⟩ := ob_ex hf
  refine vRX12_285 [.ref (ka k j_3), .ref (ka k j_4)] [] o (C_X12_copies o.1.2.2.2.2.2.2.1 o.2 F eh_6) (by decide) rfl rfl (Nat.le_of_ble_eq_true rfl) dX12_keep_13 ?_
  refine x_aload_n o dX12_keep_16 0 rfl rfl ?_
  obtain ⟨j_7, ej_7, hf⟩ := ob_ex hf
  refine gRX12_7 o k_1 ej_7 dX12_keep_17 ?_
  refine x_bipush (v := 44) o dX12_keep_20 (by decide) ?_
  obtain ⟨k_8, hf⟩ := gq_ex hf
  obtain ⟨b_9, hf⟩ := gq_ex hf
  refine x_iald o k_8 b_9 dX12_keep_22 ?_
  cases hf
  exact hr _ _ dX12_keep_23
theorem C_X12_keep {k : Kst} (hj : Dj k) (hn : kn k = kdl.length) (F : Nat) {h : Hp} {a0 : Nat} {r : Int32} {h1 : Hp} (hf : X12_keep F a0 h = some (r, h1)) : MI k 4 yX12_keep cX12_keep 1 (some .int) [.ref (ka k a0)] h r h1 := mI hj hn (by decide +kernel) (Nat.le_of_ble_eq_true rfl) (fun d o hr => S_X12_keep_0 o F hf hr)
set_option maxRecDepth 100000 in
set_option maxHeartbeats 4000000 in
theorem S_X12_undo_0 {k : Kst} {d : Kdy} (o : Ok k d cX12_undo RX12 1 4) (F : Nat) {h : Hp} {a0 : Nat} {r : Int32} {h1 : Hp} (hf : X12_undo F a0 h = some (r, h1)) (hr : RZ k d cX12_undo r h1) : Wz k d h 0 [(0, .ref (ka k a0))] [] := by
  unfold X12_undo at hf
  refine x_aload_n o dX12_undo_0 0 rfl rfl ?_
  obtain ⟨k_1, hf⟩ := gq_ex hf
  refine gRX12_390 o k_1 dX12_undo_1 ?_
  refine x_if_ne o 9 dX12_undo_4 (by decide) (fun q_2 => ?_) (fun q_2 => ?_)
  · replace hf := (if_neg q_2).symm.trans hf
    refine x_aload_n o dX12_undo_9 0 rfl rfl ?_
    obtain ⟨j_3, ej_3, hf⟩ := ob_ex hf
    refine gRX12_16 o k_1 ej_3 dX12_undo_10 ?_
    refine x_aload_n o dX12_undo_13 0 rfl rfl ?_
    obtain ⟨j_4, ej_4, hf⟩ := ob_ex hf
    refine gRX12_7 o k_1 ej_4 dX12_undo_14 ?_
    obtain ⟨h_6, eh_6, hf⟩ := ob_ex hf
    refine vRX12_285 [.ref (ka k j_3), .ref (ka k j_4)] [] o (C_X12_copies o.1.2.2.2.2.2.2.1 o.2 F eh_6) (by decide) rfl rfl (Nat.le_of_ble_eq_true rfl) dX12_undo_17 ?_
    refine x_iconst (v := 1) o dX12_undo_20 (by decide) ?_
    cases hf
    exact hr (Or.inr rfl) _ _ dX12_undo_21
  · replace hf := (if_pos q_2).symm.trans hf
    refine x_iconst (v := 0) o dX12_undo_7 (by decide) ?_
    cases hf
    exact hr (Or.inl rfl) _ _ dX12_undo_8
theorem C_X12_undo {k : Kst} (hj : Dj k) (hn : kn k = kdl.length) (F : Nat) {h : Hp} {a0 : Nat} {r : Int32} {h1 : Hp} (hf : X12_undo F a0 h = some (r, h1)) : MI k 4 yX12_undo cX12_undo 1 (some .boolean) [.ref (ka k a0)] h r h1 := mZ hj hn (by decide +kernel) (Nat.le_of_ble_eq_true rfl) (fun d o hr => S_X12_undo_0 o F hf hr)
set_option maxRecDepth 100000 in
set_option maxHeartbeats 4000000 in
theorem S_X12_check_0 {k : Kst} {d : Kdy} (o : Ok k d cX12_check RX12 1 5) (F : Nat) {h : Hp} {a0 : Nat} {r : Int32} {h1 : Hp} (hf : X12_check F a0 h = some (r, h1)) (hr : RI k d cX12_check r h1) : Wz k d h 0 [(0, .ref (ka k a0))] [] := by
  unfold X12_check at hf
  refine x_aload_n o dX12_check_0 0 rfl rfl ?_
  obtain ⟨k_1, hf⟩ := gq_ex hf
  refine gRX12_128 o k_1 dX12_check_1 ?_
  refine x_iconst (v := 4) o dX12_check_4 (by decide) ?_
  refine x_icmp_ge o 11 dX12_check_5 (by decide) (fun q_2 => ?_) (fun q_2 => ?_)
  · replace hf := (if_pos q_2).symm.trans hf
    refine x_aload_n o dX12_check_11 0 rfl rfl ?_
    refine x_iconst (v := 0) o dX12_check_12 (by decide) ?_
    obtain ⟨h_3, eh_3, hf⟩ := bd_ex hf
    refine pRX12_128 o k_1 eh_3 dX12_check_13 ?_
    refine x_aload_n o dX12_check_16 0 rfl rfl ?_
    refine x_iconst (v := 0) o dX12_check_17 (by decide) ?_
    obtain ⟨c_4, ec_4, hf⟩ := ob_ex hf
    refine vRX12_245 [.int 0] [] o (C_X12_octet o.1.2.2.2.2.2.2.1 o.2 F ec_4) (by decide) k_1 rfl rfl (Nat.le_of_ble_eq_true rfl) dX12_check_18 ?_
    refine x_aload_n o dX12_check_21 0 rfl rfl ?_
    refine x_iconst (v := 0) o dX12_check_22 (by decide) ?_
    obtain ⟨c_6, ec_6, hf⟩ := ob_ex hf
    refine vRX12_121 [.int 0] [.int c_4] o (C_X12_standing o.1.2.2.2.2.2.2.1 o.2 F ec_6) (by decide) k_1 rfl rfl (Nat.le_of_ble_eq_true rfl) dX12_check_23 ?_
    refine x_icmp_eq o 31 dX12_check_26 (by decide) (fun q_8 => ?_) (fun q_8 => ?_)
    · replace hf := (if_pos q_8).symm.trans hf
      refine x_aload_n o dX12_check_31 0 rfl rfl ?_
      refine x_iconst (v := 1) o dX12_check_32 (by decide) ?_
      obtain ⟨c_9, ec_9, hf⟩ := ob_ex hf
      refine vRX12_245 [.int 1] [] o (C_X12_octet o.1.2.2.2.2.2.2.1 o.2 F ec_9) (by decide) k_1 rfl rfl (Nat.le_of_ble_eq_true rfl) dX12_check_33 ?_
      refine x_aload_n o dX12_check_36 0 rfl rfl ?_
      refine x_iconst (v := 1) o dX12_check_37 (by decide) ?_
      obtain ⟨c_11, ec_11, hf⟩ := ob_ex hf
      refine vRX12_121 [.int 1] [.int c_9] o (C_X12_standing o.1.2.2.2.2.2.2.1 o.2 F ec_11) (by decide) k_1 rfl rfl (Nat.le_of_ble_eq_true rfl) dX12_check_38 ?_
      refine x_icmp_eq o 46 dX12_check_41 (by decide) (fun q_13 => ?_) (fun q_13 => ?_)
      · replace hf := (if_pos q_13).symm.trans hf
        refine x_aload_n o dX12_check_46 0 rfl rfl ?_
        refine x_iconst (v := 2) o dX12_check_47 (by decide) ?_
        obtain ⟨c_14, ec_14, hf⟩ := ob_ex hf
        refine vRX12_245 [.int 2] [] o (C_X12_octet o.1.2.2.2.2.2.2.1 o.2 F ec_14) (by decide) k_1 rfl rfl (Nat.le_of_ble_eq_true rfl) dX12_check_48 ?_
        refine x_aload_n o dX12_check_51 0 rfl rfl ?_
        obtain ⟨j_16, ej_16, hf⟩ := ob_ex hf
        refine gRX12_7 o k_1 ej_16 dX12_check_52 ?_
        refine x_bipush (v := 45) o dX12_check_55 (by decide) ?_
        obtain ⟨k_17, hf⟩ := gq_ex hf
        obtain ⟨b_18, hf⟩ := gq_ex hf
        refine x_iald o k_17 b_18 dX12_check_57 ?_
        refine x_sipush (v := 256) o dX12_check_58 (by decide) ?_
        refine x_irem o dX12_check_61 (by decide) ?_
        refine x_icmp_eq o 67 dX12_check_62 (by decide) (fun q_19 => ?_) (fun q_19 => ?_)
        · replace hf := (if_pos q_19).symm.trans hf
          refine x_aload_n o dX12_check_67 0 rfl rfl ?_
          refine x_iconst (v := 3) o dX12_check_68 (by decide) ?_
          obtain ⟨c_20, ec_20, hf⟩ := ob_ex hf
          refine vRX12_245 [.int 3] [] o (C_X12_octet o.1.2.2.2.2.2.2.1 o.2 F ec_20) (by decide) k_1 rfl rfl (Nat.le_of_ble_eq_true rfl) dX12_check_69 ?_
          refine x_aload_n o dX12_check_72 0 rfl rfl ?_
          refine gRX12_7 o k_1 ej_16 dX12_check_73 ?_
          refine x_bipush (v := 42) o dX12_check_76 (by decide) ?_
          obtain ⟨b_22, hf⟩ := gq_ex hf
          refine x_iald o k_17 b_22 dX12_check_78 ?_
          refine x_sipush (v := 256) o dX12_check_79 (by decide) ?_
          refine x_irem o dX12_check_82 (by decide) ?_
          refine x_icmp_eq o 90 dX12_check_83 (by decide) (fun q_23 => ?_) (fun q_23 => ?_)
          · replace hf := (if_pos q_23).symm.trans hf
            refine x_iconst (v := (-1)) o dX12_check_90 (by decide) ?_
            cases hf
            exact hr _ _ dX12_check_91
          · replace hf := (if_neg q_23).symm.trans hf
            refine x_iconst (v := 3) o dX12_check_86 (by decide) ?_
            refine x_goto o 91 dX12_check_87 (by decide) ?_
            cases hf
            exact hr _ _ dX12_check_91
        · replace hf := (if_neg q_19).symm.trans hf
          refine x_iconst (v := 2) o dX12_check_65 (by decide) ?_
          cases hf
          exact hr _ _ dX12_check_66
      · replace hf := (if_neg q_13).symm.trans hf
        refine x_iconst (v := 1) o dX12_check_44 (by decide) ?_
        cases hf
        exact hr _ _ dX12_check_45
    · replace hf := (if_neg q_8).symm.trans hf
      refine x_iconst (v := 0) o dX12_check_29 (by decide) ?_
      cases hf
      exact hr _ _ dX12_check_30
  · replace hf := (if_neg q_2).symm.trans hf
    refine x_bipush (v := (-2)) o dX12_check_8 (by decide) ?_
    cases hf
    exact hr _ _ dX12_check_10
theorem C_X12_check {k : Kst} (hj : Dj k) (hn : kn k = kdl.length) (F : Nat) {h : Hp} {a0 : Nat} {r : Int32} {h1 : Hp} (hf : X12_check F a0 h = some (r, h1)) : MI k 5 yX12_check cX12_check 1 (some .int) [.ref (ka k a0)] h r h1 := mI hj hn (by decide +kernel) (Nat.le_of_ble_eq_true rfl) (fun d o hr => S_X12_check_0 o F hf hr)
set_option maxRecDepth 100000 in
set_option maxHeartbeats 4000000 in
theorem S_X12_count_0 {k : Kst} {d : Kdy} (o : Ok k d cX12_count RX12 2 7) (F : Nat) {h : Hp} {a0 : Nat} {x1 : Int32} {r : Int32} (hf : X12_count F a0 x1 h = some r) (hr : RI k d cX12_count r h) : Wz k d h 0 [(0, .ref (ka k a0)), (1, .int x1)] [] := by
  unfold X12_count at hf
  refine x_iload_n o dX12_count_0 1 rfl rfl ?_
  obtain ⟨t_1, et_1, hf⟩ := bd_ex hf
  refine x_top et_1 ?_
  by_cases q_2 : t_1 = 0
  · replace hf := (if_pos q_2).symm.trans hf
    refine x_tabi (v := 0) o 52 q_2 (by decide) (by decide) rfl (by decide) dX12_count_1 ?_
    refine x_aload_n o dX12_count_52 0 rfl rfl ?_
    obtain ⟨k_3, hf⟩ := gq_ex hf
    obtain ⟨j_4, ej_4, hf⟩ := ob_ex hf
    refine gRX12_7 o k_3 ej_4 dX12_count_53 ?_
    refine x_bipush (v := 44) o dX12_count_56 (by decide) ?_
    obtain ⟨k_5, hf⟩ := gq_ex hf
    obtain ⟨b_6, hf⟩ := gq_ex hf
    refine x_iald o k_5 b_6 dX12_count_58 ?_
    cases hf
    exact hr _ _ dX12_count_59
  replace hf := (if_neg q_2).symm.trans hf
  by_cases q_7 : t_1 = 1
  · replace hf := (if_pos q_7).symm.trans hf
    refine x_tabi (v := 1) o 60 q_7 (by decide) (by decide) rfl (by decide) dX12_count_1 ?_
    refine x_aload_n o dX12_count_60 0 rfl rfl ?_
    obtain ⟨k_8, hf⟩ := gq_ex hf
    obtain ⟨j_9, ej_9, hf⟩ := ob_ex hf
    refine gRX12_7 o k_8 ej_9 dX12_count_61 ?_
    refine x_bipush (v := 42) o dX12_count_64 (by decide) ?_
    obtain ⟨k_10, hf⟩ := gq_ex hf
    obtain ⟨b_11, hf⟩ := gq_ex hf
    refine x_iald o k_10 b_11 dX12_count_66 ?_
    cases hf
    exact hr _ _ dX12_count_67
  replace hf := (if_neg q_7).symm.trans hf
  by_cases q_12 : t_1 = 2
  · replace hf := (if_pos q_12).symm.trans hf
    refine x_tabi (v := 2) o 68 q_12 (by decide) (by decide) rfl (by decide) dX12_count_1 ?_
    refine x_aload_n o dX12_count_68 0 rfl rfl ?_
    obtain ⟨k_13, hf⟩ := gq_ex hf
    obtain ⟨j_14, ej_14, hf⟩ := ob_ex hf
    refine gRX12_7 o k_13 ej_14 dX12_count_69 ?_
    refine x_bipush (v := 43) o dX12_count_72 (by decide) ?_
    obtain ⟨k_15, hf⟩ := gq_ex hf
    obtain ⟨b_16, hf⟩ := gq_ex hf
    refine x_iald o k_15 b_16 dX12_count_74 ?_
    cases hf
    exact hr _ _ dX12_count_75
  replace hf := (if_neg q_12).symm.trans hf
  by_cases q_17 : t_1 = 3
  · replace hf := (if_pos q_17).symm.trans hf
    refine x_tabi (v := 3) o 76 q_17 (by decide) (by decide) rfl (by decide) dX12_count_1 ?_
    refine x_aload_n o dX12_count_76 0 rfl rfl ?_
    obtain ⟨k_18, hf⟩ := gq_ex hf
    obtain ⟨j_19, ej_19, hf⟩ := ob_ex hf
    refine gRX12_7 o k_18 ej_19 dX12_count_77 ?_
    refine x_bipush (v := 45) o dX12_count_80 (by decide) ?_
    obtain ⟨k_20, hf⟩ := gq_ex hf
    obtain ⟨b_21, hf⟩ := gq_ex hf
    refine x_iald o k_20 b_21 dX12_count_82 ?_
    cases hf
    exact hr _ _ dX12_count_83
  replace hf := (if_neg q_17).symm.trans hf
  by_cases q_22 : t_1 = 4
  · replace hf := (if_pos q_22).symm.trans hf
    refine x_tabi (v := 4) o 84 q_22 (by decide) (by decide) rfl (by decide) dX12_count_1 ?_
    refine x_aload_n o dX12_count_84 0 rfl rfl ?_
    obtain ⟨k_23, hf⟩ := gq_ex hf
    refine gRX12_109 o k_23 dX12_count_85 ?_
    cases hf
    exact hr _ _ dX12_count_88
  replace hf := (if_neg q_22).symm.trans hf
  by_cases q_24 : t_1 = 5
  · replace hf := (if_pos q_24).symm.trans hf
    refine x_tabi (v := 5) o 89 q_24 (by decide) (by decide) rfl (by decide) dX12_count_1 ?_
    refine x_aload_n o dX12_count_89 0 rfl rfl ?_
    obtain ⟨k_25, hf⟩ := gq_ex hf
    refine gRX12_229 o k_25 dX12_count_90 ?_
    cases hf
    exact hr _ _ dX12_count_93
  replace hf := (if_neg q_24).symm.trans hf
  by_cases q_26 : t_1 = 6
  · replace hf := (if_pos q_26).symm.trans hf
    refine x_tabi (v := 6) o 94 q_26 (by decide) (by decide) rfl (by decide) dX12_count_1 ?_
    refine x_aload_n o dX12_count_94 0 rfl rfl ?_
    obtain ⟨k_27, hf⟩ := gq_ex hf
    refine gRX12_128 o k_27 dX12_count_95 ?_
    cases hf
    exact hr _ _ dX12_count_98
  replace hf := (if_neg q_26).symm.trans hf
  by_cases q_28 : t_1 = 7
  · replace hf := (if_pos q_28).symm.trans hf
    refine x_tabi (v := 7) o 99 q_28 (by decide) (by decide) rfl (by decide) dX12_count_1 ?_
    refine x_aload_n o dX12_count_99 0 rfl rfl ?_
    obtain ⟨k_29, hf⟩ := gq_ex hf
    obtain ⟨j_30, ej_30, hf⟩ := ob_ex hf
    refine gRX12_7 o k_29 ej_30 dX12_count_100 ?_
    refine x_bipush (v := 46) o dX12_count_103 (by decide) ?_
    obtain ⟨k_31, hf⟩ := gq_ex hf
    obtain ⟨b_32, hf⟩ := gq_ex hf
    refine x_iald o k_31 b_32 dX12_count_105 ?_
    cases hf
    exact hr _ _ dX12_count_106
  replace hf := (if_neg q_28).symm.trans hf
  by_cases q_33 : t_1 = 8
  · replace hf := (if_pos q_33).symm.trans hf
    refine x_tabi (v := 8) o 107 q_33 (by decide) (by decide) rfl (by decide) dX12_count_1 ?_
    refine x_aload_n o dX12_count_107 0 rfl rfl ?_
    obtain ⟨k_34, hf⟩ := gq_ex hf
    obtain ⟨c_35, ec_35, hf⟩ := ob_ex hf
    refine vRX12_329 [] [] o (C_X12_tiltNow o.1.2.2.2.2.2.2.1 o.2 F ec_35) (by decide) k_34 rfl rfl (Nat.le_of_ble_eq_true rfl) dX12_count_108 ?_
    cases hf
    exact hr _ _ dX12_count_111
  replace hf := (if_neg q_33).symm.trans hf
  refine x_tabo o 112 (by have z0 := lv_neT (a := 0) q_2 rfl; have z1 := lv_neT (a := 1) q_7 rfl; have z2 := lv_neT (a := 2) q_12 rfl; have z3 := lv_neT (a := 3) q_17 rfl; have z4 := lv_neT (a := 4) q_22 rfl; have z5 := lv_neT (a := 5) q_24 rfl; have z6 := lv_neT (a := 6) q_26 rfl; have z7 := lv_neT (a := 7) q_28 rfl; have z8 := lv_neT (a := 8) q_33 rfl; omega) (by decide) dX12_count_1 ?_
  refine x_iconst (v := (-1)) o dX12_count_112 (by decide) ?_
  cases hf
  exact hr _ _ dX12_count_113
theorem C_X12_count {k : Kst} (hj : Dj k) (hn : kn k = kdl.length) (F : Nat) {h : Hp} {a0 : Nat} {x1 : Int32} {r : Int32} (hf : X12_count F a0 x1 h = some r) : MI k 7 yX12_count cX12_count 2 (some .int) [.ref (ka k a0), .int x1] h r h := mI hj hn (by decide +kernel) (Nat.le_of_ble_eq_true rfl) (fun d o hr => S_X12_count_0 o F hf hr)
