set_option maxRecDepth 100000 in
set_option maxHeartbeats 4000000 in
theorem S_X7_fewestLamps_66 {k : Kst} {d : Kdy} (o : Ok k d cX7_fewestLamps RX7 8 5) (F : Nat) {k18 : Nat → Int32 → Int32 → Int32 → Int32 → Int32 → Int32 → Hp → Option Int32} (hk18 : ∀ {h : Hp} {a0 : Nat} {x1 : Int32} {x2 : Int32} {x3 : Int32} {x4 : Int32} {x5 : Int32} {x6 : Int32} {r : Int32}, k18 a0 x1 x2 x3 x4 x5 x6 h = some r → RI k d cX7_fewestLamps r h → Wz k d h 18 [(0, .ref (ka k a0)), (1, .int x1), (2, .int x2), (3, .int x3), (4, .int x4), (5, .int x5), (6, .int x6)] []) {h : Hp} {a0 : Nat} {x1 : Int32} {x2 : Int32} {x3 : Int32} {x4 : Int32} {x5 : Int32} {x6 : Int32} {r : Int32} (hf : X7_fewestLamps_66 F k18 a0 x1 x2 x3 x4 x5 x6 h = some r) (hr : RI k d cX7_fewestLamps r h) : Wz k d h 66 [(0, .ref (ka k a0)), (1, .int x1), (2, .int x2), (3, .int x3), (4, .int x4), (5, .int x5), (6, .int x6)] [] := by
  unfold X7_fewestLamps_66 at hf
  obtain ⟨x6_1, ex6_1, hf⟩ := bd_ex hf
  refine x_iinc o dX7_fewestLamps_66 (by decide) 6 rfl ex6_1.symm [(6, .int x6_1), (0, .ref (ka k a0)), (1, .int x1), (2, .int x2), (3, .int x3), (4, .int x4), (5, .int x5)] rfl ?_
  refine x_goto o 18 dX7_fewestLamps_69 (by decide) ?_
  refine x_sub [1, 2, 3, 4, 5, 6, 0] [(0, .ref (ka k a0)), (1, .int x1), (2, .int x2), (3, .int x3), (4, .int x4), (5, .int x5), (6, .int x6_1)] rfl ?_
  exact hk18 hf hr
set_option maxRecDepth 100000 in
set_option maxHeartbeats 4000000 in
theorem S_X7_fewestLamps_18 {k : Kst} {d : Kdy} (o : Ok k d cX7_fewestLamps RX7 8 5) (F : Nat) : ∀ (f : Nat) {h : Hp} {a0 : Nat} {x1 : Int32} {x2 : Int32} {x3 : Int32} {x4 : Int32} {x5 : Int32} {x6 : Int32} {r : Int32}, X7_fewestLamps_18 F f a0 x1 x2 x3 x4 x5 x6 h = some r → RI k d cX7_fewestLamps r h → Wz k d h 18 [(0, .ref (ka k a0)), (1, .int x1), (2, .int x2), (3, .int x3), (4, .int x4), (5, .int x5), (6, .int x6)] [] := by
  intro f
  induction f with
  | zero =>
    intro h a0 x1 x2 x3 x4 x5 x6 r hf hr
    exact nomatch (show (none : Option _) = some _ from hf)
  | succ f ih =>
    intro h a0 x1 x2 x3 x4 x5 x6 r hf hr
    rw [X7_fewestLamps_18] at hf
    refine x_iload o dX7_fewestLamps_18 6 rfl ?_
    refine x_iload_n o dX7_fewestLamps_20 3 rfl rfl ?_
    refine x_icmp_gt o 72 dX7_fewestLamps_21 (by decide) (fun q_1 => ?_) (fun q_1 => ?_)
    · replace hf := (if_pos q_1).symm.trans hf
      refine x_iload o dX7_fewestLamps_72 5 rfl ?_
      cases hf
      exact hr _ _ dX7_fewestLamps_74
    · replace hf := (if_neg q_1).symm.trans hf
      refine x_iload o dX7_fewestLamps_24 6 rfl ?_
      refine x_sipush (v := 4096) o dX7_fewestLamps_26 (by decide) ?_
      refine x_icmp_ge o 72 dX7_fewestLamps_29 (by decide) (fun q_2 => ?_) (fun q_2 => ?_)
      · replace hf := (if_pos q_2).symm.trans hf
        refine x_iload o dX7_fewestLamps_72 5 rfl ?_
        cases hf
        exact hr _ _ dX7_fewestLamps_74
      · replace hf := (if_neg q_2).symm.trans hf
        refine x_iload o dX7_fewestLamps_32 6 rfl ?_
        obtain ⟨c_3, ec_3, hf⟩ := ob_ex hf
        refine vRX7_86 [.int x6] [] o (C_J_bitCount o.1.2.2.2.2.2.2.1 o.2 F ec_3) (by decide) rfl rfl (Nat.le_of_ble_eq_true rfl) dX7_fewestLamps_34 ?_
        refine x_istore o dX7_fewestLamps_37 (by decide) [(7, .int c_3), (0, .ref (ka k a0)), (1, .int x1), (2, .int x2), (3, .int x3), (4, .int x4), (5, .int x5), (6, .int x6)] rfl ?_
        refine x_iload o dX7_fewestLamps_39 0 rfl ?_
        refine x_iload o dX7_fewestLamps_41 5 rfl ?_
        refine x_icmp_ge o 66 dX7_fewestLamps_43 (by decide) (fun q_5 => ?_) (fun q_5 => ?_)
        · replace hf := (if_pos q_5).symm.trans hf
          refine x_sub [1, 2, 3, 4, 5, 6, 7] [(0, .ref (ka k a0)), (1, .int x1), (2, .int x2), (3, .int x3), (4, .int x4), (5, .int x5), (6, .int x6)] rfl ?_
          exact S_X7_fewestLamps_66 o F (fun q1 q2 => ih q1 q2) hf hr
        · replace hf := (if_neg q_5).symm.trans hf
          refine x_aload_n o dX7_fewestLamps_46 1 rfl rfl ?_
          refine x_iload o dX7_fewestLamps_47 7 rfl ?_
          refine x_iload_n o dX7_fewestLamps_49 2 rfl rfl ?_
          refine x_iload_n o dX7_fewestLamps_50 3 rfl rfl ?_
          obtain ⟨c_6, ec_6, hf⟩ := ob_ex hf
          refine vRX7_91 [.ref (ka k a0), .int x6, .int x1, .int x2] [] o (C_X7_litBy o.1.2.2.2.2.2.2.1 o.2 F ec_6) (by decide) rfl rfl (Nat.le_of_ble_eq_true rfl) dX7_fewestLamps_51 ?_
          refine x_iload_n o dX7_fewestLamps_54 4 rfl rfl ?_
          refine x_icmp_ne o 66 dX7_fewestLamps_55 (by decide) (fun q_8 => ?_) (fun q_8 => ?_)
          · replace hf := (if_neg q_8).symm.trans hf
            refine x_sub [1, 2, 3, 4, 5, 6, 7] [(0, .ref (ka k a0)), (1, .int x1), (2, .int x2), (3, .int x3), (4, .int x4), (5, .int x5), (6, .int x6)] rfl ?_
            exact S_X7_fewestLamps_66 o F (fun q1 q2 => ih q1 q2) hf hr
          · replace hf := (if_pos q_8).symm.trans hf
            refine x_iload o dX7_fewestLamps_58 0 rfl ?_
            refine x_istore o dX7_fewestLamps_60 (by decide) [(4, .int c_3), (7, .int c_3), (0, .ref (ka k a0)), (1, .int x1), (2, .int x2), (3, .int x3), (5, .int x5), (6, .int x6)] rfl ?_
            refine x_iload o dX7_fewestLamps_62 7 rfl ?_
            refine x_istore o dX7_fewestLamps_64 (by decide) [(5, .int x6), (4, .int c_3), (7, .int c_3), (0, .ref (ka k a0)), (1, .int x1), (2, .int x2), (3, .int x3), (6, .int x6)] rfl ?_
            refine x_sub [3, 4, 5, 6, 1, 0, 7] [(0, .ref (ka k a0)), (1, .int x1), (2, .int x2), (3, .int x3), (4, .int c_3), (5, .int x6), (6, .int x6)] rfl ?_
            exact S_X7_fewestLamps_66 o F (fun q1 q2 => ih q1 q2) hf hr
set_option maxRecDepth 100000 in
set_option maxHeartbeats 4000000 in
theorem S_X7_fewestLamps_0 {k : Kst} {d : Kdy} (o : Ok k d cX7_fewestLamps RX7 8 5) (F : Nat) {h : Hp} {a0 : Nat} {x1 : Int32} {x2 : Int32} {r : Int32} (hf : X7_fewestLamps F a0 x1 x2 h = some r) (hr : RI k d cX7_fewestLamps r h) : Wz k d h 0 [(0, .ref (ka k a0)), (1, .int x1), (2, .int x2)] [] := by
  unfold X7_fewestLamps at hf
  refine x_iconst (v := 1) o dX7_fewestLamps_0 (by decide) ?_
  refine x_iload_n o dX7_fewestLamps_1 1 rfl rfl ?_
  refine x_ishl o dX7_fewestLamps_2 ?_
  refine x_iconst (v := 1) o dX7_fewestLamps_3 (by decide) ?_
  refine x_isub o dX7_fewestLamps_4 ?_
  obtain ⟨x3_1, ex3_1, hf⟩ := bd_ex hf
  refine x_top ex3_1 ?_
  refine x_istore_n o dX7_fewestLamps_5 (by decide) rfl [(3, .int x3_1), (0, .ref (ka k a0)), (1, .int x1), (2, .int x2)] rfl ?_
  refine x_iload_n o dX7_fewestLamps_6 2 rfl rfl ?_
  refine x_iconst (v := 1) o dX7_fewestLamps_7 (by decide) ?_
  refine x_iadd o dX7_fewestLamps_8 ?_
  obtain ⟨x4_2, ex4_2, hf⟩ := bd_ex hf
  refine x_top ex4_2 ?_
  refine x_istore o dX7_fewestLamps_9 (by decide) [(4, .int x4_2), (3, .int x3_1), (0, .ref (ka k a0)), (1, .int x1), (2, .int x2)] rfl ?_
  refine x_bipush (v := (-2)) o dX7_fewestLamps_11 (by decide) ?_
  refine x_istore o dX7_fewestLamps_13 (by decide) [(5, .int (-2)), (4, .int x4_2), (3, .int x3_1), (0, .ref (ka k a0)), (1, .int x1), (2, .int x2)] rfl ?_
  refine x_iconst (v := 1) o dX7_fewestLamps_15 (by decide) ?_
  refine x_istore o dX7_fewestLamps_16 (by decide) [(6, .int 1), (5, .int (-2)), (4, .int x4_2), (3, .int x3_1), (0, .ref (ka k a0)), (1, .int x1), (2, .int x2)] rfl ?_
  refine x_sub [4, 5, 6, 3, 2, 1, 0] [(0, .ref (ka k a0)), (1, .int x1), (2, .int x2), (3, .int x3_1), (4, .int x4_2), (5, .int (-2)), (6, .int 1)] rfl ?_
  exact S_X7_fewestLamps_18 o F _ hf hr
theorem C_X7_fewestLamps {k : Kst} (hj : Dj k) (hn : kn k = kdl.length) (F : Nat) {h : Hp} {a0 : Nat} {x1 : Int32} {x2 : Int32} {r : Int32} (hf : X7_fewestLamps F a0 x1 x2 h = some r) : MI k 5 yX7_fewestLamps cX7_fewestLamps 8 (some .int) [.ref (ka k a0), .int x1, .int x2] h r h := mI hj hn (by decide +kernel) (Nat.le_of_ble_eq_true rfl) (fun d o hr => S_X7_fewestLamps_0 o F hf hr)
set_option maxRecDepth 100000 in
set_option maxHeartbeats 4000000 in
theorem S_X7_claimsOf_41 {k : Kst} {d : Kdy} (o : Ok k d cX7_claimsOf RX7 6 4) (F : Nat) {k6 : Nat → Int32 → Int32 → Int32 → Int32 → Hp → Option Int32} (hk6 : ∀ {h : Hp} {a0 : Nat} {x1 : Int32} {x3 : Int32} {x4 : Int32} {x5 : Int32} {r : Int32}, k6 a0 x1 x3 x4 x5 h = some r → RI k d cX7_claimsOf r h → Wz k d h 6 [(0, .ref (ka k a0)), (1, .int x1), (3, .int x3), (4, .int x4), (5, .int x5)] []) {h : Hp} {a0 : Nat} {x1 : Int32} {x3 : Int32} {x4 : Int32} {x5 : Int32} {r : Int32} (hf : X7_claimsOf_41 F k6 a0 x1 x3 x4 x5 h = some r) (hr : RI k d cX7_claimsOf r h) : Wz k d h 41 [(0, .ref (ka k a0)), (1, .int x1), (3, .int x3), (4, .int x4), (5, .int x5)] [] := by
  unfold X7_claimsOf_41 at hf
  obtain ⟨x5_1, ex5_1, hf⟩ := bd_ex hf
  refine x_iinc o dX7_claimsOf_41 (by decide) 4 rfl ex5_1.symm [(5, .int x5_1), (0, .ref (ka k a0)), (1, .int x1), (3, .int x3), (4, .int x4)] rfl ?_
  refine x_goto o 6 dX7_claimsOf_44 (by decide) ?_
  refine x_sub [1, 2, 3, 4, 0] [(0, .ref (ka k a0)), (1, .int x1), (3, .int x3), (4, .int x4), (5, .int x5_1)] rfl ?_
  exact hk6 hf hr
set_option maxRecDepth 100000 in
set_option maxHeartbeats 4000000 in
theorem S_X7_claimsOf_6 {k : Kst} {d : Kdy} (o : Ok k d cX7_claimsOf RX7 6 4) (F : Nat) : ∀ (f : Nat) {h : Hp} {a0 : Nat} {x1 : Int32} {x3 : Int32} {x4 : Int32} {x5 : Int32} {r : Int32}, X7_claimsOf_6 F f a0 x1 x3 x4 x5 h = some r → RI k d cX7_claimsOf r h → Wz k d h 6 [(0, .ref (ka k a0)), (1, .int x1), (3, .int x3), (4, .int x4), (5, .int x5)] [] := by
  intro f
  induction f with
  | zero =>
    intro h a0 x1 x3 x4 x5 r hf hr
    exact nomatch (show (none : Option _) = some _ from hf)
  | succ f ih =>
    intro h a0 x1 x3 x4 x5 r hf hr
    rw [X7_claimsOf_6] at hf
    refine x_iload o dX7_claimsOf_6 4 rfl ?_
    refine x_iload_n o dX7_claimsOf_8 1 rfl rfl ?_
    refine x_icmp_ge o 47 dX7_claimsOf_9 (by decide) (fun q_1 => ?_) (fun q_1 => ?_)
    · replace hf := (if_pos q_1).symm.trans hf
      refine x_iload o dX7_claimsOf_47 3 rfl ?_
      cases hf
      exact hr _ _ dX7_claimsOf_49
    · replace hf := (if_neg q_1).symm.trans hf
      refine x_aload_n o dX7_claimsOf_12 0 rfl rfl ?_
      refine x_iconst (v := 2) o dX7_claimsOf_13 (by decide) ?_
      refine x_iload o dX7_claimsOf_14 4 rfl ?_
      refine x_imul o dX7_claimsOf_16 ?_
      obtain ⟨k_2, hf⟩ := gq_ex hf
      obtain ⟨c_3, ec_3, hf⟩ := ob_ex hf
      refine vRX7_43 [.int (2 * x5)] [] o (C_X9_at o.1.2.2.2.2.2.2.1 o.2 F ec_3) (by decide) k_2 rfl rfl (Nat.le_of_ble_eq_true rfl) dX7_claimsOf_17 ?_
      refine x_iload_n o dX7_claimsOf_20 2 rfl rfl ?_
      refine x_icmp_gt o 41 dX7_claimsOf_21 (by decide) (fun q_5 => ?_) (fun q_5 => ?_)
      · replace hf := (if_pos q_5).symm.trans hf
        refine x_sub [0, 1, 2, 3, 4] [(0, .ref (ka k a0)), (1, .int x1), (3, .int x3), (4, .int x4), (5, .int x5)] rfl ?_
        exact S_X7_claimsOf_41 o F (fun q1 q2 => ih q1 q2) hf hr
      · replace hf := (if_neg q_5).symm.trans hf
        refine x_iload_n o dX7_claimsOf_24 2 rfl rfl ?_
        refine x_aload_n o dX7_claimsOf_25 0 rfl rfl ?_
        refine x_iconst (v := 2) o dX7_claimsOf_26 (by decide) ?_
        refine x_iload o dX7_claimsOf_27 4 rfl ?_
        refine x_imul o dX7_claimsOf_29 ?_
        refine x_iconst (v := 1) o dX7_claimsOf_30 (by decide) ?_
        refine x_iadd o dX7_claimsOf_31 ?_
        obtain ⟨c_6, ec_6, hf⟩ := ob_ex hf
        refine vRX7_43 [.int ((2 * x5) + 1)] [.int x3] o (C_X9_at o.1.2.2.2.2.2.2.1 o.2 F ec_6) (by decide) k_2 rfl rfl (Nat.le_of_ble_eq_true rfl) dX7_claimsOf_32 ?_
        refine x_icmp_ge o 41 dX7_claimsOf_35 (by decide) (fun q_8 => ?_) (fun q_8 => ?_)
        · replace hf := (if_pos q_8).symm.trans hf
          refine x_sub [0, 1, 2, 3, 4] [(0, .ref (ka k a0)), (1, .int x1), (3, .int x3), (4, .int x4), (5, .int x5)] rfl ?_
          exact S_X7_claimsOf_41 o F (fun q1 q2 => ih q1 q2) hf hr
        · replace hf := (if_neg q_8).symm.trans hf
          obtain ⟨x4_9, ex4_9, hf⟩ := bd_ex hf
          refine x_iinc o dX7_claimsOf_38 (by decide) 3 rfl ex4_9.symm [(4, .int x4_9), (0, .ref (ka k a0)), (1, .int x1), (3, .int x3), (5, .int x5)] rfl ?_
          refine x_sub [1, 2, 3, 0, 4] [(0, .ref (ka k a0)), (1, .int x1), (3, .int x3), (4, .int x4_9), (5, .int x5)] rfl ?_
          exact S_X7_claimsOf_41 o F (fun q1 q2 => ih q1 q2) hf hr
set_option maxRecDepth 100000 in
set_option maxHeartbeats 4000000 in
theorem S_X7_claimsOf_0 {k : Kst} {d : Kdy} (o : Ok k d cX7_claimsOf RX7 6 4) (F : Nat) {h : Hp} {a0 : Nat} {x1 : Int32} {x2 : Int32} {x3 : Int32} {r : Int32} (hf : X7_claimsOf F a0 x1 x2 x3 h = some r) (hr : RI k d cX7_claimsOf r h) : Wz k d h 0 [(0, .ref (ka k a0)), (1, .int x1), (2, .int x2), (3, .int x3)] [] := by
  unfold X7_claimsOf at hf
  refine x_iconst (v := 0) o dX7_claimsOf_0 (by decide) ?_
  refine x_istore o dX7_claimsOf_1 (by decide) [(4, .int 0), (0, .ref (ka k a0)), (1, .int x1), (2, .int x2), (3, .int x3)] rfl ?_
  refine x_iload_n o dX7_claimsOf_3 3 rfl rfl ?_
  refine x_istore o dX7_claimsOf_4 (by decide) [(5, .int x2), (4, .int 0), (0, .ref (ka k a0)), (1, .int x1), (2, .int x2), (3, .int x3)] rfl ?_
  refine x_sub [2, 3, 5, 1, 0] [(0, .ref (ka k a0)), (1, .int x1), (3, .int x3), (4, .int 0), (5, .int x2)] rfl ?_
  exact S_X7_claimsOf_6 o F _ hf hr
theorem C_X7_claimsOf {k : Kst} (hj : Dj k) (hn : kn k = kdl.length) (F : Nat) {h : Hp} {a0 : Nat} {x1 : Int32} {x2 : Int32} {x3 : Int32} {r : Int32} (hf : X7_claimsOf F a0 x1 x2 x3 h = some r) : MI k 4 yX7_claimsOf cX7_claimsOf 6 (some .int) [.ref (ka k a0), .int x1, .int x2, .int x3] h r h := mI hj hn (by decide +kernel) (Nat.le_of_ble_eq_true rfl) (fun d o hr => S_X7_claimsOf_0 o F hf hr)
set_option maxRecDepth 100000 in
set_option maxHeartbeats 4000000 in
theorem S_X7_claimed_155 {k : Kst} {d : Kdy} (o : Ok k d cX7_claimed RX7 11 5) (F : Nat) {h : Hp} {x2 : Int32} {x5 : Int32} {x6 : Int32} {x7 : Int32} {r : Int32} (hf : X7_claimed_155 F x2 x5 x6 x7 h = some r) (hr : RI k d cX7_claimed r h) : Wz k d h 155 [(2, .int x2), (5, .int x5), (6, .int x6), (7, .int x7)] [] := by
  unfold X7_claimed_155 at hf
  refine x_iload_n o dX7_claimed_155 0 rfl rfl ?_
  refine x_if_ne o 164 dX7_claimed_156 (by decide) (fun q_1 => ?_) (fun q_1 => ?_)
  · replace hf := (if_neg q_1).symm.trans hf
    refine x_iload_n o dX7_claimed_164 0 rfl rfl ?_
    refine x_iconst (v := 1) o dX7_claimed_165 (by decide) ?_
    refine x_icmp_ne o 174 dX7_claimed_166 (by decide) (fun q_2 => ?_) (fun q_2 => ?_)
    · replace hf := (if_neg q_2).symm.trans hf
      refine x_iload o dX7_claimed_174 3 rfl ?_
      cases hf
      exact hr _ _ dX7_claimed_176
    · replace hf := (if_pos q_2).symm.trans hf
      refine x_iload o dX7_claimed_169 2 rfl ?_
      refine x_goto o 176 dX7_claimed_171 (by decide) ?_
      cases hf
      exact hr _ _ dX7_claimed_176
  · replace hf := (if_pos q_1).symm.trans hf
    refine x_iload o dX7_claimed_159 1 rfl ?_
    refine x_goto o 176 dX7_claimed_161 (by decide) ?_
    cases hf
    exact hr _ _ dX7_claimed_176
set_option maxRecDepth 100000 in
set_option maxHeartbeats 4000000 in
theorem S_X7_claimed_134 {k : Kst} {d : Kdy} (o : Ok k d cX7_claimed RX7 11 5) (F : Nat) {k64 : Nat → Int32 → Int32 → Int32 → Int32 → Int32 → Int32 → Int32 → Hp → Option Int32} (hk64 : ∀ {h : Hp} {a0 : Nat} {x1 : Int32} {x2 : Int32} {x4 : Int32} {x5 : Int32} {x6 : Int32} {x7 : Int32} {x8 : Int32} {r : Int32}, k64 a0 x1 x2 x4 x5 x6 x7 x8 h = some r → RI k d cX7_claimed r h → Wz k d h 64 [(0, .ref (ka k a0)), (1, .int x1), (2, .int x2), (4, .int x4), (5, .int x5), (6, .int x6), (7, .int x7), (8, .int x8)] []) {h : Hp} {a0 : Nat} {x1 : Int32} {x2 : Int32} {x4 : Int32} {x5 : Int32} {x7 : Int32} {x8 : Int32} {x9 : Int32} {x10 : Int32} {s0 : Int32} {s1 : Int32} {r : Int32} (hf : X7_claimed_134 F k64 a0 x1 x2 x4 x5 x7 x8 x9 x10 s0 s1 h = some r) (hr : RI k d cX7_claimed r h) : Wz k d h 134 [(0, .ref (ka k a0)), (1, .int x1), (2, .int x2), (4, .int x4), (5, .int x5), (7, .int x7), (8, .int x8), (9, .int x9), (10, .int x10)] [.int s1, .int s0] := by
  unfold X7_claimed_134 at hf
  refine x_iadd o dX7_claimed_134 ?_
  obtain ⟨x6_1, ex6_1, hf⟩ := bd_ex hf
  refine x_top ex6_1 ?_
  refine x_istore o dX7_claimed_135 (by decide) [(6, .int x6_1), (0, .ref (ka k a0)), (1, .int x1), (2, .int x2), (4, .int x4), (5, .int x5), (7, .int x7), (8, .int x8), (9, .int x9), (10, .int x10)] rfl ?_
  refine x_iload o dX7_claimed_137 6 rfl ?_
  refine x_iload o dX7_claimed_139 8 rfl ?_
  refine x_iload o dX7_claimed_141 9 rfl ?_
  refine x_iadd o dX7_claimed_143 ?_
  refine x_mmax o wRX7_83 (by decide) (Nat.le_of_ble_eq_true rfl) dX7_claimed_144 ?_
  obtain ⟨x7_2, ex7_2, hf⟩ := bd_ex hf
  refine x_top ex7_2 ?_
  refine x_istore o dX7_claimed_147 (by decide) [(7, .int x7_2), (6, .int x6_1), (0, .ref (ka k a0)), (1, .int x1), (2, .int x2), (4, .int x4), (5, .int x5), (8, .int x8), (9, .int x9), (10, .int x10)] rfl ?_
  obtain ⟨x8_3, ex8_3, hf⟩ := bd_ex hf
  refine x_iinc o dX7_claimed_149 (by decide) 7 rfl ex8_3.symm [(8, .int x8_3), (7, .int x7_2), (6, .int x6_1), (0, .ref (ka k a0)), (1, .int x1), (2, .int x2), (4, .int x4), (5, .int x5), (9, .int x9), (10, .int x10)] rfl ?_
  refine x_goto o 64 dX7_claimed_152 (by decide) ?_
  refine x_sub [3, 4, 5, 6, 7, 2, 1, 0] [(0, .ref (ka k a0)), (1, .int x1), (2, .int x2), (4, .int x4), (5, .int x5), (6, .int x6_1), (7, .int x7_2), (8, .int x8_3)] rfl ?_
  exact hk64 hf hr
set_option maxRecDepth 100000 in
set_option maxHeartbeats 4000000 in
theorem S_X7_claimed_116 {k : Kst} {d : Kdy} (o : Ok k d cX7_claimed RX7 11 5) (F : Nat) {k64 : Nat → Int32 → Int32 → Int32 → Int32 → Int32 → Int32 → Int32 → Hp → Option Int32} (hk64 : ∀ {h : Hp} {a0 : Nat} {x1 : Int32} {x2 : Int32} {x4 : Int32} {x5 : Int32} {x6 : Int32} {x7 : Int32} {x8 : Int32} {r : Int32}, k64 a0 x1 x2 x4 x5 x6 x7 x8 h = some r → RI k d cX7_claimed r h → Wz k d h 64 [(0, .ref (ka k a0)), (1, .int x1), (2, .int x2), (4, .int x4), (5, .int x5), (6, .int x6), (7, .int x7), (8, .int x8)] []) {h : Hp} {a0 : Nat} {x1 : Int32} {x2 : Int32} {x4 : Int32} {x6 : Int32} {x7 : Int32} {x8 : Int32} {x9 : Int32} {x10 : Int32} {s0 : Int32} {s1 : Int32} {r : Int32} (hf : X7_claimed_116 F k64 a0 x1 x2 x4 x6 x7 x8 x9 x10 s0 s1 h = some r) (hr : RI k d cX7_claimed r h) : Wz k d h 116 [(0, .ref (ka k a0)), (1, .int x1), (2, .int x2), (4, .int x4), (6, .int x6), (7, .int x7), (8, .int x8), (9, .int x9), (10, .int x10)] [.int s1, .int s0] := by
  unfold X7_claimed_116 at hf
  refine x_iadd o dX7_claimed_116 ?_
  obtain ⟨x5_1, ex5_1, hf⟩ := bd_ex hf
  refine x_top ex5_1 ?_
  refine x_istore o dX7_claimed_117 (by decide) [(5, .int x5_1), (0, .ref (ka k a0)), (1, .int x1), (2, .int x2), (4, .int x4), (6, .int x6), (7, .int x7), (8, .int x8), (9, .int x9), (10, .int x10)] rfl ?_
  refine x_iload o dX7_claimed_119 5 rfl ?_
  refine x_iload o dX7_claimed_121 8 rfl ?_
  refine x_iload o dX7_claimed_123 9 rfl ?_
  refine x_iadd o dX7_claimed_125 ?_
  refine x_if_ne o 133 dX7_claimed_126 (by decide) (fun q_2 => ?_) (fun q_2 => ?_)
  · replace hf := (if_neg q_2).symm.trans hf
    refine x_iconst (v := 0) o dX7_claimed_133 (by decide) ?_
    refine x_sub [1, 2, 3, 4, 0, 6, 7, 8, 9] [(0, .ref (ka k a0)), (1, .int x1), (2, .int x2), (4, .int x4), (5, .int x5_1), (7, .int x7), (8, .int x8), (9, .int x9), (10, .int x10)] rfl ?_
    exact S_X7_claimed_134 o F hk64 hf hr
  · replace hf := (if_pos q_2).symm.trans hf
    refine x_iconst (v := 1) o dX7_claimed_129 (by decide) ?_
    refine x_goto o 134 dX7_claimed_130 (by decide) ?_
    refine x_sub [1, 2, 3, 4, 0, 6, 7, 8, 9] [(0, .ref (ka k a0)), (1, .int x1), (2, .int x2), (4, .int x4), (5, .int x5_1), (7, .int x7), (8, .int x8), (9, .int x9), (10, .int x10)] rfl ?_
    exact S_X7_claimed_134 o F hk64 hf hr
set_option maxRecDepth 100000 in
set_option maxHeartbeats 4000000 in
theorem S_X7_claimed_115 {k : Kst} {d : Kdy} (o : Ok k d cX7_claimed RX7 11 5) (F : Nat) {k64 : Nat → Int32 → Int32 → Int32 → Int32 → Int32 → Int32 → Int32 → Hp → Option Int32} (hk64 : ∀ {h : Hp} {a0 : Nat} {x1 : Int32} {x2 : Int32} {x4 : Int32} {x5 : Int32} {x6 : Int32} {x7 : Int32} {x8 : Int32} {r : Int32}, k64 a0 x1 x2 x4 x5 x6 x7 x8 h = some r → RI k d cX7_claimed r h → Wz k d h 64 [(0, .ref (ka k a0)), (1, .int x1), (2, .int x2), (4, .int x4), (5, .int x5), (6, .int x6), (7, .int x7), (8, .int x8)] []) {h : Hp} {a0 : Nat} {x1 : Int32} {x2 : Int32} {x4 : Int32} {x6 : Int32} {x7 : Int32} {x8 : Int32} {x9 : Int32} {x10 : Int32} {s0 : Int32} {r : Int32} (hf : X7_claimed_115 F k64 a0 x1 x2 x4 x6 x7 x8 x9 x10 s0 h = some r) (hr : RI k d cX7_claimed r h) : Wz k d h 115 [(0, .ref (ka k a0)), (1, .int x1), (2, .int x2), (4, .int x4), (6, .int x6), (7, .int x7), (8, .int x8), (9, .int x9), (10, .int x10)] [.int s0] := by
  unfold X7_claimed_115 at hf
  refine x_iconst (v := 0) o dX7_claimed_115 (by decide) ?_
  refine x_sub [0, 1, 2, 3, 4, 5, 6, 7, 8] [(0, .ref (ka k a0)), (1, .int x1), (2, .int x2), (4, .int x4), (6, .int x6), (7, .int x7), (8, .int x8), (9, .int x9), (10, .int x10)] rfl ?_
  exact S_X7_claimed_116 o F hk64 hf hr
set_option maxRecDepth 100000 in
set_option maxHeartbeats 4000000 in
theorem S_X7_claimed_64 {k : Kst} {d : Kdy} (o : Ok k d cX7_claimed RX7 11 5) (F : Nat) : ∀ (f : Nat) {h : Hp} {a0 : Nat} {x1 : Int32} {x2 : Int32} {x4 : Int32} {x5 : Int32} {x6 : Int32} {x7 : Int32} {x8 : Int32} {r : Int32}, X7_claimed_64 F f a0 x1 x2 x4 x5 x6 x7 x8 h = some r → RI k d cX7_claimed r h → Wz k d h 64 [(0, .ref (ka k a0)), (1, .int x1), (2, .int x2), (4, .int x4), (5, .int x5), (6, .int x6), (7, .int x7), (8, .int x8)] [] := by
  intro f
  induction f with
  | zero =>
    intro h a0 x1 x2 x4 x5 x6 x7 x8 r hf hr
    exact nomatch (show (none : Option _) = some _ from hf)
  | succ f ih =>
    intro h a0 x1 x2 x4 x5 x6 x7 x8 r hf hr
    rw [X7_claimed_64] at hf
    refine x_iload o dX7_claimed_64 7 rfl ?_
    refine x_iload o dX7_claimed_66 3 rfl ?_
    refine x_icmp_ge o 155 dX7_claimed_68 (by decide) (fun q_1 => ?_) (fun q_1 => ?_)
    · replace hf := (if_pos q_1).symm.trans hf
      refine x_sub [2, 4, 5, 6] [(2, .int x2), (5, .int x5), (6, .int x6), (7, .int x7)] rfl ?_
      exact S_X7_claimed_155 o F hf hr
    · replace hf := (if_neg q_1).symm.trans hf
      refine x_iload o dX7_claimed_71 7 rfl ?_
      refine x_sipush (v := 255) o dX7_claimed_73 (by decide) ?_
      refine x_icmp_ge o 155 dX7_claimed_76 (by decide) (fun q_2 => ?_) (fun q_2 => ?_)
      · replace hf := (if_pos q_2).symm.trans hf
        refine x_sub [2, 4, 5, 6] [(2, .int x2), (5, .int x5), (6, .int x6), (7, .int x7)] rfl ?_
        exact S_X7_claimed_155 o F hf hr
      · replace hf := (if_neg q_2).symm.trans hf
        refine x_aload_n o dX7_claimed_79 0 rfl rfl ?_
        refine x_iload_n o dX7_claimed_80 1 rfl rfl ?_
        refine x_iconst (v := 0) o dX7_claimed_81 (by decide) ?_
        refine x_iload o dX7_claimed_82 7 rfl ?_
        obtain ⟨c_3, ec_3, hf⟩ := ob_ex hf
        refine vRX7_95 [.ref (ka k a0), .int x1, .int 0, .int x8] [] o (C_X7_claimsOf o.1.2.2.2.2.2.2.1 o.2 F ec_3) (by decide) rfl rfl (Nat.le_of_ble_eq_true rfl) dX7_claimed_84 ?_
        refine x_istore o dX7_claimed_87 (by decide) [(9, .int c_3), (0, .ref (ka k a0)), (1, .int x1), (2, .int x2), (4, .int x4), (5, .int x5), (6, .int x6), (7, .int x7), (8, .int x8)] rfl ?_
        refine x_aload_n o dX7_claimed_89 1 rfl rfl ?_
        refine x_iload_n o dX7_claimed_90 2 rfl rfl ?_
        refine x_iconst (v := 1) o dX7_claimed_91 (by decide) ?_
        refine x_iload o dX7_claimed_92 8 rfl ?_
        obtain ⟨c_5, ec_5, hf⟩ := ob_ex hf
        refine vRX7_95 [.ref (ka k a0), .int x1, .int 1, .int x8] [] o (C_X7_claimsOf o.1.2.2.2.2.2.2.1 o.2 F ec_5) (by decide) rfl rfl (Nat.le_of_ble_eq_true rfl) dX7_claimed_94 ?_
        refine x_istore o dX7_claimed_97 (by decide) [(10, .int c_5), (9, .int c_3), (0, .ref (ka k a0)), (1, .int x1), (2, .int x2), (4, .int x4), (5, .int x5), (6, .int x6), (7, .int x7), (8, .int x8)] rfl ?_
        refine x_iload o dX7_claimed_99 6 rfl ?_
        refine x_iload o dX7_claimed_101 1 rfl ?_
        refine x_if_le o 115 dX7_claimed_103 (by decide) (fun q_7 => ?_) (fun q_7 => ?_)
        · replace hf := (if_pos q_7).symm.trans hf
          refine x_sub [2, 3, 4, 5, 7, 8, 9, 1, 0] [(0, .ref (ka k a0)), (1, .int x1), (2, .int x2), (4, .int x4), (6, .int x6), (7, .int x7), (8, .int x8), (9, .int c_3), (10, .int c_5)] rfl ?_
          exact S_X7_claimed_115 o F (fun q1 q2 => ih q1 q2) hf hr
        · replace hf := (if_neg q_7).symm.trans hf
          refine x_iload o dX7_claimed_106 0 rfl ?_
          refine x_if_le o 115 dX7_claimed_108 (by decide) (fun q_8 => ?_) (fun q_8 => ?_)
          · replace hf := (if_pos q_8).symm.trans hf
            refine x_sub [2, 3, 4, 5, 7, 8, 9, 1, 0] [(0, .ref (ka k a0)), (1, .int x1), (2, .int x2), (4, .int x4), (6, .int x6), (7, .int x7), (8, .int x8), (9, .int c_3), (10, .int c_5)] rfl ?_
            exact S_X7_claimed_115 o F (fun q1 q2 => ih q1 q2) hf hr
          · replace hf := (if_neg q_8).symm.trans hf
            refine x_iconst (v := 1) o dX7_claimed_111 (by decide) ?_
            refine x_goto o 116 dX7_claimed_112 (by decide) ?_
            refine x_sub [2, 3, 4, 5, 7, 8, 9, 1, 0] [(0, .ref (ka k a0)), (1, .int x1), (2, .int x2), (4, .int x4), (6, .int x6), (7, .int x7), (8, .int x8), (9, .int c_3), (10, .int c_5)] rfl ?_
            exact S_X7_claimed_116 o F (fun q1 q2 => ih q1 q2) hf hr
set_option maxRecDepth 100000 in
set_option maxHeartbeats 4000000 in
theorem S_X7_claimed_10 {k : Kst} {d : Kdy} (o : Ok k d cX7_claimed RX7 11 5) (F : Nat) : ∀ (f : Nat) {h : Hp} {a0 : Nat} {x1 : Int32} {x2 : Int32} {x3 : Int32} {x4 : Int32} {x5 : Int32} {r : Int32}, X7_claimed_10 F f a0 x1 x2 x3 x4 x5 h = some r → RI k d cX7_claimed r h → Wz k d h 10 [(0, .ref (ka k a0)), (1, .int x1), (2, .int x2), (3, .int x3), (4, .int x4), (5, .int x5)] [] := by
  intro f
  induction f with
  | zero =>
    intro h a0 x1 x2 x3 x4 x5 r hf hr
    exact nomatch (show (none : Option _) = some _ from hf)
  | succ f ih =>
    intro h a0 x1 x2 x3 x4 x5 r hf hr
    rw [X7_claimed_10] at hf
    refine x_iload o dX7_claimed_10 5 rfl ?_
    refine x_iload_n o dX7_claimed_12 1 rfl rfl ?_
    refine x_icmp_ge o 52 dX7_claimed_13 (by decide) (fun q_1 => ?_) (fun q_1 => ?_)
    · replace hf := (if_pos q_1).symm.trans hf
      refine x_iconst (v := 0) o dX7_claimed_52 (by decide) ?_
      refine x_istore o dX7_claimed_53 (by decide) [(5, .int 0), (0, .ref (ka k a0)), (1, .int x1), (2, .int x2), (3, .int x3), (4, .int x4)] rfl ?_
      refine x_iconst (v := 0) o dX7_claimed_55 (by decide) ?_
      refine x_istore o dX7_claimed_56 (by decide) [(6, .int 0), (5, .int 0), (0, .ref (ka k a0)), (1, .int x1), (2, .int x2), (3, .int x3), (4, .int x4)] rfl ?_
      refine x_iconst (v := 0) o dX7_claimed_58 (by decide) ?_
      refine x_istore o dX7_claimed_59 (by decide) [(7, .int 0), (6, .int 0), (5, .int 0), (0, .ref (ka k a0)), (1, .int x1), (2, .int x2), (3, .int x3), (4, .int x4)] rfl ?_
      refine x_iload_n o dX7_claimed_61 6 rfl rfl ?_
      refine x_istore o dX7_claimed_62 (by decide) [(8, .int x3), (7, .int 0), (6, .int 0), (5, .int 0), (0, .ref (ka k a0)), (1, .int x1), (2, .int x2), (3, .int x3), (4, .int x4)] rfl ?_
      refine x_sub [4, 5, 6, 8, 3, 2, 1, 0] [(0, .ref (ka k a0)), (1, .int x1), (2, .int x2), (4, .int x4), (5, .int 0), (6, .int 0), (7, .int 0), (8, .int x3)] rfl ?_
      exact S_X7_claimed_64 o F _ hf hr
    · replace hf := (if_neg q_1).symm.trans hf
      refine x_iload_n o dX7_claimed_16 3 rfl rfl ?_
      refine x_aload_n o dX7_claimed_17 0 rfl rfl ?_
      refine x_iconst (v := 2) o dX7_claimed_18 (by decide) ?_
      refine x_iload o dX7_claimed_19 5 rfl ?_
      refine x_imul o dX7_claimed_21 ?_
      obtain ⟨k_2, hf⟩ := gq_ex hf
      obtain ⟨c_3, ec_3, hf⟩ := ob_ex hf
      refine vRX7_43 [.int (2 * x5)] [.int x3] o (C_X9_at o.1.2.2.2.2.2.2.1 o.2 F ec_3) (by decide) k_2 rfl rfl (Nat.le_of_ble_eq_true rfl) dX7_claimed_22 ?_
      refine x_mmin o wRX7_46 (by decide) (Nat.le_of_ble_eq_true rfl) dX7_claimed_25 ?_
      obtain ⟨x3_5, ex3_5, hf⟩ := bd_ex hf
      refine x_top ex3_5 ?_
      refine x_istore_n o dX7_claimed_28 (by decide) rfl [(3, .int x3_5), (0, .ref (ka k a0)), (1, .int x1), (2, .int x2), (4, .int x4), (5, .int x5)] rfl ?_
      refine x_iload o dX7_claimed_29 4 rfl ?_
      refine x_aload_n o dX7_claimed_31 1 rfl rfl ?_
      refine x_iconst (v := 2) o dX7_claimed_32 (by decide) ?_
      refine x_iload o dX7_claimed_33 5 rfl ?_
      refine x_imul o dX7_claimed_35 ?_
      refine x_iconst (v := 1) o dX7_claimed_36 (by decide) ?_
      refine x_iadd o dX7_claimed_37 ?_
      obtain ⟨c_6, ec_6, hf⟩ := ob_ex hf
      refine vRX7_43 [.int ((2 * x5) + 1)] [.int x4] o (C_X9_at o.1.2.2.2.2.2.2.1 o.2 F ec_6) (by decide) k_2 rfl rfl (Nat.le_of_ble_eq_true rfl) dX7_claimed_38 ?_
      refine x_mmax o wRX7_83 (by decide) (Nat.le_of_ble_eq_true rfl) dX7_claimed_41 ?_
      obtain ⟨x4_8, ex4_8, hf⟩ := bd_ex hf
      refine x_top ex4_8 ?_
      refine x_istore o dX7_claimed_44 (by decide) [(4, .int x4_8), (3, .int x3_5), (0, .ref (ka k a0)), (1, .int x1), (2, .int x2), (5, .int x5)] rfl ?_
      obtain ⟨x5_9, ex5_9, hf⟩ := bd_ex hf
      refine x_iinc o dX7_claimed_46 (by decide) 5 rfl ex5_9.symm [(5, .int x5_9), (4, .int x4_8), (3, .int x3_5), (0, .ref (ka k a0)), (1, .int x1), (2, .int x2)] rfl ?_
      refine x_goto o 10 dX7_claimed_49 (by decide) ?_
      refine x_sub [3, 4, 5, 2, 1, 0] [(0, .ref (ka k a0)), (1, .int x1), (2, .int x2), (3, .int x3_5), (4, .int x4_8), (5, .int x5_9)] rfl ?_
      exact ih hf hr
set_option maxRecDepth 100000 in
set_option maxHeartbeats 4000000 in
theorem S_X7_claimed_0 {k : Kst} {d : Kdy} (o : Ok k d cX7_claimed RX7 11 5) (F : Nat) {h : Hp} {a0 : Nat} {x1 : Int32} {x2 : Int32} {r : Int32} (hf : X7_claimed F a0 x1 x2 h = some r) (hr : RI k d cX7_claimed r h) : Wz k d h 0 [(0, .ref (ka k a0)), (1, .int x1), (2, .int x2)] [] := by
  unfold X7_claimed at hf
  refine x_sipush (v := 255) o dX7_claimed_0 (by decide) ?_
  refine x_istore_n o dX7_claimed_3 (by decide) rfl [(3, .int 255), (0, .ref (ka k a0)), (1, .int x1), (2, .int x2)] rfl ?_
  refine x_iconst (v := 0) o dX7_claimed_4 (by decide) ?_
  refine x_istore o dX7_claimed_5 (by decide) [(4, .int 0), (3, .int 255), (0, .ref (ka k a0)), (1, .int x1), (2, .int x2)] rfl ?_
  refine x_iconst (v := 0) o dX7_claimed_7 (by decide) ?_
  refine x_istore o dX7_claimed_8 (by decide) [(5, .int 0), (4, .int 0), (3, .int 255), (0, .ref (ka k a0)), (1, .int x1), (2, .int x2)] rfl ?_
  refine x_sub [3, 4, 5, 2, 1, 0] [(0, .ref (ka k a0)), (1, .int x1), (2, .int x2), (3, .int 255), (4, .int 0), (5, .int 0)] rfl ?_
  exact S_X7_claimed_10 o F _ hf hr
theorem C_X7_claimed {k : Kst} (hj : Dj k) (hn : kn k = kdl.length) (F : Nat) {h : Hp} {a0 : Nat} {x1 : Int32} {x2 : Int32} {r : Int32} (hf : X7_claimed F a0 x1 x2 h = some r) : MI k 5 yX7_claimed cX7_claimed 11 (some .int) [.ref (ka k a0), .int x1, .int x2] h r h := mI hj hn (by decide +kernel) (Nat.le_of_ble_eq_true rfl) (fun d o hr => S_X7_claimed_0 o F hf hr)
set_option maxRecDepth 100000 in
set_option maxHeartbeats 4000000 in
theorem S_X7_sortMinutes_71 {k : Kst} {d : Kdy} (o : Ok k d cX7_sortMinutes RX7 7 4) (F : Nat) {k2 : Nat → Nat → Int32 → Int32 → Hp → Option Hp} (hk2 : ∀ {h : Hp} {a0 : Nat} {a1 : Nat} {x2 : Int32} {x3 : Int32} {h1 : Hp}, k2 a0 a1 x2 x3 h = some h1 → RV k d cX7_sortMinutes h1 → Wz k d h 2 [(0, .ref (ka k a0)), (1, .ref (ka k a1)), (2, .int x2), (3, .int x3)] []) {h : Hp} {a0 : Nat} {a1 : Nat} {x2 : Int32} {x3 : Int32} {x4 : Int32} {x5 : Int32} {h1 : Hp} (hf : X7_sortMinutes_71 F k2 a0 a1 x2 x3 x4 x5 h = some h1) (hr : RV k d cX7_sortMinutes h1) : Wz k d h 71 [(0, .ref (ka k a0)), (1, .ref (ka k a1)), (2, .int x2), (3, .int x3), (4, .int x4), (5, .int x5)] [] := by
  unfold X7_sortMinutes_71 at hf
  refine x_aload_n o dX7_sortMinutes_71 0 rfl rfl ?_
  obtain ⟨k_1, hf⟩ := gq_ex hf
  obtain ⟨j_2, ej_2, hf⟩ := ob_ex hf
  refine gRX7_18 o k_1 ej_2 dX7_sortMinutes_72 ?_
  refine x_iload o dX7_sortMinutes_75 5 rfl ?_
  refine x_iload o dX7_sortMinutes_77 4 rfl ?_
  obtain ⟨h_4, eh_4, hf⟩ := ob_ex hf
  refine vRX7_67 [.ref (ka k j_2), .int x5, .int x4] [] o (C_X11_put o.1.2.2.2.2.2.2.1 o.2 F eh_4) (by decide) rfl rfl (Nat.le_of_ble_eq_true rfl) dX7_sortMinutes_79 ?_
  obtain ⟨x3_5, ex3_5, hf⟩ := bd_ex hf
  refine x_iinc o dX7_sortMinutes_82 (by decide) 3 rfl ex3_5.symm [(3, .int x3_5), (0, .ref (ka k a0)), (1, .ref (ka k a1)), (2, .int x2), (4, .int x4), (5, .int x5)] rfl ?_
  refine x_goto o 2 dX7_sortMinutes_85 (by decide) ?_
  refine x_sub [1, 2, 3, 0] [(0, .ref (ka k a0)), (1, .ref (ka k a1)), (2, .int x2), (3, .int x3_5)] rfl ?_
  exact hk2 hf hr
set_option maxRecDepth 100000 in
set_option maxHeartbeats 4000000 in
theorem S_X7_sortMinutes_22 {k : Kst} {d : Kdy} (o : Ok k d cX7_sortMinutes RX7 7 4) (F : Nat) {k2 : Nat → Nat → Int32 → Int32 → Hp → Option Hp} (hk2 : ∀ {h : Hp} {a0 : Nat} {a1 : Nat} {x2 : Int32} {x3 : Int32} {h1 : Hp}, k2 a0 a1 x2 x3 h = some h1 → RV k d cX7_sortMinutes h1 → Wz k d h 2 [(0, .ref (ka k a0)), (1, .ref (ka k a1)), (2, .int x2), (3, .int x3)] []) : ∀ (f : Nat) {h : Hp} {a0 : Nat} {a1 : Nat} {x2 : Int32} {x3 : Int32} {x4 : Int32} {x5 : Int32} {x6 : Int32} {h1 : Hp}, X7_sortMinutes_22 F k2 f a0 a1 x2 x3 x4 x5 x6 h = some h1 → RV k d cX7_sortMinutes h1 → Wz k d h 22 [(0, .ref (ka k a0)), (1, .ref (ka k a1)), (2, .int x2), (3, .int x3), (4, .int x4), (5, .int x5), (6, .int x6)] [] := by
  intro f
  induction f with
  | zero =>
    intro h a0 a1 x2 x3 x4 x5 x6 h1 hf hr
    exact nomatch (show (none : Option _) = some _ from hf)
  | succ f ih =>
    intro h a0 a1 x2 x3 x4 x5 x6 h1 hf hr
    rw [X7_sortMinutes_22] at hf
    refine x_iload o dX7_sortMinutes_22 6 rfl ?_
    refine x_if_lt o 71 dX7_sortMinutes_24 (by decide) (fun q_1 => ?_) (fun q_1 => ?_)
    · replace hf := (if_pos q_1).symm.trans hf
      refine x_sub [0, 1, 2, 3, 4, 5] [(0, .ref (ka k a0)), (1, .ref (ka k a1)), (2, .int x2), (3, .int x3), (4, .int x4), (5, .int x5)] rfl ?_
      exact S_X7_sortMinutes_71 o F hk2 hf hr
    · replace hf := (if_neg q_1).symm.trans hf
      refine x_aload_n o dX7_sortMinutes_27 0 rfl rfl ?_
      obtain ⟨k_2, hf⟩ := gq_ex hf
      obtain ⟨j_3, ej_3, hf⟩ := ob_ex hf
      refine gRX7_18 o k_2 ej_3 dX7_sortMinutes_28 ?_
      refine x_iload o dX7_sortMinutes_31 6 rfl ?_
      obtain ⟨c_4, ec_4, hf⟩ := ob_ex hf
      refine vRX7_71 [.ref (ka k j_3), .int x6] [] o (C_X11_get o.1.2.2.2.2.2.2.1 o.2 F ec_4) (by decide) rfl rfl (Nat.le_of_ble_eq_true rfl) dX7_sortMinutes_33 ?_
      refine x_iload o dX7_sortMinutes_36 4 rfl ?_
      refine x_icmp_le o 71 dX7_sortMinutes_38 (by decide) (fun q_6 => ?_) (fun q_6 => ?_)
      · replace hf := (if_pos q_6).symm.trans hf
        refine x_sub [0, 1, 2, 3, 4, 5] [(0, .ref (ka k a0)), (1, .ref (ka k a1)), (2, .int x2), (3, .int x3), (4, .int x4), (5, .int x5)] rfl ?_
        exact S_X7_sortMinutes_71 o F hk2 hf hr
      · replace hf := (if_neg q_6).symm.trans hf
        refine x_aload_n o dX7_sortMinutes_41 0 rfl rfl ?_
        refine gRX7_18 o k_2 ej_3 dX7_sortMinutes_42 ?_
        refine x_iload o dX7_sortMinutes_45 6 rfl ?_
        refine x_iconst (v := 1) o dX7_sortMinutes_47 (by decide) ?_
        refine x_iadd o dX7_sortMinutes_48 ?_
        refine x_aload_n o dX7_sortMinutes_49 0 rfl rfl ?_
        refine gRX7_18 o k_2 ej_3 dX7_sortMinutes_50 ?_
        refine x_iload o dX7_sortMinutes_53 6 rfl ?_
        obtain ⟨c_7, ec_7, hf⟩ := ob_ex hf
        refine vRX7_71 [.ref (ka k j_3), .int x6] [.int (x6 + 1), .ref (ka k j_3)] o (C_X11_get o.1.2.2.2.2.2.2.1 o.2 F ec_7) (by decide) rfl rfl (Nat.le_of_ble_eq_true rfl) dX7_sortMinutes_55 ?_
        obtain ⟨h_10, eh_10, hf⟩ := ob_ex hf
        refine vRX7_67 [.ref (ka k j_3), .int (x6 + 1), .int c_7] [] o (C_X11_put o.1.2.2.2.2.2.2.1 o.2 F eh_10) (by decide) rfl rfl (Nat.le_of_ble_eq_true rfl) dX7_sortMinutes_58 ?_
        refine x_iload o dX7_sortMinutes_61 6 rfl ?_
        refine x_istore o dX7_sortMinutes_63 (by decide) [(5, .int x6), (0, .ref (ka k a0)), (1, .ref (ka k a1)), (2, .int x2), (3, .int x3), (4, .int x4), (6, .int x6)] rfl ?_
        obtain ⟨x6_11, ex6_11, hf⟩ := bd_ex hf
        refine x_iinc o dX7_sortMinutes_65 (by decide) 6 rfl ex6_11.symm [(6, .int x6_11), (5, .int x6), (0, .ref (ka k a0)), (1, .ref (ka k a1)), (2, .int x2), (3, .int x3), (4, .int x4)] rfl ?_
        refine x_goto o 22 dX7_sortMinutes_68 (by decide) ?_
        refine x_sub [2, 3, 4, 5, 6, 1, 0] [(0, .ref (ka k a0)), (1, .ref (ka k a1)), (2, .int x2), (3, .int x3), (4, .int x4), (5, .int x6), (6, .int x6_11)] rfl ?_
        exact ih hf hr
set_option maxRecDepth 100000 in
set_option maxHeartbeats 4000000 in
theorem S_X7_sortMinutes_2 {k : Kst} {d : Kdy} (o : Ok k d cX7_sortMinutes RX7 7 4) (F : Nat) : ∀ (f : Nat) {h : Hp} {a0 : Nat} {a1 : Nat} {x2 : Int32} {x3 : Int32} {h1 : Hp}, X7_sortMinutes_2 F f a0 a1 x2 x3 h = some h1 → RV k d cX7_sortMinutes h1 → Wz k d h 2 [(0, .ref (ka k a0)), (1, .ref (ka k a1)), (2, .int x2), (3, .int x3)] [] := by
  intro f
  induction f with
  | zero =>
    intro h a0 a1 x2 x3 h1 hf hr
    exact nomatch (show (none : Option _) = some _ from hf)
  | succ f ih =>
    intro h a0 a1 x2 x3 h1 hf hr
    rw [X7_sortMinutes_2] at hf
    refine x_iload_n o dX7_sortMinutes_2 3 rfl rfl ?_
    refine x_iload_n o dX7_sortMinutes_3 2 rfl rfl ?_
    refine x_icmp_ge o 88 dX7_sortMinutes_4 (by decide) (fun q_1 => ?_) (fun q_1 => ?_)
    · replace hf := (if_pos q_1).symm.trans hf
      cases hf
      exact hr _ _ dX7_sortMinutes_88
    · replace hf := (if_neg q_1).symm.trans hf
      refine x_aload_n o dX7_sortMinutes_7 1 rfl rfl ?_
      refine x_iload_n o dX7_sortMinutes_8 3 rfl rfl ?_
      obtain ⟨k_2, hf⟩ := gq_ex hf
      obtain ⟨c_3, ec_3, hf⟩ := ob_ex hf
      refine vRX7_43 [.int x3] [] o (C_X9_at o.1.2.2.2.2.2.2.1 o.2 F ec_3) (by decide) k_2 rfl rfl (Nat.le_of_ble_eq_true rfl) dX7_sortMinutes_9 ?_
      refine x_istore o dX7_sortMinutes_12 (by decide) [(4, .int c_3), (0, .ref (ka k a0)), (1, .ref (ka k a1)), (2, .int x2), (3, .int x3)] rfl ?_
      refine x_iload_n o dX7_sortMinutes_14 4 rfl rfl ?_
      refine x_istore o dX7_sortMinutes_15 (by decide) [(5, .int x3), (4, .int c_3), (0, .ref (ka k a0)), (1, .ref (ka k a1)), (2, .int x2), (3, .int x3)] rfl ?_
      refine x_iload_n o dX7_sortMinutes_17 5 rfl rfl ?_
      refine x_iconst (v := 1) o dX7_sortMinutes_18 (by decide) ?_
      refine x_isub o dX7_sortMinutes_19 ?_
      obtain ⟨x6_5, ex6_5, hf⟩ := bd_ex hf
      refine x_top ex6_5 ?_
      refine x_istore o dX7_sortMinutes_20 (by decide) [(6, .int x6_5), (5, .int x3), (4, .int c_3), (0, .ref (ka k a0)), (1, .ref (ka k a1)), (2, .int x2), (3, .int x3)] rfl ?_
      refine x_sub [3, 4, 5, 6, 2, 1, 0] [(0, .ref (ka k a0)), (1, .ref (ka k a1)), (2, .int x2), (3, .int x3), (4, .int c_3), (5, .int x3), (6, .int x6_5)] rfl ?_
      exact S_X7_sortMinutes_22 o F (fun q1 q2 => ih q1 q2) _ hf hr
set_option maxRecDepth 100000 in
set_option maxHeartbeats 4000000 in
theorem S_X7_sortMinutes_0 {k : Kst} {d : Kdy} (o : Ok k d cX7_sortMinutes RX7 7 4) (F : Nat) {h : Hp} {a0 : Nat} {a1 : Nat} {x2 : Int32} {h1 : Hp} (hf : X7_sortMinutes F a0 a1 x2 h = some h1) (hr : RV k d cX7_sortMinutes h1) : Wz k d h 0 [(0, .ref (ka k a0)), (1, .ref (ka k a1)), (2, .int x2)] [] := by
  unfold X7_sortMinutes at hf
  refine x_iconst (v := 0) o dX7_sortMinutes_0 (by decide) ?_
  refine x_istore_n o dX7_sortMinutes_1 (by decide) rfl [(3, .int 0), (0, .ref (ka k a0)), (1, .ref (ka k a1)), (2, .int x2)] rfl ?_
  refine x_sub [1, 2, 3, 0] [(0, .ref (ka k a0)), (1, .ref (ka k a1)), (2, .int x2), (3, .int 0)] rfl ?_
  exact S_X7_sortMinutes_2 o F _ hf hr
theorem C_X7_sortMinutes {k : Kst} (hj : Dj k) (hn : kn k = kdl.length) (F : Nat) {h : Hp} {a0 : Nat} {a1 : Nat} {x2 : Int32} {h1 : Hp} (hf : X7_sortMinutes F a0 a1 x2 h = some h1) : MV k 4 yX7_sortMinutes cX7_sortMinutes 7 [.ref (ka k a0), .ref (ka k a1), .int x2] h h1 := mV hj hn (by decide +kernel) (Nat.le_of_ble_eq_true rfl) (fun d o hr => S_X7_sortMinutes_0 o F hf hr)
set_option maxRecDepth 100000 in
set_option maxHeartbeats 4000000 in
theorem S_X7_leastMinutes_145 {k : Kst} {d : Kdy} (o : Ok k d cX7_leastMinutes RX7 10 5) (F : Nat) {h : Hp} {s0 : Int32} {s1 : Int32} {r : Int32} {h1 : Hp} (hf : X7_leastMinutes_145 F s0 s1 h = some (r, h1)) (hr : RI k d cX7_leastMinutes r h1) : Wz k d h 145 [] [.int s1, .int s0] := by
  unfold X7_leastMinutes_145 at hf
  refine x_iadd o dX7_leastMinutes_145 ?_
  cases hf
  exact hr _ _ dX7_leastMinutes_146
set_option maxRecDepth 100000 in
set_option maxHeartbeats 4000000 in
theorem S_X7_leastMinutes_108 {k : Kst} {d : Kdy} (o : Ok k d cX7_leastMinutes RX7 10 5) (F : Nat) {h : Hp} {a0 : Nat} {x3 : Int32} {x4 : Int32} {x5 : Int32} {x6 : Int32} {r : Int32} {h1 : Hp} (hf : X7_leastMinutes_108 F a0 x3 x4 x5 x6 h = some (r, h1)) (hr : RI k d cX7_leastMinutes r h1) : Wz k d h 108 [(0, .ref (ka k a0)), (3, .int x3), (4, .int x4), (5, .int x5), (6, .int x6)] [] := by
  unfold X7_leastMinutes_108 at hf
  refine x_iload o dX7_leastMinutes_108 4 rfl ?_
  refine x_iconst (v := 3) o dX7_leastMinutes_110 (by decide) ?_
  refine x_icmp_ne o 131 dX7_leastMinutes_111 (by decide) (fun q_1 => ?_) (fun q_1 => ?_)
  · replace hf := (if_neg q_1).symm.trans hf
    refine x_iload o dX7_leastMinutes_131 3 rfl ?_
    refine x_iload o dX7_leastMinutes_133 4 rfl ?_
    refine x_iconst (v := 2) o dX7_leastMinutes_135 (by decide) ?_
    refine x_icmp_ne o 144 dX7_leastMinutes_136 (by decide) (fun q_2 => ?_) (fun q_2 => ?_)
    · replace hf := (if_neg q_2).symm.trans hf
      refine x_iload_n o dX7_leastMinutes_144 1 rfl rfl ?_
      refine x_sub [] [] rfl ?_
      exact S_X7_leastMinutes_145 o F hf hr
    · replace hf := (if_pos q_2).symm.trans hf
      refine x_iload o dX7_leastMinutes_139 2 rfl ?_
      refine x_goto o 145 dX7_leastMinutes_141 (by decide) ?_
      refine x_sub [] [] rfl ?_
      exact S_X7_leastMinutes_145 o F hf hr
  · replace hf := (if_pos q_1).symm.trans hf
    refine x_iload o dX7_leastMinutes_114 3 rfl ?_
    refine x_iload_n o dX7_leastMinutes_116 1 rfl rfl ?_
    refine x_iadd o dX7_leastMinutes_117 ?_
    refine x_iload o dX7_leastMinutes_118 2 rfl ?_
    refine x_iadd o dX7_leastMinutes_120 ?_
    refine x_aload_n o dX7_leastMinutes_121 0 rfl rfl ?_
    obtain ⟨k_3, hf⟩ := gq_ex hf
    obtain ⟨j_4, ej_4, hf⟩ := ob_ex hf
    refine gRX7_18 o k_3 ej_4 dX7_leastMinutes_122 ?_
    refine x_iconst (v := 2) o dX7_leastMinutes_125 (by decide) ?_
    obtain ⟨c_5, ec_5, hf⟩ := ob_ex hf
    refine vRX7_71 [.ref (ka k j_4), .int 2] [.int ((x5 + x3) + x4)] o (C_X11_get o.1.2.2.2.2.2.2.1 o.2 F ec_5) (by decide) rfl rfl (Nat.le_of_ble_eq_true rfl) dX7_leastMinutes_126 ?_
    refine x_iadd o dX7_leastMinutes_129 ?_
    cases hf
    exact hr _ _ dX7_leastMinutes_130
set_option maxRecDepth 100000 in
set_option maxHeartbeats 4000000 in
theorem S_X7_leastMinutes_34 {k : Kst} {d : Kdy} (o : Ok k d cX7_leastMinutes RX7 10 5) (F : Nat) : ∀ (f : Nat) {h : Hp} {a0 : Nat} {x3 : Int32} {x4 : Int32} {x5 : Int32} {x6 : Int32} {x7 : Int32} {r : Int32} {h1 : Hp}, X7_leastMinutes_34 F f a0 x3 x4 x5 x6 x7 h = some (r, h1) → RI k d cX7_leastMinutes r h1 → Wz k d h 34 [(0, .ref (ka k a0)), (3, .int x3), (4, .int x4), (5, .int x5), (6, .int x6), (7, .int x7)] [] := by
  intro f
  induction f with
  | zero =>
    intro h a0 x3 x4 x5 x6 x7 r h1 hf hr
    exact nomatch (show (none : Option _) = some _ from hf)
  | succ f ih =>
    intro h a0 x3 x4 x5 x6 x7 r h1 hf hr
    rw [X7_leastMinutes_34] at hf
    refine x_iload o dX7_leastMinutes_34 5 rfl ?_
    refine x_bipush (v := 10) o dX7_leastMinutes_36 (by decide) ?_
    refine x_icmp_ge o 108 dX7_leastMinutes_38 (by decide) (fun q_1 => ?_) (fun q_1 => ?_)
    · replace hf := (if_pos q_1).symm.trans hf
      refine x_sub [0, 1, 2, 3, 4] [(0, .ref (ka k a0)), (3, .int x3), (4, .int x4), (5, .int x5), (6, .int x6)] rfl ?_
      exact S_X7_leastMinutes_108 o F hf hr
    · replace hf := (if_neg q_1).symm.trans hf
      refine x_iload o dX7_leastMinutes_41 4 rfl ?_
      refine x_iconst (v := 3) o dX7_leastMinutes_43 (by decide) ?_
      refine x_icmp_le o 108 dX7_leastMinutes_44 (by decide) (fun q_2 => ?_) (fun q_2 => ?_)
      · replace hf := (if_pos q_2).symm.trans hf
        refine x_sub [0, 1, 2, 3, 4] [(0, .ref (ka k a0)), (3, .int x3), (4, .int x4), (5, .int x5), (6, .int x6)] rfl ?_
        exact S_X7_leastMinutes_108 o F hf hr
      · replace hf := (if_neg q_2).symm.trans hf
        refine x_aload_n o dX7_leastMinutes_47 0 rfl rfl ?_
        obtain ⟨k_3, hf⟩ := gq_ex hf
        obtain ⟨j_4, ej_4, hf⟩ := ob_ex hf
        refine gRX7_18 o k_3 ej_4 dX7_leastMinutes_48 ?_
        refine x_iload o dX7_leastMinutes_51 4 rfl ?_
        refine x_iconst (v := 1) o dX7_leastMinutes_53 (by decide) ?_
        refine x_isub o dX7_leastMinutes_54 ?_
        obtain ⟨c_5, ec_5, hf⟩ := ob_ex hf
        refine vRX7_71 [.ref (ka k j_4), .int (x6 - 1)] [] o (C_X11_get o.1.2.2.2.2.2.2.1 o.2 F ec_5) (by decide) rfl rfl (Nat.le_of_ble_eq_true rfl) dX7_leastMinutes_55 ?_
        refine x_istore o dX7_leastMinutes_58 (by decide) [(8, .int c_5), (0, .ref (ka k a0)), (3, .int x3), (4, .int x4), (5, .int x5), (6, .int x6), (7, .int x7)] rfl ?_
        refine x_aload_n o dX7_leastMinutes_60 1 rfl rfl ?_
        refine gRX7_18 o k_3 ej_4 dX7_leastMinutes_61 ?_
        refine x_iload o dX7_leastMinutes_64 5 rfl ?_
        refine x_iconst (v := 2) o dX7_leastMinutes_66 (by decide) ?_
        refine x_isub o dX7_leastMinutes_67 ?_
        obtain ⟨c_7, ec_7, hf⟩ := ob_ex hf
        refine vRX7_71 [.ref (ka k j_4), .int (x6 - 2)] [] o (C_X11_get o.1.2.2.2.2.2.2.1 o.2 F ec_7) (by decide) rfl rfl (Nat.le_of_ble_eq_true rfl) dX7_leastMinutes_68 ?_
        refine x_istore o dX7_leastMinutes_71 (by decide) [(9, .int c_7), (8, .int c_5), (0, .ref (ka k a0)), (3, .int x3), (4, .int x4), (5, .int x5), (6, .int x6), (7, .int x7)] rfl ?_
        refine x_iload o dX7_leastMinutes_73 5 rfl ?_
        refine x_iload_n o dX7_leastMinutes_75 3 rfl rfl ?_
        refine x_iconst (v := 2) o dX7_leastMinutes_76 (by decide) ?_
        refine x_iload o dX7_leastMinutes_77 4 rfl ?_
        refine x_imul o dX7_leastMinutes_79 ?_
        refine x_iadd o dX7_leastMinutes_80 ?_
        refine x_iload o dX7_leastMinutes_81 1 rfl ?_
        refine x_iadd o dX7_leastMinutes_83 ?_
        refine x_iconst (v := 2) o dX7_leastMinutes_84 (by decide) ?_
        refine x_iload_n o dX7_leastMinutes_85 3 rfl rfl ?_
        refine x_imul o dX7_leastMinutes_86 ?_
        refine x_iload o dX7_leastMinutes_87 0 rfl ?_
        refine x_iadd o dX7_leastMinutes_89 ?_
        refine x_iload o dX7_leastMinutes_90 1 rfl ?_
        refine x_iadd o dX7_leastMinutes_92 ?_
        refine x_mmin o wRX7_46 (by decide) (Nat.le_of_ble_eq_true rfl) dX7_leastMinutes_93 ?_
        refine x_iadd o dX7_leastMinutes_96 ?_
        obtain ⟨x5_9, ex5_9, hf⟩ := bd_ex hf
        refine x_top ex5_9 ?_
        refine x_istore o dX7_leastMinutes_97 (by decide) [(5, .int x5_9), (9, .int c_7), (8, .int c_5), (0, .ref (ka k a0)), (3, .int x3), (4, .int x4), (6, .int x6), (7, .int x7)] rfl ?_
        obtain ⟨x6_10, ex6_10, hf⟩ := bd_ex hf
        refine x_iinc o dX7_leastMinutes_99 (by decide) 6 rfl ex6_10.symm [(6, .int x6_10), (5, .int x5_9), (9, .int c_7), (8, .int c_5), (0, .ref (ka k a0)), (3, .int x3), (4, .int x4), (7, .int x7)] rfl ?_
        obtain ⟨x7_11, ex7_11, hf⟩ := bd_ex hf
        refine x_iinc o dX7_leastMinutes_102 (by decide) 7 rfl ex7_11.symm [(7, .int x7_11), (6, .int x6_10), (5, .int x5_9), (9, .int c_7), (8, .int c_5), (0, .ref (ka k a0)), (3, .int x3), (4, .int x4)] rfl ?_
        refine x_goto o 34 dX7_leastMinutes_105 (by decide) ?_
        refine x_sub [5, 6, 7, 2, 1, 0] [(0, .ref (ka k a0)), (3, .int x3), (4, .int x4), (5, .int x5_9), (6, .int x6_10), (7, .int x7_11)] rfl ?_
        exact ih hf hr
set_option maxRecDepth 100000 in
set_option maxHeartbeats 4000000 in
theorem S_X7_leastMinutes_0 {k : Kst} {d : Kdy} (o : Ok k d cX7_leastMinutes RX7 10 5) (F : Nat) {h : Hp} {a0 : Nat} {a1 : Nat} {x2 : Int32} {r : Int32} {h1 : Hp} (hf : X7_leastMinutes F a0 a1 x2 h = some (r, h1)) (hr : RI k d cX7_leastMinutes r h1) : Wz k d h 0 [(0, .ref (ka k a0)), (1, .ref (ka k a1)), (2, .int x2)] [] := by
  unfold X7_leastMinutes at hf
  refine x_aload_n o dX7_leastMinutes_0 0 rfl rfl ?_
  refine x_aload_n o dX7_leastMinutes_1 1 rfl rfl ?_
  refine x_iload_n o dX7_leastMinutes_2 2 rfl rfl ?_
  obtain ⟨k_1, hf⟩ := gq_ex hf
  obtain ⟨h_3, eh_3, hf⟩ := ob_ex hf
  refine vRX7_98 [.ref (ka k a1), .int x2] [] o (C_X7_sortMinutes o.1.2.2.2.2.2.2.1 o.2 F eh_3) (by decide) k_1 rfl rfl (Nat.le_of_ble_eq_true rfl) dX7_leastMinutes_3 ?_
  refine x_aload_n o dX7_leastMinutes_6 0 rfl rfl ?_
  obtain ⟨j_4, ej_4, hf⟩ := ob_ex hf
  refine gRX7_18 o k_1 ej_4 dX7_leastMinutes_7 ?_
  refine x_iconst (v := 0) o dX7_leastMinutes_10 (by decide) ?_
  obtain ⟨c_5, ec_5, hf⟩ := ob_ex hf
  refine vRX7_71 [.ref (ka k j_4), .int 0] [] o (C_X11_get o.1.2.2.2.2.2.2.1 o.2 F ec_5) (by decide) rfl rfl (Nat.le_of_ble_eq_true rfl) dX7_leastMinutes_11 ?_
  refine x_istore_n o dX7_leastMinutes_14 (by decide) rfl [(3, .int c_5), (0, .ref (ka k a0)), (1, .ref (ka k a1)), (2, .int x2)] rfl ?_
  refine x_aload_n o dX7_leastMinutes_15 1 rfl rfl ?_
  refine gRX7_18 o k_1 ej_4 dX7_leastMinutes_16 ?_
  refine x_iconst (v := 1) o dX7_leastMinutes_19 (by decide) ?_
  obtain ⟨c_7, ec_7, hf⟩ := ob_ex hf
  refine vRX7_71 [.ref (ka k j_4), .int 1] [] o (C_X11_get o.1.2.2.2.2.2.2.1 o.2 F ec_7) (by decide) rfl rfl (Nat.le_of_ble_eq_true rfl) dX7_leastMinutes_20 ?_
  refine x_istore o dX7_leastMinutes_23 (by decide) [(4, .int c_7), (3, .int c_5), (0, .ref (ka k a0)), (1, .ref (ka k a1)), (2, .int x2)] rfl ?_
  refine x_iconst (v := 0) o dX7_leastMinutes_25 (by decide) ?_
  refine x_istore o dX7_leastMinutes_26 (by decide) [(5, .int 0), (4, .int c_7), (3, .int c_5), (0, .ref (ka k a0)), (1, .ref (ka k a1)), (2, .int x2)] rfl ?_
  refine x_iload_n o dX7_leastMinutes_28 5 rfl rfl ?_
  refine x_istore o dX7_leastMinutes_29 (by decide) [(6, .int x2), (5, .int 0), (4, .int c_7), (3, .int c_5), (0, .ref (ka k a0)), (1, .ref (ka k a1)), (2, .int x2)] rfl ?_
  refine x_iconst (v := 0) o dX7_leastMinutes_31 (by decide) ?_
  refine x_istore o dX7_leastMinutes_32 (by decide) [(7, .int 0), (6, .int x2), (5, .int 0), (4, .int c_7), (3, .int c_5), (0, .ref (ka k a0)), (1, .ref (ka k a1)), (2, .int x2)] rfl ?_
  refine x_sub [5, 4, 3, 2, 1, 0] [(0, .ref (ka k a0)), (3, .int c_5), (4, .int c_7), (5, .int 0), (6, .int x2), (7, .int 0)] rfl ?_
  exact S_X7_leastMinutes_34 o F _ hf hr
theorem C_X7_leastMinutes {k : Kst} (hj : Dj k) (hn : kn k = kdl.length) (F : Nat) {h : Hp} {a0 : Nat} {a1 : Nat} {x2 : Int32} {r : Int32} {h1 : Hp} (hf : X7_leastMinutes F a0 a1 x2 h = some (r, h1)) : MI k 5 yX7_leastMinutes cX7_leastMinutes 10 (some .int) [.ref (ka k a0), .ref (ka k a1), .int x2] h r h1 := mI hj hn (by decide +kernel) (Nat.le_of_ble_eq_true rfl) (fun d o hr => S_X7_leastMinutes_0 o F hf hr)
set_option maxRecDepth 100000 in
set_option maxHeartbeats 4000000 in
theorem S_X7_likes_38 {k : Kst} {d : Kdy} (o : Ok k d cX7_likes RX7 7 4) (F : Nat) {h : Hp} {x3 : Int32} {x6 : Int32} {r : Int32} (hf : X7_likes_38 F x3 x6 h = some r) (hr : RZ k d cX7_likes r h) : Wz k d h 38 [(3, .int x3), (6, .int x6)] [] := by
  unfold X7_likes_38 at hf
  refine x_iload o dX7_likes_38 1 rfl ?_
  refine x_iload_n o dX7_likes_40 0 rfl rfl ?_
  refine x_icmp_ne o 48 dX7_likes_41 (by decide) (fun q_1 => ?_) (fun q_1 => ?_)
  · replace hf := (if_neg q_1).symm.trans hf
    refine x_iconst (v := 0) o dX7_likes_48 (by decide) ?_
    cases hf
    exact hr (Or.inl rfl) _ _ dX7_likes_49
  · replace hf := (if_pos q_1).symm.trans hf
    refine x_iconst (v := 1) o dX7_likes_44 (by decide) ?_
    refine x_goto o 49 dX7_likes_45 (by decide) ?_
    cases hf
    exact hr (Or.inr rfl) _ _ dX7_likes_49
set_option maxRecDepth 100000 in
set_option maxHeartbeats 4000000 in
theorem S_X7_likes_3 {k : Kst} {d : Kdy} (o : Ok k d cX7_likes RX7 7 4) (F : Nat) : ∀ (f : Nat) {h : Hp} {a0 : Nat} {x1 : Int32} {x2 : Int32} {x3 : Int32} {x4 : Int32} {x5 : Int32} {r : Int32}, X7_likes_3 F f a0 x1 x2 x3 x4 x5 h = some r → RZ k d cX7_likes r h → Wz k d h 3 [(0, .ref (ka k a0)), (1, .int x1), (2, .int x2), (3, .int x3), (4, .int x4), (5, .int x5)] [] := by
  intro f
  induction f with
  | zero =>
    intro h a0 x1 x2 x3 x4 x5 r hf hr
    exact nomatch (show (none : Option _) = some _ from hf)
  | succ f ih =>
    intro h a0 x1 x2 x3 x4 x5 r hf hr
    rw [X7_likes_3] at hf
    refine x_iload o dX7_likes_3 5 rfl ?_
    refine x_iload_n o dX7_likes_5 1 rfl rfl ?_
    refine x_icmp_ge o 56 dX7_likes_6 (by decide) (fun q_1 => ?_) (fun q_1 => ?_)
    · replace hf := (if_pos q_1).symm.trans hf
      refine x_iconst (v := 0) o dX7_likes_56 (by decide) ?_
      cases hf
      exact hr (Or.inl rfl) _ _ dX7_likes_57
    · replace hf := (if_neg q_1).symm.trans hf
      refine x_aload_n o dX7_likes_9 0 rfl rfl ?_
      refine x_iload_n o dX7_likes_10 1 rfl rfl ?_
      refine x_iload_n o dX7_likes_11 1 rfl rfl ?_
      refine x_imul o dX7_likes_12 ?_
      refine x_iload_n o dX7_likes_13 2 rfl rfl ?_
      refine x_iload_n o dX7_likes_14 1 rfl rfl ?_
      refine x_imul o dX7_likes_15 ?_
      refine x_iadd o dX7_likes_16 ?_
      refine x_iload o dX7_likes_17 5 rfl ?_
      refine x_iadd o dX7_likes_19 ?_
      obtain ⟨k_2, hf⟩ := gq_ex hf
      obtain ⟨c_3, ec_3, hf⟩ := ob_ex hf
      refine vRX7_43 [.int (((x1 * x1) + (x2 * x1)) + x5)] [] o (C_X9_at o.1.2.2.2.2.2.2.1 o.2 F ec_3) (by decide) k_2 rfl rfl (Nat.le_of_ble_eq_true rfl) dX7_likes_20 ?_
      refine x_istore o dX7_likes_23 (by decide) [(6, .int c_3), (0, .ref (ka k a0)), (1, .int x1), (2, .int x2), (3, .int x3), (4, .int x4), (5, .int x5)] rfl ?_
      refine x_iload o dX7_likes_25 0 rfl ?_
      refine x_iload_n o dX7_likes_27 4 rfl rfl ?_
      refine x_icmp_eq o 38 dX7_likes_28 (by decide) (fun q_5 => ?_) (fun q_5 => ?_)
      · replace hf := (if_pos q_5).symm.trans hf
        refine x_sub [4, 0] [(3, .int x3), (6, .int c_3)] rfl ?_
        exact S_X7_likes_38 o F hf hr
      · replace hf := (if_neg q_5).symm.trans hf
        refine x_iload o dX7_likes_31 0 rfl ?_
        refine x_iload o dX7_likes_33 5 rfl ?_
        refine x_icmp_ne o 50 dX7_likes_35 (by decide) (fun q_6 => ?_) (fun q_6 => ?_)
        · replace hf := (if_neg q_6).symm.trans hf
          obtain ⟨x5_7, ex5_7, hf⟩ := bd_ex hf
          refine x_iinc o dX7_likes_50 (by decide) 6 rfl ex5_7.symm [(5, .int x5_7), (6, .int c_3), (0, .ref (ka k a0)), (1, .int x1), (2, .int x2), (3, .int x3), (4, .int x4)] rfl ?_
          refine x_goto o 3 dX7_likes_53 (by decide) ?_
          refine x_sub [2, 3, 4, 5, 6, 0] [(0, .ref (ka k a0)), (1, .int x1), (2, .int x2), (3, .int x3), (4, .int x4), (5, .int x5_7)] rfl ?_
          exact ih hf hr
        · replace hf := (if_pos q_6).symm.trans hf
          refine x_sub [4, 0] [(3, .int x3), (6, .int c_3)] rfl ?_
          exact S_X7_likes_38 o F hf hr
set_option maxRecDepth 100000 in
set_option maxHeartbeats 4000000 in
theorem S_X7_likes_0 {k : Kst} {d : Kdy} (o : Ok k d cX7_likes RX7 7 4) (F : Nat) {h : Hp} {a0 : Nat} {x1 : Int32} {x2 : Int32} {x3 : Int32} {x4 : Int32} {r : Int32} (hf : X7_likes F a0 x1 x2 x3 x4 h = some r) (hr : RZ k d cX7_likes r h) : Wz k d h 0 [(0, .ref (ka k a0)), (1, .int x1), (2, .int x2), (3, .int x3), (4, .int x4)] [] := by
  unfold X7_likes at hf
  refine x_iconst (v := 0) o dX7_likes_0 (by decide) ?_
  refine x_istore o dX7_likes_1 (by decide) [(5, .int 0), (0, .ref (ka k a0)), (1, .int x1), (2, .int x2), (3, .int x3), (4, .int x4)] rfl ?_
  refine x_sub [1, 2, 3, 4, 5, 0] [(0, .ref (ka k a0)), (1, .int x1), (2, .int x2), (3, .int x3), (4, .int x4), (5, .int 0)] rfl ?_
  exact S_X7_likes_3 o F _ hf hr
theorem C_X7_likes {k : Kst} (hj : Dj k) (hn : kn k = kdl.length) (F : Nat) {h : Hp} {a0 : Nat} {x1 : Int32} {x2 : Int32} {x3 : Int32} {x4 : Int32} {r : Int32} (hf : X7_likes F a0 x1 x2 x3 x4 h = some r) : MI k 4 yX7_likes cX7_likes 7 (some .boolean) [.ref (ka k a0), .int x1, .int x2, .int x3, .int x4] h r h := mZ hj hn (by decide +kernel) (Nat.le_of_ble_eq_true rfl) (fun d o hr => S_X7_likes_0 o F hf hr)
set_option maxRecDepth 100000 in
set_option maxHeartbeats 4000000 in
theorem S_X7_firstSingle_41 {k : Kst} {d : Kdy} (o : Ok k d cX7_firstSingle RX7 4 4) (F : Nat) : ∀ (f : Nat) {h : Hp} {x1 : Int32} {x2 : Int32} {x3 : Int32} {r : Int32}, X7_firstSingle_41 F f x1 x2 x3 h = some r → RI k d cX7_firstSingle r h → Wz k d h 41 [(1, .int x1), (2, .int x2), (3, .int x3)] [] := by
  intro f
  induction f with
  | zero =>
    intro h x1 x2 x3 r hf hr
    exact nomatch (show (none : Option _) = some _ from hf)
  | succ f ih =>
    intro h x1 x2 x3 r hf hr
    rw [X7_firstSingle_41] at hf
    refine x_iload_n o dX7_firstSingle_41 2 rfl rfl ?_
    refine x_iload_n o dX7_firstSingle_42 0 rfl rfl ?_
    refine x_icmp_ge o 62 dX7_firstSingle_43 (by decide) (fun q_1 => ?_) (fun q_1 => ?_)
    · replace hf := (if_pos q_1).symm.trans hf
      refine x_iconst (v := (-1)) o dX7_firstSingle_62 (by decide) ?_
      cases hf
      exact hr _ _ dX7_firstSingle_63
    · replace hf := (if_neg q_1).symm.trans hf
      refine x_iload_n o dX7_firstSingle_46 1 rfl rfl ?_
      refine x_iload_n o dX7_firstSingle_47 2 rfl rfl ?_
      refine x_ishr o dX7_firstSingle_48 ?_
      refine x_iconst (v := 1) o dX7_firstSingle_49 (by decide) ?_
      refine x_iand o dX7_firstSingle_50 ?_
      refine x_if_ne o 56 dX7_firstSingle_51 (by decide) (fun q_2 => ?_) (fun q_2 => ?_)
      · replace hf := (if_neg q_2).symm.trans hf
        obtain ⟨x3_3, ex3_3, hf⟩ := bd_ex hf
        refine x_iinc o dX7_firstSingle_56 (by decide) 2 rfl ex3_3.symm [(3, .int x3_3), (1, .int x1), (2, .int x2)] rfl ?_
        refine x_goto o 41 dX7_firstSingle_59 (by decide) ?_
        refine x_sub [1, 2, 0] [(1, .int x1), (2, .int x2), (3, .int x3_3)] rfl ?_
        exact ih hf hr
      · replace hf := (if_pos q_2).symm.trans hf
        refine x_iload_n o dX7_firstSingle_54 2 rfl rfl ?_
        cases hf
        exact hr _ _ dX7_firstSingle_55
set_option maxRecDepth 100000 in
set_option maxHeartbeats 4000000 in
theorem S_X7_firstSingle_33 {k : Kst} {d : Kdy} (o : Ok k d cX7_firstSingle RX7 4 4) (F : Nat) {k4 : Nat → Int32 → Int32 → Int32 → Hp → Option Int32} (hk4 : ∀ {h : Hp} {a0 : Nat} {x1 : Int32} {x2 : Int32} {x3 : Int32} {r : Int32}, k4 a0 x1 x2 x3 h = some r → RI k d cX7_firstSingle r h → Wz k d h 4 [(0, .ref (ka k a0)), (1, .int x1), (2, .int x2), (3, .int x3)] []) {h : Hp} {a0 : Nat} {x1 : Int32} {x2 : Int32} {x3 : Int32} {r : Int32} (hf : X7_firstSingle_33 F k4 a0 x1 x2 x3 h = some r) (hr : RI k d cX7_firstSingle r h) : Wz k d h 33 [(0, .ref (ka k a0)), (1, .int x1), (2, .int x2), (3, .int x3)] [] := by
  unfold X7_firstSingle_33 at hf
  obtain ⟨x3_1, ex3_1, hf⟩ := bd_ex hf
  refine x_iinc o dX7_firstSingle_33 (by decide) 3 rfl ex3_1.symm [(3, .int x3_1), (0, .ref (ka k a0)), (1, .int x1), (2, .int x2)] rfl ?_
  refine x_goto o 4 dX7_firstSingle_36 (by decide) ?_
  refine x_sub [1, 2, 3, 0] [(0, .ref (ka k a0)), (1, .int x1), (2, .int x2), (3, .int x3_1)] rfl ?_
  exact hk4 hf hr
set_option maxRecDepth 100000 in
set_option maxHeartbeats 4000000 in
theorem S_X7_firstSingle_4 {k : Kst} {d : Kdy} (o : Ok k d cX7_firstSingle RX7 4 4) (F : Nat) : ∀ (f : Nat) {h : Hp} {a0 : Nat} {x1 : Int32} {x2 : Int32} {x3 : Int32} {r : Int32}, X7_firstSingle_4 F f a0 x1 x2 x3 h = some r → RI k d cX7_firstSingle r h → Wz k d h 4 [(0, .ref (ka k a0)), (1, .int x1), (2, .int x2), (3, .int x3)] [] := by
  intro f
  induction f with
  | zero =>
    intro h a0 x1 x2 x3 r hf hr
    exact nomatch (show (none : Option _) = some _ from hf)
  | succ f ih =>
    intro h a0 x1 x2 x3 r hf hr
    rw [X7_firstSingle_4] at hf
    refine x_iload_n o dX7_firstSingle_4 3 rfl rfl ?_
    refine x_iload_n o dX7_firstSingle_5 1 rfl rfl ?_
    refine x_icmp_ge o 39 dX7_firstSingle_6 (by decide) (fun q_1 => ?_) (fun q_1 => ?_)
    · replace hf := (if_pos q_1).symm.trans hf
      refine x_iconst (v := 0) o dX7_firstSingle_39 (by decide) ?_
      refine x_istore_n o dX7_firstSingle_40 (by decide) rfl [(3, .int 0), (0, .ref (ka k a0)), (1, .int x1), (2, .int x2)] rfl ?_
      refine x_sub [2, 3, 0] [(1, .int x1), (2, .int x2), (3, .int 0)] rfl ?_
      exact S_X7_firstSingle_41 o F _ hf hr
    · replace hf := (if_neg q_1).symm.trans hf
      refine x_aload_n o dX7_firstSingle_9 0 rfl rfl ?_
      obtain ⟨k_2, hf⟩ := gq_ex hf
      obtain ⟨j_3, ej_3, hf⟩ := ob_ex hf
      refine gRX7_24 o k_2 ej_3 dX7_firstSingle_10 ?_
      refine x_iload_n o dX7_firstSingle_13 3 rfl rfl ?_
      obtain ⟨c_4, ec_4, hf⟩ := ob_ex hf
      refine vRX7_71 [.ref (ka k j_3), .int x3] [] o (C_X11_get o.1.2.2.2.2.2.2.1 o.2 F ec_4) (by decide) rfl rfl (Nat.le_of_ble_eq_true rfl) dX7_firstSingle_14 ?_
      refine x_if_lt o 33 dX7_firstSingle_17 (by decide) (fun q_6 => ?_) (fun q_6 => ?_)
      · replace hf := (if_pos q_6).symm.trans hf
        refine x_sub [0, 1, 2, 3] [(0, .ref (ka k a0)), (1, .int x1), (2, .int x2), (3, .int x3)] rfl ?_
        exact S_X7_firstSingle_33 o F (fun q1 q2 => ih q1 q2) hf hr
      · replace hf := (if_neg q_6).symm.trans hf
        refine x_iload_n o dX7_firstSingle_20 2 rfl rfl ?_
        refine x_iconst (v := 1) o dX7_firstSingle_21 (by decide) ?_
        refine x_aload_n o dX7_firstSingle_22 0 rfl rfl ?_
        refine gRX7_24 o k_2 ej_3 dX7_firstSingle_23 ?_
        refine x_iload_n o dX7_firstSingle_26 3 rfl rfl ?_
        obtain ⟨c_7, ec_7, hf⟩ := ob_ex hf
        refine vRX7_71 [.ref (ka k j_3), .int x3] [.int 1, .int x2] o (C_X11_get o.1.2.2.2.2.2.2.1 o.2 F ec_7) (by decide) rfl rfl (Nat.le_of_ble_eq_true rfl) dX7_firstSingle_27 ?_
        refine x_ishl o dX7_firstSingle_30 ?_
        refine x_ior o dX7_firstSingle_31 ?_
        obtain ⟨x2_9, ex2_9, hf⟩ := bd_ex hf
        refine x_top ex2_9 ?_
        refine x_istore_n o dX7_firstSingle_32 (by decide) rfl [(2, .int x2_9), (0, .ref (ka k a0)), (1, .int x1), (3, .int x3)] rfl ?_
        refine x_sub [1, 2, 0, 3] [(0, .ref (ka k a0)), (1, .int x1), (2, .int x2_9), (3, .int x3)] rfl ?_
        exact S_X7_firstSingle_33 o F (fun q1 q2 => ih q1 q2) hf hr
set_option maxRecDepth 100000 in
set_option maxHeartbeats 4000000 in
theorem S_X7_firstSingle_0 {k : Kst} {d : Kdy} (o : Ok k d cX7_firstSingle RX7 4 4) (F : Nat) {h : Hp} {a0 : Nat} {x1 : Int32} {r : Int32} (hf : X7_firstSingle F a0 x1 h = some r) (hr : RI k d cX7_firstSingle r h) : Wz k d h 0 [(0, .ref (ka k a0)), (1, .int x1)] [] := by
  unfold X7_firstSingle at hf
  refine x_iconst (v := 0) o dX7_firstSingle_0 (by decide) ?_
  refine x_istore_n o dX7_firstSingle_1 (by decide) rfl [(2, .int 0), (0, .ref (ka k a0)), (1, .int x1)] rfl ?_
  refine x_iconst (v := 0) o dX7_firstSingle_2 (by decide) ?_
  refine x_istore_n o dX7_firstSingle_3 (by decide) rfl [(3, .int 0), (2, .int 0), (0, .ref (ka k a0)), (1, .int x1)] rfl ?_
  refine x_sub [2, 3, 1, 0] [(0, .ref (ka k a0)), (1, .int x1), (2, .int 0), (3, .int 0)] rfl ?_
  exact S_X7_firstSingle_4 o F _ hf hr
theorem C_X7_firstSingle {k : Kst} (hj : Dj k) (hn : kn k = kdl.length) (F : Nat) {h : Hp} {a0 : Nat} {x1 : Int32} {r : Int32} (hf : X7_firstSingle F a0 x1 h = some r) : MI k 4 yX7_firstSingle cX7_firstSingle 4 (some .int) [.ref (ka k a0), .int x1] h r h := mI hj hn (by decide +kernel) (Nat.le_of_ble_eq_true rfl) (fun d o hr => S_X7_firstSingle_0 o F hf hr)
set_option maxRecDepth 100000 in
set_option maxHeartbeats 4000000 in
theorem S_X7_weds_154 {k : Kst} {d : Kdy} (o : Ok k d cX7_weds RX7 8 5) (F : Nat) : ∀ (f : Nat) {h : Hp} {a0 : Nat} {x2 : Int32} {x3 : Int32} {x5 : Int32} {r : Int32} {h1 : Hp}, X7_weds_154 F f a0 x2 x3 x5 h = some (r, h1) → RI k d cX7_weds r h1 → Wz k d h 154 [(0, .ref (ka k a0)), (2, .int x2), (3, .int x3), (5, .int x5)] [] := by
  intro f
  induction f with
  | zero =>
    intro h a0 x2 x3 x5 r h1 hf hr
    exact nomatch (show (none : Option _) = some _ from hf)
  | succ f ih =>
    intro h a0 x2 x3 x5 r h1 hf hr
    rw [X7_weds_154] at hf
    refine x_iload o dX7_weds_154 3 rfl ?_
    refine x_iload_n o dX7_weds_156 1 rfl rfl ?_
    refine x_icmp_ge o 182 dX7_weds_157 (by decide) (fun q_1 => ?_) (fun q_1 => ?_)
    · replace hf := (if_pos q_1).symm.trans hf
      refine x_iconst (v := (-1)) o dX7_weds_182 (by decide) ?_
      cases hf
      exact hr _ _ dX7_weds_183
    · replace hf := (if_neg q_1).symm.trans hf
      refine x_aload_n o dX7_weds_160 0 rfl rfl ?_
      obtain ⟨k_2, hf⟩ := gq_ex hf
      obtain ⟨j_3, ej_3, hf⟩ := ob_ex hf
      refine gRX7_24 o k_2 ej_3 dX7_weds_161 ?_
      refine x_iload o dX7_weds_164 3 rfl ?_
      obtain ⟨c_4, ec_4, hf⟩ := ob_ex hf
      refine vRX7_71 [.ref (ka k j_3), .int x5] [] o (C_X11_get o.1.2.2.2.2.2.2.1 o.2 F ec_4) (by decide) rfl rfl (Nat.le_of_ble_eq_true rfl) dX7_weds_166 ?_
      refine x_iload_n o dX7_weds_169 2 rfl rfl ?_
      refine x_icmp_ne o 176 dX7_weds_170 (by decide) (fun q_6 => ?_) (fun q_6 => ?_)
      · replace hf := (if_neg q_6).symm.trans hf
        obtain ⟨x5_7, ex5_7, hf⟩ := bd_ex hf
        refine x_iinc o dX7_weds_176 (by decide) 3 rfl ex5_7.symm [(5, .int x5_7), (0, .ref (ka k a0)), (2, .int x2), (3, .int x3)] rfl ?_
        refine x_goto o 154 dX7_weds_179 (by decide) ?_
        refine x_sub [1, 2, 3, 0] [(0, .ref (ka k a0)), (2, .int x2), (3, .int x3), (5, .int x5_7)] rfl ?_
        exact ih hf hr
      · replace hf := (if_pos q_6).symm.trans hf
        refine x_iload o dX7_weds_173 3 rfl ?_
        cases hf
        exact hr _ _ dX7_weds_175
set_option maxRecDepth 100000 in
set_option maxHeartbeats 4000000 in
theorem S_X7_weds_151 {k : Kst} {d : Kdy} (o : Ok k d cX7_weds RX7 8 5) (F : Nat) {h : Hp} {a0 : Nat} {x2 : Int32} {x3 : Int32} {r : Int32} {h1 : Hp} (hf : X7_weds_151 F a0 x2 x3 h = some (r, h1)) (hr : RI k d cX7_weds r h1) : Wz k d h 151 [(0, .ref (ka k a0)), (2, .int x2), (3, .int x3)] [] := by
  unfold X7_weds_151 at hf
  refine x_iconst (v := 0) o dX7_weds_151 (by decide) ?_
  refine x_istore o dX7_weds_152 (by decide) [(5, .int 0), (0, .ref (ka k a0)), (2, .int x2), (3, .int x3)] rfl ?_
  refine x_sub [1, 2, 3, 0] [(0, .ref (ka k a0)), (2, .int x2), (3, .int x3), (5, .int 0)] rfl ?_
  exact S_X7_weds_154 o F _ hf hr
set_option maxRecDepth 100000 in
set_option maxHeartbeats 4000000 in
theorem S_X7_weds_138 {k : Kst} {d : Kdy} (o : Ok k d cX7_weds RX7 8 5) (F : Nat) {k41 : Nat → Nat → Int32 → Int32 → Int32 → Int32 → Hp → Option (Int32 × Hp)} (hk41 : ∀ {h : Hp} {a0 : Nat} {a1 : Nat} {x2 : Int32} {x3 : Int32} {x4 : Int32} {x5 : Int32} {r : Int32} {h1 : Hp}, k41 a0 a1 x2 x3 x4 x5 h = some (r, h1) → RI k d cX7_weds r h1 → Wz k d h 41 [(0, .ref (ka k a0)), (1, .ref (ka k a1)), (2, .int x2), (3, .int x3), (4, .int x4), (5, .int x5)] []) {h : Hp} {a0 : Nat} {a1 : Nat} {x2 : Int32} {x3 : Int32} {x5 : Int32} {r : Int32} {h1 : Hp} (hf : X7_weds_138 F k41 a0 a1 x2 x3 x5 h = some (r, h1)) (hr : RI k d cX7_weds r h1) : Wz k d h 138 [(0, .ref (ka k a0)), (1, .ref (ka k a1)), (2, .int x2), (3, .int x3), (5, .int x5)] [] := by
  unfold X7_weds_138 at hf
  refine x_aload_n o dX7_weds_138 0 rfl rfl ?_
  refine x_iload_n o dX7_weds_139 2 rfl rfl ?_
  obtain ⟨k_1, hf⟩ := gq_ex hf
  obtain ⟨c_2, ec_2, hf⟩ := ob_ex hf
  refine vRX7_106 [.int x2] [] o (C_X7_firstSingle o.1.2.2.2.2.2.2.1 o.2 F ec_2) (by decide) k_1 rfl rfl (Nat.le_of_ble_eq_true rfl) dX7_weds_140 ?_
  refine x_istore o dX7_weds_143 (by decide) [(4, .int c_2), (0, .ref (ka k a0)), (1, .ref (ka k a1)), (2, .int x2), (3, .int x3), (5, .int x5)] rfl ?_
  obtain ⟨x5_4, ex5_4, hf⟩ := bd_ex hf
  refine x_iinc o dX7_weds_145 (by decide) 5 rfl ex5_4.symm [(5, .int x5_4), (4, .int c_2), (0, .ref (ka k a0)), (1, .ref (ka k a1)), (2, .int x2), (3, .int x3)] rfl ?_
  refine x_goto o 41 dX7_weds_148 (by decide) ?_
  refine x_sub [2, 3, 4, 5, 1, 0] [(0, .ref (ka k a0)), (1, .ref (ka k a1)), (2, .int x2), (3, .int x3), (4, .int c_2), (5, .int x5_4)] rfl ?_
  exact hk41 hf hr
set_option maxRecDepth 100000 in
set_option maxHeartbeats 4000000 in
theorem S_X7_weds_127 {k : Kst} {d : Kdy} (o : Ok k d cX7_weds RX7 8 5) (F : Nat) {k41 : Nat → Nat → Int32 → Int32 → Int32 → Int32 → Hp → Option (Int32 × Hp)} (hk41 : ∀ {h : Hp} {a0 : Nat} {a1 : Nat} {x2 : Int32} {x3 : Int32} {x4 : Int32} {x5 : Int32} {r : Int32} {h1 : Hp}, k41 a0 a1 x2 x3 x4 x5 h = some (r, h1) → RI k d cX7_weds r h1 → Wz k d h 41 [(0, .ref (ka k a0)), (1, .ref (ka k a1)), (2, .int x2), (3, .int x3), (4, .int x4), (5, .int x5)] []) {h : Hp} {a0 : Nat} {a1 : Nat} {x2 : Int32} {x3 : Int32} {x4 : Int32} {x5 : Int32} {x6 : Int32} {r : Int32} {h1 : Hp} (hf : X7_weds_127 F k41 a0 a1 x2 x3 x4 x5 x6 h = some (r, h1)) (hr : RI k d cX7_weds r h1) : Wz k d h 127 [(0, .ref (ka k a0)), (1, .ref (ka k a1)), (2, .int x2), (3, .int x3), (4, .int x4), (5, .int x5), (6, .int x6)] [] := by
  unfold X7_weds_127 at hf
  refine x_aload_n o dX7_weds_127 0 rfl rfl ?_
  obtain ⟨k_1, hf⟩ := gq_ex hf
  obtain ⟨j_2, ej_2, hf⟩ := ob_ex hf
  refine gRX7_24 o k_1 ej_2 dX7_weds_128 ?_
  refine x_iload o dX7_weds_131 6 rfl ?_
  refine x_iload o dX7_weds_133 4 rfl ?_
  obtain ⟨h_4, eh_4, hf⟩ := ob_ex hf
  refine vRX7_67 [.ref (ka k j_2), .int x6, .int x4] [] o (C_X11_put o.1.2.2.2.2.2.2.1 o.2 F eh_4) (by decide) rfl rfl (Nat.le_of_ble_eq_true rfl) dX7_weds_135 ?_
  refine x_sub [0, 1, 2, 3, 5] [(0, .ref (ka k a0)), (1, .ref (ka k a1)), (2, .int x2), (3, .int x3), (5, .int x5)] rfl ?_
  exact S_X7_weds_138 o F hk41 hf hr
set_option maxRecDepth 100000 in
set_option maxHeartbeats 4000000 in
theorem S_X7_weds_41 {k : Kst} {d : Kdy} (o : Ok k d cX7_weds RX7 8 5) (F : Nat) : ∀ (f : Nat) {h : Hp} {a0 : Nat} {a1 : Nat} {x2 : Int32} {x3 : Int32} {x4 : Int32} {x5 : Int32} {r : Int32} {h1 : Hp}, X7_weds_41 F f a0 a1 x2 x3 x4 x5 h = some (r, h1) → RI k d cX7_weds r h1 → Wz k d h 41 [(0, .ref (ka k a0)), (1, .ref (ka k a1)), (2, .int x2), (3, .int x3), (4, .int x4), (5, .int x5)] [] := by
  intro f
  induction f with
  | zero =>
    intro h a0 a1 x2 x3 x4 x5 r h1 hf hr
    exact nomatch (show (none : Option _) = some _ from hf)
  | succ f ih =>
    intro h a0 a1 x2 x3 x4 x5 r h1 hf hr
    rw [X7_weds_41] at hf
    refine x_iload o dX7_weds_41 5 rfl ?_
    refine x_iconst (v := 2) o dX7_weds_43 (by decide) ?_
    refine x_iload_n o dX7_weds_44 2 rfl rfl ?_
    refine x_imul o dX7_weds_45 ?_
    refine x_iload_n o dX7_weds_46 2 rfl rfl ?_
    refine x_imul o dX7_weds_47 ?_
    refine x_icmp_ge o 151 dX7_weds_48 (by decide) (fun q_1 => ?_) (fun q_1 => ?_)
    · replace hf := (if_pos q_1).symm.trans hf
      refine x_sub [0, 2, 3] [(0, .ref (ka k a0)), (2, .int x2), (3, .int x3)] rfl ?_
      exact S_X7_weds_151 o F hf hr
    · replace hf := (if_neg q_1).symm.trans hf
      refine x_iload o dX7_weds_51 4 rfl ?_
      refine x_if_lt o 151 dX7_weds_53 (by decide) (fun q_2 => ?_) (fun q_2 => ?_)
      · replace hf := (if_pos q_2).symm.trans hf
        refine x_sub [0, 2, 3] [(0, .ref (ka k a0)), (2, .int x2), (3, .int x3)] rfl ?_
        exact S_X7_weds_151 o F hf hr
      · replace hf := (if_neg q_2).symm.trans hf
        refine x_aload_n o dX7_weds_56 1 rfl rfl ?_
        refine x_iload o dX7_weds_57 4 rfl ?_
        refine x_iload_n o dX7_weds_59 2 rfl rfl ?_
        refine x_imul o dX7_weds_60 ?_
        refine x_aload_n o dX7_weds_61 0 rfl rfl ?_
        obtain ⟨k_3, hf⟩ := gq_ex hf
        obtain ⟨j_4, ej_4, hf⟩ := ob_ex hf
        refine gRX7_21 o k_3 ej_4 dX7_weds_62 ?_
        refine x_iload o dX7_weds_65 4 rfl ?_
        obtain ⟨c_5, ec_5, hf⟩ := ob_ex hf
        refine vRX7_71 [.ref (ka k j_4), .int x4] [.int (x4 * x2), .ref (ka k a1)] o (C_X11_get o.1.2.2.2.2.2.2.1 o.2 F ec_5) (by decide) rfl rfl (Nat.le_of_ble_eq_true rfl) dX7_weds_67 ?_
        refine x_iadd o dX7_weds_70 ?_
        obtain ⟨k_7, hf⟩ := gq_ex hf
        obtain ⟨c_8, ec_8, hf⟩ := ob_ex hf
        refine vRX7_43 [.int ((x4 * x2) + c_5)] [] o (C_X9_at o.1.2.2.2.2.2.2.1 o.2 F ec_8) (by decide) k_7 rfl rfl (Nat.le_of_ble_eq_true rfl) dX7_weds_71 ?_
        refine x_istore o dX7_weds_74 (by decide) [(6, .int c_8), (0, .ref (ka k a0)), (1, .ref (ka k a1)), (2, .int x2), (3, .int x3), (4, .int x4), (5, .int x5)] rfl ?_
        refine x_aload_n o dX7_weds_76 1 rfl rfl ?_
        refine gRX7_21 o k_3 ej_4 dX7_weds_77 ?_
        refine x_iload o dX7_weds_80 5 rfl ?_
        refine x_aload_n o dX7_weds_82 1 rfl rfl ?_
        refine gRX7_21 o k_3 ej_4 dX7_weds_83 ?_
        refine x_iload o dX7_weds_86 5 rfl ?_
        obtain ⟨c_10, ec_10, hf⟩ := ob_ex hf
        refine vRX7_71 [.ref (ka k j_4), .int x4] [.int x4, .ref (ka k j_4)] o (C_X11_get o.1.2.2.2.2.2.2.1 o.2 F ec_10) (by decide) rfl rfl (Nat.le_of_ble_eq_true rfl) dX7_weds_88 ?_
        refine x_iconst (v := 1) o dX7_weds_91 (by decide) ?_
        refine x_iadd o dX7_weds_92 ?_
        obtain ⟨h_13, eh_13, hf⟩ := ob_ex hf
        refine vRX7_67 [.ref (ka k j_4), .int x4, .int (c_10 + 1)] [] o (C_X11_put o.1.2.2.2.2.2.2.1 o.2 F eh_13) (by decide) rfl rfl (Nat.le_of_ble_eq_true rfl) dX7_weds_93 ?_
        refine x_aload_n o dX7_weds_96 1 rfl rfl ?_
        obtain ⟨j_14, ej_14, hf⟩ := ob_ex hf
        refine gRX7_24 o k_3 ej_14 dX7_weds_97 ?_
        refine x_iload o dX7_weds_100 0 rfl ?_
        obtain ⟨c_15, ec_15, hf⟩ := ob_ex hf
        refine vRX7_71 [.ref (ka k j_14), .int c_8] [] o (C_X11_get o.1.2.2.2.2.2.2.1 o.2 F ec_15) (by decide) rfl rfl (Nat.le_of_ble_eq_true rfl) dX7_weds_102 ?_
        refine x_istore o dX7_weds_105 (by decide) [(7, .int c_15), (6, .int c_8), (0, .ref (ka k a0)), (1, .ref (ka k a1)), (2, .int x2), (3, .int x3), (4, .int x4), (5, .int x5)] rfl ?_
        refine x_iload o dX7_weds_107 0 rfl ?_
        refine x_iconst (v := (-1)) o dX7_weds_109 (by decide) ?_
        refine x_icmp_eq o 127 dX7_weds_110 (by decide) (fun q_17 => ?_) (fun q_17 => ?_)
        · replace hf := (if_pos q_17).symm.trans hf
          refine x_sub [2, 3, 4, 5, 6, 7, 1] [(0, .ref (ka k a0)), (1, .ref (ka k a1)), (2, .int x2), (3, .int x3), (4, .int x4), (5, .int x5), (6, .int c_8)] rfl ?_
          exact S_X7_weds_127 o F (fun q1 q2 => ih q1 q2) hf hr
        · replace hf := (if_neg q_17).symm.trans hf
          refine x_aload_n o dX7_weds_113 3 rfl rfl ?_
          refine x_iload_n o dX7_weds_114 4 rfl rfl ?_
          refine x_iload o dX7_weds_115 1 rfl ?_
          refine x_iload o dX7_weds_117 6 rfl ?_
          refine x_iload o dX7_weds_119 0 rfl ?_
          obtain ⟨c_18, ec_18, hf⟩ := ob_ex hf
          refine vRX7_102 [.ref (ka k a1), .int x2, .int c_8, .int x4, .int c_15] [] o (C_X7_likes o.1.2.2.2.2.2.2.1 o.2 F ec_18) (by decide) rfl rfl (Nat.le_of_ble_eq_true rfl) dX7_weds_121 ?_
          refine x_if_eq o 138 dX7_weds_124 (by decide) (fun q_20 => ?_) (fun q_20 => ?_)
          · replace hf := (if_pos q_20).symm.trans hf
            refine x_sub [2, 3, 4, 5, 7] [(0, .ref (ka k a0)), (1, .ref (ka k a1)), (2, .int x2), (3, .int x3), (5, .int x5)] rfl ?_
            exact S_X7_weds_138 o F (fun q1 q2 => ih q1 q2) hf hr
          · replace hf := (if_neg q_20).symm.trans hf
            refine x_sub [2, 3, 4, 5, 6, 7, 1] [(0, .ref (ka k a0)), (1, .ref (ka k a1)), (2, .int x2), (3, .int x3), (4, .int x4), (5, .int x5), (6, .int c_8)] rfl ?_
            exact S_X7_weds_127 o F (fun q1 q2 => ih q1 q2) hf hr
set_option maxRecDepth 100000 in
set_option maxHeartbeats 4000000 in
theorem S_X7_weds_3 {k : Kst} {d : Kdy} (o : Ok k d cX7_weds RX7 8 5) (F : Nat) : ∀ (f : Nat) {h : Hp} {a0 : Nat} {a1 : Nat} {x2 : Int32} {x3 : Int32} {x4 : Int32} {r : Int32} {h1 : Hp}, X7_weds_3 F f a0 a1 x2 x3 x4 h = some (r, h1) → RI k d cX7_weds r h1 → Wz k d h 3 [(0, .ref (ka k a0)), (1, .ref (ka k a1)), (2, .int x2), (3, .int x3), (4, .int x4)] [] := by
  intro f
  induction f with
  | zero =>
    intro h a0 a1 x2 x3 x4 r h1 hf hr
    exact nomatch (show (none : Option _) = some _ from hf)
  | succ f ih =>
    intro h a0 a1 x2 x3 x4 r h1 hf hr
    rw [X7_weds_3] at hf
    refine x_iload o dX7_weds_3 4 rfl ?_
    refine x_iload_n o dX7_weds_5 2 rfl rfl ?_
    refine x_icmp_ge o 35 dX7_weds_6 (by decide) (fun q_1 => ?_) (fun q_1 => ?_)
    · replace hf := (if_pos q_1).symm.trans hf
      refine x_iconst (v := 0) o dX7_weds_35 (by decide) ?_
      refine x_istore o dX7_weds_36 (by decide) [(4, .int 0), (0, .ref (ka k a0)), (1, .ref (ka k a1)), (2, .int x2), (3, .int x3)] rfl ?_
      refine x_iconst (v := 0) o dX7_weds_38 (by decide) ?_
      refine x_istore o dX7_weds_39 (by decide) [(5, .int 0), (4, .int 0), (0, .ref (ka k a0)), (1, .ref (ka k a1)), (2, .int x2), (3, .int x3)] rfl ?_
      refine x_sub [2, 3, 4, 5, 1, 0] [(0, .ref (ka k a0)), (1, .ref (ka k a1)), (2, .int x2), (3, .int x3), (4, .int 0), (5, .int 0)] rfl ?_
      exact S_X7_weds_41 o F _ hf hr
    · replace hf := (if_neg q_1).symm.trans hf
      refine x_aload_n o dX7_weds_9 0 rfl rfl ?_
      obtain ⟨k_2, hf⟩ := gq_ex hf
      obtain ⟨j_3, ej_3, hf⟩ := ob_ex hf
      refine gRX7_21 o k_2 ej_3 dX7_weds_10 ?_
      refine x_iload o dX7_weds_13 4 rfl ?_
      refine x_iconst (v := 0) o dX7_weds_15 (by decide) ?_
      obtain ⟨h_5, eh_5, hf⟩ := ob_ex hf
      refine vRX7_67 [.ref (ka k j_3), .int x4, .int 0] [] o (C_X11_put o.1.2.2.2.2.2.2.1 o.2 F eh_5) (by decide) rfl rfl (Nat.le_of_ble_eq_true rfl) dX7_weds_16 ?_
      refine x_aload_n o dX7_weds_19 0 rfl rfl ?_
      obtain ⟨j_6, ej_6, hf⟩ := ob_ex hf
      refine gRX7_24 o k_2 ej_6 dX7_weds_20 ?_
      refine x_iload o dX7_weds_23 4 rfl ?_
      refine x_iconst (v := (-1)) o dX7_weds_25 (by decide) ?_
      obtain ⟨h_8, eh_8, hf⟩ := ob_ex hf
      refine vRX7_67 [.ref (ka k j_6), .int x4, .int (-1)] [] o (C_X11_put o.1.2.2.2.2.2.2.1 o.2 F eh_8) (by decide) rfl rfl (Nat.le_of_ble_eq_true rfl) dX7_weds_26 ?_
      obtain ⟨x4_9, ex4_9, hf⟩ := bd_ex hf
      refine x_iinc o dX7_weds_29 (by decide) 4 rfl ex4_9.symm [(4, .int x4_9), (0, .ref (ka k a0)), (1, .ref (ka k a1)), (2, .int x2), (3, .int x3)] rfl ?_
      refine x_goto o 3 dX7_weds_32 (by decide) ?_
      refine x_sub [1, 2, 3, 4, 0] [(0, .ref (ka k a0)), (1, .ref (ka k a1)), (2, .int x2), (3, .int x3), (4, .int x4_9)] rfl ?_
      exact ih hf hr
set_option maxRecDepth 100000 in
set_option maxHeartbeats 4000000 in
theorem S_X7_weds_0 {k : Kst} {d : Kdy} (o : Ok k d cX7_weds RX7 8 5) (F : Nat) {h : Hp} {a0 : Nat} {a1 : Nat} {x2 : Int32} {x3 : Int32} {r : Int32} {h1 : Hp} (hf : X7_weds F a0 a1 x2 x3 h = some (r, h1)) (hr : RI k d cX7_weds r h1) : Wz k d h 0 [(0, .ref (ka k a0)), (1, .ref (ka k a1)), (2, .int x2), (3, .int x3)] [] := by
  unfold X7_weds at hf
  refine x_iconst (v := 0) o dX7_weds_0 (by decide) ?_
  refine x_istore o dX7_weds_1 (by decide) [(4, .int 0), (0, .ref (ka k a0)), (1, .ref (ka k a1)), (2, .int x2), (3, .int x3)] rfl ?_
  refine x_sub [1, 2, 3, 4, 0] [(0, .ref (ka k a0)), (1, .ref (ka k a1)), (2, .int x2), (3, .int x3), (4, .int 0)] rfl ?_
  exact S_X7_weds_3 o F _ hf hr
theorem C_X7_weds {k : Kst} (hj : Dj k) (hn : kn k = kdl.length) (F : Nat) {h : Hp} {a0 : Nat} {a1 : Nat} {x2 : Int32} {x3 : Int32} {r : Int32} {h1 : Hp} (hf : X7_weds F a0 a1 x2 x3 h = some (r, h1)) : MI k 5 yX7_weds cX7_weds 8 (some .int) [.ref (ka k a0), .ref (ka k a1), .int x2, .int x3] h r h1 := mI hj hn (by decide +kernel) (Nat.le_of_ble_eq_true rfl) (fun d o hr => S_X7_weds_0 o F hf hr)
set_option maxRecDepth 100000 in
set_option maxHeartbeats 4000000 in
theorem S_X7_longestRun_37 {k : Kst} {d : Kdy} (o : Ok k d cX7_longestRun RX7 5 3) (F : Nat) {k7 : Int32 → Int32 → Int32 → Int32 → Int32 → Hp → Option Int32} (hk7 : ∀ {h : Hp} {x0 : Int32} {x1 : Int32} {x2 : Int32} {x3 : Int32} {x4 : Int32} {r : Int32}, k7 x0 x1 x2 x3 x4 h = some r → RI k d cX7_longestRun r h → Wz k d h 7 [(0, .int x0), (1, .int x1), (2, .int x2), (3, .int x3), (4, .int x4)] []) {h : Hp} {x0 : Int32} {x1 : Int32} {x2 : Int32} {x4 : Int32} {s0 : Int32} {r : Int32} (hf : X7_longestRun_37 F k7 x0 x1 x2 x4 s0 h = some r) (hr : RI k d cX7_longestRun r h) : Wz k d h 37 [(0, .int x0), (1, .int x1), (2, .int x2), (4, .int x4)] [.int s0] := by
  unfold X7_longestRun_37 at hf
  refine x_istore_n o dX7_longestRun_37 (by decide) rfl [(3, .int s0), (0, .int x0), (1, .int x1), (2, .int x2), (4, .int x4)] rfl ?_
  refine x_iload_n o dX7_longestRun_38 3 rfl rfl ?_
  refine x_iload_n o dX7_longestRun_39 0 rfl rfl ?_
  refine x_mmax o wRX7_83 (by decide) (Nat.le_of_ble_eq_true rfl) dX7_longestRun_40 ?_
  obtain ⟨x2_1, ex2_1, hf⟩ := bd_ex hf
  refine x_top ex2_1 ?_
  refine x_istore_n o dX7_longestRun_43 (by decide) rfl [(2, .int x2_1), (3, .int s0), (0, .int x0), (1, .int x1), (4, .int x4)] rfl ?_
  obtain ⟨x4_2, ex4_2, hf⟩ := bd_ex hf
  refine x_iinc o dX7_longestRun_44 (by decide) 4 rfl ex4_2.symm [(4, .int x4_2), (2, .int x2_1), (3, .int s0), (0, .int x0), (1, .int x1)] rfl ?_
  refine x_goto o 7 dX7_longestRun_47 (by decide) ?_
  refine x_sub [3, 4, 1, 2, 0] [(0, .int x0), (1, .int x1), (2, .int x2_1), (3, .int s0), (4, .int x4_2)] rfl ?_
  exact hk7 hf hr
set_option maxRecDepth 100000 in
set_option maxHeartbeats 4000000 in
theorem S_X7_longestRun_7 {k : Kst} {d : Kdy} (o : Ok k d cX7_longestRun RX7 5 3) (F : Nat) : ∀ (f : Nat) {h : Hp} {x0 : Int32} {x1 : Int32} {x2 : Int32} {x3 : Int32} {x4 : Int32} {r : Int32}, X7_longestRun_7 F f x0 x1 x2 x3 x4 h = some r → RI k d cX7_longestRun r h → Wz k d h 7 [(0, .int x0), (1, .int x1), (2, .int x2), (3, .int x3), (4, .int x4)] [] := by
  intro f
  induction f with
  | zero =>
    intro h x0 x1 x2 x3 x4 r hf hr
    exact nomatch (show (none : Option _) = some _ from hf)
  | succ f ih =>
    intro h x0 x1 x2 x3 x4 r hf hr
    rw [X7_longestRun_7] at hf
    refine x_iload o dX7_longestRun_7 4 rfl ?_
    refine x_iload_n o dX7_longestRun_9 1 rfl rfl ?_
    refine x_icmp_ge o 50 dX7_longestRun_10 (by decide) (fun q_1 => ?_) (fun q_1 => ?_)
    · replace hf := (if_pos q_1).symm.trans hf
      refine x_iload_n o dX7_longestRun_50 2 rfl rfl ?_
      cases hf
      exact hr _ _ dX7_longestRun_51
    · replace hf := (if_neg q_1).symm.trans hf
      refine x_iload_n o dX7_longestRun_13 0 rfl rfl ?_
      refine x_iload o dX7_longestRun_14 4 rfl ?_
      refine x_ishr o dX7_longestRun_16 ?_
      refine x_iconst (v := 1) o dX7_longestRun_17 (by decide) ?_
      refine x_iand o dX7_longestRun_18 ?_
      refine x_iload_n o dX7_longestRun_19 0 rfl rfl ?_
      refine x_iload o dX7_longestRun_20 4 rfl ?_
      refine x_iconst (v := 1) o dX7_longestRun_22 (by decide) ?_
      refine x_isub o dX7_longestRun_23 ?_
      refine x_ishr o dX7_longestRun_24 ?_
      refine x_iconst (v := 1) o dX7_longestRun_25 (by decide) ?_
      refine x_iand o dX7_longestRun_26 ?_
      refine x_icmp_ne o 36 dX7_longestRun_27 (by decide) (fun q_2 => ?_) (fun q_2 => ?_)
      · replace hf := (if_neg q_2).symm.trans hf
        refine x_iconst (v := 1) o dX7_longestRun_36 (by decide) ?_
        refine x_sub [0, 1, 2, 4] [(0, .int x0), (1, .int x1), (2, .int x2), (4, .int x4)] rfl ?_
        exact S_X7_longestRun_37 o F (fun q1 q2 => ih q1 q2) hf hr
      · replace hf := (if_pos q_2).symm.trans hf
        refine x_iload_n o dX7_longestRun_30 3 rfl rfl ?_
        refine x_iconst (v := 1) o dX7_longestRun_31 (by decide) ?_
        refine x_iadd o dX7_longestRun_32 ?_
        refine x_goto o 37 dX7_longestRun_33 (by decide) ?_
        refine x_sub [0, 1, 2, 4] [(0, .int x0), (1, .int x1), (2, .int x2), (4, .int x4)] rfl ?_
        exact S_X7_longestRun_37 o F (fun q1 q2 => ih q1 q2) hf hr
set_option maxRecDepth 100000 in
set_option maxHeartbeats 4000000 in
theorem S_X7_longestRun_0 {k : Kst} {d : Kdy} (o : Ok k d cX7_longestRun RX7 5 3) (F : Nat) {h : Hp} {x0 : Int32} {x1 : Int32} {r : Int32} (hf : X7_longestRun F x0 x1 h = some r) (hr : RI k d cX7_longestRun r h) : Wz k d h 0 [(0, .int x0), (1, .int x1)] [] := by
  unfold X7_longestRun at hf
  refine x_iconst (v := 1) o dX7_longestRun_0 (by decide) ?_
  refine x_istore_n o dX7_longestRun_1 (by decide) rfl [(2, .int 1), (0, .int x0), (1, .int x1)] rfl ?_
  refine x_iconst (v := 1) o dX7_longestRun_2 (by decide) ?_
  refine x_istore_n o dX7_longestRun_3 (by decide) rfl [(3, .int 1), (2, .int 1), (0, .int x0), (1, .int x1)] rfl ?_
  refine x_iconst (v := 1) o dX7_longestRun_4 (by decide) ?_
  refine x_istore o dX7_longestRun_5 (by decide) [(4, .int 1), (3, .int 1), (2, .int 1), (0, .int x0), (1, .int x1)] rfl ?_
  refine x_sub [3, 4, 2, 1, 0] [(0, .int x0), (1, .int x1), (2, .int 1), (3, .int 1), (4, .int 1)] rfl ?_
  exact S_X7_longestRun_7 o F _ hf hr
theorem C_X7_longestRun {k : Kst} (hj : Dj k) (hn : kn k = kdl.length) (F : Nat) {h : Hp} {x0 : Int32} {x1 : Int32} {r : Int32} (hf : X7_longestRun F x0 x1 h = some r) : MI k 3 yX7_longestRun cX7_longestRun 5 (some .int) [.int x0, .int x1] h r h := mI hj hn (by decide +kernel) (Nat.le_of_ble_eq_true rfl) (fun d o hr => S_X7_longestRun_0 o F hf hr)
set_option maxRecDepth 100000 in
set_option maxHeartbeats 4000000 in
theorem S_X7_mixtures_26 {k : Kst} {d : Kdy} (o : Ok k d cX7_mixtures RX7 4 4) (F : Nat) {k4 : Int32 → Int32 → Int32 → Int32 → Hp → Option Int32} (hk4 : ∀ {h : Hp} {x0 : Int32} {x1 : Int32} {x2 : Int32} {x3 : Int32} {r : Int32}, k4 x0 x1 x2 x3 h = some r → RI k d cX7_mixtures r h → Wz k d h 4 [(0, .int x0), (1, .int x1), (2, .int x2), (3, .int x3)] []) {h : Hp} {x0 : Int32} {x1 : Int32} {x3 : Int32} {s0 : Int32} {s1 : Int32} {r : Int32} (hf : X7_mixtures_26 F k4 x0 x1 x3 s0 s1 h = some r) (hr : RI k d cX7_mixtures r h) : Wz k d h 26 [(0, .int x0), (1, .int x1), (3, .int x3)] [.int s1, .int s0] := by
  unfold X7_mixtures_26 at hf
  refine x_iadd o dX7_mixtures_26 ?_
  obtain ⟨x2_1, ex2_1, hf⟩ := bd_ex hf
  refine x_top ex2_1 ?_
  refine x_istore_n o dX7_mixtures_27 (by decide) rfl [(2, .int x2_1), (0, .int x0), (1, .int x1), (3, .int x3)] rfl ?_
  obtain ⟨x3_2, ex3_2, hf⟩ := bd_ex hf
  refine x_iinc o dX7_mixtures_28 (by decide) 3 rfl ex3_2.symm [(3, .int x3_2), (2, .int x2_1), (0, .int x0), (1, .int x1)] rfl ?_
  refine x_goto o 4 dX7_mixtures_31 (by decide) ?_
  refine x_sub [2, 3, 1, 0] [(0, .int x0), (1, .int x1), (2, .int x2_1), (3, .int x3_2)] rfl ?_
  exact hk4 hf hr
set_option maxRecDepth 100000 in
set_option maxHeartbeats 4000000 in
theorem S_X7_mixtures_4 {k : Kst} {d : Kdy} (o : Ok k d cX7_mixtures RX7 4 4) (F : Nat) : ∀ (f : Nat) {h : Hp} {x0 : Int32} {x1 : Int32} {x2 : Int32} {x3 : Int32} {r : Int32}, X7_mixtures_4 F f x0 x1 x2 x3 h = some r → RI k d cX7_mixtures r h → Wz k d h 4 [(0, .int x0), (1, .int x1), (2, .int x2), (3, .int x3)] [] := by
  intro f
  induction f with
  | zero =>
    intro h x0 x1 x2 x3 r hf hr
    exact nomatch (show (none : Option _) = some _ from hf)
  | succ f ih =>
    intro h x0 x1 x2 x3 r hf hr
    rw [X7_mixtures_4] at hf
    refine x_iload_n o dX7_mixtures_4 3 rfl rfl ?_
    refine x_iconst (v := 1) o dX7_mixtures_5 (by decide) ?_
    refine x_iload_n o dX7_mixtures_6 0 rfl rfl ?_
    refine x_ishl o dX7_mixtures_7 ?_
    refine x_icmp_ge o 34 dX7_mixtures_8 (by decide) (fun q_1 => ?_) (fun q_1 => ?_)
    · replace hf := (if_pos q_1).symm.trans hf
      refine x_iload_n o dX7_mixtures_34 2 rfl rfl ?_
      cases hf
      exact hr _ _ dX7_mixtures_35
    · replace hf := (if_neg q_1).symm.trans hf
      refine x_iload_n o dX7_mixtures_11 2 rfl rfl ?_
      refine x_iload_n o dX7_mixtures_12 3 rfl rfl ?_
      refine x_iload_n o dX7_mixtures_13 0 rfl rfl ?_
      obtain ⟨c_2, ec_2, hf⟩ := ob_ex hf
      refine vRX7_109 [.int x3, .int x0] [.int x2] o (C_X7_longestRun o.1.2.2.2.2.2.2.1 o.2 F ec_2) (by decide) rfl rfl (Nat.le_of_ble_eq_true rfl) dX7_mixtures_14 ?_
      refine x_iload_n o dX7_mixtures_17 1 rfl rfl ?_
      refine x_icmp_gt o 25 dX7_mixtures_18 (by decide) (fun q_4 => ?_) (fun q_4 => ?_)
      · replace hf := (if_pos q_4).symm.trans hf
        refine x_iconst (v := 0) o dX7_mixtures_25 (by decide) ?_
        refine x_sub [0, 1, 3] [(0, .int x0), (1, .int x1), (3, .int x3)] rfl ?_
        exact S_X7_mixtures_26 o F (fun q1 q2 => ih q1 q2) hf hr
      · replace hf := (if_neg q_4).symm.trans hf
        refine x_iconst (v := 1) o dX7_mixtures_21 (by decide) ?_
        refine x_goto o 26 dX7_mixtures_22 (by decide) ?_
        refine x_sub [0, 1, 3] [(0, .int x0), (1, .int x1), (3, .int x3)] rfl ?_
        exact S_X7_mixtures_26 o F (fun q1 q2 => ih q1 q2) hf hr
set_option maxRecDepth 100000 in
set_option maxHeartbeats 4000000 in
theorem S_X7_mixtures_0 {k : Kst} {d : Kdy} (o : Ok k d cX7_mixtures RX7 4 4) (F : Nat) {h : Hp} {x0 : Int32} {x1 : Int32} {r : Int32} (hf : X7_mixtures F x0 x1 h = some r) (hr : RI k d cX7_mixtures r h) : Wz k d h 0 [(0, .int x0), (1, .int x1)] [] := by
  unfold X7_mixtures at hf
  refine x_iconst (v := 0) o dX7_mixtures_0 (by decide) ?_
  refine x_istore_n o dX7_mixtures_1 (by decide) rfl [(2, .int 0), (0, .int x0), (1, .int x1)] rfl ?_
  refine x_iconst (v := 0) o dX7_mixtures_2 (by decide) ?_
  refine x_istore_n o dX7_mixtures_3 (by decide) rfl [(3, .int 0), (2, .int 0), (0, .int x0), (1, .int x1)] rfl ?_
  refine x_sub [2, 3, 1, 0] [(0, .int x0), (1, .int x1), (2, .int 0), (3, .int 0)] rfl ?_
  exact S_X7_mixtures_4 o F _ hf hr
theorem C_X7_mixtures {k : Kst} (hj : Dj k) (hn : kn k = kdl.length) (F : Nat) {h : Hp} {x0 : Int32} {x1 : Int32} {r : Int32} (hf : X7_mixtures F x0 x1 h = some r) : MI k 4 yX7_mixtures cX7_mixtures 4 (some .int) [.int x0, .int x1] h r h := mI hj hn (by decide +kernel) (Nat.le_of_ble_eq_true rfl) (fun d o hr => S_X7_mixtures_0 o F hf hr)
set_option maxRecDepth 100000 in
set_option maxHeartbeats 4000000 in
theorem S_X7_leastMixture_2 {k : Kst} {d : Kdy} (o : Ok k d cX7_leastMixture RX7 3 4) (F : Nat) : ∀ (f : Nat) {h : Hp} {x0 : Int32} {x1 : Int32} {x2 : Int32} {r : Int32}, X7_leastMixture_2 F f x0 x1 x2 h = some r → RI k d cX7_leastMixture r h → Wz k d h 2 [(0, .int x0), (1, .int x1), (2, .int x2)] [] := by
  intro f
  induction f with
  | zero =>
    intro h x0 x1 x2 r hf hr
    exact nomatch (show (none : Option _) = some _ from hf)
  | succ f ih =>
    intro h x0 x1 x2 r hf hr
    rw [X7_leastMixture_2] at hf
    refine x_iload_n o dX7_leastMixture_2 2 rfl rfl ?_
    refine x_iconst (v := 1) o dX7_leastMixture_3 (by decide) ?_
    refine x_iload_n o dX7_leastMixture_4 0 rfl rfl ?_
    refine x_ishl o dX7_leastMixture_5 ?_
    refine x_icmp_ge o 26 dX7_leastMixture_6 (by decide) (fun q_1 => ?_) (fun q_1 => ?_)
    · replace hf := (if_pos q_1).symm.trans hf
      refine x_bipush (v := (-2)) o dX7_leastMixture_26 (by decide) ?_
      cases hf
      exact hr _ _ dX7_leastMixture_28
    · replace hf := (if_neg q_1).symm.trans hf
      refine x_iload_n o dX7_leastMixture_9 2 rfl rfl ?_
      refine x_iload_n o dX7_leastMixture_10 0 rfl rfl ?_
      obtain ⟨c_2, ec_2, hf⟩ := ob_ex hf
      refine vRX7_109 [.int x2, .int x0] [] o (C_X7_longestRun o.1.2.2.2.2.2.2.1 o.2 F ec_2) (by decide) rfl rfl (Nat.le_of_ble_eq_true rfl) dX7_leastMixture_11 ?_
      refine x_iload_n o dX7_leastMixture_14 1 rfl rfl ?_
      refine x_icmp_gt o 20 dX7_leastMixture_15 (by decide) (fun q_4 => ?_) (fun q_4 => ?_)
      · replace hf := (if_pos q_4).symm.trans hf
        obtain ⟨x2_5, ex2_5, hf⟩ := bd_ex hf
        refine x_iinc o dX7_leastMixture_20 (by decide) 2 rfl ex2_5.symm [(2, .int x2_5), (0, .int x0), (1, .int x1)] rfl ?_
        refine x_goto o 2 dX7_leastMixture_23 (by decide) ?_
        refine x_sub [1, 2, 0] [(0, .int x0), (1, .int x1), (2, .int x2_5)] rfl ?_
        exact ih hf hr
      · replace hf := (if_neg q_4).symm.trans hf
        refine x_iload_n o dX7_leastMixture_18 2 rfl rfl ?_
        cases hf
        exact hr _ _ dX7_leastMixture_19
set_option maxRecDepth 100000 in
set_option maxHeartbeats 4000000 in
theorem S_X7_leastMixture_0 {k : Kst} {d : Kdy} (o : Ok k d cX7_leastMixture RX7 3 4) (F : Nat) {h : Hp} {x0 : Int32} {x1 : Int32} {r : Int32} (hf : X7_leastMixture F x0 x1 h = some r) (hr : RI k d cX7_leastMixture r h) : Wz k d h 0 [(0, .int x0), (1, .int x1)] [] := by
  unfold X7_leastMixture at hf
  refine x_iconst (v := 0) o dX7_leastMixture_0 (by decide) ?_
  refine x_istore_n o dX7_leastMixture_1 (by decide) rfl [(2, .int 0), (0, .int x0), (1, .int x1)] rfl ?_
  refine x_sub [1, 2, 0] [(0, .int x0), (1, .int x1), (2, .int 0)] rfl ?_
  exact S_X7_leastMixture_2 o F _ hf hr
theorem C_X7_leastMixture {k : Kst} (hj : Dj k) (hn : kn k = kdl.length) (F : Nat) {h : Hp} {x0 : Int32} {x1 : Int32} {r : Int32} (hf : X7_leastMixture F x0 x1 h = some r) : MI k 4 yX7_leastMixture cX7_leastMixture 3 (some .int) [.int x0, .int x1] h r h := mI hj hn (by decide +kernel) (Nat.le_of_ble_eq_true rfl) (fun d o hr => S_X7_leastMixture_0 o F hf hr)
set_option maxRecDepth 100000 in
set_option maxHeartbeats 4000000 in
theorem S_X7_yearsTillPaid_5 {k : Kst} {d : Kdy} (o : Ok k d cX7_yearsTillPaid RX7 6 3) (F : Nat) : ∀ (f : Nat) {h : Hp} {x1 : Int32} {x2 : Int32} {x3 : Int32} {x4 : Int32} {r : Int32}, X7_yearsTillPaid_5 F f x1 x2 x3 x4 h = some r → RI k d cX7_yearsTillPaid r h → Wz k d h 5 [(1, .int x1), (2, .int x2), (3, .int x3), (4, .int x4)] [] := by
  intro f
  induction f with
  | zero =>
    intro h x1 x2 x3 x4 r hf hr
    exact nomatch (show (none : Option _) = some _ from hf)
  | succ f ih =>
    intro h x1 x2 x3 x4 r hf hr
    rw [X7_yearsTillPaid_5] at hf
    refine x_iload o dX7_yearsTillPaid_5 3 rfl ?_
    refine x_sipush (v := 200) o dX7_yearsTillPaid_7 (by decide) ?_
    refine x_icmp_gt o 53 dX7_yearsTillPaid_10 (by decide) (fun q_1 => ?_) (fun q_1 => ?_)
    · replace hf := (if_pos q_1).symm.trans hf
      refine x_bipush (v := (-2)) o dX7_yearsTillPaid_53 (by decide) ?_
      cases hf
      exact hr _ _ dX7_yearsTillPaid_55
    · replace hf := (if_neg q_1).symm.trans hf
      refine x_iload_n o dX7_yearsTillPaid_13 2 rfl rfl ?_
      refine x_if_gt o 20 dX7_yearsTillPaid_14 (by decide) (fun q_2 => ?_) (fun q_2 => ?_)
      · replace hf := (if_pos q_2).symm.trans hf
        refine x_iload_n o dX7_yearsTillPaid_20 2 rfl rfl ?_
        refine x_iload_n o dX7_yearsTillPaid_21 2 rfl rfl ?_
        refine x_iload_n o dX7_yearsTillPaid_22 1 rfl rfl ?_
        refine x_imul o dX7_yearsTillPaid_23 ?_
        refine x_bipush (v := 99) o dX7_yearsTillPaid_24 (by decide) ?_
        refine x_iadd o dX7_yearsTillPaid_26 ?_
        refine x_bipush (v := 100) o dX7_yearsTillPaid_27 (by decide) ?_
        refine x_idiv o dX7_yearsTillPaid_29 (by decide) ?_
        refine x_iadd o dX7_yearsTillPaid_30 ?_
        refine x_iload_n o dX7_yearsTillPaid_31 0 rfl rfl ?_
        refine x_isub o dX7_yearsTillPaid_32 ?_
        obtain ⟨x5_3, ex5_3, hf⟩ := bd_ex hf
        refine x_top ex5_3 ?_
        refine x_istore o dX7_yearsTillPaid_33 (by decide) [(5, .int x5_3), (1, .int x1), (2, .int x2), (3, .int x3), (4, .int x4)] rfl ?_
        refine x_iload o dX7_yearsTillPaid_35 0 rfl ?_
        refine x_iload_n o dX7_yearsTillPaid_37 3 rfl rfl ?_
        refine x_icmp_lt o 44 dX7_yearsTillPaid_38 (by decide) (fun q_4 => ?_) (fun q_4 => ?_)
        · replace hf := (if_pos q_4).symm.trans hf
          refine x_iload o dX7_yearsTillPaid_44 0 rfl ?_
          refine x_istore_n o dX7_yearsTillPaid_46 (by decide) rfl [(3, .int x5_3), (5, .int x5_3), (1, .int x1), (2, .int x2), (4, .int x4)] rfl ?_
          obtain ⟨x4_5, ex4_5, hf⟩ := bd_ex hf
          refine x_iinc o dX7_yearsTillPaid_47 (by decide) 4 rfl ex4_5.symm [(4, .int x4_5), (3, .int x5_3), (5, .int x5_3), (1, .int x1), (2, .int x2)] rfl ?_
          refine x_goto o 5 dX7_yearsTillPaid_50 (by decide) ?_
          refine x_sub [3, 4, 1, 0] [(1, .int x1), (2, .int x2), (3, .int x5_3), (4, .int x4_5)] rfl ?_
          exact ih hf hr
        · replace hf := (if_neg q_4).symm.trans hf
          refine x_bipush (v := (-2)) o dX7_yearsTillPaid_41 (by decide) ?_
          cases hf
          exact hr _ _ dX7_yearsTillPaid_43
      · replace hf := (if_neg q_2).symm.trans hf
        refine x_iload o dX7_yearsTillPaid_17 3 rfl ?_
        cases hf
        exact hr _ _ dX7_yearsTillPaid_19
set_option maxRecDepth 100000 in
set_option maxHeartbeats 4000000 in
theorem S_X7_yearsTillPaid_0 {k : Kst} {d : Kdy} (o : Ok k d cX7_yearsTillPaid RX7 6 3) (F : Nat) {h : Hp} {x0 : Int32} {x1 : Int32} {x2 : Int32} {r : Int32} (hf : X7_yearsTillPaid F x0 x1 x2 h = some r) (hr : RI k d cX7_yearsTillPaid r h) : Wz k d h 0 [(0, .int x0), (1, .int x1), (2, .int x2)] [] := by
  unfold X7_yearsTillPaid at hf
  refine x_iload_n o dX7_yearsTillPaid_0 0 rfl rfl ?_
  refine x_istore_n o dX7_yearsTillPaid_1 (by decide) rfl [(3, .int x0), (0, .int x0), (1, .int x1), (2, .int x2)] rfl ?_
  refine x_iconst (v := 0) o dX7_yearsTillPaid_2 (by decide) ?_
  refine x_istore o dX7_yearsTillPaid_3 (by decide) [(4, .int 0), (3, .int x0), (0, .int x0), (1, .int x1), (2, .int x2)] rfl ?_
  refine x_sub [3, 4, 1, 0] [(1, .int x1), (2, .int x2), (3, .int x0), (4, .int 0)] rfl ?_
  exact S_X7_yearsTillPaid_5 o F _ hf hr
theorem C_X7_yearsTillPaid {k : Kst} (hj : Dj k) (hn : kn k = kdl.length) (F : Nat) {h : Hp} {x0 : Int32} {x1 : Int32} {x2 : Int32} {r : Int32} (hf : X7_yearsTillPaid F x0 x1 x2 h = some r) : MI k 3 yX7_yearsTillPaid cX7_yearsTillPaid 6 (some .int) [.int x0, .int x1, .int x2] h r h := mI hj hn (by decide +kernel) (Nat.le_of_ble_eq_true rfl) (fun d o hr => S_X7_yearsTillPaid_0 o F hf hr)
set_option maxRecDepth 100000 in
set_option maxHeartbeats 4000000 in
theorem S_X8_copy_0 {k : Kst} {d : Kdy} (o : Ok k d cX8_copy RX8 2 3) (F : Nat) {h : Hp} {a0 : Nat} {a1 : Nat} {h1 : Hp} (hf : X8_copy F a0 a1 h = some h1) (hr : RV k d cX8_copy h1) : Wz k d h 0 [(0, .ref (ka k a0)), (1, .ref (ka k a1))] [] := by
  unfold X8_copy at hf
  refine x_aload_n o dX8_copy_0 0 rfl rfl ?_
  refine x_aload_n o dX8_copy_1 1 rfl rfl ?_
  obtain ⟨k_1, hf⟩ := gq_ex hf
  refine gRX8_19 o k_1 dX8_copy_2 ?_
  obtain ⟨k_2, hf⟩ := gq_ex hf
  obtain ⟨h_3, eh_3, hf⟩ := bd_ex hf
  refine pRX8_19 o k_2 eh_3 dX8_copy_5 ?_
  refine x_aload_n o dX8_copy_8 0 rfl rfl ?_
  refine x_aload_n o dX8_copy_9 1 rfl rfl ?_
  refine gRX8_22 o k_1 dX8_copy_10 ?_
  obtain ⟨h_4, eh_4, hf⟩ := bd_ex hf
  refine pRX8_22 o k_2 eh_4 dX8_copy_13 ?_
  refine x_aload_n o dX8_copy_16 1 rfl rfl ?_
  obtain ⟨j_5, ej_5, hf⟩ := ob_ex hf
  refine gRX8_9 o k_1 ej_5 dX8_copy_17 ?_
  refine x_iconst (v := 0) o dX8_copy_20 (by decide) ?_
  refine x_aload_n o dX8_copy_21 0 rfl rfl ?_
  obtain ⟨j_6, ej_6, hf⟩ := ob_ex hf
  refine gRX8_9 o k_2 ej_6 dX8_copy_22 ?_
  refine x_iconst (v := 0) o dX8_copy_25 (by decide) ?_
  refine x_bipush (v := 40) o dX8_copy_26 (by decide) ?_
  obtain ⟨k_7, hf⟩ := gq_ex hf
  obtain ⟨k_8, hf⟩ := gq_ex hf
  obtain ⟨n_10, hf⟩ := gq_ex hf
  obtain ⟨h_9, eh_9, hf⟩ := bd_ex hf
  refine x_copy o wRX8_25 (by decide) k_7 k_8 n_10.1 n_10.2.1 n_10.2.2.1 n_10.2.2.2.1 n_10.2.2.2.2 (Nat.le_of_ble_eq_true rfl) dX8_copy_28 (x_h eh_9 ?_)
  refine x_aload_n o dX8_copy_31 0 rfl rfl ?_
  refine x_aload_n o dX8_copy_32 1 rfl rfl ?_
  refine gRX8_31 o k_1 dX8_copy_33 ?_
  obtain ⟨h_11, eh_11, hf⟩ := bd_ex hf
  refine pRX8_31 o k_2 eh_11 dX8_copy_36 ?_
  refine x_aload_n o dX8_copy_39 0 rfl rfl ?_
  refine x_aload_n o dX8_copy_40 1 rfl rfl ?_
  refine gRX8_34 o k_1 dX8_copy_41 ?_
  obtain ⟨h_12, eh_12, hf⟩ := bd_ex hf
  refine pRX8_34 o k_2 eh_12 dX8_copy_44 ?_
  refine x_aload_n o dX8_copy_47 0 rfl rfl ?_
  refine x_aload_n o dX8_copy_48 1 rfl rfl ?_
  refine gRX8_37 o k_1 dX8_copy_49 ?_
  obtain ⟨h_13, eh_13, hf⟩ := bd_ex hf
  refine pRX8_37 o k_2 eh_13 dX8_copy_52 ?_
  refine x_aload_n o dX8_copy_55 0 rfl rfl ?_
  refine x_aload_n o dX8_copy_56 1 rfl rfl ?_
  refine gRX8_40 o k_1 dX8_copy_57 ?_
  obtain ⟨h_14, eh_14, hf⟩ := bd_ex hf
  refine pRX8_40 o k_2 eh_14 dX8_copy_60 ?_
  refine x_aload_n o dX8_copy_63 0 rfl rfl ?_
  refine x_aload_n o dX8_copy_64 1 rfl rfl ?_
  refine gRX8_15 o k_1 dX8_copy_65 ?_
  obtain ⟨h_15, eh_15, hf⟩ := bd_ex hf
  refine pRX8_15 o k_2 eh_15 dX8_copy_68 ?_
  cases hf
  exact hr _ _ dX8_copy_71
theorem C_X8_copy {k : Kst} (hj : Dj k) (hn : kn k = kdl.length) (F : Nat) {h : Hp} {a0 : Nat} {a1 : Nat} {h1 : Hp} (hf : X8_copy F a0 a1 h = some h1) : MV k 3 yX8_copy cX8_copy 2 [.ref (ka k a0), .ref (ka k a1)] h h1 := mV hj hn (by decide +kernel) (Nat.le_of_ble_eq_true rfl) (fun d o hr => S_X8_copy_0 o F hf hr)
set_option maxRecDepth 100000 in
set_option maxHeartbeats 4000000 in
theorem S_X8_benchAt_0 {k : Kst} {d : Kdy} (o : Ok k d cX8_benchAt RX8 3 4) (F : Nat) {h : Hp} {a0 : Nat} {x1 : Int32} {x2 : Int32} {r : Int32} (hf : X8_benchAt F a0 x1 x2 h = some r) (hr : RI k d cX8_benchAt r h) : Wz k d h 0 [(0, .ref (ka k a0)), (1, .int x1), (2, .int x2)] [] := by
  unfold X8_benchAt at hf
  refine x_aload_n o dX8_benchAt_0 0 rfl rfl ?_
  obtain ⟨k_1, hf⟩ := gq_ex hf
  obtain ⟨j_2, ej_2, hf⟩ := ob_ex hf
  refine gRX8_9 o k_1 ej_2 dX8_benchAt_1 ?_
  refine x_iload_n o dX8_benchAt_4 1 rfl rfl ?_
  refine x_bipush (v := 20) o dX8_benchAt_5 (by decide) ?_
  refine x_imul o dX8_benchAt_7 ?_
  refine x_iload_n o dX8_benchAt_8 2 rfl rfl ?_
  refine x_iadd o dX8_benchAt_9 ?_
  refine x_iconst (v := 1) o dX8_benchAt_10 (by decide) ?_
  refine x_isub o dX8_benchAt_11 ?_
  obtain ⟨c_3, ec_3, hf⟩ := ob_ex hf
  refine vRX8_55 [.ref (ka k j_2), .int (((x1 * 20) + x2) - 1)] [] o (C_X11_get o.1.2.2.2.2.2.2.1 o.2 F ec_3) (by decide) rfl rfl (Nat.le_of_ble_eq_true rfl) dX8_benchAt_12 ?_
  cases hf
  exact hr _ _ dX8_benchAt_15
theorem C_X8_benchAt {k : Kst} (hj : Dj k) (hn : kn k = kdl.length) (F : Nat) {h : Hp} {a0 : Nat} {x1 : Int32} {x2 : Int32} {r : Int32} (hf : X8_benchAt F a0 x1 x2 h = some r) : MI k 4 yX8_benchAt cX8_benchAt 3 (some .int) [.ref (ka k a0), .int x1, .int x2] h r h := mI hj hn (by decide +kernel) (Nat.le_of_ble_eq_true rfl) (fun d o hr => S_X8_benchAt_0 o F hf hr)
set_option maxRecDepth 100000 in
set_option maxHeartbeats 4000000 in
theorem S_X8_nextDraw_0 {k : Kst} {d : Kdy} (o : Ok k d cX8_nextDraw RX8 1 3) (F : Nat) {h : Hp} {a0 : Nat} {r : Int32} {h1 : Hp} (hf : X8_nextDraw F a0 h = some (r, h1)) (hr : RI k d cX8_nextDraw r h1) : Wz k d h 0 [(0, .ref (ka k a0))] [] := by
  unfold X8_nextDraw at hf
  refine x_aload_n o dX8_nextDraw_0 0 rfl rfl ?_
  refine x_sipush (v := 25173) o dX8_nextDraw_1 (by decide) ?_
  refine x_aload_n o dX8_nextDraw_4 0 rfl rfl ?_
  obtain ⟨k_1, hf⟩ := gq_ex hf
  refine gRX8_15 o k_1 dX8_nextDraw_5 ?_
  refine x_imul o dX8_nextDraw_8 ?_
  refine x_sipush (v := 13849) o dX8_nextDraw_9 (by decide) ?_
  refine x_iadd o dX8_nextDraw_12 ?_
  refine x_ldc (v := 65536) o dX8_nextDraw_13 wRX8_65 ?_
  refine x_irem o dX8_nextDraw_15 (by decide) ?_
  obtain ⟨h_2, eh_2, hf⟩ := bd_ex hf
  refine pRX8_15 o k_1 eh_2 dX8_nextDraw_16 ?_
  refine x_aload_n o dX8_nextDraw_19 0 rfl rfl ?_
  refine gRX8_15 o k_1 dX8_nextDraw_20 ?_
  refine x_bipush (v := 10) o dX8_nextDraw_23 (by decide) ?_
  refine x_irem o dX8_nextDraw_25 (by decide) ?_
  cases hf
  exact hr _ _ dX8_nextDraw_26
theorem C_X8_nextDraw {k : Kst} (hj : Dj k) (hn : kn k = kdl.length) (F : Nat) {h : Hp} {a0 : Nat} {r : Int32} {h1 : Hp} (hf : X8_nextDraw F a0 h = some (r, h1)) : MI k 3 yX8_nextDraw cX8_nextDraw 1 (some .int) [.ref (ka k a0)] h r h1 := mI hj hn (by decide +kernel) (Nat.le_of_ble_eq_true rfl) (fun d o hr => S_X8_nextDraw_0 o F hf hr)
set_option maxRecDepth 100000 in
set_option maxHeartbeats 4000000 in
theorem S_X9_begin_0 {k : Kst} {d : Kdy} (o : Ok k d cX9_begin RX9 3 3) (F : Nat) {h : Hp} {a0 : Nat} {a1 : Nat} {x2 : Int32} {h1 : Hp} (hf : X9_begin F a0 a1 x2 h = some h1) (hr : RV k d cX9_begin h1) : Wz k d h 0 [(0, .ref (ka k a0)), (1, .ref (ka k a1)), (2, .int x2)] [] := by
  unfold X9_begin at hf
  refine x_aload_n o dX9_begin_0 0 rfl rfl ?_
  refine x_iconst (v := 0) o dX9_begin_1 (by decide) ?_
  refine x_iload_n o dX9_begin_2 2 rfl rfl ?_
  refine x_aload_n o dX9_begin_3 1 rfl rfl ?_
  obtain ⟨k_1, hf⟩ := gq_ex hf
  refine x_aleni o k_1 dX9_begin_4 ?_
  refine x_aload_n o dX9_begin_5 0 rfl rfl ?_
  obtain ⟨k_2, hf⟩ := gq_ex hf
  obtain ⟨j_3, ej_3, hf⟩ := ob_ex hf
  refine gRX9_9 o k_2 ej_3 dX9_begin_6 ?_
  obtain ⟨k_4, hf⟩ := gq_ex hf
  refine x_aleni o k_4 dX9_begin_9 ?_
  refine x_mmin o wRX9_15 (by decide) (Nat.le_of_ble_eq_true rfl) dX9_begin_10 ?_
  refine x_mmin o wRX9_15 (by decide) (Nat.le_of_ble_eq_true rfl) dX9_begin_13 ?_
  refine x_mmax o wRX9_21 (by decide) (Nat.le_of_ble_eq_true rfl) dX9_begin_16 ?_
  obtain ⟨h_5, eh_5, hf⟩ := bd_ex hf
  refine pRX9_24 o k_2 eh_5 dX9_begin_19 ?_
  refine x_aload_n o dX9_begin_22 1 rfl rfl ?_
  refine x_iconst (v := 0) o dX9_begin_23 (by decide) ?_
  refine x_aload_n o dX9_begin_24 0 rfl rfl ?_
  refine gRX9_9 o k_2 (p2 (up_2 eh_5) ej_3) dX9_begin_25 ?_
  refine x_iconst (v := 0) o dX9_begin_28 (by decide) ?_
  refine x_aload_n o dX9_begin_29 0 rfl rfl ?_
  refine gRX9_24 o k_2 dX9_begin_30 ?_
  obtain ⟨n_7, hf⟩ := gq_ex hf
  obtain ⟨h_6, eh_6, hf⟩ := bd_ex hf
  refine x_copy o wRX9_28 (by decide) k_1 k_4 n_7.1 n_7.2.1 n_7.2.2.1 n_7.2.2.2.1 n_7.2.2.2.2 (Nat.le_of_ble_eq_true rfl) dX9_begin_33 (x_h eh_6 ?_)
  refine x_aload_n o dX9_begin_36 0 rfl rfl ?_
  refine x_iconst (v := 0) o dX9_begin_37 (by decide) ?_
  obtain ⟨h_8, eh_8, hf⟩ := bd_ex hf
  refine pRX9_34 o k_2 eh_8 dX9_begin_38 ?_
  refine x_aload_n o dX9_begin_41 0 rfl rfl ?_
  refine x_iconst (v := 0) o dX9_begin_42 (by decide) ?_
  obtain ⟨h_9, eh_9, hf⟩ := bd_ex hf
  refine pRX9_37 o k_2 eh_9 dX9_begin_43 ?_
  cases hf
  exact hr _ _ dX9_begin_46
theorem C_X9_begin {k : Kst} (hj : Dj k) (hn : kn k = kdl.length) (F : Nat) {h : Hp} {a0 : Nat} {a1 : Nat} {x2 : Int32} {h1 : Hp} (hf : X9_begin F a0 a1 x2 h = some h1) : MV k 3 yX9_begin cX9_begin 3 [.ref (ka k a0), .ref (ka k a1), .int x2] h h1 := mV hj hn (by decide +kernel) (Nat.le_of_ble_eq_true rfl) (fun d o hr => S_X9_begin_0 o F hf hr)
set_option maxRecDepth 100000 in
set_option maxHeartbeats 4000000 in
theorem S_X9_tellsEachOnce_5 {k : Kst} {d : Kdy} (o : Ok k d cX9_tellsEachOnce RX9 6 4) (F : Nat) : ∀ (f : Nat) {h : Hp} {a0 : Nat} {x1 : Int32} {x2 : Int32} {x3 : Int32} {x4 : Int32} {r : Int32}, X9_tellsEachOnce_5 F f a0 x1 x2 x3 x4 h = some r → RZ k d cX9_tellsEachOnce r h → Wz k d h 5 [(0, .ref (ka k a0)), (1, .int x1), (2, .int x2), (3, .int x3), (4, .int x4)] [] := by
  intro f
  induction f with
  | zero =>
    intro h a0 x1 x2 x3 x4 r hf hr
    exact nomatch (show (none : Option _) = some _ from hf)
  | succ f ih =>
    intro h a0 x1 x2 x3 x4 r hf hr
    rw [X9_tellsEachOnce_5] at hf
    refine x_iload o dX9_tellsEachOnce_5 4 rfl ?_
    refine x_iload_n o dX9_tellsEachOnce_7 2 rfl rfl ?_
    refine x_icmp_ge o 57 dX9_tellsEachOnce_8 (by decide) (fun q_1 => ?_) (fun q_1 => ?_)
    · replace hf := (if_pos q_1).symm.trans hf
      refine x_iconst (v := 1) o dX9_tellsEachOnce_57 (by decide) ?_
      cases hf
      exact hr (Or.inr rfl) _ _ dX9_tellsEachOnce_58
    · replace hf := (if_neg q_1).symm.trans hf
      refine x_aload_n o dX9_tellsEachOnce_11 0 rfl rfl ?_
      refine x_iload_n o dX9_tellsEachOnce_12 1 rfl rfl ?_
      refine x_iload o dX9_tellsEachOnce_13 4 rfl ?_
      refine x_iadd o dX9_tellsEachOnce_15 ?_
      obtain ⟨k_2, hf⟩ := gq_ex hf
      obtain ⟨c_3, ec_3, hf⟩ := ob_ex hf
      refine vRX9_40 [.int (x1 + x4)] [] o (C_X9_at o.1.2.2.2.2.2.2.1 o.2 F ec_3) (by decide) k_2 rfl rfl (Nat.le_of_ble_eq_true rfl) dX9_tellsEachOnce_16 ?_
      refine x_istore o dX9_tellsEachOnce_19 (by decide) [(5, .int c_3), (0, .ref (ka k a0)), (1, .int x1), (2, .int x2), (3, .int x3), (4, .int x4)] rfl ?_
      refine x_iload o dX9_tellsEachOnce_21 0 rfl ?_
      refine x_iconst (v := 0) o dX9_tellsEachOnce_23 (by decide) ?_
      refine x_iload_n o dX9_tellsEachOnce_24 3 rfl rfl ?_
      refine x_iconst (v := 1) o dX9_tellsEachOnce_25 (by decide) ?_
      refine x_isub o dX9_tellsEachOnce_26 ?_
      obtain ⟨c_5, ec_5, hf⟩ := ob_ex hf
      refine vRX9_66 [.int c_3, .int 0, .int (x2 - 1)] [] o (C_X11_within o.1.2.2.2.2.2.2.1 o.2 F ec_5) (by decide) rfl rfl (Nat.le_of_ble_eq_true rfl) dX9_tellsEachOnce_27 ?_
      refine x_if_eq o 42 dX9_tellsEachOnce_30 (by decide) (fun q_7 => ?_) (fun q_7 => ?_)
      · replace hf := (if_pos q_7).symm.trans hf
        refine x_iconst (v := 0) o dX9_tellsEachOnce_42 (by decide) ?_
        cases hf
        exact hr (Or.inl rfl) _ _ dX9_tellsEachOnce_43
      · replace hf := (if_neg q_7).symm.trans hf
        refine x_iload_n o dX9_tellsEachOnce_33 4 rfl rfl ?_
        refine x_iload o dX9_tellsEachOnce_34 0 rfl ?_
        refine x_ishr o dX9_tellsEachOnce_36 ?_
        refine x_iconst (v := 1) o dX9_tellsEachOnce_37 (by decide) ?_
        refine x_iand o dX9_tellsEachOnce_38 ?_
        refine x_if_eq o 44 dX9_tellsEachOnce_39 (by decide) (fun q_8 => ?_) (fun q_8 => ?_)
        · replace hf := (if_pos q_8).symm.trans hf
          refine x_iload_n o dX9_tellsEachOnce_44 4 rfl rfl ?_
          refine x_iconst (v := 1) o dX9_tellsEachOnce_45 (by decide) ?_
          refine x_iload o dX9_tellsEachOnce_46 0 rfl ?_
          refine x_ishl o dX9_tellsEachOnce_48 ?_
          refine x_ior o dX9_tellsEachOnce_49 ?_
          obtain ⟨x3_9, ex3_9, hf⟩ := bd_ex hf
          refine x_top ex3_9 ?_
          refine x_istore_n o dX9_tellsEachOnce_50 (by decide) rfl [(3, .int x3_9), (5, .int c_3), (0, .ref (ka k a0)), (1, .int x1), (2, .int x2), (4, .int x4)] rfl ?_
          obtain ⟨x4_10, ex4_10, hf⟩ := bd_ex hf
          refine x_iinc o dX9_tellsEachOnce_51 (by decide) 5 rfl ex4_10.symm [(4, .int x4_10), (3, .int x3_9), (5, .int c_3), (0, .ref (ka k a0)), (1, .int x1), (2, .int x2)] rfl ?_
          refine x_goto o 5 dX9_tellsEachOnce_54 (by decide) ?_
          refine x_sub [3, 4, 5, 1, 0] [(0, .ref (ka k a0)), (1, .int x1), (2, .int x2), (3, .int x3_9), (4, .int x4_10)] rfl ?_
          exact ih hf hr
        · replace hf := (if_neg q_8).symm.trans hf
          refine x_iconst (v := 0) o dX9_tellsEachOnce_42 (by decide) ?_
          cases hf
          exact hr (Or.inl rfl) _ _ dX9_tellsEachOnce_43
set_option maxRecDepth 100000 in
set_option maxHeartbeats 4000000 in
theorem S_X9_tellsEachOnce_0 {k : Kst} {d : Kdy} (o : Ok k d cX9_tellsEachOnce RX9 6 4) (F : Nat) {h : Hp} {a0 : Nat} {x1 : Int32} {x2 : Int32} {r : Int32} (hf : X9_tellsEachOnce F a0 x1 x2 h = some r) (hr : RZ k d cX9_tellsEachOnce r h) : Wz k d h 0 [(0, .ref (ka k a0)), (1, .int x1), (2, .int x2)] [] := by
  unfold X9_tellsEachOnce at hf
  refine x_iconst (v := 0) o dX9_tellsEachOnce_0 (by decide) ?_
  refine x_istore_n o dX9_tellsEachOnce_1 (by decide) rfl [(3, .int 0), (0, .ref (ka k a0)), (1, .int x1), (2, .int x2)] rfl ?_
  refine x_iconst (v := 0) o dX9_tellsEachOnce_2 (by decide) ?_
  refine x_istore o dX9_tellsEachOnce_3 (by decide) [(4, .int 0), (3, .int 0), (0, .ref (ka k a0)), (1, .int x1), (2, .int x2)] rfl ?_
  refine x_sub [2, 3, 4, 1, 0] [(0, .ref (ka k a0)), (1, .int x1), (2, .int x2), (3, .int 0), (4, .int 0)] rfl ?_
  exact S_X9_tellsEachOnce_5 o F _ hf hr
theorem C_X9_tellsEachOnce {k : Kst} (hj : Dj k) (hn : kn k = kdl.length) (F : Nat) {h : Hp} {a0 : Nat} {x1 : Int32} {x2 : Int32} {r : Int32} (hf : X9_tellsEachOnce F a0 x1 x2 h = some r) : MI k 4 yX9_tellsEachOnce cX9_tellsEachOnce 6 (some .boolean) [.ref (ka k a0), .int x1, .int x2] h r h := mZ hj hn (by decide +kernel) (Nat.le_of_ble_eq_true rfl) (fun d o hr => S_X9_tellsEachOnce_0 o F hf hr)
