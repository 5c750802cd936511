set_option maxRecDepth 100000 in
set_option maxHeartbeats 4000000 in
theorem S_X5_renew_16 {k : Kst} {d : Kdy} (o : Ok k d cX5_renew RX5 4 4) (F : Nat) : ∀ (f : Nat) {h : Hp} {a0 : Nat} {a1 : Nat} {x3 : Int32} {h1 : Hp}, X5_renew_16 F f a0 a1 x3 h = some h1 → RV k d cX5_renew h1 → Wz k d h 16 [(0, .ref (ka k a0)), (1, .ref (ka k a1)), (3, .int x3)] [] := by
  intro f
  induction f with
  | zero =>
    intro h a0 a1 x3 h1 hf hr
    exact nomatch (show (none : Option _) = some _ from hf)
  | succ f ih =>
    intro h a0 a1 x3 h1 hf hr
    rw [X5_renew_16] at hf
    refine x_iload_n o dX5_renew_16 2 rfl rfl ?_
    refine x_aload_n o dX5_renew_17 0 rfl rfl ?_
    obtain ⟨k_1, hf⟩ := gq_ex hf
    refine gRX5_24 o k_1 dX5_renew_18 ?_
    refine x_icmp_gt o 56 dX5_renew_21 (by decide) (fun q_2 => ?_) (fun q_2 => ?_)
    · replace hf := (if_pos q_2).symm.trans hf
      cases hf
      exact hr _ _ dX5_renew_56
    · replace hf := (if_neg q_2).symm.trans hf
      refine x_aload_n o dX5_renew_24 0 rfl rfl ?_
      obtain ⟨j_3, ej_3, hf⟩ := ob_ex hf
      refine gRX5_9 o k_1 ej_3 dX5_renew_25 ?_
      refine x_iload_n o dX5_renew_28 2 rfl rfl ?_
      refine x_aload_n o dX5_renew_29 0 rfl rfl ?_
      refine gRX5_9 o k_1 ej_3 dX5_renew_30 ?_
      refine x_iload_n o dX5_renew_33 2 rfl rfl ?_
      refine x_iconst (v := 1) o dX5_renew_34 (by decide) ?_
      refine x_isub o dX5_renew_35 ?_
      obtain ⟨c_4, ec_4, hf⟩ := ob_ex hf
      refine vRX5_28 [.ref (ka k j_3), .int (x3 - 1)] [.int x3, .ref (ka k j_3)] o (C_X11_get o.1.2.2.2.2.2.2.1 o.2 F ec_4) (by decide) rfl rfl (Nat.le_of_ble_eq_true rfl) dX5_renew_36 ?_
      refine x_aload_n o dX5_renew_39 1 rfl rfl ?_
      refine x_iload_n o dX5_renew_40 2 rfl rfl ?_
      refine x_iconst (v := 1) o dX5_renew_41 (by decide) ?_
      refine x_isub o dX5_renew_42 ?_
      obtain ⟨c_6, ec_6, hf⟩ := ob_ex hf
      refine vRX5_28 [.ref (ka k a1), .int (x3 - 1)] [.int c_4, .int x3, .ref (ka k j_3)] o (C_X11_get o.1.2.2.2.2.2.2.1 o.2 F ec_6) (by decide) rfl rfl (Nat.le_of_ble_eq_true rfl) dX5_renew_43 ?_
      refine x_iadd o dX5_renew_46 ?_
      obtain ⟨h_9, eh_9, hf⟩ := ob_ex hf
      refine vRX5_32 [.ref (ka k j_3), .int x3, .int (c_4 + c_6)] [] o (C_X11_put o.1.2.2.2.2.2.2.1 o.2 F eh_9) (by decide) rfl rfl (Nat.le_of_ble_eq_true rfl) dX5_renew_47 ?_
      obtain ⟨x3_10, ex3_10, hf⟩ := bd_ex hf
      refine x_iinc o dX5_renew_50 (by decide) 2 rfl ex3_10.symm [(3, .int x3_10), (0, .ref (ka k a0)), (1, .ref (ka k a1))] rfl ?_
      refine x_goto o 16 dX5_renew_53 (by decide) ?_
      refine x_sub [1, 2, 0] [(0, .ref (ka k a0)), (1, .ref (ka k a1)), (3, .int x3_10)] rfl ?_
      exact ih hf hr
set_option maxRecDepth 100000 in
set_option maxHeartbeats 4000000 in
theorem S_X5_renew_0 {k : Kst} {d : Kdy} (o : Ok k d cX5_renew RX5 4 4) (F : Nat) {h : Hp} {a0 : Nat} {a1 : Nat} {x2 : Int32} {h1 : Hp} (hf : X5_renew F a0 a1 x2 h = some h1) (hr : RV k d cX5_renew h1) : Wz k d h 0 [(0, .ref (ka k a0)), (1, .ref (ka k a1)), (2, .int x2)] [] := by
  unfold X5_renew at hf
  refine x_aload_n o dX5_renew_0 0 rfl rfl ?_
  refine x_iconst (v := 0) o dX5_renew_1 (by decide) ?_
  refine x_iload_n o dX5_renew_2 2 rfl rfl ?_
  refine x_bipush (v := 20) o dX5_renew_3 (by decide) ?_
  refine x_mmin o wRX5_15 (by decide) (Nat.le_of_ble_eq_true rfl) dX5_renew_5 ?_
  refine x_mmax o wRX5_21 (by decide) (Nat.le_of_ble_eq_true rfl) dX5_renew_8 ?_
  obtain ⟨k_1, hf⟩ := gq_ex hf
  obtain ⟨h_2, eh_2, hf⟩ := bd_ex hf
  refine pRX5_24 o k_1 eh_2 dX5_renew_11 ?_
  refine x_iconst (v := 1) o dX5_renew_14 (by decide) ?_
  refine x_istore_n o dX5_renew_15 (by decide) rfl [(3, .int 1), (0, .ref (ka k a0)), (1, .ref (ka k a1)), (2, .int x2)] rfl ?_
  refine x_sub [1, 2, 0] [(0, .ref (ka k a0)), (1, .ref (ka k a1)), (3, .int 1)] rfl ?_
  exact S_X5_renew_16 o F _ hf hr
theorem C_X5_renew {k : Kst} (hj : Dj k) (hn : kn k = kdl.length) (F : Nat) {h : Hp} {a0 : Nat} {a1 : Nat} {x2 : Int32} {h1 : Hp} (hf : X5_renew F a0 a1 x2 h = some h1) : MV k 4 yX5_renew cX5_renew 4 [.ref (ka k a0), .ref (ka k a1), .int x2] h h1 := mV hj hn (by decide +kernel) (Nat.le_of_ble_eq_true rfl) (fun d o hr => S_X5_renew_0 o F hf hr)
set_option maxRecDepth 100000 in
set_option maxHeartbeats 4000000 in
theorem S_X5_stonesOf_0 {k : Kst} {d : Kdy} (o : Ok k d cX5_stonesOf RX5 2 4) (F : Nat) {h : Hp} {a0 : Nat} {x1 : Int32} {r : Int32} (hf : X5_stonesOf F a0 x1 h = some r) (hr : RI k d cX5_stonesOf r h) : Wz k d h 0 [(0, .ref (ka k a0)), (1, .int x1)] [] := by
  unfold X5_stonesOf at hf
  refine x_aload_n o dX5_stonesOf_0 0 rfl rfl ?_
  obtain ⟨k_1, hf⟩ := gq_ex hf
  obtain ⟨j_2, ej_2, hf⟩ := ob_ex hf
  refine gRX5_9 o k_1 ej_2 dX5_stonesOf_1 ?_
  refine x_iload_n o dX5_stonesOf_4 1 rfl rfl ?_
  obtain ⟨c_3, ec_3, hf⟩ := ob_ex hf
  refine vRX5_28 [.ref (ka k j_2), .int x1] [] o (C_X11_get o.1.2.2.2.2.2.2.1 o.2 F ec_3) (by decide) rfl rfl (Nat.le_of_ble_eq_true rfl) dX5_stonesOf_5 ?_
  refine x_aload_n o dX5_stonesOf_8 0 rfl rfl ?_
  refine gRX5_9 o k_1 ej_2 dX5_stonesOf_9 ?_
  refine x_iload_n o dX5_stonesOf_12 1 rfl rfl ?_
  refine x_iconst (v := 1) o dX5_stonesOf_13 (by decide) ?_
  refine x_isub o dX5_stonesOf_14 ?_
  obtain ⟨c_5, ec_5, hf⟩ := ob_ex hf
  refine vRX5_28 [.ref (ka k j_2), .int (x1 - 1)] [.int c_3] o (C_X11_get o.1.2.2.2.2.2.2.1 o.2 F ec_5) (by decide) rfl rfl (Nat.le_of_ble_eq_true rfl) dX5_stonesOf_15 ?_
  refine x_isub o dX5_stonesOf_18 ?_
  cases hf
  exact hr _ _ dX5_stonesOf_19
theorem C_X5_stonesOf {k : Kst} (hj : Dj k) (hn : kn k = kdl.length) (F : Nat) {h : Hp} {a0 : Nat} {x1 : Int32} {r : Int32} (hf : X5_stonesOf F a0 x1 h = some r) : MI k 4 yX5_stonesOf cX5_stonesOf 2 (some .int) [.ref (ka k a0), .int x1] h r h := mI hj hn (by decide +kernel) (Nat.le_of_ble_eq_true rfl) (fun d o hr => S_X5_stonesOf_0 o F hf hr)
set_option maxRecDepth 100000 in
set_option maxHeartbeats 4000000 in
theorem S_X5_stonesUpTo_0 {k : Kst} {d : Kdy} (o : Ok k d cX5_stonesUpTo RX5 2 4) (F : Nat) {h : Hp} {a0 : Nat} {x1 : Int32} {r : Int32} (hf : X5_stonesUpTo F a0 x1 h = some r) (hr : RI k d cX5_stonesUpTo r h) : Wz k d h 0 [(0, .ref (ka k a0)), (1, .int x1)] [] := by
  unfold X5_stonesUpTo at hf
  refine x_aload_n o dX5_stonesUpTo_0 0 rfl rfl ?_
  obtain ⟨k_1, hf⟩ := gq_ex hf
  obtain ⟨j_2, ej_2, hf⟩ := ob_ex hf
  refine gRX5_9 o k_1 ej_2 dX5_stonesUpTo_1 ?_
  refine x_iload_n o dX5_stonesUpTo_4 1 rfl rfl ?_
  obtain ⟨c_3, ec_3, hf⟩ := ob_ex hf
  refine vRX5_28 [.ref (ka k j_2), .int x1] [] o (C_X11_get o.1.2.2.2.2.2.2.1 o.2 F ec_3) (by decide) rfl rfl (Nat.le_of_ble_eq_true rfl) dX5_stonesUpTo_5 ?_
  cases hf
  exact hr _ _ dX5_stonesUpTo_8
theorem C_X5_stonesUpTo {k : Kst} (hj : Dj k) (hn : kn k = kdl.length) (F : Nat) {h : Hp} {a0 : Nat} {x1 : Int32} {r : Int32} (hf : X5_stonesUpTo F a0 x1 h = some r) : MI k 4 yX5_stonesUpTo cX5_stonesUpTo 2 (some .int) [.ref (ka k a0), .int x1] h r h := mI hj hn (by decide +kernel) (Nat.le_of_ble_eq_true rfl) (fun d o hr => S_X5_stonesUpTo_0 o F hf hr)
set_option maxRecDepth 100000 in
set_option maxHeartbeats 4000000 in
theorem S_X5_whole_0 {k : Kst} {d : Kdy} (o : Ok k d cX5_whole RX5 1 4) (F : Nat) {h : Hp} {a0 : Nat} {r : Int32} (hf : X5_whole F a0 h = some r) (hr : RI k d cX5_whole r h) : Wz k d h 0 [(0, .ref (ka k a0))] [] := by
  unfold X5_whole at hf
  refine x_aload_n o dX5_whole_0 0 rfl rfl ?_
  obtain ⟨k_1, hf⟩ := gq_ex hf
  obtain ⟨j_2, ej_2, hf⟩ := ob_ex hf
  refine gRX5_9 o k_1 ej_2 dX5_whole_1 ?_
  refine x_aload_n o dX5_whole_4 0 rfl rfl ?_
  refine gRX5_24 o k_1 dX5_whole_5 ?_
  obtain ⟨c_3, ec_3, hf⟩ := ob_ex hf
  refine vRX5_28 [.ref (ka k j_2), .int (h.1 a0 1)] [] o (C_X11_get o.1.2.2.2.2.2.2.1 o.2 F ec_3) (by decide) rfl rfl (Nat.le_of_ble_eq_true rfl) dX5_whole_8 ?_
  cases hf
  exact hr _ _ dX5_whole_11
theorem C_X5_whole {k : Kst} (hj : Dj k) (hn : kn k = kdl.length) (F : Nat) {h : Hp} {a0 : Nat} {r : Int32} (hf : X5_whole F a0 h = some r) : MI k 4 yX5_whole cX5_whole 1 (some .int) [.ref (ka k a0)] h r h := mI hj hn (by decide +kernel) (Nat.le_of_ble_eq_true rfl) (fun d o hr => S_X5_whole_0 o F hf hr)
set_option maxRecDepth 100000 in
set_option maxHeartbeats 4000000 in
theorem S_X5_standingBy_39 {k : Kst} {d : Kdy} (o : Ok k d cX5_standingBy RX5 3 3) (F : Nat) {h : Hp} {a0 : Nat} {r : Int32} (hf : X5_standingBy_39 F a0 h = some r) (hr : RI k d cX5_standingBy r h) : Wz k d h 39 [(0, .ref (ka k a0))] [] := by
  unfold X5_standingBy_39 at hf
  refine x_aload_n o dX5_standingBy_39 0 rfl rfl ?_
  obtain ⟨k_1, hf⟩ := gq_ex hf
  refine gRX5_24 o k_1 dX5_standingBy_40 ?_
  cases hf
  exact hr _ _ dX5_standingBy_43
set_option maxRecDepth 100000 in
set_option maxHeartbeats 4000000 in
theorem S_X5_standingBy_2 {k : Kst} {d : Kdy} (o : Ok k d cX5_standingBy RX5 3 3) (F : Nat) : ∀ (f : Nat) {h : Hp} {a0 : Nat} {x1 : Int32} {x2 : Int32} {r : Int32}, X5_standingBy_2 F f a0 x1 x2 h = some r → RI k d cX5_standingBy r h → Wz k d h 2 [(0, .ref (ka k a0)), (1, .int x1), (2, .int x2)] [] := by
  intro f
  induction f with
  | zero =>
    intro h a0 x1 x2 r hf hr
    exact nomatch (show (none : Option _) = some _ from hf)
  | succ f ih =>
    intro h a0 x1 x2 r hf hr
    rw [X5_standingBy_2] at hf
    refine x_iload_n o dX5_standingBy_2 2 rfl rfl ?_
    refine x_aload_n o dX5_standingBy_3 0 rfl rfl ?_
    obtain ⟨k_1, hf⟩ := gq_ex hf
    refine gRX5_24 o k_1 dX5_standingBy_4 ?_
    refine x_icmp_gt o 39 dX5_standingBy_7 (by decide) (fun q_2 => ?_) (fun q_2 => ?_)
    · replace hf := (if_pos q_2).symm.trans hf
      refine x_sub [0] [(0, .ref (ka k a0))] rfl ?_
      exact S_X5_standingBy_39 o F hf hr
    · replace hf := (if_neg q_2).symm.trans hf
      refine x_iload_n o dX5_standingBy_10 2 rfl rfl ?_
      refine x_aload_n o dX5_standingBy_11 0 rfl rfl ?_
      obtain ⟨j_3, ej_3, hf⟩ := ob_ex hf
      refine gRX5_9 o k_1 ej_3 dX5_standingBy_12 ?_
      obtain ⟨k_4, hf⟩ := gq_ex hf
      refine x_aleni o k_4 dX5_standingBy_15 ?_
      refine x_icmp_ge o 39 dX5_standingBy_16 (by decide) (fun q_5 => ?_) (fun q_5 => ?_)
      · replace hf := (if_pos q_5).symm.trans hf
        refine x_sub [0] [(0, .ref (ka k a0))] rfl ?_
        exact S_X5_standingBy_39 o F hf hr
      · replace hf := (if_neg q_5).symm.trans hf
        refine x_aload_n o dX5_standingBy_19 0 rfl rfl ?_
        refine gRX5_9 o k_1 ej_3 dX5_standingBy_20 ?_
        refine x_iload_n o dX5_standingBy_23 2 rfl rfl ?_
        obtain ⟨b_6, hf⟩ := gq_ex hf
        refine x_iald o k_4 b_6 dX5_standingBy_24 ?_
        refine x_iload_n o dX5_standingBy_25 1 rfl rfl ?_
        refine x_icmp_le o 33 dX5_standingBy_26 (by decide) (fun q_7 => ?_) (fun q_7 => ?_)
        · replace hf := (if_pos q_7).symm.trans hf
          obtain ⟨x2_8, ex2_8, hf⟩ := bd_ex hf
          refine x_iinc o dX5_standingBy_33 (by decide) 2 rfl ex2_8.symm [(2, .int x2_8), (0, .ref (ka k a0)), (1, .int x1)] rfl ?_
          refine x_goto o 2 dX5_standingBy_36 (by decide) ?_
          refine x_sub [1, 2, 0] [(0, .ref (ka k a0)), (1, .int x1), (2, .int x2_8)] rfl ?_
          exact ih hf hr
        · replace hf := (if_neg q_7).symm.trans hf
          refine x_iload_n o dX5_standingBy_29 2 rfl rfl ?_
          refine x_iconst (v := 1) o dX5_standingBy_30 (by decide) ?_
          refine x_isub o dX5_standingBy_31 ?_
          cases hf
          exact hr _ _ dX5_standingBy_32
set_option maxRecDepth 100000 in
set_option maxHeartbeats 4000000 in
theorem S_X5_standingBy_0 {k : Kst} {d : Kdy} (o : Ok k d cX5_standingBy RX5 3 3) (F : Nat) {h : Hp} {a0 : Nat} {x1 : Int32} {r : Int32} (hf : X5_standingBy F a0 x1 h = some r) (hr : RI k d cX5_standingBy r h) : Wz k d h 0 [(0, .ref (ka k a0)), (1, .int x1)] [] := by
  unfold X5_standingBy at hf
  refine x_iconst (v := 1) o dX5_standingBy_0 (by decide) ?_
  refine x_istore_n o dX5_standingBy_1 (by decide) rfl [(2, .int 1), (0, .ref (ka k a0)), (1, .int x1)] rfl ?_
  refine x_sub [1, 2, 0] [(0, .ref (ka k a0)), (1, .int x1), (2, .int 1)] rfl ?_
  exact S_X5_standingBy_2 o F _ hf hr
theorem C_X5_standingBy {k : Kst} (hj : Dj k) (hn : kn k = kdl.length) (F : Nat) {h : Hp} {a0 : Nat} {x1 : Int32} {r : Int32} (hf : X5_standingBy F a0 x1 h = some r) : MI k 3 yX5_standingBy cX5_standingBy 3 (some .int) [.ref (ka k a0), .int x1] h r h := mI hj hn (by decide +kernel) (Nat.le_of_ble_eq_true rfl) (fun d o hr => S_X5_standingBy_0 o F hf hr)
set_option maxRecDepth 100000 in
set_option maxHeartbeats 4000000 in
theorem S_X6_readTimes_0 {k : Kst} {d : Kdy} (o : Ok k d cX6_readTimes RX6 3 5) (F : Nat) {h : Hp} {a0 : Nat} {a1 : Nat} {r : Int32} {h1 : Hp} (hf : X6_readTimes F a0 a1 h = some (r, h1)) (hr : RI k d cX6_readTimes r h1) : Wz k d h 0 [(0, .ref (ka k a0)), (1, .ref (ka k a1))] [] := by
  unfold X6_readTimes at hf
  refine x_aload_n o dX6_readTimes_0 1 rfl rfl ?_
  obtain ⟨k_1, hf⟩ := gq_ex hf
  obtain ⟨c_2, ec_2, hf⟩ := ob_ex hf
  refine vRX6_42 [] [] o (C_X9_sign o.1.2.2.2.2.2.2.1 o.2 F ec_2) (by decide) k_1 rfl rfl (Nat.le_of_ble_eq_true rfl) dX6_readTimes_1 ?_
  refine x_istore_n o dX6_readTimes_4 (by decide) rfl [(2, .int c_2), (0, .ref (ka k a0)), (1, .ref (ka k a1))] rfl ?_
  refine x_iload_n o dX6_readTimes_5 0 rfl rfl ?_
  refine x_bipush (v := 50) o dX6_readTimes_6 (by decide) ?_
  refine x_bipush (v := 57) o dX6_readTimes_8 (by decide) ?_
  obtain ⟨c_4, ec_4, hf⟩ := ob_ex hf
  refine vRX6_68 [.int c_2, .int 50, .int 57] [] o (C_X11_within o.1.2.2.2.2.2.2.1 o.2 F ec_4) (by decide) rfl rfl (Nat.le_of_ble_eq_true rfl) dX6_readTimes_10 ?_
  refine x_if_eq o 31 dX6_readTimes_13 (by decide) (fun q_6 => ?_) (fun q_6 => ?_)
  · replace hf := (if_pos q_6).symm.trans hf
    refine x_iconst (v := 1) o dX6_readTimes_31 (by decide) ?_
    cases hf
    exact hr _ _ dX6_readTimes_32
  · replace hf := (if_neg q_6).symm.trans hf
    refine x_aload_n o dX6_readTimes_16 2 rfl rfl ?_
    refine x_aload_n o dX6_readTimes_17 2 rfl rfl ?_
    refine gRX6_35 o k_1 dX6_readTimes_18 ?_
    refine x_iconst (v := 1) o dX6_readTimes_21 (by decide) ?_
    refine x_iadd o dX6_readTimes_22 ?_
    obtain ⟨c_7, ec_7, hf⟩ := ob_ex hf
    refine vRX6_72 [.int ((h.1 a1 2) + 1)] [] o (C_X9_at o.1.2.2.2.2.2.2.1 o.2 F ec_7) (by decide) k_1 rfl rfl (Nat.le_of_ble_eq_true rfl) dX6_readTimes_23 ?_
    refine x_bipush (v := 120) o dX6_readTimes_26 (by decide) ?_
    refine x_icmp_eq o 33 dX6_readTimes_28 (by decide) (fun q_9 => ?_) (fun q_9 => ?_)
    · replace hf := (if_pos q_9).symm.trans hf
      refine x_aload_n o dX6_readTimes_33 2 rfl rfl ?_
      refine x_dup o dX6_readTimes_34 rfl ?_
      refine gRX6_35 o k_1 dX6_readTimes_35 ?_
      refine x_iconst (v := 2) o dX6_readTimes_38 (by decide) ?_
      refine x_iadd o dX6_readTimes_39 ?_
      obtain ⟨h_10, eh_10, hf⟩ := bd_ex hf
      refine pRX6_35 o k_1 eh_10 dX6_readTimes_40 ?_
      refine x_iload_n o dX6_readTimes_43 0 rfl rfl ?_
      refine x_bipush (v := 48) o dX6_readTimes_44 (by decide) ?_
      refine x_isub o dX6_readTimes_46 ?_
      cases hf
      exact hr _ _ dX6_readTimes_47
    · replace hf := (if_neg q_9).symm.trans hf
      refine x_iconst (v := 1) o dX6_readTimes_31 (by decide) ?_
      cases hf
      exact hr _ _ dX6_readTimes_32
theorem C_X6_readTimes {k : Kst} (hj : Dj k) (hn : kn k = kdl.length) (F : Nat) {h : Hp} {a0 : Nat} {a1 : Nat} {r : Int32} {h1 : Hp} (hf : X6_readTimes F a0 a1 h = some (r, h1)) : MI k 5 yX6_readTimes cX6_readTimes 3 (some .int) [.ref (ka k a0), .ref (ka k a1)] h r h1 := mI hj hn (by decide +kernel) (Nat.le_of_ble_eq_true rfl) (fun d o hr => S_X6_readTimes_0 o F hf hr)
set_option maxRecDepth 100000 in
set_option maxHeartbeats 4000000 in
theorem S_X6_addArch_0 {k : Kst} {d : Kdy} (o : Ok k d cX6_addArch RX6 2 4) (F : Nat) {h : Hp} {a0 : Nat} {x1 : Int32} {h1 : Hp} (hf : X6_addArch F a0 x1 h = some h1) (hr : RV k d cX6_addArch h1) : Wz k d h 0 [(0, .ref (ka k a0)), (1, .int x1)] [] := by
  unfold X6_addArch at hf
  refine x_aload_n o dX6_addArch_0 0 rfl rfl ?_
  obtain ⟨k_1, hf⟩ := gq_ex hf
  obtain ⟨j_2, ej_2, hf⟩ := ob_ex hf
  refine gRX6_9 o k_1 ej_2 dX6_addArch_1 ?_
  refine x_aload_n o dX6_addArch_4 0 rfl rfl ?_
  refine gRX6_15 o k_1 dX6_addArch_5 ?_
  refine x_iload_n o dX6_addArch_8 1 rfl rfl ?_
  obtain ⟨h_4, eh_4, hf⟩ := ob_ex hf
  refine vRX6_83 [.ref (ka k j_2), .int (h.1 a0 1), .int x1] [] o (C_X11_put o.1.2.2.2.2.2.2.1 o.2 F eh_4) (by decide) rfl rfl (Nat.le_of_ble_eq_true rfl) dX6_addArch_9 ?_
  refine x_aload_n o dX6_addArch_12 0 rfl rfl ?_
  refine x_dup o dX6_addArch_13 rfl ?_
  refine gRX6_15 o k_1 dX6_addArch_14 ?_
  refine x_iconst (v := 1) o dX6_addArch_17 (by decide) ?_
  refine x_iadd o dX6_addArch_18 ?_
  obtain ⟨h_5, eh_5, hf⟩ := bd_ex hf
  refine pRX6_15 o k_1 eh_5 dX6_addArch_19 ?_
  cases hf
  exact hr _ _ dX6_addArch_22
theorem C_X6_addArch {k : Kst} (hj : Dj k) (hn : kn k = kdl.length) (F : Nat) {h : Hp} {a0 : Nat} {x1 : Int32} {h1 : Hp} (hf : X6_addArch F a0 x1 h = some h1) : MV k 4 yX6_addArch cX6_addArch 2 [.ref (ka k a0), .int x1] h h1 := mV hj hn (by decide +kernel) (Nat.le_of_ble_eq_true rfl) (fun d o hr => S_X6_addArch_0 o F hf hr)
set_option maxRecDepth 100000 in
set_option maxHeartbeats 4000000 in
theorem S_X6_repeat_17 {k : Kst} {d : Kdy} (o : Ok k d cX6_repeat RX6 6 5) (F : Nat) {k8 : Nat → Int32 → Int32 → Int32 → Int32 → Hp → Option Hp} (hk8 : ∀ {h : Hp} {a0 : Nat} {x1 : Int32} {x2 : Int32} {x3 : Int32} {x4 : Int32} {h1 : Hp}, k8 a0 x1 x2 x3 x4 h = some h1 → RV k d cX6_repeat h1 → Wz k d h 8 [(0, .ref (ka k a0)), (1, .int x1), (2, .int x2), (3, .int x3), (4, .int x4)] []) : ∀ (f : Nat) {h : Hp} {a0 : Nat} {x1 : Int32} {x2 : Int32} {x3 : Int32} {x4 : Int32} {x5 : Int32} {h1 : Hp}, X6_repeat_17 F k8 f a0 x1 x2 x3 x4 x5 h = some h1 → RV k d cX6_repeat h1 → Wz k d h 17 [(0, .ref (ka k a0)), (1, .int x1), (2, .int x2), (3, .int x3), (4, .int x4), (5, .int x5)] [] := by
  intro f
  induction f with
  | zero =>
    intro h a0 x1 x2 x3 x4 x5 h1 hf hr
    exact nomatch (show (none : Option _) = some _ from hf)
  | succ f ih =>
    intro h a0 x1 x2 x3 x4 x5 h1 hf hr
    rw [X6_repeat_17] at hf
    refine x_iload o dX6_repeat_17 5 rfl ?_
    refine x_iload_n o dX6_repeat_19 3 rfl rfl ?_
    refine x_icmp_ge o 42 dX6_repeat_20 (by decide) (fun q_1 => ?_) (fun q_1 => ?_)
    · replace hf := (if_pos q_1).symm.trans hf
      obtain ⟨x4_2, ex4_2, hf⟩ := bd_ex hf
      refine x_iinc o dX6_repeat_42 (by decide) 4 rfl ex4_2.symm [(4, .int x4_2), (0, .ref (ka k a0)), (1, .int x1), (2, .int x2), (3, .int x3), (5, .int x5)] rfl ?_
      refine x_goto o 8 dX6_repeat_45 (by decide) ?_
      refine x_sub [1, 2, 3, 4, 0] [(0, .ref (ka k a0)), (1, .int x1), (2, .int x2), (3, .int x3), (4, .int x4_2)] rfl ?_
      exact hk8 hf hr
    · replace hf := (if_neg q_1).symm.trans hf
      refine x_aload_n o dX6_repeat_23 0 rfl rfl ?_
      refine x_aload_n o dX6_repeat_24 0 rfl rfl ?_
      obtain ⟨k_3, hf⟩ := gq_ex hf
      obtain ⟨j_4, ej_4, hf⟩ := ob_ex hf
      refine gRX6_9 o k_3 ej_4 dX6_repeat_25 ?_
      refine x_iload o dX6_repeat_28 5 rfl ?_
      obtain ⟨c_5, ec_5, hf⟩ := ob_ex hf
      refine vRX6_79 [.ref (ka k j_4), .int x5] [.ref (ka k a0)] o (C_X11_get o.1.2.2.2.2.2.2.1 o.2 F ec_5) (by decide) rfl rfl (Nat.le_of_ble_eq_true rfl) dX6_repeat_30 ?_
      obtain ⟨h_8, eh_8, hf⟩ := ob_ex hf
      refine vRX6_53 [.int c_5] [] o (C_X6_addArch o.1.2.2.2.2.2.2.1 o.2 F eh_8) (by decide) k_3 rfl rfl (Nat.le_of_ble_eq_true rfl) dX6_repeat_33 ?_
      obtain ⟨x5_9, ex5_9, hf⟩ := bd_ex hf
      refine x_iinc o dX6_repeat_36 (by decide) 5 rfl ex5_9.symm [(5, .int x5_9), (0, .ref (ka k a0)), (1, .int x1), (2, .int x2), (3, .int x3), (4, .int x4)] rfl ?_
      refine x_goto o 17 dX6_repeat_39 (by decide) ?_
      refine x_sub [1, 2, 3, 4, 5, 0] [(0, .ref (ka k a0)), (1, .int x1), (2, .int x2), (3, .int x3), (4, .int x4), (5, .int x5_9)] rfl ?_
      exact ih hf hr
set_option maxRecDepth 100000 in
set_option maxHeartbeats 4000000 in
theorem S_X6_repeat_8 {k : Kst} {d : Kdy} (o : Ok k d cX6_repeat RX6 6 5) (F : Nat) : ∀ (f : Nat) {h : Hp} {a0 : Nat} {x1 : Int32} {x2 : Int32} {x3 : Int32} {x4 : Int32} {h1 : Hp}, X6_repeat_8 F f a0 x1 x2 x3 x4 h = some h1 → RV k d cX6_repeat h1 → Wz k d h 8 [(0, .ref (ka k a0)), (1, .int x1), (2, .int x2), (3, .int x3), (4, .int x4)] [] := by
  intro f
  induction f with
  | zero =>
    intro h a0 x1 x2 x3 x4 h1 hf hr
    exact nomatch (show (none : Option _) = some _ from hf)
  | succ f ih =>
    intro h a0 x1 x2 x3 x4 h1 hf hr
    rw [X6_repeat_8] at hf
    refine x_iload o dX6_repeat_8 4 rfl ?_
    refine x_iload_n o dX6_repeat_10 2 rfl rfl ?_
    refine x_icmp_ge o 48 dX6_repeat_11 (by decide) (fun q_1 => ?_) (fun q_1 => ?_)
    · replace hf := (if_pos q_1).symm.trans hf
      cases hf
      exact hr _ _ dX6_repeat_48
    · replace hf := (if_neg q_1).symm.trans hf
      refine x_iload_n o dX6_repeat_14 1 rfl rfl ?_
      refine x_istore o dX6_repeat_15 (by decide) [(5, .int x1), (0, .ref (ka k a0)), (1, .int x1), (2, .int x2), (3, .int x3), (4, .int x4)] rfl ?_
      refine x_sub [1, 2, 3, 4, 5, 0] [(0, .ref (ka k a0)), (1, .int x1), (2, .int x2), (3, .int x3), (4, .int x4), (5, .int x1)] rfl ?_
      exact S_X6_repeat_17 o F (fun q1 q2 => ih q1 q2) _ hf hr
set_option maxRecDepth 100000 in
set_option maxHeartbeats 4000000 in
theorem S_X6_repeat_0 {k : Kst} {d : Kdy} (o : Ok k d cX6_repeat RX6 6 5) (F : Nat) {h : Hp} {a0 : Nat} {x1 : Int32} {x2 : Int32} {h1 : Hp} (hf : X6_repeat F a0 x1 x2 h = some h1) (hr : RV k d cX6_repeat h1) : Wz k d h 0 [(0, .ref (ka k a0)), (1, .int x1), (2, .int x2)] [] := by
  unfold X6_repeat at hf
  refine x_aload_n o dX6_repeat_0 0 rfl rfl ?_
  obtain ⟨k_1, hf⟩ := gq_ex hf
  refine gRX6_15 o k_1 dX6_repeat_1 ?_
  obtain ⟨x3_2, ex3_2, hf⟩ := bd_ex hf
  refine x_top ex3_2 ?_
  refine x_istore_n o dX6_repeat_4 (by decide) rfl [(3, .int x3_2), (0, .ref (ka k a0)), (1, .int x1), (2, .int x2)] rfl ?_
  refine x_iconst (v := 1) o dX6_repeat_5 (by decide) ?_
  refine x_istore o dX6_repeat_6 (by decide) [(4, .int 1), (3, .int x3_2), (0, .ref (ka k a0)), (1, .int x1), (2, .int x2)] rfl ?_
  refine x_sub [2, 3, 4, 1, 0] [(0, .ref (ka k a0)), (1, .int x1), (2, .int x2), (3, .int x3_2), (4, .int 1)] rfl ?_
  exact S_X6_repeat_8 o F _ hf hr
theorem C_X6_repeat {k : Kst} (hj : Dj k) (hn : kn k = kdl.length) (F : Nat) {h : Hp} {a0 : Nat} {x1 : Int32} {x2 : Int32} {h1 : Hp} (hf : X6_repeat F a0 x1 x2 h = some h1) : MV k 5 yX6_repeat cX6_repeat 6 [.ref (ka k a0), .int x1, .int x2] h h1 := mV hj hn (by decide +kernel) (Nat.le_of_ble_eq_true rfl) (fun d o hr => S_X6_repeat_0 o F hf hr)
set_option maxRecDepth 100000 in
set_option maxHeartbeats 4000000 in
theorem S_X6_readGroup_0 {k : Kst} {d : Kdy} {lev : Nat} (o : Ok k d cX6_readGroup RX6 3 lev) (F : Nat) {rc : Nat → Nat → Nat → Int32 → Hp → Option Hp} {lv : Nat} (hb : 7 ≤ lev) (hlv : lv + 1 ≤ lev) (hrc_0 : ∀ {a0 : Nat} {a1 : Nat} {x2 : Int32} {h : Hp} {h1 : Hp}, rc 0 a0 a1 x2 h = some h1 → MV k lv yX6_readGroup cX6_readGroup 3 [.ref (ka k a0), .ref (ka k a1), .int x2] h h1) (hrc_1 : ∀ {a0 : Nat} {a1 : Nat} {x2 : Int32} {h : Hp} {h1 : Hp}, rc 1 a0 a1 x2 h = some h1 → MV k lv yX6_readItem cX6_readItem 6 [.ref (ka k a0), .ref (ka k a1), .int x2] h h1) (hrc_2 : ∀ {a0 : Nat} {a1 : Nat} {x2 : Int32} {h : Hp} {h1 : Hp}, rc 2 a0 a1 x2 h = some h1 → MV k lv yX6_readItems cX6_readItems 4 [.ref (ka k a0), .ref (ka k a1), .int x2] h h1) {h : Hp} {a0 : Nat} {a1 : Nat} {x2 : Int32} {h1 : Hp} (hf : X6_readGroup F rc a0 a1 x2 h = some h1) (hr : RV k d cX6_readGroup h1) : Wz k d h 0 [(0, .ref (ka k a0)), (1, .ref (ka k a1)), (2, .int x2)] [] := by
  unfold X6_readGroup at hf
  refine x_iload_n o dX6_readGroup_0 2 rfl rfl ?_
  refine x_iconst (v := 2) o dX6_readGroup_1 (by decide) ?_
  refine x_icmp_lt o 15 dX6_readGroup_2 (by decide) (fun q_1 => ?_) (fun q_1 => ?_)
  · replace hf := (if_pos q_1).symm.trans hf
    refine x_aload_n o dX6_readGroup_15 1 rfl rfl ?_
    refine x_bipush (v := 40) o dX6_readGroup_16 (by decide) ?_
    obtain ⟨k_2, hf⟩ := gq_ex hf
    obtain ⟨h_4, eh_4, hf⟩ := ob_ex hf
    refine vRX6_76 [.int 40] [] o (C_X9_pass o.1.2.2.2.2.2.2.1 o.2 F eh_4) (by omega) k_2 rfl rfl (Nat.le_of_ble_eq_true rfl) dX6_readGroup_18 ?_
    refine x_aload_n o dX6_readGroup_21 0 rfl rfl ?_
    refine x_aload_n o dX6_readGroup_22 1 rfl rfl ?_
    refine x_iload_n o dX6_readGroup_23 2 rfl rfl ?_
    refine x_iconst (v := 1) o dX6_readGroup_24 (by decide) ?_
    refine x_iadd o dX6_readGroup_25 ?_
    obtain ⟨k_5, hf⟩ := gq_ex hf
    obtain ⟨h_7, eh_7, hf⟩ := ob_ex hf
    refine vRX6_19 [.ref (ka k a1), .int (x2 + 1)] [] o (hrc_2 eh_7) hlv k_5 rfl rfl (Nat.le_of_ble_eq_true rfl) dX6_readGroup_26 ?_
    refine x_aload_n o dX6_readGroup_29 1 rfl rfl ?_
    refine x_bipush (v := 41) o dX6_readGroup_30 (by decide) ?_
    obtain ⟨h_9, eh_9, hf⟩ := ob_ex hf
    refine vRX6_76 [.int 41] [] o (C_X9_pass o.1.2.2.2.2.2.2.1 o.2 F eh_9) (by omega) k_2 rfl rfl (Nat.le_of_ble_eq_true rfl) dX6_readGroup_32 ?_
    cases hf
    exact hr _ _ dX6_readGroup_35
  · replace hf := (if_neg q_1).symm.trans hf
    refine x_aload_n o dX6_readGroup_5 1 rfl rfl ?_
    refine x_iconst (v := 5) o dX6_readGroup_6 (by decide) ?_
    refine x_aload_n o dX6_readGroup_7 1 rfl rfl ?_
    obtain ⟨k_10, hf⟩ := gq_ex hf
    refine gRX6_35 o k_10 dX6_readGroup_8 ?_
    obtain ⟨h_12, eh_12, hf⟩ := ob_ex hf
    refine vRX6_65 [.int 5, .int (h.1 a1 2)] [] o (C_X9_refuse o.1.2.2.2.2.2.2.1 o.2 F eh_12) (by omega) k_10 rfl rfl (Nat.le_of_ble_eq_true rfl) dX6_readGroup_11 ?_
    cases hf
    exact hr _ _ dX6_readGroup_14
set_option maxRecDepth 100000 in
set_option maxHeartbeats 4000000 in
theorem S_X6_readItem_64 {k : Kst} {d : Kdy} {lev : Nat} (o : Ok k d cX6_readItem RX6 6 lev) (F : Nat) {rc : Nat → Nat → Nat → Int32 → Hp → Option Hp} {lv : Nat} (hb : 7 ≤ lev) (hlv : lv + 1 ≤ lev) (hrc_0 : ∀ {a0 : Nat} {a1 : Nat} {x2 : Int32} {h : Hp} {h1 : Hp}, rc 0 a0 a1 x2 h = some h1 → MV k lv yX6_readGroup cX6_readGroup 3 [.ref (ka k a0), .ref (ka k a1), .int x2] h h1) (hrc_1 : ∀ {a0 : Nat} {a1 : Nat} {x2 : Int32} {h : Hp} {h1 : Hp}, rc 1 a0 a1 x2 h = some h1 → MV k lv yX6_readItem cX6_readItem 6 [.ref (ka k a0), .ref (ka k a1), .int x2] h h1) (hrc_2 : ∀ {a0 : Nat} {a1 : Nat} {x2 : Int32} {h : Hp} {h1 : Hp}, rc 2 a0 a1 x2 h = some h1 → MV k lv yX6_readItems cX6_readItems 4 [.ref (ka k a0), .ref (ka k a1), .int x2] h h1) {h : Hp} {a0 : Nat} {a1 : Nat} {x3 : Int32} {h1 : Hp} (hf : X6_readItem_64 F rc a0 a1 x3 h = some h1) (hr : RV k d cX6_readItem h1) : Wz k d h 64 [(0, .ref (ka k a0)), (1, .ref (ka k a1)), (3, .int x3)] [] := by
  unfold X6_readItem_64 at hf
  refine x_aload_n o dX6_readItem_64 0 rfl rfl ?_
  obtain ⟨k_1, hf⟩ := gq_ex hf
  refine gRX6_15 o k_1 dX6_readItem_65 ?_
  refine x_bipush (v := 20) o dX6_readItem_68 (by decide) ?_
  refine x_icmp_le o 80 dX6_readItem_70 (by decide) (fun q_2 => ?_) (fun q_2 => ?_)
  · replace hf := (if_pos q_2).symm.trans hf
    cases hf
    exact hr _ _ dX6_readItem_80
  · replace hf := (if_neg q_2).symm.trans hf
    refine x_aload_n o dX6_readItem_73 1 rfl rfl ?_
    refine x_bipush (v := 6) o dX6_readItem_74 (by decide) ?_
    refine x_iload_n o dX6_readItem_76 2 rfl rfl ?_
    obtain ⟨k_3, hf⟩ := gq_ex hf
    obtain ⟨h_5, eh_5, hf⟩ := ob_ex hf
    refine vRX6_65 [.int 6, .int x3] [] o (C_X9_refuse o.1.2.2.2.2.2.2.1 o.2 F eh_5) (by omega) k_3 rfl rfl (Nat.le_of_ble_eq_true rfl) dX6_readItem_77 ?_
    cases hf
    exact hr _ _ dX6_readItem_80
set_option maxRecDepth 100000 in
set_option maxHeartbeats 4000000 in
theorem S_X6_readItem_49 {k : Kst} {d : Kdy} {lev : Nat} (o : Ok k d cX6_readItem RX6 6 lev) (F : Nat) {rc : Nat → Nat → Nat → Int32 → Hp → Option Hp} {lv : Nat} (hb : 7 ≤ lev) (hlv : lv + 1 ≤ lev) (hrc_0 : ∀ {a0 : Nat} {a1 : Nat} {x2 : Int32} {h : Hp} {h1 : Hp}, rc 0 a0 a1 x2 h = some h1 → MV k lv yX6_readGroup cX6_readGroup 3 [.ref (ka k a0), .ref (ka k a1), .int x2] h h1) (hrc_1 : ∀ {a0 : Nat} {a1 : Nat} {x2 : Int32} {h : Hp} {h1 : Hp}, rc 1 a0 a1 x2 h = some h1 → MV k lv yX6_readItem cX6_readItem 6 [.ref (ka k a0), .ref (ka k a1), .int x2] h h1) (hrc_2 : ∀ {a0 : Nat} {a1 : Nat} {x2 : Int32} {h : Hp} {h1 : Hp}, rc 2 a0 a1 x2 h = some h1 → MV k lv yX6_readItems cX6_readItems 4 [.ref (ka k a0), .ref (ka k a1), .int x2] h h1) {h : Hp} {a0 : Nat} {a1 : Nat} {x3 : Int32} {x4 : Int32} {x5 : Int32} {h1 : Hp} (hf : X6_readItem_49 F rc a0 a1 x3 x4 x5 h = some h1) (hr : RV k d cX6_readItem h1) : Wz k d h 49 [(0, .ref (ka k a0)), (1, .ref (ka k a1)), (3, .int x3), (4, .int x4), (5, .int x5)] [] := by
  unfold X6_readItem_49 at hf
  refine x_aload_n o dX6_readItem_49 1 rfl rfl ?_
  obtain ⟨k_1, hf⟩ := gq_ex hf
  obtain ⟨c_2, ec_2, hf⟩ := ob_ex hf
  refine vRX6_57 [] [] o (C_X9_sound o.1.2.2.2.2.2.2.1 o.2 F ec_2) (by omega) k_1 rfl rfl (Nat.le_of_ble_eq_true rfl) dX6_readItem_50 ?_
  refine x_if_eq o 64 dX6_readItem_53 (by decide) (fun q_4 => ?_) (fun q_4 => ?_)
  · replace hf := (if_pos q_4).symm.trans hf
    refine x_sub [0, 1, 2] [(0, .ref (ka k a0)), (1, .ref (ka k a1)), (3, .int x3)] rfl ?_
    exact S_X6_readItem_64 o F hb hlv hrc_0 hrc_1 hrc_2 hf hr
  · replace hf := (if_neg q_4).symm.trans hf
    refine x_aload_n o dX6_readItem_56 0 rfl rfl ?_
    refine x_iload o dX6_readItem_57 3 rfl ?_
    refine x_iload o dX6_readItem_59 4 rfl ?_
    obtain ⟨k_5, hf⟩ := gq_ex hf
    obtain ⟨h_7, eh_7, hf⟩ := ob_ex hf
    refine vRX6_61 [.int x4, .int x5] [] o (C_X6_repeat o.1.2.2.2.2.2.2.1 o.2 F eh_7) (by omega) k_5 rfl rfl (Nat.le_of_ble_eq_true rfl) dX6_readItem_61 ?_
    refine x_sub [0, 1, 2] [(0, .ref (ka k a0)), (1, .ref (ka k a1)), (3, .int x3)] rfl ?_
    exact S_X6_readItem_64 o F hb hlv hrc_0 hrc_1 hrc_2 hf hr
set_option maxRecDepth 100000 in
set_option maxHeartbeats 4000000 in
theorem S_X6_readItem_0 {k : Kst} {d : Kdy} {lev : Nat} (o : Ok k d cX6_readItem RX6 6 lev) (F : Nat) {rc : Nat → Nat → Nat → Int32 → Hp → Option Hp} {lv : Nat} (hb : 7 ≤ lev) (hlv : lv + 1 ≤ lev) (hrc_0 : ∀ {a0 : Nat} {a1 : Nat} {x2 : Int32} {h : Hp} {h1 : Hp}, rc 0 a0 a1 x2 h = some h1 → MV k lv yX6_readGroup cX6_readGroup 3 [.ref (ka k a0), .ref (ka k a1), .int x2] h h1) (hrc_1 : ∀ {a0 : Nat} {a1 : Nat} {x2 : Int32} {h : Hp} {h1 : Hp}, rc 1 a0 a1 x2 h = some h1 → MV k lv yX6_readItem cX6_readItem 6 [.ref (ka k a0), .ref (ka k a1), .int x2] h h1) (hrc_2 : ∀ {a0 : Nat} {a1 : Nat} {x2 : Int32} {h : Hp} {h1 : Hp}, rc 2 a0 a1 x2 h = some h1 → MV k lv yX6_readItems cX6_readItems 4 [.ref (ka k a0), .ref (ka k a1), .int x2] h h1) {h : Hp} {a0 : Nat} {a1 : Nat} {x2 : Int32} {h1 : Hp} (hf : X6_readItem F rc a0 a1 x2 h = some h1) (hr : RV k d cX6_readItem h1) : Wz k d h 0 [(0, .ref (ka k a0)), (1, .ref (ka k a1)), (2, .int x2)] [] := by
  unfold X6_readItem at hf
  refine x_aload_n o dX6_readItem_0 1 rfl rfl ?_
  obtain ⟨k_1, hf⟩ := gq_ex hf
  refine gRX6_35 o k_1 dX6_readItem_1 ?_
  obtain ⟨x3_2, ex3_2, hf⟩ := bd_ex hf
  refine x_top ex3_2 ?_
  refine x_istore_n o dX6_readItem_4 (by decide) rfl [(3, .int x3_2), (0, .ref (ka k a0)), (1, .ref (ka k a1)), (2, .int x2)] rfl ?_
  refine x_aload_n o dX6_readItem_5 1 rfl rfl ?_
  obtain ⟨k_3, hf⟩ := gq_ex hf
  refine gRX6_15 o k_3 dX6_readItem_6 ?_
  obtain ⟨x4_4, ex4_4, hf⟩ := bd_ex hf
  refine x_top ex4_4 ?_
  refine x_istore o dX6_readItem_9 (by decide) [(4, .int x4_4), (3, .int x3_2), (0, .ref (ka k a0)), (1, .ref (ka k a1)), (2, .int x2)] rfl ?_
  refine x_aload_n o dX6_readItem_11 2 rfl rfl ?_
  refine x_aload_n o dX6_readItem_12 3 rfl rfl ?_
  obtain ⟨c_5, h_6, ec_5, hf⟩ := bq_ex hf
  refine vRX6_38 [.ref (ka k a1)] [] o (C_X6_readTimes o.1.2.2.2.2.2.2.1 o.2 F ec_5) (by omega) k_3 rfl rfl (Nat.le_of_ble_eq_true rfl) dX6_readItem_13 ?_
  refine x_istore o dX6_readItem_16 (by decide) [(5, .int c_5), (4, .int x4_4), (3, .int x3_2), (0, .ref (ka k a0)), (1, .ref (ka k a1)), (2, .int x2)] rfl ?_
  refine x_aload_n o dX6_readItem_18 4 rfl rfl ?_
  obtain ⟨c_7, ec_7, hf⟩ := ob_ex hf
  refine vRX6_42 [] [] o (C_X9_sign o.1.2.2.2.2.2.2.1 o.2 F ec_7) (by omega) k_1 rfl rfl (Nat.le_of_ble_eq_true rfl) dX6_readItem_19 ?_
  refine x_bipush (v := 40) o dX6_readItem_22 (by decide) ?_
  refine x_icmp_ne o 36 dX6_readItem_24 (by decide) (fun q_9 => ?_) (fun q_9 => ?_)
  · replace hf := (if_neg q_9).symm.trans hf
    refine x_aload_n o dX6_readItem_36 3 rfl rfl ?_
    refine x_aload_n o dX6_readItem_37 4 rfl rfl ?_
    refine x_iconst (v := 3) o dX6_readItem_38 (by decide) ?_
    refine x_iconst (v := 1) o dX6_readItem_39 (by decide) ?_
    refine x_sipush (v := 255) o dX6_readItem_40 (by decide) ?_
    obtain ⟨c_10, h_11, ec_10, hf⟩ := bq_ex hf
    refine vRX6_49 [.int 3, .int 1, .int 255] [.ref (ka k a0)] o (C_X9_readBounded o.1.2.2.2.2.2.2.1 o.2 F ec_10) (by omega) k_1 rfl rfl (Nat.le_of_ble_eq_true rfl) dX6_readItem_43 ?_
    obtain ⟨h_13, eh_13, hf⟩ := ob_ex hf
    refine vRX6_53 [.int c_10] [] o (C_X6_addArch o.1.2.2.2.2.2.2.1 o.2 F eh_13) (by omega) k_3 rfl rfl (Nat.le_of_ble_eq_true rfl) dX6_readItem_46 ?_
    refine x_sub [3, 4, 2, 1, 0] [(0, .ref (ka k a0)), (1, .ref (ka k a1)), (3, .int x3_2), (4, .int x4_4), (5, .int c_5)] rfl ?_
    exact S_X6_readItem_49 o F hb hlv hrc_0 hrc_1 hrc_2 hf hr
  · replace hf := (if_pos q_9).symm.trans hf
    refine x_aload_n o dX6_readItem_27 3 rfl rfl ?_
    refine x_aload_n o dX6_readItem_28 4 rfl rfl ?_
    refine x_iload_n o dX6_readItem_29 5 rfl rfl ?_
    obtain ⟨h_15, eh_15, hf⟩ := ob_ex hf
    refine vRX6_46 [.ref (ka k a1), .int x2] [] o (hrc_0 eh_15) hlv k_3 rfl rfl (Nat.le_of_ble_eq_true rfl) dX6_readItem_30 ?_
    refine x_goto o 49 dX6_readItem_33 (by decide) ?_
    refine x_sub [3, 4, 2, 1, 0] [(0, .ref (ka k a0)), (1, .ref (ka k a1)), (3, .int x3_2), (4, .int x4_4), (5, .int c_5)] rfl ?_
    exact S_X6_readItem_49 o F hb hlv hrc_0 hrc_1 hrc_2 hf hr
set_option maxRecDepth 100000 in
set_option maxHeartbeats 4000000 in
theorem S_X6_readItems_8 {k : Kst} {d : Kdy} {lev : Nat} (o : Ok k d cX6_readItems RX6 4 lev) (F : Nat) {rc : Nat → Nat → Nat → Int32 → Hp → Option Hp} {lv : Nat} (hb : 7 ≤ lev) (hlv : lv + 1 ≤ lev) (hrc_0 : ∀ {a0 : Nat} {a1 : Nat} {x2 : Int32} {h : Hp} {h1 : Hp}, rc 0 a0 a1 x2 h = some h1 → MV k lv yX6_readGroup cX6_readGroup 3 [.ref (ka k a0), .ref (ka k a1), .int x2] h h1) (hrc_1 : ∀ {a0 : Nat} {a1 : Nat} {x2 : Int32} {h : Hp} {h1 : Hp}, rc 1 a0 a1 x2 h = some h1 → MV k lv yX6_readItem cX6_readItem 6 [.ref (ka k a0), .ref (ka k a1), .int x2] h h1) (hrc_2 : ∀ {a0 : Nat} {a1 : Nat} {x2 : Int32} {h : Hp} {h1 : Hp}, rc 2 a0 a1 x2 h = some h1 → MV k lv yX6_readItems cX6_readItems 4 [.ref (ka k a0), .ref (ka k a1), .int x2] h h1) : ∀ (f : Nat) {h : Hp} {a0 : Nat} {a1 : Nat} {x2 : Int32} {x3 : Int32} {h1 : Hp}, X6_readItems_8 F rc f a0 a1 x2 x3 h = some h1 → RV k d cX6_readItems h1 → Wz k d h 8 [(0, .ref (ka k a0)), (1, .ref (ka k a1)), (2, .int x2), (3, .int x3)] [] := by
  intro f
  induction f with
  | zero =>
    intro h a0 a1 x2 x3 h1 hf hr
    exact nomatch (show (none : Option _) = some _ from hf)
  | succ f ih =>
    intro h a0 a1 x2 x3 h1 hf hr
    rw [X6_readItems_8] at hf
    refine x_iload_n o dX6_readItems_8 3 rfl rfl ?_
    refine x_bipush (v := 80) o dX6_readItems_9 (by decide) ?_
    refine x_icmp_ge o 35 dX6_readItems_11 (by decide) (fun q_1 => ?_) (fun q_1 => ?_)
    · replace hf := (if_pos q_1).symm.trans hf
      cases hf
      exact hr _ _ dX6_readItems_35
    · replace hf := (if_neg q_1).symm.trans hf
      refine x_aload_n o dX6_readItems_14 1 rfl rfl ?_
      refine x_bipush (v := 44) o dX6_readItems_15 (by decide) ?_
      obtain ⟨k_2, hf⟩ := gq_ex hf
      obtain ⟨c_3, h_4, ec_3, hf⟩ := bq_ex hf
      refine vRX6_31 [.int 44] [] o (C_X9_goesOn o.1.2.2.2.2.2.2.1 o.2 F ec_3) (by omega) k_2 rfl rfl (Nat.le_of_ble_eq_true rfl) dX6_readItems_17 ?_
      refine x_if_eq o 35 dX6_readItems_20 (by decide) (fun q_5 => ?_) (fun q_5 => ?_)
      · replace hf := (if_pos q_5).symm.trans hf
        cases hf
        exact hr _ _ dX6_readItems_35
      · replace hf := (if_neg q_5).symm.trans hf
        refine x_aload_n o dX6_readItems_23 0 rfl rfl ?_
        refine x_aload_n o dX6_readItems_24 1 rfl rfl ?_
        refine x_iload_n o dX6_readItems_25 2 rfl rfl ?_
        obtain ⟨k_6, hf⟩ := gq_ex hf
        obtain ⟨h_8, eh_8, hf⟩ := ob_ex hf
        refine vRX6_28 [.ref (ka k a1), .int x2] [] o (hrc_1 eh_8) hlv k_6 rfl rfl (Nat.le_of_ble_eq_true rfl) dX6_readItems_26 ?_
        obtain ⟨x3_9, ex3_9, hf⟩ := bd_ex hf
        refine x_iinc o dX6_readItems_29 (by decide) 3 rfl ex3_9.symm [(3, .int x3_9), (0, .ref (ka k a0)), (1, .ref (ka k a1)), (2, .int x2)] rfl ?_
        refine x_goto o 8 dX6_readItems_32 (by decide) ?_
        refine x_sub [1, 2, 3, 0] [(0, .ref (ka k a0)), (1, .ref (ka k a1)), (2, .int x2), (3, .int x3_9)] rfl ?_
        exact ih hf hr
set_option maxRecDepth 100000 in
set_option maxHeartbeats 4000000 in
theorem S_X6_readItems_0 {k : Kst} {d : Kdy} {lev : Nat} (o : Ok k d cX6_readItems RX6 4 lev) (F : Nat) {rc : Nat → Nat → Nat → Int32 → Hp → Option Hp} {lv : Nat} (hb : 7 ≤ lev) (hlv : lv + 1 ≤ lev) (hrc_0 : ∀ {a0 : Nat} {a1 : Nat} {x2 : Int32} {h : Hp} {h1 : Hp}, rc 0 a0 a1 x2 h = some h1 → MV k lv yX6_readGroup cX6_readGroup 3 [.ref (ka k a0), .ref (ka k a1), .int x2] h h1) (hrc_1 : ∀ {a0 : Nat} {a1 : Nat} {x2 : Int32} {h : Hp} {h1 : Hp}, rc 1 a0 a1 x2 h = some h1 → MV k lv yX6_readItem cX6_readItem 6 [.ref (ka k a0), .ref (ka k a1), .int x2] h h1) (hrc_2 : ∀ {a0 : Nat} {a1 : Nat} {x2 : Int32} {h : Hp} {h1 : Hp}, rc 2 a0 a1 x2 h = some h1 → MV k lv yX6_readItems cX6_readItems 4 [.ref (ka k a0), .ref (ka k a1), .int x2] h h1) {h : Hp} {a0 : Nat} {a1 : Nat} {x2 : Int32} {h1 : Hp} (hf : X6_readItems F rc a0 a1 x2 h = some h1) (hr : RV k d cX6_readItems h1) : Wz k d h 0 [(0, .ref (ka k a0)), (1, .ref (ka k a1)), (2, .int x2)] [] := by
  unfold X6_readItems at hf
  refine x_aload_n o dX6_readItems_0 0 rfl rfl ?_
  refine x_aload_n o dX6_readItems_1 1 rfl rfl ?_
  refine x_iload_n o dX6_readItems_2 2 rfl rfl ?_
  obtain ⟨k_1, hf⟩ := gq_ex hf
  obtain ⟨h_3, eh_3, hf⟩ := ob_ex hf
  refine vRX6_28 [.ref (ka k a1), .int x2] [] o (hrc_1 eh_3) hlv k_1 rfl rfl (Nat.le_of_ble_eq_true rfl) dX6_readItems_3 ?_
  refine x_iconst (v := 0) o dX6_readItems_6 (by decide) ?_
  refine x_istore_n o dX6_readItems_7 (by decide) rfl [(3, .int 0), (0, .ref (ka k a0)), (1, .ref (ka k a1)), (2, .int x2)] rfl ?_
  refine x_sub [1, 2, 3, 0] [(0, .ref (ka k a0)), (1, .ref (ka k a1)), (2, .int x2), (3, .int 0)] rfl ?_
  exact S_X6_readItems_8 o F hb hlv hrc_0 hrc_1 hrc_2 _ hf hr
set_option maxRecDepth 100000 in
set_option maxHeartbeats 4000000 in
theorem C_G2 {k : Kst} (hj : Dj k) (hn : kn k = kdl.length) (F : Nat) : ∀ G : Nat, (∀ {a0 : Nat} {a1 : Nat} {x2 : Int32} {h : Hp} {h1 : Hp}, G2 F G 0 a0 a1 x2 h = some h1 → MV k (7 + G) yX6_readGroup cX6_readGroup 3 [.ref (ka k a0), .ref (ka k a1), .int x2] h h1) ∧ (∀ {a0 : Nat} {a1 : Nat} {x2 : Int32} {h : Hp} {h1 : Hp}, G2 F G 1 a0 a1 x2 h = some h1 → MV k (7 + G) yX6_readItem cX6_readItem 6 [.ref (ka k a0), .ref (ka k a1), .int x2] h h1) ∧ (∀ {a0 : Nat} {a1 : Nat} {x2 : Int32} {h : Hp} {h1 : Hp}, G2 F G 2 a0 a1 x2 h = some h1 → MV k (7 + G) yX6_readItems cX6_readItems 4 [.ref (ka k a0), .ref (ka k a1), .int x2] h h1) := by
  intro G
  induction G with
  | zero =>
    refine ⟨?_, ?_, ?_⟩ <;> (intros; rename_i hf; exact nomatch (show (none : Option _) = some _ from hf))
  | succ G ih =>
    obtain ⟨i0, i1, i2⟩ := ih
    refine ⟨?_, ?_, ?_⟩
    · intro a0 a1 x2 h h1 hf
      exact mV hj hn (by decide +kernel) (Nat.le_of_ble_eq_true rfl) (fun d o hr => S_X6_readGroup_0 o F (rc := G2 F G) (lv := 7 + G) (by omega) (by omega) (fun q => i0 q) (fun q => i1 q) (fun q => i2 q) (show X6_readGroup F (G2 F G) a0 a1 x2 h = _ from hf) hr)
    · intro a0 a1 x2 h h1 hf
      exact mV hj hn (by decide +kernel) (Nat.le_of_ble_eq_true rfl) (fun d o hr => S_X6_readItem_0 o F (rc := G2 F G) (lv := 7 + G) (by omega) (by omega) (fun q => i0 q) (fun q => i1 q) (fun q => i2 q) (show X6_readItem F (G2 F G) a0 a1 x2 h = _ from hf) hr)
    · intro a0 a1 x2 h h1 hf
      exact mV hj hn (by decide +kernel) (Nat.le_of_ble_eq_true rfl) (fun d o hr => S_X6_readItems_0 o F (rc := G2 F G) (lv := 7 + G) (by omega) (by omega) (fun q => i0 q) (fun q => i1 q) (fun q => i2 q) (show X6_readItems F (G2 F G) a0 a1 x2 h = _ from hf) hr)

theorem C_X6_readGroup {k : Kst} (hj : Dj k) (hn : kn k = kdl.length) (F : Nat) {h : Hp} {a0 : Nat} {a1 : Nat} {x2 : Int32} {h1 : Hp} (hf : G2 F 60 0 a0 a1 x2 h = some h1) : MV k 67 yX6_readGroup cX6_readGroup 3 [.ref (ka k a0), .ref (ka k a1), .int x2] h h1 := (C_G2 hj hn F 60).1 hf
theorem C_X6_readItem {k : Kst} (hj : Dj k) (hn : kn k = kdl.length) (F : Nat) {h : Hp} {a0 : Nat} {a1 : Nat} {x2 : Int32} {h1 : Hp} (hf : G2 F 60 1 a0 a1 x2 h = some h1) : MV k 67 yX6_readItem cX6_readItem 6 [.ref (ka k a0), .ref (ka k a1), .int x2] h h1 := (C_G2 hj hn F 60).2.1 hf
theorem C_X6_readItems {k : Kst} (hj : Dj k) (hn : kn k = kdl.length) (F : Nat) {h : Hp} {a0 : Nat} {a1 : Nat} {x2 : Int32} {h1 : Hp} (hf : G2 F 60 2 a0 a1 x2 h = some h1) : MV k 67 yX6_readItems cX6_readItems 4 [.ref (ka k a0), .ref (ka k a1), .int x2] h h1 := (C_G2 hj hn F 60).2.2 hf
set_option maxRecDepth 100000 in
set_option maxHeartbeats 4000000 in
theorem S_X6_readAll_0 {k : Kst} {d : Kdy} (o : Ok k d cX6_readAll RX6 2 68) (F : Nat) {h : Hp} {a0 : Nat} {a1 : Nat} {h1 : Hp} (hf : X6_readAll F a0 a1 h = some h1) (hr : RV k d cX6_readAll h1) : Wz k d h 0 [(0, .ref (ka k a0)), (1, .ref (ka k a1))] [] := by
  unfold X6_readAll at hf
  refine x_aload_n o dX6_readAll_0 0 rfl rfl ?_
  refine x_iconst (v := 0) o dX6_readAll_1 (by decide) ?_
  obtain ⟨k_1, hf⟩ := gq_ex hf
  obtain ⟨h_2, eh_2, hf⟩ := bd_ex hf
  refine pRX6_15 o k_1 eh_2 dX6_readAll_2 ?_
  refine x_aload_n o dX6_readAll_5 0 rfl rfl ?_
  refine x_aload_n o dX6_readAll_6 1 rfl rfl ?_
  refine x_iconst (v := 0) o dX6_readAll_7 (by decide) ?_
  obtain ⟨h_4, eh_4, hf⟩ := ob_ex hf
  refine vRX6_19 [.ref (ka k a1), .int 0] [] o (C_X6_readItems o.1.2.2.2.2.2.2.1 o.2 F eh_4) (by decide) k_1 rfl rfl (Nat.le_of_ble_eq_true rfl) dX6_readAll_8 ?_
  refine x_aload_n o dX6_readAll_11 1 rfl rfl ?_
  obtain ⟨k_5, hf⟩ := gq_ex hf
  obtain ⟨h_7, eh_7, hf⟩ := ob_ex hf
  refine vRX6_23 [] [] o (C_X9_mustEnd o.1.2.2.2.2.2.2.1 o.2 F eh_7) (by decide) k_5 rfl rfl (Nat.le_of_ble_eq_true rfl) dX6_readAll_12 ?_
  cases hf
  exact hr _ _ dX6_readAll_15
theorem C_X6_readAll {k : Kst} (hj : Dj k) (hn : kn k = kdl.length) (F : Nat) {h : Hp} {a0 : Nat} {a1 : Nat} {h1 : Hp} (hf : X6_readAll F a0 a1 h = some h1) : MV k 68 yX6_readAll cX6_readAll 2 [.ref (ka k a0), .ref (ka k a1)] h h1 := mV hj hn (by decide +kernel) (Nat.le_of_ble_eq_true rfl) (fun d o hr => S_X6_readAll_0 o F hf hr)
set_option maxRecDepth 100000 in
set_option maxHeartbeats 4000000 in
theorem S_X7_evenest_14 {k : Kst} {d : Kdy} {lev : Nat} (o : Ok k d cX7_evenest RX7 9 lev) (F : Nat) {rc : Nat → Int32 → Int32 → Int32 → Int32 → Int32 → Hp → Option Int32} {lv : Nat} (hb : 4 ≤ lev) (hlv : lv + 1 ≤ lev) (hrc_0 : ∀ {a0 : Nat} {x1 : Int32} {x2 : Int32} {x3 : Int32} {x4 : Int32} {x5 : Int32} {h : Hp} {r : Int32}, rc a0 x1 x2 x3 x4 x5 h = some r → MI k lv yX7_evenest cX7_evenest 9 (some .int) [.ref (ka k a0), .int x1, .int x2, .int x3, .int x4, .int x5] h r h) {h : Hp} {x4 : Int32} {x5 : Int32} {r : Int32} (hf : X7_evenest_14 F rc x4 x5 h = some r) (hr : RI k d cX7_evenest r h) : Wz k d h 14 [(4, .int x4), (5, .int x5)] [] := by
  unfold X7_evenest_14 at hf
  refine x_iload o dX7_evenest_14 0 rfl ?_
  refine x_mabs o wRX7_33 (by omega) (Nat.le_of_ble_eq_true rfl) dX7_evenest_16 ?_
  refine x_bipush (v := 16) o dX7_evenest_19 (by decide) ?_
  refine x_imul o dX7_evenest_21 ?_
  refine x_iload o dX7_evenest_22 1 rfl ?_
  refine x_iadd o dX7_evenest_24 ?_
  cases hf
  exact hr _ _ dX7_evenest_25
set_option maxRecDepth 100000 in
set_option maxHeartbeats 4000000 in
theorem S_X7_evenest_0 {k : Kst} {d : Kdy} {lev : Nat} (o : Ok k d cX7_evenest RX7 9 lev) (F : Nat) {rc : Nat → Int32 → Int32 → Int32 → Int32 → Int32 → Hp → Option Int32} {lv : Nat} (hb : 4 ≤ lev) (hlv : lv + 1 ≤ lev) (hrc_0 : ∀ {a0 : Nat} {x1 : Int32} {x2 : Int32} {x3 : Int32} {x4 : Int32} {x5 : Int32} {h : Hp} {r : Int32}, rc a0 x1 x2 x3 x4 x5 h = some r → MI k lv yX7_evenest cX7_evenest 9 (some .int) [.ref (ka k a0), .int x1, .int x2, .int x3, .int x4, .int x5] h r h) {h : Hp} {a0 : Nat} {x1 : Int32} {x2 : Int32} {x3 : Int32} {x4 : Int32} {x5 : Int32} {r : Int32} (hf : X7_evenest F rc a0 x1 x2 x3 x4 x5 h = some r) (hr : RI k d cX7_evenest r h) : Wz k d h 0 [(0, .ref (ka k a0)), (1, .int x1), (2, .int x2), (3, .int x3), (4, .int x4), (5, .int x5)] [] := by
  unfold X7_evenest at hf
  refine x_iload_n o dX7_evenest_0 1 rfl rfl ?_
  refine x_aload_n o dX7_evenest_1 0 rfl rfl ?_
  obtain ⟨k_1, hf⟩ := gq_ex hf
  refine gRX7_27 o k_1 dX7_evenest_2 ?_
  refine x_icmp_ge o 14 dX7_evenest_5 (by decide) (fun q_2 => ?_) (fun q_2 => ?_)
  · replace hf := (if_pos q_2).symm.trans hf
    refine x_sub [4, 5] [(4, .int x4), (5, .int x5)] rfl ?_
    exact S_X7_evenest_14 o F hb hlv hrc_0 hf hr
  · replace hf := (if_neg q_2).symm.trans hf
    refine x_iload_n o dX7_evenest_8 1 rfl rfl ?_
    refine x_bipush (v := 8) o dX7_evenest_9 (by decide) ?_
    refine x_icmp_lt o 26 dX7_evenest_11 (by decide) (fun q_3 => ?_) (fun q_3 => ?_)
    · replace hf := (if_pos q_3).symm.trans hf
      refine x_aload_n o dX7_evenest_26 0 rfl rfl ?_
      refine x_iload_n o dX7_evenest_27 1 rfl rfl ?_
      refine x_iconst (v := 1) o dX7_evenest_28 (by decide) ?_
      refine x_iadd o dX7_evenest_29 ?_
      refine x_iload_n o dX7_evenest_30 2 rfl rfl ?_
      refine x_iload_n o dX7_evenest_31 3 rfl rfl ?_
      refine x_iload o dX7_evenest_32 4 rfl ?_
      refine x_iload o dX7_evenest_34 5 rfl ?_
      obtain ⟨c_4, ec_4, hf⟩ := ob_ex hf
      refine vRX7_39 [.ref (ka k a0), .int (x1 + 1), .int x2, .int x3, .int x4, .int x5] [] o (hrc_0 ec_4) hlv rfl rfl (Nat.le_of_ble_eq_true rfl) dX7_evenest_36 ?_
      refine x_istore o dX7_evenest_39 (by decide) [(6, .int c_4), (0, .ref (ka k a0)), (1, .int x1), (2, .int x2), (3, .int x3), (4, .int x4), (5, .int x5)] rfl ?_
      refine x_aload_n o dX7_evenest_41 1 rfl rfl ?_
      refine x_iload_n o dX7_evenest_42 2 rfl rfl ?_
      refine x_iconst (v := 1) o dX7_evenest_43 (by decide) ?_
      refine x_iadd o dX7_evenest_44 ?_
      refine x_iload_n o dX7_evenest_45 3 rfl rfl ?_
      refine x_iload_n o dX7_evenest_46 4 rfl rfl ?_
      refine x_iload o dX7_evenest_47 5 rfl ?_
      refine x_aload_n o dX7_evenest_49 1 rfl rfl ?_
      refine x_iload_n o dX7_evenest_50 2 rfl rfl ?_
      obtain ⟨c_6, ec_6, hf⟩ := ob_ex hf
      refine vRX7_43 [.int x1] [.int x4, .int x3, .int x2, .int (x1 + 1), .ref (ka k a0)] o (C_X9_at o.1.2.2.2.2.2.2.1 o.2 F ec_6) (by omega) k_1 rfl rfl (Nat.le_of_ble_eq_true rfl) dX7_evenest_51 ?_
      refine x_iload_n o dX7_evenest_54 3 rfl rfl ?_
      refine x_imul o dX7_evenest_55 ?_
      refine x_iadd o dX7_evenest_56 ?_
      refine x_iload o dX7_evenest_57 6 rfl ?_
      refine x_iconst (v := 1) o dX7_evenest_59 (by decide) ?_
      refine x_iadd o dX7_evenest_60 ?_
      obtain ⟨c_8, ec_8, hf⟩ := ob_ex hf
      refine vRX7_39 [.ref (ka k a0), .int (x1 + 1), .int x2, .int x3, .int (x4 + (c_6 * x2)), .int (x5 + 1)] [] o (hrc_0 ec_8) hlv rfl rfl (Nat.le_of_ble_eq_true rfl) dX7_evenest_61 ?_
      refine x_istore o dX7_evenest_64 (by decide) [(7, .int c_8), (6, .int c_4), (0, .ref (ka k a0)), (1, .int x1), (2, .int x2), (3, .int x3), (4, .int x4), (5, .int x5)] rfl ?_
      refine x_aload_n o dX7_evenest_66 2 rfl rfl ?_
      refine x_iload_n o dX7_evenest_67 3 rfl rfl ?_
      refine x_iconst (v := 1) o dX7_evenest_68 (by decide) ?_
      refine x_iadd o dX7_evenest_69 ?_
      refine x_iload_n o dX7_evenest_70 4 rfl rfl ?_
      refine x_iload_n o dX7_evenest_71 5 rfl rfl ?_
      refine x_iload o dX7_evenest_72 6 rfl ?_
      refine x_aload_n o dX7_evenest_74 2 rfl rfl ?_
      refine x_iload_n o dX7_evenest_75 3 rfl rfl ?_
      obtain ⟨c_10, ec_10, hf⟩ := ob_ex hf
      refine vRX7_43 [.int x1] [.int x4, .int x3, .int x2, .int (x1 + 1), .ref (ka k a0)] o (C_X9_at o.1.2.2.2.2.2.2.1 o.2 F ec_10) (by omega) k_1 rfl rfl (Nat.le_of_ble_eq_true rfl) dX7_evenest_76 ?_
      refine x_iload_n o dX7_evenest_79 5 rfl rfl ?_
      refine x_imul o dX7_evenest_80 ?_
      refine x_isub o dX7_evenest_81 ?_
      refine x_iload o dX7_evenest_82 7 rfl ?_
      refine x_iconst (v := 1) o dX7_evenest_84 (by decide) ?_
      refine x_iadd o dX7_evenest_85 ?_
      obtain ⟨c_12, ec_12, hf⟩ := ob_ex hf
      refine vRX7_39 [.ref (ka k a0), .int (x1 + 1), .int x2, .int x3, .int (x4 - (c_10 * x3)), .int (x5 + 1)] [] o (hrc_0 ec_12) hlv rfl rfl (Nat.le_of_ble_eq_true rfl) dX7_evenest_86 ?_
      refine x_istore o dX7_evenest_89 (by decide) [(8, .int c_12), (7, .int c_8), (6, .int c_4), (0, .ref (ka k a0)), (1, .int x1), (2, .int x2), (3, .int x3), (4, .int x4), (5, .int x5)] rfl ?_
      refine x_iload o dX7_evenest_91 2 rfl ?_
      refine x_iload o dX7_evenest_93 1 rfl ?_
      refine x_iload o dX7_evenest_95 0 rfl ?_
      refine x_mmin o wRX7_46 (by omega) (Nat.le_of_ble_eq_true rfl) dX7_evenest_97 ?_
      refine x_mmin o wRX7_46 (by omega) (Nat.le_of_ble_eq_true rfl) dX7_evenest_100 ?_
      cases hf
      exact hr _ _ dX7_evenest_103
    · replace hf := (if_neg q_3).symm.trans hf
      refine x_sub [4, 5] [(4, .int x4), (5, .int x5)] rfl ?_
      exact S_X7_evenest_14 o F hb hlv hrc_0 hf hr
set_option maxRecDepth 100000 in
set_option maxHeartbeats 4000000 in
theorem C_G3 {k : Kst} (hj : Dj k) (hn : kn k = kdl.length) (F : Nat) : ∀ G : Nat, (∀ {a0 : Nat} {x1 : Int32} {x2 : Int32} {x3 : Int32} {x4 : Int32} {x5 : Int32} {h : Hp} {r : Int32}, G3 F G a0 x1 x2 x3 x4 x5 h = some r → MI k (4 + G) yX7_evenest cX7_evenest 9 (some .int) [.ref (ka k a0), .int x1, .int x2, .int x3, .int x4, .int x5] h r h) := by
  intro G
  induction G with
  | zero =>
    intros; rename_i hf; exact nomatch (show (none : Option _) = some _ from hf)
  | succ G ih =>
    intro a0 x1 x2 x3 x4 x5 h r hf
    exact mI hj hn (by decide +kernel) (Nat.le_of_ble_eq_true rfl) (fun d o hr => S_X7_evenest_0 o F (rc := G3 F G) (lv := 4 + G) (by omega) (by omega) (fun q => ih q) (show X7_evenest F (G3 F G) a0 x1 x2 x3 x4 x5 h = _ from hf) hr)

theorem C_X7_evenest {k : Kst} (hj : Dj k) (hn : kn k = kdl.length) (F : Nat) {h : Hp} {a0 : Nat} {x1 : Int32} {x2 : Int32} {x3 : Int32} {x4 : Int32} {x5 : Int32} {r : Int32} (hf : G3 F 60 a0 x1 x2 x3 x4 x5 h = some r) : MI k 64 yX7_evenest cX7_evenest 9 (some .int) [.ref (ka k a0), .int x1, .int x2, .int x3, .int x4, .int x5] h r h := (C_G3 hj hn F 60) hf
set_option maxRecDepth 100000 in
set_option maxHeartbeats 4000000 in
theorem S_X10_built_0 {k : Kst} {d : Kdy} (o : Ok k d cX10_built RX10 2 3) (F : Nat) {h : Hp} {a0 : Nat} {x1 : Int32} {r : Nat} (hf : X10_built F a0 x1 h = some r) (hr : RR k d cX10_built r h) : Wz k d h 0 [(0, .ref (ka k a0)), (1, .int x1)] [] := by
  unfold X10_built at hf
  refine x_iload_n o dX10_built_0 1 rfl rfl ?_
  refine x_if_ne o 11 dX10_built_1 (by decide) (fun q_1 => ?_) (fun q_1 => ?_)
  · replace hf := (if_neg q_1).symm.trans hf
    refine x_aload_n o dX10_built_11 0 rfl rfl ?_
    obtain ⟨k_2, hf⟩ := gq_ex hf
    obtain ⟨j_3, ej_3, hf⟩ := ob_ex hf
    refine gRX10_18 o k_2 ej_3 dX10_built_12 ?_
    cases hf
    exact hr _ _ dX10_built_15
  · replace hf := (if_pos q_1).symm.trans hf
    refine x_aload_n o dX10_built_4 0 rfl rfl ?_
    obtain ⟨k_4, hf⟩ := gq_ex hf
    obtain ⟨j_5, ej_5, hf⟩ := ob_ex hf
    refine gRX10_12 o k_4 ej_5 dX10_built_5 ?_
    refine x_goto o 15 dX10_built_8 (by decide) ?_
    cases hf
    exact hr _ _ dX10_built_15
theorem C_X10_built {k : Kst} (hj : Dj k) (hn : kn k = kdl.length) (F : Nat) {h : Hp} {a0 : Nat} {x1 : Int32} {r : Nat} (hf : X10_built F a0 x1 h = some r) : MR k 3 yX10_built cX10_built 2 (some (.object "MiddleBridge$Plan")) [.ref (ka k a0), .int x1] h r h := mR hj hn (by decide +kernel) (Nat.le_of_ble_eq_true rfl) (fun d o hr => S_X10_built_0 o F hf hr)
set_option maxRecDepth 100000 in
set_option maxHeartbeats 4000000 in
theorem S_X10_standing_0 {k : Kst} {d : Kdy} (o : Ok k d cX10_standing RX10 2 4) (F : Nat) {h : Hp} {a0 : Nat} {x1 : Int32} {r : Int32} (hf : X10_standing F a0 x1 h = some r) (hr : RI k d cX10_standing r h) : Wz k d h 0 [(0, .ref (ka k a0)), (1, .int x1)] [] := by
  unfold X10_standing at hf
  refine x_aload_n o dX10_standing_0 0 rfl rfl ?_
  refine x_iload_n o dX10_standing_1 1 rfl rfl ?_
  obtain ⟨k_1, hf⟩ := gq_ex hf
  obtain ⟨j_2, ej_2, hf⟩ := ob_ex hf
  refine vRX10_46 [.int x1] [] o (C_X10_built o.1.2.2.2.2.2.2.1 o.2 F ej_2) (by decide) k_1 rfl rfl (Nat.le_of_ble_eq_true rfl) dX10_standing_2 ?_
  refine x_aload_n o dX10_standing_5 0 rfl rfl ?_
  obtain ⟨j_4, ej_4, hf⟩ := ob_ex hf
  refine gRX10_24 o k_1 ej_4 dX10_standing_6 ?_
  refine x_iload_n o dX10_standing_9 1 rfl rfl ?_
  obtain ⟨k_5, hf⟩ := gq_ex hf
  obtain ⟨c_6, ec_6, hf⟩ := ob_ex hf
  refine vRX10_50 [.int x1] [.ref (ka k j_2)] o (C_X8_laidOn o.1.2.2.2.2.2.2.1 o.2 F ec_6) (by decide) k_5 rfl rfl (Nat.le_of_ble_eq_true rfl) dX10_standing_10 ?_
  obtain ⟨k_8, hf⟩ := gq_ex hf
  obtain ⟨c_9, ec_9, hf⟩ := ob_ex hf
  refine vRX10_54 [.int c_6] [] o (C_X5_standingBy o.1.2.2.2.2.2.2.1 o.2 F ec_9) (by decide) k_8 rfl rfl (Nat.le_of_ble_eq_true rfl) dX10_standing_13 ?_
  cases hf
  exact hr _ _ dX10_standing_16
theorem C_X10_standing {k : Kst} (hj : Dj k) (hn : kn k = kdl.length) (F : Nat) {h : Hp} {a0 : Nat} {x1 : Int32} {r : Int32} (hf : X10_standing F a0 x1 h = some r) : MI k 4 yX10_standing cX10_standing 2 (some .int) [.ref (ka k a0), .int x1] h r h := mI hj hn (by decide +kernel) (Nat.le_of_ble_eq_true rfl) (fun d o hr => S_X10_standing_0 o F hf hr)
set_option maxRecDepth 100000 in
set_option maxHeartbeats 4000000 in
theorem S_X7_ordersOfBuilding_204 {k : Kst} {d : Kdy} (o : Ok k d cX7_ordersOfBuilding RX7 9 5) (F : Nat) {h : Hp} {a0 : Nat} {x5 : Int32} {r : Int32} {h1 : Hp} (hf : X7_ordersOfBuilding_204 F a0 x5 h = some (r, h1)) (hr : RI k d cX7_ordersOfBuilding r h1) : Wz k d h 204 [(0, .ref (ka k a0)), (5, .int x5)] [] := by
  unfold X7_ordersOfBuilding_204 at hf
  refine x_aload_n o dX7_ordersOfBuilding_204 0 rfl rfl ?_
  obtain ⟨k_1, hf⟩ := gq_ex hf
  obtain ⟨j_2, ej_2, hf⟩ := ob_ex hf
  refine gRX7_9 o k_1 ej_2 dX7_ordersOfBuilding_205 ?_
  refine x_iload o dX7_ordersOfBuilding_208 1 rfl ?_
  obtain ⟨c_3, ec_3, hf⟩ := ob_ex hf
  refine vRX7_71 [.ref (ka k j_2), .int x5] [] o (C_X11_get o.1.2.2.2.2.2.2.1 o.2 F ec_3) (by decide) rfl rfl (Nat.le_of_ble_eq_true rfl) dX7_ordersOfBuilding_210 ?_
  cases hf
  exact hr _ _ dX7_ordersOfBuilding_213
set_option maxRecDepth 100000 in
set_option maxHeartbeats 4000000 in
theorem S_X7_ordersOfBuilding_198 {k : Kst} {d : Kdy} (o : Ok k d cX7_ordersOfBuilding RX7 9 5) (F : Nat) {k59 : Nat → Int32 → Int32 → Int32 → Int32 → Int32 → Hp → Option (Int32 × Hp)} (hk59 : ∀ {h : Hp} {a0 : Nat} {x2 : Int32} {x3 : Int32} {x4 : Int32} {x5 : Int32} {x6 : Int32} {r : Int32} {h1 : Hp}, k59 a0 x2 x3 x4 x5 x6 h = some (r, h1) → RI k d cX7_ordersOfBuilding r h1 → Wz k d h 59 [(0, .ref (ka k a0)), (2, .int x2), (3, .int x3), (4, .int x4), (5, .int x5), (6, .int x6)] []) {h : Hp} {a0 : Nat} {x2 : Int32} {x3 : Int32} {x4 : Int32} {x5 : Int32} {x6 : Int32} {r : Int32} {h1 : Hp} (hf : X7_ordersOfBuilding_198 F k59 a0 x2 x3 x4 x5 x6 h = some (r, h1)) (hr : RI k d cX7_ordersOfBuilding r h1) : Wz k d h 198 [(0, .ref (ka k a0)), (2, .int x2), (3, .int x3), (4, .int x4), (5, .int x5), (6, .int x6)] [] := by
  unfold X7_ordersOfBuilding_198 at hf
  obtain ⟨x6_1, ex6_1, hf⟩ := bd_ex hf
  refine x_iinc o dX7_ordersOfBuilding_198 (by decide) 5 rfl ex6_1.symm [(6, .int x6_1), (0, .ref (ka k a0)), (2, .int x2), (3, .int x3), (4, .int x4), (5, .int x5)] rfl ?_
  refine x_goto o 59 dX7_ordersOfBuilding_201 (by decide) ?_
  refine x_sub [1, 2, 3, 4, 5, 0] [(0, .ref (ka k a0)), (2, .int x2), (3, .int x3), (4, .int x4), (5, .int x5), (6, .int x6_1)] rfl ?_
  exact hk59 hf hr
set_option maxRecDepth 100000 in
set_option maxHeartbeats 4000000 in
theorem S_X7_ordersOfBuilding_176 {k : Kst} {d : Kdy} (o : Ok k d cX7_ordersOfBuilding RX7 9 5) (F : Nat) {k59 : Nat → Int32 → Int32 → Int32 → Int32 → Int32 → Hp → Option (Int32 × Hp)} {k76 : Nat → Int32 → Int32 → Int32 → Int32 → Int32 → Int32 → Hp → Option (Int32 × Hp)} (hk59 : ∀ {h : Hp} {a0 : Nat} {x2 : Int32} {x3 : Int32} {x4 : Int32} {x5 : Int32} {x6 : Int32} {r : Int32} {h1 : Hp}, k59 a0 x2 x3 x4 x5 x6 h = some (r, h1) → RI k d cX7_ordersOfBuilding r h1 → Wz k d h 59 [(0, .ref (ka k a0)), (2, .int x2), (3, .int x3), (4, .int x4), (5, .int x5), (6, .int x6)] []) (hk76 : ∀ {h : Hp} {a0 : Nat} {x2 : Int32} {x3 : Int32} {x4 : Int32} {x5 : Int32} {x6 : Int32} {x7 : Int32} {r : Int32} {h1 : Hp}, k76 a0 x2 x3 x4 x5 x6 x7 h = some (r, h1) → RI k d cX7_ordersOfBuilding r h1 → Wz k d h 76 [(0, .ref (ka k a0)), (2, .int x2), (3, .int x3), (4, .int x4), (5, .int x5), (6, .int x6), (7, .int x7)] []) {h : Hp} {a0 : Nat} {x2 : Int32} {x3 : Int32} {x4 : Int32} {x5 : Int32} {x6 : Int32} {x7 : Int32} {x8 : Int32} {r : Int32} {h1 : Hp} (hf : X7_ordersOfBuilding_176 F k59 k76 a0 x2 x3 x4 x5 x6 x7 x8 h = some (r, h1)) (hr : RI k d cX7_ordersOfBuilding r h1) : Wz k d h 176 [(0, .ref (ka k a0)), (2, .int x2), (3, .int x3), (4, .int x4), (5, .int x5), (6, .int x6), (7, .int x7), (8, .int x8)] [] := by
  unfold X7_ordersOfBuilding_176 at hf
  refine x_aload_n o dX7_ordersOfBuilding_176 0 rfl rfl ?_
  obtain ⟨k_1, hf⟩ := gq_ex hf
  obtain ⟨j_2, ej_2, hf⟩ := ob_ex hf
  refine gRX7_9 o k_1 ej_2 dX7_ordersOfBuilding_177 ?_
  refine x_iload o dX7_ordersOfBuilding_180 6 rfl ?_
  refine x_iload o dX7_ordersOfBuilding_182 7 rfl ?_
  refine x_ldc (v := 1000000000) o dX7_ordersOfBuilding_184 wRX7_75 ?_
  refine x_mmin o wRX7_46 (by decide) (Nat.le_of_ble_eq_true rfl) dX7_ordersOfBuilding_186 ?_
  obtain ⟨h_4, eh_4, hf⟩ := ob_ex hf
  refine vRX7_67 [.ref (ka k j_2), .int x7, .int (imin x8 1000000000)] [] o (C_X11_put o.1.2.2.2.2.2.2.1 o.2 F eh_4) (by decide) rfl rfl (Nat.le_of_ble_eq_true rfl) dX7_ordersOfBuilding_189 ?_
  obtain ⟨x7_5, ex7_5, hf⟩ := bd_ex hf
  refine x_iinc o dX7_ordersOfBuilding_192 (by decide) 6 rfl ex7_5.symm [(7, .int x7_5), (0, .ref (ka k a0)), (2, .int x2), (3, .int x3), (4, .int x4), (5, .int x5), (6, .int x6), (8, .int x8)] rfl ?_
  refine x_goto o 76 dX7_ordersOfBuilding_195 (by decide) ?_
  refine x_sub [1, 2, 3, 4, 5, 6, 0] [(0, .ref (ka k a0)), (2, .int x2), (3, .int x3), (4, .int x4), (5, .int x5), (6, .int x6), (7, .int x7_5)] rfl ?_
  exact hk76 hf hr
set_option maxRecDepth 100000 in
set_option maxHeartbeats 4000000 in
theorem S_X7_ordersOfBuilding_173 {k : Kst} {d : Kdy} (o : Ok k d cX7_ordersOfBuilding RX7 9 5) (F : Nat) {k59 : Nat → Int32 → Int32 → Int32 → Int32 → Int32 → Hp → Option (Int32 × Hp)} {k76 : Nat → Int32 → Int32 → Int32 → Int32 → Int32 → Int32 → Hp → Option (Int32 × Hp)} (hk59 : ∀ {h : Hp} {a0 : Nat} {x2 : Int32} {x3 : Int32} {x4 : Int32} {x5 : Int32} {x6 : Int32} {r : Int32} {h1 : Hp}, k59 a0 x2 x3 x4 x5 x6 h = some (r, h1) → RI k d cX7_ordersOfBuilding r h1 → Wz k d h 59 [(0, .ref (ka k a0)), (2, .int x2), (3, .int x3), (4, .int x4), (5, .int x5), (6, .int x6)] []) (hk76 : ∀ {h : Hp} {a0 : Nat} {x2 : Int32} {x3 : Int32} {x4 : Int32} {x5 : Int32} {x6 : Int32} {x7 : Int32} {r : Int32} {h1 : Hp}, k76 a0 x2 x3 x4 x5 x6 x7 h = some (r, h1) → RI k d cX7_ordersOfBuilding r h1 → Wz k d h 76 [(0, .ref (ka k a0)), (2, .int x2), (3, .int x3), (4, .int x4), (5, .int x5), (6, .int x6), (7, .int x7)] []) {h : Hp} {a0 : Nat} {x2 : Int32} {x3 : Int32} {x4 : Int32} {x5 : Int32} {x6 : Int32} {x7 : Int32} {r : Int32} {h1 : Hp} (hf : X7_ordersOfBuilding_173 F k59 k76 a0 x2 x3 x4 x5 x6 x7 h = some (r, h1)) (hr : RI k d cX7_ordersOfBuilding r h1) : Wz k d h 173 [(0, .ref (ka k a0)), (2, .int x2), (3, .int x3), (4, .int x4), (5, .int x5), (6, .int x6), (7, .int x7)] [] := by
  unfold X7_ordersOfBuilding_173 at hf
  refine x_iconst (v := 0) o dX7_ordersOfBuilding_173 (by decide) ?_
  refine x_istore o dX7_ordersOfBuilding_174 (by decide) [(8, .int 0), (0, .ref (ka k a0)), (2, .int x2), (3, .int x3), (4, .int x4), (5, .int x5), (6, .int x6), (7, .int x7)] rfl ?_
  refine x_sub [1, 2, 3, 4, 5, 6, 7, 0] [(0, .ref (ka k a0)), (2, .int x2), (3, .int x3), (4, .int x4), (5, .int x5), (6, .int x6), (7, .int x7), (8, .int 0)] rfl ?_
  exact S_X7_ordersOfBuilding_176 o F hk59 hk76 hf hr
set_option maxRecDepth 100000 in
set_option maxHeartbeats 4000000 in
theorem S_X7_ordersOfBuilding_157 {k : Kst} {d : Kdy} (o : Ok k d cX7_ordersOfBuilding RX7 9 5) (F : Nat) {k59 : Nat → Int32 → Int32 → Int32 → Int32 → Int32 → Hp → Option (Int32 × Hp)} {k76 : Nat → Int32 → Int32 → Int32 → Int32 → Int32 → Int32 → Hp → Option (Int32 × Hp)} (hk59 : ∀ {h : Hp} {a0 : Nat} {x2 : Int32} {x3 : Int32} {x4 : Int32} {x5 : Int32} {x6 : Int32} {r : Int32} {h1 : Hp}, k59 a0 x2 x3 x4 x5 x6 h = some (r, h1) → RI k d cX7_ordersOfBuilding r h1 → Wz k d h 59 [(0, .ref (ka k a0)), (2, .int x2), (3, .int x3), (4, .int x4), (5, .int x5), (6, .int x6)] []) (hk76 : ∀ {h : Hp} {a0 : Nat} {x2 : Int32} {x3 : Int32} {x4 : Int32} {x5 : Int32} {x6 : Int32} {x7 : Int32} {r : Int32} {h1 : Hp}, k76 a0 x2 x3 x4 x5 x6 x7 h = some (r, h1) → RI k d cX7_ordersOfBuilding r h1 → Wz k d h 76 [(0, .ref (ka k a0)), (2, .int x2), (3, .int x3), (4, .int x4), (5, .int x5), (6, .int x6), (7, .int x7)] []) {h : Hp} {a0 : Nat} {x2 : Int32} {x3 : Int32} {x4 : Int32} {x5 : Int32} {x6 : Int32} {x7 : Int32} {x8 : Int32} {r : Int32} {h1 : Hp} (hf : X7_ordersOfBuilding_157 F k59 k76 a0 x2 x3 x4 x5 x6 x7 x8 h = some (r, h1)) (hr : RI k d cX7_ordersOfBuilding r h1) : Wz k d h 157 [(0, .ref (ka k a0)), (2, .int x2), (3, .int x3), (4, .int x4), (5, .int x5), (6, .int x6), (7, .int x7), (8, .int x8)] [] := by
  unfold X7_ordersOfBuilding_157 at hf
  refine x_iload o dX7_ordersOfBuilding_157 6 rfl ?_
  refine x_iload o dX7_ordersOfBuilding_159 4 rfl ?_
  refine x_icmp_ge o 176 dX7_ordersOfBuilding_161 (by decide) (fun q_1 => ?_) (fun q_1 => ?_)
  · replace hf := (if_pos q_1).symm.trans hf
    refine x_sub [0, 1, 2, 3, 4, 5, 6, 7] [(0, .ref (ka k a0)), (2, .int x2), (3, .int x3), (4, .int x4), (5, .int x5), (6, .int x6), (7, .int x7), (8, .int x8)] rfl ?_
    exact S_X7_ordersOfBuilding_176 o F hk59 hk76 hf hr
  · replace hf := (if_neg q_1).symm.trans hf
    refine x_iload o dX7_ordersOfBuilding_164 5 rfl ?_
    refine x_iload o dX7_ordersOfBuilding_166 6 rfl ?_
    refine x_isub o dX7_ordersOfBuilding_168 ?_
    refine x_iconst (v := 1) o dX7_ordersOfBuilding_169 (by decide) ?_
    refine x_icmp_le o 176 dX7_ordersOfBuilding_170 (by decide) (fun q_2 => ?_) (fun q_2 => ?_)
    · replace hf := (if_pos q_2).symm.trans hf
      refine x_sub [0, 1, 2, 3, 4, 5, 6, 7] [(0, .ref (ka k a0)), (2, .int x2), (3, .int x3), (4, .int x4), (5, .int x5), (6, .int x6), (7, .int x7), (8, .int x8)] rfl ?_
      exact S_X7_ordersOfBuilding_176 o F hk59 hk76 hf hr
    · replace hf := (if_neg q_2).symm.trans hf
      refine x_sub [0, 1, 2, 3, 4, 5, 6] [(0, .ref (ka k a0)), (2, .int x2), (3, .int x3), (4, .int x4), (5, .int x5), (6, .int x6), (7, .int x7)] rfl ?_
      exact S_X7_ordersOfBuilding_173 o F hk59 hk76 hf hr
set_option maxRecDepth 100000 in
set_option maxHeartbeats 4000000 in
theorem S_X7_ordersOfBuilding_141 {k : Kst} {d : Kdy} (o : Ok k d cX7_ordersOfBuilding RX7 9 5) (F : Nat) {k59 : Nat → Int32 → Int32 → Int32 → Int32 → Int32 → Hp → Option (Int32 × Hp)} {k76 : Nat → Int32 → Int32 → Int32 → Int32 → Int32 → Int32 → Hp → Option (Int32 × Hp)} (hk59 : ∀ {h : Hp} {a0 : Nat} {x2 : Int32} {x3 : Int32} {x4 : Int32} {x5 : Int32} {x6 : Int32} {r : Int32} {h1 : Hp}, k59 a0 x2 x3 x4 x5 x6 h = some (r, h1) → RI k d cX7_ordersOfBuilding r h1 → Wz k d h 59 [(0, .ref (ka k a0)), (2, .int x2), (3, .int x3), (4, .int x4), (5, .int x5), (6, .int x6)] []) (hk76 : ∀ {h : Hp} {a0 : Nat} {x2 : Int32} {x3 : Int32} {x4 : Int32} {x5 : Int32} {x6 : Int32} {x7 : Int32} {r : Int32} {h1 : Hp}, k76 a0 x2 x3 x4 x5 x6 x7 h = some (r, h1) → RI k d cX7_ordersOfBuilding r h1 → Wz k d h 76 [(0, .ref (ka k a0)), (2, .int x2), (3, .int x3), (4, .int x4), (5, .int x5), (6, .int x6), (7, .int x7)] []) {h : Hp} {a0 : Nat} {x2 : Int32} {x3 : Int32} {x4 : Int32} {x5 : Int32} {x6 : Int32} {x7 : Int32} {x8 : Int32} {r : Int32} {h1 : Hp} (hf : X7_ordersOfBuilding_141 F k59 k76 a0 x2 x3 x4 x5 x6 x7 x8 h = some (r, h1)) (hr : RI k d cX7_ordersOfBuilding r h1) : Wz k d h 141 [(0, .ref (ka k a0)), (2, .int x2), (3, .int x3), (4, .int x4), (5, .int x5), (6, .int x6), (7, .int x7), (8, .int x8)] [] := by
  unfold X7_ordersOfBuilding_141 at hf
  refine x_iload o dX7_ordersOfBuilding_141 5 rfl ?_
  refine x_iload o dX7_ordersOfBuilding_143 3 rfl ?_
  refine x_icmp_ge o 157 dX7_ordersOfBuilding_145 (by decide) (fun q_1 => ?_) (fun q_1 => ?_)
  · replace hf := (if_pos q_1).symm.trans hf
    refine x_sub [0, 1, 2, 3, 4, 5, 6, 7] [(0, .ref (ka k a0)), (2, .int x2), (3, .int x3), (4, .int x4), (5, .int x5), (6, .int x6), (7, .int x7), (8, .int x8)] rfl ?_
    exact S_X7_ordersOfBuilding_157 o F hk59 hk76 hf hr
  · replace hf := (if_neg q_1).symm.trans hf
    refine x_iload o dX7_ordersOfBuilding_148 6 rfl ?_
    refine x_iload o dX7_ordersOfBuilding_150 5 rfl ?_
    refine x_isub o dX7_ordersOfBuilding_152 ?_
    refine x_iconst (v := 1) o dX7_ordersOfBuilding_153 (by decide) ?_
    refine x_icmp_gt o 173 dX7_ordersOfBuilding_154 (by decide) (fun q_2 => ?_) (fun q_2 => ?_)
    · replace hf := (if_pos q_2).symm.trans hf
      refine x_sub [0, 1, 2, 3, 4, 5, 6] [(0, .ref (ka k a0)), (2, .int x2), (3, .int x3), (4, .int x4), (5, .int x5), (6, .int x6), (7, .int x7)] rfl ?_
      exact S_X7_ordersOfBuilding_173 o F hk59 hk76 hf hr
    · replace hf := (if_neg q_2).symm.trans hf
      refine x_sub [0, 1, 2, 3, 4, 5, 6, 7] [(0, .ref (ka k a0)), (2, .int x2), (3, .int x3), (4, .int x4), (5, .int x5), (6, .int x6), (7, .int x7), (8, .int x8)] rfl ?_
      exact S_X7_ordersOfBuilding_157 o F hk59 hk76 hf hr
set_option maxRecDepth 100000 in
set_option maxHeartbeats 4000000 in
theorem S_X7_ordersOfBuilding_120 {k : Kst} {d : Kdy} (o : Ok k d cX7_ordersOfBuilding RX7 9 5) (F : Nat) {k59 : Nat → Int32 → Int32 → Int32 → Int32 → Int32 → Hp → Option (Int32 × Hp)} {k76 : Nat → Int32 → Int32 → Int32 → Int32 → Int32 → Int32 → Hp → Option (Int32 × Hp)} (hk59 : ∀ {h : Hp} {a0 : Nat} {x2 : Int32} {x3 : Int32} {x4 : Int32} {x5 : Int32} {x6 : Int32} {r : Int32} {h1 : Hp}, k59 a0 x2 x3 x4 x5 x6 h = some (r, h1) → RI k d cX7_ordersOfBuilding r h1 → Wz k d h 59 [(0, .ref (ka k a0)), (2, .int x2), (3, .int x3), (4, .int x4), (5, .int x5), (6, .int x6)] []) (hk76 : ∀ {h : Hp} {a0 : Nat} {x2 : Int32} {x3 : Int32} {x4 : Int32} {x5 : Int32} {x6 : Int32} {x7 : Int32} {r : Int32} {h1 : Hp}, k76 a0 x2 x3 x4 x5 x6 x7 h = some (r, h1) → RI k d cX7_ordersOfBuilding r h1 → Wz k d h 76 [(0, .ref (ka k a0)), (2, .int x2), (3, .int x3), (4, .int x4), (5, .int x5), (6, .int x6), (7, .int x7)] []) {h : Hp} {a0 : Nat} {x2 : Int32} {x3 : Int32} {x4 : Int32} {x5 : Int32} {x6 : Int32} {x7 : Int32} {s0 : Int32} {s1 : Int32} {r : Int32} {h1 : Hp} (hf : X7_ordersOfBuilding_120 F k59 k76 a0 x2 x3 x4 x5 x6 x7 s0 s1 h = some (r, h1)) (hr : RI k d cX7_ordersOfBuilding r h1) : Wz k d h 120 [(0, .ref (ka k a0)), (2, .int x2), (3, .int x3), (4, .int x4), (5, .int x5), (6, .int x6), (7, .int x7)] [.int s1, .int s0] := by
  unfold X7_ordersOfBuilding_120 at hf
  refine x_iadd o dX7_ordersOfBuilding_120 ?_
  obtain ⟨x8_1, ex8_1, hf⟩ := bd_ex hf
  refine x_top ex8_1 ?_
  refine x_istore o dX7_ordersOfBuilding_121 (by decide) [(8, .int x8_1), (0, .ref (ka k a0)), (2, .int x2), (3, .int x3), (4, .int x4), (5, .int x5), (6, .int x6), (7, .int x7)] rfl ?_
  refine x_iload o dX7_ordersOfBuilding_123 6 rfl ?_
  refine x_iload_n o dX7_ordersOfBuilding_125 2 rfl rfl ?_
  refine x_icmp_ne o 141 dX7_ordersOfBuilding_126 (by decide) (fun q_2 => ?_) (fun q_2 => ?_)
  · replace hf := (if_neg q_2).symm.trans hf
    refine x_sub [1, 2, 3, 4, 5, 6, 7, 0] [(0, .ref (ka k a0)), (2, .int x2), (3, .int x3), (4, .int x4), (5, .int x5), (6, .int x6), (7, .int x7), (8, .int x8_1)] rfl ?_
    exact S_X7_ordersOfBuilding_141 o F hk59 hk76 hf hr
  · replace hf := (if_pos q_2).symm.trans hf
    refine x_iload o dX7_ordersOfBuilding_129 7 rfl ?_
    refine x_iload_n o dX7_ordersOfBuilding_131 3 rfl rfl ?_
    refine x_icmp_ne o 141 dX7_ordersOfBuilding_132 (by decide) (fun q_3 => ?_) (fun q_3 => ?_)
    · replace hf := (if_neg q_3).symm.trans hf
      refine x_sub [1, 2, 3, 4, 5, 6, 7, 0] [(0, .ref (ka k a0)), (2, .int x2), (3, .int x3), (4, .int x4), (5, .int x5), (6, .int x6), (7, .int x7), (8, .int x8_1)] rfl ?_
      exact S_X7_ordersOfBuilding_141 o F hk59 hk76 hf hr
    · replace hf := (if_pos q_3).symm.trans hf
      refine x_iconst (v := 1) o dX7_ordersOfBuilding_135 (by decide) ?_
      refine x_istore o dX7_ordersOfBuilding_136 (by decide) [(8, .int 1), (0, .ref (ka k a0)), (2, .int x2), (3, .int x3), (4, .int x4), (5, .int x5), (6, .int x6), (7, .int x7)] rfl ?_
      refine x_goto o 176 dX7_ordersOfBuilding_138 (by decide) ?_
      refine x_sub [1, 2, 3, 4, 5, 6, 7, 0] [(0, .ref (ka k a0)), (2, .int x2), (3, .int x3), (4, .int x4), (5, .int x5), (6, .int x6), (7, .int x7), (8, .int 1)] rfl ?_
      exact S_X7_ordersOfBuilding_176 o F hk59 hk76 hf hr
set_option maxRecDepth 100000 in
set_option maxHeartbeats 4000000 in
theorem S_X7_ordersOfBuilding_76 {k : Kst} {d : Kdy} (o : Ok k d cX7_ordersOfBuilding RX7 9 5) (F : Nat) {k59 : Nat → Int32 → Int32 → Int32 → Int32 → Int32 → Hp → Option (Int32 × Hp)} (hk59 : ∀ {h : Hp} {a0 : Nat} {x2 : Int32} {x3 : Int32} {x4 : Int32} {x5 : Int32} {x6 : Int32} {r : Int32} {h1 : Hp}, k59 a0 x2 x3 x4 x5 x6 h = some (r, h1) → RI k d cX7_ordersOfBuilding r h1 → Wz k d h 59 [(0, .ref (ka k a0)), (2, .int x2), (3, .int x3), (4, .int x4), (5, .int x5), (6, .int x6)] []) : ∀ (f : Nat) {h : Hp} {a0 : Nat} {x2 : Int32} {x3 : Int32} {x4 : Int32} {x5 : Int32} {x6 : Int32} {x7 : Int32} {r : Int32} {h1 : Hp}, X7_ordersOfBuilding_76 F k59 f a0 x2 x3 x4 x5 x6 x7 h = some (r, h1) → RI k d cX7_ordersOfBuilding r h1 → Wz k d h 76 [(0, .ref (ka k a0)), (2, .int x2), (3, .int x3), (4, .int x4), (5, .int x5), (6, .int x6), (7, .int x7)] [] := by
  intro f
  induction f with
  | zero =>
    intro h a0 x2 x3 x4 x5 x6 x7 r h1 hf hr
    exact nomatch (show (none : Option _) = some _ from hf)
  | succ f ih =>
    intro h a0 x2 x3 x4 x5 x6 x7 r h1 hf hr
    rw [X7_ordersOfBuilding_76] at hf
    refine x_iload o dX7_ordersOfBuilding_76 6 rfl ?_
    refine x_iload o dX7_ordersOfBuilding_78 4 rfl ?_
    refine x_icmp_gt o 198 dX7_ordersOfBuilding_80 (by decide) (fun q_1 => ?_) (fun q_1 => ?_)
    · replace hf := (if_pos q_1).symm.trans hf
      refine x_sub [0, 1, 2, 3, 4, 5] [(0, .ref (ka k a0)), (2, .int x2), (3, .int x3), (4, .int x4), (5, .int x5), (6, .int x6)] rfl ?_
      exact S_X7_ordersOfBuilding_198 o F hk59 hf hr
    · replace hf := (if_neg q_1).symm.trans hf
      refine x_iload o dX7_ordersOfBuilding_83 6 rfl ?_
      refine x_bipush (v := 20) o dX7_ordersOfBuilding_85 (by decide) ?_
      refine x_icmp_gt o 198 dX7_ordersOfBuilding_87 (by decide) (fun q_2 => ?_) (fun q_2 => ?_)
      · replace hf := (if_pos q_2).symm.trans hf
        refine x_sub [0, 1, 2, 3, 4, 5] [(0, .ref (ka k a0)), (2, .int x2), (3, .int x3), (4, .int x4), (5, .int x5), (6, .int x6)] rfl ?_
        exact S_X7_ordersOfBuilding_198 o F hk59 hf hr
      · replace hf := (if_neg q_2).symm.trans hf
        refine x_aload_n o dX7_ordersOfBuilding_90 0 rfl rfl ?_
        obtain ⟨k_3, hf⟩ := gq_ex hf
        obtain ⟨j_4, ej_4, hf⟩ := ob_ex hf
        refine gRX7_9 o k_3 ej_4 dX7_ordersOfBuilding_91 ?_
        refine x_iload o dX7_ordersOfBuilding_94 6 rfl ?_
        obtain ⟨c_5, ec_5, hf⟩ := ob_ex hf
        refine vRX7_71 [.ref (ka k j_4), .int x7] [] o (C_X11_get o.1.2.2.2.2.2.2.1 o.2 F ec_5) (by decide) rfl rfl (Nat.le_of_ble_eq_true rfl) dX7_ordersOfBuilding_96 ?_
        refine x_iload o dX7_ordersOfBuilding_99 6 rfl ?_
        refine x_iload_n o dX7_ordersOfBuilding_101 2 rfl rfl ?_
        refine x_icmp_le o 119 dX7_ordersOfBuilding_102 (by decide) (fun q_7 => ?_) (fun q_7 => ?_)
        · replace hf := (if_pos q_7).symm.trans hf
          refine x_iconst (v := 0) o dX7_ordersOfBuilding_119 (by decide) ?_
          refine x_sub [0, 1, 2, 3, 4, 5, 6] [(0, .ref (ka k a0)), (2, .int x2), (3, .int x3), (4, .int x4), (5, .int x5), (6, .int x6), (7, .int x7)] rfl ?_
          exact S_X7_ordersOfBuilding_120 o F hk59 (fun q1 q2 => ih q1 q2) hf hr
        · replace hf := (if_neg q_7).symm.trans hf
          refine x_aload_n o dX7_ordersOfBuilding_105 0 rfl rfl ?_
          refine gRX7_9 o k_3 ej_4 dX7_ordersOfBuilding_106 ?_
          refine x_iload o dX7_ordersOfBuilding_109 6 rfl ?_
          refine x_iconst (v := 1) o dX7_ordersOfBuilding_111 (by decide) ?_
          refine x_isub o dX7_ordersOfBuilding_112 ?_
          obtain ⟨c_8, ec_8, hf⟩ := ob_ex hf
          refine vRX7_71 [.ref (ka k j_4), .int (x7 - 1)] [.int c_5] o (C_X11_get o.1.2.2.2.2.2.2.1 o.2 F ec_8) (by decide) rfl rfl (Nat.le_of_ble_eq_true rfl) dX7_ordersOfBuilding_113 ?_
          refine x_goto o 120 dX7_ordersOfBuilding_116 (by decide) ?_
          refine x_sub [0, 1, 2, 3, 4, 5, 6] [(0, .ref (ka k a0)), (2, .int x2), (3, .int x3), (4, .int x4), (5, .int x5), (6, .int x6), (7, .int x7)] rfl ?_
          exact S_X7_ordersOfBuilding_120 o F hk59 (fun q1 q2 => ih q1 q2) hf hr
set_option maxRecDepth 100000 in
set_option maxHeartbeats 4000000 in
theorem S_X7_ordersOfBuilding_59 {k : Kst} {d : Kdy} (o : Ok k d cX7_ordersOfBuilding RX7 9 5) (F : Nat) : ∀ (f : Nat) {h : Hp} {a0 : Nat} {x2 : Int32} {x3 : Int32} {x4 : Int32} {x5 : Int32} {x6 : Int32} {r : Int32} {h1 : Hp}, X7_ordersOfBuilding_59 F f a0 x2 x3 x4 x5 x6 h = some (r, h1) → RI k d cX7_ordersOfBuilding r h1 → Wz k d h 59 [(0, .ref (ka k a0)), (2, .int x2), (3, .int x3), (4, .int x4), (5, .int x5), (6, .int x6)] [] := by
  intro f
  induction f with
  | zero =>
    intro h a0 x2 x3 x4 x5 x6 r h1 hf hr
    exact nomatch (show (none : Option _) = some _ from hf)
  | succ f ih =>
    intro h a0 x2 x3 x4 x5 x6 r h1 hf hr
    rw [X7_ordersOfBuilding_59] at hf
    refine x_iload o dX7_ordersOfBuilding_59 5 rfl ?_
    refine x_iload o dX7_ordersOfBuilding_61 3 rfl ?_
    refine x_icmp_gt o 204 dX7_ordersOfBuilding_63 (by decide) (fun q_1 => ?_) (fun q_1 => ?_)
    · replace hf := (if_pos q_1).symm.trans hf
      refine x_sub [0, 4] [(0, .ref (ka k a0)), (5, .int x5)] rfl ?_
      exact S_X7_ordersOfBuilding_204 o F hf hr
    · replace hf := (if_neg q_1).symm.trans hf
      refine x_iload o dX7_ordersOfBuilding_66 5 rfl ?_
      refine x_bipush (v := 20) o dX7_ordersOfBuilding_68 (by decide) ?_
      refine x_icmp_gt o 204 dX7_ordersOfBuilding_70 (by decide) (fun q_2 => ?_) (fun q_2 => ?_)
      · replace hf := (if_pos q_2).symm.trans hf
        refine x_sub [0, 4] [(0, .ref (ka k a0)), (5, .int x5)] rfl ?_
        exact S_X7_ordersOfBuilding_204 o F hf hr
      · replace hf := (if_neg q_2).symm.trans hf
        refine x_iload_n o dX7_ordersOfBuilding_73 2 rfl rfl ?_
        refine x_istore o dX7_ordersOfBuilding_74 (by decide) [(7, .int x3), (0, .ref (ka k a0)), (2, .int x2), (3, .int x3), (4, .int x4), (5, .int x5), (6, .int x6)] rfl ?_
        refine x_sub [1, 2, 3, 4, 5, 6, 0] [(0, .ref (ka k a0)), (2, .int x2), (3, .int x3), (4, .int x4), (5, .int x5), (6, .int x6), (7, .int x3)] rfl ?_
        exact S_X7_ordersOfBuilding_76 o F (fun q1 q2 => ih q1 q2) _ hf hr
set_option maxRecDepth 100000 in
set_option maxHeartbeats 4000000 in
theorem S_X7_ordersOfBuilding_33 {k : Kst} {d : Kdy} (o : Ok k d cX7_ordersOfBuilding RX7 9 5) (F : Nat) : ∀ (f : Nat) {h : Hp} {a0 : Nat} {x2 : Int32} {x3 : Int32} {x4 : Int32} {x5 : Int32} {x6 : Int32} {r : Int32} {h1 : Hp}, X7_ordersOfBuilding_33 F f a0 x2 x3 x4 x5 x6 h = some (r, h1) → RI k d cX7_ordersOfBuilding r h1 → Wz k d h 33 [(0, .ref (ka k a0)), (2, .int x2), (3, .int x3), (4, .int x4), (5, .int x5), (6, .int x6)] [] := by
  intro f
  induction f with
  | zero =>
    intro h a0 x2 x3 x4 x5 x6 r h1 hf hr
    exact nomatch (show (none : Option _) = some _ from hf)
  | succ f ih =>
    intro h a0 x2 x3 x4 x5 x6 r h1 hf hr
    rw [X7_ordersOfBuilding_33] at hf
    refine x_iload o dX7_ordersOfBuilding_33 5 rfl ?_
    refine x_bipush (v := 20) o dX7_ordersOfBuilding_35 (by decide) ?_
    refine x_icmp_gt o 56 dX7_ordersOfBuilding_37 (by decide) (fun q_1 => ?_) (fun q_1 => ?_)
    · replace hf := (if_pos q_1).symm.trans hf
      refine x_iload_n o dX7_ordersOfBuilding_56 1 rfl rfl ?_
      refine x_istore o dX7_ordersOfBuilding_57 (by decide) [(6, .int x2), (0, .ref (ka k a0)), (2, .int x2), (3, .int x3), (4, .int x4), (5, .int x5)] rfl ?_
      refine x_sub [1, 2, 3, 4, 5, 0] [(0, .ref (ka k a0)), (2, .int x2), (3, .int x3), (4, .int x4), (5, .int x5), (6, .int x2)] rfl ?_
      exact S_X7_ordersOfBuilding_59 o F _ hf hr
    · replace hf := (if_neg q_1).symm.trans hf
      refine x_aload_n o dX7_ordersOfBuilding_40 0 rfl rfl ?_
      obtain ⟨k_2, hf⟩ := gq_ex hf
      obtain ⟨j_3, ej_3, hf⟩ := ob_ex hf
      refine gRX7_9 o k_2 ej_3 dX7_ordersOfBuilding_41 ?_
      refine x_iload o dX7_ordersOfBuilding_44 5 rfl ?_
      refine x_iconst (v := 0) o dX7_ordersOfBuilding_46 (by decide) ?_
      obtain ⟨h_5, eh_5, hf⟩ := ob_ex hf
      refine vRX7_67 [.ref (ka k j_3), .int x6, .int 0] [] o (C_X11_put o.1.2.2.2.2.2.2.1 o.2 F eh_5) (by decide) rfl rfl (Nat.le_of_ble_eq_true rfl) dX7_ordersOfBuilding_47 ?_
      obtain ⟨x6_6, ex6_6, hf⟩ := bd_ex hf
      refine x_iinc o dX7_ordersOfBuilding_50 (by decide) 5 rfl ex6_6.symm [(6, .int x6_6), (0, .ref (ka k a0)), (2, .int x2), (3, .int x3), (4, .int x4), (5, .int x5)] rfl ?_
      refine x_goto o 33 dX7_ordersOfBuilding_53 (by decide) ?_
      refine x_sub [1, 2, 3, 4, 5, 0] [(0, .ref (ka k a0)), (2, .int x2), (3, .int x3), (4, .int x4), (5, .int x5), (6, .int x6_6)] rfl ?_
      exact ih hf hr
set_option maxRecDepth 100000 in
set_option maxHeartbeats 4000000 in
theorem S_X7_ordersOfBuilding_0 {k : Kst} {d : Kdy} (o : Ok k d cX7_ordersOfBuilding RX7 9 5) (F : Nat) {h : Hp} {a0 : Nat} {a1 : Nat} {r : Int32} {h1 : Hp} (hf : X7_ordersOfBuilding F a0 a1 h = some (r, h1)) (hr : RI k d cX7_ordersOfBuilding r h1) : Wz k d h 0 [(0, .ref (ka k a0)), (1, .ref (ka k a1))] [] := by
  unfold X7_ordersOfBuilding at hf
  refine x_aload_n o dX7_ordersOfBuilding_0 1 rfl rfl ?_
  refine x_iconst (v := 0) o dX7_ordersOfBuilding_1 (by decide) ?_
  obtain ⟨k_1, hf⟩ := gq_ex hf
  obtain ⟨c_2, ec_2, hf⟩ := ob_ex hf
  refine vRX7_50 [.int 0] [] o (C_X10_standing o.1.2.2.2.2.2.2.1 o.2 F ec_2) (by decide) k_1 rfl rfl (Nat.le_of_ble_eq_true rfl) dX7_ordersOfBuilding_2 ?_
  refine x_istore_n o dX7_ordersOfBuilding_5 (by decide) rfl [(2, .int c_2), (0, .ref (ka k a0)), (1, .ref (ka k a1))] rfl ?_
  refine x_aload_n o dX7_ordersOfBuilding_6 2 rfl rfl ?_
  refine x_iconst (v := 1) o dX7_ordersOfBuilding_7 (by decide) ?_
  obtain ⟨c_4, ec_4, hf⟩ := ob_ex hf
  refine vRX7_50 [.int 1] [] o (C_X10_standing o.1.2.2.2.2.2.2.1 o.2 F ec_4) (by decide) k_1 rfl rfl (Nat.le_of_ble_eq_true rfl) dX7_ordersOfBuilding_8 ?_
  refine x_istore_n o dX7_ordersOfBuilding_11 (by decide) rfl [(3, .int c_4), (2, .int c_2), (0, .ref (ka k a0)), (1, .ref (ka k a1))] rfl ?_
  refine x_aload_n o dX7_ordersOfBuilding_12 3 rfl rfl ?_
  obtain ⟨j_6, ej_6, hf⟩ := ob_ex hf
  refine gRX7_55 o k_1 ej_6 dX7_ordersOfBuilding_13 ?_
  obtain ⟨k_7, hf⟩ := gq_ex hf
  refine gRX7_59 o k_7 dX7_ordersOfBuilding_16 ?_
  obtain ⟨x4_8, ex4_8, hf⟩ := bd_ex hf
  refine x_top ex4_8 ?_
  refine x_istore o dX7_ordersOfBuilding_19 (by decide) [(4, .int x4_8), (3, .int c_4), (2, .int c_2), (0, .ref (ka k a0)), (1, .ref (ka k a1))] rfl ?_
  refine x_aload_n o dX7_ordersOfBuilding_21 4 rfl rfl ?_
  obtain ⟨j_9, ej_9, hf⟩ := ob_ex hf
  refine gRX7_64 o k_1 ej_9 dX7_ordersOfBuilding_22 ?_
  obtain ⟨k_10, hf⟩ := gq_ex hf
  refine gRX7_59 o k_10 dX7_ordersOfBuilding_25 ?_
  obtain ⟨x5_11, ex5_11, hf⟩ := bd_ex hf
  refine x_top ex5_11 ?_
  refine x_istore o dX7_ordersOfBuilding_28 (by decide) [(5, .int x5_11), (4, .int x4_8), (3, .int c_4), (2, .int c_2), (0, .ref (ka k a0)), (1, .ref (ka k a1))] rfl ?_
  refine x_iconst (v := 0) o dX7_ordersOfBuilding_30 (by decide) ?_
  refine x_istore o dX7_ordersOfBuilding_31 (by decide) [(6, .int 0), (5, .int x5_11), (4, .int x4_8), (3, .int c_4), (2, .int c_2), (0, .ref (ka k a0)), (1, .ref (ka k a1))] rfl ?_
  refine x_sub [5, 4, 3, 2, 1, 0] [(0, .ref (ka k a0)), (2, .int c_2), (3, .int c_4), (4, .int x4_8), (5, .int x5_11), (6, .int 0)] rfl ?_
  exact S_X7_ordersOfBuilding_33 o F _ hf hr
theorem C_X7_ordersOfBuilding {k : Kst} (hj : Dj k) (hn : kn k = kdl.length) (F : Nat) {h : Hp} {a0 : Nat} {a1 : Nat} {r : Int32} {h1 : Hp} (hf : X7_ordersOfBuilding F a0 a1 h = some (r, h1)) : MI k 5 yX7_ordersOfBuilding cX7_ordersOfBuilding 9 (some .int) [.ref (ka k a0), .ref (ka k a1)] h r h1 := mI hj hn (by decide +kernel) (Nat.le_of_ble_eq_true rfl) (fun d o hr => S_X7_ordersOfBuilding_0 o F hf hr)
set_option maxRecDepth 100000 in
set_option maxHeartbeats 4000000 in
theorem S_X7_fliesOver_13 {k : Kst} {d : Kdy} (o : Ok k d cX7_fliesOver RX7 9 3) (F : Nat) : ∀ (f : Nat) {h : Hp} {x0 : Int32} {x1 : Int32} {x3 : Int32} {x5 : Int32} {x6 : Int32} {x7 : Int32} {x8 : Int32} {r : Int32}, X7_fliesOver_13 F f x0 x1 x3 x5 x6 x7 x8 h = some r → RZ k d cX7_fliesOver r h → Wz k d h 13 [(0, .int x0), (1, .int x1), (3, .int x3), (5, .int x5), (6, .int x6), (7, .int x7), (8, .int x8)] [] := by
  intro f
  induction f with
  | zero =>
    intro h x0 x1 x3 x5 x6 x7 x8 r hf hr
    exact nomatch (show (none : Option _) = some _ from hf)
  | succ f ih =>
    intro h x0 x1 x3 x5 x6 x7 x8 r hf hr
    rw [X7_fliesOver_13] at hf
    refine x_iload o dX7_fliesOver_13 6 rfl ?_
    refine x_sipush (v := 200) o dX7_fliesOver_15 (by decide) ?_
    refine x_icmp_gt o 68 dX7_fliesOver_18 (by decide) (fun q_1 => ?_) (fun q_1 => ?_)
    · replace hf := (if_pos q_1).symm.trans hf
      refine x_iconst (v := 0) o dX7_fliesOver_68 (by decide) ?_
      cases hf
      exact hr (Or.inl rfl) _ _ dX7_fliesOver_69
    · replace hf := (if_neg q_1).symm.trans hf
      refine x_iload o dX7_fliesOver_21 3 rfl ?_
      refine x_iload_n o dX7_fliesOver_23 2 rfl rfl ?_
      refine x_iadd o dX7_fliesOver_24 ?_
      obtain ⟨x5_2, ex5_2, hf⟩ := bd_ex hf
      refine x_top ex5_2 ?_
      refine x_istore o dX7_fliesOver_25 (by decide) [(5, .int x5_2), (0, .int x0), (1, .int x1), (3, .int x3), (6, .int x6), (7, .int x7), (8, .int x8)] rfl ?_
      refine x_iload o dX7_fliesOver_27 4 rfl ?_
      refine x_iload o dX7_fliesOver_29 5 rfl ?_
      refine x_iadd o dX7_fliesOver_31 ?_
      obtain ⟨x6_3, ex6_3, hf⟩ := bd_ex hf
      refine x_top ex6_3 ?_
      refine x_istore o dX7_fliesOver_32 (by decide) [(6, .int x6_3), (5, .int x5_2), (0, .int x0), (1, .int x1), (3, .int x3), (7, .int x7), (8, .int x8)] rfl ?_
      obtain ⟨x7_4, ex7_4, hf⟩ := bd_ex hf
      refine x_iinc o dX7_fliesOver_34 (by decide) 5 rfl ex7_4.symm [(7, .int x7_4), (6, .int x6_3), (5, .int x5_2), (0, .int x0), (1, .int x1), (3, .int x3), (8, .int x8)] rfl ?_
      refine x_iload o dX7_fliesOver_37 2 rfl ?_
      refine x_iload_n o dX7_fliesOver_39 3 rfl rfl ?_
      refine x_icmp_lt o 55 dX7_fliesOver_40 (by decide) (fun q_5 => ?_) (fun q_5 => ?_)
      · replace hf := (if_pos q_5).symm.trans hf
        refine x_iload o dX7_fliesOver_55 1 rfl ?_
        refine x_if_ge o 62 dX7_fliesOver_57 (by decide) (fun q_6 => ?_) (fun q_6 => ?_)
        · replace hf := (if_pos q_6).symm.trans hf
          obtain ⟨x8_7, ex8_7, hf⟩ := bd_ex hf
          refine x_iinc o dX7_fliesOver_62 (by decide) 6 rfl ex8_7.symm [(8, .int x8_7), (7, .int x7_4), (6, .int x6_3), (5, .int x5_2), (0, .int x0), (1, .int x1), (3, .int x3)] rfl ?_
          refine x_goto o 13 dX7_fliesOver_65 (by decide) ?_
          refine x_sub [4, 5, 6, 3, 2, 1, 0] [(0, .int x0), (1, .int x1), (3, .int x3), (5, .int x5_2), (6, .int x6_3), (7, .int x7_4), (8, .int x8_7)] rfl ?_
          exact ih hf hr
        · replace hf := (if_neg q_6).symm.trans hf
          refine x_iconst (v := 0) o dX7_fliesOver_60 (by decide) ?_
          cases hf
          exact hr (Or.inl rfl) _ _ dX7_fliesOver_61
      · replace hf := (if_neg q_5).symm.trans hf
        refine x_iload o dX7_fliesOver_43 1 rfl ?_
        refine x_iload_n o dX7_fliesOver_45 4 rfl rfl ?_
        refine x_icmp_lt o 53 dX7_fliesOver_46 (by decide) (fun q_8 => ?_) (fun q_8 => ?_)
        · replace hf := (if_pos q_8).symm.trans hf
          refine x_iconst (v := 0) o dX7_fliesOver_53 (by decide) ?_
          cases hf
          exact hr (Or.inl rfl) _ _ dX7_fliesOver_54
        · replace hf := (if_neg q_8).symm.trans hf
          refine x_iconst (v := 1) o dX7_fliesOver_49 (by decide) ?_
          refine x_goto o 54 dX7_fliesOver_50 (by decide) ?_
          cases hf
          exact hr (Or.inr rfl) _ _ dX7_fliesOver_54
set_option maxRecDepth 100000 in
set_option maxHeartbeats 4000000 in
theorem S_X7_fliesOver_0 {k : Kst} {d : Kdy} (o : Ok k d cX7_fliesOver RX7 9 3) (F : Nat) {h : Hp} {x0 : Int32} {x1 : Int32} {x2 : Int32} {x3 : Int32} {x4 : Int32} {r : Int32} (hf : X7_fliesOver F x0 x1 x2 x3 x4 h = some r) (hr : RZ k d cX7_fliesOver r h) : Wz k d h 0 [(0, .int x0), (1, .int x1), (2, .int x2), (3, .int x3), (4, .int x4)] [] := by
  unfold X7_fliesOver at hf
  refine x_iconst (v := 0) o dX7_fliesOver_0 (by decide) ?_
  refine x_istore o dX7_fliesOver_1 (by decide) [(5, .int 0), (0, .int x0), (1, .int x1), (2, .int x2), (3, .int x3), (4, .int x4)] rfl ?_
  refine x_iload_n o dX7_fliesOver_3 3 rfl rfl ?_
  refine x_istore o dX7_fliesOver_4 (by decide) [(6, .int x2), (5, .int 0), (0, .int x0), (1, .int x1), (2, .int x2), (3, .int x3), (4, .int x4)] rfl ?_
  refine x_iload o dX7_fliesOver_6 6 rfl ?_
  refine x_istore o dX7_fliesOver_8 (by decide) [(7, .int x4), (6, .int x2), (5, .int 0), (0, .int x0), (1, .int x1), (2, .int x2), (3, .int x3), (4, .int x4)] rfl ?_
  refine x_iconst (v := 1) o dX7_fliesOver_10 (by decide) ?_
  refine x_istore o dX7_fliesOver_11 (by decide) [(8, .int 1), (7, .int x4), (6, .int x2), (5, .int 0), (0, .int x0), (1, .int x1), (2, .int x2), (3, .int x3), (4, .int x4)] rfl ?_
  refine x_sub [4, 5, 7, 3, 2, 1, 0] [(0, .int x0), (1, .int x1), (3, .int x3), (5, .int 0), (6, .int x2), (7, .int x4), (8, .int 1)] rfl ?_
  exact S_X7_fliesOver_13 o F _ hf hr
theorem C_X7_fliesOver {k : Kst} (hj : Dj k) (hn : kn k = kdl.length) (F : Nat) {h : Hp} {x0 : Int32} {x1 : Int32} {x2 : Int32} {x3 : Int32} {x4 : Int32} {r : Int32} (hf : X7_fliesOver F x0 x1 x2 x3 x4 h = some r) : MI k 3 yX7_fliesOver cX7_fliesOver 9 (some .boolean) [.int x0, .int x1, .int x2, .int x3, .int x4] h r h := mZ hj hn (by decide +kernel) (Nat.le_of_ble_eq_true rfl) (fun d o hr => S_X7_fliesOver_0 o F hf hr)
set_option maxRecDepth 100000 in
set_option maxHeartbeats 4000000 in
theorem S_X7_pilesUpTo_0 {k : Kst} {d : Kdy} (o : Ok k d cX7_pilesUpTo RX7 2 4) (F : Nat) {h : Hp} {a0 : Nat} {x1 : Int32} {r : Int32} (hf : X7_pilesUpTo F a0 x1 h = some r) (hr : RI k d cX7_pilesUpTo r h) : Wz k d h 0 [(0, .ref (ka k a0)), (1, .int x1)] [] := by
  unfold X7_pilesUpTo at hf
  refine x_aload_n o dX7_pilesUpTo_0 0 rfl rfl ?_
  obtain ⟨k_1, hf⟩ := gq_ex hf
  obtain ⟨j_2, ej_2, hf⟩ := ob_ex hf
  refine gRX7_15 o k_1 ej_2 dX7_pilesUpTo_1 ?_
  refine x_iload_n o dX7_pilesUpTo_4 1 rfl rfl ?_
  obtain ⟨c_3, ec_3, hf⟩ := ob_ex hf
  refine vRX7_71 [.ref (ka k j_2), .int x1] [] o (C_X11_get o.1.2.2.2.2.2.2.1 o.2 F ec_3) (by decide) rfl rfl (Nat.le_of_ble_eq_true rfl) dX7_pilesUpTo_5 ?_
  cases hf
  exact hr _ _ dX7_pilesUpTo_8
theorem C_X7_pilesUpTo {k : Kst} (hj : Dj k) (hn : kn k = kdl.length) (F : Nat) {h : Hp} {a0 : Nat} {x1 : Int32} {r : Int32} (hf : X7_pilesUpTo F a0 x1 h = some r) : MI k 4 yX7_pilesUpTo cX7_pilesUpTo 2 (some .int) [.ref (ka k a0), .int x1] h r h := mI hj hn (by decide +kernel) (Nat.le_of_ble_eq_true rfl) (fun d o hr => S_X7_pilesUpTo_0 o F hf hr)
set_option maxRecDepth 100000 in
set_option maxHeartbeats 4000000 in
theorem S_X7_pilesWithLast_36 {k : Kst} {d : Kdy} (o : Ok k d cX7_pilesWithLast RX7 6 5) (F : Nat) : ∀ (f : Nat) {h : Hp} {a0 : Nat} {x2 : Int32} {x4 : Int32} {x5 : Int32} {r : Int32}, X7_pilesWithLast_36 F f a0 x2 x4 x5 h = some r → RI k d cX7_pilesWithLast r h → Wz k d h 36 [(0, .ref (ka k a0)), (2, .int x2), (4, .int x4), (5, .int x5)] [] := by
  intro f
  induction f with
  | zero =>
    intro h a0 x2 x4 x5 r hf hr
    exact nomatch (show (none : Option _) = some _ from hf)
  | succ f ih =>
    intro h a0 x2 x4 x5 r hf hr
    rw [X7_pilesWithLast_36] at hf
    refine x_iload o dX7_pilesWithLast_36 3 rfl ?_
    refine x_iload_n o dX7_pilesWithLast_38 1 rfl rfl ?_
    refine x_icmp_ge o 61 dX7_pilesWithLast_39 (by decide) (fun q_1 => ?_) (fun q_1 => ?_)
    · replace hf := (if_pos q_1).symm.trans hf
      refine x_iload o dX7_pilesWithLast_61 2 rfl ?_
      refine x_iconst (v := 1) o dX7_pilesWithLast_63 (by decide) ?_
      refine x_iadd o dX7_pilesWithLast_64 ?_
      cases hf
      exact hr _ _ dX7_pilesWithLast_65
    · replace hf := (if_neg q_1).symm.trans hf
      refine x_iload o dX7_pilesWithLast_42 2 rfl ?_
      refine x_aload_n o dX7_pilesWithLast_44 0 rfl rfl ?_
      refine x_iload o dX7_pilesWithLast_45 3 rfl ?_
      obtain ⟨k_2, hf⟩ := gq_ex hf
      obtain ⟨c_3, ec_3, hf⟩ := ob_ex hf
      refine vRX7_80 [.int x5] [.int x4] o (C_X7_pilesUpTo o.1.2.2.2.2.2.2.1 o.2 F ec_3) (by decide) k_2 rfl rfl (Nat.le_of_ble_eq_true rfl) dX7_pilesWithLast_47 ?_
      refine x_mmin o wRX7_46 (by decide) (Nat.le_of_ble_eq_true rfl) dX7_pilesWithLast_50 ?_
      obtain ⟨x4_5, ex4_5, hf⟩ := bd_ex hf
      refine x_top ex4_5 ?_
      refine x_istore o dX7_pilesWithLast_53 (by decide) [(4, .int x4_5), (0, .ref (ka k a0)), (2, .int x2), (5, .int x5)] rfl ?_
      obtain ⟨x5_6, ex5_6, hf⟩ := bd_ex hf
      refine x_iinc o dX7_pilesWithLast_55 (by decide) 3 rfl ex5_6.symm [(5, .int x5_6), (4, .int x4_5), (0, .ref (ka k a0)), (2, .int x2)] rfl ?_
      refine x_goto o 36 dX7_pilesWithLast_58 (by decide) ?_
      refine x_sub [2, 3, 1, 0] [(0, .ref (ka k a0)), (2, .int x2), (4, .int x4_5), (5, .int x5_6)] rfl ?_
      exact ih hf hr
set_option maxRecDepth 100000 in
set_option maxHeartbeats 4000000 in
theorem S_X7_pilesWithLast_0 {k : Kst} {d : Kdy} (o : Ok k d cX7_pilesWithLast RX7 6 5) (F : Nat) {h : Hp} {a0 : Nat} {a1 : Nat} {x2 : Int32} {x3 : Int32} {r : Int32} (hf : X7_pilesWithLast F a0 a1 x2 x3 h = some r) (hr : RI k d cX7_pilesWithLast r h) : Wz k d h 0 [(0, .ref (ka k a0)), (1, .ref (ka k a1)), (2, .int x2), (3, .int x3)] [] := by
  unfold X7_pilesWithLast at hf
  refine x_aload_n o dX7_pilesWithLast_0 1 rfl rfl ?_
  refine x_iload_n o dX7_pilesWithLast_1 2 rfl rfl ?_
  refine x_bipush (v := 8) o dX7_pilesWithLast_2 (by decide) ?_
  refine x_idiv o dX7_pilesWithLast_4 (by decide) ?_
  obtain ⟨k_1, hf⟩ := gq_ex hf
  obtain ⟨c_2, ec_2, hf⟩ := ob_ex hf
  refine vRX7_43 [.int (x2 / 8)] [] o (C_X9_at o.1.2.2.2.2.2.2.1 o.2 F ec_2) (by decide) k_1 rfl rfl (Nat.le_of_ble_eq_true rfl) dX7_pilesWithLast_5 ?_
  refine x_iload_n o dX7_pilesWithLast_8 2 rfl rfl ?_
  refine x_bipush (v := 8) o dX7_pilesWithLast_9 (by decide) ?_
  refine x_irem o dX7_pilesWithLast_11 (by decide) ?_
  refine x_ishr o dX7_pilesWithLast_12 ?_
  refine x_iconst (v := 1) o dX7_pilesWithLast_13 (by decide) ?_
  refine x_iand o dX7_pilesWithLast_14 ?_
  refine x_if_ne o 22 dX7_pilesWithLast_15 (by decide) (fun q_4 => ?_) (fun q_4 => ?_)
  · replace hf := (if_neg q_4).symm.trans hf
    refine x_sipush (v := 999) o dX7_pilesWithLast_22 (by decide) ?_
    refine x_istore o dX7_pilesWithLast_25 (by decide) [(4, .int 999), (0, .ref (ka k a0)), (1, .ref (ka k a1)), (2, .int x2), (3, .int x3)] rfl ?_
    refine x_iconst (v := 0) o dX7_pilesWithLast_27 (by decide) ?_
    refine x_iload_n o dX7_pilesWithLast_28 3 rfl rfl ?_
    refine x_iload_n o dX7_pilesWithLast_29 4 rfl rfl ?_
    refine x_isub o dX7_pilesWithLast_30 ?_
    refine x_mmax o wRX7_83 (by decide) (Nat.le_of_ble_eq_true rfl) dX7_pilesWithLast_31 ?_
    obtain ⟨x5_5, ex5_5, hf⟩ := bd_ex hf
    refine x_top ex5_5 ?_
    refine x_istore o dX7_pilesWithLast_34 (by decide) [(5, .int x5_5), (4, .int 999), (0, .ref (ka k a0)), (1, .ref (ka k a1)), (2, .int x2), (3, .int x3)] rfl ?_
    refine x_sub [2, 4, 1, 0] [(0, .ref (ka k a0)), (2, .int x2), (4, .int 999), (5, .int x5_5)] rfl ?_
    exact S_X7_pilesWithLast_36 o F _ hf hr
  · replace hf := (if_pos q_4).symm.trans hf
    refine x_sipush (v := 1000) o dX7_pilesWithLast_18 (by decide) ?_
    cases hf
    exact hr _ _ dX7_pilesWithLast_21
theorem C_X7_pilesWithLast {k : Kst} (hj : Dj k) (hn : kn k = kdl.length) (F : Nat) {h : Hp} {a0 : Nat} {a1 : Nat} {x2 : Int32} {x3 : Int32} {r : Int32} (hf : X7_pilesWithLast F a0 a1 x2 x3 h = some r) : MI k 5 yX7_pilesWithLast cX7_pilesWithLast 6 (some .int) [.ref (ka k a0), .ref (ka k a1), .int x2, .int x3] h r h := mI hj hn (by decide +kernel) (Nat.le_of_ble_eq_true rfl) (fun d o hr => S_X7_pilesWithLast_0 o F hf hr)
set_option maxRecDepth 100000 in
set_option maxHeartbeats 4000000 in
theorem S_X7_lastPile_87 {k : Kst} {d : Kdy} (o : Ok k d cX7_lastPile RX7 7 6) (F : Nat) {k21 : Nat → Nat → Int32 → Int32 → Int32 → Int32 → Int32 → Hp → Option (Int32 × Hp)} (hk21 : ∀ {h : Hp} {a0 : Nat} {a1 : Nat} {x2 : Int32} {x3 : Int32} {x4 : Int32} {x5 : Int32} {x6 : Int32} {r : Int32} {h1 : Hp}, k21 a0 a1 x2 x3 x4 x5 x6 h = some (r, h1) → RI k d cX7_lastPile r h1 → Wz k d h 21 [(0, .ref (ka k a0)), (1, .ref (ka k a1)), (2, .int x2), (3, .int x3), (4, .int x4), (5, .int x5), (6, .int x6)] []) {h : Hp} {a0 : Nat} {a1 : Nat} {x2 : Int32} {x3 : Int32} {x4 : Int32} {x5 : Int32} {x6 : Int32} {r : Int32} {h1 : Hp} (hf : X7_lastPile_87 F k21 a0 a1 x2 x3 x4 x5 x6 h = some (r, h1)) (hr : RI k d cX7_lastPile r h1) : Wz k d h 87 [(0, .ref (ka k a0)), (1, .ref (ka k a1)), (2, .int x2), (3, .int x3), (4, .int x4), (5, .int x5), (6, .int x6)] [] := by
  unfold X7_lastPile_87 at hf
  obtain ⟨x6_1, ex6_1, hf⟩ := bd_ex hf
  refine x_iinc o dX7_lastPile_87 (by decide) 6 rfl ex6_1.symm [(6, .int x6_1), (0, .ref (ka k a0)), (1, .ref (ka k a1)), (2, .int x2), (3, .int x3), (4, .int x4), (5, .int x5)] rfl ?_
  refine x_goto o 21 dX7_lastPile_90 (by decide) ?_
  refine x_sub [1, 2, 3, 4, 5, 6, 0] [(0, .ref (ka k a0)), (1, .ref (ka k a1)), (2, .int x2), (3, .int x3), (4, .int x4), (5, .int x5), (6, .int x6_1)] rfl ?_
  exact hk21 hf hr
set_option maxRecDepth 100000 in
set_option maxHeartbeats 4000000 in
theorem S_X7_lastPile_56 {k : Kst} {d : Kdy} (o : Ok k d cX7_lastPile RX7 7 6) (F : Nat) {k21 : Nat → Nat → Int32 → Int32 → Int32 → Int32 → Int32 → Hp → Option (Int32 × Hp)} (hk21 : ∀ {h : Hp} {a0 : Nat} {a1 : Nat} {x2 : Int32} {x3 : Int32} {x4 : Int32} {x5 : Int32} {x6 : Int32} {r : Int32} {h1 : Hp}, k21 a0 a1 x2 x3 x4 x5 x6 h = some (r, h1) → RI k d cX7_lastPile r h1 → Wz k d h 21 [(0, .ref (ka k a0)), (1, .ref (ka k a1)), (2, .int x2), (3, .int x3), (4, .int x4), (5, .int x5), (6, .int x6)] []) {h : Hp} {a0 : Nat} {a1 : Nat} {x2 : Int32} {x3 : Int32} {x4 : Int32} {x5 : Int32} {x6 : Int32} {r : Int32} {h1 : Hp} (hf : X7_lastPile_56 F k21 a0 a1 x2 x3 x4 x5 x6 h = some (r, h1)) (hr : RI k d cX7_lastPile r h1) : Wz k d h 56 [(0, .ref (ka k a0)), (1, .ref (ka k a1)), (2, .int x2), (3, .int x3), (4, .int x4), (5, .int x5), (6, .int x6)] [] := by
  unfold X7_lastPile_56 at hf
  refine x_iload_n o dX7_lastPile_56 2 rfl rfl ?_
  refine x_iload o dX7_lastPile_57 6 rfl ?_
  refine x_isub o dX7_lastPile_59 ?_
  refine x_iload_n o dX7_lastPile_60 3 rfl rfl ?_
  refine x_icmp_gt o 87 dX7_lastPile_61 (by decide) (fun q_1 => ?_) (fun q_1 => ?_)
  · replace hf := (if_pos q_1).symm.trans hf
    refine x_sub [0, 1, 2, 3, 4, 5, 6] [(0, .ref (ka k a0)), (1, .ref (ka k a1)), (2, .int x2), (3, .int x3), (4, .int x4), (5, .int x5), (6, .int x6)] rfl ?_
    exact S_X7_lastPile_87 o F hk21 hf hr
  · replace hf := (if_neg q_1).symm.trans hf
    refine x_aload_n o dX7_lastPile_64 0 rfl rfl ?_
    refine x_iload o dX7_lastPile_65 6 rfl ?_
    obtain ⟨k_2, hf⟩ := gq_ex hf
    obtain ⟨c_3, ec_3, hf⟩ := ob_ex hf
    refine vRX7_80 [.int x6] [] o (C_X7_pilesUpTo o.1.2.2.2.2.2.2.1 o.2 F ec_3) (by decide) k_2 rfl rfl (Nat.le_of_ble_eq_true rfl) dX7_lastPile_67 ?_
    refine x_iload o dX7_lastPile_70 4 rfl ?_
    refine x_icmp_ge o 87 dX7_lastPile_72 (by decide) (fun q_5 => ?_) (fun q_5 => ?_)
    · replace hf := (if_pos q_5).symm.trans hf
      refine x_sub [0, 1, 2, 3, 4, 5, 6] [(0, .ref (ka k a0)), (1, .ref (ka k a1)), (2, .int x2), (3, .int x3), (4, .int x4), (5, .int x5), (6, .int x6)] rfl ?_
      exact S_X7_lastPile_87 o F hk21 hf hr
    · replace hf := (if_neg q_5).symm.trans hf
      refine x_aload_n o dX7_lastPile_75 0 rfl rfl ?_
      refine x_iload o dX7_lastPile_76 6 rfl ?_
      obtain ⟨c_6, ec_6, hf⟩ := ob_ex hf
      refine vRX7_80 [.int x6] [] o (C_X7_pilesUpTo o.1.2.2.2.2.2.2.1 o.2 F ec_6) (by decide) k_2 rfl rfl (Nat.le_of_ble_eq_true rfl) dX7_lastPile_78 ?_
      refine x_istore o dX7_lastPile_81 (by decide) [(4, .int c_6), (0, .ref (ka k a0)), (1, .ref (ka k a1)), (2, .int x2), (3, .int x3), (5, .int x5), (6, .int x6)] rfl ?_
      refine x_iload o dX7_lastPile_83 6 rfl ?_
      refine x_istore o dX7_lastPile_85 (by decide) [(5, .int x6), (4, .int c_6), (0, .ref (ka k a0)), (1, .ref (ka k a1)), (2, .int x2), (3, .int x3), (6, .int x6)] rfl ?_
      refine x_sub [2, 3, 4, 5, 1, 0, 6] [(0, .ref (ka k a0)), (1, .ref (ka k a1)), (2, .int x2), (3, .int x3), (4, .int c_6), (5, .int x6), (6, .int x6)] rfl ?_
      exact S_X7_lastPile_87 o F hk21 hf hr
set_option maxRecDepth 100000 in
set_option maxHeartbeats 4000000 in
theorem S_X7_lastPile_21 {k : Kst} {d : Kdy} (o : Ok k d cX7_lastPile RX7 7 6) (F : Nat) : ∀ (f : Nat) {h : Hp} {a0 : Nat} {a1 : Nat} {x2 : Int32} {x3 : Int32} {x4 : Int32} {x5 : Int32} {x6 : Int32} {r : Int32} {h1 : Hp}, X7_lastPile_21 F f a0 a1 x2 x3 x4 x5 x6 h = some (r, h1) → RI k d cX7_lastPile r h1 → Wz k d h 21 [(0, .ref (ka k a0)), (1, .ref (ka k a1)), (2, .int x2), (3, .int x3), (4, .int x4), (5, .int x5), (6, .int x6)] [] := by
  intro f
  induction f with
  | zero =>
    intro h a0 a1 x2 x3 x4 x5 x6 r h1 hf hr
    exact nomatch (show (none : Option _) = some _ from hf)
  | succ f ih =>
    intro h a0 a1 x2 x3 x4 x5 x6 r h1 hf hr
    rw [X7_lastPile_21] at hf
    refine x_iload o dX7_lastPile_21 6 rfl ?_
    refine x_iload_n o dX7_lastPile_23 2 rfl rfl ?_
    refine x_icmp_ge o 93 dX7_lastPile_24 (by decide) (fun q_1 => ?_) (fun q_1 => ?_)
    · replace hf := (if_pos q_1).symm.trans hf
      refine x_iload o dX7_lastPile_93 5 rfl ?_
      cases hf
      exact hr _ _ dX7_lastPile_95
    · replace hf := (if_neg q_1).symm.trans hf
      refine x_iload o dX7_lastPile_27 6 rfl ?_
      refine x_bipush (v := 61) o dX7_lastPile_29 (by decide) ?_
      refine x_icmp_ge o 93 dX7_lastPile_31 (by decide) (fun q_2 => ?_) (fun q_2 => ?_)
      · replace hf := (if_pos q_2).symm.trans hf
        refine x_iload o dX7_lastPile_93 5 rfl ?_
        cases hf
        exact hr _ _ dX7_lastPile_95
      · replace hf := (if_neg q_2).symm.trans hf
        refine x_iload o dX7_lastPile_34 6 rfl ?_
        refine x_if_le o 56 dX7_lastPile_36 (by decide) (fun q_3 => ?_) (fun q_3 => ?_)
        · replace hf := (if_pos q_3).symm.trans hf
          refine x_sub [0, 1, 2, 3, 4, 5, 6] [(0, .ref (ka k a0)), (1, .ref (ka k a1)), (2, .int x2), (3, .int x3), (4, .int x4), (5, .int x5), (6, .int x6)] rfl ?_
          exact S_X7_lastPile_56 o F (fun q1 q2 => ih q1 q2) hf hr
        · replace hf := (if_neg q_3).symm.trans hf
          refine x_aload_n o dX7_lastPile_39 0 rfl rfl ?_
          obtain ⟨k_4, hf⟩ := gq_ex hf
          obtain ⟨j_5, ej_5, hf⟩ := ob_ex hf
          refine gRX7_15 o k_4 ej_5 dX7_lastPile_40 ?_
          refine x_iload o dX7_lastPile_43 6 rfl ?_
          refine x_aload_n o dX7_lastPile_45 0 rfl rfl ?_
          refine x_aload_n o dX7_lastPile_46 1 rfl rfl ?_
          refine x_iload o dX7_lastPile_47 6 rfl ?_
          refine x_iload_n o dX7_lastPile_49 3 rfl rfl ?_
          obtain ⟨c_6, ec_6, hf⟩ := ob_ex hf
          refine vRX7_76 [.ref (ka k a1), .int x6, .int x3] [.int x6, .ref (ka k j_5)] o (C_X7_pilesWithLast o.1.2.2.2.2.2.2.1 o.2 F ec_6) (by decide) k_4 rfl rfl (Nat.le_of_ble_eq_true rfl) dX7_lastPile_50 ?_
          obtain ⟨h_9, eh_9, hf⟩ := ob_ex hf
          refine vRX7_67 [.ref (ka k j_5), .int x6, .int c_6] [] o (C_X11_put o.1.2.2.2.2.2.2.1 o.2 F eh_9) (by decide) rfl rfl (Nat.le_of_ble_eq_true rfl) dX7_lastPile_53 ?_
          refine x_sub [0, 1, 2, 3, 4, 5, 6] [(0, .ref (ka k a0)), (1, .ref (ka k a1)), (2, .int x2), (3, .int x3), (4, .int x4), (5, .int x5), (6, .int x6)] rfl ?_
          exact S_X7_lastPile_56 o F (fun q1 q2 => ih q1 q2) hf hr
set_option maxRecDepth 100000 in
set_option maxHeartbeats 4000000 in
theorem S_X7_lastPile_0 {k : Kst} {d : Kdy} (o : Ok k d cX7_lastPile RX7 7 6) (F : Nat) {h : Hp} {a0 : Nat} {a1 : Nat} {x2 : Int32} {x3 : Int32} {r : Int32} {h1 : Hp} (hf : X7_lastPile F a0 a1 x2 x3 h = some (r, h1)) (hr : RI k d cX7_lastPile r h1) : Wz k d h 0 [(0, .ref (ka k a0)), (1, .ref (ka k a1)), (2, .int x2), (3, .int x3)] [] := by
  unfold X7_lastPile at hf
  refine x_aload_n o dX7_lastPile_0 0 rfl rfl ?_
  obtain ⟨k_1, hf⟩ := gq_ex hf
  obtain ⟨j_2, ej_2, hf⟩ := ob_ex hf
  refine gRX7_15 o k_1 ej_2 dX7_lastPile_1 ?_
  refine x_iconst (v := 0) o dX7_lastPile_4 (by decide) ?_
  refine x_iconst (v := 0) o dX7_lastPile_5 (by decide) ?_
  obtain ⟨h_4, eh_4, hf⟩ := ob_ex hf
  refine vRX7_67 [.ref (ka k j_2), .int 0, .int 0] [] o (C_X11_put o.1.2.2.2.2.2.2.1 o.2 F eh_4) (by decide) rfl rfl (Nat.le_of_ble_eq_true rfl) dX7_lastPile_6 ?_
  refine x_sipush (v := 1000) o dX7_lastPile_9 (by decide) ?_
  refine x_istore o dX7_lastPile_12 (by decide) [(4, .int 1000), (0, .ref (ka k a0)), (1, .ref (ka k a1)), (2, .int x2), (3, .int x3)] rfl ?_
  refine x_bipush (v := (-2)) o dX7_lastPile_14 (by decide) ?_
  refine x_istore o dX7_lastPile_16 (by decide) [(5, .int (-2)), (4, .int 1000), (0, .ref (ka k a0)), (1, .ref (ka k a1)), (2, .int x2), (3, .int x3)] rfl ?_
  refine x_iconst (v := 0) o dX7_lastPile_18 (by decide) ?_
  refine x_istore o dX7_lastPile_19 (by decide) [(6, .int 0), (5, .int (-2)), (4, .int 1000), (0, .ref (ka k a0)), (1, .ref (ka k a1)), (2, .int x2), (3, .int x3)] rfl ?_
  refine x_sub [3, 4, 5, 6, 2, 1, 0] [(0, .ref (ka k a0)), (1, .ref (ka k a1)), (2, .int x2), (3, .int x3), (4, .int 1000), (5, .int (-2)), (6, .int 0)] rfl ?_
  exact S_X7_lastPile_21 o F _ hf hr
theorem C_X7_lastPile {k : Kst} (hj : Dj k) (hn : kn k = kdl.length) (F : Nat) {h : Hp} {a0 : Nat} {a1 : Nat} {x2 : Int32} {x3 : Int32} {r : Int32} {h1 : Hp} (hf : X7_lastPile F a0 a1 x2 x3 h = some (r, h1)) : MI k 6 yX7_lastPile cX7_lastPile 7 (some .int) [.ref (ka k a0), .ref (ka k a1), .int x2, .int x3] h r h1 := mI hj hn (by decide +kernel) (Nat.le_of_ble_eq_true rfl) (fun d o hr => S_X7_lastPile_0 o F hf hr)
set_option maxRecDepth 100000 in
set_option maxHeartbeats 4000000 in
theorem S_J_bitCount_0 {k : Kst} {d : Kdy} (o : Ok k d cJ_bitCount RJ 1 3) (F : Nat) {h : Hp} {x0 : Int32} {r : Int32} (hf : J_bitCount F x0 h = some r) (hr : RI k d cJ_bitCount r h) : Wz k d h 0 [(0, .int x0)] [] := by
  unfold J_bitCount at hf
  refine x_iload_n o dJ_bitCount_0 0 rfl rfl ?_
  refine x_iload_n o dJ_bitCount_1 0 rfl rfl ?_
  refine x_iconst (v := 1) o dJ_bitCount_2 (by decide) ?_
  refine x_iushr o dJ_bitCount_3 ?_
  refine x_ldcw (v := 1431655765) o dJ_bitCount_4 wRJ_265 ?_
  refine x_iand o dJ_bitCount_7 ?_
  refine x_isub o dJ_bitCount_8 ?_
  obtain ⟨x0_1, ex0_1, hf⟩ := bd_ex hf
  refine x_top ex0_1 ?_
  refine x_istore_n o dJ_bitCount_9 (by decide) rfl [(0, .int x0_1)] rfl ?_
  refine x_iload_n o dJ_bitCount_10 0 rfl rfl ?_
  refine x_ldcw (v := 858993459) o dJ_bitCount_11 wRJ_266 ?_
  refine x_iand o dJ_bitCount_14 ?_
  refine x_iload_n o dJ_bitCount_15 0 rfl rfl ?_
  refine x_iconst (v := 2) o dJ_bitCount_16 (by decide) ?_
  refine x_iushr o dJ_bitCount_17 ?_
  refine x_ldcw (v := 858993459) o dJ_bitCount_18 wRJ_266 ?_
  refine x_iand o dJ_bitCount_21 ?_
  refine x_iadd o dJ_bitCount_22 ?_
  obtain ⟨x0_2, ex0_2, hf⟩ := bd_ex hf
  refine x_top ex0_2 ?_
  refine x_istore_n o dJ_bitCount_23 (by decide) rfl [(0, .int x0_2)] rfl ?_
  refine x_iload_n o dJ_bitCount_24 0 rfl rfl ?_
  refine x_iload_n o dJ_bitCount_25 0 rfl rfl ?_
  refine x_iconst (v := 4) o dJ_bitCount_26 (by decide) ?_
  refine x_iushr o dJ_bitCount_27 ?_
  refine x_iadd o dJ_bitCount_28 ?_
  refine x_ldcw (v := 252645135) o dJ_bitCount_29 wRJ_267 ?_
  refine x_iand o dJ_bitCount_32 ?_
  obtain ⟨x0_3, ex0_3, hf⟩ := bd_ex hf
  refine x_top ex0_3 ?_
  refine x_istore_n o dJ_bitCount_33 (by decide) rfl [(0, .int x0_3)] rfl ?_
  refine x_iload_n o dJ_bitCount_34 0 rfl rfl ?_
  refine x_iload_n o dJ_bitCount_35 0 rfl rfl ?_
  refine x_bipush (v := 8) o dJ_bitCount_36 (by decide) ?_
  refine x_iushr o dJ_bitCount_38 ?_
  refine x_iadd o dJ_bitCount_39 ?_
  obtain ⟨x0_4, ex0_4, hf⟩ := bd_ex hf
  refine x_top ex0_4 ?_
  refine x_istore_n o dJ_bitCount_40 (by decide) rfl [(0, .int x0_4)] rfl ?_
  refine x_iload_n o dJ_bitCount_41 0 rfl rfl ?_
  refine x_iload_n o dJ_bitCount_42 0 rfl rfl ?_
  refine x_bipush (v := 16) o dJ_bitCount_43 (by decide) ?_
  refine x_iushr o dJ_bitCount_45 ?_
  refine x_iadd o dJ_bitCount_46 ?_
  obtain ⟨x0_5, ex0_5, hf⟩ := bd_ex hf
  refine x_top ex0_5 ?_
  refine x_istore_n o dJ_bitCount_47 (by decide) rfl [(0, .int x0_5)] rfl ?_
  refine x_iload_n o dJ_bitCount_48 0 rfl rfl ?_
  refine x_bipush (v := 63) o dJ_bitCount_49 (by decide) ?_
  refine x_iand o dJ_bitCount_51 ?_
  cases hf
  exact hr _ _ dJ_bitCount_52
theorem C_J_bitCount {k : Kst} (hj : Dj k) (hn : kn k = kdl.length) (F : Nat) {h : Hp} {x0 : Int32} {r : Int32} (hf : J_bitCount F x0 h = some r) : MI k 3 yJ_bitCount cJ_bitCount 1 (some .int) [.int x0] h r h := mI hj hn (by decide +kernel) (Nat.le_of_ble_eq_true rfl) (fun d o hr => S_J_bitCount_0 o F hf hr)
set_option maxRecDepth 100000 in
set_option maxHeartbeats 4000000 in
theorem S_X7_litBy_71 {k : Kst} {d : Kdy} (o : Ok k d cX7_litBy RX7 7 4) (F : Nat) {k6 : Nat → Int32 → Int32 → Int32 → Int32 → Int32 → Hp → Option Int32} (hk6 : ∀ {h : Hp} {a0 : Nat} {x1 : Int32} {x2 : Int32} {x3 : Int32} {x4 : Int32} {x5 : Int32} {r : Int32}, k6 a0 x1 x2 x3 x4 x5 h = some r → RI k d cX7_litBy r h → Wz k d h 6 [(0, .ref (ka k a0)), (1, .int x1), (2, .int x2), (3, .int x3), (4, .int x4), (5, .int x5)] []) {h : Hp} {a0 : Nat} {x1 : Int32} {x2 : Int32} {x3 : Int32} {x4 : Int32} {x5 : Int32} {r : Int32} (hf : X7_litBy_71 F k6 a0 x1 x2 x3 x4 x5 h = some r) (hr : RI k d cX7_litBy r h) : Wz k d h 71 [(0, .ref (ka k a0)), (1, .int x1), (2, .int x2), (3, .int x3), (4, .int x4), (5, .int x5)] [] := by
  unfold X7_litBy_71 at hf
  obtain ⟨x5_1, ex5_1, hf⟩ := bd_ex hf
  refine x_iinc o dX7_litBy_71 (by decide) 5 rfl ex5_1.symm [(5, .int x5_1), (0, .ref (ka k a0)), (1, .int x1), (2, .int x2), (3, .int x3), (4, .int x4)] rfl ?_
  refine x_goto o 6 dX7_litBy_74 (by decide) ?_
  refine x_sub [1, 2, 3, 4, 5, 0] [(0, .ref (ka k a0)), (1, .int x1), (2, .int x2), (3, .int x3), (4, .int x4), (5, .int x5_1)] rfl ?_
  exact hk6 hf hr
set_option maxRecDepth 100000 in
set_option maxHeartbeats 4000000 in
theorem S_X7_litBy_68 {k : Kst} {d : Kdy} (o : Ok k d cX7_litBy RX7 7 4) (F : Nat) {k6 : Nat → Int32 → Int32 → Int32 → Int32 → Int32 → Hp → Option Int32} (hk6 : ∀ {h : Hp} {a0 : Nat} {x1 : Int32} {x2 : Int32} {x3 : Int32} {x4 : Int32} {x5 : Int32} {r : Int32}, k6 a0 x1 x2 x3 x4 x5 h = some r → RI k d cX7_litBy r h → Wz k d h 6 [(0, .ref (ka k a0)), (1, .int x1), (2, .int x2), (3, .int x3), (4, .int x4), (5, .int x5)] []) {h : Hp} {a0 : Nat} {x1 : Int32} {x2 : Int32} {x3 : Int32} {x5 : Int32} {s0 : Int32} {s1 : Int32} {r : Int32} (hf : X7_litBy_68 F k6 a0 x1 x2 x3 x5 s0 s1 h = some r) (hr : RI k d cX7_litBy r h) : Wz k d h 68 [(0, .ref (ka k a0)), (1, .int x1), (2, .int x2), (3, .int x3), (5, .int x5)] [.int s1, .int s0] := by
  unfold X7_litBy_68 at hf
  refine x_ior o dX7_litBy_68 ?_
  obtain ⟨x4_1, ex4_1, hf⟩ := bd_ex hf
  refine x_top ex4_1 ?_
  refine x_istore o dX7_litBy_69 (by decide) [(4, .int x4_1), (0, .ref (ka k a0)), (1, .int x1), (2, .int x2), (3, .int x3), (5, .int x5)] rfl ?_
  refine x_sub [1, 2, 3, 4, 0, 5] [(0, .ref (ka k a0)), (1, .int x1), (2, .int x2), (3, .int x3), (4, .int x4_1), (5, .int x5)] rfl ?_
  exact S_X7_litBy_71 o F hk6 hf hr
set_option maxRecDepth 100000 in
set_option maxHeartbeats 4000000 in
theorem S_X7_litBy_6 {k : Kst} {d : Kdy} (o : Ok k d cX7_litBy RX7 7 4) (F : Nat) : ∀ (f : Nat) {h : Hp} {a0 : Nat} {x1 : Int32} {x2 : Int32} {x3 : Int32} {x4 : Int32} {x5 : Int32} {r : Int32}, X7_litBy_6 F f a0 x1 x2 x3 x4 x5 h = some r → RI k d cX7_litBy r h → Wz k d h 6 [(0, .ref (ka k a0)), (1, .int x1), (2, .int x2), (3, .int x3), (4, .int x4), (5, .int x5)] [] := by
  intro f
  induction f with
  | zero =>
    intro h a0 x1 x2 x3 x4 x5 r hf hr
    exact nomatch (show (none : Option _) = some _ from hf)
  | succ f ih =>
    intro h a0 x1 x2 x3 x4 x5 r hf hr
    rw [X7_litBy_6] at hf
    refine x_iload o dX7_litBy_6 5 rfl ?_
    refine x_iload_n o dX7_litBy_8 2 rfl rfl ?_
    refine x_icmp_ge o 77 dX7_litBy_9 (by decide) (fun q_1 => ?_) (fun q_1 => ?_)
    · replace hf := (if_pos q_1).symm.trans hf
      refine x_iload o dX7_litBy_77 4 rfl ?_
      refine x_iconst (v := 1) o dX7_litBy_79 (by decide) ?_
      refine x_iload_n o dX7_litBy_80 2 rfl rfl ?_
      refine x_ishl o dX7_litBy_81 ?_
      refine x_iconst (v := 1) o dX7_litBy_82 (by decide) ?_
      refine x_isub o dX7_litBy_83 ?_
      refine x_iand o dX7_litBy_84 ?_
      cases hf
      exact hr _ _ dX7_litBy_85
    · replace hf := (if_neg q_1).symm.trans hf
      refine x_iload_n o dX7_litBy_12 1 rfl rfl ?_
      refine x_iload o dX7_litBy_13 5 rfl ?_
      refine x_ishr o dX7_litBy_15 ?_
      refine x_iconst (v := 1) o dX7_litBy_16 (by decide) ?_
      refine x_iand o dX7_litBy_17 ?_
      refine x_if_eq o 71 dX7_litBy_18 (by decide) (fun q_2 => ?_) (fun q_2 => ?_)
      · replace hf := (if_pos q_2).symm.trans hf
        refine x_sub [0, 1, 2, 3, 4, 5] [(0, .ref (ka k a0)), (1, .int x1), (2, .int x2), (3, .int x3), (4, .int x4), (5, .int x5)] rfl ?_
        exact S_X7_litBy_71 o F (fun q1 q2 => ih q1 q2) hf hr
      · replace hf := (if_neg q_2).symm.trans hf
        refine x_aload_n o dX7_litBy_21 0 rfl rfl ?_
        refine x_iload o dX7_litBy_22 5 rfl ?_
        obtain ⟨k_3, hf⟩ := gq_ex hf
        obtain ⟨c_4, ec_4, hf⟩ := ob_ex hf
        refine vRX7_43 [.int x5] [] o (C_X9_at o.1.2.2.2.2.2.2.1 o.2 F ec_4) (by decide) k_3 rfl rfl (Nat.le_of_ble_eq_true rfl) dX7_litBy_24 ?_
        refine x_if_ne o 32 dX7_litBy_27 (by decide) (fun q_6 => ?_) (fun q_6 => ?_)
        · replace hf := (if_neg q_6).symm.trans hf
          refine x_iconst (v := 1) o dX7_litBy_32 (by decide) ?_
          refine x_iconst (v := 2) o dX7_litBy_33 (by decide) ?_
          refine x_iload_n o dX7_litBy_34 3 rfl rfl ?_
          refine x_imul o dX7_litBy_35 ?_
          refine x_iconst (v := 1) o dX7_litBy_36 (by decide) ?_
          refine x_iadd o dX7_litBy_37 ?_
          refine x_ishl o dX7_litBy_38 ?_
          refine x_iconst (v := 1) o dX7_litBy_39 (by decide) ?_
          refine x_isub o dX7_litBy_40 ?_
          obtain ⟨x6_7, ex6_7, hf⟩ := bd_ex hf
          refine x_top ex6_7 ?_
          refine x_istore o dX7_litBy_41 (by decide) [(6, .int x6_7), (0, .ref (ka k a0)), (1, .int x1), (2, .int x2), (3, .int x3), (4, .int x4), (5, .int x5)] rfl ?_
          refine x_iload o dX7_litBy_43 5 rfl ?_
          refine x_iload o dX7_litBy_45 6 rfl ?_
          refine x_iload_n o dX7_litBy_47 4 rfl rfl ?_
          refine x_icmp_lt o 61 dX7_litBy_48 (by decide) (fun q_8 => ?_) (fun q_8 => ?_)
          · replace hf := (if_pos q_8).symm.trans hf
            refine x_iload o dX7_litBy_61 0 rfl ?_
            refine x_iload_n o dX7_litBy_63 4 rfl rfl ?_
            refine x_iload o dX7_litBy_64 6 rfl ?_
            refine x_isub o dX7_litBy_66 ?_
            refine x_ishr o dX7_litBy_67 ?_
            refine x_sub [1, 2, 3, 4, 6] [(0, .ref (ka k a0)), (1, .int x1), (2, .int x2), (3, .int x3), (5, .int x5)] rfl ?_
            exact S_X7_litBy_68 o F (fun q1 q2 => ih q1 q2) hf hr
          · replace hf := (if_neg q_8).symm.trans hf
            refine x_iload o dX7_litBy_51 0 rfl ?_
            refine x_iload o dX7_litBy_53 6 rfl ?_
            refine x_iload_n o dX7_litBy_55 4 rfl rfl ?_
            refine x_isub o dX7_litBy_56 ?_
            refine x_ishl o dX7_litBy_57 ?_
            refine x_goto o 68 dX7_litBy_58 (by decide) ?_
            refine x_sub [1, 2, 3, 4, 6] [(0, .ref (ka k a0)), (1, .int x1), (2, .int x2), (3, .int x3), (5, .int x5)] rfl ?_
            exact S_X7_litBy_68 o F (fun q1 q2 => ih q1 q2) hf hr
        · replace hf := (if_pos q_6).symm.trans hf
          refine x_iconst (v := 0) o dX7_litBy_30 (by decide) ?_
          cases hf
          exact hr _ _ dX7_litBy_31
set_option maxRecDepth 100000 in
set_option maxHeartbeats 4000000 in
theorem S_X7_litBy_0 {k : Kst} {d : Kdy} (o : Ok k d cX7_litBy RX7 7 4) (F : Nat) {h : Hp} {a0 : Nat} {x1 : Int32} {x2 : Int32} {x3 : Int32} {r : Int32} (hf : X7_litBy F a0 x1 x2 x3 h = some r) (hr : RI k d cX7_litBy r h) : Wz k d h 0 [(0, .ref (ka k a0)), (1, .int x1), (2, .int x2), (3, .int x3)] [] := by
  unfold X7_litBy at hf
  refine x_iconst (v := 0) o dX7_litBy_0 (by decide) ?_
  refine x_istore o dX7_litBy_1 (by decide) [(4, .int 0), (0, .ref (ka k a0)), (1, .int x1), (2, .int x2), (3, .int x3)] rfl ?_
  refine x_iconst (v := 0) o dX7_litBy_3 (by decide) ?_
  refine x_istore o dX7_litBy_4 (by decide) [(5, .int 0), (4, .int 0), (0, .ref (ka k a0)), (1, .int x1), (2, .int x2), (3, .int x3)] rfl ?_
  refine x_sub [2, 3, 4, 5, 1, 0] [(0, .ref (ka k a0)), (1, .int x1), (2, .int x2), (3, .int x3), (4, .int 0), (5, .int 0)] rfl ?_
  exact S_X7_litBy_6 o F _ hf hr
theorem C_X7_litBy {k : Kst} (hj : Dj k) (hn : kn k = kdl.length) (F : Nat) {h : Hp} {a0 : Nat} {x1 : Int32} {x2 : Int32} {x3 : Int32} {r : Int32} (hf : X7_litBy F a0 x1 x2 x3 h = some r) : MI k 4 yX7_litBy cX7_litBy 7 (some .int) [.ref (ka k a0), .int x1, .int x2, .int x3] h r h := mI hj hn (by decide +kernel) (Nat.le_of_ble_eq_true rfl) (fun d o hr => S_X7_litBy_0 o F hf hr)
