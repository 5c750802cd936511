set_option maxRecDepth 100000 in
set_option maxHeartbeats 4000000 in
theorem S_X9_at_0 {k : Kst} {d : Kdy} (o : Ok k d cX9_at RX9 2 3) (F : Nat) {h : Hp} {a0 : Nat} {x1 : Int32} {r : Int32} (hf : X9_at F a0 x1 h = some r) (hr : RI k d cX9_at r h) : Wz k d h 0 [(0, .ref (ka k a0)), (1, .int x1)] [] := by
  unfold X9_at at hf
  refine x_iload_n o dX9_at_0 1 rfl rfl ?_
  refine x_if_lt o 30 dX9_at_1 (by decide) (fun q_1 => ?_) (fun q_1 => ?_)
  · replace hf := (if_pos q_1).symm.trans hf
    refine x_iconst (v := (-1)) o dX9_at_30 (by decide) ?_
    cases hf
    exact hr _ _ dX9_at_31
  · replace hf := (if_neg q_1).symm.trans hf
    refine x_iload_n o dX9_at_4 1 rfl rfl ?_
    refine x_aload_n o dX9_at_5 0 rfl rfl ?_
    obtain ⟨k_2, hf⟩ := gq_ex hf
    refine gRX9_24 o k_2 dX9_at_6 ?_
    refine x_icmp_ge o 30 dX9_at_9 (by decide) (fun q_3 => ?_) (fun q_3 => ?_)
    · replace hf := (if_pos q_3).symm.trans hf
      refine x_iconst (v := (-1)) o dX9_at_30 (by decide) ?_
      cases hf
      exact hr _ _ dX9_at_31
    · replace hf := (if_neg q_3).symm.trans hf
      refine x_iload_n o dX9_at_12 1 rfl rfl ?_
      refine x_aload_n o dX9_at_13 0 rfl rfl ?_
      obtain ⟨j_4, ej_4, hf⟩ := ob_ex hf
      refine gRX9_9 o k_2 ej_4 dX9_at_14 ?_
      obtain ⟨k_5, hf⟩ := gq_ex hf
      refine x_aleni o k_5 dX9_at_17 ?_
      refine x_icmp_ge o 30 dX9_at_18 (by decide) (fun q_6 => ?_) (fun q_6 => ?_)
      · replace hf := (if_pos q_6).symm.trans hf
        refine x_iconst (v := (-1)) o dX9_at_30 (by decide) ?_
        cases hf
        exact hr _ _ dX9_at_31
      · replace hf := (if_neg q_6).symm.trans hf
        refine x_aload_n o dX9_at_21 0 rfl rfl ?_
        refine gRX9_9 o k_2 ej_4 dX9_at_22 ?_
        refine x_iload_n o dX9_at_25 1 rfl rfl ?_
        obtain ⟨b_7, hf⟩ := gq_ex hf
        refine x_iald o k_5 b_7 dX9_at_26 ?_
        refine x_goto o 31 dX9_at_27 (by decide) ?_
        cases hf
        exact hr _ _ dX9_at_31
theorem C_X9_at {k : Kst} (hj : Dj k) (hn : kn k = kdl.length) (F : Nat) {h : Hp} {a0 : Nat} {x1 : Int32} {r : Int32} (hf : X9_at F a0 x1 h = some r) : MI k 3 yX9_at cX9_at 2 (some .int) [.ref (ka k a0), .int x1] h r h := mI hj hn (by decide +kernel) (Nat.le_of_ble_eq_true rfl) (fun d o hr => S_X9_at_0 o F hf hr)
set_option maxRecDepth 100000 in
set_option maxHeartbeats 4000000 in
theorem S_X11_put_0 {k : Kst} {d : Kdy} (o : Ok k d cX11_put RX11 3 3) (F : Nat) {h : Hp} {a0 : Nat} {x1 : Int32} {x2 : Int32} {h1 : Hp} (hf : X11_put F a0 x1 x2 h = some h1) (hr : RV k d cX11_put h1) : Wz k d h 0 [(0, .ref (ka k a0)), (1, .int x1), (2, .int x2)] [] := by
  unfold X11_put at hf
  refine x_iload_n o dX11_put_0 1 rfl rfl ?_
  refine x_if_lt o 14 dX11_put_1 (by decide) (fun q_1 => ?_) (fun q_1 => ?_)
  · replace hf := (if_pos q_1).symm.trans hf
    cases hf
    exact hr _ _ dX11_put_14
  · replace hf := (if_neg q_1).symm.trans hf
    refine x_iload_n o dX11_put_4 1 rfl rfl ?_
    refine x_aload_n o dX11_put_5 0 rfl rfl ?_
    obtain ⟨k_2, hf⟩ := gq_ex hf
    refine x_aleni o k_2 dX11_put_6 ?_
    refine x_icmp_ge o 14 dX11_put_7 (by decide) (fun q_3 => ?_) (fun q_3 => ?_)
    · replace hf := (if_pos q_3).symm.trans hf
      cases hf
      exact hr _ _ dX11_put_14
    · replace hf := (if_neg q_3).symm.trans hf
      refine x_aload_n o dX11_put_10 0 rfl rfl ?_
      refine x_iload_n o dX11_put_11 1 rfl rfl ?_
      refine x_iload_n o dX11_put_12 2 rfl rfl ?_
      obtain ⟨b_4, hf⟩ := gq_ex hf
      obtain ⟨h_5, eh_5, hf⟩ := bd_ex hf
      refine x_iast o k_2 b_4 dX11_put_13 (x_h eh_5 ?_)
      cases hf
      exact hr _ _ dX11_put_14
theorem C_X11_put {k : Kst} (hj : Dj k) (hn : kn k = kdl.length) (F : Nat) {h : Hp} {a0 : Nat} {x1 : Int32} {x2 : Int32} {h1 : Hp} (hf : X11_put F a0 x1 x2 h = some h1) : MV k 3 yX11_put cX11_put 3 [.ref (ka k a0), .int x1, .int x2] h h1 := mV hj hn (by decide +kernel) (Nat.le_of_ble_eq_true rfl) (fun d o hr => S_X11_put_0 o F hf hr)
set_option maxRecDepth 100000 in
set_option maxHeartbeats 4000000 in
theorem S_X0_placeOf_46 {k : Kst} {d : Kdy} (o : Ok k d cX0_placeOf RX0 6 3) (F : Nat) {k4 : Int32 → Int32 → Int32 → Int32 → Hp → Option Int32} {k17 : Int32 → Int32 → Int32 → Int32 → Int32 → Int32 → Hp → Option Int32} (hk4 : ∀ {h : Hp} {x0 : Int32} {x1 : Int32} {x2 : Int32} {x3 : Int32} {r : Int32}, k4 x0 x1 x2 x3 h = some r → RI k d cX0_placeOf r h → Wz k d h 4 [(0, .int x0), (1, .int x1), (2, .int x2), (3, .int x3)] []) (hk17 : ∀ {h : Hp} {x0 : Int32} {x1 : Int32} {x2 : Int32} {x3 : Int32} {x4 : Int32} {x5 : Int32} {r : Int32}, k17 x0 x1 x2 x3 x4 x5 h = some r → RI k d cX0_placeOf r h → Wz k d h 17 [(0, .int x0), (1, .int x1), (2, .int x2), (3, .int x3), (4, .int x4), (5, .int x5)] []) {h : Hp} {x0 : Int32} {x1 : Int32} {x2 : Int32} {x3 : Int32} {x4 : Int32} {x5 : Int32} {r : Int32} (hf : X0_placeOf_46 F k4 k17 x0 x1 x2 x3 x4 x5 h = some r) (hr : RI k d cX0_placeOf r h) : Wz k d h 46 [(0, .int x0), (1, .int x1), (2, .int x2), (3, .int x3), (4, .int x4), (5, .int x5)] [] := by
  unfold X0_placeOf_46 at hf
  obtain ⟨x5_1, ex5_1, hf⟩ := bd_ex hf
  refine x_iinc o dX0_placeOf_46 (by decide) 5 rfl ex5_1.symm [(5, .int x5_1), (0, .int x0), (1, .int x1), (2, .int x2), (3, .int x3), (4, .int x4)] rfl ?_
  refine x_goto o 17 dX0_placeOf_49 (by decide) ?_
  refine x_sub [1, 2, 3, 4, 5, 0] [(0, .int x0), (1, .int x1), (2, .int x2), (3, .int x3), (4, .int x4), (5, .int x5_1)] rfl ?_
  exact hk17 hf hr
set_option maxRecDepth 100000 in
set_option maxHeartbeats 4000000 in
theorem S_X0_placeOf_17 {k : Kst} {d : Kdy} (o : Ok k d cX0_placeOf RX0 6 3) (F : Nat) {k4 : Int32 → Int32 → Int32 → Int32 → Hp → Option Int32} (hk4 : ∀ {h : Hp} {x0 : Int32} {x1 : Int32} {x2 : Int32} {x3 : Int32} {r : Int32}, k4 x0 x1 x2 x3 h = some r → RI k d cX0_placeOf r h → Wz k d h 4 [(0, .int x0), (1, .int x1), (2, .int x2), (3, .int x3)] []) : ∀ (f : Nat) {h : Hp} {x0 : Int32} {x1 : Int32} {x2 : Int32} {x3 : Int32} {x4 : Int32} {x5 : Int32} {r : Int32}, X0_placeOf_17 F k4 f x0 x1 x2 x3 x4 x5 h = some r → RI k d cX0_placeOf r h → Wz k d h 17 [(0, .int x0), (1, .int x1), (2, .int x2), (3, .int x3), (4, .int x4), (5, .int x5)] [] := by
  intro f
  induction f with
  | zero =>
    intro h x0 x1 x2 x3 x4 x5 r hf hr
    exact nomatch (show (none : Option _) = some _ from hf)
  | succ f ih =>
    intro h x0 x1 x2 x3 x4 x5 r hf hr
    rw [X0_placeOf_17] at hf
    refine x_iload o dX0_placeOf_17 5 rfl ?_
    refine x_iload_n o dX0_placeOf_19 1 rfl rfl ?_
    refine x_icmp_ge o 52 dX0_placeOf_20 (by decide) (fun q_1 => ?_) (fun q_1 => ?_)
    · replace hf := (if_pos q_1).symm.trans hf
      refine x_iload_n o dX0_placeOf_52 2 rfl rfl ?_
      refine x_iload_n o dX0_placeOf_53 1 rfl rfl ?_
      refine x_iload_n o dX0_placeOf_54 3 rfl rfl ?_
      refine x_isub o dX0_placeOf_55 ?_
      refine x_imul o dX0_placeOf_56 ?_
      refine x_iload o dX0_placeOf_57 4 rfl ?_
      refine x_iadd o dX0_placeOf_59 ?_
      obtain ⟨x2_2, ex2_2, hf⟩ := bd_ex hf
      refine x_top ex2_2 ?_
      refine x_istore_n o dX0_placeOf_60 (by decide) rfl [(2, .int x2_2), (0, .int x0), (1, .int x1), (3, .int x3), (4, .int x4), (5, .int x5)] rfl ?_
      obtain ⟨x3_3, ex3_3, hf⟩ := bd_ex hf
      refine x_iinc o dX0_placeOf_61 (by decide) 3 rfl ex3_3.symm [(3, .int x3_3), (2, .int x2_2), (0, .int x0), (1, .int x1), (4, .int x4), (5, .int x5)] rfl ?_
      refine x_goto o 4 dX0_placeOf_64 (by decide) ?_
      refine x_sub [2, 3, 1, 0] [(0, .int x0), (1, .int x1), (2, .int x2_2), (3, .int x3_3)] rfl ?_
      exact hk4 hf hr
    · replace hf := (if_neg q_1).symm.trans hf
      refine x_iload_n o dX0_placeOf_23 0 rfl rfl ?_
      refine x_iconst (v := 3) o dX0_placeOf_24 (by decide) ?_
      refine x_iload o dX0_placeOf_25 5 rfl ?_
      refine x_imul o dX0_placeOf_27 ?_
      refine x_ishr o dX0_placeOf_28 ?_
      refine x_bipush (v := 7) o dX0_placeOf_29 (by decide) ?_
      refine x_iand o dX0_placeOf_31 ?_
      refine x_iload_n o dX0_placeOf_32 0 rfl rfl ?_
      refine x_iconst (v := 3) o dX0_placeOf_33 (by decide) ?_
      refine x_iload_n o dX0_placeOf_34 3 rfl rfl ?_
      refine x_imul o dX0_placeOf_35 ?_
      refine x_ishr o dX0_placeOf_36 ?_
      refine x_bipush (v := 7) o dX0_placeOf_37 (by decide) ?_
      refine x_iand o dX0_placeOf_39 ?_
      refine x_icmp_ge o 46 dX0_placeOf_40 (by decide) (fun q_4 => ?_) (fun q_4 => ?_)
      · replace hf := (if_pos q_4).symm.trans hf
        refine x_sub [0, 1, 2, 3, 4, 5] [(0, .int x0), (1, .int x1), (2, .int x2), (3, .int x3), (4, .int x4), (5, .int x5)] rfl ?_
        exact S_X0_placeOf_46 o F hk4 (fun q1 q2 => ih q1 q2) hf hr
      · replace hf := (if_neg q_4).symm.trans hf
        obtain ⟨x4_5, ex4_5, hf⟩ := bd_ex hf
        refine x_iinc o dX0_placeOf_43 (by decide) 4 rfl ex4_5.symm [(4, .int x4_5), (0, .int x0), (1, .int x1), (2, .int x2), (3, .int x3), (5, .int x5)] rfl ?_
        refine x_sub [1, 2, 3, 4, 0, 5] [(0, .int x0), (1, .int x1), (2, .int x2), (3, .int x3), (4, .int x4_5), (5, .int x5)] rfl ?_
        exact S_X0_placeOf_46 o F hk4 (fun q1 q2 => ih q1 q2) hf hr
set_option maxRecDepth 100000 in
set_option maxHeartbeats 4000000 in
theorem S_X0_placeOf_4 {k : Kst} {d : Kdy} (o : Ok k d cX0_placeOf RX0 6 3) (F : Nat) : ∀ (f : Nat) {h : Hp} {x0 : Int32} {x1 : Int32} {x2 : Int32} {x3 : Int32} {r : Int32}, X0_placeOf_4 F f x0 x1 x2 x3 h = some r → RI k d cX0_placeOf r h → Wz k d h 4 [(0, .int x0), (1, .int x1), (2, .int x2), (3, .int x3)] [] := by
  intro f
  induction f with
  | zero =>
    intro h x0 x1 x2 x3 r hf hr
    exact nomatch (show (none : Option _) = some _ from hf)
  | succ f ih =>
    intro h x0 x1 x2 x3 r hf hr
    rw [X0_placeOf_4] at hf
    refine x_iload_n o dX0_placeOf_4 3 rfl rfl ?_
    refine x_iload_n o dX0_placeOf_5 1 rfl rfl ?_
    refine x_icmp_ge o 67 dX0_placeOf_6 (by decide) (fun q_1 => ?_) (fun q_1 => ?_)
    · replace hf := (if_pos q_1).symm.trans hf
      refine x_iload_n o dX0_placeOf_67 2 rfl rfl ?_
      cases hf
      exact hr _ _ dX0_placeOf_68
    · replace hf := (if_neg q_1).symm.trans hf
      refine x_iconst (v := 0) o dX0_placeOf_9 (by decide) ?_
      refine x_istore o dX0_placeOf_10 (by decide) [(4, .int 0), (0, .int x0), (1, .int x1), (2, .int x2), (3, .int x3)] rfl ?_
      refine x_iload_n o dX0_placeOf_12 4 rfl rfl ?_
      refine x_iconst (v := 1) o dX0_placeOf_13 (by decide) ?_
      refine x_iadd o dX0_placeOf_14 ?_
      obtain ⟨x5_2, ex5_2, hf⟩ := bd_ex hf
      refine x_top ex5_2 ?_
      refine x_istore o dX0_placeOf_15 (by decide) [(5, .int x5_2), (4, .int 0), (0, .int x0), (1, .int x1), (2, .int x2), (3, .int x3)] rfl ?_
      refine x_sub [2, 3, 4, 5, 1, 0] [(0, .int x0), (1, .int x1), (2, .int x2), (3, .int x3), (4, .int 0), (5, .int x5_2)] rfl ?_
      exact S_X0_placeOf_17 o F (fun q1 q2 => ih q1 q2) _ hf hr
set_option maxRecDepth 100000 in
set_option maxHeartbeats 4000000 in
theorem S_X0_placeOf_0 {k : Kst} {d : Kdy} (o : Ok k d cX0_placeOf RX0 6 3) (F : Nat) {h : Hp} {x0 : Int32} {x1 : Int32} {r : Int32} (hf : X0_placeOf F x0 x1 h = some r) (hr : RI k d cX0_placeOf r h) : Wz k d h 0 [(0, .int x0), (1, .int x1)] [] := by
  unfold X0_placeOf at hf
  refine x_iconst (v := 0) o dX0_placeOf_0 (by decide) ?_
  refine x_istore_n o dX0_placeOf_1 (by decide) rfl [(2, .int 0), (0, .int x0), (1, .int x1)] rfl ?_
  refine x_iconst (v := 0) o dX0_placeOf_2 (by decide) ?_
  refine x_istore_n o dX0_placeOf_3 (by decide) rfl [(3, .int 0), (2, .int 0), (0, .int x0), (1, .int x1)] rfl ?_
  refine x_sub [2, 3, 1, 0] [(0, .int x0), (1, .int x1), (2, .int 0), (3, .int 0)] rfl ?_
  exact S_X0_placeOf_4 o F _ hf hr
theorem C_X0_placeOf {k : Kst} (hj : Dj k) (hn : kn k = kdl.length) (F : Nat) {h : Hp} {x0 : Int32} {x1 : Int32} {r : Int32} (hf : X0_placeOf F x0 x1 h = some r) : MI k 3 yX0_placeOf cX0_placeOf 6 (some .int) [.int x0, .int x1] h r h := mI hj hn (by decide +kernel) (Nat.le_of_ble_eq_true rfl) (fun d o hr => S_X0_placeOf_0 o F hf hr)
set_option maxRecDepth 100000 in
set_option maxHeartbeats 4000000 in
theorem S_X11_get_0 {k : Kst} {d : Kdy} (o : Ok k d cX11_get RX11 2 3) (F : Nat) {h : Hp} {a0 : Nat} {x1 : Int32} {r : Int32} (hf : X11_get F a0 x1 h = some r) (hr : RI k d cX11_get r h) : Wz k d h 0 [(0, .ref (ka k a0)), (1, .int x1)] [] := by
  unfold X11_get at hf
  refine x_iload_n o dX11_get_0 1 rfl rfl ?_
  refine x_if_lt o 16 dX11_get_1 (by decide) (fun q_1 => ?_) (fun q_1 => ?_)
  · replace hf := (if_pos q_1).symm.trans hf
    refine x_iconst (v := 0) o dX11_get_16 (by decide) ?_
    cases hf
    exact hr _ _ dX11_get_17
  · replace hf := (if_neg q_1).symm.trans hf
    refine x_iload_n o dX11_get_4 1 rfl rfl ?_
    refine x_aload_n o dX11_get_5 0 rfl rfl ?_
    obtain ⟨k_2, hf⟩ := gq_ex hf
    refine x_aleni o k_2 dX11_get_6 ?_
    refine x_icmp_ge o 16 dX11_get_7 (by decide) (fun q_3 => ?_) (fun q_3 => ?_)
    · replace hf := (if_pos q_3).symm.trans hf
      refine x_iconst (v := 0) o dX11_get_16 (by decide) ?_
      cases hf
      exact hr _ _ dX11_get_17
    · replace hf := (if_neg q_3).symm.trans hf
      refine x_aload_n o dX11_get_10 0 rfl rfl ?_
      refine x_iload_n o dX11_get_11 1 rfl rfl ?_
      obtain ⟨b_4, hf⟩ := gq_ex hf
      refine x_iald o k_2 b_4 dX11_get_12 ?_
      refine x_goto o 17 dX11_get_13 (by decide) ?_
      cases hf
      exact hr _ _ dX11_get_17
theorem C_X11_get {k : Kst} (hj : Dj k) (hn : kn k = kdl.length) (F : Nat) {h : Hp} {a0 : Nat} {x1 : Int32} {r : Int32} (hf : X11_get F a0 x1 h = some r) : MI k 3 yX11_get cX11_get 2 (some .int) [.ref (ka k a0), .int x1] h r h := mI hj hn (by decide +kernel) (Nat.le_of_ble_eq_true rfl) (fun d o hr => S_X11_get_0 o F hf hr)
set_option maxRecDepth 100000 in
set_option maxHeartbeats 4000000 in
theorem S_X0_swapped_62 {k : Kst} {d : Kdy} (o : Ok k d cX0_swapped RX0 6 3) (F : Nat) {k5 : Int32 → Int32 → Int32 → Int32 → Hp → Option Int32} (hk5 : ∀ {h : Hp} {x1 : Int32} {x2 : Int32} {x3 : Int32} {x4 : Int32} {r : Int32}, k5 x1 x2 x3 x4 h = some r → RI k d cX0_swapped r h → Wz k d h 5 [(1, .int x1), (2, .int x2), (3, .int x3), (4, .int x4)] []) {h : Hp} {x1 : Int32} {x2 : Int32} {x3 : Int32} {x4 : Int32} {r : Int32} (hf : X0_swapped_62 F k5 x1 x2 x3 x4 h = some r) (hr : RI k d cX0_swapped r h) : Wz k d h 62 [(1, .int x1), (2, .int x2), (3, .int x3), (4, .int x4)] [] := by
  unfold X0_swapped_62 at hf
  obtain ⟨x4_1, ex4_1, hf⟩ := bd_ex hf
  refine x_iinc o dX0_swapped_62 (by decide) 3 rfl ex4_1.symm [(4, .int x4_1), (1, .int x1), (2, .int x2), (3, .int x3)] rfl ?_
  refine x_goto o 5 dX0_swapped_65 (by decide) ?_
  refine x_sub [1, 2, 3, 0] [(1, .int x1), (2, .int x2), (3, .int x3), (4, .int x4_1)] rfl ?_
  exact hk5 hf hr
set_option maxRecDepth 100000 in
set_option maxHeartbeats 4000000 in
theorem S_X0_swapped_5 {k : Kst} {d : Kdy} (o : Ok k d cX0_swapped RX0 6 3) (F : Nat) : ∀ (f : Nat) {h : Hp} {x1 : Int32} {x2 : Int32} {x3 : Int32} {x4 : Int32} {r : Int32}, X0_swapped_5 F f x1 x2 x3 x4 h = some r → RI k d cX0_swapped r h → Wz k d h 5 [(1, .int x1), (2, .int x2), (3, .int x3), (4, .int x4)] [] := by
  intro f
  induction f with
  | zero =>
    intro h x1 x2 x3 x4 r hf hr
    exact nomatch (show (none : Option _) = some _ from hf)
  | succ f ih =>
    intro h x1 x2 x3 x4 r hf hr
    rw [X0_swapped_5] at hf
    refine x_iload o dX0_swapped_5 3 rfl ?_
    refine x_iload_n o dX0_swapped_7 1 rfl rfl ?_
    refine x_iconst (v := 1) o dX0_swapped_8 (by decide) ?_
    refine x_isub o dX0_swapped_9 ?_
    refine x_icmp_ge o 68 dX0_swapped_10 (by decide) (fun q_1 => ?_) (fun q_1 => ?_)
    · replace hf := (if_pos q_1).symm.trans hf
      refine x_iload_n o dX0_swapped_68 2 rfl rfl ?_
      cases hf
      exact hr _ _ dX0_swapped_69
    · replace hf := (if_neg q_1).symm.trans hf
      refine x_iload_n o dX0_swapped_13 0 rfl rfl ?_
      refine x_iload o dX0_swapped_14 3 rfl ?_
      refine x_ishr o dX0_swapped_16 ?_
      refine x_iconst (v := 1) o dX0_swapped_17 (by decide) ?_
      refine x_iand o dX0_swapped_18 ?_
      refine x_if_eq o 62 dX0_swapped_19 (by decide) (fun q_2 => ?_) (fun q_2 => ?_)
      · replace hf := (if_pos q_2).symm.trans hf
        refine x_sub [0, 1, 2, 3] [(1, .int x1), (2, .int x2), (3, .int x3), (4, .int x4)] rfl ?_
        exact S_X0_swapped_62 o F (fun q1 q2 => ih q1 q2) hf hr
      · replace hf := (if_neg q_2).symm.trans hf
        refine x_iload_n o dX0_swapped_22 2 rfl rfl ?_
        refine x_iconst (v := 3) o dX0_swapped_23 (by decide) ?_
        refine x_iload o dX0_swapped_24 3 rfl ?_
        refine x_imul o dX0_swapped_26 ?_
        refine x_ishr o dX0_swapped_27 ?_
        refine x_iload_n o dX0_swapped_28 2 rfl rfl ?_
        refine x_iconst (v := 3) o dX0_swapped_29 (by decide) ?_
        refine x_iload o dX0_swapped_30 3 rfl ?_
        refine x_imul o dX0_swapped_32 ?_
        refine x_iconst (v := 3) o dX0_swapped_33 (by decide) ?_
        refine x_iadd o dX0_swapped_34 ?_
        refine x_ishr o dX0_swapped_35 ?_
        refine x_ixor o dX0_swapped_36 ?_
        refine x_bipush (v := 7) o dX0_swapped_37 (by decide) ?_
        refine x_iand o dX0_swapped_39 ?_
        obtain ⟨x5_3, ex5_3, hf⟩ := bd_ex hf
        refine x_top ex5_3 ?_
        refine x_istore o dX0_swapped_40 (by decide) [(5, .int x5_3), (1, .int x1), (2, .int x2), (3, .int x3), (4, .int x4)] rfl ?_
        refine x_iload_n o dX0_swapped_42 3 rfl rfl ?_
        refine x_iload o dX0_swapped_43 0 rfl ?_
        refine x_iconst (v := 3) o dX0_swapped_45 (by decide) ?_
        refine x_iload o dX0_swapped_46 4 rfl ?_
        refine x_imul o dX0_swapped_48 ?_
        refine x_ishl o dX0_swapped_49 ?_
        refine x_iload o dX0_swapped_50 0 rfl ?_
        refine x_iconst (v := 3) o dX0_swapped_52 (by decide) ?_
        refine x_iload o dX0_swapped_53 4 rfl ?_
        refine x_imul o dX0_swapped_55 ?_
        refine x_iconst (v := 3) o dX0_swapped_56 (by decide) ?_
        refine x_iadd o dX0_swapped_57 ?_
        refine x_ishl o dX0_swapped_58 ?_
        refine x_ior o dX0_swapped_59 ?_
        refine x_ixor o dX0_swapped_60 ?_
        obtain ⟨x3_4, ex3_4, hf⟩ := bd_ex hf
        refine x_top ex3_4 ?_
        refine x_istore_n o dX0_swapped_61 (by decide) rfl [(3, .int x3_4), (5, .int x5_3), (1, .int x1), (2, .int x2), (4, .int x4)] rfl ?_
        refine x_sub [2, 3, 0, 4] [(1, .int x1), (2, .int x2), (3, .int x3_4), (4, .int x4)] rfl ?_
        exact S_X0_swapped_62 o F (fun q1 q2 => ih q1 q2) hf hr
set_option maxRecDepth 100000 in
set_option maxHeartbeats 4000000 in
theorem S_X0_swapped_0 {k : Kst} {d : Kdy} (o : Ok k d cX0_swapped RX0 6 3) (F : Nat) {h : Hp} {x0 : Int32} {x1 : Int32} {x2 : Int32} {r : Int32} (hf : X0_swapped F x0 x1 x2 h = some r) (hr : RI k d cX0_swapped r h) : Wz k d h 0 [(0, .int x0), (1, .int x1), (2, .int x2)] [] := by
  unfold X0_swapped at hf
  refine x_iload_n o dX0_swapped_0 0 rfl rfl ?_
  refine x_istore_n o dX0_swapped_1 (by decide) rfl [(3, .int x0), (0, .int x0), (1, .int x1), (2, .int x2)] rfl ?_
  refine x_iconst (v := 0) o dX0_swapped_2 (by decide) ?_
  refine x_istore o dX0_swapped_3 (by decide) [(4, .int 0), (3, .int x0), (0, .int x0), (1, .int x1), (2, .int x2)] rfl ?_
  refine x_sub [3, 4, 1, 0] [(1, .int x1), (2, .int x2), (3, .int x0), (4, .int 0)] rfl ?_
  exact S_X0_swapped_5 o F _ hf hr
theorem C_X0_swapped {k : Kst} (hj : Dj k) (hn : kn k = kdl.length) (F : Nat) {h : Hp} {x0 : Int32} {x1 : Int32} {x2 : Int32} {r : Int32} (hf : X0_swapped F x0 x1 x2 h = some r) : MI k 3 yX0_swapped cX0_swapped 6 (some .int) [.int x0, .int x1, .int x2] h r h := mI hj hn (by decide +kernel) (Nat.le_of_ble_eq_true rfl) (fun d o hr => S_X0_swapped_0 o F hf hr)
set_option maxRecDepth 100000 in
set_option maxHeartbeats 4000000 in
theorem S_X0_ringFrom_97 {k : Kst} {d : Kdy} (o : Ok k d cX0_ringFrom RX0 9 4) (F : Nat) {k22 : Nat → Int32 → Int32 → Int32 → Int32 → Int32 → Hp → Option (Int32 × Hp)} (hk22 : ∀ {h : Hp} {a0 : Nat} {x1 : Int32} {x2 : Int32} {x4 : Int32} {x5 : Int32} {x6 : Int32} {r : Int32} {h1 : Hp}, k22 a0 x1 x2 x4 x5 x6 h = some (r, h1) → RI k d cX0_ringFrom r h1 → Wz k d h 22 [(0, .ref (ka k a0)), (1, .int x1), (2, .int x2), (4, .int x4), (5, .int x5), (6, .int x6)] []) {h : Hp} {a0 : Nat} {x1 : Int32} {x2 : Int32} {x4 : Int32} {x5 : Int32} {x6 : Int32} {r : Int32} {h1 : Hp} (hf : X0_ringFrom_97 F k22 a0 x1 x2 x4 x5 x6 h = some (r, h1)) (hr : RI k d cX0_ringFrom r h1) : Wz k d h 97 [(0, .ref (ka k a0)), (1, .int x1), (2, .int x2), (4, .int x4), (5, .int x5), (6, .int x6)] [] := by
  unfold X0_ringFrom_97 at hf
  obtain ⟨x6_1, ex6_1, hf⟩ := bd_ex hf
  refine x_iinc o dX0_ringFrom_97 (by decide) 5 rfl ex6_1.symm [(6, .int x6_1), (0, .ref (ka k a0)), (1, .int x1), (2, .int x2), (4, .int x4), (5, .int x5)] rfl ?_
  refine x_goto o 22 dX0_ringFrom_100 (by decide) ?_
  refine x_sub [1, 2, 3, 4, 5, 0] [(0, .ref (ka k a0)), (1, .int x1), (2, .int x2), (4, .int x4), (5, .int x5), (6, .int x6_1)] rfl ?_
  exact hk22 hf hr
set_option maxRecDepth 100000 in
set_option maxHeartbeats 4000000 in
theorem S_X0_ringFrom_22 {k : Kst} {d : Kdy} (o : Ok k d cX0_ringFrom RX0 9 4) (F : Nat) : ∀ (f : Nat) {h : Hp} {a0 : Nat} {x1 : Int32} {x2 : Int32} {x4 : Int32} {x5 : Int32} {x6 : Int32} {r : Int32} {h1 : Hp}, X0_ringFrom_22 F f a0 x1 x2 x4 x5 x6 h = some (r, h1) → RI k d cX0_ringFrom r h1 → Wz k d h 22 [(0, .ref (ka k a0)), (1, .int x1), (2, .int x2), (4, .int x4), (5, .int x5), (6, .int x6)] [] := by
  intro f
  induction f with
  | zero =>
    intro h a0 x1 x2 x4 x5 x6 r h1 hf hr
    exact nomatch (show (none : Option _) = some _ from hf)
  | succ f ih =>
    intro h a0 x1 x2 x4 x5 x6 r h1 hf hr
    rw [X0_ringFrom_22] at hf
    refine x_iload o dX0_ringFrom_22 5 rfl ?_
    refine x_iconst (v := 1) o dX0_ringFrom_24 (by decide) ?_
    refine x_iload_n o dX0_ringFrom_25 2 rfl rfl ?_
    refine x_iconst (v := 1) o dX0_ringFrom_26 (by decide) ?_
    refine x_isub o dX0_ringFrom_27 ?_
    refine x_ishl o dX0_ringFrom_28 ?_
    refine x_icmp_ge o 103 dX0_ringFrom_29 (by decide) (fun q_1 => ?_) (fun q_1 => ?_)
    · replace hf := (if_pos q_1).symm.trans hf
      refine x_iload o dX0_ringFrom_103 4 rfl ?_
      cases hf
      exact hr _ _ dX0_ringFrom_105
    · replace hf := (if_neg q_1).symm.trans hf
      refine x_iload o dX0_ringFrom_32 5 rfl ?_
      refine x_iload o dX0_ringFrom_34 5 rfl ?_
      refine x_iconst (v := 1) o dX0_ringFrom_36 (by decide) ?_
      refine x_ishr o dX0_ringFrom_37 ?_
      refine x_iand o dX0_ringFrom_38 ?_
      refine x_if_ne o 97 dX0_ringFrom_39 (by decide) (fun q_2 => ?_) (fun q_2 => ?_)
      · replace hf := (if_neg q_2).symm.trans hf
        refine x_sub [0, 1, 2, 3, 4, 5] [(0, .ref (ka k a0)), (1, .int x1), (2, .int x2), (4, .int x4), (5, .int x5), (6, .int x6)] rfl ?_
        exact S_X0_ringFrom_97 o F (fun q1 q2 => ih q1 q2) hf hr
      · replace hf := (if_pos q_2).symm.trans hf
        refine x_iload_n o dX0_ringFrom_42 1 rfl rfl ?_
        refine x_iload o dX0_ringFrom_43 5 rfl ?_
        refine x_iload_n o dX0_ringFrom_45 2 rfl rfl ?_
        obtain ⟨c_3, ec_3, hf⟩ := ob_ex hf
        refine vRX0_40 [.int x1, .int x6, .int x2] [] o (C_X0_swapped o.1.2.2.2.2.2.2.1 o.2 F ec_3) (by decide) rfl rfl (Nat.le_of_ble_eq_true rfl) dX0_ringFrom_46 ?_
        refine x_istore o dX0_ringFrom_49 (by decide) [(7, .int c_3), (0, .ref (ka k a0)), (1, .int x1), (2, .int x2), (4, .int x4), (5, .int x5), (6, .int x6)] rfl ?_
        refine x_iload o dX0_ringFrom_51 0 rfl ?_
        refine x_iload_n o dX0_ringFrom_53 3 rfl rfl ?_
        obtain ⟨c_5, ec_5, hf⟩ := ob_ex hf
        refine vRX0_28 [.int c_3, .int x2] [] o (C_X0_placeOf o.1.2.2.2.2.2.2.1 o.2 F ec_5) (by decide) rfl rfl (Nat.le_of_ble_eq_true rfl) dX0_ringFrom_54 ?_
        refine x_istore o dX0_ringFrom_57 (by decide) [(8, .int c_5), (7, .int c_3), (0, .ref (ka k a0)), (1, .int x1), (2, .int x2), (4, .int x4), (5, .int x5), (6, .int x6)] rfl ?_
        refine x_aload_n o dX0_ringFrom_59 2 rfl rfl ?_
        obtain ⟨k_7, hf⟩ := gq_ex hf
        obtain ⟨j_8, ej_8, hf⟩ := ob_ex hf
        refine gRX0_15 o k_7 ej_8 dX0_ringFrom_60 ?_
        refine x_iload o dX0_ringFrom_63 0 rfl ?_
        obtain ⟨c_9, ec_9, hf⟩ := ob_ex hf
        refine vRX0_32 [.ref (ka k j_8), .int c_5] [] o (C_X11_get o.1.2.2.2.2.2.2.1 o.2 F ec_9) (by decide) rfl rfl (Nat.le_of_ble_eq_true rfl) dX0_ringFrom_65 ?_
        refine x_iconst (v := (-1)) o dX0_ringFrom_68 (by decide) ?_
        refine x_icmp_ne o 97 dX0_ringFrom_69 (by decide) (fun q_11 => ?_) (fun q_11 => ?_)
        · replace hf := (if_neg q_11).symm.trans hf
          refine x_sub [2, 3, 4, 5, 6, 7] [(0, .ref (ka k a0)), (1, .int x1), (2, .int x2), (4, .int x4), (5, .int x5), (6, .int x6)] rfl ?_
          exact S_X0_ringFrom_97 o F (fun q1 q2 => ih q1 q2) hf hr
        · replace hf := (if_pos q_11).symm.trans hf
          refine x_aload_n o dX0_ringFrom_72 2 rfl rfl ?_
          refine gRX0_15 o k_7 ej_8 dX0_ringFrom_73 ?_
          refine x_iload o dX0_ringFrom_76 0 rfl ?_
          refine x_iload o dX0_ringFrom_78 5 rfl ?_
          obtain ⟨h_13, eh_13, hf⟩ := ob_ex hf
          refine vRX0_24 [.ref (ka k j_8), .int c_5, .int x4] [] o (C_X11_put o.1.2.2.2.2.2.2.1 o.2 F eh_13) (by decide) rfl rfl (Nat.le_of_ble_eq_true rfl) dX0_ringFrom_80 ?_
          refine x_aload_n o dX0_ringFrom_83 2 rfl rfl ?_
          obtain ⟨j_14, ej_14, hf⟩ := ob_ex hf
          refine gRX0_11 o k_7 ej_14 dX0_ringFrom_84 ?_
          refine x_iload o dX0_ringFrom_87 6 rfl ?_
          refine x_iload o dX0_ringFrom_89 1 rfl ?_
          obtain ⟨h_16, eh_16, hf⟩ := ob_ex hf
          refine vRX0_24 [.ref (ka k j_14), .int x5, .int c_3] [] o (C_X11_put o.1.2.2.2.2.2.2.1 o.2 F eh_16) (by decide) rfl rfl (Nat.le_of_ble_eq_true rfl) dX0_ringFrom_91 ?_
          obtain ⟨x5_17, ex5_17, hf⟩ := bd_ex hf
          refine x_iinc o dX0_ringFrom_94 (by decide) 6 rfl ex5_17.symm [(5, .int x5_17), (8, .int c_5), (7, .int c_3), (0, .ref (ka k a0)), (1, .int x1), (2, .int x2), (4, .int x4), (6, .int x6)] rfl ?_
          refine x_sub [3, 4, 5, 6, 0, 7] [(0, .ref (ka k a0)), (1, .int x1), (2, .int x2), (4, .int x4), (5, .int x5_17), (6, .int x6)] rfl ?_
          exact S_X0_ringFrom_97 o F (fun q1 q2 => ih q1 q2) hf hr
set_option maxRecDepth 100000 in
set_option maxHeartbeats 4000000 in
theorem S_X0_ringFrom_0 {k : Kst} {d : Kdy} (o : Ok k d cX0_ringFrom RX0 9 4) (F : Nat) {h : Hp} {a0 : Nat} {x1 : Int32} {x2 : Int32} {x3 : Int32} {r : Int32} {h1 : Hp} (hf : X0_ringFrom F a0 x1 x2 x3 h = some (r, h1)) (hr : RI k d cX0_ringFrom r h1) : Wz k d h 0 [(0, .ref (ka k a0)), (1, .int x1), (2, .int x2), (3, .int x3)] [] := by
  unfold X0_ringFrom at hf
  refine x_aload_n o dX0_ringFrom_0 0 rfl rfl ?_
  obtain ⟨k_1, hf⟩ := gq_ex hf
  obtain ⟨j_2, ej_2, hf⟩ := ob_ex hf
  refine gRX0_15 o k_1 ej_2 dX0_ringFrom_1 ?_
  refine x_iload_n o dX0_ringFrom_4 1 rfl rfl ?_
  refine x_iload_n o dX0_ringFrom_5 2 rfl rfl ?_
  obtain ⟨c_3, ec_3, hf⟩ := ob_ex hf
  refine vRX0_28 [.int x1, .int x2] [.ref (ka k j_2)] o (C_X0_placeOf o.1.2.2.2.2.2.2.1 o.2 F ec_3) (by decide) rfl rfl (Nat.le_of_ble_eq_true rfl) dX0_ringFrom_6 ?_
  obtain ⟨c_5, ec_5, hf⟩ := ob_ex hf
  refine vRX0_32 [.ref (ka k j_2), .int c_3] [] o (C_X11_get o.1.2.2.2.2.2.2.1 o.2 F ec_5) (by decide) rfl rfl (Nat.le_of_ble_eq_true rfl) dX0_ringFrom_9 ?_
  refine x_iconst (v := 1) o dX0_ringFrom_12 (by decide) ?_
  refine x_iadd o dX0_ringFrom_13 ?_
  obtain ⟨x4_7, ex4_7, hf⟩ := bd_ex hf
  refine x_top ex4_7 ?_
  refine x_istore o dX0_ringFrom_14 (by decide) [(4, .int x4_7), (0, .ref (ka k a0)), (1, .int x1), (2, .int x2), (3, .int x3)] rfl ?_
  refine x_iload_n o dX0_ringFrom_16 4 rfl rfl ?_
  refine x_istore o dX0_ringFrom_17 (by decide) [(5, .int x3), (4, .int x4_7), (0, .ref (ka k a0)), (1, .int x1), (2, .int x2), (3, .int x3)] rfl ?_
  refine x_iconst (v := 1) o dX0_ringFrom_19 (by decide) ?_
  refine x_istore o dX0_ringFrom_20 (by decide) [(6, .int 1), (5, .int x3), (4, .int x4_7), (0, .ref (ka k a0)), (1, .int x1), (2, .int x2), (3, .int x3)] rfl ?_
  refine x_sub [3, 4, 5, 2, 1, 0] [(0, .ref (ka k a0)), (1, .int x1), (2, .int x2), (4, .int x4_7), (5, .int x3), (6, .int 1)] rfl ?_
  exact S_X0_ringFrom_22 o F _ hf hr
theorem C_X0_ringFrom {k : Kst} (hj : Dj k) (hn : kn k = kdl.length) (F : Nat) {h : Hp} {a0 : Nat} {x1 : Int32} {x2 : Int32} {x3 : Int32} {r : Int32} {h1 : Hp} (hf : X0_ringFrom F a0 x1 x2 x3 h = some (r, h1)) : MI k 4 yX0_ringFrom cX0_ringFrom 9 (some .int) [.ref (ka k a0), .int x1, .int x2, .int x3] h r h1 := mI hj hn (by decide +kernel) (Nat.le_of_ble_eq_true rfl) (fun d o hr => S_X0_ringFrom_0 o F hf hr)
set_option maxRecDepth 100000 in
set_option maxHeartbeats 4000000 in
theorem S_X0_fewestChanges_162 {k : Kst} {d : Kdy} (o : Ok k d cX0_fewestChanges RX0 8 5) (F : Nat) {h : Hp} {a0 : Nat} {x6 : Int32} {r : Int32} {h1 : Hp} (hf : X0_fewestChanges_162 F a0 x6 h = some (r, h1)) (hr : RI k d cX0_fewestChanges r h1) : Wz k d h 162 [(0, .ref (ka k a0)), (6, .int x6)] [] := by
  unfold X0_fewestChanges_162 at hf
  refine x_aload_n o dX0_fewestChanges_162 0 rfl rfl ?_
  obtain ⟨k_1, hf⟩ := gq_ex hf
  obtain ⟨j_2, ej_2, hf⟩ := ob_ex hf
  refine gRX0_15 o k_1 ej_2 dX0_fewestChanges_163 ?_
  refine x_iload o dX0_fewestChanges_166 1 rfl ?_
  obtain ⟨c_3, ec_3, hf⟩ := ob_ex hf
  refine vRX0_32 [.ref (ka k j_2), .int x6] [] o (C_X11_get o.1.2.2.2.2.2.2.1 o.2 F ec_3) (by decide) rfl rfl (Nat.le_of_ble_eq_true rfl) dX0_fewestChanges_168 ?_
  cases hf
  exact hr _ _ dX0_fewestChanges_171
set_option maxRecDepth 100000 in
set_option maxHeartbeats 4000000 in
theorem S_X0_fewestChanges_110 {k : Kst} {d : Kdy} (o : Ok k d cX0_fewestChanges RX0 8 5) (F : Nat) : ∀ (f : Nat) {h : Hp} {a0 : Nat} {x2 : Int32} {x5 : Int32} {x6 : Int32} {x7 : Int32} {r : Int32} {h1 : Hp}, X0_fewestChanges_110 F f a0 x2 x5 x6 x7 h = some (r, h1) → RI k d cX0_fewestChanges r h1 → Wz k d h 110 [(0, .ref (ka k a0)), (2, .int x2), (5, .int x5), (6, .int x6), (7, .int x7)] [] := by
  intro f
  induction f with
  | zero =>
    intro h a0 x2 x5 x6 x7 r h1 hf hr
    exact nomatch (show (none : Option _) = some _ from hf)
  | succ f ih =>
    intro h a0 x2 x5 x6 x7 r h1 hf hr
    rw [X0_fewestChanges_110] at hf
    refine x_iload o dX0_fewestChanges_110 4 rfl ?_
    refine x_iload o dX0_fewestChanges_112 2 rfl ?_
    refine x_icmp_ge o 162 dX0_fewestChanges_114 (by decide) (fun q_1 => ?_) (fun q_1 => ?_)
    · replace hf := (if_pos q_1).symm.trans hf
      refine x_sub [0, 3] [(0, .ref (ka k a0)), (6, .int x6)] rfl ?_
      exact S_X0_fewestChanges_162 o F hf hr
    · replace hf := (if_neg q_1).symm.trans hf
      refine x_iload o dX0_fewestChanges_117 4 rfl ?_
      refine x_sipush (v := 720) o dX0_fewestChanges_119 (by decide) ?_
      refine x_icmp_ge o 162 dX0_fewestChanges_122 (by decide) (fun q_2 => ?_) (fun q_2 => ?_)
      · replace hf := (if_pos q_2).symm.trans hf
        refine x_sub [0, 3] [(0, .ref (ka k a0)), (6, .int x6)] rfl ?_
        exact S_X0_fewestChanges_162 o F hf hr
      · replace hf := (if_neg q_2).symm.trans hf
        refine x_aload_n o dX0_fewestChanges_125 0 rfl rfl ?_
        obtain ⟨k_3, hf⟩ := gq_ex hf
        obtain ⟨j_4, ej_4, hf⟩ := ob_ex hf
        refine gRX0_15 o k_3 ej_4 dX0_fewestChanges_126 ?_
        refine x_iload o dX0_fewestChanges_129 3 rfl ?_
        obtain ⟨c_5, ec_5, hf⟩ := ob_ex hf
        refine vRX0_32 [.ref (ka k j_4), .int x6] [] o (C_X11_get o.1.2.2.2.2.2.2.1 o.2 F ec_5) (by decide) rfl rfl (Nat.le_of_ble_eq_true rfl) dX0_fewestChanges_131 ?_
        refine x_iconst (v := (-1)) o dX0_fewestChanges_134 (by decide) ?_
        refine x_icmp_ne o 162 dX0_fewestChanges_135 (by decide) (fun q_7 => ?_) (fun q_7 => ?_)
        · replace hf := (if_neg q_7).symm.trans hf
          refine x_sub [0, 3] [(0, .ref (ka k a0)), (6, .int x6)] rfl ?_
          exact S_X0_fewestChanges_162 o F hf hr
        · replace hf := (if_pos q_7).symm.trans hf
          refine x_aload_n o dX0_fewestChanges_138 0 rfl rfl ?_
          refine x_aload_n o dX0_fewestChanges_139 0 rfl rfl ?_
          obtain ⟨j_8, ej_8, hf⟩ := ob_ex hf
          refine gRX0_11 o k_3 ej_8 dX0_fewestChanges_140 ?_
          refine x_iload o dX0_fewestChanges_143 4 rfl ?_
          obtain ⟨c_9, ec_9, hf⟩ := ob_ex hf
          refine vRX0_32 [.ref (ka k j_8), .int x7] [.ref (ka k a0)] o (C_X11_get o.1.2.2.2.2.2.2.1 o.2 F ec_9) (by decide) rfl rfl (Nat.le_of_ble_eq_true rfl) dX0_fewestChanges_145 ?_
          refine x_iload_n o dX0_fewestChanges_148 1 rfl rfl ?_
          refine x_iload o dX0_fewestChanges_149 2 rfl ?_
          obtain ⟨c_11, h_12, ec_11, hf⟩ := bq_ex hf
          refine vRX0_36 [.int c_9, .int x2, .int x5] [] o (C_X0_ringFrom o.1.2.2.2.2.2.2.1 o.2 F ec_11) (by decide) k_3 rfl rfl (Nat.le_of_ble_eq_true rfl) dX0_fewestChanges_151 ?_
          refine x_istore o dX0_fewestChanges_154 (by decide) [(5, .int c_11), (0, .ref (ka k a0)), (2, .int x2), (6, .int x6), (7, .int x7)] rfl ?_
          obtain ⟨x7_13, ex7_13, hf⟩ := bd_ex hf
          refine x_iinc o dX0_fewestChanges_156 (by decide) 4 rfl ex7_13.symm [(7, .int x7_13), (5, .int c_11), (0, .ref (ka k a0)), (2, .int x2), (6, .int x6)] rfl ?_
          refine x_goto o 110 dX0_fewestChanges_159 (by decide) ?_
          refine x_sub [2, 3, 1, 4, 0] [(0, .ref (ka k a0)), (2, .int x2), (5, .int c_11), (6, .int x6), (7, .int x7_13)] rfl ?_
          exact ih hf hr
set_option maxRecDepth 100000 in
set_option maxHeartbeats 4000000 in
theorem S_X0_fewestChanges_49 {k : Kst} {d : Kdy} (o : Ok k d cX0_fewestChanges RX0 8 5) (F : Nat) : ∀ (f : Nat) {h : Hp} {a0 : Nat} {x2 : Int32} {x3 : Int32} {x4 : Int32} {x5 : Int32} {r : Int32} {h1 : Hp}, X0_fewestChanges_49 F f a0 x2 x3 x4 x5 h = some (r, h1) → RI k d cX0_fewestChanges r h1 → Wz k d h 49 [(0, .ref (ka k a0)), (2, .int x2), (3, .int x3), (4, .int x4), (5, .int x5)] [] := by
  intro f
  induction f with
  | zero =>
    intro h a0 x2 x3 x4 x5 r h1 hf hr
    exact nomatch (show (none : Option _) = some _ from hf)
  | succ f ih =>
    intro h a0 x2 x3 x4 x5 r h1 hf hr
    rw [X0_fewestChanges_49] at hf
    refine x_iload o dX0_fewestChanges_49 4 rfl ?_
    refine x_sipush (v := 720) o dX0_fewestChanges_51 (by decide) ?_
    refine x_icmp_ge o 73 dX0_fewestChanges_54 (by decide) (fun q_1 => ?_) (fun q_1 => ?_)
    · replace hf := (if_pos q_1).symm.trans hf
      refine x_aload_n o dX0_fewestChanges_73 0 rfl rfl ?_
      obtain ⟨k_2, hf⟩ := gq_ex hf
      obtain ⟨j_3, ej_3, hf⟩ := ob_ex hf
      refine gRX0_11 o k_2 ej_3 dX0_fewestChanges_74 ?_
      refine x_iconst (v := 0) o dX0_fewestChanges_77 (by decide) ?_
      refine x_iload o dX0_fewestChanges_78 3 rfl ?_
      obtain ⟨h_5, eh_5, hf⟩ := ob_ex hf
      refine vRX0_24 [.ref (ka k j_3), .int 0, .int x4] [] o (C_X11_put o.1.2.2.2.2.2.2.1 o.2 F eh_5) (by decide) rfl rfl (Nat.le_of_ble_eq_true rfl) dX0_fewestChanges_80 ?_
      refine x_aload_n o dX0_fewestChanges_83 0 rfl rfl ?_
      obtain ⟨j_6, ej_6, hf⟩ := ob_ex hf
      refine gRX0_15 o k_2 ej_6 dX0_fewestChanges_84 ?_
      refine x_iload o dX0_fewestChanges_87 3 rfl ?_
      refine x_iload_n o dX0_fewestChanges_89 1 rfl rfl ?_
      obtain ⟨c_7, ec_7, hf⟩ := ob_ex hf
      refine vRX0_28 [.int x4, .int x2] [.ref (ka k j_6)] o (C_X0_placeOf o.1.2.2.2.2.2.2.1 o.2 F ec_7) (by decide) rfl rfl (Nat.le_of_ble_eq_true rfl) dX0_fewestChanges_90 ?_
      refine x_iconst (v := 0) o dX0_fewestChanges_93 (by decide) ?_
      obtain ⟨h_10, eh_10, hf⟩ := ob_ex hf
      refine vRX0_24 [.ref (ka k j_6), .int c_7, .int 0] [] o (C_X11_put o.1.2.2.2.2.2.2.1 o.2 F eh_10) (by decide) rfl rfl (Nat.le_of_ble_eq_true rfl) dX0_fewestChanges_94 ?_
      refine x_iconst (v := 1) o dX0_fewestChanges_97 (by decide) ?_
      refine x_istore o dX0_fewestChanges_98 (by decide) [(5, .int 1), (0, .ref (ka k a0)), (2, .int x2), (3, .int x3), (4, .int x4)] rfl ?_
      refine x_iload_n o dX0_fewestChanges_100 3 rfl rfl ?_
      refine x_iload_n o dX0_fewestChanges_101 2 rfl rfl ?_
      obtain ⟨c_11, ec_11, hf⟩ := ob_ex hf
      refine vRX0_28 [.int x3, .int x2] [] o (C_X0_placeOf o.1.2.2.2.2.2.2.1 o.2 F ec_11) (by decide) rfl rfl (Nat.le_of_ble_eq_true rfl) dX0_fewestChanges_102 ?_
      refine x_istore o dX0_fewestChanges_105 (by decide) [(6, .int c_11), (5, .int 1), (0, .ref (ka k a0)), (2, .int x2), (3, .int x3), (4, .int x4)] rfl ?_
      refine x_iconst (v := 0) o dX0_fewestChanges_107 (by decide) ?_
      refine x_istore o dX0_fewestChanges_108 (by decide) [(7, .int 0), (6, .int c_11), (5, .int 1), (0, .ref (ka k a0)), (2, .int x2), (3, .int x3), (4, .int x4)] rfl ?_
      refine x_sub [3, 4, 2, 1, 0] [(0, .ref (ka k a0)), (2, .int x2), (5, .int 1), (6, .int c_11), (7, .int 0)] rfl ?_
      exact S_X0_fewestChanges_110 o F _ hf hr
    · replace hf := (if_neg q_1).symm.trans hf
      refine x_aload_n o dX0_fewestChanges_57 0 rfl rfl ?_
      obtain ⟨k_13, hf⟩ := gq_ex hf
      obtain ⟨j_14, ej_14, hf⟩ := ob_ex hf
      refine gRX0_15 o k_13 ej_14 dX0_fewestChanges_58 ?_
      refine x_iload o dX0_fewestChanges_61 4 rfl ?_
      refine x_iconst (v := (-1)) o dX0_fewestChanges_63 (by decide) ?_
      obtain ⟨h_16, eh_16, hf⟩ := ob_ex hf
      refine vRX0_24 [.ref (ka k j_14), .int x5, .int (-1)] [] o (C_X11_put o.1.2.2.2.2.2.2.1 o.2 F eh_16) (by decide) rfl rfl (Nat.le_of_ble_eq_true rfl) dX0_fewestChanges_64 ?_
      obtain ⟨x5_17, ex5_17, hf⟩ := bd_ex hf
      refine x_iinc o dX0_fewestChanges_67 (by decide) 4 rfl ex5_17.symm [(5, .int x5_17), (0, .ref (ka k a0)), (2, .int x2), (3, .int x3), (4, .int x4)] rfl ?_
      refine x_goto o 49 dX0_fewestChanges_70 (by decide) ?_
      refine x_sub [1, 2, 3, 4, 0] [(0, .ref (ka k a0)), (2, .int x2), (3, .int x3), (4, .int x4), (5, .int x5_17)] rfl ?_
      exact ih hf hr
set_option maxRecDepth 100000 in
set_option maxHeartbeats 4000000 in
theorem S_X0_fewestChanges_8 {k : Kst} {d : Kdy} (o : Ok k d cX0_fewestChanges RX0 8 5) (F : Nat) : ∀ (f : Nat) {h : Hp} {a0 : Nat} {a1 : Nat} {x2 : Int32} {x3 : Int32} {x4 : Int32} {x5 : Int32} {r : Int32} {h1 : Hp}, X0_fewestChanges_8 F f a0 a1 x2 x3 x4 x5 h = some (r, h1) → RI k d cX0_fewestChanges r h1 → Wz k d h 8 [(0, .ref (ka k a0)), (1, .ref (ka k a1)), (2, .int x2), (3, .int x3), (4, .int x4), (5, .int x5)] [] := by
  intro f
  induction f with
  | zero =>
    intro h a0 a1 x2 x3 x4 x5 r h1 hf hr
    exact nomatch (show (none : Option _) = some _ from hf)
  | succ f ih =>
    intro h a0 a1 x2 x3 x4 x5 r h1 hf hr
    rw [X0_fewestChanges_8] at hf
    refine x_iload o dX0_fewestChanges_8 5 rfl ?_
    refine x_iload_n o dX0_fewestChanges_10 2 rfl rfl ?_
    refine x_icmp_ge o 46 dX0_fewestChanges_11 (by decide) (fun q_1 => ?_) (fun q_1 => ?_)
    · replace hf := (if_pos q_1).symm.trans hf
      refine x_iconst (v := 0) o dX0_fewestChanges_46 (by decide) ?_
      refine x_istore o dX0_fewestChanges_47 (by decide) [(5, .int 0), (0, .ref (ka k a0)), (1, .ref (ka k a1)), (2, .int x2), (3, .int x3), (4, .int x4)] rfl ?_
      refine x_sub [1, 3, 4, 5, 0] [(0, .ref (ka k a0)), (2, .int x2), (3, .int x3), (4, .int x4), (5, .int 0)] rfl ?_
      exact S_X0_fewestChanges_49 o F _ hf hr
    · replace hf := (if_neg q_1).symm.trans hf
      refine x_iload_n o dX0_fewestChanges_14 3 rfl rfl ?_
      refine x_aload_n o dX0_fewestChanges_15 1 rfl rfl ?_
      refine x_iload o dX0_fewestChanges_16 5 rfl ?_
      obtain ⟨k_2, hf⟩ := gq_ex hf
      obtain ⟨c_3, ec_3, hf⟩ := ob_ex hf
      refine vRX0_18 [.int x5] [.int x3] o (C_X9_at o.1.2.2.2.2.2.2.1 o.2 F ec_3) (by decide) k_2 rfl rfl (Nat.le_of_ble_eq_true rfl) dX0_fewestChanges_18 ?_
      refine x_iconst (v := 3) o dX0_fewestChanges_21 (by decide) ?_
      refine x_iload o dX0_fewestChanges_22 5 rfl ?_
      refine x_imul o dX0_fewestChanges_24 ?_
      refine x_ishl o dX0_fewestChanges_25 ?_
      refine x_ior o dX0_fewestChanges_26 ?_
      obtain ⟨x3_5, ex3_5, hf⟩ := bd_ex hf
      refine x_top ex3_5 ?_
      refine x_istore_n o dX0_fewestChanges_27 (by decide) rfl [(3, .int x3_5), (0, .ref (ka k a0)), (1, .ref (ka k a1)), (2, .int x2), (4, .int x4), (5, .int x5)] rfl ?_
      refine x_iload o dX0_fewestChanges_28 4 rfl ?_
      refine x_iload o dX0_fewestChanges_30 5 rfl ?_
      refine x_iconst (v := 3) o dX0_fewestChanges_32 (by decide) ?_
      refine x_iload o dX0_fewestChanges_33 5 rfl ?_
      refine x_imul o dX0_fewestChanges_35 ?_
      refine x_ishl o dX0_fewestChanges_36 ?_
      refine x_ior o dX0_fewestChanges_37 ?_
      obtain ⟨x4_6, ex4_6, hf⟩ := bd_ex hf
      refine x_top ex4_6 ?_
      refine x_istore o dX0_fewestChanges_38 (by decide) [(4, .int x4_6), (3, .int x3_5), (0, .ref (ka k a0)), (1, .ref (ka k a1)), (2, .int x2), (5, .int x5)] rfl ?_
      obtain ⟨x5_7, ex5_7, hf⟩ := bd_ex hf
      refine x_iinc o dX0_fewestChanges_40 (by decide) 5 rfl ex5_7.symm [(5, .int x5_7), (4, .int x4_6), (3, .int x3_5), (0, .ref (ka k a0)), (1, .ref (ka k a1)), (2, .int x2)] rfl ?_
      refine x_goto o 8 dX0_fewestChanges_43 (by decide) ?_
      refine x_sub [3, 4, 5, 2, 1, 0] [(0, .ref (ka k a0)), (1, .ref (ka k a1)), (2, .int x2), (3, .int x3_5), (4, .int x4_6), (5, .int x5_7)] rfl ?_
      exact ih hf hr
set_option maxRecDepth 100000 in
set_option maxHeartbeats 4000000 in
theorem S_X0_fewestChanges_0 {k : Kst} {d : Kdy} (o : Ok k d cX0_fewestChanges RX0 8 5) (F : Nat) {h : Hp} {a0 : Nat} {a1 : Nat} {x2 : Int32} {r : Int32} {h1 : Hp} (hf : X0_fewestChanges F a0 a1 x2 h = some (r, h1)) (hr : RI k d cX0_fewestChanges r h1) : Wz k d h 0 [(0, .ref (ka k a0)), (1, .ref (ka k a1)), (2, .int x2)] [] := by
  unfold X0_fewestChanges at hf
  refine x_iconst (v := 0) o dX0_fewestChanges_0 (by decide) ?_
  refine x_istore_n o dX0_fewestChanges_1 (by decide) rfl [(3, .int 0), (0, .ref (ka k a0)), (1, .ref (ka k a1)), (2, .int x2)] rfl ?_
  refine x_iconst (v := 0) o dX0_fewestChanges_2 (by decide) ?_
  refine x_istore o dX0_fewestChanges_3 (by decide) [(4, .int 0), (3, .int 0), (0, .ref (ka k a0)), (1, .ref (ka k a1)), (2, .int x2)] rfl ?_
  refine x_iconst (v := 0) o dX0_fewestChanges_5 (by decide) ?_
  refine x_istore o dX0_fewestChanges_6 (by decide) [(5, .int 0), (4, .int 0), (3, .int 0), (0, .ref (ka k a0)), (1, .ref (ka k a1)), (2, .int x2)] rfl ?_
  refine x_sub [3, 4, 5, 2, 1, 0] [(0, .ref (ka k a0)), (1, .ref (ka k a1)), (2, .int x2), (3, .int 0), (4, .int 0), (5, .int 0)] rfl ?_
  exact S_X0_fewestChanges_8 o F _ hf hr
theorem C_X0_fewestChanges {k : Kst} (hj : Dj k) (hn : kn k = kdl.length) (F : Nat) {h : Hp} {a0 : Nat} {a1 : Nat} {x2 : Int32} {r : Int32} {h1 : Hp} (hf : X0_fewestChanges F a0 a1 x2 h = some (r, h1)) : MI k 5 yX0_fewestChanges cX0_fewestChanges 8 (some .int) [.ref (ka k a0), .ref (ka k a1), .int x2] h r h1 := mI hj hn (by decide +kernel) (Nat.le_of_ble_eq_true rfl) (fun d o hr => S_X0_fewestChanges_0 o F hf hr)
set_option maxRecDepth 100000 in
set_option maxHeartbeats 4000000 in
theorem S_X1_empty_0 {k : Kst} {d : Kdy} (o : Ok k d cX1_empty RX1 1 3) (F : Nat) {h : Hp} {a0 : Nat} {h1 : Hp} (hf : X1_empty F a0 h = some h1) (hr : RV k d cX1_empty h1) : Wz k d h 0 [(0, .ref (ka k a0))] [] := by
  unfold X1_empty at hf
  refine x_aload_n o dX1_empty_0 0 rfl rfl ?_
  refine x_iconst (v := 0) o dX1_empty_1 (by decide) ?_
  obtain ⟨k_1, hf⟩ := gq_ex hf
  obtain ⟨h_2, eh_2, hf⟩ := bd_ex hf
  refine pRX1_33 o k_1 eh_2 dX1_empty_2 ?_
  refine x_aload_n o dX1_empty_5 0 rfl rfl ?_
  refine x_iconst (v := 0) o dX1_empty_6 (by decide) ?_
  obtain ⟨h_3, eh_3, hf⟩ := bd_ex hf
  refine pRX1_37 o k_1 eh_3 dX1_empty_7 ?_
  cases hf
  exact hr _ _ dX1_empty_10
theorem C_X1_empty {k : Kst} (hj : Dj k) (hn : kn k = kdl.length) (F : Nat) {h : Hp} {a0 : Nat} {h1 : Hp} (hf : X1_empty F a0 h = some h1) : MV k 3 yX1_empty cX1_empty 1 [.ref (ka k a0)] h h1 := mV hj hn (by decide +kernel) (Nat.le_of_ble_eq_true rfl) (fun d o hr => S_X1_empty_0 o F hf hr)
set_option maxRecDepth 100000 in
set_option maxHeartbeats 4000000 in
theorem S_X1_beginRule_0 {k : Kst} {d : Kdy} (o : Ok k d cX1_beginRule RX1 2 4) (F : Nat) {h : Hp} {a0 : Nat} {x1 : Int32} {h1 : Hp} (hf : X1_beginRule F a0 x1 h = some h1) (hr : RV k d cX1_beginRule h1) : Wz k d h 0 [(0, .ref (ka k a0)), (1, .int x1)] [] := by
  unfold X1_beginRule at hf
  refine x_aload_n o dX1_beginRule_0 0 rfl rfl ?_
  obtain ⟨k_1, hf⟩ := gq_ex hf
  obtain ⟨j_2, ej_2, hf⟩ := ob_ex hf
  refine gRX1_9 o k_1 ej_2 dX1_beginRule_1 ?_
  refine x_aload_n o dX1_beginRule_4 0 rfl rfl ?_
  refine gRX1_33 o k_1 dX1_beginRule_5 ?_
  refine x_iload_n o dX1_beginRule_8 1 rfl rfl ?_
  obtain ⟨h_4, eh_4, hf⟩ := ob_ex hf
  refine vRX1_40 [.ref (ka k j_2), .int (h.1 a0 7), .int x1] [] o (C_X11_put o.1.2.2.2.2.2.2.1 o.2 F eh_4) (by decide) rfl rfl (Nat.le_of_ble_eq_true rfl) dX1_beginRule_9 ?_
  refine x_aload_n o dX1_beginRule_12 0 rfl rfl ?_
  obtain ⟨j_5, ej_5, hf⟩ := ob_ex hf
  refine gRX1_15 o k_1 ej_5 dX1_beginRule_13 ?_
  refine x_aload_n o dX1_beginRule_16 0 rfl rfl ?_
  refine gRX1_33 o k_1 dX1_beginRule_17 ?_
  refine x_aload_n o dX1_beginRule_20 0 rfl rfl ?_
  refine gRX1_37 o k_1 dX1_beginRule_21 ?_
  obtain ⟨h_7, eh_7, hf⟩ := ob_ex hf
  refine vRX1_40 [.ref (ka k j_5), .int (h_4.1 a0 7), .int (h_4.1 a0 8)] [] o (C_X11_put o.1.2.2.2.2.2.2.1 o.2 F eh_7) (by decide) rfl rfl (Nat.le_of_ble_eq_true rfl) dX1_beginRule_24 ?_
  cases hf
  exact hr _ _ dX1_beginRule_27
theorem C_X1_beginRule {k : Kst} (hj : Dj k) (hn : kn k = kdl.length) (F : Nat) {h : Hp} {a0 : Nat} {x1 : Int32} {h1 : Hp} (hf : X1_beginRule F a0 x1 h = some h1) : MV k 4 yX1_beginRule cX1_beginRule 2 [.ref (ka k a0), .int x1] h h1 := mV hj hn (by decide +kernel) (Nat.le_of_ble_eq_true rfl) (fun d o hr => S_X1_beginRule_0 o F hf hr)
set_option maxRecDepth 100000 in
set_option maxHeartbeats 4000000 in
theorem S_X1_beginTest_0 {k : Kst} {d : Kdy} (o : Ok k d cX1_beginTest RX1 1 4) (F : Nat) {h : Hp} {a0 : Nat} {h1 : Hp} (hf : X1_beginTest F a0 h = some h1) (hr : RV k d cX1_beginTest h1) : Wz k d h 0 [(0, .ref (ka k a0))] [] := by
  unfold X1_beginTest at hf
  refine x_aload_n o dX1_beginTest_0 0 rfl rfl ?_
  obtain ⟨k_1, hf⟩ := gq_ex hf
  obtain ⟨j_2, ej_2, hf⟩ := ob_ex hf
  refine gRX1_18 o k_1 ej_2 dX1_beginTest_1 ?_
  refine x_aload_n o dX1_beginTest_4 0 rfl rfl ?_
  refine gRX1_33 o k_1 dX1_beginTest_5 ?_
  refine x_aload_n o dX1_beginTest_8 0 rfl rfl ?_
  refine gRX1_37 o k_1 dX1_beginTest_9 ?_
  obtain ⟨h_4, eh_4, hf⟩ := ob_ex hf
  refine vRX1_40 [.ref (ka k j_2), .int (h.1 a0 7), .int (h.1 a0 8)] [] o (C_X11_put o.1.2.2.2.2.2.2.1 o.2 F eh_4) (by decide) rfl rfl (Nat.le_of_ble_eq_true rfl) dX1_beginTest_12 ?_
  cases hf
  exact hr _ _ dX1_beginTest_15
theorem C_X1_beginTest {k : Kst} (hj : Dj k) (hn : kn k = kdl.length) (F : Nat) {h : Hp} {a0 : Nat} {h1 : Hp} (hf : X1_beginTest F a0 h = some h1) : MV k 4 yX1_beginTest cX1_beginTest 1 [.ref (ka k a0)] h h1 := mV hj hn (by decide +kernel) (Nat.le_of_ble_eq_true rfl) (fun d o hr => S_X1_beginTest_0 o F hf hr)
set_option maxRecDepth 100000 in
set_option maxHeartbeats 4000000 in
theorem S_X1_endRule_0 {k : Kst} {d : Kdy} (o : Ok k d cX1_endRule RX1 1 4) (F : Nat) {h : Hp} {a0 : Nat} {h1 : Hp} (hf : X1_endRule F a0 h = some h1) (hr : RV k d cX1_endRule h1) : Wz k d h 0 [(0, .ref (ka k a0))] [] := by
  unfold X1_endRule at hf
  refine x_aload_n o dX1_endRule_0 0 rfl rfl ?_
  obtain ⟨k_1, hf⟩ := gq_ex hf
  obtain ⟨j_2, ej_2, hf⟩ := ob_ex hf
  refine gRX1_21 o k_1 ej_2 dX1_endRule_1 ?_
  refine x_aload_n o dX1_endRule_4 0 rfl rfl ?_
  refine gRX1_33 o k_1 dX1_endRule_5 ?_
  refine x_aload_n o dX1_endRule_8 0 rfl rfl ?_
  refine gRX1_37 o k_1 dX1_endRule_9 ?_
  obtain ⟨h_4, eh_4, hf⟩ := ob_ex hf
  refine vRX1_40 [.ref (ka k j_2), .int (h.1 a0 7), .int (h.1 a0 8)] [] o (C_X11_put o.1.2.2.2.2.2.2.1 o.2 F eh_4) (by decide) rfl rfl (Nat.le_of_ble_eq_true rfl) dX1_endRule_12 ?_
  refine x_aload_n o dX1_endRule_15 0 rfl rfl ?_
  refine x_dup o dX1_endRule_16 rfl ?_
  refine gRX1_33 o k_1 dX1_endRule_17 ?_
  refine x_iconst (v := 1) o dX1_endRule_20 (by decide) ?_
  refine x_iadd o dX1_endRule_21 ?_
  obtain ⟨h_5, eh_5, hf⟩ := bd_ex hf
  refine pRX1_33 o k_1 eh_5 dX1_endRule_22 ?_
  cases hf
  exact hr _ _ dX1_endRule_25
theorem C_X1_endRule {k : Kst} (hj : Dj k) (hn : kn k = kdl.length) (F : Nat) {h : Hp} {a0 : Nat} {h1 : Hp} (hf : X1_endRule F a0 h = some h1) : MV k 4 yX1_endRule cX1_endRule 1 [.ref (ka k a0)] h h1 := mV hj hn (by decide +kernel) (Nat.le_of_ble_eq_true rfl) (fun d o hr => S_X1_endRule_0 o F hf hr)
set_option maxRecDepth 100000 in
set_option maxHeartbeats 4000000 in
theorem S_X1_add_0 {k : Kst} {d : Kdy} (o : Ok k d cX1_add RX1 3 4) (F : Nat) {h : Hp} {a0 : Nat} {x1 : Int32} {x2 : Int32} {r : Int32} {h1 : Hp} (hf : X1_add F a0 x1 x2 h = some (r, h1)) (hr : RI k d cX1_add r h1) : Wz k d h 0 [(0, .ref (ka k a0)), (1, .int x1), (2, .int x2)] [] := by
  unfold X1_add at hf
  refine x_aload_n o dX1_add_0 0 rfl rfl ?_
  obtain ⟨k_1, hf⟩ := gq_ex hf
  obtain ⟨j_2, ej_2, hf⟩ := ob_ex hf
  refine gRX1_24 o k_1 ej_2 dX1_add_1 ?_
  refine x_aload_n o dX1_add_4 0 rfl rfl ?_
  refine gRX1_37 o k_1 dX1_add_5 ?_
  refine x_iload_n o dX1_add_8 1 rfl rfl ?_
  obtain ⟨h_4, eh_4, hf⟩ := ob_ex hf
  refine vRX1_40 [.ref (ka k j_2), .int (h.1 a0 8), .int x1] [] o (C_X11_put o.1.2.2.2.2.2.2.1 o.2 F eh_4) (by decide) rfl rfl (Nat.le_of_ble_eq_true rfl) dX1_add_9 ?_
  refine x_aload_n o dX1_add_12 0 rfl rfl ?_
  obtain ⟨j_5, ej_5, hf⟩ := ob_ex hf
  refine gRX1_27 o k_1 ej_5 dX1_add_13 ?_
  refine x_aload_n o dX1_add_16 0 rfl rfl ?_
  refine gRX1_37 o k_1 dX1_add_17 ?_
  refine x_iload_n o dX1_add_20 2 rfl rfl ?_
  obtain ⟨h_7, eh_7, hf⟩ := ob_ex hf
  refine vRX1_40 [.ref (ka k j_5), .int (h_4.1 a0 8), .int x2] [] o (C_X11_put o.1.2.2.2.2.2.2.1 o.2 F eh_7) (by decide) rfl rfl (Nat.le_of_ble_eq_true rfl) dX1_add_21 ?_
  refine x_aload_n o dX1_add_24 0 rfl rfl ?_
  refine x_dup o dX1_add_25 rfl ?_
  refine gRX1_37 o k_1 dX1_add_26 ?_
  refine x_iconst (v := 1) o dX1_add_29 (by decide) ?_
  refine x_iadd o dX1_add_30 ?_
  obtain ⟨h_8, eh_8, hf⟩ := bd_ex hf
  refine pRX1_37 o k_1 eh_8 dX1_add_31 ?_
  refine x_aload_n o dX1_add_34 0 rfl rfl ?_
  refine gRX1_37 o k_1 dX1_add_35 ?_
  refine x_iconst (v := 1) o dX1_add_38 (by decide) ?_
  refine x_isub o dX1_add_39 ?_
  cases hf
  exact hr _ _ dX1_add_40
theorem C_X1_add {k : Kst} (hj : Dj k) (hn : kn k = kdl.length) (F : Nat) {h : Hp} {a0 : Nat} {x1 : Int32} {x2 : Int32} {r : Int32} {h1 : Hp} (hf : X1_add F a0 x1 x2 h = some (r, h1)) : MI k 4 yX1_add cX1_add 3 (some .int) [.ref (ka k a0), .int x1, .int x2] h r h1 := mI hj hn (by decide +kernel) (Nat.le_of_ble_eq_true rfl) (fun d o hr => S_X1_add_0 o F hf hr)
set_option maxRecDepth 100000 in
set_option maxHeartbeats 4000000 in
theorem S_X1_aim_0 {k : Kst} {d : Kdy} (o : Ok k d cX1_aim RX1 2 4) (F : Nat) {h : Hp} {a0 : Nat} {x1 : Int32} {h1 : Hp} (hf : X1_aim F a0 x1 h = some h1) (hr : RV k d cX1_aim h1) : Wz k d h 0 [(0, .ref (ka k a0)), (1, .int x1)] [] := by
  unfold X1_aim at hf
  refine x_aload_n o dX1_aim_0 0 rfl rfl ?_
  obtain ⟨k_1, hf⟩ := gq_ex hf
  obtain ⟨j_2, ej_2, hf⟩ := ob_ex hf
  refine gRX1_27 o k_1 ej_2 dX1_aim_1 ?_
  refine x_iload_n o dX1_aim_4 1 rfl rfl ?_
  refine x_aload_n o dX1_aim_5 0 rfl rfl ?_
  refine gRX1_37 o k_1 dX1_aim_6 ?_
  obtain ⟨h_4, eh_4, hf⟩ := ob_ex hf
  refine vRX1_40 [.ref (ka k j_2), .int x1, .int (h.1 a0 8)] [] o (C_X11_put o.1.2.2.2.2.2.2.1 o.2 F eh_4) (by decide) rfl rfl (Nat.le_of_ble_eq_true rfl) dX1_aim_9 ?_
  cases hf
  exact hr _ _ dX1_aim_12
theorem C_X1_aim {k : Kst} (hj : Dj k) (hn : kn k = kdl.length) (F : Nat) {h : Hp} {a0 : Nat} {x1 : Int32} {h1 : Hp} (hf : X1_aim F a0 x1 h = some h1) : MV k 4 yX1_aim cX1_aim 2 [.ref (ka k a0), .int x1] h h1 := mV hj hn (by decide +kernel) (Nat.le_of_ble_eq_true rfl) (fun d o hr => S_X1_aim_0 o F hf hr)
set_option maxRecDepth 100000 in
set_option maxHeartbeats 4000000 in
theorem S_X1_joined_0 {k : Kst} {d : Kdy} (o : Ok k d cX1_joined RX1 3 3) (F : Nat) {h : Hp} {x0 : Int32} {x1 : Int32} {x2 : Int32} {r : Int32} (hf : X1_joined F x0 x1 x2 h = some r) (hr : RI k d cX1_joined r h) : Wz k d h 0 [(0, .int x0), (1, .int x1), (2, .int x2)] [] := by
  unfold X1_joined at hf
  refine x_iload_n o dX1_joined_0 0 rfl rfl ?_
  obtain ⟨t_1, et_1, hf⟩ := bd_ex hf
  refine x_top et_1 ?_
  by_cases q_2 : t_1 = 37
  · replace hf := (if_pos q_2).symm.trans hf
    refine x_look (off := 91) o 92 (by decide) (by rw [q_2]; rfl) (by decide) dX1_joined_1 ?_
    refine x_iload_n o dX1_joined_92 2 rfl rfl ?_
    refine x_if_ne o 100 dX1_joined_93 (by decide) (fun q_3 => ?_) (fun q_3 => ?_)
    · replace hf := (if_neg q_3).symm.trans hf
      refine x_iload_n o dX1_joined_100 1 rfl rfl ?_
      refine x_iload_n o dX1_joined_101 2 rfl rfl ?_
      obtain ⟨n_4, hf⟩ := gq_ex hf
      refine x_irem o dX1_joined_102 n_4 ?_
      cases hf
      exact hr _ _ dX1_joined_103
    · replace hf := (if_pos q_3).symm.trans hf
      refine x_iconst (v := 0) o dX1_joined_96 (by decide) ?_
      refine x_goto o 103 dX1_joined_97 (by decide) ?_
      cases hf
      exact hr _ _ dX1_joined_103
  replace hf := (if_neg q_2).symm.trans hf
  by_cases q_5 : t_1 = 42
  · replace hf := (if_pos q_5).symm.trans hf
    refine x_look (off := 75) o 76 (by decide) (by rw [q_5]; rfl) (by decide) dX1_joined_1 ?_
    refine x_iload_n o dX1_joined_76 1 rfl rfl ?_
    refine x_iload_n o dX1_joined_77 2 rfl rfl ?_
    refine x_imul o dX1_joined_78 ?_
    cases hf
    exact hr _ _ dX1_joined_79
  replace hf := (if_neg q_5).symm.trans hf
  by_cases q_6 : t_1 = 43
  · replace hf := (if_pos q_6).symm.trans hf
    refine x_look (off := 67) o 68 (by decide) (by rw [q_6]; rfl) (by decide) dX1_joined_1 ?_
    refine x_iload_n o dX1_joined_68 1 rfl rfl ?_
    refine x_iload_n o dX1_joined_69 2 rfl rfl ?_
    refine x_iadd o dX1_joined_70 ?_
    cases hf
    exact hr _ _ dX1_joined_71
  replace hf := (if_neg q_6).symm.trans hf
  by_cases q_7 : t_1 = 45
  · replace hf := (if_pos q_7).symm.trans hf
    refine x_look (off := 71) o 72 (by decide) (by rw [q_7]; rfl) (by decide) dX1_joined_1 ?_
    refine x_iload_n o dX1_joined_72 1 rfl rfl ?_
    refine x_iload_n o dX1_joined_73 2 rfl rfl ?_
    refine x_isub o dX1_joined_74 ?_
    cases hf
    exact hr _ _ dX1_joined_75
  replace hf := (if_neg q_7).symm.trans hf
  by_cases q_8 : t_1 = 47
  · replace hf := (if_pos q_8).symm.trans hf
    refine x_look (off := 79) o 80 (by decide) (by rw [q_8]; rfl) (by decide) dX1_joined_1 ?_
    refine x_iload_n o dX1_joined_80 2 rfl rfl ?_
    refine x_if_ne o 88 dX1_joined_81 (by decide) (fun q_9 => ?_) (fun q_9 => ?_)
    · replace hf := (if_neg q_9).symm.trans hf
      refine x_iload_n o dX1_joined_88 1 rfl rfl ?_
      refine x_iload_n o dX1_joined_89 2 rfl rfl ?_
      obtain ⟨n_10, hf⟩ := gq_ex hf
      refine x_idiv o dX1_joined_90 n_10 ?_
      cases hf
      exact hr _ _ dX1_joined_91
    · replace hf := (if_pos q_9).symm.trans hf
      refine x_iconst (v := 0) o dX1_joined_84 (by decide) ?_
      refine x_goto o 91 dX1_joined_85 (by decide) ?_
      cases hf
      exact hr _ _ dX1_joined_91
  replace hf := (if_neg q_8).symm.trans hf
  by_cases q_11 : t_1 = 60
  · replace hf := (if_pos q_11).symm.trans hf
    refine x_look (off := 103) o 104 (by decide) (by rw [q_11]; rfl) (by decide) dX1_joined_1 ?_
    refine x_iload_n o dX1_joined_104 1 rfl rfl ?_
    refine x_iload_n o dX1_joined_105 2 rfl rfl ?_
    refine x_icmp_ge o 113 dX1_joined_106 (by decide) (fun q_12 => ?_) (fun q_12 => ?_)
    · replace hf := (if_pos q_12).symm.trans hf
      refine x_iconst (v := 0) o dX1_joined_113 (by decide) ?_
      cases hf
      exact hr _ _ dX1_joined_114
    · replace hf := (if_neg q_12).symm.trans hf
      refine x_iconst (v := 1) o dX1_joined_109 (by decide) ?_
      refine x_goto o 114 dX1_joined_110 (by decide) ?_
      cases hf
      exact hr _ _ dX1_joined_114
  replace hf := (if_neg q_11).symm.trans hf
  by_cases q_13 : t_1 = 62
  · replace hf := (if_pos q_13).symm.trans hf
    refine x_look (off := 114) o 115 (by decide) (by rw [q_13]; rfl) (by decide) dX1_joined_1 ?_
    refine x_iload_n o dX1_joined_115 1 rfl rfl ?_
    refine x_iload_n o dX1_joined_116 2 rfl rfl ?_
    refine x_icmp_le o 124 dX1_joined_117 (by decide) (fun q_14 => ?_) (fun q_14 => ?_)
    · replace hf := (if_pos q_14).symm.trans hf
      refine x_iconst (v := 0) o dX1_joined_124 (by decide) ?_
      cases hf
      exact hr _ _ dX1_joined_125
    · replace hf := (if_neg q_14).symm.trans hf
      refine x_iconst (v := 1) o dX1_joined_120 (by decide) ?_
      refine x_goto o 125 dX1_joined_121 (by decide) ?_
      cases hf
      exact hr _ _ dX1_joined_125
  replace hf := (if_neg q_13).symm.trans hf
  refine x_look (off := 125) o 126 (by decide) ((lv_osw q_2 rfl).trans ((lv_osw q_5 rfl).trans ((lv_osw q_6 rfl).trans ((lv_osw q_7 rfl).trans ((lv_osw q_8 rfl).trans ((lv_osw q_11 rfl).trans ((lv_osw q_13 rfl).trans rfl))))))) (by decide) dX1_joined_1 ?_
  refine x_iload_n o dX1_joined_126 1 rfl rfl ?_
  refine x_iload_n o dX1_joined_127 2 rfl rfl ?_
  refine x_icmp_ne o 135 dX1_joined_128 (by decide) (fun q_15 => ?_) (fun q_15 => ?_)
  · replace hf := (if_neg q_15).symm.trans hf
    refine x_iconst (v := 0) o dX1_joined_135 (by decide) ?_
    cases hf
    exact hr _ _ dX1_joined_136
  · replace hf := (if_pos q_15).symm.trans hf
    refine x_iconst (v := 1) o dX1_joined_131 (by decide) ?_
    refine x_goto o 136 dX1_joined_132 (by decide) ?_
    cases hf
    exact hr _ _ dX1_joined_136
theorem C_X1_joined {k : Kst} (hj : Dj k) (hn : kn k = kdl.length) (F : Nat) {h : Hp} {x0 : Int32} {x1 : Int32} {x2 : Int32} {r : Int32} (hf : X1_joined F x0 x1 x2 h = some r) : MI k 3 yX1_joined cX1_joined 3 (some .int) [.int x0, .int x1, .int x2] h r h := mI hj hn (by decide +kernel) (Nat.le_of_ble_eq_true rfl) (fun d o hr => S_X1_joined_0 o F hf hr)
set_option maxRecDepth 100000 in
set_option maxHeartbeats 4000000 in
theorem S_X1_reckon_278 {k : Kst} {d : Kdy} (o : Ok k d cX1_reckon RX1 10 4) (F : Nat) {h : Hp} {a0 : Nat} {r : Int32} {h1 : Hp} (hf : X1_reckon_278 F a0 h = some (r, h1)) (hr : RI k d cX1_reckon r h1) : Wz k d h 278 [(0, .ref (ka k a0))] [] := by
  unfold X1_reckon_278 at hf
  refine x_aload_n o dX1_reckon_278 0 rfl rfl ?_
  obtain ⟨k_1, hf⟩ := gq_ex hf
  obtain ⟨j_2, ej_2, hf⟩ := ob_ex hf
  refine gRX1_30 o k_1 ej_2 dX1_reckon_279 ?_
  refine x_iconst (v := 0) o dX1_reckon_282 (by decide) ?_
  obtain ⟨c_3, ec_3, hf⟩ := ob_ex hf
  refine vRX1_44 [.ref (ka k j_2), .int 0] [] o (C_X11_get o.1.2.2.2.2.2.2.1 o.2 F ec_3) (by decide) rfl rfl (Nat.le_of_ble_eq_true rfl) dX1_reckon_283 ?_
  cases hf
  exact hr _ _ dX1_reckon_286
set_option maxRecDepth 100000 in
set_option maxHeartbeats 4000000 in
theorem S_X1_reckon_272 {k : Kst} {d : Kdy} (o : Ok k d cX1_reckon RX1 10 4) (F : Nat) {k9 : Nat → Int32 → Nat → Int32 → Int32 → Int32 → Hp → Option (Int32 × Hp)} (hk9 : ∀ {h : Hp} {a0 : Nat} {x2 : Int32} {a3 : Nat} {x4 : Int32} {x5 : Int32} {x6 : Int32} {r : Int32} {h1 : Hp}, k9 a0 x2 a3 x4 x5 x6 h = some (r, h1) → RI k d cX1_reckon r h1 → Wz k d h 9 [(0, .ref (ka k a0)), (2, .int x2), (3, .ref (ka k a3)), (4, .int x4), (5, .int x5), (6, .int x6)] []) {h : Hp} {a0 : Nat} {x2 : Int32} {a3 : Nat} {x4 : Int32} {x5 : Int32} {x6 : Int32} {r : Int32} {h1 : Hp} (hf : X1_reckon_272 F k9 a0 x2 a3 x4 x5 x6 h = some (r, h1)) (hr : RI k d cX1_reckon r h1) : Wz k d h 272 [(0, .ref (ka k a0)), (2, .int x2), (3, .ref (ka k a3)), (4, .int x4), (5, .int x5), (6, .int x6)] [] := by
  unfold X1_reckon_272 at hf
  obtain ⟨x6_1, ex6_1, hf⟩ := bd_ex hf
  refine x_iinc o dX1_reckon_272 (by decide) 5 rfl ex6_1.symm [(6, .int x6_1), (0, .ref (ka k a0)), (2, .int x2), (3, .ref (ka k a3)), (4, .int x4), (5, .int x5)] rfl ?_
  refine x_goto o 9 dX1_reckon_275 (by decide) ?_
  refine x_sub [1, 2, 3, 4, 5, 0] [(0, .ref (ka k a0)), (2, .int x2), (3, .ref (ka k a3)), (4, .int x4), (5, .int x5), (6, .int x6_1)] rfl ?_
  exact hk9 hf hr
set_option maxRecDepth 100000 in
set_option maxHeartbeats 4000000 in
theorem S_X1_reckon_244 {k : Kst} {d : Kdy} (o : Ok k d cX1_reckon RX1 10 4) (F : Nat) {k9 : Nat → Int32 → Nat → Int32 → Int32 → Int32 → Hp → Option (Int32 × Hp)} (hk9 : ∀ {h : Hp} {a0 : Nat} {x2 : Int32} {a3 : Nat} {x4 : Int32} {x5 : Int32} {x6 : Int32} {r : Int32} {h1 : Hp}, k9 a0 x2 a3 x4 x5 x6 h = some (r, h1) → RI k d cX1_reckon r h1 → Wz k d h 9 [(0, .ref (ka k a0)), (2, .int x2), (3, .ref (ka k a3)), (4, .int x4), (5, .int x5), (6, .int x6)] []) {h : Hp} {a0 : Nat} {x2 : Int32} {a3 : Nat} {x4 : Int32} {x5 : Int32} {x6 : Int32} {x7 : Int32} {x9 : Int32} {r : Int32} {h1 : Hp} (hf : X1_reckon_244 F k9 a0 x2 a3 x4 x5 x6 x7 x9 h = some (r, h1)) (hr : RI k d cX1_reckon r h1) : Wz k d h 244 [(0, .ref (ka k a0)), (2, .int x2), (3, .ref (ka k a3)), (4, .int x4), (5, .int x5), (6, .int x6), (7, .int x7), (9, .int x9)] [] := by
  unfold X1_reckon_244 at hf
  obtain ⟨x4_1, ex4_1, hf⟩ := bd_ex hf
  refine x_iinc o dX1_reckon_244 (by decide) 3 rfl ex4_1.symm [(4, .int x4_1), (0, .ref (ka k a0)), (2, .int x2), (3, .ref (ka k a3)), (5, .int x5), (6, .int x6), (7, .int x7), (9, .int x9)] rfl ?_
  refine x_aload_n o dX1_reckon_247 1 rfl rfl ?_
  obtain ⟨k_2, hf⟩ := gq_ex hf
  obtain ⟨j_3, ej_3, hf⟩ := ob_ex hf
  refine gRX1_30 o k_2 ej_3 dX1_reckon_248 ?_
  refine x_iload o dX1_reckon_251 0 rfl ?_
  refine x_iload o dX1_reckon_253 6 rfl ?_
  refine x_aload_n o dX1_reckon_255 1 rfl rfl ?_
  refine gRX1_30 o k_2 ej_3 dX1_reckon_256 ?_
  refine x_iload o dX1_reckon_259 0 rfl ?_
  obtain ⟨c_4, ec_4, hf⟩ := ob_ex hf
  refine vRX1_44 [.ref (ka k j_3), .int x4_1] [.int x7, .int x4_1, .ref (ka k j_3)] o (C_X11_get o.1.2.2.2.2.2.2.1 o.2 F ec_4) (by decide) rfl rfl (Nat.le_of_ble_eq_true rfl) dX1_reckon_261 ?_
  refine x_iload o dX1_reckon_264 7 rfl ?_
  obtain ⟨c_6, ec_6, hf⟩ := ob_ex hf
  refine vRX1_61 [.int x7, .int c_4, .int x9] [.int x4_1, .ref (ka k j_3)] o (C_X1_joined o.1.2.2.2.2.2.2.1 o.2 F ec_6) (by decide) rfl rfl (Nat.le_of_ble_eq_true rfl) dX1_reckon_266 ?_
  obtain ⟨h_9, eh_9, hf⟩ := ob_ex hf
  refine vRX1_40 [.ref (ka k j_3), .int x4_1, .int c_6] [] o (C_X11_put o.1.2.2.2.2.2.2.1 o.2 F eh_9) (by decide) rfl rfl (Nat.le_of_ble_eq_true rfl) dX1_reckon_269 ?_
  refine x_sub [1, 2, 3, 0, 4, 5] [(0, .ref (ka k a0)), (2, .int x2), (3, .ref (ka k a3)), (4, .int x4_1), (5, .int x5), (6, .int x6)] rfl ?_
  exact S_X1_reckon_272 o F hk9 hf hr
set_option maxRecDepth 100000 in
set_option maxHeartbeats 4000000 in
theorem S_X1_reckon_196 {k : Kst} {d : Kdy} (o : Ok k d cX1_reckon RX1 10 4) (F : Nat) {k9 : Nat → Int32 → Nat → Int32 → Int32 → Int32 → Hp → Option (Int32 × Hp)} (hk9 : ∀ {h : Hp} {a0 : Nat} {x2 : Int32} {a3 : Nat} {x4 : Int32} {x5 : Int32} {x6 : Int32} {r : Int32} {h1 : Hp}, k9 a0 x2 a3 x4 x5 x6 h = some (r, h1) → RI k d cX1_reckon r h1 → Wz k d h 9 [(0, .ref (ka k a0)), (2, .int x2), (3, .ref (ka k a3)), (4, .int x4), (5, .int x5), (6, .int x6)] []) {h : Hp} {a0 : Nat} {x2 : Int32} {a3 : Nat} {x4 : Int32} {x5 : Int32} {x6 : Int32} {x8 : Int32} {s0 : Int32} {s1 : Int32} {r : Int32} {h1 : Hp} (hf : X1_reckon_196 F k9 a0 x2 a3 x4 x5 x6 x8 s0 s1 h = some (r, h1)) (hr : RI k d cX1_reckon r h1) : Wz k d h 196 [(0, .ref (ka k a0)), (2, .int x2), (3, .ref (ka k a3)), (4, .int x4), (5, .int x5), (6, .int x6), (8, .int x8)] [.int s1, .int s0] := by
  unfold X1_reckon_196 at hf
  refine x_icmp_ne o 206 dX1_reckon_196 (by decide) (fun q_1 => ?_) (fun q_1 => ?_)
  · replace hf := (if_neg q_1).symm.trans hf
    obtain ⟨x4_2, ex4_2, hf⟩ := bd_ex hf
    refine x_iinc o dX1_reckon_206 (by decide) 3 rfl ex4_2.symm [(4, .int x4_2), (0, .ref (ka k a0)), (2, .int x2), (3, .ref (ka k a3)), (5, .int x5), (6, .int x6), (8, .int x8)] rfl ?_
    refine x_goto o 272 dX1_reckon_209 (by decide) ?_
    refine x_sub [1, 2, 3, 0, 4, 5] [(0, .ref (ka k a0)), (2, .int x2), (3, .ref (ka k a3)), (4, .int x4_2), (5, .int x5), (6, .int x6)] rfl ?_
    exact S_X1_reckon_272 o F hk9 hf hr
  · replace hf := (if_pos q_1).symm.trans hf
    refine x_iload o dX1_reckon_199 6 rfl ?_
    refine x_istore o dX1_reckon_201 (by decide) [(5, .int x8), (0, .ref (ka k a0)), (2, .int x2), (3, .ref (ka k a3)), (4, .int x4), (6, .int x6), (8, .int x8)] rfl ?_
    refine x_goto o 272 dX1_reckon_203 (by decide) ?_
    refine x_sub [1, 2, 3, 4, 0, 5] [(0, .ref (ka k a0)), (2, .int x2), (3, .ref (ka k a3)), (4, .int x4), (5, .int x8), (6, .int x6)] rfl ?_
    exact S_X1_reckon_272 o F hk9 hf hr
set_option maxRecDepth 100000 in
set_option maxHeartbeats 4000000 in
theorem S_X1_reckon_184 {k : Kst} {d : Kdy} (o : Ok k d cX1_reckon RX1 10 4) (F : Nat) {k9 : Nat → Int32 → Nat → Int32 → Int32 → Int32 → Hp → Option (Int32 × Hp)} (hk9 : ∀ {h : Hp} {a0 : Nat} {x2 : Int32} {a3 : Nat} {x4 : Int32} {x5 : Int32} {x6 : Int32} {r : Int32} {h1 : Hp}, k9 a0 x2 a3 x4 x5 x6 h = some (r, h1) → RI k d cX1_reckon r h1 → Wz k d h 9 [(0, .ref (ka k a0)), (2, .int x2), (3, .ref (ka k a3)), (4, .int x4), (5, .int x5), (6, .int x6)] []) {h : Hp} {a0 : Nat} {x2 : Int32} {a3 : Nat} {x4 : Int32} {x5 : Int32} {x6 : Int32} {x7 : Int32} {x8 : Int32} {s0 : Int32} {r : Int32} {h1 : Hp} (hf : X1_reckon_184 F k9 a0 x2 a3 x4 x5 x6 x7 x8 s0 h = some (r, h1)) (hr : RI k d cX1_reckon r h1) : Wz k d h 184 [(0, .ref (ka k a0)), (2, .int x2), (3, .ref (ka k a3)), (4, .int x4), (5, .int x5), (6, .int x6), (7, .int x7), (8, .int x8)] [.int s0] := by
  unfold X1_reckon_184 at hf
  refine x_iload o dX1_reckon_184 6 rfl ?_
  refine x_bipush (v := 124) o dX1_reckon_186 (by decide) ?_
  refine x_icmp_ne o 195 dX1_reckon_188 (by decide) (fun q_1 => ?_) (fun q_1 => ?_)
  · replace hf := (if_neg q_1).symm.trans hf
    refine x_iconst (v := 0) o dX1_reckon_195 (by decide) ?_
    refine x_sub [0, 1, 2, 3, 4, 5, 7] [(0, .ref (ka k a0)), (2, .int x2), (3, .ref (ka k a3)), (4, .int x4), (5, .int x5), (6, .int x6), (8, .int x8)] rfl ?_
    exact S_X1_reckon_196 o F hk9 hf hr
  · replace hf := (if_pos q_1).symm.trans hf
    refine x_iconst (v := 1) o dX1_reckon_191 (by decide) ?_
    refine x_goto o 196 dX1_reckon_192 (by decide) ?_
    refine x_sub [0, 1, 2, 3, 4, 5, 7] [(0, .ref (ka k a0)), (2, .int x2), (3, .ref (ka k a3)), (4, .int x4), (5, .int x5), (6, .int x6), (8, .int x8)] rfl ?_
    exact S_X1_reckon_196 o F hk9 hf hr
set_option maxRecDepth 100000 in
set_option maxHeartbeats 4000000 in
theorem S_X1_reckon_161 {k : Kst} {d : Kdy} (o : Ok k d cX1_reckon RX1 10 4) (F : Nat) {k9 : Nat → Int32 → Nat → Int32 → Int32 → Int32 → Hp → Option (Int32 × Hp)} (hk9 : ∀ {h : Hp} {a0 : Nat} {x2 : Int32} {a3 : Nat} {x4 : Int32} {x5 : Int32} {x6 : Int32} {r : Int32} {h1 : Hp}, k9 a0 x2 a3 x4 x5 x6 h = some (r, h1) → RI k d cX1_reckon r h1 → Wz k d h 9 [(0, .ref (ka k a0)), (2, .int x2), (3, .ref (ka k a3)), (4, .int x4), (5, .int x5), (6, .int x6)] []) {h : Hp} {a0 : Nat} {x2 : Int32} {a3 : Nat} {x4 : Int32} {x5 : Int32} {x6 : Int32} {r0 : Nat} {s1 : Int32} {s2 : Int32} {r : Int32} {h1 : Hp} (hf : X1_reckon_161 F k9 a0 x2 a3 x4 x5 x6 r0 s1 s2 h = some (r, h1)) (hr : RI k d cX1_reckon r h1) : Wz k d h 161 [(0, .ref (ka k a0)), (2, .int x2), (3, .ref (ka k a3)), (4, .int x4), (5, .int x5), (6, .int x6)] [.int s2, .int s1, .ref (ka k r0)] := by
  unfold X1_reckon_161 at hf
  obtain ⟨h_2, eh_2, hf⟩ := ob_ex hf
  refine vRX1_40 [.ref (ka k r0), .int s1, .int s2] [] o (C_X11_put o.1.2.2.2.2.2.2.1 o.2 F eh_2) (by decide) rfl rfl (Nat.le_of_ble_eq_true rfl) dX1_reckon_161 ?_
  refine x_goto o 272 dX1_reckon_164 (by decide) ?_
  refine x_sub [0, 1, 2, 3, 4, 5] [(0, .ref (ka k a0)), (2, .int x2), (3, .ref (ka k a3)), (4, .int x4), (5, .int x5), (6, .int x6)] rfl ?_
  exact S_X1_reckon_272 o F hk9 hf hr
set_option maxRecDepth 100000 in
set_option maxHeartbeats 4000000 in
theorem S_X1_reckon_9 {k : Kst} {d : Kdy} (o : Ok k d cX1_reckon RX1 10 4) (F : Nat) : ∀ (f : Nat) {h : Hp} {a0 : Nat} {x2 : Int32} {a3 : Nat} {x4 : Int32} {x5 : Int32} {x6 : Int32} {r : Int32} {h1 : Hp}, X1_reckon_9 F f a0 x2 a3 x4 x5 x6 h = some (r, h1) → RI k d cX1_reckon r h1 → Wz k d h 9 [(0, .ref (ka k a0)), (2, .int x2), (3, .ref (ka k a3)), (4, .int x4), (5, .int x5), (6, .int x6)] [] := by
  intro f
  induction f with
  | zero =>
    intro h a0 x2 a3 x4 x5 x6 r h1 hf hr
    exact nomatch (show (none : Option _) = some _ from hf)
  | succ f ih =>
    intro h a0 x2 a3 x4 x5 x6 r h1 hf hr
    rw [X1_reckon_9] at hf
    refine x_iload o dX1_reckon_9 5 rfl ?_
    refine x_sipush (v := 240) o dX1_reckon_11 (by decide) ?_
    refine x_icmp_ge o 278 dX1_reckon_14 (by decide) (fun q_1 => ?_) (fun q_1 => ?_)
    · replace hf := (if_pos q_1).symm.trans hf
      refine x_sub [0] [(0, .ref (ka k a0))] rfl ?_
      exact S_X1_reckon_278 o F hf hr
    · replace hf := (if_neg q_1).symm.trans hf
      refine x_iload o dX1_reckon_17 4 rfl ?_
      refine x_iload_n o dX1_reckon_19 1 rfl rfl ?_
      refine x_icmp_ge o 278 dX1_reckon_20 (by decide) (fun q_2 => ?_) (fun q_2 => ?_)
      · replace hf := (if_pos q_2).symm.trans hf
        refine x_sub [0] [(0, .ref (ka k a0))] rfl ?_
        exact S_X1_reckon_278 o F hf hr
      · replace hf := (if_neg q_2).symm.trans hf
        refine x_aload_n o dX1_reckon_23 0 rfl rfl ?_
        obtain ⟨k_3, hf⟩ := gq_ex hf
        obtain ⟨j_4, ej_4, hf⟩ := ob_ex hf
        refine gRX1_24 o k_3 ej_4 dX1_reckon_24 ?_
        refine x_iload o dX1_reckon_27 4 rfl ?_
        obtain ⟨c_5, ec_5, hf⟩ := ob_ex hf
        refine vRX1_44 [.ref (ka k j_4), .int x5] [] o (C_X11_get o.1.2.2.2.2.2.2.1 o.2 F ec_5) (by decide) rfl rfl (Nat.le_of_ble_eq_true rfl) dX1_reckon_29 ?_
        refine x_istore o dX1_reckon_32 (by decide) [(7, .int c_5), (0, .ref (ka k a0)), (2, .int x2), (3, .ref (ka k a3)), (4, .int x4), (5, .int x5), (6, .int x6)] rfl ?_
        refine x_aload_n o dX1_reckon_34 1 rfl rfl ?_
        obtain ⟨j_7, ej_7, hf⟩ := ob_ex hf
        refine gRX1_27 o k_3 ej_7 dX1_reckon_35 ?_
        refine x_iload o dX1_reckon_38 5 rfl ?_
        obtain ⟨c_8, ec_8, hf⟩ := ob_ex hf
        refine vRX1_44 [.ref (ka k j_7), .int x5] [] o (C_X11_get o.1.2.2.2.2.2.2.1 o.2 F ec_8) (by decide) rfl rfl (Nat.le_of_ble_eq_true rfl) dX1_reckon_40 ?_
        refine x_istore o dX1_reckon_43 (by decide) [(8, .int c_8), (7, .int c_5), (0, .ref (ka k a0)), (2, .int x2), (3, .ref (ka k a3)), (4, .int x4), (5, .int x5), (6, .int x6)] rfl ?_
        obtain ⟨x5_10, ex5_10, hf⟩ := bd_ex hf
        refine x_iinc o dX1_reckon_45 (by decide) 6 rfl ex5_10.symm [(5, .int x5_10), (8, .int c_8), (7, .int c_5), (0, .ref (ka k a0)), (2, .int x2), (3, .ref (ka k a3)), (4, .int x4), (6, .int x6)] rfl ?_
        refine x_iload o dX1_reckon_48 2 rfl ?_
        obtain ⟨t_11, et_11, hf⟩ := bd_ex hf
        refine x_top et_11 ?_
        by_cases q_12 : t_11 = 33
        · replace hf := (if_pos q_12).symm.trans hf
          refine x_look (off := 88) o 138 (by decide) (by rw [q_12]; rfl) (by decide) dX1_reckon_50 ?_
          refine x_aload_n o dX1_reckon_138 3 rfl rfl ?_
          obtain ⟨j_13, ej_13, hf⟩ := ob_ex hf
          refine gRX1_30 o k_3 ej_13 dX1_reckon_139 ?_
          refine x_iload o dX1_reckon_142 6 rfl ?_
          refine x_aload_n o dX1_reckon_144 3 rfl rfl ?_
          refine gRX1_30 o k_3 ej_13 dX1_reckon_145 ?_
          refine x_iload o dX1_reckon_148 6 rfl ?_
          obtain ⟨c_14, ec_14, hf⟩ := ob_ex hf
          refine vRX1_44 [.ref (ka k j_13), .int x4] [.int x4, .ref (ka k j_13)] o (C_X11_get o.1.2.2.2.2.2.2.1 o.2 F ec_14) (by decide) rfl rfl (Nat.le_of_ble_eq_true rfl) dX1_reckon_150 ?_
          refine x_if_ne o 160 dX1_reckon_153 (by decide) (fun q_16 => ?_) (fun q_16 => ?_)
          · replace hf := (if_neg q_16).symm.trans hf
            refine x_iconst (v := 0) o dX1_reckon_160 (by decide) ?_
            refine x_sub [3, 4, 5, 6, 0, 7] [(0, .ref (ka k a0)), (2, .int x2), (3, .ref (ka k a3)), (4, .int x4), (5, .int x5_10), (6, .int x6)] rfl ?_
            exact S_X1_reckon_161 o F (fun q1 q2 => ih q1 q2) hf hr
          · replace hf := (if_pos q_16).symm.trans hf
            refine x_iconst (v := 1) o dX1_reckon_156 (by decide) ?_
            refine x_goto o 161 dX1_reckon_157 (by decide) ?_
            refine x_sub [3, 4, 5, 6, 0, 7] [(0, .ref (ka k a0)), (2, .int x2), (3, .ref (ka k a3)), (4, .int x4), (5, .int x5_10), (6, .int x6)] rfl ?_
            exact S_X1_reckon_161 o F (fun q1 q2 => ih q1 q2) hf hr
        replace hf := (if_neg q_12).symm.trans hf
        by_cases q_17 : t_11 = 38
        · replace hf := (if_pos q_17).symm.trans hf
          refine x_look (off := 117) o 167 (by decide) (by rw [q_17]; rfl) (by decide) dX1_reckon_50 ?_
          refine x_aload_n o dX1_reckon_167 3 rfl rfl ?_
          obtain ⟨j_18, ej_18, hf⟩ := ob_ex hf
          refine gRX1_30 o k_3 ej_18 dX1_reckon_168 ?_
          refine x_iload o dX1_reckon_171 6 rfl ?_
          obtain ⟨c_19, ec_19, hf⟩ := ob_ex hf
          refine vRX1_44 [.ref (ka k j_18), .int x4] [] o (C_X11_get o.1.2.2.2.2.2.2.1 o.2 F ec_19) (by decide) rfl rfl (Nat.le_of_ble_eq_true rfl) dX1_reckon_173 ?_
          refine x_if_eq o 183 dX1_reckon_176 (by decide) (fun q_21 => ?_) (fun q_21 => ?_)
          · replace hf := (if_pos q_21).symm.trans hf
            refine x_iconst (v := 0) o dX1_reckon_183 (by decide) ?_
            refine x_sub [3, 4, 5, 6, 0, 7, 2, 1] [(0, .ref (ka k a0)), (2, .int x2), (3, .ref (ka k a3)), (4, .int x4), (5, .int x5_10), (6, .int x6), (7, .int c_5), (8, .int c_8)] rfl ?_
            exact S_X1_reckon_184 o F (fun q1 q2 => ih q1 q2) hf hr
          · replace hf := (if_neg q_21).symm.trans hf
            refine x_iconst (v := 1) o dX1_reckon_179 (by decide) ?_
            refine x_goto o 184 dX1_reckon_180 (by decide) ?_
            refine x_sub [3, 4, 5, 6, 0, 7, 2, 1] [(0, .ref (ka k a0)), (2, .int x2), (3, .ref (ka k a3)), (4, .int x4), (5, .int x5_10), (6, .int x6), (7, .int c_5), (8, .int c_8)] rfl ?_
            exact S_X1_reckon_184 o F (fun q1 q2 => ih q1 q2) hf hr
        replace hf := (if_neg q_17).symm.trans hf
        by_cases q_22 : t_11 = 48
        · replace hf := (if_pos q_22).symm.trans hf
          refine x_look (off := 50) o 100 (by decide) (by rw [q_22]; rfl) (by decide) dX1_reckon_50 ?_
          obtain ⟨x4_23, ex4_23, hf⟩ := bd_ex hf
          refine x_iinc o dX1_reckon_100 (by decide) 6 rfl ex4_23.symm [(4, .int x4_23), (5, .int x5_10), (8, .int c_8), (7, .int c_5), (0, .ref (ka k a0)), (2, .int x2), (3, .ref (ka k a3)), (6, .int x6)] rfl ?_
          refine x_aload_n o dX1_reckon_103 4 rfl rfl ?_
          obtain ⟨j_24, ej_24, hf⟩ := ob_ex hf
          refine gRX1_30 o k_3 ej_24 dX1_reckon_104 ?_
          refine x_iload o dX1_reckon_107 0 rfl ?_
          refine x_iload o dX1_reckon_109 2 rfl ?_
          obtain ⟨h_26, eh_26, hf⟩ := ob_ex hf
          refine vRX1_40 [.ref (ka k j_24), .int x4_23, .int c_8] [] o (C_X11_put o.1.2.2.2.2.2.2.1 o.2 F eh_26) (by decide) rfl rfl (Nat.le_of_ble_eq_true rfl) dX1_reckon_111 ?_
          refine x_goto o 272 dX1_reckon_114 (by decide) ?_
          refine x_sub [4, 5, 6, 0, 1, 7] [(0, .ref (ka k a0)), (2, .int x2), (3, .ref (ka k a3)), (4, .int x4_23), (5, .int x5_10), (6, .int x6)] rfl ?_
          exact S_X1_reckon_272 o F (fun q1 q2 => ih q1 q2) hf hr
        replace hf := (if_neg q_22).symm.trans hf
        by_cases q_27 : t_11 = 97
        · replace hf := (if_pos q_27).symm.trans hf
          refine x_look (off := 67) o 117 (by decide) (by rw [q_27]; rfl) (by decide) dX1_reckon_50 ?_
          obtain ⟨x4_28, ex4_28, hf⟩ := bd_ex hf
          refine x_iinc o dX1_reckon_117 (by decide) 6 rfl ex4_28.symm [(4, .int x4_28), (5, .int x5_10), (8, .int c_8), (7, .int c_5), (0, .ref (ka k a0)), (2, .int x2), (3, .ref (ka k a3)), (6, .int x6)] rfl ?_
          refine x_aload_n o dX1_reckon_120 4 rfl rfl ?_
          obtain ⟨j_29, ej_29, hf⟩ := ob_ex hf
          refine gRX1_30 o k_3 ej_29 dX1_reckon_121 ?_
          refine x_iload o dX1_reckon_124 0 rfl ?_
          refine x_aload_n o dX1_reckon_126 6 rfl rfl ?_
          refine x_iload o dX1_reckon_127 2 rfl ?_
          obtain ⟨c_30, ec_30, hf⟩ := ob_ex hf
          refine vRX1_44 [.ref (ka k a3), .int c_8] [.int x4_28, .ref (ka k j_29)] o (C_X11_get o.1.2.2.2.2.2.2.1 o.2 F ec_30) (by decide) rfl rfl (Nat.le_of_ble_eq_true rfl) dX1_reckon_129 ?_
          obtain ⟨h_33, eh_33, hf⟩ := ob_ex hf
          refine vRX1_40 [.ref (ka k j_29), .int x4_28, .int c_30] [] o (C_X11_put o.1.2.2.2.2.2.2.1 o.2 F eh_33) (by decide) rfl rfl (Nat.le_of_ble_eq_true rfl) dX1_reckon_132 ?_
          refine x_goto o 272 dX1_reckon_135 (by decide) ?_
          refine x_sub [4, 5, 6, 0, 1, 7] [(0, .ref (ka k a0)), (2, .int x2), (3, .ref (ka k a3)), (4, .int x4_28), (5, .int x5_10), (6, .int x6)] rfl ?_
          exact S_X1_reckon_272 o F (fun q1 q2 => ih q1 q2) hf hr
        replace hf := (if_neg q_27).symm.trans hf
        by_cases q_34 : t_11 = 124
        · replace hf := (if_pos q_34).symm.trans hf
          refine x_look (off := 117) o 167 (by decide) (by rw [q_34]; rfl) (by decide) dX1_reckon_50 ?_
          refine x_aload_n o dX1_reckon_167 3 rfl rfl ?_
          obtain ⟨j_35, ej_35, hf⟩ := ob_ex hf
          refine gRX1_30 o k_3 ej_35 dX1_reckon_168 ?_
          refine x_iload o dX1_reckon_171 6 rfl ?_
          obtain ⟨c_36, ec_36, hf⟩ := ob_ex hf
          refine vRX1_44 [.ref (ka k j_35), .int x4] [] o (C_X11_get o.1.2.2.2.2.2.2.1 o.2 F ec_36) (by decide) rfl rfl (Nat.le_of_ble_eq_true rfl) dX1_reckon_173 ?_
          refine x_if_eq o 183 dX1_reckon_176 (by decide) (fun q_38 => ?_) (fun q_38 => ?_)
          · replace hf := (if_pos q_38).symm.trans hf
            refine x_iconst (v := 0) o dX1_reckon_183 (by decide) ?_
            refine x_sub [3, 4, 5, 6, 0, 7, 2, 1] [(0, .ref (ka k a0)), (2, .int x2), (3, .ref (ka k a3)), (4, .int x4), (5, .int x5_10), (6, .int x6), (7, .int c_5), (8, .int c_8)] rfl ?_
            exact S_X1_reckon_184 o F (fun q1 q2 => ih q1 q2) hf hr
          · replace hf := (if_neg q_38).symm.trans hf
            refine x_iconst (v := 1) o dX1_reckon_179 (by decide) ?_
            refine x_goto o 184 dX1_reckon_180 (by decide) ?_
            refine x_sub [3, 4, 5, 6, 0, 7, 2, 1] [(0, .ref (ka k a0)), (2, .int x2), (3, .ref (ka k a3)), (4, .int x4), (5, .int x5_10), (6, .int x6), (7, .int c_5), (8, .int c_8)] rfl ?_
            exact S_X1_reckon_184 o F (fun q1 q2 => ih q1 q2) hf hr
        replace hf := (if_neg q_34).symm.trans hf
        refine x_look (off := 162) o 212 (by decide) ((lv_osw q_12 rfl).trans ((lv_osw q_17 rfl).trans ((lv_osw q_22 rfl).trans ((lv_osw q_27 rfl).trans ((lv_osw q_34 rfl).trans rfl))))) (by decide) dX1_reckon_50 ?_
        refine x_aload_n o dX1_reckon_212 3 rfl rfl ?_
        obtain ⟨j_39, ej_39, hf⟩ := ob_ex hf
        refine gRX1_30 o k_3 ej_39 dX1_reckon_213 ?_
        refine x_iload o dX1_reckon_216 6 rfl ?_
        obtain ⟨c_40, ec_40, hf⟩ := ob_ex hf
        refine vRX1_44 [.ref (ka k j_39), .int x4] [] o (C_X11_get o.1.2.2.2.2.2.2.1 o.2 F ec_40) (by decide) rfl rfl (Nat.le_of_ble_eq_true rfl) dX1_reckon_218 ?_
        refine x_istore o dX1_reckon_221 (by decide) [(9, .int c_40), (5, .int x5_10), (8, .int c_8), (7, .int c_5), (0, .ref (ka k a0)), (2, .int x2), (3, .ref (ka k a3)), (4, .int x4), (6, .int x6)] rfl ?_
        refine x_iload o dX1_reckon_223 0 rfl ?_
        refine x_if_ne o 244 dX1_reckon_225 (by decide) (fun q_42 => ?_) (fun q_42 => ?_)
        · replace hf := (if_neg q_42).symm.trans hf
          refine x_sub [4, 5, 6, 7, 1, 8, 3, 0] [(0, .ref (ka k a0)), (2, .int x2), (3, .ref (ka k a3)), (4, .int x4), (5, .int x5_10), (6, .int x6), (7, .int c_5), (9, .int c_40)] rfl ?_
          exact S_X1_reckon_244 o F (fun q1 q2 => ih q1 q2) hf hr
        · replace hf := (if_pos q_42).symm.trans hf
          refine x_iload o dX1_reckon_228 3 rfl ?_
          refine x_bipush (v := 47) o dX1_reckon_230 (by decide) ?_
          refine x_icmp_eq o 242 dX1_reckon_232 (by decide) (fun q_43 => ?_) (fun q_43 => ?_)
          · replace hf := (if_pos q_43).symm.trans hf
            refine x_iconst (v := 0) o dX1_reckon_242 (by decide) ?_
            cases hf
            exact hr _ _ dX1_reckon_243
          · replace hf := (if_neg q_43).symm.trans hf
            refine x_iload o dX1_reckon_235 3 rfl ?_
            refine x_bipush (v := 37) o dX1_reckon_237 (by decide) ?_
            refine x_icmp_ne o 244 dX1_reckon_239 (by decide) (fun q_44 => ?_) (fun q_44 => ?_)
            · replace hf := (if_neg q_44).symm.trans hf
              refine x_sub [4, 5, 6, 7, 1, 8, 3, 0] [(0, .ref (ka k a0)), (2, .int x2), (3, .ref (ka k a3)), (4, .int x4), (5, .int x5_10), (6, .int x6), (7, .int c_5), (9, .int c_40)] rfl ?_
              exact S_X1_reckon_244 o F (fun q1 q2 => ih q1 q2) hf hr
            · replace hf := (if_pos q_44).symm.trans hf
              refine x_iconst (v := 0) o dX1_reckon_242 (by decide) ?_
              cases hf
              exact hr _ _ dX1_reckon_243
set_option maxRecDepth 100000 in
set_option maxHeartbeats 4000000 in
theorem S_X1_reckon_0 {k : Kst} {d : Kdy} (o : Ok k d cX1_reckon RX1 10 4) (F : Nat) {h : Hp} {a0 : Nat} {x1 : Int32} {x2 : Int32} {a3 : Nat} {r : Int32} {h1 : Hp} (hf : X1_reckon F a0 x1 x2 a3 h = some (r, h1)) (hr : RI k d cX1_reckon r h1) : Wz k d h 0 [(0, .ref (ka k a0)), (1, .int x1), (2, .int x2), (3, .ref (ka k a3))] [] := by
  unfold X1_reckon at hf
  refine x_iconst (v := (-1)) o dX1_reckon_0 (by decide) ?_
  refine x_istore o dX1_reckon_1 (by decide) [(4, .int (-1)), (0, .ref (ka k a0)), (1, .int x1), (2, .int x2), (3, .ref (ka k a3))] rfl ?_
  refine x_iload_n o dX1_reckon_3 2 rfl rfl ?_
  refine x_istore o dX1_reckon_4 (by decide) [(5, .int x1), (4, .int (-1)), (0, .ref (ka k a0)), (1, .int x1), (2, .int x2), (3, .ref (ka k a3))] rfl ?_
  refine x_iconst (v := 0) o dX1_reckon_6 (by decide) ?_
  refine x_istore o dX1_reckon_7 (by decide) [(6, .int 0), (5, .int x1), (4, .int (-1)), (0, .ref (ka k a0)), (1, .int x1), (2, .int x2), (3, .ref (ka k a3))] rfl ?_
  refine x_sub [3, 5, 6, 2, 1, 0] [(0, .ref (ka k a0)), (2, .int x2), (3, .ref (ka k a3)), (4, .int (-1)), (5, .int x1), (6, .int 0)] rfl ?_
  exact S_X1_reckon_9 o F _ hf hr
theorem C_X1_reckon {k : Kst} (hj : Dj k) (hn : kn k = kdl.length) (F : Nat) {h : Hp} {a0 : Nat} {x1 : Int32} {x2 : Int32} {a3 : Nat} {r : Int32} {h1 : Hp} (hf : X1_reckon F a0 x1 x2 a3 h = some (r, h1)) : MI k 4 yX1_reckon cX1_reckon 10 (some .int) [.ref (ka k a0), .int x1, .int x2, .ref (ka k a3)] h r h1 := mI hj hn (by decide +kernel) (Nat.le_of_ble_eq_true rfl) (fun d o hr => S_X1_reckon_0 o F hf hr)
set_option maxRecDepth 100000 in
set_option maxHeartbeats 4000000 in
theorem S_X1_someHolds_48 {k : Kst} {d : Kdy} (o : Ok k d cX1_someHolds RX1 4 5) (F : Nat) {k2 : Nat → Int32 → Nat → Int32 → Hp → Option (Int32 × Hp)} (hk2 : ∀ {h : Hp} {a0 : Nat} {x1 : Int32} {a2 : Nat} {x3 : Int32} {r : Int32} {h1 : Hp}, k2 a0 x1 a2 x3 h = some (r, h1) → RZ k d cX1_someHolds r h1 → Wz k d h 2 [(0, .ref (ka k a0)), (1, .int x1), (2, .ref (ka k a2)), (3, .int x3)] []) {h : Hp} {a0 : Nat} {x1 : Int32} {a2 : Nat} {x3 : Int32} {r : Int32} {h1 : Hp} (hf : X1_someHolds_48 F k2 a0 x1 a2 x3 h = some (r, h1)) (hr : RZ k d cX1_someHolds r h1) : Wz k d h 48 [(0, .ref (ka k a0)), (1, .int x1), (2, .ref (ka k a2)), (3, .int x3)] [] := by
  unfold X1_someHolds_48 at hf
  obtain ⟨x3_1, ex3_1, hf⟩ := bd_ex hf
  refine x_iinc o dX1_someHolds_48 (by decide) 3 rfl ex3_1.symm [(3, .int x3_1), (0, .ref (ka k a0)), (1, .int x1), (2, .ref (ka k a2))] rfl ?_
  refine x_goto o 2 dX1_someHolds_51 (by decide) ?_
  refine x_sub [1, 2, 3, 0] [(0, .ref (ka k a0)), (1, .int x1), (2, .ref (ka k a2)), (3, .int x3_1)] rfl ?_
  exact hk2 hf hr
set_option maxRecDepth 100000 in
set_option maxHeartbeats 4000000 in
theorem S_X1_someHolds_2 {k : Kst} {d : Kdy} (o : Ok k d cX1_someHolds RX1 4 5) (F : Nat) : ∀ (f : Nat) {h : Hp} {a0 : Nat} {x1 : Int32} {a2 : Nat} {x3 : Int32} {r : Int32} {h1 : Hp}, X1_someHolds_2 F f a0 x1 a2 x3 h = some (r, h1) → RZ k d cX1_someHolds r h1 → Wz k d h 2 [(0, .ref (ka k a0)), (1, .int x1), (2, .ref (ka k a2)), (3, .int x3)] [] := by
  intro f
  induction f with
  | zero =>
    intro h a0 x1 a2 x3 r h1 hf hr
    exact nomatch (show (none : Option _) = some _ from hf)
  | succ f ih =>
    intro h a0 x1 a2 x3 r h1 hf hr
    rw [X1_someHolds_2] at hf
    refine x_iload_n o dX1_someHolds_2 3 rfl rfl ?_
    refine x_aload_n o dX1_someHolds_3 0 rfl rfl ?_
    obtain ⟨k_1, hf⟩ := gq_ex hf
    refine gRX1_33 o k_1 dX1_someHolds_4 ?_
    refine x_icmp_ge o 54 dX1_someHolds_7 (by decide) (fun q_2 => ?_) (fun q_2 => ?_)
    · replace hf := (if_pos q_2).symm.trans hf
      refine x_iconst (v := 0) o dX1_someHolds_54 (by decide) ?_
      cases hf
      exact hr (Or.inl rfl) _ _ dX1_someHolds_55
    · replace hf := (if_neg q_2).symm.trans hf
      refine x_aload_n o dX1_someHolds_10 0 rfl rfl ?_
      obtain ⟨j_3, ej_3, hf⟩ := ob_ex hf
      refine gRX1_9 o k_1 ej_3 dX1_someHolds_11 ?_
      refine x_iload_n o dX1_someHolds_14 3 rfl rfl ?_
      obtain ⟨c_4, ec_4, hf⟩ := ob_ex hf
      refine vRX1_44 [.ref (ka k j_3), .int x3] [] o (C_X11_get o.1.2.2.2.2.2.2.1 o.2 F ec_4) (by decide) rfl rfl (Nat.le_of_ble_eq_true rfl) dX1_someHolds_15 ?_
      refine x_iload_n o dX1_someHolds_18 1 rfl rfl ?_
      refine x_icmp_ne o 48 dX1_someHolds_19 (by decide) (fun q_6 => ?_) (fun q_6 => ?_)
      · replace hf := (if_neg q_6).symm.trans hf
        refine x_sub [0, 1, 2, 3] [(0, .ref (ka k a0)), (1, .int x1), (2, .ref (ka k a2)), (3, .int x3)] rfl ?_
        exact S_X1_someHolds_48 o F (fun q1 q2 => ih q1 q2) hf hr
      · replace hf := (if_pos q_6).symm.trans hf
        refine x_aload_n o dX1_someHolds_22 0 rfl rfl ?_
        refine x_aload_n o dX1_someHolds_23 0 rfl rfl ?_
        obtain ⟨j_7, ej_7, hf⟩ := ob_ex hf
        refine gRX1_18 o k_1 ej_7 dX1_someHolds_24 ?_
        refine x_iload_n o dX1_someHolds_27 3 rfl rfl ?_
        obtain ⟨c_8, ec_8, hf⟩ := ob_ex hf
        refine vRX1_44 [.ref (ka k j_7), .int x3] [.ref (ka k a0)] o (C_X11_get o.1.2.2.2.2.2.2.1 o.2 F ec_8) (by decide) rfl rfl (Nat.le_of_ble_eq_true rfl) dX1_someHolds_28 ?_
        refine x_aload_n o dX1_someHolds_31 0 rfl rfl ?_
        obtain ⟨j_10, ej_10, hf⟩ := ob_ex hf
        refine gRX1_21 o k_1 ej_10 dX1_someHolds_32 ?_
        refine x_iload_n o dX1_someHolds_35 3 rfl rfl ?_
        obtain ⟨c_11, ec_11, hf⟩ := ob_ex hf
        refine vRX1_44 [.ref (ka k j_10), .int x3] [.int c_8, .ref (ka k a0)] o (C_X11_get o.1.2.2.2.2.2.2.1 o.2 F ec_11) (by decide) rfl rfl (Nat.le_of_ble_eq_true rfl) dX1_someHolds_36 ?_
        refine x_aload_n o dX1_someHolds_39 2 rfl rfl ?_
        obtain ⟨c_13, h_14, ec_13, hf⟩ := bq_ex hf
        refine vRX1_48 [.int c_8, .int c_11, .ref (ka k a2)] [] o (C_X1_reckon o.1.2.2.2.2.2.2.1 o.2 F ec_13) (by decide) k_1 rfl rfl (Nat.le_of_ble_eq_true rfl) dX1_someHolds_40 ?_
        refine x_if_eq o 48 dX1_someHolds_43 (by decide) (fun q_15 => ?_) (fun q_15 => ?_)
        · replace hf := (if_pos q_15).symm.trans hf
          refine x_sub [0, 1, 2, 3] [(0, .ref (ka k a0)), (1, .int x1), (2, .ref (ka k a2)), (3, .int x3)] rfl ?_
          exact S_X1_someHolds_48 o F (fun q1 q2 => ih q1 q2) hf hr
        · replace hf := (if_neg q_15).symm.trans hf
          refine x_iconst (v := 1) o dX1_someHolds_46 (by decide) ?_
          cases hf
          exact hr (Or.inr rfl) _ _ dX1_someHolds_47
set_option maxRecDepth 100000 in
set_option maxHeartbeats 4000000 in
theorem S_X1_someHolds_0 {k : Kst} {d : Kdy} (o : Ok k d cX1_someHolds RX1 4 5) (F : Nat) {h : Hp} {a0 : Nat} {x1 : Int32} {a2 : Nat} {r : Int32} {h1 : Hp} (hf : X1_someHolds F a0 x1 a2 h = some (r, h1)) (hr : RZ k d cX1_someHolds r h1) : Wz k d h 0 [(0, .ref (ka k a0)), (1, .int x1), (2, .ref (ka k a2))] [] := by
  unfold X1_someHolds at hf
  refine x_iconst (v := 0) o dX1_someHolds_0 (by decide) ?_
  refine x_istore_n o dX1_someHolds_1 (by decide) rfl [(3, .int 0), (0, .ref (ka k a0)), (1, .int x1), (2, .ref (ka k a2))] rfl ?_
  refine x_sub [1, 2, 3, 0] [(0, .ref (ka k a0)), (1, .int x1), (2, .ref (ka k a2)), (3, .int 0)] rfl ?_
  exact S_X1_someHolds_2 o F _ hf hr
theorem C_X1_someHolds {k : Kst} (hj : Dj k) (hn : kn k = kdl.length) (F : Nat) {h : Hp} {a0 : Nat} {x1 : Int32} {a2 : Nat} {r : Int32} {h1 : Hp} (hf : X1_someHolds F a0 x1 a2 h = some (r, h1)) : MI k 5 yX1_someHolds cX1_someHolds 4 (some .boolean) [.ref (ka k a0), .int x1, .ref (ka k a2)] h r h1 := mZ hj hn (by decide +kernel) (Nat.le_of_ble_eq_true rfl) (fun d o hr => S_X1_someHolds_0 o F hf hr)
set_option maxRecDepth 100000 in
set_option maxHeartbeats 4000000 in
theorem S_X1_amount_87 {k : Kst} {d : Kdy} (o : Ok k d cX1_amount RX1 6 5) (F : Nat) {k3 : Nat → Int32 → Int32 → Nat → Int32 → Hp → Option (Int32 × Hp)} (hk3 : ∀ {h : Hp} {a0 : Nat} {x1 : Int32} {x2 : Int32} {a3 : Nat} {x4 : Int32} {r : Int32} {h1 : Hp}, k3 a0 x1 x2 a3 x4 h = some (r, h1) → RI k d cX1_amount r h1 → Wz k d h 3 [(0, .ref (ka k a0)), (1, .int x1), (2, .int x2), (3, .ref (ka k a3)), (4, .int x4)] []) {h : Hp} {a0 : Nat} {x1 : Int32} {x2 : Int32} {a3 : Nat} {x4 : Int32} {r : Int32} {h1 : Hp} (hf : X1_amount_87 F k3 a0 x1 x2 a3 x4 h = some (r, h1)) (hr : RI k d cX1_amount r h1) : Wz k d h 87 [(0, .ref (ka k a0)), (1, .int x1), (2, .int x2), (3, .ref (ka k a3)), (4, .int x4)] [] := by
  unfold X1_amount_87 at hf
  obtain ⟨x4_1, ex4_1, hf⟩ := bd_ex hf
  refine x_iinc o dX1_amount_87 (by decide) 4 rfl ex4_1.symm [(4, .int x4_1), (0, .ref (ka k a0)), (1, .int x1), (2, .int x2), (3, .ref (ka k a3))] rfl ?_
  refine x_goto o 3 dX1_amount_90 (by decide) ?_
  refine x_sub [1, 2, 3, 4, 0] [(0, .ref (ka k a0)), (1, .int x1), (2, .int x2), (3, .ref (ka k a3)), (4, .int x4_1)] rfl ?_
  exact hk3 hf hr
set_option maxRecDepth 100000 in
set_option maxHeartbeats 4000000 in
theorem S_X1_amount_3 {k : Kst} {d : Kdy} (o : Ok k d cX1_amount RX1 6 5) (F : Nat) : ∀ (f : Nat) {h : Hp} {a0 : Nat} {x1 : Int32} {x2 : Int32} {a3 : Nat} {x4 : Int32} {r : Int32} {h1 : Hp}, X1_amount_3 F f a0 x1 x2 a3 x4 h = some (r, h1) → RI k d cX1_amount r h1 → Wz k d h 3 [(0, .ref (ka k a0)), (1, .int x1), (2, .int x2), (3, .ref (ka k a3)), (4, .int x4)] [] := by
  intro f
  induction f with
  | zero =>
    intro h a0 x1 x2 a3 x4 r h1 hf hr
    exact nomatch (show (none : Option _) = some _ from hf)
  | succ f ih =>
    intro h a0 x1 x2 a3 x4 r h1 hf hr
    rw [X1_amount_3] at hf
    refine x_iload o dX1_amount_3 4 rfl ?_
    refine x_aload_n o dX1_amount_5 0 rfl rfl ?_
    obtain ⟨k_1, hf⟩ := gq_ex hf
    refine gRX1_33 o k_1 dX1_amount_6 ?_
    refine x_icmp_ge o 93 dX1_amount_9 (by decide) (fun q_2 => ?_) (fun q_2 => ?_)
    · replace hf := (if_pos q_2).symm.trans hf
      refine x_iconst (v := 0) o dX1_amount_93 (by decide) ?_
      cases hf
      exact hr _ _ dX1_amount_94
    · replace hf := (if_neg q_2).symm.trans hf
      refine x_aload_n o dX1_amount_12 0 rfl rfl ?_
      obtain ⟨j_3, ej_3, hf⟩ := ob_ex hf
      refine gRX1_9 o k_1 ej_3 dX1_amount_13 ?_
      refine x_iload o dX1_amount_16 4 rfl ?_
      obtain ⟨c_4, ec_4, hf⟩ := ob_ex hf
      refine vRX1_44 [.ref (ka k j_3), .int x4] [] o (C_X11_get o.1.2.2.2.2.2.2.1 o.2 F ec_4) (by decide) rfl rfl (Nat.le_of_ble_eq_true rfl) dX1_amount_18 ?_
      refine x_iload_n o dX1_amount_21 1 rfl rfl ?_
      refine x_icmp_ne o 87 dX1_amount_22 (by decide) (fun q_6 => ?_) (fun q_6 => ?_)
      · replace hf := (if_neg q_6).symm.trans hf
        refine x_sub [0, 1, 2, 3, 4] [(0, .ref (ka k a0)), (1, .int x1), (2, .int x2), (3, .ref (ka k a3)), (4, .int x4)] rfl ?_
        exact S_X1_amount_87 o F (fun q1 q2 => ih q1 q2) hf hr
      · replace hf := (if_pos q_6).symm.trans hf
        refine x_aload_n o dX1_amount_25 0 rfl rfl ?_
        refine x_aload_n o dX1_amount_26 0 rfl rfl ?_
        obtain ⟨j_7, ej_7, hf⟩ := ob_ex hf
        refine gRX1_18 o k_1 ej_7 dX1_amount_27 ?_
        refine x_iload o dX1_amount_30 4 rfl ?_
        obtain ⟨c_8, ec_8, hf⟩ := ob_ex hf
        refine vRX1_44 [.ref (ka k j_7), .int x4] [.ref (ka k a0)] o (C_X11_get o.1.2.2.2.2.2.2.1 o.2 F ec_8) (by decide) rfl rfl (Nat.le_of_ble_eq_true rfl) dX1_amount_32 ?_
        refine x_aload_n o dX1_amount_35 0 rfl rfl ?_
        obtain ⟨j_10, ej_10, hf⟩ := ob_ex hf
        refine gRX1_21 o k_1 ej_10 dX1_amount_36 ?_
        refine x_iload o dX1_amount_39 4 rfl ?_
        obtain ⟨c_11, ec_11, hf⟩ := ob_ex hf
        refine vRX1_44 [.ref (ka k j_10), .int x4] [.int c_8, .ref (ka k a0)] o (C_X11_get o.1.2.2.2.2.2.2.1 o.2 F ec_11) (by decide) rfl rfl (Nat.le_of_ble_eq_true rfl) dX1_amount_41 ?_
        refine x_aload_n o dX1_amount_44 3 rfl rfl ?_
        obtain ⟨c_13, h_14, ec_13, hf⟩ := bq_ex hf
        refine vRX1_48 [.int c_8, .int c_11, .ref (ka k a3)] [] o (C_X1_reckon o.1.2.2.2.2.2.2.1 o.2 F ec_13) (by decide) k_1 rfl rfl (Nat.le_of_ble_eq_true rfl) dX1_amount_45 ?_
        refine x_if_eq o 87 dX1_amount_48 (by decide) (fun q_15 => ?_) (fun q_15 => ?_)
        · replace hf := (if_pos q_15).symm.trans hf
          refine x_sub [0, 1, 2, 3, 4] [(0, .ref (ka k a0)), (1, .int x1), (2, .int x2), (3, .ref (ka k a3)), (4, .int x4)] rfl ?_
          exact S_X1_amount_87 o F (fun q1 q2 => ih q1 q2) hf hr
        · replace hf := (if_neg q_15).symm.trans hf
          refine x_aload_n o dX1_amount_51 0 rfl rfl ?_
          refine x_aload_n o dX1_amount_52 0 rfl rfl ?_
          obtain ⟨j_16, ej_16, hf⟩ := ob_ex hf
          refine gRX1_15 o k_1 ej_16 dX1_amount_53 ?_
          refine x_iload o dX1_amount_56 4 rfl ?_
          obtain ⟨c_17, ec_17, hf⟩ := ob_ex hf
          refine vRX1_44 [.ref (ka k j_16), .int x4] [.ref (ka k a0)] o (C_X11_get o.1.2.2.2.2.2.2.1 o.2 F ec_17) (by decide) rfl rfl (Nat.le_of_ble_eq_true rfl) dX1_amount_58 ?_
          refine x_aload_n o dX1_amount_61 0 rfl rfl ?_
          obtain ⟨j_19, ej_19, hf⟩ := ob_ex hf
          refine gRX1_18 o k_1 ej_19 dX1_amount_62 ?_
          refine x_iload o dX1_amount_65 4 rfl ?_
          obtain ⟨c_20, ec_20, hf⟩ := ob_ex hf
          refine vRX1_44 [.ref (ka k j_19), .int x4] [.int c_17, .ref (ka k a0)] o (C_X11_get o.1.2.2.2.2.2.2.1 o.2 F ec_20) (by decide) rfl rfl (Nat.le_of_ble_eq_true rfl) dX1_amount_67 ?_
          refine x_aload_n o dX1_amount_70 3 rfl rfl ?_
          obtain ⟨c_22, h_23, ec_22, hf⟩ := bq_ex hf
          refine vRX1_48 [.int c_17, .int c_20, .ref (ka k a3)] [] o (C_X1_reckon o.1.2.2.2.2.2.2.1 o.2 F ec_22) (by decide) k_1 rfl rfl (Nat.le_of_ble_eq_true rfl) dX1_amount_71 ?_
          refine x_istore o dX1_amount_74 (by decide) [(5, .int c_22), (0, .ref (ka k a0)), (1, .int x1), (2, .int x2), (3, .ref (ka k a3)), (4, .int x4)] rfl ?_
          refine x_iconst (v := 0) o dX1_amount_76 (by decide) ?_
          refine x_iload o dX1_amount_77 0 rfl ?_
          refine x_iload_n o dX1_amount_79 3 rfl rfl ?_
          refine x_mmin o wRX1_52 (by decide) (Nat.le_of_ble_eq_true rfl) dX1_amount_80 ?_
          refine x_mmax o wRX1_58 (by decide) (Nat.le_of_ble_eq_true rfl) dX1_amount_83 ?_
          cases hf
          exact hr _ _ dX1_amount_86
set_option maxRecDepth 100000 in
set_option maxHeartbeats 4000000 in
theorem S_X1_amount_0 {k : Kst} {d : Kdy} (o : Ok k d cX1_amount RX1 6 5) (F : Nat) {h : Hp} {a0 : Nat} {x1 : Int32} {x2 : Int32} {a3 : Nat} {r : Int32} {h1 : Hp} (hf : X1_amount F a0 x1 x2 a3 h = some (r, h1)) (hr : RI k d cX1_amount r h1) : Wz k d h 0 [(0, .ref (ka k a0)), (1, .int x1), (2, .int x2), (3, .ref (ka k a3))] [] := by
  unfold X1_amount at hf
  refine x_iconst (v := 0) o dX1_amount_0 (by decide) ?_
  refine x_istore o dX1_amount_1 (by decide) [(4, .int 0), (0, .ref (ka k a0)), (1, .int x1), (2, .int x2), (3, .ref (ka k a3))] rfl ?_
  refine x_sub [1, 2, 3, 4, 0] [(0, .ref (ka k a0)), (1, .int x1), (2, .int x2), (3, .ref (ka k a3)), (4, .int 0)] rfl ?_
  exact S_X1_amount_3 o F _ hf hr
theorem C_X1_amount {k : Kst} (hj : Dj k) (hn : kn k = kdl.length) (F : Nat) {h : Hp} {a0 : Nat} {x1 : Int32} {x2 : Int32} {a3 : Nat} {r : Int32} {h1 : Hp} (hf : X1_amount F a0 x1 x2 a3 h = some (r, h1)) : MI k 5 yX1_amount cX1_amount 6 (some .int) [.ref (ka k a0), .int x1, .int x2, .ref (ka k a3)] h r h1 := mI hj hn (by decide +kernel) (Nat.le_of_ble_eq_true rfl) (fun d o hr => S_X1_amount_0 o F hf hr)
set_option maxRecDepth 100000 in
set_option maxHeartbeats 4000000 in
theorem S_X9_sign_0 {k : Kst} {d : Kdy} (o : Ok k d cX9_sign RX9 1 4) (F : Nat) {h : Hp} {a0 : Nat} {r : Int32} (hf : X9_sign F a0 h = some r) (hr : RI k d cX9_sign r h) : Wz k d h 0 [(0, .ref (ka k a0))] [] := by
  unfold X9_sign at hf
  refine x_aload_n o dX9_sign_0 0 rfl rfl ?_
  refine x_aload_n o dX9_sign_1 0 rfl rfl ?_
  obtain ⟨k_1, hf⟩ := gq_ex hf
  refine gRX9_34 o k_1 dX9_sign_2 ?_
  obtain ⟨c_2, ec_2, hf⟩ := ob_ex hf
  refine vRX9_40 [.int (h.1 a0 2)] [] o (C_X9_at o.1.2.2.2.2.2.2.1 o.2 F ec_2) (by decide) k_1 rfl rfl (Nat.le_of_ble_eq_true rfl) dX9_sign_5 ?_
  cases hf
  exact hr _ _ dX9_sign_8
theorem C_X9_sign {k : Kst} (hj : Dj k) (hn : kn k = kdl.length) (F : Nat) {h : Hp} {a0 : Nat} {r : Int32} (hf : X9_sign F a0 h = some r) : MI k 4 yX9_sign cX9_sign 1 (some .int) [.ref (ka k a0)] h r h := mI hj hn (by decide +kernel) (Nat.le_of_ble_eq_true rfl) (fun d o hr => S_X9_sign_0 o F hf hr)
set_option maxRecDepth 100000 in
set_option maxHeartbeats 4000000 in
theorem S_X9_refuse_0 {k : Kst} {d : Kdy} (o : Ok k d cX9_refuse RX9 3 3) (F : Nat) {h : Hp} {a0 : Nat} {x1 : Int32} {x2 : Int32} {h1 : Hp} (hf : X9_refuse F a0 x1 x2 h = some h1) (hr : RV k d cX9_refuse h1) : Wz k d h 0 [(0, .ref (ka k a0)), (1, .int x1), (2, .int x2)] [] := by
  unfold X9_refuse at hf
  refine x_aload_n o dX9_refuse_0 0 rfl rfl ?_
  obtain ⟨k_1, hf⟩ := gq_ex hf
  refine gRX9_37 o k_1 dX9_refuse_1 ?_
  refine x_if_ne o 18 dX9_refuse_4 (by decide) (fun q_2 => ?_) (fun q_2 => ?_)
  · replace hf := (if_neg q_2).symm.trans hf
    cases hf
    exact hr _ _ dX9_refuse_18
  · replace hf := (if_pos q_2).symm.trans hf
    refine x_aload_n o dX9_refuse_7 0 rfl rfl ?_
    refine x_sipush (v := (-1000)) o dX9_refuse_8 (by decide) ?_
    refine x_iload_n o dX9_refuse_11 1 rfl rfl ?_
    refine x_imul o dX9_refuse_12 ?_
    refine x_iload_n o dX9_refuse_13 2 rfl rfl ?_
    refine x_isub o dX9_refuse_14 ?_
    obtain ⟨h_3, eh_3, hf⟩ := bd_ex hf
    refine pRX9_37 o k_1 eh_3 dX9_refuse_15 ?_
    cases hf
    exact hr _ _ dX9_refuse_18
theorem C_X9_refuse {k : Kst} (hj : Dj k) (hn : kn k = kdl.length) (F : Nat) {h : Hp} {a0 : Nat} {x1 : Int32} {x2 : Int32} {h1 : Hp} (hf : X9_refuse F a0 x1 x2 h = some h1) : MV k 3 yX9_refuse cX9_refuse 3 [.ref (ka k a0), .int x1, .int x2] h h1 := mV hj hn (by decide +kernel) (Nat.le_of_ble_eq_true rfl) (fun d o hr => S_X9_refuse_0 o F hf hr)
set_option maxRecDepth 100000 in
set_option maxHeartbeats 4000000 in
theorem S_X9_sound_0 {k : Kst} {d : Kdy} (o : Ok k d cX9_sound RX9 1 3) (F : Nat) {h : Hp} {a0 : Nat} {r : Int32} (hf : X9_sound F a0 h = some r) (hr : RZ k d cX9_sound r h) : Wz k d h 0 [(0, .ref (ka k a0))] [] := by
  unfold X9_sound at hf
  refine x_aload_n o dX9_sound_0 0 rfl rfl ?_
  obtain ⟨k_1, hf⟩ := gq_ex hf
  refine gRX9_37 o k_1 dX9_sound_1 ?_
  refine x_if_ne o 11 dX9_sound_4 (by decide) (fun q_2 => ?_) (fun q_2 => ?_)
  · replace hf := (if_neg q_2).symm.trans hf
    refine x_iconst (v := 0) o dX9_sound_11 (by decide) ?_
    cases hf
    exact hr (Or.inl rfl) _ _ dX9_sound_12
  · replace hf := (if_pos q_2).symm.trans hf
    refine x_iconst (v := 1) o dX9_sound_7 (by decide) ?_
    refine x_goto o 12 dX9_sound_8 (by decide) ?_
    cases hf
    exact hr (Or.inr rfl) _ _ dX9_sound_12
theorem C_X9_sound {k : Kst} (hj : Dj k) (hn : kn k = kdl.length) (F : Nat) {h : Hp} {a0 : Nat} {r : Int32} (hf : X9_sound F a0 h = some r) : MI k 3 yX9_sound cX9_sound 1 (some .boolean) [.ref (ka k a0)] h r h := mZ hj hn (by decide +kernel) (Nat.le_of_ble_eq_true rfl) (fun d o hr => S_X9_sound_0 o F hf hr)
set_option maxRecDepth 100000 in
set_option maxHeartbeats 4000000 in
theorem S_X2_opens_15 {k : Kst} {d : Kdy} (o : Ok k d cX2_opens RX2 2 4) (F : Nat) {h : Hp} {a0 : Nat} {r : Int32} {h1 : Hp} (hf : X2_opens_15 F a0 h = some (r, h1)) (hr : RZ k d cX2_opens r h1) : Wz k d h 15 [(0, .ref (ka k a0))] [] := by
  unfold X2_opens_15 at hf
  refine x_aload_n o dX2_opens_15 0 rfl rfl ?_
  obtain ⟨k_1, hf⟩ := gq_ex hf
  obtain ⟨c_2, ec_2, hf⟩ := ob_ex hf
  refine vRX2_109 [] [] o (C_X9_sound o.1.2.2.2.2.2.2.1 o.2 F ec_2) (by decide) k_1 rfl rfl (Nat.le_of_ble_eq_true rfl) dX2_opens_16 ?_
  refine x_if_ne o 24 dX2_opens_19 (by decide) (fun q_4 => ?_) (fun q_4 => ?_)
  · replace hf := (if_neg q_4).symm.trans hf
    refine x_aload_n o dX2_opens_24 0 rfl rfl ?_
    refine x_dup o dX2_opens_25 rfl ?_
    refine gRX2_38 o k_1 dX2_opens_26 ?_
    refine x_iconst (v := 1) o dX2_opens_29 (by decide) ?_
    refine x_iadd o dX2_opens_30 ?_
    obtain ⟨h_5, eh_5, hf⟩ := bd_ex hf
    refine pRX2_38 o k_1 eh_5 dX2_opens_31 ?_
    refine x_iconst (v := 1) o dX2_opens_34 (by decide) ?_
    cases hf
    exact hr (Or.inr rfl) _ _ dX2_opens_35
  · replace hf := (if_pos q_4).symm.trans hf
    refine x_iconst (v := 0) o dX2_opens_22 (by decide) ?_
    cases hf
    exact hr (Or.inl rfl) _ _ dX2_opens_23
set_option maxRecDepth 100000 in
set_option maxHeartbeats 4000000 in
theorem S_X2_opens_0 {k : Kst} {d : Kdy} (o : Ok k d cX2_opens RX2 2 4) (F : Nat) {h : Hp} {a0 : Nat} {x1 : Int32} {r : Int32} {h1 : Hp} (hf : X2_opens F a0 x1 h = some (r, h1)) (hr : RZ k d cX2_opens r h1) : Wz k d h 0 [(0, .ref (ka k a0)), (1, .int x1)] [] := by
  unfold X2_opens at hf
  refine x_iload_n o dX2_opens_0 1 rfl rfl ?_
  refine x_bipush (v := 6) o dX2_opens_1 (by decide) ?_
  refine x_icmp_lt o 15 dX2_opens_3 (by decide) (fun q_1 => ?_) (fun q_1 => ?_)
  · replace hf := (if_pos q_1).symm.trans hf
    refine x_sub [0] [(0, .ref (ka k a0))] rfl ?_
    exact S_X2_opens_15 o F hf hr
  · replace hf := (if_neg q_1).symm.trans hf
    refine x_aload_n o dX2_opens_6 0 rfl rfl ?_
    refine x_iconst (v := 5) o dX2_opens_7 (by decide) ?_
    refine x_aload_n o dX2_opens_8 0 rfl rfl ?_
    obtain ⟨k_2, hf⟩ := gq_ex hf
    refine gRX2_38 o k_2 dX2_opens_9 ?_
    obtain ⟨h_4, eh_4, hf⟩ := ob_ex hf
    refine vRX2_42 [.int 5, .int (h.1 a0 2)] [] o (C_X9_refuse o.1.2.2.2.2.2.2.1 o.2 F eh_4) (by decide) k_2 rfl rfl (Nat.le_of_ble_eq_true rfl) dX2_opens_12 ?_
    refine x_sub [0] [(0, .ref (ka k a0))] rfl ?_
    exact S_X2_opens_15 o F hf hr
theorem C_X2_opens {k : Kst} (hj : Dj k) (hn : kn k = kdl.length) (F : Nat) {h : Hp} {a0 : Nat} {x1 : Int32} {r : Int32} {h1 : Hp} (hf : X2_opens F a0 x1 h = some (r, h1)) : MI k 4 yX2_opens cX2_opens 2 (some .boolean) [.ref (ka k a0), .int x1] h r h1 := mZ hj hn (by decide +kernel) (Nat.le_of_ble_eq_true rfl) (fun d o hr => S_X2_opens_0 o F hf hr)
set_option maxRecDepth 100000 in
set_option maxHeartbeats 4000000 in
theorem S_X9_pass_28 {k : Kst} {d : Kdy} (o : Ok k d cX9_pass RX9 2 5) (F : Nat) {h : Hp} {a0 : Nat} {h1 : Hp} (hf : X9_pass_28 F a0 h = some h1) (hr : RV k d cX9_pass h1) : Wz k d h 28 [(0, .ref (ka k a0))] [] := by
  unfold X9_pass_28 at hf
  refine x_aload_n o dX9_pass_28 0 rfl rfl ?_
  refine x_iconst (v := 1) o dX9_pass_29 (by decide) ?_
  refine x_aload_n o dX9_pass_30 0 rfl rfl ?_
  obtain ⟨k_1, hf⟩ := gq_ex hf
  refine gRX9_34 o k_1 dX9_pass_31 ?_
  obtain ⟨h_3, eh_3, hf⟩ := ob_ex hf
  refine vRX9_52 [.int 1, .int (h.1 a0 2)] [] o (C_X9_refuse o.1.2.2.2.2.2.2.1 o.2 F eh_3) (by decide) k_1 rfl rfl (Nat.le_of_ble_eq_true rfl) dX9_pass_34 ?_
  cases hf
  exact hr _ _ dX9_pass_37
set_option maxRecDepth 100000 in
set_option maxHeartbeats 4000000 in
theorem S_X9_pass_0 {k : Kst} {d : Kdy} (o : Ok k d cX9_pass RX9 2 5) (F : Nat) {h : Hp} {a0 : Nat} {x1 : Int32} {h1 : Hp} (hf : X9_pass F a0 x1 h = some h1) (hr : RV k d cX9_pass h1) : Wz k d h 0 [(0, .ref (ka k a0)), (1, .int x1)] [] := by
  unfold X9_pass at hf
  refine x_aload_n o dX9_pass_0 0 rfl rfl ?_
  obtain ⟨k_1, hf⟩ := gq_ex hf
  obtain ⟨c_2, ec_2, hf⟩ := ob_ex hf
  refine vRX9_44 [] [] o (C_X9_sound o.1.2.2.2.2.2.2.1 o.2 F ec_2) (by decide) k_1 rfl rfl (Nat.le_of_ble_eq_true rfl) dX9_pass_1 ?_
  refine x_if_eq o 28 dX9_pass_4 (by decide) (fun q_4 => ?_) (fun q_4 => ?_)
  · replace hf := (if_pos q_4).symm.trans hf
    refine x_sub [0] [(0, .ref (ka k a0))] rfl ?_
    exact S_X9_pass_28 o F hf hr
  · replace hf := (if_neg q_4).symm.trans hf
    refine x_aload_n o dX9_pass_7 0 rfl rfl ?_
    obtain ⟨c_5, ec_5, hf⟩ := ob_ex hf
    refine vRX9_48 [] [] o (C_X9_sign o.1.2.2.2.2.2.2.1 o.2 F ec_5) (by decide) k_1 rfl rfl (Nat.le_of_ble_eq_true rfl) dX9_pass_8 ?_
    refine x_iload_n o dX9_pass_11 1 rfl rfl ?_
    refine x_icmp_ne o 28 dX9_pass_12 (by decide) (fun q_7 => ?_) (fun q_7 => ?_)
    · replace hf := (if_neg q_7).symm.trans hf
      refine x_sub [0] [(0, .ref (ka k a0))] rfl ?_
      exact S_X9_pass_28 o F hf hr
    · replace hf := (if_pos q_7).symm.trans hf
      refine x_aload_n o dX9_pass_15 0 rfl rfl ?_
      refine x_dup o dX9_pass_16 rfl ?_
      refine gRX9_34 o k_1 dX9_pass_17 ?_
      refine x_iconst (v := 1) o dX9_pass_20 (by decide) ?_
      refine x_iadd o dX9_pass_21 ?_
      obtain ⟨h_8, eh_8, hf⟩ := bd_ex hf
      refine pRX9_34 o k_1 eh_8 dX9_pass_22 ?_
      refine x_goto o 37 dX9_pass_25 (by decide) ?_
      cases hf
      exact hr _ _ dX9_pass_37
theorem C_X9_pass {k : Kst} (hj : Dj k) (hn : kn k = kdl.length) (F : Nat) {h : Hp} {a0 : Nat} {x1 : Int32} {h1 : Hp} (hf : X9_pass F a0 x1 h = some h1) : MV k 5 yX9_pass cX9_pass 2 [.ref (ka k a0), .int x1] h h1 := mV hj hn (by decide +kernel) (Nat.le_of_ble_eq_true rfl) (fun d o hr => S_X9_pass_0 o F hf hr)
set_option maxRecDepth 100000 in
set_option maxHeartbeats 4000000 in
theorem S_X9_digit_0 {k : Kst} {d : Kdy} (o : Ok k d cX9_digit RX9 2 4) (F : Nat) {h : Hp} {a0 : Nat} {r : Int32} (hf : X9_digit F a0 h = some r) (hr : RZ k d cX9_digit r h) : Wz k d h 0 [(0, .ref (ka k a0))] [] := by
  unfold X9_digit at hf
  refine x_aload_n o dX9_digit_0 0 rfl rfl ?_
  refine x_aload_n o dX9_digit_1 0 rfl rfl ?_
  obtain ⟨k_1, hf⟩ := gq_ex hf
  refine gRX9_34 o k_1 dX9_digit_2 ?_
  obtain ⟨c_2, ec_2, hf⟩ := ob_ex hf
  refine vRX9_40 [.int (h.1 a0 2)] [] o (C_X9_at o.1.2.2.2.2.2.2.1 o.2 F ec_2) (by decide) k_1 rfl rfl (Nat.le_of_ble_eq_true rfl) dX9_digit_5 ?_
  refine x_istore_n o dX9_digit_8 (by decide) rfl [(1, .int c_2), (0, .ref (ka k a0))] rfl ?_
  refine x_iload_n o dX9_digit_9 0 rfl rfl ?_
  refine x_bipush (v := 48) o dX9_digit_10 (by decide) ?_
  refine x_icmp_lt o 25 dX9_digit_12 (by decide) (fun q_4 => ?_) (fun q_4 => ?_)
  · replace hf := (if_pos q_4).symm.trans hf
    refine x_iconst (v := 0) o dX9_digit_25 (by decide) ?_
    cases hf
    exact hr (Or.inl rfl) _ _ dX9_digit_26
  · replace hf := (if_neg q_4).symm.trans hf
    refine x_iload_n o dX9_digit_15 0 rfl rfl ?_
    refine x_bipush (v := 57) o dX9_digit_16 (by decide) ?_
    refine x_icmp_gt o 25 dX9_digit_18 (by decide) (fun q_5 => ?_) (fun q_5 => ?_)
    · replace hf := (if_pos q_5).symm.trans hf
      refine x_iconst (v := 0) o dX9_digit_25 (by decide) ?_
      cases hf
      exact hr (Or.inl rfl) _ _ dX9_digit_26
    · replace hf := (if_neg q_5).symm.trans hf
      refine x_iconst (v := 1) o dX9_digit_21 (by decide) ?_
      refine x_goto o 26 dX9_digit_22 (by decide) ?_
      cases hf
      exact hr (Or.inr rfl) _ _ dX9_digit_26
theorem C_X9_digit {k : Kst} (hj : Dj k) (hn : kn k = kdl.length) (F : Nat) {h : Hp} {a0 : Nat} {r : Int32} (hf : X9_digit F a0 h = some r) : MI k 4 yX9_digit cX9_digit 2 (some .boolean) [.ref (ka k a0)] h r h := mZ hj hn (by decide +kernel) (Nat.le_of_ble_eq_true rfl) (fun d o hr => S_X9_digit_0 o F hf hr)
set_option maxRecDepth 100000 in
set_option maxHeartbeats 4000000 in
theorem S_X9_readNumber_67 {k : Kst} {d : Kdy} (o : Ok k d cX9_readNumber RX9 4 5) (F : Nat) {h : Hp} {a0 : Nat} {x2 : Int32} {r : Int32} {h1 : Hp} (hf : X9_readNumber_67 F a0 x2 h = some (r, h1)) (hr : RI k d cX9_readNumber r h1) : Wz k d h 67 [(0, .ref (ka k a0)), (2, .int x2)] [] := by
  unfold X9_readNumber_67 at hf
  refine x_aload_n o dX9_readNumber_67 0 rfl rfl ?_
  obtain ⟨k_1, hf⟩ := gq_ex hf
  obtain ⟨c_2, ec_2, hf⟩ := ob_ex hf
  refine vRX9_60 [] [] o (C_X9_digit o.1.2.2.2.2.2.2.1 o.2 F ec_2) (by decide) k_1 rfl rfl (Nat.le_of_ble_eq_true rfl) dX9_readNumber_68 ?_
  refine x_if_eq o 83 dX9_readNumber_71 (by decide) (fun q_4 => ?_) (fun q_4 => ?_)
  · replace hf := (if_pos q_4).symm.trans hf
    refine x_iload_n o dX9_readNumber_83 1 rfl rfl ?_
    cases hf
    exact hr _ _ dX9_readNumber_84
  · replace hf := (if_neg q_4).symm.trans hf
    refine x_aload_n o dX9_readNumber_74 0 rfl rfl ?_
    refine x_iconst (v := 2) o dX9_readNumber_75 (by decide) ?_
    refine x_aload_n o dX9_readNumber_76 0 rfl rfl ?_
    refine gRX9_34 o k_1 dX9_readNumber_77 ?_
    obtain ⟨h_6, eh_6, hf⟩ := ob_ex hf
    refine vRX9_52 [.int 2, .int (h.1 a0 2)] [] o (C_X9_refuse o.1.2.2.2.2.2.2.1 o.2 F eh_6) (by decide) k_1 rfl rfl (Nat.le_of_ble_eq_true rfl) dX9_readNumber_80 ?_
    refine x_iload_n o dX9_readNumber_83 1 rfl rfl ?_
    cases hf
    exact hr _ _ dX9_readNumber_84
set_option maxRecDepth 100000 in
set_option maxHeartbeats 4000000 in
theorem S_X9_readNumber_22 {k : Kst} {d : Kdy} (o : Ok k d cX9_readNumber RX9 4 5) (F : Nat) : ∀ (f : Nat) {h : Hp} {a0 : Nat} {x1 : Int32} {x2 : Int32} {x3 : Int32} {r : Int32} {h1 : Hp}, X9_readNumber_22 F f a0 x1 x2 x3 h = some (r, h1) → RI k d cX9_readNumber r h1 → Wz k d h 22 [(0, .ref (ka k a0)), (1, .int x1), (2, .int x2), (3, .int x3)] [] := by
  intro f
  induction f with
  | zero =>
    intro h a0 x1 x2 x3 r h1 hf hr
    exact nomatch (show (none : Option _) = some _ from hf)
  | succ f ih =>
    intro h a0 x1 x2 x3 r h1 hf hr
    rw [X9_readNumber_22] at hf
    refine x_iload_n o dX9_readNumber_22 3 rfl rfl ?_
    refine x_iload_n o dX9_readNumber_23 1 rfl rfl ?_
    refine x_icmp_ge o 67 dX9_readNumber_24 (by decide) (fun q_1 => ?_) (fun q_1 => ?_)
    · replace hf := (if_pos q_1).symm.trans hf
      refine x_sub [0, 2] [(0, .ref (ka k a0)), (2, .int x2)] rfl ?_
      exact S_X9_readNumber_67 o F hf hr
    · replace hf := (if_neg q_1).symm.trans hf
      refine x_aload_n o dX9_readNumber_27 0 rfl rfl ?_
      obtain ⟨k_2, hf⟩ := gq_ex hf
      obtain ⟨c_3, ec_3, hf⟩ := ob_ex hf
      refine vRX9_60 [] [] o (C_X9_digit o.1.2.2.2.2.2.2.1 o.2 F ec_3) (by decide) k_2 rfl rfl (Nat.le_of_ble_eq_true rfl) dX9_readNumber_28 ?_
      refine x_if_eq o 67 dX9_readNumber_31 (by decide) (fun q_5 => ?_) (fun q_5 => ?_)
      · replace hf := (if_pos q_5).symm.trans hf
        refine x_sub [0, 2] [(0, .ref (ka k a0)), (2, .int x2)] rfl ?_
        exact S_X9_readNumber_67 o F hf hr
      · replace hf := (if_neg q_5).symm.trans hf
        refine x_iload_n o dX9_readNumber_34 2 rfl rfl ?_
        refine x_bipush (v := 10) o dX9_readNumber_35 (by decide) ?_
        refine x_imul o dX9_readNumber_37 ?_
        refine x_aload_n o dX9_readNumber_38 0 rfl rfl ?_
        refine x_aload_n o dX9_readNumber_39 0 rfl rfl ?_
        refine gRX9_34 o k_2 dX9_readNumber_40 ?_
        obtain ⟨c_6, ec_6, hf⟩ := ob_ex hf
        refine vRX9_40 [.int (h.1 a0 2)] [.int (x2 * 10)] o (C_X9_at o.1.2.2.2.2.2.2.1 o.2 F ec_6) (by decide) k_2 rfl rfl (Nat.le_of_ble_eq_true rfl) dX9_readNumber_43 ?_
        refine x_iadd o dX9_readNumber_46 ?_
        refine x_bipush (v := 48) o dX9_readNumber_47 (by decide) ?_
        refine x_isub o dX9_readNumber_49 ?_
        obtain ⟨x2_8, ex2_8, hf⟩ := bd_ex hf
        refine x_top ex2_8 ?_
        refine x_istore_n o dX9_readNumber_50 (by decide) rfl [(2, .int x2_8), (0, .ref (ka k a0)), (1, .int x1), (3, .int x3)] rfl ?_
        refine x_aload_n o dX9_readNumber_51 1 rfl rfl ?_
        refine x_dup o dX9_readNumber_52 rfl ?_
        refine gRX9_34 o k_2 dX9_readNumber_53 ?_
        refine x_iconst (v := 1) o dX9_readNumber_56 (by decide) ?_
        refine x_iadd o dX9_readNumber_57 ?_
        obtain ⟨h_9, eh_9, hf⟩ := bd_ex hf
        refine pRX9_34 o k_2 eh_9 dX9_readNumber_58 ?_
        obtain ⟨x3_10, ex3_10, hf⟩ := bd_ex hf
        refine x_iinc o dX9_readNumber_61 (by decide) 3 rfl ex3_10.symm [(3, .int x3_10), (2, .int x2_8), (0, .ref (ka k a0)), (1, .int x1)] rfl ?_
        refine x_goto o 22 dX9_readNumber_64 (by decide) ?_
        refine x_sub [2, 3, 1, 0] [(0, .ref (ka k a0)), (1, .int x1), (2, .int x2_8), (3, .int x3_10)] rfl ?_
        exact ih hf hr
set_option maxRecDepth 100000 in
set_option maxHeartbeats 4000000 in
theorem S_X9_readNumber_0 {k : Kst} {d : Kdy} (o : Ok k d cX9_readNumber RX9 4 5) (F : Nat) {h : Hp} {a0 : Nat} {x1 : Int32} {r : Int32} {h1 : Hp} (hf : X9_readNumber F a0 x1 h = some (r, h1)) (hr : RI k d cX9_readNumber r h1) : Wz k d h 0 [(0, .ref (ka k a0)), (1, .int x1)] [] := by
  unfold X9_readNumber at hf
  refine x_aload_n o dX9_readNumber_0 0 rfl rfl ?_
  obtain ⟨k_1, hf⟩ := gq_ex hf
  obtain ⟨c_2, ec_2, hf⟩ := ob_ex hf
  refine vRX9_60 [] [] o (C_X9_digit o.1.2.2.2.2.2.2.1 o.2 F ec_2) (by decide) k_1 rfl rfl (Nat.le_of_ble_eq_true rfl) dX9_readNumber_1 ?_
  refine x_if_ne o 18 dX9_readNumber_4 (by decide) (fun q_4 => ?_) (fun q_4 => ?_)
  · replace hf := (if_neg q_4).symm.trans hf
    refine x_iconst (v := 0) o dX9_readNumber_18 (by decide) ?_
    refine x_istore_n o dX9_readNumber_19 (by decide) rfl [(2, .int 0), (0, .ref (ka k a0)), (1, .int x1)] rfl ?_
    refine x_iconst (v := 0) o dX9_readNumber_20 (by decide) ?_
    refine x_istore_n o dX9_readNumber_21 (by decide) rfl [(3, .int 0), (2, .int 0), (0, .ref (ka k a0)), (1, .int x1)] rfl ?_
    refine x_sub [2, 3, 1, 0] [(0, .ref (ka k a0)), (1, .int x1), (2, .int 0), (3, .int 0)] rfl ?_
    exact S_X9_readNumber_22 o F _ hf hr
  · replace hf := (if_pos q_4).symm.trans hf
    refine x_aload_n o dX9_readNumber_7 0 rfl rfl ?_
    refine x_iconst (v := 1) o dX9_readNumber_8 (by decide) ?_
    refine x_aload_n o dX9_readNumber_9 0 rfl rfl ?_
    refine gRX9_34 o k_1 dX9_readNumber_10 ?_
    obtain ⟨h_6, eh_6, hf⟩ := ob_ex hf
    refine vRX9_52 [.int 1, .int (h.1 a0 2)] [] o (C_X9_refuse o.1.2.2.2.2.2.2.1 o.2 F eh_6) (by decide) k_1 rfl rfl (Nat.le_of_ble_eq_true rfl) dX9_readNumber_13 ?_
    refine x_iconst (v := 0) o dX9_readNumber_16 (by decide) ?_
    cases hf
    exact hr _ _ dX9_readNumber_17
theorem C_X9_readNumber {k : Kst} (hj : Dj k) (hn : kn k = kdl.length) (F : Nat) {h : Hp} {a0 : Nat} {x1 : Int32} {r : Int32} {h1 : Hp} (hf : X9_readNumber F a0 x1 h = some (r, h1)) : MI k 5 yX9_readNumber cX9_readNumber 4 (some .int) [.ref (ka k a0), .int x1] h r h1 := mI hj hn (by decide +kernel) (Nat.le_of_ble_eq_true rfl) (fun d o hr => S_X9_readNumber_0 o F hf hr)
