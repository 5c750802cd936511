theorem wRL_13 : Cond.methodLink RL 13 yX11_tilt ∈ xtb := xtb_m 441 (by decide +kernel) rfl
theorem wc_X11_tilt : Cond.code yX11_tilt cX11_tilt 2 (some .boolean) ∈ xtb := xtb_m 444 (by decide +kernel) rfl
theorem wm_X11_tilt : Cond.instanceMethod yX11_tilt ∈ xtb := xtb_m 442 (by decide +kernel) rfl
theorem ws_X11_tilt : Cond.selects RX11 yX11_tilt yX11_tilt ∈ xtb := xtb_m 443 (by decide +kernel) rfl
theorem vRL_13 {k : Kst} {d : Kdy} {cc : ByteArray} {nL lev lv : Nat} {h h1 : Hp} {pc : Nat} {ls : List (Nat × Value)} {st0 : List Value} {i : Nat} {r : Int32} (As st : List Value) (o : Ok k d cc RL nL lev) (hM : MI k lv yX11_tilt cX11_tilt 2 (some .boolean) (.ref (ka k i) :: As) h r h1) (hlv : lv + 1 ≤ lev) (hi : kd i = (0, 10)) (hst : st0 = As.reverse ++ .ref (ka k i) :: st) (hn : As.length = 1) (hr : (st.map fun v => v.category).sum ≤ 8) (hdg : decode cc pc = .ok (.invokevirtual 13, 3)) (kk : Wz k d h1 (pc + 3) ls (.int r :: st)) : Wz k d h pc ls st0 := x_callVI (C := RX11) (T := TX11) (N := 12) (n := 1) o As st hM hlv (by decide) hi rfl wRL_13 wm_X11_tilt ws_X11_tilt wn_RX11 wc_X11_tilt (by decide +kernel) hst hn hr hdg kk
theorem wRL_17 : Cond.methodLink RL 17 yX12_tilt ∈ xtb := xtb_m 1232 (by decide +kernel) rfl
theorem wc_X12_tilt : Cond.code yX12_tilt cX12_tilt 2 (some .boolean) ∈ xtb := xtb_m 1235 (by decide +kernel) rfl
theorem wm_X12_tilt : Cond.instanceMethod yX12_tilt ∈ xtb := xtb_m 1233 (by decide +kernel) rfl
theorem ws_X12_tilt : Cond.selects RX12 yX12_tilt yX12_tilt ∈ xtb := xtb_m 1234 (by decide +kernel) rfl
theorem vRL_17 {k : Kst} {d : Kdy} {cc : ByteArray} {nL lev lv : Nat} {h h1 : Hp} {pc : Nat} {ls : List (Nat × Value)} {st0 : List Value} {i : Nat} {r : Int32} (As st : List Value) (o : Ok k d cc RL nL lev) (hM : MI k lv yX12_tilt cX12_tilt 2 (some .boolean) (.ref (ka k i) :: As) h r h1) (hlv : lv + 1 ≤ lev) (hi : kd i = (0, 11)) (hst : st0 = As.reverse ++ .ref (ka k i) :: st) (hn : As.length = 1) (hr : (st.map fun v => v.category).sum ≤ 8) (hdg : decode cc pc = .ok (.invokevirtual 17, 3)) (kk : Wz k d h1 (pc + 3) ls (.int r :: st)) : Wz k d h pc ls st0 := x_callVI (C := RX12) (T := TX12) (N := 51) (n := 1) o As st hM hlv (by decide) hi rfl wRL_17 wm_X12_tilt ws_X12_tilt wn_RX12 wc_X12_tilt (by decide +kernel) hst hn hr hdg kk
theorem wRL_18 : Cond.methodLink RL 18 yX11_feed ∈ xtb := xtb_m 449 (by decide +kernel) rfl
theorem wc_X11_feed : Cond.code yX11_feed cX11_feed 6 (some .int) ∈ xtb := xtb_m 452 (by decide +kernel) rfl
theorem wm_X11_feed : Cond.instanceMethod yX11_feed ∈ xtb := xtb_m 450 (by decide +kernel) rfl
theorem ws_X11_feed : Cond.selects RX11 yX11_feed yX11_feed ∈ xtb := xtb_m 451 (by decide +kernel) rfl
theorem vRL_18 {k : Kst} {d : Kdy} {cc : ByteArray} {nL lev lv : Nat} {h h1 : Hp} {pc : Nat} {ls : List (Nat × Value)} {st0 : List Value} {i : Nat} {r : Int32} (As st : List Value) (o : Ok k d cc RL nL lev) (hM : MI k lv yX11_feed cX11_feed 6 (some .int) (.ref (ka k i) :: As) h r h1) (hlv : lv + 1 ≤ lev) (hi : kd i = (0, 10)) (hst : st0 = As.reverse ++ .ref (ka k i) :: st) (hn : As.length = 5) (hr : (st.map fun v => v.category).sum ≤ 8) (hdg : decode cc pc = .ok (.invokevirtual 18, 3)) (kk : Wz k d h1 (pc + 3) ls (.int r :: st)) : Wz k d h pc ls st0 := x_callVI (C := RX11) (T := TX11) (N := 12) (n := 5) o As st hM hlv (by decide) hi rfl wRL_18 wm_X11_feed ws_X11_feed wn_RX11 wc_X11_feed (by decide +kernel) hst hn hr hdg kk
theorem wRL_22 : Cond.methodLink RL 22 yX12_feed ∈ xtb := xtb_m 1239 (by decide +kernel) rfl
theorem wc_X12_feed : Cond.code yX12_feed cX12_feed 6 (some .int) ∈ xtb := xtb_m 1242 (by decide +kernel) rfl
theorem wm_X12_feed : Cond.instanceMethod yX12_feed ∈ xtb := xtb_m 1240 (by decide +kernel) rfl
theorem ws_X12_feed : Cond.selects RX12 yX12_feed yX12_feed ∈ xtb := xtb_m 1241 (by decide +kernel) rfl
theorem vRL_22 {k : Kst} {d : Kdy} {cc : ByteArray} {nL lev lv : Nat} {h h1 : Hp} {pc : Nat} {ls : List (Nat × Value)} {st0 : List Value} {i : Nat} {r : Int32} (As st : List Value) (o : Ok k d cc RL nL lev) (hM : MI k lv yX12_feed cX12_feed 6 (some .int) (.ref (ka k i) :: As) h r h1) (hlv : lv + 1 ≤ lev) (hi : kd i = (0, 11)) (hst : st0 = As.reverse ++ .ref (ka k i) :: st) (hn : As.length = 5) (hr : (st.map fun v => v.category).sum ≤ 8) (hdg : decode cc pc = .ok (.invokevirtual 22, 3)) (kk : Wz k d h1 (pc + 3) ls (.int r :: st)) : Wz k d h pc ls st0 := x_callVI (C := RX12) (T := TX12) (N := 51) (n := 5) o As st hM hlv (by decide) hi rfl wRL_22 wm_X12_feed ws_X12_feed wn_RX12 wc_X12_feed (by decide +kernel) hst hn hr hdg kk
theorem wRL_23 : Cond.methodLink RL 23 yX11_law ∈ xtb := xtb_m 460 (by decide +kernel) rfl
theorem wc_X11_law : Cond.code yX11_law cX11_law 2 (some .int) ∈ xtb := xtb_m 463 (by decide +kernel) rfl
theorem wm_X11_law : Cond.instanceMethod yX11_law ∈ xtb := xtb_m 461 (by decide +kernel) rfl
theorem ws_X11_law : Cond.selects RX11 yX11_law yX11_law ∈ xtb := xtb_m 462 (by decide +kernel) rfl
theorem vRL_23 {k : Kst} {d : Kdy} {cc : ByteArray} {nL lev lv : Nat} {h h1 : Hp} {pc : Nat} {ls : List (Nat × Value)} {st0 : List Value} {i : Nat} {r : Int32} (As st : List Value) (o : Ok k d cc RL nL lev) (hM : MI k lv yX11_law cX11_law 2 (some .int) (.ref (ka k i) :: As) h r h1) (hlv : lv + 1 ≤ lev) (hi : kd i = (0, 10)) (hst : st0 = As.reverse ++ .ref (ka k i) :: st) (hn : As.length = 1) (hr : (st.map fun v => v.category).sum ≤ 8) (hdg : decode cc pc = .ok (.invokevirtual 23, 3)) (kk : Wz k d h1 (pc + 3) ls (.int r :: st)) : Wz k d h pc ls st0 := x_callVI (C := RX11) (T := TX11) (N := 12) (n := 1) o As st hM hlv (by decide) hi rfl wRL_23 wm_X11_law ws_X11_law wn_RX11 wc_X11_law (by decide +kernel) hst hn hr hdg kk
theorem wRL_27 : Cond.methodLink RL 27 yX12_law ∈ xtb := xtb_m 1247 (by decide +kernel) rfl
theorem wc_X12_law : Cond.code yX12_law cX12_law 4 (some .int) ∈ xtb := xtb_m 1250 (by decide +kernel) rfl
theorem wm_X12_law : Cond.instanceMethod yX12_law ∈ xtb := xtb_m 1248 (by decide +kernel) rfl
theorem ws_X12_law : Cond.selects RX12 yX12_law yX12_law ∈ xtb := xtb_m 1249 (by decide +kernel) rfl
theorem vRL_27 {k : Kst} {d : Kdy} {cc : ByteArray} {nL lev lv : Nat} {h h1 : Hp} {pc : Nat} {ls : List (Nat × Value)} {st0 : List Value} {i : Nat} {r : Int32} (As st : List Value) (o : Ok k d cc RL nL lev) (hM : MI k lv yX12_law cX12_law 4 (some .int) (.ref (ka k i) :: As) h r h1) (hlv : lv + 1 ≤ lev) (hi : kd i = (0, 11)) (hst : st0 = As.reverse ++ .ref (ka k i) :: st) (hn : As.length = 1) (hr : (st.map fun v => v.category).sum ≤ 8) (hdg : decode cc pc = .ok (.invokevirtual 27, 3)) (kk : Wz k d h1 (pc + 3) ls (.int r :: st)) : Wz k d h pc ls st0 := x_callVI (C := RX12) (T := TX12) (N := 51) (n := 1) o As st hM hlv (by decide) hi rfl wRL_27 wm_X12_law ws_X12_law wn_RX12 wc_X12_law (by decide +kernel) hst hn hr hdg kk
theorem wRL_28 : Cond.methodLink RL 28 yX11_plan ∈ xtb := xtb_m 594 (by decide +kernel) rfl
theorem wc_X11_plan : Cond.code yX11_plan cX11_plan 3 (some .int) ∈ xtb := xtb_m 597 (by decide +kernel) rfl
theorem wm_X11_plan : Cond.instanceMethod yX11_plan ∈ xtb := xtb_m 595 (by decide +kernel) rfl
theorem ws_X11_plan : Cond.selects RX11 yX11_plan yX11_plan ∈ xtb := xtb_m 596 (by decide +kernel) rfl
theorem vRL_28 {k : Kst} {d : Kdy} {cc : ByteArray} {nL lev lv : Nat} {h h1 : Hp} {pc : Nat} {ls : List (Nat × Value)} {st0 : List Value} {i : Nat} {r : Int32} (As st : List Value) (o : Ok k d cc RL nL lev) (hM : MI k lv yX11_plan cX11_plan 3 (some .int) (.ref (ka k i) :: As) h r h1) (hlv : lv + 1 ≤ lev) (hi : kd i = (0, 10)) (hst : st0 = As.reverse ++ .ref (ka k i) :: st) (hn : As.length = 2) (hr : (st.map fun v => v.category).sum ≤ 8) (hdg : decode cc pc = .ok (.invokevirtual 28, 3)) (kk : Wz k d h1 (pc + 3) ls (.int r :: st)) : Wz k d h pc ls st0 := x_callVI (C := RX11) (T := TX11) (N := 12) (n := 2) o As st hM hlv (by decide) hi rfl wRL_28 wm_X11_plan ws_X11_plan wn_RX11 wc_X11_plan (by decide +kernel) hst hn hr hdg kk
theorem wRL_32 : Cond.methodLink RL 32 yX12_plan ∈ xtb := xtb_m 1334 (by decide +kernel) rfl
theorem wc_X12_plan : Cond.code yX12_plan cX12_plan 5 (some .int) ∈ xtb := xtb_m 1337 (by decide +kernel) rfl
theorem wm_X12_plan : Cond.instanceMethod yX12_plan ∈ xtb := xtb_m 1335 (by decide +kernel) rfl
theorem ws_X12_plan : Cond.selects RX12 yX12_plan yX12_plan ∈ xtb := xtb_m 1336 (by decide +kernel) rfl
theorem vRL_32 {k : Kst} {d : Kdy} {cc : ByteArray} {nL lev lv : Nat} {h h1 : Hp} {pc : Nat} {ls : List (Nat × Value)} {st0 : List Value} {i : Nat} {r : Int32} (As st : List Value) (o : Ok k d cc RL nL lev) (hM : MI k lv yX12_plan cX12_plan 5 (some .int) (.ref (ka k i) :: As) h r h1) (hlv : lv + 1 ≤ lev) (hi : kd i = (0, 11)) (hst : st0 = As.reverse ++ .ref (ka k i) :: st) (hn : As.length = 2) (hr : (st.map fun v => v.category).sum ≤ 8) (hdg : decode cc pc = .ok (.invokevirtual 32, 3)) (kk : Wz k d h1 (pc + 3) ls (.int r :: st)) : Wz k d h pc ls st0 := x_callVI (C := RX12) (T := TX12) (N := 51) (n := 2) o As st hM hlv (by decide) hi rfl wRL_32 wm_X12_plan ws_X12_plan wn_RX12 wc_X12_plan (by decide +kernel) hst hn hr hdg kk
theorem wRL_33 : Cond.methodLink RL 33 yX11_orders ∈ xtb := xtb_m 656 (by decide +kernel) rfl
theorem wc_X11_orders : Cond.code yX11_orders cX11_orders 2 (some .int) ∈ xtb := xtb_m 659 (by decide +kernel) rfl
theorem wm_X11_orders : Cond.instanceMethod yX11_orders ∈ xtb := xtb_m 657 (by decide +kernel) rfl
theorem ws_X11_orders : Cond.selects RX11 yX11_orders yX11_orders ∈ xtb := xtb_m 658 (by decide +kernel) rfl
theorem vRL_33 {k : Kst} {d : Kdy} {cc : ByteArray} {nL lev lv : Nat} {h h1 : Hp} {pc : Nat} {ls : List (Nat × Value)} {st0 : List Value} {i : Nat} {r : Int32} (As st : List Value) (o : Ok k d cc RL nL lev) (hM : MI k lv yX11_orders cX11_orders 2 (some .int) (.ref (ka k i) :: As) h r h1) (hlv : lv + 1 ≤ lev) (hi : kd i = (0, 10)) (hst : st0 = As.reverse ++ .ref (ka k i) :: st) (hn : As.length = 1) (hr : (st.map fun v => v.category).sum ≤ 8) (hdg : decode cc pc = .ok (.invokevirtual 33, 3)) (kk : Wz k d h1 (pc + 3) ls (.int r :: st)) : Wz k d h pc ls st0 := x_callVI (C := RX11) (T := TX11) (N := 12) (n := 1) o As st hM hlv (by decide) hi rfl wRL_33 wm_X11_orders ws_X11_orders wn_RX11 wc_X11_orders (by decide +kernel) hst hn hr hdg kk
theorem wRL_36 : Cond.methodLink RL 36 yX12_orders ∈ xtb := xtb_m 1361 (by decide +kernel) rfl
theorem wc_X12_orders : Cond.code yX12_orders cX12_orders 3 (some .int) ∈ xtb := xtb_m 1364 (by decide +kernel) rfl
theorem wm_X12_orders : Cond.instanceMethod yX12_orders ∈ xtb := xtb_m 1362 (by decide +kernel) rfl
theorem ws_X12_orders : Cond.selects RX12 yX12_orders yX12_orders ∈ xtb := xtb_m 1363 (by decide +kernel) rfl
theorem vRL_36 {k : Kst} {d : Kdy} {cc : ByteArray} {nL lev lv : Nat} {h h1 : Hp} {pc : Nat} {ls : List (Nat × Value)} {st0 : List Value} {i : Nat} {r : Int32} (As st : List Value) (o : Ok k d cc RL nL lev) (hM : MI k lv yX12_orders cX12_orders 3 (some .int) (.ref (ka k i) :: As) h r h1) (hlv : lv + 1 ≤ lev) (hi : kd i = (0, 11)) (hst : st0 = As.reverse ++ .ref (ka k i) :: st) (hn : As.length = 1) (hr : (st.map fun v => v.category).sum ≤ 8) (hdg : decode cc pc = .ok (.invokevirtual 36, 3)) (kk : Wz k d h1 (pc + 3) ls (.int r :: st)) : Wz k d h pc ls st0 := x_callVI (C := RX12) (T := TX12) (N := 51) (n := 1) o As st hM hlv (by decide) hi rfl wRL_36 wm_X12_orders ws_X12_orders wn_RX12 wc_X12_orders (by decide +kernel) hst hn hr hdg kk
theorem wRL_37 : Cond.methodLink RL 37 yX11_days ∈ xtb := xtb_m 718 (by decide +kernel) rfl
theorem wc_X11_days : Cond.code yX11_days cX11_days 2 (some .int) ∈ xtb := xtb_m 721 (by decide +kernel) rfl
theorem wm_X11_days : Cond.instanceMethod yX11_days ∈ xtb := xtb_m 719 (by decide +kernel) rfl
theorem ws_X11_days : Cond.selects RX11 yX11_days yX11_days ∈ xtb := xtb_m 720 (by decide +kernel) rfl
theorem vRL_37 {k : Kst} {d : Kdy} {cc : ByteArray} {nL lev lv : Nat} {h h1 : Hp} {pc : Nat} {ls : List (Nat × Value)} {st0 : List Value} {i : Nat} {r : Int32} (As st : List Value) (o : Ok k d cc RL nL lev) (hM : MI k lv yX11_days cX11_days 2 (some .int) (.ref (ka k i) :: As) h r h1) (hlv : lv + 1 ≤ lev) (hi : kd i = (0, 10)) (hst : st0 = As.reverse ++ .ref (ka k i) :: st) (hn : As.length = 1) (hr : (st.map fun v => v.category).sum ≤ 8) (hdg : decode cc pc = .ok (.invokevirtual 37, 3)) (kk : Wz k d h1 (pc + 3) ls (.int r :: st)) : Wz k d h pc ls st0 := x_callVI (C := RX11) (T := TX11) (N := 12) (n := 1) o As st hM hlv (by decide) hi rfl wRL_37 wm_X11_days ws_X11_days wn_RX11 wc_X11_days (by decide +kernel) hst hn hr hdg kk
theorem wRL_40 : Cond.methodLink RL 40 yX12_days ∈ xtb := xtb_m 1387 (by decide +kernel) rfl
theorem wc_X12_days : Cond.code yX12_days cX12_days 2 (some .int) ∈ xtb := xtb_m 1390 (by decide +kernel) rfl
theorem wm_X12_days : Cond.instanceMethod yX12_days ∈ xtb := xtb_m 1388 (by decide +kernel) rfl
theorem ws_X12_days : Cond.selects RX12 yX12_days yX12_days ∈ xtb := xtb_m 1389 (by decide +kernel) rfl
theorem vRL_40 {k : Kst} {d : Kdy} {cc : ByteArray} {nL lev lv : Nat} {h h1 : Hp} {pc : Nat} {ls : List (Nat × Value)} {st0 : List Value} {i : Nat} {r : Int32} (As st : List Value) (o : Ok k d cc RL nL lev) (hM : MI k lv yX12_days cX12_days 2 (some .int) (.ref (ka k i) :: As) h r h1) (hlv : lv + 1 ≤ lev) (hi : kd i = (0, 11)) (hst : st0 = As.reverse ++ .ref (ka k i) :: st) (hn : As.length = 1) (hr : (st.map fun v => v.category).sum ≤ 8) (hdg : decode cc pc = .ok (.invokevirtual 40, 3)) (kk : Wz k d h1 (pc + 3) ls (.int r :: st)) : Wz k d h pc ls st0 := x_callVI (C := RX12) (T := TX12) (N := 51) (n := 1) o As st hM hlv (by decide) hi rfl wRL_40 wm_X12_days ws_X12_days wn_RX12 wc_X12_days (by decide +kernel) hst hn hr hdg kk
theorem wRL_41 : Cond.methodLink RL 41 yX11_tried ∈ xtb := xtb_m 830 (by decide +kernel) rfl
theorem wc_X11_tried : Cond.code yX11_tried cX11_tried 5 (some .int) ∈ xtb := xtb_m 833 (by decide +kernel) rfl
theorem wm_X11_tried : Cond.instanceMethod yX11_tried ∈ xtb := xtb_m 831 (by decide +kernel) rfl
theorem ws_X11_tried : Cond.selects RX11 yX11_tried yX11_tried ∈ xtb := xtb_m 832 (by decide +kernel) rfl
theorem vRL_41 {k : Kst} {d : Kdy} {cc : ByteArray} {nL lev lv : Nat} {h h1 : Hp} {pc : Nat} {ls : List (Nat × Value)} {st0 : List Value} {i : Nat} {r : Int32} (As st : List Value) (o : Ok k d cc RL nL lev) (hM : MI k lv yX11_tried cX11_tried 5 (some .int) (.ref (ka k i) :: As) h r h1) (hlv : lv + 1 ≤ lev) (hi : kd i = (0, 10)) (hst : st0 = As.reverse ++ .ref (ka k i) :: st) (hn : As.length = 2) (hr : (st.map fun v => v.category).sum ≤ 8) (hdg : decode cc pc = .ok (.invokevirtual 41, 3)) (kk : Wz k d h1 (pc + 3) ls (.int r :: st)) : Wz k d h pc ls st0 := x_callVI (C := RX11) (T := TX11) (N := 12) (n := 2) o As st hM hlv (by decide) hi rfl wRL_41 wm_X11_tried ws_X11_tried wn_RX11 wc_X11_tried (by decide +kernel) hst hn hr hdg kk
theorem wRL_44 : Cond.methodLink RL 44 yX12_tried ∈ xtb := xtb_m 1470 (by decide +kernel) rfl
theorem wc_X12_tried : Cond.code yX12_tried cX12_tried 4 (some .int) ∈ xtb := xtb_m 1473 (by decide +kernel) rfl
theorem wm_X12_tried : Cond.instanceMethod yX12_tried ∈ xtb := xtb_m 1471 (by decide +kernel) rfl
theorem ws_X12_tried : Cond.selects RX12 yX12_tried yX12_tried ∈ xtb := xtb_m 1472 (by decide +kernel) rfl
theorem vRL_44 {k : Kst} {d : Kdy} {cc : ByteArray} {nL lev lv : Nat} {h h1 : Hp} {pc : Nat} {ls : List (Nat × Value)} {st0 : List Value} {i : Nat} {r : Int32} (As st : List Value) (o : Ok k d cc RL nL lev) (hM : MI k lv yX12_tried cX12_tried 4 (some .int) (.ref (ka k i) :: As) h r h1) (hlv : lv + 1 ≤ lev) (hi : kd i = (0, 11)) (hst : st0 = As.reverse ++ .ref (ka k i) :: st) (hn : As.length = 2) (hr : (st.map fun v => v.category).sum ≤ 8) (hdg : decode cc pc = .ok (.invokevirtual 44, 3)) (kk : Wz k d h1 (pc + 3) ls (.int r :: st)) : Wz k d h pc ls st0 := x_callVI (C := RX12) (T := TX12) (N := 51) (n := 2) o As st hM hlv (by decide) hi rfl wRL_44 wm_X12_tried ws_X12_tried wn_RX12 wc_X12_tried (by decide +kernel) hst hn hr hdg kk
theorem wRL_45 : Cond.methodLink RL 45 yX11_sideIs ∈ xtb := xtb_m 844 (by decide +kernel) rfl
theorem wc_X11_sideIs : Cond.code yX11_sideIs cX11_sideIs 3 (some .int) ∈ xtb := xtb_m 847 (by decide +kernel) rfl
theorem wm_X11_sideIs : Cond.instanceMethod yX11_sideIs ∈ xtb := xtb_m 845 (by decide +kernel) rfl
theorem ws_X11_sideIs : Cond.selects RX11 yX11_sideIs yX11_sideIs ∈ xtb := xtb_m 846 (by decide +kernel) rfl
theorem vRL_45 {k : Kst} {d : Kdy} {cc : ByteArray} {nL lev lv : Nat} {h h1 : Hp} {pc : Nat} {ls : List (Nat × Value)} {st0 : List Value} {i : Nat} {r : Int32} (As st : List Value) (o : Ok k d cc RL nL lev) (hM : MI k lv yX11_sideIs cX11_sideIs 3 (some .int) (.ref (ka k i) :: As) h r h1) (hlv : lv + 1 ≤ lev) (hi : kd i = (0, 10)) (hst : st0 = As.reverse ++ .ref (ka k i) :: st) (hn : As.length = 2) (hr : (st.map fun v => v.category).sum ≤ 8) (hdg : decode cc pc = .ok (.invokevirtual 45, 3)) (kk : Wz k d h1 (pc + 3) ls (.int r :: st)) : Wz k d h pc ls st0 := x_callVI (C := RX11) (T := TX11) (N := 12) (n := 2) o As st hM hlv (by decide) hi rfl wRL_45 wm_X11_sideIs ws_X11_sideIs wn_RX11 wc_X11_sideIs (by decide +kernel) hst hn hr hdg kk
theorem wRL_48 : Cond.methodLink RL 48 yX12_sideIs ∈ xtb := xtb_m 1474 (by decide +kernel) rfl
theorem wc_X12_sideIs : Cond.code yX12_sideIs cX12_sideIs 3 (some .int) ∈ xtb := xtb_m 1477 (by decide +kernel) rfl
theorem wm_X12_sideIs : Cond.instanceMethod yX12_sideIs ∈ xtb := xtb_m 1475 (by decide +kernel) rfl
theorem ws_X12_sideIs : Cond.selects RX12 yX12_sideIs yX12_sideIs ∈ xtb := xtb_m 1476 (by decide +kernel) rfl
theorem vRL_48 {k : Kst} {d : Kdy} {cc : ByteArray} {nL lev lv : Nat} {h h1 : Hp} {pc : Nat} {ls : List (Nat × Value)} {st0 : List Value} {i : Nat} {r : Int32} (As st : List Value) (o : Ok k d cc RL nL lev) (hM : MI k lv yX12_sideIs cX12_sideIs 3 (some .int) (.ref (ka k i) :: As) h r h1) (hlv : lv + 1 ≤ lev) (hi : kd i = (0, 11)) (hst : st0 = As.reverse ++ .ref (ka k i) :: st) (hn : As.length = 2) (hr : (st.map fun v => v.category).sum ≤ 8) (hdg : decode cc pc = .ok (.invokevirtual 48, 3)) (kk : Wz k d h1 (pc + 3) ls (.int r :: st)) : Wz k d h pc ls st0 := x_callVI (C := RX12) (T := TX12) (N := 51) (n := 2) o As st hM hlv (by decide) hi rfl wRL_48 wm_X12_sideIs ws_X12_sideIs wn_RX12 wc_X12_sideIs (by decide +kernel) hst hn hr hdg kk
theorem wRL_49 : Cond.methodLink RL 49 yX11_archIs ∈ xtb := xtb_m 853 (by decide +kernel) rfl
theorem wc_X11_archIs : Cond.code yX11_archIs cX11_archIs 4 (some .int) ∈ xtb := xtb_m 856 (by decide +kernel) rfl
theorem wm_X11_archIs : Cond.instanceMethod yX11_archIs ∈ xtb := xtb_m 854 (by decide +kernel) rfl
theorem ws_X11_archIs : Cond.selects RX11 yX11_archIs yX11_archIs ∈ xtb := xtb_m 855 (by decide +kernel) rfl
theorem vRL_49 {k : Kst} {d : Kdy} {cc : ByteArray} {nL lev lv : Nat} {h h1 : Hp} {pc : Nat} {ls : List (Nat × Value)} {st0 : List Value} {i : Nat} {r : Int32} (As st : List Value) (o : Ok k d cc RL nL lev) (hM : MI k lv yX11_archIs cX11_archIs 4 (some .int) (.ref (ka k i) :: As) h r h1) (hlv : lv + 1 ≤ lev) (hi : kd i = (0, 10)) (hst : st0 = As.reverse ++ .ref (ka k i) :: st) (hn : As.length = 3) (hr : (st.map fun v => v.category).sum ≤ 8) (hdg : decode cc pc = .ok (.invokevirtual 49, 3)) (kk : Wz k d h1 (pc + 3) ls (.int r :: st)) : Wz k d h pc ls st0 := x_callVI (C := RX11) (T := TX11) (N := 12) (n := 3) o As st hM hlv (by decide) hi rfl wRL_49 wm_X11_archIs ws_X11_archIs wn_RX11 wc_X11_archIs (by decide +kernel) hst hn hr hdg kk
theorem wRL_53 : Cond.methodLink RL 53 yX12_archIs ∈ xtb := xtb_m 1478 (by decide +kernel) rfl
theorem wc_X12_archIs : Cond.code yX12_archIs cX12_archIs 4 (some .int) ∈ xtb := xtb_m 1481 (by decide +kernel) rfl
theorem wm_X12_archIs : Cond.instanceMethod yX12_archIs ∈ xtb := xtb_m 1479 (by decide +kernel) rfl
theorem ws_X12_archIs : Cond.selects RX12 yX12_archIs yX12_archIs ∈ xtb := xtb_m 1480 (by decide +kernel) rfl
theorem vRL_53 {k : Kst} {d : Kdy} {cc : ByteArray} {nL lev lv : Nat} {h h1 : Hp} {pc : Nat} {ls : List (Nat × Value)} {st0 : List Value} {i : Nat} {r : Int32} (As st : List Value) (o : Ok k d cc RL nL lev) (hM : MI k lv yX12_archIs cX12_archIs 4 (some .int) (.ref (ka k i) :: As) h r h1) (hlv : lv + 1 ≤ lev) (hi : kd i = (0, 11)) (hst : st0 = As.reverse ++ .ref (ka k i) :: st) (hn : As.length = 3) (hr : (st.map fun v => v.category).sum ≤ 8) (hdg : decode cc pc = .ok (.invokevirtual 53, 3)) (kk : Wz k d h1 (pc + 3) ls (.int r :: st)) : Wz k d h pc ls st0 := x_callVI (C := RX12) (T := TX12) (N := 51) (n := 3) o As st hM hlv (by decide) hi rfl wRL_53 wm_X12_archIs ws_X12_archIs wn_RX12 wc_X12_archIs (by decide +kernel) hst hn hr hdg kk
theorem wRL_54 : Cond.methodLink RL 54 yX11_touches ∈ xtb := xtb_m 859 (by decide +kernel) rfl
theorem wc_X11_touches : Cond.code yX11_touches cX11_touches 5 (some .int) ∈ xtb := xtb_m 862 (by decide +kernel) rfl
theorem wm_X11_touches : Cond.instanceMethod yX11_touches ∈ xtb := xtb_m 860 (by decide +kernel) rfl
theorem ws_X11_touches : Cond.selects RX11 yX11_touches yX11_touches ∈ xtb := xtb_m 861 (by decide +kernel) rfl
theorem vRL_54 {k : Kst} {d : Kdy} {cc : ByteArray} {nL lev lv : Nat} {h h1 : Hp} {pc : Nat} {ls : List (Nat × Value)} {st0 : List Value} {i : Nat} {r : Int32} (As st : List Value) (o : Ok k d cc RL nL lev) (hM : MI k lv yX11_touches cX11_touches 5 (some .int) (.ref (ka k i) :: As) h r h1) (hlv : lv + 1 ≤ lev) (hi : kd i = (0, 10)) (hst : st0 = As.reverse ++ .ref (ka k i) :: st) (hn : As.length = 2) (hr : (st.map fun v => v.category).sum ≤ 8) (hdg : decode cc pc = .ok (.invokevirtual 54, 3)) (kk : Wz k d h1 (pc + 3) ls (.int r :: st)) : Wz k d h pc ls st0 := x_callVI (C := RX11) (T := TX11) (N := 12) (n := 2) o As st hM hlv (by decide) hi rfl wRL_54 wm_X11_touches ws_X11_touches wn_RX11 wc_X11_touches (by decide +kernel) hst hn hr hdg kk
theorem wRL_57 : Cond.methodLink RL 57 yX12_touches ∈ xtb := xtb_m 1482 (by decide +kernel) rfl
theorem wc_X12_touches : Cond.code yX12_touches cX12_touches 5 (some .int) ∈ xtb := xtb_m 1485 (by decide +kernel) rfl
theorem wm_X12_touches : Cond.instanceMethod yX12_touches ∈ xtb := xtb_m 1483 (by decide +kernel) rfl
theorem ws_X12_touches : Cond.selects RX12 yX12_touches yX12_touches ∈ xtb := xtb_m 1484 (by decide +kernel) rfl
theorem vRL_57 {k : Kst} {d : Kdy} {cc : ByteArray} {nL lev lv : Nat} {h h1 : Hp} {pc : Nat} {ls : List (Nat × Value)} {st0 : List Value} {i : Nat} {r : Int32} (As st : List Value) (o : Ok k d cc RL nL lev) (hM : MI k lv yX12_touches cX12_touches 5 (some .int) (.ref (ka k i) :: As) h r h1) (hlv : lv + 1 ≤ lev) (hi : kd i = (0, 11)) (hst : st0 = As.reverse ++ .ref (ka k i) :: st) (hn : As.length = 2) (hr : (st.map fun v => v.category).sum ≤ 8) (hdg : decode cc pc = .ok (.invokevirtual 57, 3)) (kk : Wz k d h1 (pc + 3) ls (.int r :: st)) : Wz k d h pc ls st0 := x_callVI (C := RX12) (T := TX12) (N := 51) (n := 2) o As st hM hlv (by decide) hi rfl wRL_57 wm_X12_touches ws_X12_touches wn_RX12 wc_X12_touches (by decide +kernel) hst hn hr hdg kk
theorem wRL_58 : Cond.methodLink RL 58 yX11_ahead ∈ xtb := xtb_m 871 (by decide +kernel) rfl
theorem wc_X11_ahead : Cond.code yX11_ahead cX11_ahead 3 (some .int) ∈ xtb := xtb_m 874 (by decide +kernel) rfl
theorem wm_X11_ahead : Cond.instanceMethod yX11_ahead ∈ xtb := xtb_m 872 (by decide +kernel) rfl
theorem ws_X11_ahead : Cond.selects RX11 yX11_ahead yX11_ahead ∈ xtb := xtb_m 873 (by decide +kernel) rfl
theorem vRL_58 {k : Kst} {d : Kdy} {cc : ByteArray} {nL lev lv : Nat} {h h1 : Hp} {pc : Nat} {ls : List (Nat × Value)} {st0 : List Value} {i : Nat} {r : Int32} (As st : List Value) (o : Ok k d cc RL nL lev) (hM : MI k lv yX11_ahead cX11_ahead 3 (some .int) (.ref (ka k i) :: As) h r h1) (hlv : lv + 1 ≤ lev) (hi : kd i = (0, 10)) (hst : st0 = As.reverse ++ .ref (ka k i) :: st) (hn : As.length = 1) (hr : (st.map fun v => v.category).sum ≤ 8) (hdg : decode cc pc = .ok (.invokevirtual 58, 3)) (kk : Wz k d h1 (pc + 3) ls (.int r :: st)) : Wz k d h pc ls st0 := x_callVI (C := RX11) (T := TX11) (N := 12) (n := 1) o As st hM hlv (by decide) hi rfl wRL_58 wm_X11_ahead ws_X11_ahead wn_RX11 wc_X11_ahead (by decide +kernel) hst hn hr hdg kk
theorem wRL_61 : Cond.methodLink RL 61 yX12_ahead ∈ xtb := xtb_m 1490 (by decide +kernel) rfl
theorem wc_X12_ahead : Cond.code yX12_ahead cX12_ahead 4 (some .int) ∈ xtb := xtb_m 1493 (by decide +kernel) rfl
theorem wm_X12_ahead : Cond.instanceMethod yX12_ahead ∈ xtb := xtb_m 1491 (by decide +kernel) rfl
theorem ws_X12_ahead : Cond.selects RX12 yX12_ahead yX12_ahead ∈ xtb := xtb_m 1492 (by decide +kernel) rfl
theorem vRL_61 {k : Kst} {d : Kdy} {cc : ByteArray} {nL lev lv : Nat} {h h1 : Hp} {pc : Nat} {ls : List (Nat × Value)} {st0 : List Value} {i : Nat} {r : Int32} (As st : List Value) (o : Ok k d cc RL nL lev) (hM : MI k lv yX12_ahead cX12_ahead 4 (some .int) (.ref (ka k i) :: As) h r h1) (hlv : lv + 1 ≤ lev) (hi : kd i = (0, 11)) (hst : st0 = As.reverse ++ .ref (ka k i) :: st) (hn : As.length = 1) (hr : (st.map fun v => v.category).sum ≤ 8) (hdg : decode cc pc = .ok (.invokevirtual 61, 3)) (kk : Wz k d h1 (pc + 3) ls (.int r :: st)) : Wz k d h pc ls st0 := x_callVI (C := RX12) (T := TX12) (N := 51) (n := 1) o As st hM hlv (by decide) hi rfl wRL_61 wm_X12_ahead ws_X12_ahead wn_RX12 wc_X12_ahead (by decide +kernel) hst hn hr hdg kk
theorem wRL_62 : Cond.methodLink RL 62 yX11_beyond ∈ xtb := xtb_m 879 (by decide +kernel) rfl
theorem wc_X11_beyond : Cond.code yX11_beyond cX11_beyond 4 (some .int) ∈ xtb := xtb_m 882 (by decide +kernel) rfl
theorem wm_X11_beyond : Cond.instanceMethod yX11_beyond ∈ xtb := xtb_m 880 (by decide +kernel) rfl
theorem ws_X11_beyond : Cond.selects RX11 yX11_beyond yX11_beyond ∈ xtb := xtb_m 881 (by decide +kernel) rfl
theorem vRL_62 {k : Kst} {d : Kdy} {cc : ByteArray} {nL lev lv : Nat} {h h1 : Hp} {pc : Nat} {ls : List (Nat × Value)} {st0 : List Value} {i : Nat} {r : Int32} (As st : List Value) (o : Ok k d cc RL nL lev) (hM : MI k lv yX11_beyond cX11_beyond 4 (some .int) (.ref (ka k i) :: As) h r h1) (hlv : lv + 1 ≤ lev) (hi : kd i = (0, 10)) (hst : st0 = As.reverse ++ .ref (ka k i) :: st) (hn : As.length = 2) (hr : (st.map fun v => v.category).sum ≤ 8) (hdg : decode cc pc = .ok (.invokevirtual 62, 3)) (kk : Wz k d h1 (pc + 3) ls (.int r :: st)) : Wz k d h pc ls st0 := x_callVI (C := RX11) (T := TX11) (N := 12) (n := 2) o As st hM hlv (by decide) hi rfl wRL_62 wm_X11_beyond ws_X11_beyond wn_RX11 wc_X11_beyond (by decide +kernel) hst hn hr hdg kk
theorem wRL_65 : Cond.methodLink RL 65 yX12_beyond ∈ xtb := xtb_m 1494 (by decide +kernel) rfl
theorem wc_X12_beyond : Cond.code yX12_beyond cX12_beyond 5 (some .int) ∈ xtb := xtb_m 1497 (by decide +kernel) rfl
theorem wm_X12_beyond : Cond.instanceMethod yX12_beyond ∈ xtb := xtb_m 1495 (by decide +kernel) rfl
theorem ws_X12_beyond : Cond.selects RX12 yX12_beyond yX12_beyond ∈ xtb := xtb_m 1496 (by decide +kernel) rfl
theorem vRL_65 {k : Kst} {d : Kdy} {cc : ByteArray} {nL lev lv : Nat} {h h1 : Hp} {pc : Nat} {ls : List (Nat × Value)} {st0 : List Value} {i : Nat} {r : Int32} (As st : List Value) (o : Ok k d cc RL nL lev) (hM : MI k lv yX12_beyond cX12_beyond 5 (some .int) (.ref (ka k i) :: As) h r h1) (hlv : lv + 1 ≤ lev) (hi : kd i = (0, 11)) (hst : st0 = As.reverse ++ .ref (ka k i) :: st) (hn : As.length = 2) (hr : (st.map fun v => v.category).sum ≤ 8) (hdg : decode cc pc = .ok (.invokevirtual 65, 3)) (kk : Wz k d h1 (pc + 3) ls (.int r :: st)) : Wz k d h pc ls st0 := x_callVI (C := RX12) (T := TX12) (N := 51) (n := 2) o As st hM hlv (by decide) hi rfl wRL_65 wm_X12_beyond ws_X12_beyond wn_RX12 wc_X12_beyond (by decide +kernel) hst hn hr hdg kk
theorem wRL_66 : Cond.methodLink RL 66 yX11_even ∈ xtb := xtb_m 888 (by decide +kernel) rfl
theorem wc_X11_even : Cond.code yX11_even cX11_even 7 (some .int) ∈ xtb := xtb_m 891 (by decide +kernel) rfl
theorem wm_X11_even : Cond.instanceMethod yX11_even ∈ xtb := xtb_m 889 (by decide +kernel) rfl
theorem ws_X11_even : Cond.selects RX11 yX11_even yX11_even ∈ xtb := xtb_m 890 (by decide +kernel) rfl
theorem vRL_66 {k : Kst} {d : Kdy} {cc : ByteArray} {nL lev lv : Nat} {h h1 : Hp} {pc : Nat} {ls : List (Nat × Value)} {st0 : List Value} {i : Nat} {r : Int32} (As st : List Value) (o : Ok k d cc RL nL lev) (hM : MI k lv yX11_even cX11_even 7 (some .int) (.ref (ka k i) :: As) h r h1) (hlv : lv + 1 ≤ lev) (hi : kd i = (0, 10)) (hst : st0 = As.reverse ++ .ref (ka k i) :: st) (hn : As.length = 2) (hr : (st.map fun v => v.category).sum ≤ 8) (hdg : decode cc pc = .ok (.invokevirtual 66, 3)) (kk : Wz k d h1 (pc + 3) ls (.int r :: st)) : Wz k d h pc ls st0 := x_callVI (C := RX11) (T := TX11) (N := 12) (n := 2) o As st hM hlv (by decide) hi rfl wRL_66 wm_X11_even ws_X11_even wn_RX11 wc_X11_even (by decide +kernel) hst hn hr hdg kk
theorem wRL_69 : Cond.methodLink RL 69 yX12_even ∈ xtb := xtb_m 1498 (by decide +kernel) rfl
theorem wc_X12_even : Cond.code yX12_even cX12_even 8 (some .int) ∈ xtb := xtb_m 1501 (by decide +kernel) rfl
theorem wm_X12_even : Cond.instanceMethod yX12_even ∈ xtb := xtb_m 1499 (by decide +kernel) rfl
theorem ws_X12_even : Cond.selects RX12 yX12_even yX12_even ∈ xtb := xtb_m 1500 (by decide +kernel) rfl
theorem vRL_69 {k : Kst} {d : Kdy} {cc : ByteArray} {nL lev lv : Nat} {h h1 : Hp} {pc : Nat} {ls : List (Nat × Value)} {st0 : List Value} {i : Nat} {r : Int32} (As st : List Value) (o : Ok k d cc RL nL lev) (hM : MI k lv yX12_even cX12_even 8 (some .int) (.ref (ka k i) :: As) h r h1) (hlv : lv + 1 ≤ lev) (hi : kd i = (0, 11)) (hst : st0 = As.reverse ++ .ref (ka k i) :: st) (hn : As.length = 2) (hr : (st.map fun v => v.category).sum ≤ 8) (hdg : decode cc pc = .ok (.invokevirtual 69, 3)) (kk : Wz k d h1 (pc + 3) ls (.int r :: st)) : Wz k d h pc ls st0 := x_callVI (C := RX12) (T := TX12) (N := 51) (n := 2) o As st hM hlv (by decide) hi rfl wRL_69 wm_X12_even ws_X12_even wn_RX12 wc_X12_even (by decide +kernel) hst hn hr hdg kk
theorem wRL_70 : Cond.methodLink RL 70 yX11_inARow ∈ xtb := xtb_m 900 (by decide +kernel) rfl
theorem wc_X11_inARow : Cond.code yX11_inARow cX11_inARow 1 (some .int) ∈ xtb := xtb_m 903 (by decide +kernel) rfl
theorem wm_X11_inARow : Cond.instanceMethod yX11_inARow ∈ xtb := xtb_m 901 (by decide +kernel) rfl
theorem ws_X11_inARow : Cond.selects RX11 yX11_inARow yX11_inARow ∈ xtb := xtb_m 902 (by decide +kernel) rfl
theorem vRL_70 {k : Kst} {d : Kdy} {cc : ByteArray} {nL lev lv : Nat} {h h1 : Hp} {pc : Nat} {ls : List (Nat × Value)} {st0 : List Value} {i : Nat} {r : Int32} (As st : List Value) (o : Ok k d cc RL nL lev) (hM : MI k lv yX11_inARow cX11_inARow 1 (some .int) (.ref (ka k i) :: As) h r h1) (hlv : lv + 1 ≤ lev) (hi : kd i = (0, 10)) (hst : st0 = As.reverse ++ .ref (ka k i) :: st) (hn : As.length = 0) (hr : (st.map fun v => v.category).sum ≤ 8) (hdg : decode cc pc = .ok (.invokevirtual 70, 3)) (kk : Wz k d h1 (pc + 3) ls (.int r :: st)) : Wz k d h pc ls st0 := x_callVI (C := RX11) (T := TX11) (N := 12) (n := 0) o As st hM hlv (by decide) hi rfl wRL_70 wm_X11_inARow ws_X11_inARow wn_RX11 wc_X11_inARow (by decide +kernel) hst hn hr hdg kk
theorem wRL_74 : Cond.methodLink RL 74 yX12_inARow ∈ xtb := xtb_m 1513 (by decide +kernel) rfl
theorem wc_X12_inARow : Cond.code yX12_inARow cX12_inARow 4 (some .int) ∈ xtb := xtb_m 1516 (by decide +kernel) rfl
theorem wm_X12_inARow : Cond.instanceMethod yX12_inARow ∈ xtb := xtb_m 1514 (by decide +kernel) rfl
theorem ws_X12_inARow : Cond.selects RX12 yX12_inARow yX12_inARow ∈ xtb := xtb_m 1515 (by decide +kernel) rfl
theorem vRL_74 {k : Kst} {d : Kdy} {cc : ByteArray} {nL lev lv : Nat} {h h1 : Hp} {pc : Nat} {ls : List (Nat × Value)} {st0 : List Value} {i : Nat} {r : Int32} (As st : List Value) (o : Ok k d cc RL nL lev) (hM : MI k lv yX12_inARow cX12_inARow 4 (some .int) (.ref (ka k i) :: As) h r h1) (hlv : lv + 1 ≤ lev) (hi : kd i = (0, 11)) (hst : st0 = As.reverse ++ .ref (ka k i) :: st) (hn : As.length = 0) (hr : (st.map fun v => v.category).sum ≤ 8) (hdg : decode cc pc = .ok (.invokevirtual 74, 3)) (kk : Wz k d h1 (pc + 3) ls (.int r :: st)) : Wz k d h pc ls st0 := x_callVI (C := RX12) (T := TX12) (N := 51) (n := 0) o As st hM hlv (by decide) hi rfl wRL_74 wm_X12_inARow ws_X12_inARow wn_RX12 wc_X12_inARow (by decide +kernel) hst hn hr hdg kk
theorem wRL_75 : Cond.methodLink RL 75 yX11_ball ∈ xtb := xtb_m 912 (by decide +kernel) rfl
theorem wc_X11_ball : Cond.code yX11_ball cX11_ball 6 (some .int) ∈ xtb := xtb_m 915 (by decide +kernel) rfl
theorem wm_X11_ball : Cond.instanceMethod yX11_ball ∈ xtb := xtb_m 913 (by decide +kernel) rfl
theorem ws_X11_ball : Cond.selects RX11 yX11_ball yX11_ball ∈ xtb := xtb_m 914 (by decide +kernel) rfl
theorem vRL_75 {k : Kst} {d : Kdy} {cc : ByteArray} {nL lev lv : Nat} {h h1 : Hp} {pc : Nat} {ls : List (Nat × Value)} {st0 : List Value} {i : Nat} {r : Int32} (As st : List Value) (o : Ok k d cc RL nL lev) (hM : MI k lv yX11_ball cX11_ball 6 (some .int) (.ref (ka k i) :: As) h r h1) (hlv : lv + 1 ≤ lev) (hi : kd i = (0, 10)) (hst : st0 = As.reverse ++ .ref (ka k i) :: st) (hn : As.length = 5) (hr : (st.map fun v => v.category).sum ≤ 8) (hdg : decode cc pc = .ok (.invokevirtual 75, 3)) (kk : Wz k d h1 (pc + 3) ls (.int r :: st)) : Wz k d h pc ls st0 := x_callVI (C := RX11) (T := TX11) (N := 12) (n := 5) o As st hM hlv (by decide) hi rfl wRL_75 wm_X11_ball ws_X11_ball wn_RX11 wc_X11_ball (by decide +kernel) hst hn hr hdg kk
theorem wRL_78 : Cond.methodLink RL 78 yX12_ball ∈ xtb := xtb_m 1522 (by decide +kernel) rfl
theorem wc_X12_ball : Cond.code yX12_ball cX12_ball 6 (some .int) ∈ xtb := xtb_m 1525 (by decide +kernel) rfl
theorem wm_X12_ball : Cond.instanceMethod yX12_ball ∈ xtb := xtb_m 1523 (by decide +kernel) rfl
theorem ws_X12_ball : Cond.selects RX12 yX12_ball yX12_ball ∈ xtb := xtb_m 1524 (by decide +kernel) rfl
theorem vRL_78 {k : Kst} {d : Kdy} {cc : ByteArray} {nL lev lv : Nat} {h h1 : Hp} {pc : Nat} {ls : List (Nat × Value)} {st0 : List Value} {i : Nat} {r : Int32} (As st : List Value) (o : Ok k d cc RL nL lev) (hM : MI k lv yX12_ball cX12_ball 6 (some .int) (.ref (ka k i) :: As) h r h1) (hlv : lv + 1 ≤ lev) (hi : kd i = (0, 11)) (hst : st0 = As.reverse ++ .ref (ka k i) :: st) (hn : As.length = 5) (hr : (st.map fun v => v.category).sum ≤ 8) (hdg : decode cc pc = .ok (.invokevirtual 78, 3)) (kk : Wz k d h1 (pc + 3) ls (.int r :: st)) : Wz k d h pc ls st0 := x_callVI (C := RX12) (T := TX12) (N := 51) (n := 5) o As st hM hlv (by decide) hi rfl wRL_78 wm_X12_ball ws_X12_ball wn_RX12 wc_X12_ball (by decide +kernel) hst hn hr hdg kk
theorem wRL_79 : Cond.methodLink RL 79 yX11_leastSpeed ∈ xtb := xtb_m 922 (by decide +kernel) rfl
theorem wc_X11_leastSpeed : Cond.code yX11_leastSpeed cX11_leastSpeed 6 (some .int) ∈ xtb := xtb_m 925 (by decide +kernel) rfl
theorem wm_X11_leastSpeed : Cond.instanceMethod yX11_leastSpeed ∈ xtb := xtb_m 923 (by decide +kernel) rfl
theorem ws_X11_leastSpeed : Cond.selects RX11 yX11_leastSpeed yX11_leastSpeed ∈ xtb := xtb_m 924 (by decide +kernel) rfl
theorem vRL_79 {k : Kst} {d : Kdy} {cc : ByteArray} {nL lev lv : Nat} {h h1 : Hp} {pc : Nat} {ls : List (Nat × Value)} {st0 : List Value} {i : Nat} {r : Int32} (As st : List Value) (o : Ok k d cc RL nL lev) (hM : MI k lv yX11_leastSpeed cX11_leastSpeed 6 (some .int) (.ref (ka k i) :: As) h r h1) (hlv : lv + 1 ≤ lev) (hi : kd i = (0, 10)) (hst : st0 = As.reverse ++ .ref (ka k i) :: st) (hn : As.length = 4) (hr : (st.map fun v => v.category).sum ≤ 8) (hdg : decode cc pc = .ok (.invokevirtual 79, 3)) (kk : Wz k d h1 (pc + 3) ls (.int r :: st)) : Wz k d h pc ls st0 := x_callVI (C := RX11) (T := TX11) (N := 12) (n := 4) o As st hM hlv (by decide) hi rfl wRL_79 wm_X11_leastSpeed ws_X11_leastSpeed wn_RX11 wc_X11_leastSpeed (by decide +kernel) hst hn hr hdg kk
theorem wRL_83 : Cond.methodLink RL 83 yX12_leastSpeed ∈ xtb := xtb_m 1529 (by decide +kernel) rfl
theorem wc_X12_leastSpeed : Cond.code yX12_leastSpeed cX12_leastSpeed 6 (some .int) ∈ xtb := xtb_m 1532 (by decide +kernel) rfl
theorem wm_X12_leastSpeed : Cond.instanceMethod yX12_leastSpeed ∈ xtb := xtb_m 1530 (by decide +kernel) rfl
theorem ws_X12_leastSpeed : Cond.selects RX12 yX12_leastSpeed yX12_leastSpeed ∈ xtb := xtb_m 1531 (by decide +kernel) rfl
theorem vRL_83 {k : Kst} {d : Kdy} {cc : ByteArray} {nL lev lv : Nat} {h h1 : Hp} {pc : Nat} {ls : List (Nat × Value)} {st0 : List Value} {i : Nat} {r : Int32} (As st : List Value) (o : Ok k d cc RL nL lev) (hM : MI k lv yX12_leastSpeed cX12_leastSpeed 6 (some .int) (.ref (ka k i) :: As) h r h1) (hlv : lv + 1 ≤ lev) (hi : kd i = (0, 11)) (hst : st0 = As.reverse ++ .ref (ka k i) :: st) (hn : As.length = 4) (hr : (st.map fun v => v.category).sum ≤ 8) (hdg : decode cc pc = .ok (.invokevirtual 83, 3)) (kk : Wz k d h1 (pc + 3) ls (.int r :: st)) : Wz k d h pc ls st0 := x_callVI (C := RX12) (T := TX12) (N := 51) (n := 4) o As st hM hlv (by decide) hi rfl wRL_83 wm_X12_leastSpeed ws_X12_leastSpeed wn_RX12 wc_X12_leastSpeed (by decide +kernel) hst hn hr hdg kk
theorem wRL_84 : Cond.methodLink RL 84 yX11_piles ∈ xtb := xtb_m 926 (by decide +kernel) rfl
theorem wc_X11_piles : Cond.code yX11_piles cX11_piles 5 (some .int) ∈ xtb := xtb_m 929 (by decide +kernel) rfl
theorem wm_X11_piles : Cond.instanceMethod yX11_piles ∈ xtb := xtb_m 927 (by decide +kernel) rfl
theorem ws_X11_piles : Cond.selects RX11 yX11_piles yX11_piles ∈ xtb := xtb_m 928 (by decide +kernel) rfl
theorem vRL_84 {k : Kst} {d : Kdy} {cc : ByteArray} {nL lev lv : Nat} {h h1 : Hp} {pc : Nat} {ls : List (Nat × Value)} {st0 : List Value} {i : Nat} {r : Int32} (As st : List Value) (o : Ok k d cc RL nL lev) (hM : MI k lv yX11_piles cX11_piles 5 (some .int) (.ref (ka k i) :: As) h r h1) (hlv : lv + 1 ≤ lev) (hi : kd i = (0, 10)) (hst : st0 = As.reverse ++ .ref (ka k i) :: st) (hn : As.length = 3) (hr : (st.map fun v => v.category).sum ≤ 8) (hdg : decode cc pc = .ok (.invokevirtual 84, 3)) (kk : Wz k d h1 (pc + 3) ls (.int r :: st)) : Wz k d h pc ls st0 := x_callVI (C := RX11) (T := TX11) (N := 12) (n := 3) o As st hM hlv (by decide) hi rfl wRL_84 wm_X11_piles ws_X11_piles wn_RX11 wc_X11_piles (by decide +kernel) hst hn hr hdg kk
theorem wRL_87 : Cond.methodLink RL 87 yX12_piles ∈ xtb := xtb_m 1533 (by decide +kernel) rfl
theorem wc_X12_piles : Cond.code yX12_piles cX12_piles 8 (some .int) ∈ xtb := xtb_m 1536 (by decide +kernel) rfl
theorem wm_X12_piles : Cond.instanceMethod yX12_piles ∈ xtb := xtb_m 1534 (by decide +kernel) rfl
theorem ws_X12_piles : Cond.selects RX12 yX12_piles yX12_piles ∈ xtb := xtb_m 1535 (by decide +kernel) rfl
theorem vRL_87 {k : Kst} {d : Kdy} {cc : ByteArray} {nL lev lv : Nat} {h h1 : Hp} {pc : Nat} {ls : List (Nat × Value)} {st0 : List Value} {i : Nat} {r : Int32} (As st : List Value) (o : Ok k d cc RL nL lev) (hM : MI k lv yX12_piles cX12_piles 8 (some .int) (.ref (ka k i) :: As) h r h1) (hlv : lv + 1 ≤ lev) (hi : kd i = (0, 11)) (hst : st0 = As.reverse ++ .ref (ka k i) :: st) (hn : As.length = 3) (hr : (st.map fun v => v.category).sum ≤ 8) (hdg : decode cc pc = .ok (.invokevirtual 87, 3)) (kk : Wz k d h1 (pc + 3) ls (.int r :: st)) : Wz k d h pc ls st0 := x_callVI (C := RX12) (T := TX12) (N := 51) (n := 3) o As st hM hlv (by decide) hi rfl wRL_87 wm_X12_piles ws_X12_piles wn_RX12 wc_X12_piles (by decide +kernel) hst hn hr hdg kk
theorem wRL_88 : Cond.methodLink RL 88 yX11_lamps ∈ xtb := xtb_m 944 (by decide +kernel) rfl
theorem wc_X11_lamps : Cond.code yX11_lamps cX11_lamps 5 (some .int) ∈ xtb := xtb_m 947 (by decide +kernel) rfl
theorem wm_X11_lamps : Cond.instanceMethod yX11_lamps ∈ xtb := xtb_m 945 (by decide +kernel) rfl
theorem ws_X11_lamps : Cond.selects RX11 yX11_lamps yX11_lamps ∈ xtb := xtb_m 946 (by decide +kernel) rfl
theorem vRL_88 {k : Kst} {d : Kdy} {cc : ByteArray} {nL lev lv : Nat} {h h1 : Hp} {pc : Nat} {ls : List (Nat × Value)} {st0 : List Value} {i : Nat} {r : Int32} (As st : List Value) (o : Ok k d cc RL nL lev) (hM : MI k lv yX11_lamps cX11_lamps 5 (some .int) (.ref (ka k i) :: As) h r h1) (hlv : lv + 1 ≤ lev) (hi : kd i = (0, 10)) (hst : st0 = As.reverse ++ .ref (ka k i) :: st) (hn : As.length = 3) (hr : (st.map fun v => v.category).sum ≤ 8) (hdg : decode cc pc = .ok (.invokevirtual 88, 3)) (kk : Wz k d h1 (pc + 3) ls (.int r :: st)) : Wz k d h pc ls st0 := x_callVI (C := RX11) (T := TX11) (N := 12) (n := 3) o As st hM hlv (by decide) hi rfl wRL_88 wm_X11_lamps ws_X11_lamps wn_RX11 wc_X11_lamps (by decide +kernel) hst hn hr hdg kk
theorem wRL_91 : Cond.methodLink RL 91 yX12_lamps ∈ xtb := xtb_m 1537 (by decide +kernel) rfl
theorem wc_X12_lamps : Cond.code yX12_lamps cX12_lamps 7 (some .int) ∈ xtb := xtb_m 1540 (by decide +kernel) rfl
theorem wm_X12_lamps : Cond.instanceMethod yX12_lamps ∈ xtb := xtb_m 1538 (by decide +kernel) rfl
theorem ws_X12_lamps : Cond.selects RX12 yX12_lamps yX12_lamps ∈ xtb := xtb_m 1539 (by decide +kernel) rfl
theorem vRL_91 {k : Kst} {d : Kdy} {cc : ByteArray} {nL lev lv : Nat} {h h1 : Hp} {pc : Nat} {ls : List (Nat × Value)} {st0 : List Value} {i : Nat} {r : Int32} (As st : List Value) (o : Ok k d cc RL nL lev) (hM : MI k lv yX12_lamps cX12_lamps 7 (some .int) (.ref (ka k i) :: As) h r h1) (hlv : lv + 1 ≤ lev) (hi : kd i = (0, 11)) (hst : st0 = As.reverse ++ .ref (ka k i) :: st) (hn : As.length = 3) (hr : (st.map fun v => v.category).sum ≤ 8) (hdg : decode cc pc = .ok (.invokevirtual 91, 3)) (kk : Wz k d h1 (pc + 3) ls (.int r :: st)) : Wz k d h pc ls st0 := x_callVI (C := RX12) (T := TX12) (N := 51) (n := 3) o As st hM hlv (by decide) hi rfl wRL_91 wm_X12_lamps ws_X12_lamps wn_RX12 wc_X12_lamps (by decide +kernel) hst hn hr hdg kk
theorem wRL_92 : Cond.methodLink RL 92 yX11_claims ∈ xtb := xtb_m 961 (by decide +kernel) rfl
theorem wc_X11_claims : Cond.code yX11_claims cX11_claims 4 (some .int) ∈ xtb := xtb_m 964 (by decide +kernel) rfl
theorem wm_X11_claims : Cond.instanceMethod yX11_claims ∈ xtb := xtb_m 962 (by decide +kernel) rfl
theorem ws_X11_claims : Cond.selects RX11 yX11_claims yX11_claims ∈ xtb := xtb_m 963 (by decide +kernel) rfl
theorem vRL_92 {k : Kst} {d : Kdy} {cc : ByteArray} {nL lev lv : Nat} {h h1 : Hp} {pc : Nat} {ls : List (Nat × Value)} {st0 : List Value} {i : Nat} {r : Int32} (As st : List Value) (o : Ok k d cc RL nL lev) (hM : MI k lv yX11_claims cX11_claims 4 (some .int) (.ref (ka k i) :: As) h r h1) (hlv : lv + 1 ≤ lev) (hi : kd i = (0, 10)) (hst : st0 = As.reverse ++ .ref (ka k i) :: st) (hn : As.length = 2) (hr : (st.map fun v => v.category).sum ≤ 8) (hdg : decode cc pc = .ok (.invokevirtual 92, 3)) (kk : Wz k d h1 (pc + 3) ls (.int r :: st)) : Wz k d h pc ls st0 := x_callVI (C := RX11) (T := TX11) (N := 12) (n := 2) o As st hM hlv (by decide) hi rfl wRL_92 wm_X11_claims ws_X11_claims wn_RX11 wc_X11_claims (by decide +kernel) hst hn hr hdg kk
theorem wRL_95 : Cond.methodLink RL 95 yX12_claims ∈ xtb := xtb_m 1545 (by decide +kernel) rfl
theorem wc_X12_claims : Cond.code yX12_claims cX12_claims 12 (some .int) ∈ xtb := xtb_m 1548 (by decide +kernel) rfl
theorem wm_X12_claims : Cond.instanceMethod yX12_claims ∈ xtb := xtb_m 1546 (by decide +kernel) rfl
theorem ws_X12_claims : Cond.selects RX12 yX12_claims yX12_claims ∈ xtb := xtb_m 1547 (by decide +kernel) rfl
theorem vRL_95 {k : Kst} {d : Kdy} {cc : ByteArray} {nL lev lv : Nat} {h h1 : Hp} {pc : Nat} {ls : List (Nat × Value)} {st0 : List Value} {i : Nat} {r : Int32} (As st : List Value) (o : Ok k d cc RL nL lev) (hM : MI k lv yX12_claims cX12_claims 12 (some .int) (.ref (ka k i) :: As) h r h1) (hlv : lv + 1 ≤ lev) (hi : kd i = (0, 11)) (hst : st0 = As.reverse ++ .ref (ka k i) :: st) (hn : As.length = 2) (hr : (st.map fun v => v.category).sum ≤ 8) (hdg : decode cc pc = .ok (.invokevirtual 95, 3)) (kk : Wz k d h1 (pc + 3) ls (.int r :: st)) : Wz k d h pc ls st0 := x_callVI (C := RX12) (T := TX12) (N := 51) (n := 2) o As st hM hlv (by decide) hi rfl wRL_95 wm_X12_claims ws_X12_claims wn_RX12 wc_X12_claims (by decide +kernel) hst hn hr hdg kk
theorem wRL_96 : Cond.methodLink RL 96 yX11_rowed ∈ xtb := xtb_m 971 (by decide +kernel) rfl
theorem wc_X11_rowed : Cond.code yX11_rowed cX11_rowed 2 (some .int) ∈ xtb := xtb_m 974 (by decide +kernel) rfl
theorem wm_X11_rowed : Cond.instanceMethod yX11_rowed ∈ xtb := xtb_m 972 (by decide +kernel) rfl
theorem ws_X11_rowed : Cond.selects RX11 yX11_rowed yX11_rowed ∈ xtb := xtb_m 973 (by decide +kernel) rfl
theorem vRL_96 {k : Kst} {d : Kdy} {cc : ByteArray} {nL lev lv : Nat} {h h1 : Hp} {pc : Nat} {ls : List (Nat × Value)} {st0 : List Value} {i : Nat} {r : Int32} (As st : List Value) (o : Ok k d cc RL nL lev) (hM : MI k lv yX11_rowed cX11_rowed 2 (some .int) (.ref (ka k i) :: As) h r h1) (hlv : lv + 1 ≤ lev) (hi : kd i = (0, 10)) (hst : st0 = As.reverse ++ .ref (ka k i) :: st) (hn : As.length = 1) (hr : (st.map fun v => v.category).sum ≤ 8) (hdg : decode cc pc = .ok (.invokevirtual 96, 3)) (kk : Wz k d h1 (pc + 3) ls (.int r :: st)) : Wz k d h pc ls st0 := x_callVI (C := RX11) (T := TX11) (N := 12) (n := 1) o As st hM hlv (by decide) hi rfl wRL_96 wm_X11_rowed ws_X11_rowed wn_RX11 wc_X11_rowed (by decide +kernel) hst hn hr hdg kk
theorem wRL_99 : Cond.methodLink RL 99 yX12_rowed ∈ xtb := xtb_m 1549 (by decide +kernel) rfl
theorem wc_X12_rowed : Cond.code yX12_rowed cX12_rowed 6 (some .int) ∈ xtb := xtb_m 1552 (by decide +kernel) rfl
theorem wm_X12_rowed : Cond.instanceMethod yX12_rowed ∈ xtb := xtb_m 1550 (by decide +kernel) rfl
theorem ws_X12_rowed : Cond.selects RX12 yX12_rowed yX12_rowed ∈ xtb := xtb_m 1551 (by decide +kernel) rfl
theorem vRL_99 {k : Kst} {d : Kdy} {cc : ByteArray} {nL lev lv : Nat} {h h1 : Hp} {pc : Nat} {ls : List (Nat × Value)} {st0 : List Value} {i : Nat} {r : Int32} (As st : List Value) (o : Ok k d cc RL nL lev) (hM : MI k lv yX12_rowed cX12_rowed 6 (some .int) (.ref (ka k i) :: As) h r h1) (hlv : lv + 1 ≤ lev) (hi : kd i = (0, 11)) (hst : st0 = As.reverse ++ .ref (ka k i) :: st) (hn : As.length = 1) (hr : (st.map fun v => v.category).sum ≤ 8) (hdg : decode cc pc = .ok (.invokevirtual 99, 3)) (kk : Wz k d h1 (pc + 3) ls (.int r :: st)) : Wz k d h pc ls st0 := x_callVI (C := RX12) (T := TX12) (N := 51) (n := 1) o As st hM hlv (by decide) hi rfl wRL_99 wm_X12_rowed ws_X12_rowed wn_RX12 wc_X12_rowed (by decide +kernel) hst hn hr hdg kk
theorem wRL_100 : Cond.methodLink RL 100 yX11_wed ∈ xtb := xtb_m 983 (by decide +kernel) rfl
theorem wc_X11_wed : Cond.code yX11_wed cX11_wed 4 (some .int) ∈ xtb := xtb_m 986 (by decide +kernel) rfl
theorem wm_X11_wed : Cond.instanceMethod yX11_wed ∈ xtb := xtb_m 984 (by decide +kernel) rfl
theorem ws_X11_wed : Cond.selects RX11 yX11_wed yX11_wed ∈ xtb := xtb_m 985 (by decide +kernel) rfl
theorem vRL_100 {k : Kst} {d : Kdy} {cc : ByteArray} {nL lev lv : Nat} {h h1 : Hp} {pc : Nat} {ls : List (Nat × Value)} {st0 : List Value} {i : Nat} {r : Int32} (As st : List Value) (o : Ok k d cc RL nL lev) (hM : MI k lv yX11_wed cX11_wed 4 (some .int) (.ref (ka k i) :: As) h r h1) (hlv : lv + 1 ≤ lev) (hi : kd i = (0, 10)) (hst : st0 = As.reverse ++ .ref (ka k i) :: st) (hn : As.length = 2) (hr : (st.map fun v => v.category).sum ≤ 8) (hdg : decode cc pc = .ok (.invokevirtual 100, 3)) (kk : Wz k d h1 (pc + 3) ls (.int r :: st)) : Wz k d h pc ls st0 := x_callVI (C := RX11) (T := TX11) (N := 12) (n := 2) o As st hM hlv (by decide) hi rfl wRL_100 wm_X11_wed ws_X11_wed wn_RX11 wc_X11_wed (by decide +kernel) hst hn hr hdg kk
theorem wRL_103 : Cond.methodLink RL 103 yX12_wed ∈ xtb := xtb_m 1557 (by decide +kernel) rfl
theorem wc_X12_wed : Cond.code yX12_wed cX12_wed 5 (some .int) ∈ xtb := xtb_m 1560 (by decide +kernel) rfl
theorem wm_X12_wed : Cond.instanceMethod yX12_wed ∈ xtb := xtb_m 1558 (by decide +kernel) rfl
theorem ws_X12_wed : Cond.selects RX12 yX12_wed yX12_wed ∈ xtb := xtb_m 1559 (by decide +kernel) rfl
theorem vRL_103 {k : Kst} {d : Kdy} {cc : ByteArray} {nL lev lv : Nat} {h h1 : Hp} {pc : Nat} {ls : List (Nat × Value)} {st0 : List Value} {i : Nat} {r : Int32} (As st : List Value) (o : Ok k d cc RL nL lev) (hM : MI k lv yX12_wed cX12_wed 5 (some .int) (.ref (ka k i) :: As) h r h1) (hlv : lv + 1 ≤ lev) (hi : kd i = (0, 11)) (hst : st0 = As.reverse ++ .ref (ka k i) :: st) (hn : As.length = 2) (hr : (st.map fun v => v.category).sum ≤ 8) (hdg : decode cc pc = .ok (.invokevirtual 103, 3)) (kk : Wz k d h1 (pc + 3) ls (.int r :: st)) : Wz k d h pc ls st0 := x_callVI (C := RX12) (T := TX12) (N := 51) (n := 2) o As st hM hlv (by decide) hi rfl wRL_103 wm_X12_wed ws_X12_wed wn_RX12 wc_X12_wed (by decide +kernel) hst hn hr hdg kk
theorem wRL_104 : Cond.methodLink RL 104 yX11_changes ∈ xtb := xtb_m 1002 (by decide +kernel) rfl
theorem wc_X11_changes : Cond.code yX11_changes cX11_changes 2 (some .int) ∈ xtb := xtb_m 1005 (by decide +kernel) rfl
theorem wm_X11_changes : Cond.instanceMethod yX11_changes ∈ xtb := xtb_m 1003 (by decide +kernel) rfl
theorem ws_X11_changes : Cond.selects RX11 yX11_changes yX11_changes ∈ xtb := xtb_m 1004 (by decide +kernel) rfl
theorem vRL_104 {k : Kst} {d : Kdy} {cc : ByteArray} {nL lev lv : Nat} {h h1 : Hp} {pc : Nat} {ls : List (Nat × Value)} {st0 : List Value} {i : Nat} {r : Int32} (As st : List Value) (o : Ok k d cc RL nL lev) (hM : MI k lv yX11_changes cX11_changes 2 (some .int) (.ref (ka k i) :: As) h r h1) (hlv : lv + 1 ≤ lev) (hi : kd i = (0, 10)) (hst : st0 = As.reverse ++ .ref (ka k i) :: st) (hn : As.length = 1) (hr : (st.map fun v => v.category).sum ≤ 8) (hdg : decode cc pc = .ok (.invokevirtual 104, 3)) (kk : Wz k d h1 (pc + 3) ls (.int r :: st)) : Wz k d h pc ls st0 := x_callVI (C := RX11) (T := TX11) (N := 12) (n := 1) o As st hM hlv (by decide) hi rfl wRL_104 wm_X11_changes ws_X11_changes wn_RX11 wc_X11_changes (by decide +kernel) hst hn hr hdg kk
theorem wRL_107 : Cond.methodLink RL 107 yX12_changes ∈ xtb := xtb_m 1573 (by decide +kernel) rfl
theorem wc_X12_changes : Cond.code yX12_changes cX12_changes 8 (some .int) ∈ xtb := xtb_m 1576 (by decide +kernel) rfl
theorem wm_X12_changes : Cond.instanceMethod yX12_changes ∈ xtb := xtb_m 1574 (by decide +kernel) rfl
theorem ws_X12_changes : Cond.selects RX12 yX12_changes yX12_changes ∈ xtb := xtb_m 1575 (by decide +kernel) rfl
theorem vRL_107 {k : Kst} {d : Kdy} {cc : ByteArray} {nL lev lv : Nat} {h h1 : Hp} {pc : Nat} {ls : List (Nat × Value)} {st0 : List Value} {i : Nat} {r : Int32} (As st : List Value) (o : Ok k d cc RL nL lev) (hM : MI k lv yX12_changes cX12_changes 8 (some .int) (.ref (ka k i) :: As) h r h1) (hlv : lv + 1 ≤ lev) (hi : kd i = (0, 11)) (hst : st0 = As.reverse ++ .ref (ka k i) :: st) (hn : As.length = 1) (hr : (st.map fun v => v.category).sum ≤ 8) (hdg : decode cc pc = .ok (.invokevirtual 107, 3)) (kk : Wz k d h1 (pc + 3) ls (.int r :: st)) : Wz k d h pc ls st0 := x_callVI (C := RX12) (T := TX12) (N := 51) (n := 1) o As st hM hlv (by decide) hi rfl wRL_107 wm_X12_changes ws_X12_changes wn_RX12 wc_X12_changes (by decide +kernel) hst hn hr hdg kk
theorem wRL_108 : Cond.methodLink RL 108 yX11_dialect ∈ xtb := xtb_m 1023 (by decide +kernel) rfl
theorem wc_X11_dialect : Cond.code yX11_dialect cX11_dialect 4 (some .int) ∈ xtb := xtb_m 1026 (by decide +kernel) rfl
theorem wm_X11_dialect : Cond.instanceMethod yX11_dialect ∈ xtb := xtb_m 1024 (by decide +kernel) rfl
theorem ws_X11_dialect : Cond.selects RX11 yX11_dialect yX11_dialect ∈ xtb := xtb_m 1025 (by decide +kernel) rfl
theorem vRL_108 {k : Kst} {d : Kdy} {cc : ByteArray} {nL lev lv : Nat} {h h1 : Hp} {pc : Nat} {ls : List (Nat × Value)} {st0 : List Value} {i : Nat} {r : Int32} (As st : List Value) (o : Ok k d cc RL nL lev) (hM : MI k lv yX11_dialect cX11_dialect 4 (some .int) (.ref (ka k i) :: As) h r h1) (hlv : lv + 1 ≤ lev) (hi : kd i = (0, 10)) (hst : st0 = As.reverse ++ .ref (ka k i) :: st) (hn : As.length = 3) (hr : (st.map fun v => v.category).sum ≤ 8) (hdg : decode cc pc = .ok (.invokevirtual 108, 3)) (kk : Wz k d h1 (pc + 3) ls (.int r :: st)) : Wz k d h pc ls st0 := x_callVI (C := RX11) (T := TX11) (N := 12) (n := 3) o As st hM hlv (by decide) hi rfl wRL_108 wm_X11_dialect ws_X11_dialect wn_RX11 wc_X11_dialect (by decide +kernel) hst hn hr hdg kk
theorem wRL_111 : Cond.methodLink RL 111 yX12_dialect ∈ xtb := xtb_m 1585 (by decide +kernel) rfl
theorem wc_X12_dialect : Cond.code yX12_dialect cX12_dialect 7 (some .int) ∈ xtb := xtb_m 1588 (by decide +kernel) rfl
theorem wm_X12_dialect : Cond.instanceMethod yX12_dialect ∈ xtb := xtb_m 1586 (by decide +kernel) rfl
theorem ws_X12_dialect : Cond.selects RX12 yX12_dialect yX12_dialect ∈ xtb := xtb_m 1587 (by decide +kernel) rfl
theorem vRL_111 {k : Kst} {d : Kdy} {cc : ByteArray} {nL lev lv : Nat} {h h1 : Hp} {pc : Nat} {ls : List (Nat × Value)} {st0 : List Value} {i : Nat} {r : Int32} (As st : List Value) (o : Ok k d cc RL nL lev) (hM : MI k lv yX12_dialect cX12_dialect 7 (some .int) (.ref (ka k i) :: As) h r h1) (hlv : lv + 1 ≤ lev) (hi : kd i = (0, 11)) (hst : st0 = As.reverse ++ .ref (ka k i) :: st) (hn : As.length = 3) (hr : (st.map fun v => v.category).sum ≤ 8) (hdg : decode cc pc = .ok (.invokevirtual 111, 3)) (kk : Wz k d h1 (pc + 3) ls (.int r :: st)) : Wz k d h pc ls st0 := x_callVI (C := RX12) (T := TX12) (N := 51) (n := 3) o As st hM hlv (by decide) hi rfl wRL_111 wm_X12_dialect ws_X12_dialect wn_RX12 wc_X12_dialect (by decide +kernel) hst hn hr hdg kk
theorem wRL_112 : Cond.methodLink RL 112 yX11_owed ∈ xtb := xtb_m 1036 (by decide +kernel) rfl
theorem wc_X11_owed : Cond.code yX11_owed cX11_owed 3 (some .int) ∈ xtb := xtb_m 1039 (by decide +kernel) rfl
theorem wm_X11_owed : Cond.instanceMethod yX11_owed ∈ xtb := xtb_m 1037 (by decide +kernel) rfl
theorem ws_X11_owed : Cond.selects RX11 yX11_owed yX11_owed ∈ xtb := xtb_m 1038 (by decide +kernel) rfl
theorem vRL_112 {k : Kst} {d : Kdy} {cc : ByteArray} {nL lev lv : Nat} {h h1 : Hp} {pc : Nat} {ls : List (Nat × Value)} {st0 : List Value} {i : Nat} {r : Int32} (As st : List Value) (o : Ok k d cc RL nL lev) (hM : MI k lv yX11_owed cX11_owed 3 (some .int) (.ref (ka k i) :: As) h r h1) (hlv : lv + 1 ≤ lev) (hi : kd i = (0, 10)) (hst : st0 = As.reverse ++ .ref (ka k i) :: st) (hn : As.length = 2) (hr : (st.map fun v => v.category).sum ≤ 8) (hdg : decode cc pc = .ok (.invokevirtual 112, 3)) (kk : Wz k d h1 (pc + 3) ls (.int r :: st)) : Wz k d h pc ls st0 := x_callVI (C := RX11) (T := TX11) (N := 12) (n := 2) o As st hM hlv (by decide) hi rfl wRL_112 wm_X11_owed ws_X11_owed wn_RX11 wc_X11_owed (by decide +kernel) hst hn hr hdg kk
theorem wRL_115 : Cond.methodLink RL 115 yX12_owed ∈ xtb := xtb_m 1592 (by decide +kernel) rfl
theorem wc_X12_owed : Cond.code yX12_owed cX12_owed 5 (some .int) ∈ xtb := xtb_m 1595 (by decide +kernel) rfl
theorem wm_X12_owed : Cond.instanceMethod yX12_owed ∈ xtb := xtb_m 1593 (by decide +kernel) rfl
theorem ws_X12_owed : Cond.selects RX12 yX12_owed yX12_owed ∈ xtb := xtb_m 1594 (by decide +kernel) rfl
theorem vRL_115 {k : Kst} {d : Kdy} {cc : ByteArray} {nL lev lv : Nat} {h h1 : Hp} {pc : Nat} {ls : List (Nat × Value)} {st0 : List Value} {i : Nat} {r : Int32} (As st : List Value) (o : Ok k d cc RL nL lev) (hM : MI k lv yX12_owed cX12_owed 5 (some .int) (.ref (ka k i) :: As) h r h1) (hlv : lv + 1 ≤ lev) (hi : kd i = (0, 11)) (hst : st0 = As.reverse ++ .ref (ka k i) :: st) (hn : As.length = 2) (hr : (st.map fun v => v.category).sum ≤ 8) (hdg : decode cc pc = .ok (.invokevirtual 115, 3)) (kk : Wz k d h1 (pc + 3) ls (.int r :: st)) : Wz k d h pc ls st0 := x_callVI (C := RX12) (T := TX12) (N := 51) (n := 2) o As st hM hlv (by decide) hi rfl wRL_115 wm_X12_owed ws_X12_owed wn_RX12 wc_X12_owed (by decide +kernel) hst hn hr hdg kk
theorem wRL_116 : Cond.methodLink RL 116 yX11_seed ∈ xtb := xtb_m 1043 (by decide +kernel) rfl
theorem wc_X11_seed : Cond.code yX11_seed cX11_seed 2 (some .boolean) ∈ xtb := xtb_m 1046 (by decide +kernel) rfl
theorem wm_X11_seed : Cond.instanceMethod yX11_seed ∈ xtb := xtb_m 1044 (by decide +kernel) rfl
theorem ws_X11_seed : Cond.selects RX11 yX11_seed yX11_seed ∈ xtb := xtb_m 1045 (by decide +kernel) rfl
theorem vRL_116 {k : Kst} {d : Kdy} {cc : ByteArray} {nL lev lv : Nat} {h h1 : Hp} {pc : Nat} {ls : List (Nat × Value)} {st0 : List Value} {i : Nat} {r : Int32} (As st : List Value) (o : Ok k d cc RL nL lev) (hM : MI k lv yX11_seed cX11_seed 2 (some .boolean) (.ref (ka k i) :: As) h r h1) (hlv : lv + 1 ≤ lev) (hi : kd i = (0, 10)) (hst : st0 = As.reverse ++ .ref (ka k i) :: st) (hn : As.length = 1) (hr : (st.map fun v => v.category).sum ≤ 8) (hdg : decode cc pc = .ok (.invokevirtual 116, 3)) (kk : Wz k d h1 (pc + 3) ls (.int r :: st)) : Wz k d h pc ls st0 := x_callVI (C := RX11) (T := TX11) (N := 12) (n := 1) o As st hM hlv (by decide) hi rfl wRL_116 wm_X11_seed ws_X11_seed wn_RX11 wc_X11_seed (by decide +kernel) hst hn hr hdg kk
theorem wRL_119 : Cond.methodLink RL 119 yX12_seed ∈ xtb := xtb_m 1596 (by decide +kernel) rfl
theorem wc_X12_seed : Cond.code yX12_seed cX12_seed 2 (some .boolean) ∈ xtb := xtb_m 1599 (by decide +kernel) rfl
theorem wm_X12_seed : Cond.instanceMethod yX12_seed ∈ xtb := xtb_m 1597 (by decide +kernel) rfl
theorem ws_X12_seed : Cond.selects RX12 yX12_seed yX12_seed ∈ xtb := xtb_m 1598 (by decide +kernel) rfl
theorem vRL_119 {k : Kst} {d : Kdy} {cc : ByteArray} {nL lev lv : Nat} {h h1 : Hp} {pc : Nat} {ls : List (Nat × Value)} {st0 : List Value} {i : Nat} {r : Int32} (As st : List Value) (o : Ok k d cc RL nL lev) (hM : MI k lv yX12_seed cX12_seed 2 (some .boolean) (.ref (ka k i) :: As) h r h1) (hlv : lv + 1 ≤ lev) (hi : kd i = (0, 11)) (hst : st0 = As.reverse ++ .ref (ka k i) :: st) (hn : As.length = 1) (hr : (st.map fun v => v.category).sum ≤ 8) (hdg : decode cc pc = .ok (.invokevirtual 119, 3)) (kk : Wz k d h1 (pc + 3) ls (.int r :: st)) : Wz k d h pc ls st0 := x_callVI (C := RX12) (T := TX12) (N := 51) (n := 1) o As st hM hlv (by decide) hi rfl wRL_119 wm_X12_seed ws_X12_seed wn_RX12 wc_X12_seed (by decide +kernel) hst hn hr hdg kk
theorem wRL_120 : Cond.methodLink RL 120 yX11_keep ∈ xtb := xtb_m 1048 (by decide +kernel) rfl
theorem wc_X11_keep : Cond.code yX11_keep cX11_keep 1 (some .int) ∈ xtb := xtb_m 1051 (by decide +kernel) rfl
theorem wm_X11_keep : Cond.instanceMethod yX11_keep ∈ xtb := xtb_m 1049 (by decide +kernel) rfl
theorem ws_X11_keep : Cond.selects RX11 yX11_keep yX11_keep ∈ xtb := xtb_m 1050 (by decide +kernel) rfl
theorem vRL_120 {k : Kst} {d : Kdy} {cc : ByteArray} {nL lev lv : Nat} {h h1 : Hp} {pc : Nat} {ls : List (Nat × Value)} {st0 : List Value} {i : Nat} {r : Int32} (As st : List Value) (o : Ok k d cc RL nL lev) (hM : MI k lv yX11_keep cX11_keep 1 (some .int) (.ref (ka k i) :: As) h r h1) (hlv : lv + 1 ≤ lev) (hi : kd i = (0, 10)) (hst : st0 = As.reverse ++ .ref (ka k i) :: st) (hn : As.length = 0) (hr : (st.map fun v => v.category).sum ≤ 8) (hdg : decode cc pc = .ok (.invokevirtual 120, 3)) (kk : Wz k d h1 (pc + 3) ls (.int r :: st)) : Wz k d h pc ls st0 := x_callVI (C := RX11) (T := TX11) (N := 12) (n := 0) o As st hM hlv (by decide) hi rfl wRL_120 wm_X11_keep ws_X11_keep wn_RX11 wc_X11_keep (by decide +kernel) hst hn hr hdg kk
theorem wRL_123 : Cond.methodLink RL 123 yX12_keep ∈ xtb := xtb_m 1601 (by decide +kernel) rfl
theorem wc_X12_keep : Cond.code yX12_keep cX12_keep 1 (some .int) ∈ xtb := xtb_m 1604 (by decide +kernel) rfl
theorem wm_X12_keep : Cond.instanceMethod yX12_keep ∈ xtb := xtb_m 1602 (by decide +kernel) rfl
theorem ws_X12_keep : Cond.selects RX12 yX12_keep yX12_keep ∈ xtb := xtb_m 1603 (by decide +kernel) rfl
theorem vRL_123 {k : Kst} {d : Kdy} {cc : ByteArray} {nL lev lv : Nat} {h h1 : Hp} {pc : Nat} {ls : List (Nat × Value)} {st0 : List Value} {i : Nat} {r : Int32} (As st : List Value) (o : Ok k d cc RL nL lev) (hM : MI k lv yX12_keep cX12_keep 1 (some .int) (.ref (ka k i) :: As) h r h1) (hlv : lv + 1 ≤ lev) (hi : kd i = (0, 11)) (hst : st0 = As.reverse ++ .ref (ka k i) :: st) (hn : As.length = 0) (hr : (st.map fun v => v.category).sum ≤ 8) (hdg : decode cc pc = .ok (.invokevirtual 123, 3)) (kk : Wz k d h1 (pc + 3) ls (.int r :: st)) : Wz k d h pc ls st0 := x_callVI (C := RX12) (T := TX12) (N := 51) (n := 0) o As st hM hlv (by decide) hi rfl wRL_123 wm_X12_keep ws_X12_keep wn_RX12 wc_X12_keep (by decide +kernel) hst hn hr hdg kk
theorem wRL_124 : Cond.methodLink RL 124 yX11_undo ∈ xtb := xtb_m 1052 (by decide +kernel) rfl
theorem wc_X11_undo : Cond.code yX11_undo cX11_undo 1 (some .boolean) ∈ xtb := xtb_m 1055 (by decide +kernel) rfl
theorem wm_X11_undo : Cond.instanceMethod yX11_undo ∈ xtb := xtb_m 1053 (by decide +kernel) rfl
theorem ws_X11_undo : Cond.selects RX11 yX11_undo yX11_undo ∈ xtb := xtb_m 1054 (by decide +kernel) rfl
theorem vRL_124 {k : Kst} {d : Kdy} {cc : ByteArray} {nL lev lv : Nat} {h h1 : Hp} {pc : Nat} {ls : List (Nat × Value)} {st0 : List Value} {i : Nat} {r : Int32} (As st : List Value) (o : Ok k d cc RL nL lev) (hM : MI k lv yX11_undo cX11_undo 1 (some .boolean) (.ref (ka k i) :: As) h r h1) (hlv : lv + 1 ≤ lev) (hi : kd i = (0, 10)) (hst : st0 = As.reverse ++ .ref (ka k i) :: st) (hn : As.length = 0) (hr : (st.map fun v => v.category).sum ≤ 8) (hdg : decode cc pc = .ok (.invokevirtual 124, 3)) (kk : Wz k d h1 (pc + 3) ls (.int r :: st)) : Wz k d h pc ls st0 := x_callVI (C := RX11) (T := TX11) (N := 12) (n := 0) o As st hM hlv (by decide) hi rfl wRL_124 wm_X11_undo ws_X11_undo wn_RX11 wc_X11_undo (by decide +kernel) hst hn hr hdg kk
theorem wRL_128 : Cond.methodLink RL 128 yX12_undo ∈ xtb := xtb_m 1605 (by decide +kernel) rfl
theorem wc_X12_undo : Cond.code yX12_undo cX12_undo 1 (some .boolean) ∈ xtb := xtb_m 1608 (by decide +kernel) rfl
theorem wm_X12_undo : Cond.instanceMethod yX12_undo ∈ xtb := xtb_m 1606 (by decide +kernel) rfl
theorem ws_X12_undo : Cond.selects RX12 yX12_undo yX12_undo ∈ xtb := xtb_m 1607 (by decide +kernel) rfl
theorem vRL_128 {k : Kst} {d : Kdy} {cc : ByteArray} {nL lev lv : Nat} {h h1 : Hp} {pc : Nat} {ls : List (Nat × Value)} {st0 : List Value} {i : Nat} {r : Int32} (As st : List Value) (o : Ok k d cc RL nL lev) (hM : MI k lv yX12_undo cX12_undo 1 (some .boolean) (.ref (ka k i) :: As) h r h1) (hlv : lv + 1 ≤ lev) (hi : kd i = (0, 11)) (hst : st0 = As.reverse ++ .ref (ka k i) :: st) (hn : As.length = 0) (hr : (st.map fun v => v.category).sum ≤ 8) (hdg : decode cc pc = .ok (.invokevirtual 128, 3)) (kk : Wz k d h1 (pc + 3) ls (.int r :: st)) : Wz k d h pc ls st0 := x_callVI (C := RX12) (T := TX12) (N := 51) (n := 0) o As st hM hlv (by decide) hi rfl wRL_128 wm_X12_undo ws_X12_undo wn_RX12 wc_X12_undo (by decide +kernel) hst hn hr hdg kk
theorem wRL_129 : Cond.methodLink RL 129 yX11_check ∈ xtb := xtb_m 1056 (by decide +kernel) rfl
theorem wc_X11_check : Cond.code yX11_check cX11_check 2 (some .int) ∈ xtb := xtb_m 1059 (by decide +kernel) rfl
theorem wm_X11_check : Cond.instanceMethod yX11_check ∈ xtb := xtb_m 1057 (by decide +kernel) rfl
theorem ws_X11_check : Cond.selects RX11 yX11_check yX11_check ∈ xtb := xtb_m 1058 (by decide +kernel) rfl
theorem vRL_129 {k : Kst} {d : Kdy} {cc : ByteArray} {nL lev lv : Nat} {h h1 : Hp} {pc : Nat} {ls : List (Nat × Value)} {st0 : List Value} {i : Nat} {r : Int32} (As st : List Value) (o : Ok k d cc RL nL lev) (hM : MI k lv yX11_check cX11_check 2 (some .int) (.ref (ka k i) :: As) h r h1) (hlv : lv + 1 ≤ lev) (hi : kd i = (0, 10)) (hst : st0 = As.reverse ++ .ref (ka k i) :: st) (hn : As.length = 0) (hr : (st.map fun v => v.category).sum ≤ 8) (hdg : decode cc pc = .ok (.invokevirtual 129, 3)) (kk : Wz k d h1 (pc + 3) ls (.int r :: st)) : Wz k d h pc ls st0 := x_callVI (C := RX11) (T := TX11) (N := 12) (n := 0) o As st hM hlv (by decide) hi rfl wRL_129 wm_X11_check ws_X11_check wn_RX11 wc_X11_check (by decide +kernel) hst hn hr hdg kk
theorem wRL_132 : Cond.methodLink RL 132 yX12_check ∈ xtb := xtb_m 1609 (by decide +kernel) rfl
theorem wc_X12_check : Cond.code yX12_check cX12_check 1 (some .int) ∈ xtb := xtb_m 1612 (by decide +kernel) rfl
theorem wm_X12_check : Cond.instanceMethod yX12_check ∈ xtb := xtb_m 1610 (by decide +kernel) rfl
theorem ws_X12_check : Cond.selects RX12 yX12_check yX12_check ∈ xtb := xtb_m 1611 (by decide +kernel) rfl
theorem vRL_132 {k : Kst} {d : Kdy} {cc : ByteArray} {nL lev lv : Nat} {h h1 : Hp} {pc : Nat} {ls : List (Nat × Value)} {st0 : List Value} {i : Nat} {r : Int32} (As st : List Value) (o : Ok k d cc RL nL lev) (hM : MI k lv yX12_check cX12_check 1 (some .int) (.ref (ka k i) :: As) h r h1) (hlv : lv + 1 ≤ lev) (hi : kd i = (0, 11)) (hst : st0 = As.reverse ++ .ref (ka k i) :: st) (hn : As.length = 0) (hr : (st.map fun v => v.category).sum ≤ 8) (hdg : decode cc pc = .ok (.invokevirtual 132, 3)) (kk : Wz k d h1 (pc + 3) ls (.int r :: st)) : Wz k d h pc ls st0 := x_callVI (C := RX12) (T := TX12) (N := 51) (n := 0) o As st hM hlv (by decide) hi rfl wRL_132 wm_X12_check ws_X12_check wn_RX12 wc_X12_check (by decide +kernel) hst hn hr hdg kk
theorem wRL_133 : Cond.methodLink RL 133 yX11_count ∈ xtb := xtb_m 1064 (by decide +kernel) rfl
theorem wc_X11_count : Cond.code yX11_count cX11_count 2 (some .int) ∈ xtb := xtb_m 1067 (by decide +kernel) rfl
theorem wm_X11_count : Cond.instanceMethod yX11_count ∈ xtb := xtb_m 1065 (by decide +kernel) rfl
theorem ws_X11_count : Cond.selects RX11 yX11_count yX11_count ∈ xtb := xtb_m 1066 (by decide +kernel) rfl
theorem vRL_133 {k : Kst} {d : Kdy} {cc : ByteArray} {nL lev lv : Nat} {h h1 : Hp} {pc : Nat} {ls : List (Nat × Value)} {st0 : List Value} {i : Nat} {r : Int32} (As st : List Value) (o : Ok k d cc RL nL lev) (hM : MI k lv yX11_count cX11_count 2 (some .int) (.ref (ka k i) :: As) h r h1) (hlv : lv + 1 ≤ lev) (hi : kd i = (0, 10)) (hst : st0 = As.reverse ++ .ref (ka k i) :: st) (hn : As.length = 1) (hr : (st.map fun v => v.category).sum ≤ 8) (hdg : decode cc pc = .ok (.invokevirtual 133, 3)) (kk : Wz k d h1 (pc + 3) ls (.int r :: st)) : Wz k d h pc ls st0 := x_callVI (C := RX11) (T := TX11) (N := 12) (n := 1) o As st hM hlv (by decide) hi rfl wRL_133 wm_X11_count ws_X11_count wn_RX11 wc_X11_count (by decide +kernel) hst hn hr hdg kk
theorem wRL_136 : Cond.methodLink RL 136 yX12_count ∈ xtb := xtb_m 1613 (by decide +kernel) rfl
theorem wc_X12_count : Cond.code yX12_count cX12_count 2 (some .int) ∈ xtb := xtb_m 1616 (by decide +kernel) rfl
theorem wm_X12_count : Cond.instanceMethod yX12_count ∈ xtb := xtb_m 1614 (by decide +kernel) rfl
theorem ws_X12_count : Cond.selects RX12 yX12_count yX12_count ∈ xtb := xtb_m 1615 (by decide +kernel) rfl
theorem vRL_136 {k : Kst} {d : Kdy} {cc : ByteArray} {nL lev lv : Nat} {h h1 : Hp} {pc : Nat} {ls : List (Nat × Value)} {st0 : List Value} {i : Nat} {r : Int32} (As st : List Value) (o : Ok k d cc RL nL lev) (hM : MI k lv yX12_count cX12_count 2 (some .int) (.ref (ka k i) :: As) h r h1) (hlv : lv + 1 ≤ lev) (hi : kd i = (0, 11)) (hst : st0 = As.reverse ++ .ref (ka k i) :: st) (hn : As.length = 1) (hr : (st.map fun v => v.category).sum ≤ 8) (hdg : decode cc pc = .ok (.invokevirtual 136, 3)) (kk : Wz k d h1 (pc + 3) ls (.int r :: st)) : Wz k d h pc ls st0 := x_callVI (C := RX12) (T := TX12) (N := 51) (n := 1) o As st hM hlv (by decide) hi rfl wRL_136 wm_X12_count ws_X12_count wn_RX12 wc_X12_count (by decide +kernel) hst hn hr hdg kk
def L_law_1071 (F : Nat) (xs : Nat → Int32) (L : Nat) (k18 : Int32 → Hp → Option (Int32 × Hp)) (x3 : Int32) (h : Hp) : Option (Int32 × Hp) :=
  bd (x3 + 6) fun x3_1 =>
  k18 x3_1 h
def L_law_18 (F : Nat) (xs : Nat → Int32) (L : Nat) : Nat → Int32 → Hp → Option (Int32 × Hp)
  | 0, _, _ => none
  | f + 1, x3, h =>
  if ((Int32.ofNat L) - 6) < x3 then (
    some (1, h)
  ) else (
    gq (inb x3 L) <|
    bd (((xs (ix x3)) &&& 31)) fun t_3 =>
    if t_3 = 0 then (
      gq (inb (x3 + 1) L) <|
      bq (X11_tilt F 0 (xs (ix (x3 + 1))) h) fun c_6 h_7 =>
      gq (inb (x3 + 1) L) <|
      bq (X12_tilt F 49 (xs (ix (x3 + 1))) h_7) fun c_9 h_10 =>
      if c_6 = c_9 then (
        L_law_1071 F xs L (L_law_18 F xs L f) x3 h_10
      ) else (
        some (0, h_10)
      )
    ) else (
    if t_3 = 1 then (
      gq (inb (x3 + 1) L) <|
      gq (inb (x3 + 2) L) <|
      gq (inb (x3 + 3) L) <|
      gq (inb (x3 + 4) L) <|
      gq (inb (x3 + 5) L) <|
      bq (X11_feed F 0 (xs (ix (x3 + 1))) (xs (ix (x3 + 2))) (xs (ix (x3 + 3))) (xs (ix (x3 + 4))) (xs (ix (x3 + 5))) h) fun c_18 h_19 =>
      gq (inb (x3 + 1) L) <|
      gq (inb (x3 + 2) L) <|
      gq (inb (x3 + 3) L) <|
      gq (inb (x3 + 4) L) <|
      gq (inb (x3 + 5) L) <|
      bq (X12_feed F 49 (xs (ix (x3 + 1))) (xs (ix (x3 + 2))) (xs (ix (x3 + 3))) (xs (ix (x3 + 4))) (xs (ix (x3 + 5))) h_19) fun c_25 h_26 =>
      if c_18 = c_25 then (
        L_law_1071 F xs L (L_law_18 F xs L f) x3 h_26
      ) else (
        some (0, h_26)
      )
    ) else (
    if t_3 = 2 then (
      gq (inb (x3 + 1) L) <|
      bq (X11_law F 0 (xs (ix (x3 + 1))) h) fun c_30 h_31 =>
      gq (inb (x3 + 1) L) <|
      bq (X12_law F 49 (xs (ix (x3 + 1))) h_31) fun c_33 h_34 =>
      if c_30 = c_33 then (
        L_law_1071 F xs L (L_law_18 F xs L f) x3 h_34
      ) else (
        some (0, h_34)
      )
    ) else (
    if t_3 = 3 then (
      gq (inb (x3 + 1) L) <|
      gq (inb (x3 + 2) L) <|
      bq (X11_plan F 0 (xs (ix (x3 + 1))) (xs (ix (x3 + 2))) h) fun c_39 h_40 =>
      gq (inb (x3 + 1) L) <|
      gq (inb (x3 + 2) L) <|
      bq (X12_plan F 49 (xs (ix (x3 + 1))) (xs (ix (x3 + 2))) h_40) fun c_43 h_44 =>
      if c_39 = c_43 then (
        L_law_1071 F xs L (L_law_18 F xs L f) x3 h_44
      ) else (
        some (0, h_44)
      )
    ) else (
    if t_3 = 4 then (
      gq (inb (x3 + 1) L) <|
      bq (X11_orders F 0 (xs (ix (x3 + 1))) h) fun c_48 h_49 =>
      gq (inb (x3 + 1) L) <|
      bq (X12_orders F 49 (xs (ix (x3 + 1))) h_49) fun c_51 h_52 =>
      if c_48 = c_51 then (
        L_law_1071 F xs L (L_law_18 F xs L f) x3 h_52
      ) else (
        some (0, h_52)
      )
    ) else (
    if t_3 = 5 then (
      gq (inb (x3 + 1) L) <|
      bq (X11_days F 0 (xs (ix (x3 + 1))) h) fun c_56 h_57 =>
      gq (inb (x3 + 1) L) <|
      bq (X12_days F 49 (xs (ix (x3 + 1))) h_57) fun c_59 h_60 =>
      if c_56 = c_59 then (
        L_law_1071 F xs L (L_law_18 F xs L f) x3 h_60
      ) else (
        some (0, h_60)
      )
    ) else (
    if t_3 = 6 then (
      gq (inb (x3 + 1) L) <|
      gq (inb (x3 + 2) L) <|
      bq (X11_tried F 0 (xs (ix (x3 + 1))) (xs (ix (x3 + 2))) h) fun c_65 h_66 =>
      gq (inb (x3 + 1) L) <|
      gq (inb (x3 + 2) L) <|
      bq (X12_tried F 49 (xs (ix (x3 + 1))) (xs (ix (x3 + 2))) h_66) fun c_69 h_70 =>
      if c_65 = c_69 then (
        L_law_1071 F xs L (L_law_18 F xs L f) x3 h_70
      ) else (
        some (0, h_70)
      )
    ) else (
    if t_3 = 7 then (
      gq (inb (x3 + 1) L) <|
      gq (inb (x3 + 2) L) <|
      (X11_sideIs F 0 (xs (ix (x3 + 1))) (xs (ix (x3 + 2))) h).bind fun c_75 =>
      gq (inb (x3 + 1) L) <|
      gq (inb (x3 + 2) L) <|
      (X12_sideIs F 49 (xs (ix (x3 + 1))) (xs (ix (x3 + 2))) h).bind fun c_79 =>
      if c_75 = c_79 then (
        L_law_1071 F xs L (L_law_18 F xs L f) x3 h
      ) else (
        some (0, h)
      )
    ) else (
    if t_3 = 8 then (
      gq (inb (x3 + 1) L) <|
      gq (inb (x3 + 2) L) <|
      gq (inb (x3 + 3) L) <|
      (X11_archIs F 0 (xs (ix (x3 + 1))) (xs (ix (x3 + 2))) (xs (ix (x3 + 3))) h).bind fun c_86 =>
      gq (inb (x3 + 1) L) <|
      gq (inb (x3 + 2) L) <|
      gq (inb (x3 + 3) L) <|
      (X12_archIs F 49 (xs (ix (x3 + 1))) (xs (ix (x3 + 2))) (xs (ix (x3 + 3))) h).bind fun c_91 =>
      if c_86 = c_91 then (
        L_law_1071 F xs L (L_law_18 F xs L f) x3 h
      ) else (
        some (0, h)
      )
    ) else (
    if t_3 = 9 then (
      gq (inb (x3 + 1) L) <|
      gq (inb (x3 + 2) L) <|
      bq (X11_touches F 0 (xs (ix (x3 + 1))) (xs (ix (x3 + 2))) h) fun c_97 h_98 =>
      gq (inb (x3 + 1) L) <|
      gq (inb (x3 + 2) L) <|
      bq (X12_touches F 49 (xs (ix (x3 + 1))) (xs (ix (x3 + 2))) h_98) fun c_101 h_102 =>
      if c_97 = c_101 then (
        L_law_1071 F xs L (L_law_18 F xs L f) x3 h_102
      ) else (
        some (0, h_102)
      )
    ) else (
    if t_3 = 10 then (
      gq (inb (x3 + 1) L) <|
      bq (X11_ahead F 0 (xs (ix (x3 + 1))) h) fun c_106 h_107 =>
      gq (inb (x3 + 1) L) <|
      bq (X12_ahead F 49 (xs (ix (x3 + 1))) h_107) fun c_109 h_110 =>
      if c_106 = c_109 then (
        L_law_1071 F xs L (L_law_18 F xs L f) x3 h_110
      ) else (
        some (0, h_110)
      )
    ) else (
    if t_3 = 11 then (
      gq (inb (x3 + 1) L) <|
      gq (inb (x3 + 2) L) <|
      bq (X11_beyond F 0 (xs (ix (x3 + 1))) (xs (ix (x3 + 2))) h) fun c_115 h_116 =>
      gq (inb (x3 + 1) L) <|
      gq (inb (x3 + 2) L) <|
      bq (X12_beyond F 49 (xs (ix (x3 + 1))) (xs (ix (x3 + 2))) h_116) fun c_119 h_120 =>
      if c_115 = c_119 then (
        L_law_1071 F xs L (L_law_18 F xs L f) x3 h_120
      ) else (
        some (0, h_120)
      )
    ) else (
    if t_3 = 12 then (
      gq (inb (x3 + 1) L) <|
      gq (inb (x3 + 2) L) <|
      bq (X11_even F 0 (xs (ix (x3 + 1))) (xs (ix (x3 + 2))) h) fun c_125 h_126 =>
      gq (inb (x3 + 1) L) <|
      gq (inb (x3 + 2) L) <|
      bq (X12_even F 49 (xs (ix (x3 + 1))) (xs (ix (x3 + 2))) h_126) fun c_129 h_130 =>
      if c_125 = c_129 then (
        L_law_1071 F xs L (L_law_18 F xs L f) x3 h_130
      ) else (
        some (0, h_130)
      )
    ) else (
    if t_3 = 13 then (
      bq (X11_inARow F 0 h) fun c_133 h_134 =>
      bq (X12_inARow F 49 h_134) fun c_135 h_136 =>
      if c_133 = c_135 then (
        L_law_1071 F xs L (L_law_18 F xs L f) x3 h_136
      ) else (
        some (0, h_136)
      )
    ) else (
    if t_3 = 14 then (
      gq (inb (x3 + 1) L) <|
      gq (inb (x3 + 2) L) <|
      gq (inb (x3 + 3) L) <|
      gq (inb (x3 + 4) L) <|
      gq (inb (x3 + 5) L) <|
      (X11_ball F 0 (xs (ix (x3 + 1))) (xs (ix (x3 + 2))) (xs (ix (x3 + 3))) (xs (ix (x3 + 4))) (xs (ix (x3 + 5))) h).bind fun c_144 =>
      gq (inb (x3 + 1) L) <|
      gq (inb (x3 + 2) L) <|
      gq (inb (x3 + 3) L) <|
      gq (inb (x3 + 4) L) <|
      gq (inb (x3 + 5) L) <|
      (X12_ball F 49 (xs (ix (x3 + 1))) (xs (ix (x3 + 2))) (xs (ix (x3 + 3))) (xs (ix (x3 + 4))) (xs (ix (x3 + 5))) h).bind fun c_151 =>
      if c_144 = c_151 then (
        L_law_1071 F xs L (L_law_18 F xs L f) x3 h
      ) else (
        some (0, h)
      )
    ) else (
    if t_3 = 15 then (
      gq (inb (x3 + 1) L) <|
      gq (inb (x3 + 2) L) <|
      gq (inb (x3 + 3) L) <|
      gq (inb (x3 + 4) L) <|
      (X11_leastSpeed F 0 (xs (ix (x3 + 1))) (xs (ix (x3 + 2))) (xs (ix (x3 + 3))) (xs (ix (x3 + 4))) h).bind fun c_159 =>
      gq (inb (x3 + 1) L) <|
      gq (inb (x3 + 2) L) <|
      gq (inb (x3 + 3) L) <|
      gq (inb (x3 + 4) L) <|
      (X12_leastSpeed F 49 (xs (ix (x3 + 1))) (xs (ix (x3 + 2))) (xs (ix (x3 + 3))) (xs (ix (x3 + 4))) h).bind fun c_165 =>
      if c_159 = c_165 then (
        L_law_1071 F xs L (L_law_18 F xs L f) x3 h
      ) else (
        some (0, h)
      )
    ) else (
    if t_3 = 16 then (
      gq (inb (x3 + 1) L) <|
      gq (inb (x3 + 2) L) <|
      gq (inb (x3 + 3) L) <|
      bq (X11_piles F 0 (xs (ix (x3 + 1))) (xs (ix (x3 + 2))) (xs (ix (x3 + 3))) h) fun c_172 h_173 =>
      gq (inb (x3 + 1) L) <|
      gq (inb (x3 + 2) L) <|
      gq (inb (x3 + 3) L) <|
      bq (X12_piles F 49 (xs (ix (x3 + 1))) (xs (ix (x3 + 2))) (xs (ix (x3 + 3))) h_173) fun c_177 h_178 =>
      if c_172 = c_177 then (
        L_law_1071 F xs L (L_law_18 F xs L f) x3 h_178
      ) else (
        some (0, h_178)
      )
    ) else (
    if t_3 = 17 then (
      gq (inb (x3 + 1) L) <|
      gq (inb (x3 + 2) L) <|
      gq (inb (x3 + 3) L) <|
      bq (X11_lamps F 0 (xs (ix (x3 + 1))) (xs (ix (x3 + 2))) (xs (ix (x3 + 3))) h) fun c_184 h_185 =>
      gq (inb (x3 + 1) L) <|
      gq (inb (x3 + 2) L) <|
      gq (inb (x3 + 3) L) <|
      bq (X12_lamps F 49 (xs (ix (x3 + 1))) (xs (ix (x3 + 2))) (xs (ix (x3 + 3))) h_185) fun c_189 h_190 =>
      if c_184 = c_189 then (
        L_law_1071 F xs L (L_law_18 F xs L f) x3 h_190
      ) else (
        some (0, h_190)
      )
    ) else (
    if t_3 = 18 then (
      gq (inb (x3 + 1) L) <|
      gq (inb (x3 + 2) L) <|
      bq (X11_claims F 0 (xs (ix (x3 + 1))) (xs (ix (x3 + 2))) h) fun c_195 h_196 =>
      gq (inb (x3 + 1) L) <|
      gq (inb (x3 + 2) L) <|
      bq (X12_claims F 49 (xs (ix (x3 + 1))) (xs (ix (x3 + 2))) h_196) fun c_199 h_200 =>
      if c_195 = c_199 then (
        L_law_1071 F xs L (L_law_18 F xs L f) x3 h_200
      ) else (
        some (0, h_200)
      )
    ) else (
    if t_3 = 19 then (
      gq (inb (x3 + 1) L) <|
      bq (X11_rowed F 0 (xs (ix (x3 + 1))) h) fun c_204 h_205 =>
      gq (inb (x3 + 1) L) <|
      bq (X12_rowed F 49 (xs (ix (x3 + 1))) h_205) fun c_207 h_208 =>
      if c_204 = c_207 then (
        L_law_1071 F xs L (L_law_18 F xs L f) x3 h_208
      ) else (
        some (0, h_208)
      )
    ) else (
    if t_3 = 20 then (
      gq (inb (x3 + 1) L) <|
      gq (inb (x3 + 2) L) <|
      bq (X11_wed F 0 (xs (ix (x3 + 1))) (xs (ix (x3 + 2))) h) fun c_213 h_214 =>
      gq (inb (x3 + 1) L) <|
      gq (inb (x3 + 2) L) <|
      bq (X12_wed F 49 (xs (ix (x3 + 1))) (xs (ix (x3 + 2))) h_214) fun c_217 h_218 =>
      if c_213 = c_217 then (
        L_law_1071 F xs L (L_law_18 F xs L f) x3 h_218
      ) else (
        some (0, h_218)
      )
    ) else (
    if t_3 = 21 then (
      gq (inb (x3 + 1) L) <|
      bq (X11_changes F 0 (xs (ix (x3 + 1))) h) fun c_222 h_223 =>
      gq (inb (x3 + 1) L) <|
      bq (X12_changes F 49 (xs (ix (x3 + 1))) h_223) fun c_225 h_226 =>
      if c_222 = c_225 then (
        L_law_1071 F xs L (L_law_18 F xs L f) x3 h_226
      ) else (
        some (0, h_226)
      )
    ) else (
    if t_3 = 22 then (
      gq (inb (x3 + 1) L) <|
      gq (inb (x3 + 2) L) <|
      gq (inb (x3 + 3) L) <|
      (X11_dialect F 0 (xs (ix (x3 + 1))) (xs (ix (x3 + 2))) (xs (ix (x3 + 3))) h).bind fun c_232 =>
      gq (inb (x3 + 1) L) <|
      gq (inb (x3 + 2) L) <|
      gq (inb (x3 + 3) L) <|
      (X12_dialect F 49 (xs (ix (x3 + 1))) (xs (ix (x3 + 2))) (xs (ix (x3 + 3))) h).bind fun c_237 =>
      if c_232 = c_237 then (
        L_law_1071 F xs L (L_law_18 F xs L f) x3 h
      ) else (
        some (0, h)
      )
    ) else (
    if t_3 = 23 then (
      gq (inb (x3 + 1) L) <|
      gq (inb (x3 + 2) L) <|
      (X11_owed F 0 (xs (ix (x3 + 1))) (xs (ix (x3 + 2))) h).bind fun c_243 =>
      gq (inb (x3 + 1) L) <|
      gq (inb (x3 + 2) L) <|
      (X12_owed F 49 (xs (ix (x3 + 1))) (xs (ix (x3 + 2))) h).bind fun c_247 =>
      if c_243 = c_247 then (
        L_law_1071 F xs L (L_law_18 F xs L f) x3 h
      ) else (
        some (0, h)
      )
    ) else (
    if t_3 = 24 then (
      gq (inb (x3 + 1) L) <|
      bq (X11_seed F 0 (xs (ix (x3 + 1))) h) fun c_252 h_253 =>
      gq (inb (x3 + 1) L) <|
      bq (X12_seed F 49 (xs (ix (x3 + 1))) h_253) fun c_255 h_256 =>
      if c_252 = c_255 then (
        L_law_1071 F xs L (L_law_18 F xs L f) x3 h_256
      ) else (
        some (0, h_256)
      )
    ) else (
    if t_3 = 25 then (
      bq (X11_keep F 0 h) fun c_259 h_260 =>
      bq (X12_keep F 49 h_260) fun c_261 h_262 =>
      if c_259 = c_261 then (
        L_law_1071 F xs L (L_law_18 F xs L f) x3 h_262
      ) else (
        some (0, h_262)
      )
    ) else (
    if t_3 = 26 then (
      bq (X11_undo F 0 h) fun c_265 h_266 =>
      bq (X12_undo F 49 h_266) fun c_267 h_268 =>
      if c_265 = c_267 then (
        L_law_1071 F xs L (L_law_18 F xs L f) x3 h_268
      ) else (
        some (0, h_268)
      )
    ) else (
    if t_3 = 27 then (
      bq (X11_check F 0 h) fun c_271 h_272 =>
      bq (X12_check F 49 h_272) fun c_273 h_274 =>
      if c_271 = c_273 then (
        L_law_1071 F xs L (L_law_18 F xs L f) x3 h_274
      ) else (
        some (0, h_274)
      )
    ) else (
    if t_3 = 28 then (
      gq (inb (x3 + 1) L) <|
      (X11_count F 0 (xs (ix (x3 + 1))) h).bind fun c_278 =>
      gq (inb (x3 + 1) L) <|
      (X12_count F 49 (xs (ix (x3 + 1))) h).bind fun c_281 =>
      if c_278 = c_281 then (
        L_law_1071 F xs L (L_law_18 F xs L f) x3 h
      ) else (
        some (0, h)
      )
    ) else (
    L_law_1071 F xs L (L_law_18 F xs L f) x3 h
    )))))))))))))))))))))))))))))
  )
section rows8
variable {k : Kst} {d : Kdy} {cc : ByteArray} {own : String} {nL lev : Nat} {h : Hp} {pc : Nat} {ls : List (Nat × Value)} {st : List Value}
theorem y_sld (o : Ok k d cc own nL lev) {b L : Nat} {xs : Nat → Int32} (hX : va_X b L xs (ds d) (ds d).heap) (hbl : b < (ds d).heap.size) (hbA : ¬ kA k b) {i : Int32} (hi : inb i L) (hdg : decode cc pc = .ok (.iaload, 1)) (kk : Wz k d h (pc + 1) ls (.int (xs (ix i)) :: st)) : Wz k d h pc ls (.int i :: .ref b :: st) := fun H locs la hP hS hl => va_sld o.1.1 o.1.2.1 hX hbl hbA hS (vin_of hi) hdg (kk H locs la hP hS hl)
theorem y_slen (o : Ok k d cc own nL lev) {b L : Nat} {xs : Nat → Int32} (hX : va_X b L xs (ds d) (ds d).heap) (hbl : b < (ds d).heap.size) (hbA : ¬ kA k b) (hdg : decode cc pc = .ok (.arraylength, 1)) (kk : Wz k d h (pc + 1) ls (.int (Int32.ofNat L) :: st)) : Wz k d h pc ls (.ref b :: st) := fun H locs la hP hS hl => va_slen o.1.1 o.1.2.1 hX hbl hbA hS hdg (kk H locs la hP hS hl)
theorem z_astore_n (o : Okc k d cc own nL lev) {n : Fin 4} {i : Nat} {x : Nat} (hdg : decode cc pc = .ok (.astore_n n, 1)) (hi : i < nL) (hn : (n : Nat) = i) (ls' : List (Nat × Value)) (hl' : (i, Value.ref x) :: ls.filter (fun q => !(q.1 == i) && !(q.1 + 1 == i && q.2.category == 2)) = ls') (kk : Wz k d h (pc + 1) ls' st) : Wz k d h pc ls (.ref x :: st) := fun H locs la hP hS hl => lv_astore_n o.1 o.2.1 hdg hn hl (by rw [o.2.2.1]; exact hi) hl' (fun la' hl2 => kk H locs la' hP hS hl2)
theorem z_istore_n (o : Okc k d cc own nL lev) {n : Fin 4} {i : Nat} {x : Int32} (hdg : decode cc pc = .ok (.istore_n n, 1)) (hi : i < nL) (hn : (n : Nat) = i) (ls' : List (Nat × Value)) (hl' : (i, Value.int x) :: ls.filter (fun q => !(q.1 == i) && !(q.1 + 1 == i && q.2.category == 2)) = ls') (kk : Wz k d h (pc + 1) ls' st) : Wz k d h pc ls (.int x :: st) := fun H locs la hP hS hl => lv_istore_n o.1 o.2.1 hdg hn hl (by rw [o.2.2.1]; exact hi) hl' (fun la' hl2 => kk H locs la' hP hS hl2)
theorem z_widen {c s c' s' : Nat} (h1 : c ≤ c') (h2 : s ≤ s') (kk : Wz k (dw d c' s') h pc ls st) : Wz k (dw d c s) h pc ls st := fun H locs la hP hS hl => W.widen h1 h2 (kk H locs la hP hS hl)
end rows8
set_option maxRecDepth 100000 in
set_option maxHeartbeats 4000000 in
theorem S_L_law_1071 {k : Kst} {d : Kdy} (o : Ok k d cL_law RL 4 131) (F : Nat) {b L : Nat} {xs : Nat → Int32} (hX : va_X b L xs (ds d) (ds d).heap) (hbl : b < (ds d).heap.size) (hbA : ¬ kA k b) {k18 : Int32 → Hp → Option (Int32 × Hp)} (hk18 : ∀ {h : Hp} {x3 : Int32} {r : Int32} {h1 : Hp}, k18 x3 h = some (r, h1) → RZ k d cL_law r h1 → Wz k d h 18 [(0, .ref b), (1, .ref (ka k 0)), (2, .ref (ka k 49)), (3, .int x3)] []) {h : Hp} {x3 : Int32} {r : Int32} {h1 : Hp} (hf : L_law_1071 F xs L k18 x3 h = some (r, h1)) (hr : RZ k d cL_law r h1) : Wz k d h 1071 [(0, .ref b), (1, .ref (ka k 0)), (2, .ref (ka k 49)), (3, .int x3)] [] := by
  unfold L_law_1071 at hf
  obtain ⟨x3_1, ex3_1, hf⟩ := bd_ex hf
  refine x_iinc o dL_law_1071 (by decide) 3 rfl ex3_1.symm [(3, .int x3_1), (0, .ref b), (1, .ref (ka k 0)), (2, .ref (ka k 49))] rfl ?_
  refine x_goto o 18 dL_law_1074 (by decide) ?_
  refine x_sub [1, 2, 3, 0] [(0, .ref b), (1, .ref (ka k 0)), (2, .ref (ka k 49)), (3, .int x3_1)] rfl ?_
  exact hk18 hf hr
set_option maxRecDepth 100000 in
set_option maxHeartbeats 4000000 in
theorem S_L_law_18 {k : Kst} {d : Kdy} (o : Ok k d cL_law RL 4 131) (F : Nat) {b L : Nat} {xs : Nat → Int32} (hX : va_X b L xs (ds d) (ds d).heap) (hbl : b < (ds d).heap.size) (hbA : ¬ kA k b) : ∀ (f : Nat) {h : Hp} {x3 : Int32} {r : Int32} {h1 : Hp}, L_law_18 F xs L f x3 h = some (r, h1) → RZ k d cL_law r h1 → Wz k d h 18 [(0, .ref b), (1, .ref (ka k 0)), (2, .ref (ka k 49)), (3, .int x3)] [] := by
  intro f
  induction f with
  | zero =>
    intro h x3 r h1 hf hr
    exact nomatch (show (none : Option _) = some _ from hf)
  | succ f ih =>
    intro h x3 r h1 hf hr
    rw [L_law_18] at hf
    refine x_iload_n o dL_law_18 3 rfl rfl ?_
    refine x_aload_n o dL_law_19 0 rfl rfl ?_
    refine y_slen o hX hbl hbA dL_law_20 ?_
    refine x_bipush (v := 6) o dL_law_21 (by decide) ?_
    refine x_isub o dL_law_23 ?_
    refine x_icmp_gt o 1077 dL_law_24 (by decide) (fun q_1 => ?_) (fun q_1 => ?_)
    · replace hf := (if_pos q_1).symm.trans hf
      refine x_iconst (v := 1) o dL_law_1077 (by decide) ?_
      cases hf
      exact hr (Or.inr rfl) _ _ dL_law_1078
    · replace hf := (if_neg q_1).symm.trans hf
      refine x_aload_n o dL_law_27 0 rfl rfl ?_
      refine x_iload_n o dL_law_28 3 rfl rfl ?_
      obtain ⟨b_2, hf⟩ := gq_ex hf
      refine y_sld o hX hbl hbA b_2 dL_law_29 ?_
      refine x_bipush (v := 31) o dL_law_30 (by decide) ?_
      refine x_iand o dL_law_32 ?_
      obtain ⟨t_3, et_3, hf⟩ := bd_ex hf
      refine x_top et_3 ?_
      by_cases q_4 : t_3 = 0
      · replace hf := (if_pos q_4).symm.trans hf
        refine x_tabi (v := 0) o 164 q_4 (by decide) (by decide) rfl (by decide) dL_law_33 ?_
        refine x_aload_n o dL_law_164 1 rfl rfl ?_
        refine x_aload_n o dL_law_165 0 rfl rfl ?_
        refine x_iload_n o dL_law_166 3 rfl rfl ?_
        refine x_iconst (v := 1) o dL_law_167 (by decide) ?_
        refine x_iadd o dL_law_168 ?_
        obtain ⟨b_5, hf⟩ := gq_ex hf
        refine y_sld o hX hbl hbA b_5 dL_law_169 ?_
        obtain ⟨c_6, h_7, ec_6, hf⟩ := bq_ex hf
        refine vRL_13 [.int (xs (ix (x3 + 1)))] [] o (C_X11_tilt o.1.2.2.2.2.2.2.1 o.2 F ec_6) (by decide) (rfl : kd 0 = (0, 10)) rfl rfl (Nat.le_of_ble_eq_true rfl) dL_law_170 ?_
        refine x_aload_n o dL_law_173 2 rfl rfl ?_
        refine x_aload_n o dL_law_174 0 rfl rfl ?_
        refine x_iload_n o dL_law_175 3 rfl rfl ?_
        refine x_iconst (v := 1) o dL_law_176 (by decide) ?_
        refine x_iadd o dL_law_177 ?_
        obtain ⟨b_8, hf⟩ := gq_ex hf
        refine y_sld o hX hbl hbA b_8 dL_law_178 ?_
        obtain ⟨c_9, h_10, ec_9, hf⟩ := bq_ex hf
        refine vRL_17 [.int (xs (ix (x3 + 1)))] [.int c_6] o (C_X12_tilt o.1.2.2.2.2.2.2.1 o.2 F ec_9) (by decide) (rfl : kd 49 = (0, 11)) rfl rfl (Nat.le_of_ble_eq_true rfl) dL_law_179 ?_
        refine x_icmp_eq o 1071 dL_law_182 (by decide) (fun q_11 => ?_) (fun q_11 => ?_)
        · replace hf := (if_pos q_11).symm.trans hf
          refine x_sub [0, 1, 2, 3] [(0, .ref b), (1, .ref (ka k 0)), (2, .ref (ka k 49)), (3, .int x3)] rfl ?_
          exact S_L_law_1071 o F hX hbl hbA (fun q1 q2 => ih q1 q2) hf hr
        · replace hf := (if_neg q_11).symm.trans hf
          refine x_iconst (v := 0) o dL_law_185 (by decide) ?_
          cases hf
          exact hr (Or.inl rfl) _ _ dL_law_186
      replace hf := (if_neg q_4).symm.trans hf
      by_cases q_12 : t_3 = 1
      · replace hf := (if_pos q_12).symm.trans hf
        refine x_tabi (v := 1) o 187 q_12 (by decide) (by decide) rfl (by decide) dL_law_33 ?_
        refine x_aload_n o dL_law_187 1 rfl rfl ?_
        refine x_aload_n o dL_law_188 0 rfl rfl ?_
        refine x_iload_n o dL_law_189 3 rfl rfl ?_
        refine x_iconst (v := 1) o dL_law_190 (by decide) ?_
        refine x_iadd o dL_law_191 ?_
        obtain ⟨b_13, hf⟩ := gq_ex hf
        refine y_sld o hX hbl hbA b_13 dL_law_192 ?_
        refine x_aload_n o dL_law_193 0 rfl rfl ?_
        refine x_iload_n o dL_law_194 3 rfl rfl ?_
        refine x_iconst (v := 2) o dL_law_195 (by decide) ?_
        refine x_iadd o dL_law_196 ?_
        obtain ⟨b_14, hf⟩ := gq_ex hf
        refine y_sld o hX hbl hbA b_14 dL_law_197 ?_
        refine x_aload_n o dL_law_198 0 rfl rfl ?_
        refine x_iload_n o dL_law_199 3 rfl rfl ?_
        refine x_iconst (v := 3) o dL_law_200 (by decide) ?_
        refine x_iadd o dL_law_201 ?_
        obtain ⟨b_15, hf⟩ := gq_ex hf
        refine y_sld o hX hbl hbA b_15 dL_law_202 ?_
        refine x_aload_n o dL_law_203 0 rfl rfl ?_
        refine x_iload_n o dL_law_204 3 rfl rfl ?_
        refine x_iconst (v := 4) o dL_law_205 (by decide) ?_
        refine x_iadd o dL_law_206 ?_
        obtain ⟨b_16, hf⟩ := gq_ex hf
        refine y_sld o hX hbl hbA b_16 dL_law_207 ?_
        refine x_aload_n o dL_law_208 0 rfl rfl ?_
        refine x_iload_n o dL_law_209 3 rfl rfl ?_
        refine x_iconst (v := 5) o dL_law_210 (by decide) ?_
        refine x_iadd o dL_law_211 ?_
        obtain ⟨b_17, hf⟩ := gq_ex hf
        refine y_sld o hX hbl hbA b_17 dL_law_212 ?_
        obtain ⟨c_18, h_19, ec_18, hf⟩ := bq_ex hf
        refine vRL_18 [.int (xs (ix (x3 + 1))), .int (xs (ix (x3 + 2))), .int (xs (ix (x3 + 3))), .int (xs (ix (x3 + 4))), .int (xs (ix (x3 + 5)))] [] o (C_X11_feed o.1.2.2.2.2.2.2.1 o.2 F ec_18) (by decide) (rfl : kd 0 = (0, 10)) rfl rfl (Nat.le_of_ble_eq_true rfl) dL_law_213 ?_
        refine x_aload_n o dL_law_216 2 rfl rfl ?_
        refine x_aload_n o dL_law_217 0 rfl rfl ?_
        refine x_iload_n o dL_law_218 3 rfl rfl ?_
        refine x_iconst (v := 1) o dL_law_219 (by decide) ?_
        refine x_iadd o dL_law_220 ?_
        obtain ⟨b_20, hf⟩ := gq_ex hf
        refine y_sld o hX hbl hbA b_20 dL_law_221 ?_
        refine x_aload_n o dL_law_222 0 rfl rfl ?_
        refine x_iload_n o dL_law_223 3 rfl rfl ?_
        refine x_iconst (v := 2) o dL_law_224 (by decide) ?_
        refine x_iadd o dL_law_225 ?_
        obtain ⟨b_21, hf⟩ := gq_ex hf
        refine y_sld o hX hbl hbA b_21 dL_law_226 ?_
        refine x_aload_n o dL_law_227 0 rfl rfl ?_
        refine x_iload_n o dL_law_228 3 rfl rfl ?_
        refine x_iconst (v := 3) o dL_law_229 (by decide) ?_
        refine x_iadd o dL_law_230 ?_
        obtain ⟨b_22, hf⟩ := gq_ex hf
        refine y_sld o hX hbl hbA b_22 dL_law_231 ?_
        refine x_aload_n o dL_law_232 0 rfl rfl ?_
        refine x_iload_n o dL_law_233 3 rfl rfl ?_
        refine x_iconst (v := 4) o dL_law_234 (by decide) ?_
        refine x_iadd o dL_law_235 ?_
        obtain ⟨b_23, hf⟩ := gq_ex hf
        refine y_sld o hX hbl hbA b_23 dL_law_236 ?_
        refine x_aload_n o dL_law_237 0 rfl rfl ?_
        refine x_iload_n o dL_law_238 3 rfl rfl ?_
        refine x_iconst (v := 5) o dL_law_239 (by decide) ?_
        refine x_iadd o dL_law_240 ?_
        obtain ⟨b_24, hf⟩ := gq_ex hf
        refine y_sld o hX hbl hbA b_24 dL_law_241 ?_
        obtain ⟨c_25, h_26, ec_25, hf⟩ := bq_ex hf
        refine vRL_22 [.int (xs (ix (x3 + 1))), .int (xs (ix (x3 + 2))), .int (xs (ix (x3 + 3))), .int (xs (ix (x3 + 4))), .int (xs (ix (x3 + 5)))] [.int c_18] o (C_X12_feed o.1.2.2.2.2.2.2.1 o.2 F ec_25) (by decide) (rfl : kd 49 = (0, 11)) rfl rfl (Nat.le_of_ble_eq_true rfl) dL_law_242 ?_
        refine x_icmp_eq o 1071 dL_law_245 (by decide) (fun q_27 => ?_) (fun q_27 => ?_)
        · replace hf := (if_pos q_27).symm.trans hf
          refine x_sub [0, 1, 2, 3] [(0, .ref b), (1, .ref (ka k 0)), (2, .ref (ka k 49)), (3, .int x3)] rfl ?_
          exact S_L_law_1071 o F hX hbl hbA (fun q1 q2 => ih q1 q2) hf hr
        · replace hf := (if_neg q_27).symm.trans hf
          refine x_iconst (v := 0) o dL_law_248 (by decide) ?_
          cases hf
          exact hr (Or.inl rfl) _ _ dL_law_249
      replace hf := (if_neg q_12).symm.trans hf
      by_cases q_28 : t_3 = 2
      · replace hf := (if_pos q_28).symm.trans hf
        refine x_tabi (v := 2) o 250 q_28 (by decide) (by decide) rfl (by decide) dL_law_33 ?_
        refine x_aload_n o dL_law_250 1 rfl rfl ?_
        refine x_aload_n o dL_law_251 0 rfl rfl ?_
        refine x_iload_n o dL_law_252 3 rfl rfl ?_
        refine x_iconst (v := 1) o dL_law_253 (by decide) ?_
        refine x_iadd o dL_law_254 ?_
        obtain ⟨b_29, hf⟩ := gq_ex hf
        refine y_sld o hX hbl hbA b_29 dL_law_255 ?_
        obtain ⟨c_30, h_31, ec_30, hf⟩ := bq_ex hf
        refine vRL_23 [.int (xs (ix (x3 + 1)))] [] o (C_X11_law o.1.2.2.2.2.2.2.1 o.2 F ec_30) (by decide) (rfl : kd 0 = (0, 10)) rfl rfl (Nat.le_of_ble_eq_true rfl) dL_law_256 ?_
        refine x_aload_n o dL_law_259 2 rfl rfl ?_
        refine x_aload_n o dL_law_260 0 rfl rfl ?_
        refine x_iload_n o dL_law_261 3 rfl rfl ?_
        refine x_iconst (v := 1) o dL_law_262 (by decide) ?_
        refine x_iadd o dL_law_263 ?_
        obtain ⟨b_32, hf⟩ := gq_ex hf
        refine y_sld o hX hbl hbA b_32 dL_law_264 ?_
        obtain ⟨c_33, h_34, ec_33, hf⟩ := bq_ex hf
        refine vRL_27 [.int (xs (ix (x3 + 1)))] [.int c_30] o (C_X12_law o.1.2.2.2.2.2.2.1 o.2 F ec_33) (by decide) (rfl : kd 49 = (0, 11)) rfl rfl (Nat.le_of_ble_eq_true rfl) dL_law_265 ?_
        refine x_icmp_eq o 1071 dL_law_268 (by decide) (fun q_35 => ?_) (fun q_35 => ?_)
        · replace hf := (if_pos q_35).symm.trans hf
          refine x_sub [0, 1, 2, 3] [(0, .ref b), (1, .ref (ka k 0)), (2, .ref (ka k 49)), (3, .int x3)] rfl ?_
          exact S_L_law_1071 o F hX hbl hbA (fun q1 q2 => ih q1 q2) hf hr
        · replace hf := (if_neg q_35).symm.trans hf
          refine x_iconst (v := 0) o dL_law_271 (by decide) ?_
          cases hf
          exact hr (Or.inl rfl) _ _ dL_law_272
      replace hf := (if_neg q_28).symm.trans hf
      by_cases q_36 : t_3 = 3
      · replace hf := (if_pos q_36).symm.trans hf
        refine x_tabi (v := 3) o 273 q_36 (by decide) (by decide) rfl (by decide) dL_law_33 ?_
        refine x_aload_n o dL_law_273 1 rfl rfl ?_
        refine x_aload_n o dL_law_274 0 rfl rfl ?_
        refine x_iload_n o dL_law_275 3 rfl rfl ?_
        refine x_iconst (v := 1) o dL_law_276 (by decide) ?_
        refine x_iadd o dL_law_277 ?_
        obtain ⟨b_37, hf⟩ := gq_ex hf
        refine y_sld o hX hbl hbA b_37 dL_law_278 ?_
        refine x_aload_n o dL_law_279 0 rfl rfl ?_
        refine x_iload_n o dL_law_280 3 rfl rfl ?_
        refine x_iconst (v := 2) o dL_law_281 (by decide) ?_
        refine x_iadd o dL_law_282 ?_
        obtain ⟨b_38, hf⟩ := gq_ex hf
        refine y_sld o hX hbl hbA b_38 dL_law_283 ?_
        obtain ⟨c_39, h_40, ec_39, hf⟩ := bq_ex hf
        refine vRL_28 [.int (xs (ix (x3 + 1))), .int (xs (ix (x3 + 2)))] [] o (C_X11_plan o.1.2.2.2.2.2.2.1 o.2 F ec_39) (by decide) (rfl : kd 0 = (0, 10)) rfl rfl (Nat.le_of_ble_eq_true rfl) dL_law_284 ?_
        refine x_aload_n o dL_law_287 2 rfl rfl ?_
        refine x_aload_n o dL_law_288 0 rfl rfl ?_
        refine x_iload_n o dL_law_289 3 rfl rfl ?_
        refine x_iconst (v := 1) o dL_law_290 (by decide) ?_
        refine x_iadd o dL_law_291 ?_
        obtain ⟨b_41, hf⟩ := gq_ex hf
        refine y_sld o hX hbl hbA b_41 dL_law_292 ?_
        refine x_aload_n o dL_law_293 0 rfl rfl ?_
        refine x_iload_n o dL_law_294 3 rfl rfl ?_
        refine x_iconst (v := 2) o dL_law_295 (by decide) ?_
        refine x_iadd o dL_law_296 ?_
        obtain ⟨b_42, hf⟩ := gq_ex hf
        refine y_sld o hX hbl hbA b_42 dL_law_297 ?_
        obtain ⟨c_43, h_44, ec_43, hf⟩ := bq_ex hf
        refine vRL_32 [.int (xs (ix (x3 + 1))), .int (xs (ix (x3 + 2)))] [.int c_39] o (C_X12_plan o.1.2.2.2.2.2.2.1 o.2 F ec_43) (by decide) (rfl : kd 49 = (0, 11)) rfl rfl (Nat.le_of_ble_eq_true rfl) dL_law_298 ?_
        refine x_icmp_eq o 1071 dL_law_301 (by decide) (fun q_45 => ?_) (fun q_45 => ?_)
        · replace hf := (if_pos q_45).symm.trans hf
          refine x_sub [0, 1, 2, 3] [(0, .ref b), (1, .ref (ka k 0)), (2, .ref (ka k 49)), (3, .int x3)] rfl ?_
          exact S_L_law_1071 o F hX hbl hbA (fun q1 q2 => ih q1 q2) hf hr
        · replace hf := (if_neg q_45).symm.trans hf
          refine x_iconst (v := 0) o dL_law_304 (by decide) ?_
          cases hf
          exact hr (Or.inl rfl) _ _ dL_law_305
      replace hf := (if_neg q_36).symm.trans hf
      by_cases q_46 : t_3 = 4
      · replace hf := (if_pos q_46).symm.trans hf
        refine x_tabi (v := 4) o 306 q_46 (by decide) (by decide) rfl (by decide) dL_law_33 ?_
        refine x_aload_n o dL_law_306 1 rfl rfl ?_
        refine x_aload_n o dL_law_307 0 rfl rfl ?_
        refine x_iload_n o dL_law_308 3 rfl rfl ?_
        refine x_iconst (v := 1) o dL_law_309 (by decide) ?_
        refine x_iadd o dL_law_310 ?_
        obtain ⟨b_47, hf⟩ := gq_ex hf
        refine y_sld o hX hbl hbA b_47 dL_law_311 ?_
        obtain ⟨c_48, h_49, ec_48, hf⟩ := bq_ex hf
        refine vRL_33 [.int (xs (ix (x3 + 1)))] [] o (C_X11_orders o.1.2.2.2.2.2.2.1 o.2 F ec_48) (by decide) (rfl : kd 0 = (0, 10)) rfl rfl (Nat.le_of_ble_eq_true rfl) dL_law_312 ?_
        refine x_aload_n o dL_law_315 2 rfl rfl ?_
        refine x_aload_n o dL_law_316 0 rfl rfl ?_
        refine x_iload_n o dL_law_317 3 rfl rfl ?_
        refine x_iconst (v := 1) o dL_law_318 (by decide) ?_
        refine x_iadd o dL_law_319 ?_
        obtain ⟨b_50, hf⟩ := gq_ex hf
        refine y_sld o hX hbl hbA b_50 dL_law_320 ?_
        obtain ⟨c_51, h_52, ec_51, hf⟩ := bq_ex hf
        refine vRL_36 [.int (xs (ix (x3 + 1)))] [.int c_48] o (C_X12_orders o.1.2.2.2.2.2.2.1 o.2 F ec_51) (by decide) (rfl : kd 49 = (0, 11)) rfl rfl (Nat.le_of_ble_eq_true rfl) dL_law_321 ?_
        refine x_icmp_eq o 1071 dL_law_324 (by decide) (fun q_53 => ?_) (fun q_53 => ?_)
        · replace hf := (if_pos q_53).symm.trans hf
          refine x_sub [0, 1, 2, 3] [(0, .ref b), (1, .ref (ka k 0)), (2, .ref (ka k 49)), (3, .int x3)] rfl ?_
          exact S_L_law_1071 o F hX hbl hbA (fun q1 q2 => ih q1 q2) hf hr
        · replace hf := (if_neg q_53).symm.trans hf
          refine x_iconst (v := 0) o dL_law_327 (by decide) ?_
          cases hf
          exact hr (Or.inl rfl) _ _ dL_law_328
      replace hf := (if_neg q_46).symm.trans hf
      by_cases q_54 : t_3 = 5
      · replace hf := (if_pos q_54).symm.trans hf
        refine x_tabi (v := 5) o 329 q_54 (by decide) (by decide) rfl (by decide) dL_law_33 ?_
        refine x_aload_n o dL_law_329 1 rfl rfl ?_
        refine x_aload_n o dL_law_330 0 rfl rfl ?_
        refine x_iload_n o dL_law_331 3 rfl rfl ?_
        refine x_iconst (v := 1) o dL_law_332 (by decide) ?_
        refine x_iadd o dL_law_333 ?_
        obtain ⟨b_55, hf⟩ := gq_ex hf
        refine y_sld o hX hbl hbA b_55 dL_law_334 ?_
        obtain ⟨c_56, h_57, ec_56, hf⟩ := bq_ex hf
        refine vRL_37 [.int (xs (ix (x3 + 1)))] [] o (C_X11_days o.1.2.2.2.2.2.2.1 o.2 F ec_56) (by decide) (rfl : kd 0 = (0, 10)) rfl rfl (Nat.le_of_ble_eq_true rfl) dL_law_335 ?_
        refine x_aload_n o dL_law_338 2 rfl rfl ?_
        refine x_aload_n o dL_law_339 0 rfl rfl ?_
        refine x_iload_n o dL_law_340 3 rfl rfl ?_
        refine x_iconst (v := 1) o dL_law_341 (by decide) ?_
        refine x_iadd o dL_law_342 ?_
        obtain ⟨b_58, hf⟩ := gq_ex hf
        refine y_sld o hX hbl hbA b_58 dL_law_343 ?_
        obtain ⟨c_59, h_60, ec_59, hf⟩ := bq_ex hf
        refine vRL_40 [.int (xs (ix (x3 + 1)))] [.int c_56] o (C_X12_days o.1.2.2.2.2.2.2.1 o.2 F ec_59) (by decide) (rfl : kd 49 = (0, 11)) rfl rfl (Nat.le_of_ble_eq_true rfl) dL_law_344 ?_
        refine x_icmp_eq o 1071 dL_law_347 (by decide) (fun q_61 => ?_) (fun q_61 => ?_)
        · replace hf := (if_pos q_61).symm.trans hf
          refine x_sub [0, 1, 2, 3] [(0, .ref b), (1, .ref (ka k 0)), (2, .ref (ka k 49)), (3, .int x3)] rfl ?_
          exact S_L_law_1071 o F hX hbl hbA (fun q1 q2 => ih q1 q2) hf hr
        · replace hf := (if_neg q_61).symm.trans hf
          refine x_iconst (v := 0) o dL_law_350 (by decide) ?_
          cases hf
          exact hr (Or.inl rfl) _ _ dL_law_351
      replace hf := (if_neg q_54).symm.trans hf
      by_cases q_62 : t_3 = 6
      · replace hf := (if_pos q_62).symm.trans hf
        refine x_tabi (v := 6) o 352 q_62 (by decide) (by decide) rfl (by decide) dL_law_33 ?_
        refine x_aload_n o dL_law_352 1 rfl rfl ?_
        refine x_aload_n o dL_law_353 0 rfl rfl ?_
        refine x_iload_n o dL_law_354 3 rfl rfl ?_
        refine x_iconst (v := 1) o dL_law_355 (by decide) ?_
        refine x_iadd o dL_law_356 ?_
        obtain ⟨b_63, hf⟩ := gq_ex hf
        refine y_sld o hX hbl hbA b_63 dL_law_357 ?_
        refine x_aload_n o dL_law_358 0 rfl rfl ?_
        refine x_iload_n o dL_law_359 3 rfl rfl ?_
        refine x_iconst (v := 2) o dL_law_360 (by decide) ?_
        refine x_iadd o dL_law_361 ?_
        obtain ⟨b_64, hf⟩ := gq_ex hf
        refine y_sld o hX hbl hbA b_64 dL_law_362 ?_
        obtain ⟨c_65, h_66, ec_65, hf⟩ := bq_ex hf
        refine vRL_41 [.int (xs (ix (x3 + 1))), .int (xs (ix (x3 + 2)))] [] o (C_X11_tried o.1.2.2.2.2.2.2.1 o.2 F ec_65) (by decide) (rfl : kd 0 = (0, 10)) rfl rfl (Nat.le_of_ble_eq_true rfl) dL_law_363 ?_
        refine x_aload_n o dL_law_366 2 rfl rfl ?_
        refine x_aload_n o dL_law_367 0 rfl rfl ?_
        refine x_iload_n o dL_law_368 3 rfl rfl ?_
        refine x_iconst (v := 1) o dL_law_369 (by decide) ?_
        refine x_iadd o dL_law_370 ?_
        obtain ⟨b_67, hf⟩ := gq_ex hf
        refine y_sld o hX hbl hbA b_67 dL_law_371 ?_
        refine x_aload_n o dL_law_372 0 rfl rfl ?_
        refine x_iload_n o dL_law_373 3 rfl rfl ?_
        refine x_iconst (v := 2) o dL_law_374 (by decide) ?_
        refine x_iadd o dL_law_375 ?_
        obtain ⟨b_68, hf⟩ := gq_ex hf
        refine y_sld o hX hbl hbA b_68 dL_law_376 ?_
        obtain ⟨c_69, h_70, ec_69, hf⟩ := bq_ex hf
        refine vRL_44 [.int (xs (ix (x3 + 1))), .int (xs (ix (x3 + 2)))] [.int c_65] o (C_X12_tried o.1.2.2.2.2.2.2.1 o.2 F ec_69) (by decide) (rfl : kd 49 = (0, 11)) rfl rfl (Nat.le_of_ble_eq_true rfl) dL_law_377 ?_
        refine x_icmp_eq o 1071 dL_law_380 (by decide) (fun q_71 => ?_) (fun q_71 => ?_)
        · replace hf := (if_pos q_71).symm.trans hf
          refine x_sub [0, 1, 2, 3] [(0, .ref b), (1, .ref (ka k 0)), (2, .ref (ka k 49)), (3, .int x3)] rfl ?_
          exact S_L_law_1071 o F hX hbl hbA (fun q1 q2 => ih q1 q2) hf hr
        · replace hf := (if_neg q_71).symm.trans hf
          refine x_iconst (v := 0) o dL_law_383 (by decide) ?_
          cases hf
          exact hr (Or.inl rfl) _ _ dL_law_384
      replace hf := (if_neg q_62).symm.trans hf
      by_cases q_72 : t_3 = 7
      · replace hf := (if_pos q_72).symm.trans hf
        refine x_tabi (v := 7) o 385 q_72 (by decide) (by decide) rfl (by decide) dL_law_33 ?_
        refine x_aload_n o dL_law_385 1 rfl rfl ?_
        refine x_aload_n o dL_law_386 0 rfl rfl ?_
        refine x_iload_n o dL_law_387 3 rfl rfl ?_
        refine x_iconst (v := 1) o dL_law_388 (by decide) ?_
        refine x_iadd o dL_law_389 ?_
        obtain ⟨b_73, hf⟩ := gq_ex hf
        refine y_sld o hX hbl hbA b_73 dL_law_390 ?_
        refine x_aload_n o dL_law_391 0 rfl rfl ?_
        refine x_iload_n o dL_law_392 3 rfl rfl ?_
        refine x_iconst (v := 2) o dL_law_393 (by decide) ?_
        refine x_iadd o dL_law_394 ?_
        obtain ⟨b_74, hf⟩ := gq_ex hf
        refine y_sld o hX hbl hbA b_74 dL_law_395 ?_
        obtain ⟨c_75, ec_75, hf⟩ := ob_ex hf
        refine vRL_45 [.int (xs (ix (x3 + 1))), .int (xs (ix (x3 + 2)))] [] o (C_X11_sideIs o.1.2.2.2.2.2.2.1 o.2 F ec_75) (by decide) (rfl : kd 0 = (0, 10)) rfl rfl (Nat.le_of_ble_eq_true rfl) dL_law_396 ?_
        refine x_aload_n o dL_law_399 2 rfl rfl ?_
        refine x_aload_n o dL_law_400 0 rfl rfl ?_
        refine x_iload_n o dL_law_401 3 rfl rfl ?_
        refine x_iconst (v := 1) o dL_law_402 (by decide) ?_
        refine x_iadd o dL_law_403 ?_
        obtain ⟨b_77, hf⟩ := gq_ex hf
        refine y_sld o hX hbl hbA b_77 dL_law_404 ?_
        refine x_aload_n o dL_law_405 0 rfl rfl ?_
        refine x_iload_n o dL_law_406 3 rfl rfl ?_
        refine x_iconst (v := 2) o dL_law_407 (by decide) ?_
        refine x_iadd o dL_law_408 ?_
        obtain ⟨b_78, hf⟩ := gq_ex hf
        refine y_sld o hX hbl hbA b_78 dL_law_409 ?_
        obtain ⟨c_79, ec_79, hf⟩ := ob_ex hf
        refine vRL_48 [.int (xs (ix (x3 + 1))), .int (xs (ix (x3 + 2)))] [.int c_75] o (C_X12_sideIs o.1.2.2.2.2.2.2.1 o.2 F ec_79) (by decide) (rfl : kd 49 = (0, 11)) rfl rfl (Nat.le_of_ble_eq_true rfl) dL_law_410 ?_
        refine x_icmp_eq o 1071 dL_law_413 (by decide) (fun q_81 => ?_) (fun q_81 => ?_)
        · replace hf := (if_pos q_81).symm.trans hf
          refine x_sub [0, 1, 2, 3] [(0, .ref b), (1, .ref (ka k 0)), (2, .ref (ka k 49)), (3, .int x3)] rfl ?_
          exact S_L_law_1071 o F hX hbl hbA (fun q1 q2 => ih q1 q2) hf hr
        · replace hf := (if_neg q_81).symm.trans hf
          refine x_iconst (v := 0) o dL_law_416 (by decide) ?_
          cases hf
          exact hr (Or.inl rfl) _ _ dL_law_417
      replace hf := (if_neg q_72).symm.trans hf
      by_cases q_82 : t_3 = 8
      · replace hf := (if_pos q_82).symm.trans hf
        refine x_tabi (v := 8) o 418 q_82 (by decide) (by decide) rfl (by decide) dL_law_33 ?_
        refine x_aload_n o dL_law_418 1 rfl rfl ?_
        refine x_aload_n o dL_law_419 0 rfl rfl ?_
        refine x_iload_n o dL_law_420 3 rfl rfl ?_
        refine x_iconst (v := 1) o dL_law_421 (by decide) ?_
        refine x_iadd o dL_law_422 ?_
        obtain ⟨b_83, hf⟩ := gq_ex hf
        refine y_sld o hX hbl hbA b_83 dL_law_423 ?_
        refine x_aload_n o dL_law_424 0 rfl rfl ?_
        refine x_iload_n o dL_law_425 3 rfl rfl ?_
        refine x_iconst (v := 2) o dL_law_426 (by decide) ?_
        refine x_iadd o dL_law_427 ?_
        obtain ⟨b_84, hf⟩ := gq_ex hf
        refine y_sld o hX hbl hbA b_84 dL_law_428 ?_
        refine x_aload_n o dL_law_429 0 rfl rfl ?_
        refine x_iload_n o dL_law_430 3 rfl rfl ?_
        refine x_iconst (v := 3) o dL_law_431 (by decide) ?_
        refine x_iadd o dL_law_432 ?_
        obtain ⟨b_85, hf⟩ := gq_ex hf
        refine y_sld o hX hbl hbA b_85 dL_law_433 ?_
        obtain ⟨c_86, ec_86, hf⟩ := ob_ex hf
        refine vRL_49 [.int (xs (ix (x3 + 1))), .int (xs (ix (x3 + 2))), .int (xs (ix (x3 + 3)))] [] o (C_X11_archIs o.1.2.2.2.2.2.2.1 o.2 F ec_86) (by decide) (rfl : kd 0 = (0, 10)) rfl rfl (Nat.le_of_ble_eq_true rfl) dL_law_434 ?_
        refine x_aload_n o dL_law_437 2 rfl rfl ?_
        refine x_aload_n o dL_law_438 0 rfl rfl ?_
        refine x_iload_n o dL_law_439 3 rfl rfl ?_
        refine x_iconst (v := 1) o dL_law_440 (by decide) ?_
        refine x_iadd o dL_law_441 ?_
        obtain ⟨b_88, hf⟩ := gq_ex hf
        refine y_sld o hX hbl hbA b_88 dL_law_442 ?_
        refine x_aload_n o dL_law_443 0 rfl rfl ?_
        refine x_iload_n o dL_law_444 3 rfl rfl ?_
        refine x_iconst (v := 2) o dL_law_445 (by decide) ?_
        refine x_iadd o dL_law_446 ?_
        obtain ⟨b_89, hf⟩ := gq_ex hf
        refine y_sld o hX hbl hbA b_89 dL_law_447 ?_
        refine x_aload_n o dL_law_448 0 rfl rfl ?_
        refine x_iload_n o dL_law_449 3 rfl rfl ?_
        refine x_iconst (v := 3) o dL_law_450 (by decide) ?_
        refine x_iadd o dL_law_451 ?_
        obtain ⟨b_90, hf⟩ := gq_ex hf
        refine y_sld o hX hbl hbA b_90 dL_law_452 ?_
        obtain ⟨c_91, ec_91, hf⟩ := ob_ex hf
        refine vRL_53 [.int (xs (ix (x3 + 1))), .int (xs (ix (x3 + 2))), .int (xs (ix (x3 + 3)))] [.int c_86] o (C_X12_archIs o.1.2.2.2.2.2.2.1 o.2 F ec_91) (by decide) (rfl : kd 49 = (0, 11)) rfl rfl (Nat.le_of_ble_eq_true rfl) dL_law_453 ?_
        refine x_icmp_eq o 1071 dL_law_456 (by decide) (fun q_93 => ?_) (fun q_93 => ?_)
        · replace hf := (if_pos q_93).symm.trans hf
          refine x_sub [0, 1, 2, 3] [(0, .ref b), (1, .ref (ka k 0)), (2, .ref (ka k 49)), (3, .int x3)] rfl ?_
          exact S_L_law_1071 o F hX hbl hbA (fun q1 q2 => ih q1 q2) hf hr
        · replace hf := (if_neg q_93).symm.trans hf
          refine x_iconst (v := 0) o dL_law_459 (by decide) ?_
          cases hf
          exact hr (Or.inl rfl) _ _ dL_law_460
      replace hf := (if_neg q_82).symm.trans hf
      by_cases q_94 : t_3 = 9
      · replace hf := (if_pos q_94).symm.trans hf
        refine x_tabi (v := 9) o 461 q_94 (by decide) (by decide) rfl (by decide) dL_law_33 ?_
        refine x_aload_n o dL_law_461 1 rfl rfl ?_
        refine x_aload_n o dL_law_462 0 rfl rfl ?_
        refine x_iload_n o dL_law_463 3 rfl rfl ?_
        refine x_iconst (v := 1) o dL_law_464 (by decide) ?_
        refine x_iadd o dL_law_465 ?_
        obtain ⟨b_95, hf⟩ := gq_ex hf
        refine y_sld o hX hbl hbA b_95 dL_law_466 ?_
        refine x_aload_n o dL_law_467 0 rfl rfl ?_
        refine x_iload_n o dL_law_468 3 rfl rfl ?_
        refine x_iconst (v := 2) o dL_law_469 (by decide) ?_
        refine x_iadd o dL_law_470 ?_
        obtain ⟨b_96, hf⟩ := gq_ex hf
        refine y_sld o hX hbl hbA b_96 dL_law_471 ?_
        obtain ⟨c_97, h_98, ec_97, hf⟩ := bq_ex hf
        refine vRL_54 [.int (xs (ix (x3 + 1))), .int (xs (ix (x3 + 2)))] [] o (C_X11_touches o.1.2.2.2.2.2.2.1 o.2 F ec_97) (by decide) (rfl : kd 0 = (0, 10)) rfl rfl (Nat.le_of_ble_eq_true rfl) dL_law_472 ?_
        refine x_aload_n o dL_law_475 2 rfl rfl ?_
        refine x_aload_n o dL_law_476 0 rfl rfl ?_
        refine x_iload_n o dL_law_477 3 rfl rfl ?_
        refine x_iconst (v := 1) o dL_law_478 (by decide) ?_
        refine x_iadd o dL_law_479 ?_
        obtain ⟨b_99, hf⟩ := gq_ex hf
        refine y_sld o hX hbl hbA b_99 dL_law_480 ?_
        refine x_aload_n o dL_law_481 0 rfl rfl ?_
        refine x_iload_n o dL_law_482 3 rfl rfl ?_
        refine x_iconst (v := 2) o dL_law_483 (by decide) ?_
        refine x_iadd o dL_law_484 ?_
        obtain ⟨b_100, hf⟩ := gq_ex hf
        refine y_sld o hX hbl hbA b_100 dL_law_485 ?_
        obtain ⟨c_101, h_102, ec_101, hf⟩ := bq_ex hf
        refine vRL_57 [.int (xs (ix (x3 + 1))), .int (xs (ix (x3 + 2)))] [.int c_97] o (C_X12_touches o.1.2.2.2.2.2.2.1 o.2 F ec_101) (by decide) (rfl : kd 49 = (0, 11)) rfl rfl (Nat.le_of_ble_eq_true rfl) dL_law_486 ?_
        refine x_icmp_eq o 1071 dL_law_489 (by decide) (fun q_103 => ?_) (fun q_103 => ?_)
        · replace hf := (if_pos q_103).symm.trans hf
          refine x_sub [0, 1, 2, 3] [(0, .ref b), (1, .ref (ka k 0)), (2, .ref (ka k 49)), (3, .int x3)] rfl ?_
          exact S_L_law_1071 o F hX hbl hbA (fun q1 q2 => ih q1 q2) hf hr
        · replace hf := (if_neg q_103).symm.trans hf
          refine x_iconst (v := 0) o dL_law_492 (by decide) ?_
          cases hf
          exact hr (Or.inl rfl) _ _ dL_law_493
      replace hf := (if_neg q_94).symm.trans hf
      by_cases q_104 : t_3 = 10
      · replace hf := (if_pos q_104).symm.trans hf
        refine x_tabi (v := 10) o 494 q_104 (by decide) (by decide) rfl (by decide) dL_law_33 ?_
        refine x_aload_n o dL_law_494 1 rfl rfl ?_
        refine x_aload_n o dL_law_495 0 rfl rfl ?_
        refine x_iload_n o dL_law_496 3 rfl rfl ?_
        refine x_iconst (v := 1) o dL_law_497 (by decide) ?_
        refine x_iadd o dL_law_498 ?_
        obtain ⟨b_105, hf⟩ := gq_ex hf
        refine y_sld o hX hbl hbA b_105 dL_law_499 ?_
        obtain ⟨c_106, h_107, ec_106, hf⟩ := bq_ex hf
        refine vRL_58 [.int (xs (ix (x3 + 1)))] [] o (C_X11_ahead o.1.2.2.2.2.2.2.1 o.2 F ec_106) (by decide) (rfl : kd 0 = (0, 10)) rfl rfl (Nat.le_of_ble_eq_true rfl) dL_law_500 ?_
        refine x_aload_n o dL_law_503 2 rfl rfl ?_
        refine x_aload_n o dL_law_504 0 rfl rfl ?_
        refine x_iload_n o dL_law_505 3 rfl rfl ?_
        refine x_iconst (v := 1) o dL_law_506 (by decide) ?_
        refine x_iadd o dL_law_507 ?_
        obtain ⟨b_108, hf⟩ := gq_ex hf
        refine y_sld o hX hbl hbA b_108 dL_law_508 ?_
        obtain ⟨c_109, h_110, ec_109, hf⟩ := bq_ex hf
        refine vRL_61 [.int (xs (ix (x3 + 1)))] [.int c_106] o (C_X12_ahead o.1.2.2.2.2.2.2.1 o.2 F ec_109) (by decide) (rfl : kd 49 = (0, 11)) rfl rfl (Nat.le_of_ble_eq_true rfl) dL_law_509 ?_
        refine x_icmp_eq o 1071 dL_law_512 (by decide) (fun q_111 => ?_) (fun q_111 => ?_)
        · replace hf := (if_pos q_111).symm.trans hf
          refine x_sub [0, 1, 2, 3] [(0, .ref b), (1, .ref (ka k 0)), (2, .ref (ka k 49)), (3, .int x3)] rfl ?_
          exact S_L_law_1071 o F hX hbl hbA (fun q1 q2 => ih q1 q2) hf hr
        · replace hf := (if_neg q_111).symm.trans hf
          refine x_iconst (v := 0) o dL_law_515 (by decide) ?_
          cases hf
          exact hr (Or.inl rfl) _ _ dL_law_516
      replace hf := (if_neg q_104).symm.trans hf
      by_cases q_112 : t_3 = 11
      · replace hf := (if_pos q_112).symm.trans hf
        refine x_tabi (v := 11) o 517 q_112 (by decide) (by decide) rfl (by decide) dL_law_33 ?_
        refine x_aload_n o dL_law_517 1 rfl rfl ?_
        refine x_aload_n o dL_law_518 0 rfl rfl ?_
        refine x_iload_n o dL_law_519 3 rfl rfl ?_
        refine x_iconst (v := 1) o dL_law_520 (by decide) ?_
        refine x_iadd o dL_law_521 ?_
        obtain ⟨b_113, hf⟩ := gq_ex hf
        refine y_sld o hX hbl hbA b_113 dL_law_522 ?_
        refine x_aload_n o dL_law_523 0 rfl rfl ?_
        refine x_iload_n o dL_law_524 3 rfl rfl ?_
        refine x_iconst (v := 2) o dL_law_525 (by decide) ?_
        refine x_iadd o dL_law_526 ?_
        obtain ⟨b_114, hf⟩ := gq_ex hf
        refine y_sld o hX hbl hbA b_114 dL_law_527 ?_
        obtain ⟨c_115, h_116, ec_115, hf⟩ := bq_ex hf
        refine vRL_62 [.int (xs (ix (x3 + 1))), .int (xs (ix (x3 + 2)))] [] o (C_X11_beyond o.1.2.2.2.2.2.2.1 o.2 F ec_115) (by decide) (rfl : kd 0 = (0, 10)) rfl rfl (Nat.le_of_ble_eq_true rfl) dL_law_528 ?_
        refine x_aload_n o dL_law_531 2 rfl rfl ?_
        refine x_aload_n o dL_law_532 0 rfl rfl ?_
        refine x_iload_n o dL_law_533 3 rfl rfl ?_
        refine x_iconst (v := 1) o dL_law_534 (by decide) ?_
        refine x_iadd o dL_law_535 ?_
        obtain ⟨b_117, hf⟩ := gq_ex hf
        refine y_sld o hX hbl hbA b_117 dL_law_536 ?_
        refine x_aload_n o dL_law_537 0 rfl rfl ?_
        refine x_iload_n o dL_law_538 3 rfl rfl ?_
        refine x_iconst (v := 2) o dL_law_539 (by decide) ?_
        refine x_iadd o dL_law_540 ?_
        obtain ⟨b_118, hf⟩ := gq_ex hf
        refine y_sld o hX hbl hbA b_118 dL_law_541 ?_
        obtain ⟨c_119, h_120, ec_119, hf⟩ := bq_ex hf
        refine vRL_65 [.int (xs (ix (x3 + 1))), .int (xs (ix (x3 + 2)))] [.int c_115] o (C_X12_beyond o.1.2.2.2.2.2.2.1 o.2 F ec_119) (by decide) (rfl : kd 49 = (0, 11)) rfl rfl (Nat.le_of_ble_eq_true rfl) dL_law_542 ?_
        refine x_icmp_eq o 1071 dL_law_545 (by decide) (fun q_121 => ?_) (fun q_121 => ?_)
        · replace hf := (if_pos q_121).symm.trans hf
          refine x_sub [0, 1, 2, 3] [(0, .ref b), (1, .ref (ka k 0)), (2, .ref (ka k 49)), (3, .int x3)] rfl ?_
          exact S_L_law_1071 o F hX hbl hbA (fun q1 q2 => ih q1 q2) hf hr
        · replace hf := (if_neg q_121).symm.trans hf
          refine x_iconst (v := 0) o dL_law_548 (by decide) ?_
          cases hf
          exact hr (Or.inl rfl) _ _ dL_law_549
      replace hf := (if_neg q_112).symm.trans hf
      by_cases q_122 : t_3 = 12
      · replace hf := (if_pos q_122).symm.trans hf
        refine x_tabi (v := 12) o 550 q_122 (by decide) (by decide) rfl (by decide) dL_law_33 ?_
        refine x_aload_n o dL_law_550 1 rfl rfl ?_
        refine x_aload_n o dL_law_551 0 rfl rfl ?_
        refine x_iload_n o dL_law_552 3 rfl rfl ?_
        refine x_iconst (v := 1) o dL_law_553 (by decide) ?_
        refine x_iadd o dL_law_554 ?_
        obtain ⟨b_123, hf⟩ := gq_ex hf
        refine y_sld o hX hbl hbA b_123 dL_law_555 ?_
        refine x_aload_n o dL_law_556 0 rfl rfl ?_
        refine x_iload_n o dL_law_557 3 rfl rfl ?_
        refine x_iconst (v := 2) o dL_law_558 (by decide) ?_
        refine x_iadd o dL_law_559 ?_
        obtain ⟨b_124, hf⟩ := gq_ex hf
        refine y_sld o hX hbl hbA b_124 dL_law_560 ?_
        obtain ⟨c_125, h_126, ec_125, hf⟩ := bq_ex hf
        refine vRL_66 [.int (xs (ix (x3 + 1))), .int (xs (ix (x3 + 2)))] [] o (C_X11_even o.1.2.2.2.2.2.2.1 o.2 F ec_125) (by decide) (rfl : kd 0 = (0, 10)) rfl rfl (Nat.le_of_ble_eq_true rfl) dL_law_561 ?_
        refine x_aload_n o dL_law_564 2 rfl rfl ?_
        refine x_aload_n o dL_law_565 0 rfl rfl ?_
        refine x_iload_n o dL_law_566 3 rfl rfl ?_
        refine x_iconst (v := 1) o dL_law_567 (by decide) ?_
        refine x_iadd o dL_law_568 ?_
        obtain ⟨b_127, hf⟩ := gq_ex hf
        refine y_sld o hX hbl hbA b_127 dL_law_569 ?_
        refine x_aload_n o dL_law_570 0 rfl rfl ?_
        refine x_iload_n o dL_law_571 3 rfl rfl ?_
        refine x_iconst (v := 2) o dL_law_572 (by decide) ?_
        refine x_iadd o dL_law_573 ?_
        obtain ⟨b_128, hf⟩ := gq_ex hf
        refine y_sld o hX hbl hbA b_128 dL_law_574 ?_
        obtain ⟨c_129, h_130, ec_129, hf⟩ := bq_ex hf
        refine vRL_69 [.int (xs (ix (x3 + 1))), .int (xs (ix (x3 + 2)))] [.int c_125] o (C_X12_even o.1.2.2.2.2.2.2.1 o.2 F ec_129) (by decide) (rfl : kd 49 = (0, 11)) rfl rfl (Nat.le_of_ble_eq_true rfl) dL_law_575 ?_
        refine x_icmp_eq o 1071 dL_law_578 (by decide) (fun q_131 => ?_) (fun q_131 => ?_)
        · replace hf := (if_pos q_131).symm.trans hf
          refine x_sub [0, 1, 2, 3] [(0, .ref b), (1, .ref (ka k 0)), (2, .ref (ka k 49)), (3, .int x3)] rfl ?_
          exact S_L_law_1071 o F hX hbl hbA (fun q1 q2 => ih q1 q2) hf hr
        · replace hf := (if_neg q_131).symm.trans hf
          refine x_iconst (v := 0) o dL_law_581 (by decide) ?_
          cases hf
          exact hr (Or.inl rfl) _ _ dL_law_582
      replace hf := (if_neg q_122).symm.trans hf
      by_cases q_132 : t_3 = 13
      · replace hf := (if_pos q_132).symm.trans hf
        refine x_tabi (v := 13) o 583 q_132 (by decide) (by decide) rfl (by decide) dL_law_33 ?_
        refine x_aload_n o dL_law_583 1 rfl rfl ?_
        obtain ⟨c_133, h_134, ec_133, hf⟩ := bq_ex hf
        refine vRL_70 [] [] o (C_X11_inARow o.1.2.2.2.2.2.2.1 o.2 F ec_133) (by decide) (rfl : kd 0 = (0, 10)) rfl rfl (Nat.le_of_ble_eq_true rfl) dL_law_584 ?_
        refine x_aload_n o dL_law_587 2 rfl rfl ?_
        obtain ⟨c_135, h_136, ec_135, hf⟩ := bq_ex hf
        refine vRL_74 [] [.int c_133] o (C_X12_inARow o.1.2.2.2.2.2.2.1 o.2 F ec_135) (by decide) (rfl : kd 49 = (0, 11)) rfl rfl (Nat.le_of_ble_eq_true rfl) dL_law_588 ?_
        refine x_icmp_eq o 1071 dL_law_591 (by decide) (fun q_137 => ?_) (fun q_137 => ?_)
        · replace hf := (if_pos q_137).symm.trans hf
          refine x_sub [0, 1, 2, 3] [(0, .ref b), (1, .ref (ka k 0)), (2, .ref (ka k 49)), (3, .int x3)] rfl ?_
          exact S_L_law_1071 o F hX hbl hbA (fun q1 q2 => ih q1 q2) hf hr
        · replace hf := (if_neg q_137).symm.trans hf
          refine x_iconst (v := 0) o dL_law_594 (by decide) ?_
          cases hf
          exact hr (Or.inl rfl) _ _ dL_law_595
      replace hf := (if_neg q_132).symm.trans hf
      by_cases q_138 : t_3 = 14
      · replace hf := (if_pos q_138).symm.trans hf
        refine x_tabi (v := 14) o 596 q_138 (by decide) (by decide) rfl (by decide) dL_law_33 ?_
        refine x_aload_n o dL_law_596 1 rfl rfl ?_
        refine x_aload_n o dL_law_597 0 rfl rfl ?_
        refine x_iload_n o dL_law_598 3 rfl rfl ?_
        refine x_iconst (v := 1) o dL_law_599 (by decide) ?_
        refine x_iadd o dL_law_600 ?_
        obtain ⟨b_139, hf⟩ := gq_ex hf
        refine y_sld o hX hbl hbA b_139 dL_law_601 ?_
        refine x_aload_n o dL_law_602 0 rfl rfl ?_
        refine x_iload_n o dL_law_603 3 rfl rfl ?_
        refine x_iconst (v := 2) o dL_law_604 (by decide) ?_
        refine x_iadd o dL_law_605 ?_
        obtain ⟨b_140, hf⟩ := gq_ex hf
        refine y_sld o hX hbl hbA b_140 dL_law_606 ?_
        refine x_aload_n o dL_law_607 0 rfl rfl ?_
        refine x_iload_n o dL_law_608 3 rfl rfl ?_
        refine x_iconst (v := 3) o dL_law_609 (by decide) ?_
        refine x_iadd o dL_law_610 ?_
        obtain ⟨b_141, hf⟩ := gq_ex hf
        refine y_sld o hX hbl hbA b_141 dL_law_611 ?_
        refine x_aload_n o dL_law_612 0 rfl rfl ?_
        refine x_iload_n o dL_law_613 3 rfl rfl ?_
        refine x_iconst (v := 4) o dL_law_614 (by decide) ?_
        refine x_iadd o dL_law_615 ?_
        obtain ⟨b_142, hf⟩ := gq_ex hf
        refine y_sld o hX hbl hbA b_142 dL_law_616 ?_
        refine x_aload_n o dL_law_617 0 rfl rfl ?_
        refine x_iload_n o dL_law_618 3 rfl rfl ?_
        refine x_iconst (v := 5) o dL_law_619 (by decide) ?_
        refine x_iadd o dL_law_620 ?_
        obtain ⟨b_143, hf⟩ := gq_ex hf
        refine y_sld o hX hbl hbA b_143 dL_law_621 ?_
        obtain ⟨c_144, ec_144, hf⟩ := ob_ex hf
        refine vRL_75 [.int (xs (ix (x3 + 1))), .int (xs (ix (x3 + 2))), .int (xs (ix (x3 + 3))), .int (xs (ix (x3 + 4))), .int (xs (ix (x3 + 5)))] [] o (C_X11_ball o.1.2.2.2.2.2.2.1 o.2 F ec_144) (by decide) (rfl : kd 0 = (0, 10)) rfl rfl (Nat.le_of_ble_eq_true rfl) dL_law_622 ?_
        refine x_aload_n o dL_law_625 2 rfl rfl ?_
        refine x_aload_n o dL_law_626 0 rfl rfl ?_
        refine x_iload_n o dL_law_627 3 rfl rfl ?_
        refine x_iconst (v := 1) o dL_law_628 (by decide) ?_
        refine x_iadd o dL_law_629 ?_
        obtain ⟨b_146, hf⟩ := gq_ex hf
        refine y_sld o hX hbl hbA b_146 dL_law_630 ?_
        refine x_aload_n o dL_law_631 0 rfl rfl ?_
        refine x_iload_n o dL_law_632 3 rfl rfl ?_
        refine x_iconst (v := 2) o dL_law_633 (by decide) ?_
        refine x_iadd o dL_law_634 ?_
        obtain ⟨b_147, hf⟩ := gq_ex hf
        refine y_sld o hX hbl hbA b_147 dL_law_635 ?_
        refine x_aload_n o dL_law_636 0 rfl rfl ?_
        refine x_iload_n o dL_law_637 3 rfl rfl ?_
        refine x_iconst (v := 3) o dL_law_638 (by decide) ?_
        refine x_iadd o dL_law_639 ?_
        obtain ⟨b_148, hf⟩ := gq_ex hf
        refine y_sld o hX hbl hbA b_148 dL_law_640 ?_
        refine x_aload_n o dL_law_641 0 rfl rfl ?_
        refine x_iload_n o dL_law_642 3 rfl rfl ?_
        refine x_iconst (v := 4) o dL_law_643 (by decide) ?_
        refine x_iadd o dL_law_644 ?_
        obtain ⟨b_149, hf⟩ := gq_ex hf
        refine y_sld o hX hbl hbA b_149 dL_law_645 ?_
        refine x_aload_n o dL_law_646 0 rfl rfl ?_
        refine x_iload_n o dL_law_647 3 rfl rfl ?_
        refine x_iconst (v := 5) o dL_law_648 (by decide) ?_
        refine x_iadd o dL_law_649 ?_
        obtain ⟨b_150, hf⟩ := gq_ex hf
        refine y_sld o hX hbl hbA b_150 dL_law_650 ?_
        obtain ⟨c_151, ec_151, hf⟩ := ob_ex hf
        refine vRL_78 [.int (xs (ix (x3 + 1))), .int (xs (ix (x3 + 2))), .int (xs (ix (x3 + 3))), .int (xs (ix (x3 + 4))), .int (xs (ix (x3 + 5)))] [.int c_144] o (C_X12_ball o.1.2.2.2.2.2.2.1 o.2 F ec_151) (by decide) (rfl : kd 49 = (0, 11)) rfl rfl (Nat.le_of_ble_eq_true rfl) dL_law_651 ?_
        refine x_icmp_eq o 1071 dL_law_654 (by decide) (fun q_153 => ?_) (fun q_153 => ?_)
        · replace hf := (if_pos q_153).symm.trans hf
          refine x_sub [0, 1, 2, 3] [(0, .ref b), (1, .ref (ka k 0)), (2, .ref (ka k 49)), (3, .int x3)] rfl ?_
          exact S_L_law_1071 o F hX hbl hbA (fun q1 q2 => ih q1 q2) hf hr
        · replace hf := (if_neg q_153).symm.trans hf
          refine x_iconst (v := 0) o dL_law_657 (by decide) ?_
          cases hf
          exact hr (Or.inl rfl) _ _ dL_law_658
      replace hf := (if_neg q_138).symm.trans hf
      by_cases q_154 : t_3 = 15
      · replace hf := (if_pos q_154).symm.trans hf
        refine x_tabi (v := 15) o 659 q_154 (by decide) (by decide) rfl (by decide) dL_law_33 ?_
        refine x_aload_n o dL_law_659 1 rfl rfl ?_
        refine x_aload_n o dL_law_660 0 rfl rfl ?_
        refine x_iload_n o dL_law_661 3 rfl rfl ?_
        refine x_iconst (v := 1) o dL_law_662 (by decide) ?_
        refine x_iadd o dL_law_663 ?_
        obtain ⟨b_155, hf⟩ := gq_ex hf
        refine y_sld o hX hbl hbA b_155 dL_law_664 ?_
        refine x_aload_n o dL_law_665 0 rfl rfl ?_
        refine x_iload_n o dL_law_666 3 rfl rfl ?_
        refine x_iconst (v := 2) o dL_law_667 (by decide) ?_
        refine x_iadd o dL_law_668 ?_
        obtain ⟨b_156, hf⟩ := gq_ex hf
        refine y_sld o hX hbl hbA b_156 dL_law_669 ?_
        refine x_aload_n o dL_law_670 0 rfl rfl ?_
        refine x_iload_n o dL_law_671 3 rfl rfl ?_
        refine x_iconst (v := 3) o dL_law_672 (by decide) ?_
        refine x_iadd o dL_law_673 ?_
        obtain ⟨b_157, hf⟩ := gq_ex hf
        refine y_sld o hX hbl hbA b_157 dL_law_674 ?_
        refine x_aload_n o dL_law_675 0 rfl rfl ?_
        refine x_iload_n o dL_law_676 3 rfl rfl ?_
        refine x_iconst (v := 4) o dL_law_677 (by decide) ?_
        refine x_iadd o dL_law_678 ?_
        obtain ⟨b_158, hf⟩ := gq_ex hf
        refine y_sld o hX hbl hbA b_158 dL_law_679 ?_
        obtain ⟨c_159, ec_159, hf⟩ := ob_ex hf
        refine vRL_79 [.int (xs (ix (x3 + 1))), .int (xs (ix (x3 + 2))), .int (xs (ix (x3 + 3))), .int (xs (ix (x3 + 4)))] [] o (C_X11_leastSpeed o.1.2.2.2.2.2.2.1 o.2 F ec_159) (by decide) (rfl : kd 0 = (0, 10)) rfl rfl (Nat.le_of_ble_eq_true rfl) dL_law_680 ?_
        refine x_aload_n o dL_law_683 2 rfl rfl ?_
        refine x_aload_n o dL_law_684 0 rfl rfl ?_
        refine x_iload_n o dL_law_685 3 rfl rfl ?_
        refine x_iconst (v := 1) o dL_law_686 (by decide) ?_
        refine x_iadd o dL_law_687 ?_
        obtain ⟨b_161, hf⟩ := gq_ex hf
        refine y_sld o hX hbl hbA b_161 dL_law_688 ?_
        refine x_aload_n o dL_law_689 0 rfl rfl ?_
        refine x_iload_n o dL_law_690 3 rfl rfl ?_
        refine x_iconst (v := 2) o dL_law_691 (by decide) ?_
        refine x_iadd o dL_law_692 ?_
        obtain ⟨b_162, hf⟩ := gq_ex hf
        refine y_sld o hX hbl hbA b_162 dL_law_693 ?_
        refine x_aload_n o dL_law_694 0 rfl rfl ?_
        refine x_iload_n o dL_law_695 3 rfl rfl ?_
        refine x_iconst (v := 3) o dL_law_696 (by decide) ?_
        refine x_iadd o dL_law_697 ?_
        obtain ⟨b_163, hf⟩ := gq_ex hf
        refine y_sld o hX hbl hbA b_163 dL_law_698 ?_
        refine x_aload_n o dL_law_699 0 rfl rfl ?_
        refine x_iload_n o dL_law_700 3 rfl rfl ?_
        refine x_iconst (v := 4) o dL_law_701 (by decide) ?_
        refine x_iadd o dL_law_702 ?_
        obtain ⟨b_164, hf⟩ := gq_ex hf
        refine y_sld o hX hbl hbA b_164 dL_law_703 ?_
        obtain ⟨c_165, ec_165, hf⟩ := ob_ex hf
        refine vRL_83 [.int (xs (ix (x3 + 1))), .int (xs (ix (x3 + 2))), .int (xs (ix (x3 + 3))), .int (xs (ix (x3 + 4)))] [.int c_159] o (C_X12_leastSpeed o.1.2.2.2.2.2.2.1 o.2 F ec_165) (by decide) (rfl : kd 49 = (0, 11)) rfl rfl (Nat.le_of_ble_eq_true rfl) dL_law_704 ?_
        refine x_icmp_eq o 1071 dL_law_707 (by decide) (fun q_167 => ?_) (fun q_167 => ?_)
        · replace hf := (if_pos q_167).symm.trans hf
          refine x_sub [0, 1, 2, 3] [(0, .ref b), (1, .ref (ka k 0)), (2, .ref (ka k 49)), (3, .int x3)] rfl ?_
          exact S_L_law_1071 o F hX hbl hbA (fun q1 q2 => ih q1 q2) hf hr
        · replace hf := (if_neg q_167).symm.trans hf
          refine x_iconst (v := 0) o dL_law_710 (by decide) ?_
          cases hf
          exact hr (Or.inl rfl) _ _ dL_law_711
      replace hf := (if_neg q_154).symm.trans hf
      by_cases q_168 : t_3 = 16
      · replace hf := (if_pos q_168).symm.trans hf
        refine x_tabi (v := 16) o 712 q_168 (by decide) (by decide) rfl (by decide) dL_law_33 ?_
        refine x_aload_n o dL_law_712 1 rfl rfl ?_
        refine x_aload_n o dL_law_713 0 rfl rfl ?_
        refine x_iload_n o dL_law_714 3 rfl rfl ?_
        refine x_iconst (v := 1) o dL_law_715 (by decide) ?_
        refine x_iadd o dL_law_716 ?_
        obtain ⟨b_169, hf⟩ := gq_ex hf
        refine y_sld o hX hbl hbA b_169 dL_law_717 ?_
        refine x_aload_n o dL_law_718 0 rfl rfl ?_
        refine x_iload_n o dL_law_719 3 rfl rfl ?_
        refine x_iconst (v := 2) o dL_law_720 (by decide) ?_
        refine x_iadd o dL_law_721 ?_
        obtain ⟨b_170, hf⟩ := gq_ex hf
        refine y_sld o hX hbl hbA b_170 dL_law_722 ?_
        refine x_aload_n o dL_law_723 0 rfl rfl ?_
        refine x_iload_n o dL_law_724 3 rfl rfl ?_
        refine x_iconst (v := 3) o dL_law_725 (by decide) ?_
        refine x_iadd o dL_law_726 ?_
        obtain ⟨b_171, hf⟩ := gq_ex hf
        refine y_sld o hX hbl hbA b_171 dL_law_727 ?_
        obtain ⟨c_172, h_173, ec_172, hf⟩ := bq_ex hf
        refine vRL_84 [.int (xs (ix (x3 + 1))), .int (xs (ix (x3 + 2))), .int (xs (ix (x3 + 3)))] [] o (C_X11_piles o.1.2.2.2.2.2.2.1 o.2 F ec_172) (by decide) (rfl : kd 0 = (0, 10)) rfl rfl (Nat.le_of_ble_eq_true rfl) dL_law_728 ?_
        refine x_aload_n o dL_law_731 2 rfl rfl ?_
        refine x_aload_n o dL_law_732 0 rfl rfl ?_
        refine x_iload_n o dL_law_733 3 rfl rfl ?_
        refine x_iconst (v := 1) o dL_law_734 (by decide) ?_
        refine x_iadd o dL_law_735 ?_
        obtain ⟨b_174, hf⟩ := gq_ex hf
        refine y_sld o hX hbl hbA b_174 dL_law_736 ?_
        refine x_aload_n o dL_law_737 0 rfl rfl ?_
        refine x_iload_n o dL_law_738 3 rfl rfl ?_
        refine x_iconst (v := 2) o dL_law_739 (by decide) ?_
        refine x_iadd o dL_law_740 ?_
        obtain ⟨b_175, hf⟩ := gq_ex hf
        refine y_sld o hX hbl hbA b_175 dL_law_741 ?_
        refine x_aload_n o dL_law_742 0 rfl rfl ?_
        refine x_iload_n o dL_law_743 3 rfl rfl ?_
        refine x_iconst (v := 3) o dL_law_744 (by decide) ?_
        refine x_iadd o dL_law_745 ?_
        obtain ⟨b_176, hf⟩ := gq_ex hf
        refine y_sld o hX hbl hbA b_176 dL_law_746 ?_
        obtain ⟨c_177, h_178, ec_177, hf⟩ := bq_ex hf
        refine vRL_87 [.int (xs (ix (x3 + 1))), .int (xs (ix (x3 + 2))), .int (xs (ix (x3 + 3)))] [.int c_172] o (C_X12_piles o.1.2.2.2.2.2.2.1 o.2 F ec_177) (by decide) (rfl : kd 49 = (0, 11)) rfl rfl (Nat.le_of_ble_eq_true rfl) dL_law_747 ?_
        refine x_icmp_eq o 1071 dL_law_750 (by decide) (fun q_179 => ?_) (fun q_179 => ?_)
        · replace hf := (if_pos q_179).symm.trans hf
          refine x_sub [0, 1, 2, 3] [(0, .ref b), (1, .ref (ka k 0)), (2, .ref (ka k 49)), (3, .int x3)] rfl ?_
          exact S_L_law_1071 o F hX hbl hbA (fun q1 q2 => ih q1 q2) hf hr
        · replace hf := (if_neg q_179).symm.trans hf
          refine x_iconst (v := 0) o dL_law_753 (by decide) ?_
          cases hf
          exact hr (Or.inl rfl) _ _ dL_law_754
      replace hf := (if_neg q_168).symm.trans hf
      by_cases q_180 : t_3 = 17
      · replace hf := (if_pos q_180).symm.trans hf
        refine x_tabi (v := 17) o 755 q_180 (by decide) (by decide) rfl (by decide) dL_law_33 ?_
        refine x_aload_n o dL_law_755 1 rfl rfl ?_
        refine x_aload_n o dL_law_756 0 rfl rfl ?_
        refine x_iload_n o dL_law_757 3 rfl rfl ?_
        refine x_iconst (v := 1) o dL_law_758 (by decide) ?_
        refine x_iadd o dL_law_759 ?_
        obtain ⟨b_181, hf⟩ := gq_ex hf
        refine y_sld o hX hbl hbA b_181 dL_law_760 ?_
        refine x_aload_n o dL_law_761 0 rfl rfl ?_
        refine x_iload_n o dL_law_762 3 rfl rfl ?_
        refine x_iconst (v := 2) o dL_law_763 (by decide) ?_
        refine x_iadd o dL_law_764 ?_
        obtain ⟨b_182, hf⟩ := gq_ex hf
        refine y_sld o hX hbl hbA b_182 dL_law_765 ?_
        refine x_aload_n o dL_law_766 0 rfl rfl ?_
        refine x_iload_n o dL_law_767 3 rfl rfl ?_
        refine x_iconst (v := 3) o dL_law_768 (by decide) ?_
        refine x_iadd o dL_law_769 ?_
        obtain ⟨b_183, hf⟩ := gq_ex hf
        refine y_sld o hX hbl hbA b_183 dL_law_770 ?_
        obtain ⟨c_184, h_185, ec_184, hf⟩ := bq_ex hf
        refine vRL_88 [.int (xs (ix (x3 + 1))), .int (xs (ix (x3 + 2))), .int (xs (ix (x3 + 3)))] [] o (C_X11_lamps o.1.2.2.2.2.2.2.1 o.2 F ec_184) (by decide) (rfl : kd 0 = (0, 10)) rfl rfl (Nat.le_of_ble_eq_true rfl) dL_law_771 ?_
        refine x_aload_n o dL_law_774 2 rfl rfl ?_
        refine x_aload_n o dL_law_775 0 rfl rfl ?_
        refine x_iload_n o dL_law_776 3 rfl rfl ?_
        refine x_iconst (v := 1) o dL_law_777 (by decide) ?_
        refine x_iadd o dL_law_778 ?_
        obtain ⟨b_186, hf⟩ := gq_ex hf
        refine y_sld o hX hbl hbA b_186 dL_law_779 ?_
        refine x_aload_n o dL_law_780 0 rfl rfl ?_
        refine x_iload_n o dL_law_781 3 rfl rfl ?_
        refine x_iconst (v := 2) o dL_law_782 (by decide) ?_
        refine x_iadd o dL_law_783 ?_
        obtain ⟨b_187, hf⟩ := gq_ex hf
        refine y_sld o hX hbl hbA b_187 dL_law_784 ?_
        refine x_aload_n o dL_law_785 0 rfl rfl ?_
        refine x_iload_n o dL_law_786 3 rfl rfl ?_
        refine x_iconst (v := 3) o dL_law_787 (by decide) ?_
        refine x_iadd o dL_law_788 ?_
        obtain ⟨b_188, hf⟩ := gq_ex hf
        refine y_sld o hX hbl hbA b_188 dL_law_789 ?_
        obtain ⟨c_189, h_190, ec_189, hf⟩ := bq_ex hf
        refine vRL_91 [.int (xs (ix (x3 + 1))), .int (xs (ix (x3 + 2))), .int (xs (ix (x3 + 3)))] [.int c_184] o (C_X12_lamps o.1.2.2.2.2.2.2.1 o.2 F ec_189) (by decide) (rfl : kd 49 = (0, 11)) rfl rfl (Nat.le_of_ble_eq_true rfl) dL_law_790 ?_
        refine x_icmp_eq o 1071 dL_law_793 (by decide) (fun q_191 => ?_) (fun q_191 => ?_)
        · replace hf := (if_pos q_191).symm.trans hf
          refine x_sub [0, 1, 2, 3] [(0, .ref b), (1, .ref (ka k 0)), (2, .ref (ka k 49)), (3, .int x3)] rfl ?_
          exact S_L_law_1071 o F hX hbl hbA (fun q1 q2 => ih q1 q2) hf hr
        · replace hf := (if_neg q_191).symm.trans hf
          refine x_iconst (v := 0) o dL_law_796 (by decide) ?_
          cases hf
          exact hr (Or.inl rfl) _ _ dL_law_797
      replace hf := (if_neg q_180).symm.trans hf
      by_cases q_192 : t_3 = 18
      · replace hf := (if_pos q_192).symm.trans hf
        refine x_tabi (v := 18) o 798 q_192 (by decide) (by decide) rfl (by decide) dL_law_33 ?_
        refine x_aload_n o dL_law_798 1 rfl rfl ?_
        refine x_aload_n o dL_law_799 0 rfl rfl ?_
        refine x_iload_n o dL_law_800 3 rfl rfl ?_
        refine x_iconst (v := 1) o dL_law_801 (by decide) ?_
        refine x_iadd o dL_law_802 ?_
        obtain ⟨b_193, hf⟩ := gq_ex hf
        refine y_sld o hX hbl hbA b_193 dL_law_803 ?_
        refine x_aload_n o dL_law_804 0 rfl rfl ?_
        refine x_iload_n o dL_law_805 3 rfl rfl ?_
        refine x_iconst (v := 2) o dL_law_806 (by decide) ?_
        refine x_iadd o dL_law_807 ?_
        obtain ⟨b_194, hf⟩ := gq_ex hf
        refine y_sld o hX hbl hbA b_194 dL_law_808 ?_
        obtain ⟨c_195, h_196, ec_195, hf⟩ := bq_ex hf
        refine vRL_92 [.int (xs (ix (x3 + 1))), .int (xs (ix (x3 + 2)))] [] o (C_X11_claims o.1.2.2.2.2.2.2.1 o.2 F ec_195) (by decide) (rfl : kd 0 = (0, 10)) rfl rfl (Nat.le_of_ble_eq_true rfl) dL_law_809 ?_
        refine x_aload_n o dL_law_812 2 rfl rfl ?_
        refine x_aload_n o dL_law_813 0 rfl rfl ?_
        refine x_iload_n o dL_law_814 3 rfl rfl ?_
        refine x_iconst (v := 1) o dL_law_815 (by decide) ?_
        refine x_iadd o dL_law_816 ?_
        obtain ⟨b_197, hf⟩ := gq_ex hf
        refine y_sld o hX hbl hbA b_197 dL_law_817 ?_
        refine x_aload_n o dL_law_818 0 rfl rfl ?_
        refine x_iload_n o dL_law_819 3 rfl rfl ?_
        refine x_iconst (v := 2) o dL_law_820 (by decide) ?_
        refine x_iadd o dL_law_821 ?_
        obtain ⟨b_198, hf⟩ := gq_ex hf
        refine y_sld o hX hbl hbA b_198 dL_law_822 ?_
        obtain ⟨c_199, h_200, ec_199, hf⟩ := bq_ex hf
        refine vRL_95 [.int (xs (ix (x3 + 1))), .int (xs (ix (x3 + 2)))] [.int c_195] o (C_X12_claims o.1.2.2.2.2.2.2.1 o.2 F ec_199) (by decide) (rfl : kd 49 = (0, 11)) rfl rfl (Nat.le_of_ble_eq_true rfl) dL_law_823 ?_
        refine x_icmp_eq o 1071 dL_law_826 (by decide) (fun q_201 => ?_) (fun q_201 => ?_)
        · replace hf := (if_pos q_201).symm.trans hf
          refine x_sub [0, 1, 2, 3] [(0, .ref b), (1, .ref (ka k 0)), (2, .ref (ka k 49)), (3, .int x3)] rfl ?_
          exact S_L_law_1071 o F hX hbl hbA (fun q1 q2 => ih q1 q2) hf hr
        · replace hf := (if_neg q_201).symm.trans hf
          refine x_iconst (v := 0) o dL_law_829 (by decide) ?_
          cases hf
          exact hr (Or.inl rfl) _ _ dL_law_830
      replace hf := (if_neg q_192).symm.trans hf
      by_cases q_202 : t_3 = 19
      · replace hf := (if_pos q_202).symm.trans hf
        refine x_tabi (v := 19) o 831 q_202 (by decide) (by decide) rfl (by decide) dL_law_33 ?_
        refine x_aload_n o dL_law_831 1 rfl rfl ?_
        refine x_aload_n o dL_law_832 0 rfl rfl ?_
        refine x_iload_n o dL_law_833 3 rfl rfl ?_
        refine x_iconst (v := 1) o dL_law_834 (by decide) ?_
        refine x_iadd o dL_law_835 ?_
        obtain ⟨b_203, hf⟩ := gq_ex hf
        refine y_sld o hX hbl hbA b_203 dL_law_836 ?_
        obtain ⟨c_204, h_205, ec_204, hf⟩ := bq_ex hf
        refine vRL_96 [.int (xs (ix (x3 + 1)))] [] o (C_X11_rowed o.1.2.2.2.2.2.2.1 o.2 F ec_204) (by decide) (rfl : kd 0 = (0, 10)) rfl rfl (Nat.le_of_ble_eq_true rfl) dL_law_837 ?_
        refine x_aload_n o dL_law_840 2 rfl rfl ?_
        refine x_aload_n o dL_law_841 0 rfl rfl ?_
        refine x_iload_n o dL_law_842 3 rfl rfl ?_
        refine x_iconst (v := 1) o dL_law_843 (by decide) ?_
        refine x_iadd o dL_law_844 ?_
        obtain ⟨b_206, hf⟩ := gq_ex hf
        refine y_sld o hX hbl hbA b_206 dL_law_845 ?_
        obtain ⟨c_207, h_208, ec_207, hf⟩ := bq_ex hf
        refine vRL_99 [.int (xs (ix (x3 + 1)))] [.int c_204] o (C_X12_rowed o.1.2.2.2.2.2.2.1 o.2 F ec_207) (by decide) (rfl : kd 49 = (0, 11)) rfl rfl (Nat.le_of_ble_eq_true rfl) dL_law_846 ?_
        refine x_icmp_eq o 1071 dL_law_849 (by decide) (fun q_209 => ?_) (fun q_209 => ?_)
        · replace hf := (if_pos q_209).symm.trans hf
          refine x_sub [0, 1, 2, 3] [(0, .ref b), (1, .ref (ka k 0)), (2, .ref (ka k 49)), (3, .int x3)] rfl ?_
          exact S_L_law_1071 o F hX hbl hbA (fun q1 q2 => ih q1 q2) hf hr
        · replace hf := (if_neg q_209).symm.trans hf
          refine x_iconst (v := 0) o dL_law_852 (by decide) ?_
          cases hf
          exact hr (Or.inl rfl) _ _ dL_law_853
      replace hf := (if_neg q_202).symm.trans hf
      by_cases q_210 : t_3 = 20
      · replace hf := (if_pos q_210).symm.trans hf
        refine x_tabi (v := 20) o 854 q_210 (by decide) (by decide) rfl (by decide) dL_law_33 ?_
        refine x_aload_n o dL_law_854 1 rfl rfl ?_
        refine x_aload_n o dL_law_855 0 rfl rfl ?_
        refine x_iload_n o dL_law_856 3 rfl rfl ?_
        refine x_iconst (v := 1) o dL_law_857 (by decide) ?_
        refine x_iadd o dL_law_858 ?_
        obtain ⟨b_211, hf⟩ := gq_ex hf
        refine y_sld o hX hbl hbA b_211 dL_law_859 ?_
        refine x_aload_n o dL_law_860 0 rfl rfl ?_
        refine x_iload_n o dL_law_861 3 rfl rfl ?_
        refine x_iconst (v := 2) o dL_law_862 (by decide) ?_
        refine x_iadd o dL_law_863 ?_
        obtain ⟨b_212, hf⟩ := gq_ex hf
        refine y_sld o hX hbl hbA b_212 dL_law_864 ?_
        obtain ⟨c_213, h_214, ec_213, hf⟩ := bq_ex hf
        refine vRL_100 [.int (xs (ix (x3 + 1))), .int (xs (ix (x3 + 2)))] [] o (C_X11_wed o.1.2.2.2.2.2.2.1 o.2 F ec_213) (by decide) (rfl : kd 0 = (0, 10)) rfl rfl (Nat.le_of_ble_eq_true rfl) dL_law_865 ?_
        refine x_aload_n o dL_law_868 2 rfl rfl ?_
        refine x_aload_n o dL_law_869 0 rfl rfl ?_
        refine x_iload_n o dL_law_870 3 rfl rfl ?_
        refine x_iconst (v := 1) o dL_law_871 (by decide) ?_
        refine x_iadd o dL_law_872 ?_
        obtain ⟨b_215, hf⟩ := gq_ex hf
        refine y_sld o hX hbl hbA b_215 dL_law_873 ?_
        refine x_aload_n o dL_law_874 0 rfl rfl ?_
        refine x_iload_n o dL_law_875 3 rfl rfl ?_
        refine x_iconst (v := 2) o dL_law_876 (by decide) ?_
        refine x_iadd o dL_law_877 ?_
        obtain ⟨b_216, hf⟩ := gq_ex hf
        refine y_sld o hX hbl hbA b_216 dL_law_878 ?_
        obtain ⟨c_217, h_218, ec_217, hf⟩ := bq_ex hf
        refine vRL_103 [.int (xs (ix (x3 + 1))), .int (xs (ix (x3 + 2)))] [.int c_213] o (C_X12_wed o.1.2.2.2.2.2.2.1 o.2 F ec_217) (by decide) (rfl : kd 49 = (0, 11)) rfl rfl (Nat.le_of_ble_eq_true rfl) dL_law_879 ?_
        refine x_icmp_eq o 1071 dL_law_882 (by decide) (fun q_219 => ?_) (fun q_219 => ?_)
        · replace hf := (if_pos q_219).symm.trans hf
          refine x_sub [0, 1, 2, 3] [(0, .ref b), (1, .ref (ka k 0)), (2, .ref (ka k 49)), (3, .int x3)] rfl ?_
          exact S_L_law_1071 o F hX hbl hbA (fun q1 q2 => ih q1 q2) hf hr
        · replace hf := (if_neg q_219).symm.trans hf
          refine x_iconst (v := 0) o dL_law_885 (by decide) ?_
          cases hf
          exact hr (Or.inl rfl) _ _ dL_law_886
      replace hf := (if_neg q_210).symm.trans hf
      by_cases q_220 : t_3 = 21
      · replace hf := (if_pos q_220).symm.trans hf
        refine x_tabi (v := 21) o 887 q_220 (by decide) (by decide) rfl (by decide) dL_law_33 ?_
        refine x_aload_n o dL_law_887 1 rfl rfl ?_
        refine x_aload_n o dL_law_888 0 rfl rfl ?_
        refine x_iload_n o dL_law_889 3 rfl rfl ?_
        refine x_iconst (v := 1) o dL_law_890 (by decide) ?_
        refine x_iadd o dL_law_891 ?_
        obtain ⟨b_221, hf⟩ := gq_ex hf
        refine y_sld o hX hbl hbA b_221 dL_law_892 ?_
        obtain ⟨c_222, h_223, ec_222, hf⟩ := bq_ex hf
        refine vRL_104 [.int (xs (ix (x3 + 1)))] [] o (C_X11_changes o.1.2.2.2.2.2.2.1 o.2 F ec_222) (by decide) (rfl : kd 0 = (0, 10)) rfl rfl (Nat.le_of_ble_eq_true rfl) dL_law_893 ?_
        refine x_aload_n o dL_law_896 2 rfl rfl ?_
        refine x_aload_n o dL_law_897 0 rfl rfl ?_
        refine x_iload_n o dL_law_898 3 rfl rfl ?_
        refine x_iconst (v := 1) o dL_law_899 (by decide) ?_
        refine x_iadd o dL_law_900 ?_
        obtain ⟨b_224, hf⟩ := gq_ex hf
        refine y_sld o hX hbl hbA b_224 dL_law_901 ?_
        obtain ⟨c_225, h_226, ec_225, hf⟩ := bq_ex hf
        refine vRL_107 [.int (xs (ix (x3 + 1)))] [.int c_222] o (C_X12_changes o.1.2.2.2.2.2.2.1 o.2 F ec_225) (by decide) (rfl : kd 49 = (0, 11)) rfl rfl (Nat.le_of_ble_eq_true rfl) dL_law_902 ?_
        refine x_icmp_eq o 1071 dL_law_905 (by decide) (fun q_227 => ?_) (fun q_227 => ?_)
        · replace hf := (if_pos q_227).symm.trans hf
          refine x_sub [0, 1, 2, 3] [(0, .ref b), (1, .ref (ka k 0)), (2, .ref (ka k 49)), (3, .int x3)] rfl ?_
          exact S_L_law_1071 o F hX hbl hbA (fun q1 q2 => ih q1 q2) hf hr
        · replace hf := (if_neg q_227).symm.trans hf
          refine x_iconst (v := 0) o dL_law_908 (by decide) ?_
          cases hf
          exact hr (Or.inl rfl) _ _ dL_law_909
      replace hf := (if_neg q_220).symm.trans hf
      by_cases q_228 : t_3 = 22
      · replace hf := (if_pos q_228).symm.trans hf
        refine x_tabi (v := 22) o 910 q_228 (by decide) (by decide) rfl (by decide) dL_law_33 ?_
        refine x_aload_n o dL_law_910 1 rfl rfl ?_
        refine x_aload_n o dL_law_911 0 rfl rfl ?_
        refine x_iload_n o dL_law_912 3 rfl rfl ?_
        refine x_iconst (v := 1) o dL_law_913 (by decide) ?_
        refine x_iadd o dL_law_914 ?_
        obtain ⟨b_229, hf⟩ := gq_ex hf
        refine y_sld o hX hbl hbA b_229 dL_law_915 ?_
        refine x_aload_n o dL_law_916 0 rfl rfl ?_
        refine x_iload_n o dL_law_917 3 rfl rfl ?_
        refine x_iconst (v := 2) o dL_law_918 (by decide) ?_
        refine x_iadd o dL_law_919 ?_
        obtain ⟨b_230, hf⟩ := gq_ex hf
        refine y_sld o hX hbl hbA b_230 dL_law_920 ?_
        refine x_aload_n o dL_law_921 0 rfl rfl ?_
        refine x_iload_n o dL_law_922 3 rfl rfl ?_
        refine x_iconst (v := 3) o dL_law_923 (by decide) ?_
        refine x_iadd o dL_law_924 ?_
        obtain ⟨b_231, hf⟩ := gq_ex hf
        refine y_sld o hX hbl hbA b_231 dL_law_925 ?_
        obtain ⟨c_232, ec_232, hf⟩ := ob_ex hf
        refine vRL_108 [.int (xs (ix (x3 + 1))), .int (xs (ix (x3 + 2))), .int (xs (ix (x3 + 3)))] [] o (C_X11_dialect o.1.2.2.2.2.2.2.1 o.2 F ec_232) (by decide) (rfl : kd 0 = (0, 10)) rfl rfl (Nat.le_of_ble_eq_true rfl) dL_law_926 ?_
        refine x_aload_n o dL_law_929 2 rfl rfl ?_
        refine x_aload_n o dL_law_930 0 rfl rfl ?_
        refine x_iload_n o dL_law_931 3 rfl rfl ?_
        refine x_iconst (v := 1) o dL_law_932 (by decide) ?_
        refine x_iadd o dL_law_933 ?_
        obtain ⟨b_234, hf⟩ := gq_ex hf
        refine y_sld o hX hbl hbA b_234 dL_law_934 ?_
        refine x_aload_n o dL_law_935 0 rfl rfl ?_
        refine x_iload_n o dL_law_936 3 rfl rfl ?_
        refine x_iconst (v := 2) o dL_law_937 (by decide) ?_
        refine x_iadd o dL_law_938 ?_
        obtain ⟨b_235, hf⟩ := gq_ex hf
        refine y_sld o hX hbl hbA b_235 dL_law_939 ?_
        refine x_aload_n o dL_law_940 0 rfl rfl ?_
        refine x_iload_n o dL_law_941 3 rfl rfl ?_
        refine x_iconst (v := 3) o dL_law_942 (by decide) ?_
        refine x_iadd o dL_law_943 ?_
        obtain ⟨b_236, hf⟩ := gq_ex hf
        refine y_sld o hX hbl hbA b_236 dL_law_944 ?_
        obtain ⟨c_237, ec_237, hf⟩ := ob_ex hf
        refine vRL_111 [.int (xs (ix (x3 + 1))), .int (xs (ix (x3 + 2))), .int (xs (ix (x3 + 3)))] [.int c_232] o (C_X12_dialect o.1.2.2.2.2.2.2.1 o.2 F ec_237) (by decide) (rfl : kd 49 = (0, 11)) rfl rfl (Nat.le_of_ble_eq_true rfl) dL_law_945 ?_
        refine x_icmp_eq o 1071 dL_law_948 (by decide) (fun q_239 => ?_) (fun q_239 => ?_)
        · replace hf := (if_pos q_239).symm.trans hf
          refine x_sub [0, 1, 2, 3] [(0, .ref b), (1, .ref (ka k 0)), (2, .ref (ka k 49)), (3, .int x3)] rfl ?_
          exact S_L_law_1071 o F hX hbl hbA (fun q1 q2 => ih q1 q2) hf hr
        · replace hf := (if_neg q_239).symm.trans hf
          refine x_iconst (v := 0) o dL_law_951 (by decide) ?_
          cases hf
          exact hr (Or.inl rfl) _ _ dL_law_952
      replace hf := (if_neg q_228).symm.trans hf
      by_cases q_240 : t_3 = 23
      · replace hf := (if_pos q_240).symm.trans hf
        refine x_tabi (v := 23) o 953 q_240 (by decide) (by decide) rfl (by decide) dL_law_33 ?_
        refine x_aload_n o dL_law_953 1 rfl rfl ?_
        refine x_aload_n o dL_law_954 0 rfl rfl ?_
        refine x_iload_n o dL_law_955 3 rfl rfl ?_
        refine x_iconst (v := 1) o dL_law_956 (by decide) ?_
        refine x_iadd o dL_law_957 ?_
        obtain ⟨b_241, hf⟩ := gq_ex hf
        refine y_sld o hX hbl hbA b_241 dL_law_958 ?_
        refine x_aload_n o dL_law_959 0 rfl rfl ?_
        refine x_iload_n o dL_law_960 3 rfl rfl ?_
        refine x_iconst (v := 2) o dL_law_961 (by decide) ?_
        refine x_iadd o dL_law_962 ?_
        obtain ⟨b_242, hf⟩ := gq_ex hf
        refine y_sld o hX hbl hbA b_242 dL_law_963 ?_
        obtain ⟨c_243, ec_243, hf⟩ := ob_ex hf
        refine vRL_112 [.int (xs (ix (x3 + 1))), .int (xs (ix (x3 + 2)))] [] o (C_X11_owed o.1.2.2.2.2.2.2.1 o.2 F ec_243) (by decide) (rfl : kd 0 = (0, 10)) rfl rfl (Nat.le_of_ble_eq_true rfl) dL_law_964 ?_
        refine x_aload_n o dL_law_967 2 rfl rfl ?_
        refine x_aload_n o dL_law_968 0 rfl rfl ?_
        refine x_iload_n o dL_law_969 3 rfl rfl ?_
        refine x_iconst (v := 1) o dL_law_970 (by decide) ?_
        refine x_iadd o dL_law_971 ?_
        obtain ⟨b_245, hf⟩ := gq_ex hf
        refine y_sld o hX hbl hbA b_245 dL_law_972 ?_
        refine x_aload_n o dL_law_973 0 rfl rfl ?_
        refine x_iload_n o dL_law_974 3 rfl rfl ?_
        refine x_iconst (v := 2) o dL_law_975 (by decide) ?_
        refine x_iadd o dL_law_976 ?_
        obtain ⟨b_246, hf⟩ := gq_ex hf
        refine y_sld o hX hbl hbA b_246 dL_law_977 ?_
        obtain ⟨c_247, ec_247, hf⟩ := ob_ex hf
        refine vRL_115 [.int (xs (ix (x3 + 1))), .int (xs (ix (x3 + 2)))] [.int c_243] o (C_X12_owed o.1.2.2.2.2.2.2.1 o.2 F ec_247) (by decide) (rfl : kd 49 = (0, 11)) rfl rfl (Nat.le_of_ble_eq_true rfl) dL_law_978 ?_
        refine x_icmp_eq o 1071 dL_law_981 (by decide) (fun q_249 => ?_) (fun q_249 => ?_)
        · replace hf := (if_pos q_249).symm.trans hf
          refine x_sub [0, 1, 2, 3] [(0, .ref b), (1, .ref (ka k 0)), (2, .ref (ka k 49)), (3, .int x3)] rfl ?_
          exact S_L_law_1071 o F hX hbl hbA (fun q1 q2 => ih q1 q2) hf hr
        · replace hf := (if_neg q_249).symm.trans hf
          refine x_iconst (v := 0) o dL_law_984 (by decide) ?_
          cases hf
          exact hr (Or.inl rfl) _ _ dL_law_985
      replace hf := (if_neg q_240).symm.trans hf
      by_cases q_250 : t_3 = 24
      · replace hf := (if_pos q_250).symm.trans hf
        refine x_tabi (v := 24) o 986 q_250 (by decide) (by decide) rfl (by decide) dL_law_33 ?_
        refine x_aload_n o dL_law_986 1 rfl rfl ?_
        refine x_aload_n o dL_law_987 0 rfl rfl ?_
        refine x_iload_n o dL_law_988 3 rfl rfl ?_
        refine x_iconst (v := 1) o dL_law_989 (by decide) ?_
        refine x_iadd o dL_law_990 ?_
        obtain ⟨b_251, hf⟩ := gq_ex hf
        refine y_sld o hX hbl hbA b_251 dL_law_991 ?_
        obtain ⟨c_252, h_253, ec_252, hf⟩ := bq_ex hf
        refine vRL_116 [.int (xs (ix (x3 + 1)))] [] o (C_X11_seed o.1.2.2.2.2.2.2.1 o.2 F ec_252) (by decide) (rfl : kd 0 = (0, 10)) rfl rfl (Nat.le_of_ble_eq_true rfl) dL_law_992 ?_
        refine x_aload_n o dL_law_995 2 rfl rfl ?_
        refine x_aload_n o dL_law_996 0 rfl rfl ?_
        refine x_iload_n o dL_law_997 3 rfl rfl ?_
        refine x_iconst (v := 1) o dL_law_998 (by decide) ?_
        refine x_iadd o dL_law_999 ?_
        obtain ⟨b_254, hf⟩ := gq_ex hf
        refine y_sld o hX hbl hbA b_254 dL_law_1000 ?_
        obtain ⟨c_255, h_256, ec_255, hf⟩ := bq_ex hf
        refine vRL_119 [.int (xs (ix (x3 + 1)))] [.int c_252] o (C_X12_seed o.1.2.2.2.2.2.2.1 o.2 F ec_255) (by decide) (rfl : kd 49 = (0, 11)) rfl rfl (Nat.le_of_ble_eq_true rfl) dL_law_1001 ?_
        refine x_icmp_eq o 1071 dL_law_1004 (by decide) (fun q_257 => ?_) (fun q_257 => ?_)
        · replace hf := (if_pos q_257).symm.trans hf
          refine x_sub [0, 1, 2, 3] [(0, .ref b), (1, .ref (ka k 0)), (2, .ref (ka k 49)), (3, .int x3)] rfl ?_
          exact S_L_law_1071 o F hX hbl hbA (fun q1 q2 => ih q1 q2) hf hr
        · replace hf := (if_neg q_257).symm.trans hf
          refine x_iconst (v := 0) o dL_law_1007 (by decide) ?_
          cases hf
          exact hr (Or.inl rfl) _ _ dL_law_1008
      replace hf := (if_neg q_250).symm.trans hf
      by_cases q_258 : t_3 = 25
      · replace hf := (if_pos q_258).symm.trans hf
        refine x_tabi (v := 25) o 1009 q_258 (by decide) (by decide) rfl (by decide) dL_law_33 ?_
        refine x_aload_n o dL_law_1009 1 rfl rfl ?_
        obtain ⟨c_259, h_260, ec_259, hf⟩ := bq_ex hf
        refine vRL_120 [] [] o (C_X11_keep o.1.2.2.2.2.2.2.1 o.2 F ec_259) (by decide) (rfl : kd 0 = (0, 10)) rfl rfl (Nat.le_of_ble_eq_true rfl) dL_law_1010 ?_
        refine x_aload_n o dL_law_1013 2 rfl rfl ?_
        obtain ⟨c_261, h_262, ec_261, hf⟩ := bq_ex hf
        refine vRL_123 [] [.int c_259] o (C_X12_keep o.1.2.2.2.2.2.2.1 o.2 F ec_261) (by decide) (rfl : kd 49 = (0, 11)) rfl rfl (Nat.le_of_ble_eq_true rfl) dL_law_1014 ?_
        refine x_icmp_eq o 1071 dL_law_1017 (by decide) (fun q_263 => ?_) (fun q_263 => ?_)
        · replace hf := (if_pos q_263).symm.trans hf
          refine x_sub [0, 1, 2, 3] [(0, .ref b), (1, .ref (ka k 0)), (2, .ref (ka k 49)), (3, .int x3)] rfl ?_
          exact S_L_law_1071 o F hX hbl hbA (fun q1 q2 => ih q1 q2) hf hr
        · replace hf := (if_neg q_263).symm.trans hf
          refine x_iconst (v := 0) o dL_law_1020 (by decide) ?_
          cases hf
          exact hr (Or.inl rfl) _ _ dL_law_1021
      replace hf := (if_neg q_258).symm.trans hf
      by_cases q_264 : t_3 = 26
      · replace hf := (if_pos q_264).symm.trans hf
        refine x_tabi (v := 26) o 1022 q_264 (by decide) (by decide) rfl (by decide) dL_law_33 ?_
        refine x_aload_n o dL_law_1022 1 rfl rfl ?_
        obtain ⟨c_265, h_266, ec_265, hf⟩ := bq_ex hf
        refine vRL_124 [] [] o (C_X11_undo o.1.2.2.2.2.2.2.1 o.2 F ec_265) (by decide) (rfl : kd 0 = (0, 10)) rfl rfl (Nat.le_of_ble_eq_true rfl) dL_law_1023 ?_
        refine x_aload_n o dL_law_1026 2 rfl rfl ?_
        obtain ⟨c_267, h_268, ec_267, hf⟩ := bq_ex hf
        refine vRL_128 [] [.int c_265] o (C_X12_undo o.1.2.2.2.2.2.2.1 o.2 F ec_267) (by decide) (rfl : kd 49 = (0, 11)) rfl rfl (Nat.le_of_ble_eq_true rfl) dL_law_1027 ?_
        refine x_icmp_eq o 1071 dL_law_1030 (by decide) (fun q_269 => ?_) (fun q_269 => ?_)
        · replace hf := (if_pos q_269).symm.trans hf
          refine x_sub [0, 1, 2, 3] [(0, .ref b), (1, .ref (ka k 0)), (2, .ref (ka k 49)), (3, .int x3)] rfl ?_
          exact S_L_law_1071 o F hX hbl hbA (fun q1 q2 => ih q1 q2) hf hr
        · replace hf := (if_neg q_269).symm.trans hf
          refine x_iconst (v := 0) o dL_law_1033 (by decide) ?_
          cases hf
          exact hr (Or.inl rfl) _ _ dL_law_1034
      replace hf := (if_neg q_264).symm.trans hf
      by_cases q_270 : t_3 = 27
      · replace hf := (if_pos q_270).symm.trans hf
        refine x_tabi (v := 27) o 1035 q_270 (by decide) (by decide) rfl (by decide) dL_law_33 ?_
        refine x_aload_n o dL_law_1035 1 rfl rfl ?_
        obtain ⟨c_271, h_272, ec_271, hf⟩ := bq_ex hf
        refine vRL_129 [] [] o (C_X11_check o.1.2.2.2.2.2.2.1 o.2 F ec_271) (by decide) (rfl : kd 0 = (0, 10)) rfl rfl (Nat.le_of_ble_eq_true rfl) dL_law_1036 ?_
        refine x_aload_n o dL_law_1039 2 rfl rfl ?_
        obtain ⟨c_273, h_274, ec_273, hf⟩ := bq_ex hf
        refine vRL_132 [] [.int c_271] o (C_X12_check o.1.2.2.2.2.2.2.1 o.2 F ec_273) (by decide) (rfl : kd 49 = (0, 11)) rfl rfl (Nat.le_of_ble_eq_true rfl) dL_law_1040 ?_
        refine x_icmp_eq o 1071 dL_law_1043 (by decide) (fun q_275 => ?_) (fun q_275 => ?_)
        · replace hf := (if_pos q_275).symm.trans hf
          refine x_sub [0, 1, 2, 3] [(0, .ref b), (1, .ref (ka k 0)), (2, .ref (ka k 49)), (3, .int x3)] rfl ?_
          exact S_L_law_1071 o F hX hbl hbA (fun q1 q2 => ih q1 q2) hf hr
        · replace hf := (if_neg q_275).symm.trans hf
          refine x_iconst (v := 0) o dL_law_1046 (by decide) ?_
          cases hf
          exact hr (Or.inl rfl) _ _ dL_law_1047
      replace hf := (if_neg q_270).symm.trans hf
      by_cases q_276 : t_3 = 28
      · replace hf := (if_pos q_276).symm.trans hf
        refine x_tabi (v := 28) o 1048 q_276 (by decide) (by decide) rfl (by decide) dL_law_33 ?_
        refine x_aload_n o dL_law_1048 1 rfl rfl ?_
        refine x_aload_n o dL_law_1049 0 rfl rfl ?_
        refine x_iload_n o dL_law_1050 3 rfl rfl ?_
        refine x_iconst (v := 1) o dL_law_1051 (by decide) ?_
        refine x_iadd o dL_law_1052 ?_
        obtain ⟨b_277, hf⟩ := gq_ex hf
        refine y_sld o hX hbl hbA b_277 dL_law_1053 ?_
        obtain ⟨c_278, ec_278, hf⟩ := ob_ex hf
        refine vRL_133 [.int (xs (ix (x3 + 1)))] [] o (C_X11_count o.1.2.2.2.2.2.2.1 o.2 F ec_278) (by decide) (rfl : kd 0 = (0, 10)) rfl rfl (Nat.le_of_ble_eq_true rfl) dL_law_1054 ?_
        refine x_aload_n o dL_law_1057 2 rfl rfl ?_
        refine x_aload_n o dL_law_1058 0 rfl rfl ?_
        refine x_iload_n o dL_law_1059 3 rfl rfl ?_
        refine x_iconst (v := 1) o dL_law_1060 (by decide) ?_
        refine x_iadd o dL_law_1061 ?_
        obtain ⟨b_280, hf⟩ := gq_ex hf
        refine y_sld o hX hbl hbA b_280 dL_law_1062 ?_
        obtain ⟨c_281, ec_281, hf⟩ := ob_ex hf
        refine vRL_136 [.int (xs (ix (x3 + 1)))] [.int c_278] o (C_X12_count o.1.2.2.2.2.2.2.1 o.2 F ec_281) (by decide) (rfl : kd 49 = (0, 11)) rfl rfl (Nat.le_of_ble_eq_true rfl) dL_law_1063 ?_
        refine x_icmp_eq o 1071 dL_law_1066 (by decide) (fun q_283 => ?_) (fun q_283 => ?_)
        · replace hf := (if_pos q_283).symm.trans hf
          refine x_sub [0, 1, 2, 3] [(0, .ref b), (1, .ref (ka k 0)), (2, .ref (ka k 49)), (3, .int x3)] rfl ?_
          exact S_L_law_1071 o F hX hbl hbA (fun q1 q2 => ih q1 q2) hf hr
        · replace hf := (if_neg q_283).symm.trans hf
          refine x_iconst (v := 0) o dL_law_1069 (by decide) ?_
          cases hf
          exact hr (Or.inl rfl) _ _ dL_law_1070
      replace hf := (if_neg q_276).symm.trans hf
      refine x_tabo o 1071 (by have z0 := lv_neT (a := 0) q_4 rfl; have z1 := lv_neT (a := 1) q_12 rfl; have z2 := lv_neT (a := 2) q_28 rfl; have z3 := lv_neT (a := 3) q_36 rfl; have z4 := lv_neT (a := 4) q_46 rfl; have z5 := lv_neT (a := 5) q_54 rfl; have z6 := lv_neT (a := 6) q_62 rfl; have z7 := lv_neT (a := 7) q_72 rfl; have z8 := lv_neT (a := 8) q_82 rfl; have z9 := lv_neT (a := 9) q_94 rfl; have z10 := lv_neT (a := 10) q_104 rfl; have z11 := lv_neT (a := 11) q_112 rfl; have z12 := lv_neT (a := 12) q_122 rfl; have z13 := lv_neT (a := 13) q_132 rfl; have z14 := lv_neT (a := 14) q_138 rfl; have z15 := lv_neT (a := 15) q_154 rfl; have z16 := lv_neT (a := 16) q_168 rfl; have z17 := lv_neT (a := 17) q_180 rfl; have z18 := lv_neT (a := 18) q_192 rfl; have z19 := lv_neT (a := 19) q_202 rfl; have z20 := lv_neT (a := 20) q_210 rfl; have z21 := lv_neT (a := 21) q_220 rfl; have z22 := lv_neT (a := 22) q_228 rfl; have z23 := lv_neT (a := 23) q_240 rfl; have z24 := lv_neT (a := 24) q_250 rfl; have z25 := lv_neT (a := 25) q_258 rfl; have z26 := lv_neT (a := 26) q_264 rfl; have z27 := lv_neT (a := 27) q_270 rfl; have z28 := lv_neT (a := 28) q_276 rfl; omega) (by decide) dL_law_33 ?_
      refine x_sub [0, 1, 2, 3] [(0, .ref b), (1, .ref (ka k 0)), (2, .ref (ka k 49)), (3, .int x3)] rfl ?_
      exact S_L_law_1071 o F hX hbl hbA (fun q1 q2 => ih q1 q2) hf hr
theorem sk_7 : Cond.classLink RL 7 RX11 ∈ xtb := xtb_m 161 (by decide +kernel) rfl
theorem sk_10 : Cond.classLink RL 10 RX12 ∈ xtb := xtb_m 1069 (by decide +kernel) rfl
theorem si_11 : Cond.instantiable RX11 12 ∈ xtb := xtb_m 162 (by decide +kernel) rfl
theorem si_12 : Cond.instantiable RX12 51 ∈ xtb := xtb_m 1070 (by decide +kernel) rfl
theorem sn_11 : Cond.initialized RX11 ∈ xtb := xtb_m 145 (by decide +kernel) rfl
theorem sn_12 : Cond.initialized RX12 ∈ xtb := xtb_m 156 (by decide +kernel) rfl
theorem sl_9 : Cond.methodLink RL 9 yX11_init ∈ xtb := xtb_m 163 (by decide +kernel) rfl
theorem sl_12 : Cond.methodLink RL 12 yX12_init ∈ xtb := xtb_m 1071 (by decide +kernel) rfl
theorem sm_11 : Cond.instanceMethod yX11_init ∈ xtb := xtb_m 164 (by decide +kernel) rfl
theorem sm_12 : Cond.instanceMethod yX12_init ∈ xtb := xtb_m 1072 (by decide +kernel) rfl
theorem sc_11 : Cond.code yX11_init cX11_init 1 none ∈ xtb := xtb_m 165 (by decide +kernel) rfl
theorem sc_12 : Cond.code yX12_init cX12_init 1 none ∈ xtb := xtb_m 1073 (by decide +kernel) rfl
theorem st_RX0 : Cond.instantiable RX0 2 ∈ xtb := xtb_m 370 (by decide +kernel) rfl
theorem st_RX1 : Cond.instantiable RX1 9 ∈ xtb := xtb_m 239 (by decide +kernel) rfl
theorem st_RX2 : Cond.instantiable RX2 1 ∈ xtb := xtb_m 233 (by decide +kernel) rfl
theorem st_RX4 : Cond.instantiable RX4 5 ∈ xtb := xtb_m 210 (by decide +kernel) rfl
theorem st_RX5 : Cond.instantiable RX5 2 ∈ xtb := xtb_m 285 (by decide +kernel) rfl
theorem st_RX6 : Cond.instantiable RX6 2 ∈ xtb := xtb_m 195 (by decide +kernel) rfl
theorem st_RX7 : Cond.instantiable RX7 5 ∈ xtb := xtb_m 383 (by decide +kernel) rfl
theorem st_RX8 : Cond.instantiable RX8 8 ∈ xtb := xtb_m 301 (by decide +kernel) rfl
theorem st_RX9 : Cond.instantiable RX9 4 ∈ xtb := xtb_m 170 (by decide +kernel) rfl
theorem st_RX10 : Cond.instantiable RX10 6 ∈ xtb := xtb_m 279 (by decide +kernel) rfl
theorem st_RX11 : Cond.instantiable RX11 12 ∈ xtb := xtb_m 162 (by decide +kernel) rfl
theorem st_RX12 : Cond.instantiable RX12 51 ∈ xtb := xtb_m 1070 (by decide +kernel) rfl
theorem sd_RX11 : ∀ j, j < 12 → defaultValue (tyX11 j) = if fR 10 j = true then .null else .int 0 := fun j hj => by
  match j, hj with
  | 0, _ => rfl
  | 1, _ => rfl
  | 2, _ => rfl
  | 3, _ => rfl
  | 4, _ => rfl
  | 5, _ => rfl
  | 6, _ => rfl
  | 7, _ => rfl
  | 8, _ => rfl
  | 9, _ => rfl
  | 10, _ => rfl
  | 11, _ => rfl
  | (z + 12), hj => exact absurd hj (by omega)
theorem sd_RX12 : ∀ j, j < 51 → defaultValue (tyX12 j) = if fR 11 j = true then .null else .int 0 := fun j hj => by
  match j, hj with
  | 0, _ => rfl
  | 1, _ => rfl
  | 2, _ => rfl
  | 3, _ => rfl
  | 4, _ => rfl
  | 5, _ => rfl
  | 6, _ => rfl
  | 7, _ => rfl
  | 8, _ => rfl
  | 9, _ => rfl
  | 10, _ => rfl
  | 11, _ => rfl
  | 12, _ => rfl
  | 13, _ => rfl
  | 14, _ => rfl
  | 15, _ => rfl
  | 16, _ => rfl
  | 17, _ => rfl
  | 18, _ => rfl
  | 19, _ => rfl
  | 20, _ => rfl
  | 21, _ => rfl
  | 22, _ => rfl
  | 23, _ => rfl
  | 24, _ => rfl
  | 25, _ => rfl
  | 26, _ => rfl
  | 27, _ => rfl
  | 28, _ => rfl
  | 29, _ => rfl
  | 30, _ => rfl
  | 31, _ => rfl
  | 32, _ => rfl
  | 33, _ => rfl
  | 34, _ => rfl
  | 35, _ => rfl
  | 36, _ => rfl
  | 37, _ => rfl
  | 38, _ => rfl
  | 39, _ => rfl
  | 40, _ => rfl
  | 41, _ => rfl
  | 42, _ => rfl
  | 43, _ => rfl
  | 44, _ => rfl
  | 45, _ => rfl
  | 46, _ => rfl
  | 47, _ => rfl
  | 48, _ => rfl
  | 49, _ => rfl
  | 50, _ => rfl
  | (z + 51), hj => exact absurd hj (by omega)
set_option maxRecDepth 100000 in
set_option maxHeartbeats 4000000 in
/-- from the law's entry to its loop: both objects stand -/
theorem law_pre {k_0 : Kst} {d : Kdy} {b : Nat} (o_0 : Okc k_0 (dw d 0 0) cL_law RL 4 131) (n_0 : kn k_0 = 0) (A_0 : ∀ q, (ds d).heap.size ≤ q → kA k_0 q) (hRc : (dR d).cells = 600000) (hRs : (dR d).slots = 7302250)
    (kk : ∀ k', Sm k_0 k' → Ok k' (dw d 600000 7302250) cL_law RL 4 131 → Wz k' (dw d 600000 7302250) hs_88 18 [(0, .ref b), (1, .ref (ka k' 0)), (2, .ref (ka k' 49)), (3, .int 0)] []) : Wz k_0 (dw d 0 0) hs_0 0 [(0, .ref b)] [] := by
  refine z_new o_0 A_0 (ci := 10) (C := RX11) (T := TX11) (N := 12) rfl iX11 tyX11 tyX11_ok sk_7 si_11 sn_11 (by rw [n_0]; rfl) rfl sd_RX11 (by rw [n_0]; exact bd_hs_0) (by rw [n_0]; exact fr_hs_0) (by show 0 + 1 ≤ (dR d).cells; rw [hRc]; exact Nat.le_of_ble_eq_true rfl) (by show 0 + 12 ≤ (dR d).slots; rw [hRs]; exact Nat.le_of_ble_eq_true rfl) dL_law_0 (fun k_1 s_1 n_1 x_1 o_1 => ?_)
  rw [n_0]
  replace n_1 : kn k_1 = 1 := n_1.trans (by rw [n_0])
  have A_1 : ∀ q, (ds d).heap.size ≤ q → kA k_1 q := by rw [s_1.2.2.2.2]; exact A_0
  replace o_1 : Okc k_1 (dw d 1 12) cL_law RL 4 131 := o_1
  show Wz _ (dw d 1 12) _ _ _ _
  refine z_dup o_1 dL_law_3 rfl ?_
  refine z_callI o_1 A_1 (C_X11_init_t0 o_1.2.2.2.2.2.2.1 n_1) (by decide) (by decide) sl_9 sm_11 sn_11 sc_11 rfl (by decide +kernel) (Nat.le_of_ble_eq_true rfl) (by show 1 + 48 ≤ (dR d).cells; rw [hRc]; exact Nat.le_of_ble_eq_true rfl) (by show 12 + 3520 ≤ (dR d).slots; rw [hRs]; exact Nat.le_of_ble_eq_true rfl) dL_law_4 (fun k_2 s_2 n_2 x_2 o_2 => ?_)
  rw [x_2 0 (by rw [n_1]; decide)]
  replace s_2 : Sm k_0 k_2 := sm_tr s_1 s_2
  have A_2 : ∀ q, (ds d).heap.size ≤ q → kA k_2 q := by rw [s_2.2.2.2.2]; exact A_0
  replace o_2 : Okc k_2 (dw d 49 3532) cL_law RL 4 131 := o_2
  show Wz _ (dw d 49 3532) _ _ _ _
  refine z_astore_n o_2 dL_law_7 (by decide) rfl [(1, .ref (ka k_2 0)), (0, .ref b)] rfl ?_
  refine z_new o_2 A_2 (ci := 11) (C := RX12) (T := TX12) (N := 51) rfl iX12 tyX12 tyX12_ok sk_10 si_12 sn_12 (by rw [n_2]; rfl) rfl sd_RX12 (by rw [n_2]; exact bd_mono0 bd_hs_54 (by decide)) (by rw [n_2]; exact fr_mono0 fr_hs_54 (by decide)) (by show 49 + 1 ≤ (dR d).cells; rw [hRc]; exact Nat.le_of_ble_eq_true rfl) (by show 3532 + 51 ≤ (dR d).slots; rw [hRs]; exact Nat.le_of_ble_eq_true rfl) dL_law_8 (fun k_3 s_3 n_3 x_3 o_3 => ?_)
  rw [x_3 0 (by rw [n_2]; decide), n_2]
  replace n_3 : kn k_3 = 50 := n_3.trans (by rw [n_2])
  replace s_3 : Sm k_0 k_3 := sm_tr s_2 s_3
  have A_3 : ∀ q, (ds d).heap.size ≤ q → kA k_3 q := by rw [s_3.2.2.2.2]; exact A_0
  replace o_3 : Okc k_3 (dw d 50 3583) cL_law RL 4 131 := o_3
  show Wz _ (dw d 50 3583) _ _ _ _
  refine z_dup o_3 dL_law_11 rfl ?_
  refine z_callI o_3 A_3 (C_X12_init_t49 o_3.2.2.2.2.2.2.1 n_3) (by decide) (by decide) sl_12 sm_12 sn_12 sc_12 rfl (by decide +kernel) (Nat.le_of_ble_eq_true rfl) (by show 50 + 32 ≤ (dR d).cells; rw [hRc]; exact Nat.le_of_ble_eq_true rfl) (by show 3583 + 49557 ≤ (dR d).slots; rw [hRs]; exact Nat.le_of_ble_eq_true rfl) dL_law_12 (fun k_4 s_4 n_4 x_4 o_4 => ?_)
  rw [x_4 0 (by rw [n_3]; decide), x_4 49 (by rw [n_3]; decide)]
  replace s_4 : Sm k_0 k_4 := sm_tr s_3 s_4
  replace o_4 : Okc k_4 (dw d 82 53140) cL_law RL 4 131 := o_4
  show Wz _ (dw d 82 53140) _ _ _ _
  refine z_astore_n o_4 dL_law_15 (by decide) rfl [(2, .ref (ka k_4 49)), (1, .ref (ka k_4 0)), (0, .ref b)] rfl ?_
  refine z_iconst (v := 0) o_4 dL_law_16 (by decide) ?_
  refine z_istore_n o_4 dL_law_17 (by decide) rfl [(3, .int 0), (2, .ref (ka k_4 49)), (1, .ref (ka k_4 0)), (0, .ref b)] rfl ?_
  refine x_sub [3, 2, 1, 0] [(0, .ref b), (1, .ref (ka k_4 0)), (2, .ref (ka k_4 49)), (3, .int 0)] rfl ?_
  refine z_widen (c' := 600000) (s' := 7302250) (Nat.le_of_ble_eq_true rfl) (Nat.le_of_ble_eq_true rfl) ?_
  exact kk k_4 s_4 ⟨okc_dw (d := dw d 82 53140) o_4 (by show 600000 ≤ (dR d).cells; rw [hRc]; exact Nat.le_refl _) (by show 7302250 ≤ (dR d).slots; rw [hRs]; exact Nat.le_refl _), n_4⟩
def FF : Nat := 100000
