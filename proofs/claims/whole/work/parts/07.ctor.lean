theorem oi_inst : Cond.instanceMethod Lib.objectInit ∈ xtb := xtb_m 167 (by decide +kernel) rfl
theorem oi_code : Cond.code Lib.objectInit ⟨#[0xb1]⟩ 1 none ∈ xtb := xtb_m 168 (by decide +kernel) rfl
theorem wo_RX11_1 : Cond.methodLink RX11 1 Lib.objectInit ∈ xtb := xtb_m 166 (by decide +kernel) rfl
theorem wa_int : Cond.arrayClass (newarray.typeOf .int) ∈ xtb := xtb_m 193 (by decide +kernel) rfl
theorem wf_RX11_9 : Cond.fieldLink RX11 9 (TX11 0).1 (TX11 0).2.1 (TX11 0).2.2.1 ∈ xtb := xtb_m 404 (by decide +kernel) rfl
theorem wk_RX11_13 : Cond.classLink RX11 13 RX9 ∈ xtb := xtb_m 169 (by decide +kernel) rfl
theorem wi_RX9 : Cond.instantiable RX9 4 ∈ xtb := xtb_m 170 (by decide +kernel) rfl
theorem wni_RX9 : Cond.initialized RX9 ∈ xtb := xtb_m 146 (by decide +kernel) rfl
theorem df_RX9 : ∀ j, j < 4 → defaultValue (tyX9 j) = if fR 8 j = true then .null else .int 0 := fun j hj => by
  match j, hj with
  | 0, _ => rfl
  | 1, _ => rfl
  | 2, _ => rfl
  | 3, _ => rfl
  | (z + 4), hj => exact absurd hj (by omega)
theorem wo_RX9_3 : Cond.methodLink RX9 3 Lib.objectInit ∈ xtb := xtb_m 174 (by decide +kernel) rfl
theorem wf_RX9_9 : Cond.fieldLink RX9 9 (TX9 0).1 (TX9 0).2.1 (TX9 0).2.2.1 ∈ xtb := xtb_m 175 (by decide +kernel) rfl
theorem wv_RX11_15 : Cond.methodLinkNest RX11 15 yX9_init "MiddleBridge" ∈ xtb := xtb_m 171 (by decide +kernel) rfl
theorem wim_X9_init : Cond.instanceMethod yX9_init ∈ xtb := xtb_m 172 (by decide +kernel) rfl
theorem wci_X9_init : Cond.code yX9_init cX9_init 1 none ∈ xtb := xtb_m 173 (by decide +kernel) rfl
theorem wf_RX11_16 : Cond.fieldLink RX11 16 (TX11 2).1 (TX11 2).2.1 (TX11 2).2.2.1 ∈ xtb := xtb_m 406 (by decide +kernel) rfl
theorem wk_RX11_20 : Cond.classLink RX11 20 RX6 ∈ xtb := xtb_m 194 (by decide +kernel) rfl
theorem wi_RX6 : Cond.instantiable RX6 2 ∈ xtb := xtb_m 195 (by decide +kernel) rfl
theorem wni_RX6 : Cond.initialized RX6 ∈ xtb := xtb_m 147 (by decide +kernel) rfl
theorem df_RX6 : ∀ j, j < 2 → defaultValue (tyX6 j) = if fR 5 j = true then .null else .int 0 := fun j hj => by
  match j, hj with
  | 0, _ => rfl
  | 1, _ => rfl
  | (z + 2), hj => exact absurd hj (by omega)
theorem wo_RX6_3 : Cond.methodLink RX6 3 Lib.objectInit ∈ xtb := xtb_m 199 (by decide +kernel) rfl
theorem wf_RX6_9 : Cond.fieldLink RX6 9 (TX6 0).1 (TX6 0).2.1 (TX6 0).2.2.1 ∈ xtb := xtb_m 200 (by decide +kernel) rfl
theorem wv_RX11_22 : Cond.methodLinkNest RX11 22 yX6_init "MiddleBridge" ∈ xtb := xtb_m 196 (by decide +kernel) rfl
theorem wim_X6_init : Cond.instanceMethod yX6_init ∈ xtb := xtb_m 197 (by decide +kernel) rfl
theorem wci_X6_init : Cond.code yX6_init cX6_init 1 none ∈ xtb := xtb_m 198 (by decide +kernel) rfl
theorem wf_RX11_23 : Cond.fieldLink RX11 23 (TX11 3).1 (TX11 3).2.1 (TX11 3).2.2.1 ∈ xtb := xtb_m 407 (by decide +kernel) rfl
theorem wk_RX11_27 : Cond.classLink RX11 27 RX4 ∈ xtb := xtb_m 209 (by decide +kernel) rfl
theorem wi_RX4 : Cond.instantiable RX4 5 ∈ xtb := xtb_m 210 (by decide +kernel) rfl
theorem wni_RX4 : Cond.initialized RX4 ∈ xtb := xtb_m 148 (by decide +kernel) rfl
theorem df_RX4 : ∀ j, j < 5 → defaultValue (tyX4 j) = if fR 3 j = true then .null else .int 0 := fun j hj => by
  match j, hj with
  | 0, _ => rfl
  | 1, _ => rfl
  | 2, _ => rfl
  | 3, _ => rfl
  | 4, _ => rfl
  | (z + 5), hj => exact absurd hj (by omega)
theorem wo_RX4_3 : Cond.methodLink RX4 3 Lib.objectInit ∈ xtb := xtb_m 214 (by decide +kernel) rfl
theorem wf_RX4_9 : Cond.fieldLink RX4 9 (TX4 0).1 (TX4 0).2.1 (TX4 0).2.2.1 ∈ xtb := xtb_m 215 (by decide +kernel) rfl
theorem wf_RX4_15 : Cond.fieldLink RX4 15 (TX4 1).1 (TX4 1).2.1 (TX4 1).2.2.1 ∈ xtb := xtb_m 216 (by decide +kernel) rfl
theorem wf_RX4_18 : Cond.fieldLink RX4 18 (TX4 2).1 (TX4 2).2.1 (TX4 2).2.2.1 ∈ xtb := xtb_m 217 (by decide +kernel) rfl
theorem wf_RX4_21 : Cond.fieldLink RX4 21 (TX4 3).1 (TX4 3).2.1 (TX4 3).2.2.1 ∈ xtb := xtb_m 218 (by decide +kernel) rfl
theorem wv_RX11_29 : Cond.methodLinkNest RX11 29 yX4_init "MiddleBridge" ∈ xtb := xtb_m 211 (by decide +kernel) rfl
theorem wim_X4_init : Cond.instanceMethod yX4_init ∈ xtb := xtb_m 212 (by decide +kernel) rfl
theorem wci_X4_init : Cond.code yX4_init cX4_init 1 none ∈ xtb := xtb_m 213 (by decide +kernel) rfl
theorem wf_RX11_30 : Cond.fieldLink RX11 30 (TX11 4).1 (TX11 4).2.1 (TX11 4).2.2.1 ∈ xtb := xtb_m 408 (by decide +kernel) rfl
theorem wk_RX11_34 : Cond.classLink RX11 34 RX2 ∈ xtb := xtb_m 232 (by decide +kernel) rfl
theorem wi_RX2 : Cond.instantiable RX2 1 ∈ xtb := xtb_m 233 (by decide +kernel) rfl
theorem wni_RX2 : Cond.initialized RX2 ∈ xtb := xtb_m 149 (by decide +kernel) rfl
theorem df_RX2 : ∀ j, j < 1 → defaultValue (tyX2 j) = if fR 2 j = true then .null else .int 0 := fun j hj => by
  match j, hj with
  | 0, _ => rfl
  | (z + 1), hj => exact absurd hj (by omega)
theorem wo_RX2_3 : Cond.methodLink RX2 3 Lib.objectInit ∈ xtb := xtb_m 237 (by decide +kernel) rfl
theorem wk_RX2_9 : Cond.classLink RX2 9 RX1 ∈ xtb := xtb_m 238 (by decide +kernel) rfl
theorem wi_RX1 : Cond.instantiable RX1 9 ∈ xtb := xtb_m 239 (by decide +kernel) rfl
theorem wni_RX1 : Cond.initialized RX1 ∈ xtb := xtb_m 150 (by decide +kernel) rfl
theorem df_RX1 : ∀ j, j < 9 → defaultValue (tyX1 j) = if fR 1 j = true then .null else .int 0 := fun j hj => by
  match j, hj with
  | 0, _ => rfl
  | 1, _ => rfl
  | 2, _ => rfl
  | 3, _ => rfl
  | 4, _ => rfl
  | 5, _ => rfl
  | 6, _ => rfl
  | 7, _ => rfl
  | 8, _ => rfl
  | (z + 9), hj => exact absurd hj (by omega)
theorem wo_RX1_3 : Cond.methodLink RX1 3 Lib.objectInit ∈ xtb := xtb_m 243 (by decide +kernel) rfl
theorem wf_RX1_9 : Cond.fieldLink RX1 9 (TX1 0).1 (TX1 0).2.1 (TX1 0).2.2.1 ∈ xtb := xtb_m 244 (by decide +kernel) rfl
theorem wf_RX1_15 : Cond.fieldLink RX1 15 (TX1 1).1 (TX1 1).2.1 (TX1 1).2.2.1 ∈ xtb := xtb_m 245 (by decide +kernel) rfl
theorem wf_RX1_18 : Cond.fieldLink RX1 18 (TX1 2).1 (TX1 2).2.1 (TX1 2).2.2.1 ∈ xtb := xtb_m 246 (by decide +kernel) rfl
theorem wf_RX1_21 : Cond.fieldLink RX1 21 (TX1 3).1 (TX1 3).2.1 (TX1 3).2.2.1 ∈ xtb := xtb_m 247 (by decide +kernel) rfl
theorem wf_RX1_24 : Cond.fieldLink RX1 24 (TX1 4).1 (TX1 4).2.1 (TX1 4).2.2.1 ∈ xtb := xtb_m 248 (by decide +kernel) rfl
theorem wf_RX1_27 : Cond.fieldLink RX1 27 (TX1 5).1 (TX1 5).2.1 (TX1 5).2.2.1 ∈ xtb := xtb_m 249 (by decide +kernel) rfl
theorem wf_RX1_30 : Cond.fieldLink RX1 30 (TX1 6).1 (TX1 6).2.1 (TX1 6).2.2.1 ∈ xtb := xtb_m 250 (by decide +kernel) rfl
theorem wv_RX2_11 : Cond.methodLinkNest RX2 11 yX1_init "MiddleBridge" ∈ xtb := xtb_m 240 (by decide +kernel) rfl
theorem wim_X1_init : Cond.instanceMethod yX1_init ∈ xtb := xtb_m 241 (by decide +kernel) rfl
theorem wci_X1_init : Cond.code yX1_init cX1_init 1 none ∈ xtb := xtb_m 242 (by decide +kernel) rfl
theorem wf_RX2_12 : Cond.fieldLink RX2 12 (TX2 0).1 (TX2 0).2.1 (TX2 0).2.2.1 ∈ xtb := xtb_m 274 (by decide +kernel) rfl
theorem wv_RX11_36 : Cond.methodLinkNest RX11 36 yX2_init "MiddleBridge" ∈ xtb := xtb_m 234 (by decide +kernel) rfl
theorem wim_X2_init : Cond.instanceMethod yX2_init ∈ xtb := xtb_m 235 (by decide +kernel) rfl
theorem wci_X2_init : Cond.code yX2_init cX2_init 1 none ∈ xtb := xtb_m 236 (by decide +kernel) rfl
theorem wf_RX11_37 : Cond.fieldLink RX11 37 (TX11 5).1 (TX11 5).2.1 (TX11 5).2.2.1 ∈ xtb := xtb_m 409 (by decide +kernel) rfl
theorem wk_RX11_41 : Cond.classLink RX11 41 RX10 ∈ xtb := xtb_m 278 (by decide +kernel) rfl
theorem wi_RX10 : Cond.instantiable RX10 6 ∈ xtb := xtb_m 279 (by decide +kernel) rfl
theorem wni_RX10 : Cond.initialized RX10 ∈ xtb := xtb_m 151 (by decide +kernel) rfl
theorem df_RX10 : ∀ j, j < 6 → defaultValue (tyX10 j) = if fR 9 j = true then .null else .int 0 := fun j hj => by
  match j, hj with
  | 0, _ => rfl
  | 1, _ => rfl
  | 2, _ => rfl
  | 3, _ => rfl
  | 4, _ => rfl
  | 5, _ => rfl
  | (z + 6), hj => exact absurd hj (by omega)
theorem wo_RX10_3 : Cond.methodLink RX10 3 Lib.objectInit ∈ xtb := xtb_m 283 (by decide +kernel) rfl
theorem wk_RX10_9 : Cond.classLink RX10 9 RX5 ∈ xtb := xtb_m 284 (by decide +kernel) rfl
theorem wi_RX5 : Cond.instantiable RX5 2 ∈ xtb := xtb_m 285 (by decide +kernel) rfl
theorem wni_RX5 : Cond.initialized RX5 ∈ xtb := xtb_m 152 (by decide +kernel) rfl
theorem df_RX5 : ∀ j, j < 2 → defaultValue (tyX5 j) = if fR 4 j = true then .null else .int 0 := fun j hj => by
  match j, hj with
  | 0, _ => rfl
  | 1, _ => rfl
  | (z + 2), hj => exact absurd hj (by omega)
theorem wo_RX5_3 : Cond.methodLink RX5 3 Lib.objectInit ∈ xtb := xtb_m 289 (by decide +kernel) rfl
theorem wf_RX5_9 : Cond.fieldLink RX5 9 (TX5 0).1 (TX5 0).2.1 (TX5 0).2.2.1 ∈ xtb := xtb_m 290 (by decide +kernel) rfl
theorem wv_RX10_11 : Cond.methodLinkNest RX10 11 yX5_init "MiddleBridge" ∈ xtb := xtb_m 286 (by decide +kernel) rfl
theorem wim_X5_init : Cond.instanceMethod yX5_init ∈ xtb := xtb_m 287 (by decide +kernel) rfl
theorem wci_X5_init : Cond.code yX5_init cX5_init 1 none ∈ xtb := xtb_m 288 (by decide +kernel) rfl
theorem wf_RX10_12 : Cond.fieldLink RX10 12 (TX10 0).1 (TX10 0).2.1 (TX10 0).2.2.1 ∈ xtb := xtb_m 343 (by decide +kernel) rfl
theorem wf_RX10_18 : Cond.fieldLink RX10 18 (TX10 1).1 (TX10 1).2.1 (TX10 1).2.2.1 ∈ xtb := xtb_m 345 (by decide +kernel) rfl
theorem wk_RX10_21 : Cond.classLink RX10 21 RX8 ∈ xtb := xtb_m 300 (by decide +kernel) rfl
theorem wi_RX8 : Cond.instantiable RX8 8 ∈ xtb := xtb_m 301 (by decide +kernel) rfl
theorem wni_RX8 : Cond.initialized RX8 ∈ xtb := xtb_m 153 (by decide +kernel) rfl
theorem df_RX8 : ∀ j, j < 8 → defaultValue (tyX8 j) = if fR 7 j = true then .null else .int 0 := fun j hj => by
  match j, hj with
  | 0, _ => rfl
  | 1, _ => rfl
  | 2, _ => rfl
  | 3, _ => rfl
  | 4, _ => rfl
  | 5, _ => rfl
  | 6, _ => rfl
  | 7, _ => rfl
  | (z + 8), hj => exact absurd hj (by omega)
theorem wo_RX8_3 : Cond.methodLink RX8 3 Lib.objectInit ∈ xtb := xtb_m 305 (by decide +kernel) rfl
theorem wf_RX8_9 : Cond.fieldLink RX8 9 (TX8 2).1 (TX8 2).2.1 (TX8 2).2.2.1 ∈ xtb := xtb_m 308 (by decide +kernel) rfl
theorem wf_RX8_15 : Cond.fieldLink RX8 15 (TX8 7).1 (TX8 7).2.1 (TX8 7).2.2.1 ∈ xtb := xtb_m 321 (by decide +kernel) rfl
theorem wv_RX10_23 : Cond.methodLinkNest RX10 23 yX8_init "MiddleBridge" ∈ xtb := xtb_m 302 (by decide +kernel) rfl
theorem wim_X8_init : Cond.instanceMethod yX8_init ∈ xtb := xtb_m 303 (by decide +kernel) rfl
theorem wci_X8_init : Cond.code yX8_init cX8_init 1 none ∈ xtb := xtb_m 304 (by decide +kernel) rfl
theorem wf_RX10_24 : Cond.fieldLink RX10 24 (TX10 2).1 (TX10 2).2.1 (TX10 2).2.2.1 ∈ xtb := xtb_m 347 (by decide +kernel) rfl
theorem wf_RX10_30 : Cond.fieldLink RX10 30 (TX10 3).1 (TX10 3).2.1 (TX10 3).2.2.1 ∈ xtb := xtb_m 349 (by decide +kernel) rfl
theorem wk_RX10_34 : Cond.classLink RX10 34 RX1 ∈ xtb := xtb_m 340 (by decide +kernel) rfl
theorem wv_RX10_36 : Cond.methodLinkNest RX10 36 yX1_init "MiddleBridge" ∈ xtb := xtb_m 341 (by decide +kernel) rfl
theorem wf_RX10_37 : Cond.fieldLink RX10 37 (TX10 4).1 (TX10 4).2.1 (TX10 4).2.2.1 ∈ xtb := xtb_m 350 (by decide +kernel) rfl
theorem wq_RX10_41 : Cond.constant RX10 41 (99999) ∈ xtb := xtb_m 342 (by decide +kernel) rfl
theorem wf_RX10_42 : Cond.fieldLink RX10 42 (TX10 5).1 (TX10 5).2.1 (TX10 5).2.2.1 ∈ xtb := xtb_m 352 (by decide +kernel) rfl
theorem wv_RX11_43 : Cond.methodLinkNest RX11 43 yX10_init "MiddleBridge" ∈ xtb := xtb_m 280 (by decide +kernel) rfl
theorem wim_X10_init : Cond.instanceMethod yX10_init ∈ xtb := xtb_m 281 (by decide +kernel) rfl
theorem wci_X10_init : Cond.code yX10_init cX10_init 1 none ∈ xtb := xtb_m 282 (by decide +kernel) rfl
theorem wf_RX11_44 : Cond.fieldLink RX11 44 (TX11 6).1 (TX11 6).2.1 (TX11 6).2.2.1 ∈ xtb := xtb_m 410 (by decide +kernel) rfl
theorem wk_RX11_48 : Cond.classLink RX11 48 RX8 ∈ xtb := xtb_m 367 (by decide +kernel) rfl
theorem wv_RX11_50 : Cond.methodLinkNest RX11 50 yX8_init "MiddleBridge" ∈ xtb := xtb_m 368 (by decide +kernel) rfl
theorem wf_RX11_51 : Cond.fieldLink RX11 51 (TX11 7).1 (TX11 7).2.1 (TX11 7).2.2.1 ∈ xtb := xtb_m 411 (by decide +kernel) rfl
theorem wf_RX11_55 : Cond.fieldLink RX11 55 (TX11 8).1 (TX11 8).2.1 (TX11 8).2.2.1 ∈ xtb := xtb_m 412 (by decide +kernel) rfl
theorem wk_RX11_58 : Cond.classLink RX11 58 RX0 ∈ xtb := xtb_m 369 (by decide +kernel) rfl
theorem wi_RX0 : Cond.instantiable RX0 2 ∈ xtb := xtb_m 370 (by decide +kernel) rfl
theorem wni_RX0 : Cond.initialized RX0 ∈ xtb := xtb_m 154 (by decide +kernel) rfl
theorem df_RX0 : ∀ j, j < 2 → defaultValue (tyX0 j) = if fR 0 j = true then .null else .int 0 := fun j hj => by
  match j, hj with
  | 0, _ => rfl
  | 1, _ => rfl
  | (z + 2), hj => exact absurd hj (by omega)
theorem wo_RX0_3 : Cond.methodLink RX0 3 Lib.objectInit ∈ xtb := xtb_m 374 (by decide +kernel) rfl
theorem wf_RX0_11 : Cond.fieldLink RX0 11 (TX0 0).1 (TX0 0).2.1 (TX0 0).2.2.1 ∈ xtb := xtb_m 375 (by decide +kernel) rfl
theorem wf_RX0_15 : Cond.fieldLink RX0 15 (TX0 1).1 (TX0 1).2.1 (TX0 1).2.2.1 ∈ xtb := xtb_m 376 (by decide +kernel) rfl
theorem wv_RX11_60 : Cond.methodLinkNest RX11 60 yX0_init "MiddleBridge" ∈ xtb := xtb_m 371 (by decide +kernel) rfl
theorem wim_X0_init : Cond.instanceMethod yX0_init ∈ xtb := xtb_m 372 (by decide +kernel) rfl
theorem wci_X0_init : Cond.code yX0_init cX0_init 1 none ∈ xtb := xtb_m 373 (by decide +kernel) rfl
theorem wf_RX11_61 : Cond.fieldLink RX11 61 (TX11 9).1 (TX11 9).2.1 (TX11 9).2.2.1 ∈ xtb := xtb_m 413 (by decide +kernel) rfl
theorem wk_RX11_65 : Cond.classLink RX11 65 RX7 ∈ xtb := xtb_m 382 (by decide +kernel) rfl
theorem wi_RX7 : Cond.instantiable RX7 5 ∈ xtb := xtb_m 383 (by decide +kernel) rfl
theorem wni_RX7 : Cond.initialized RX7 ∈ xtb := xtb_m 155 (by decide +kernel) rfl
theorem df_RX7 : ∀ j, j < 5 → defaultValue (tyX7 j) = if fR 6 j = true then .null else .int 0 := fun j hj => by
  match j, hj with
  | 0, _ => rfl
  | 1, _ => rfl
  | 2, _ => rfl
  | 3, _ => rfl
  | 4, _ => rfl
  | (z + 5), hj => exact absurd hj (by omega)
theorem wo_RX7_3 : Cond.methodLink RX7 3 Lib.objectInit ∈ xtb := xtb_m 387 (by decide +kernel) rfl
theorem wf_RX7_9 : Cond.fieldLink RX7 9 (TX7 0).1 (TX7 0).2.1 (TX7 0).2.2.1 ∈ xtb := xtb_m 388 (by decide +kernel) rfl
theorem wf_RX7_15 : Cond.fieldLink RX7 15 (TX7 1).1 (TX7 1).2.1 (TX7 1).2.2.1 ∈ xtb := xtb_m 389 (by decide +kernel) rfl
theorem wf_RX7_18 : Cond.fieldLink RX7 18 (TX7 2).1 (TX7 2).2.1 (TX7 2).2.2.1 ∈ xtb := xtb_m 390 (by decide +kernel) rfl
theorem wf_RX7_21 : Cond.fieldLink RX7 21 (TX7 3).1 (TX7 3).2.1 (TX7 3).2.2.1 ∈ xtb := xtb_m 391 (by decide +kernel) rfl
theorem wf_RX7_24 : Cond.fieldLink RX7 24 (TX7 4).1 (TX7 4).2.1 (TX7 4).2.2.1 ∈ xtb := xtb_m 392 (by decide +kernel) rfl
theorem wv_RX11_67 : Cond.methodLinkNest RX11 67 yX7_init "MiddleBridge" ∈ xtb := xtb_m 384 (by decide +kernel) rfl
theorem wim_X7_init : Cond.instanceMethod yX7_init ∈ xtb := xtb_m 385 (by decide +kernel) rfl
theorem wci_X7_init : Cond.code yX7_init cX7_init 1 none ∈ xtb := xtb_m 386 (by decide +kernel) rfl
theorem wf_RX11_68 : Cond.fieldLink RX11 68 (TX11 10).1 (TX11 10).2.1 (TX11 10).2.2.1 ∈ xtb := xtb_m 414 (by decide +kernel) rfl
theorem wf_RX11_72 : Cond.fieldLink RX11 72 (TX11 1).1 (TX11 1).2.1 (TX11 1).2.2.1 ∈ xtb := xtb_m 405 (by decide +kernel) rfl
theorem wf_RX11_76 : Cond.fieldLink RX11 76 (TX11 11).1 (TX11 11).2.1 (TX11 11).2.2.1 ∈ xtb := xtb_m 415 (by decide +kernel) rfl
theorem wo_RX12_1 : Cond.methodLink RX12 1 Lib.objectInit ∈ xtb := xtb_m 1074 (by decide +kernel) rfl
theorem wf_RX12_7 : Cond.fieldLink RX12 7 (TX12 0).1 (TX12 0).2.1 (TX12 0).2.2.1 ∈ xtb := xtb_m 1077 (by decide +kernel) rfl
theorem wf_RX12_13 : Cond.fieldLink RX12 13 (TX12 1).1 (TX12 1).2.1 (TX12 1).2.2.1 ∈ xtb := xtb_m 1078 (by decide +kernel) rfl
theorem wf_RX12_16 : Cond.fieldLink RX12 16 (TX12 2).1 (TX12 2).2.1 (TX12 2).2.2.1 ∈ xtb := xtb_m 1079 (by decide +kernel) rfl
theorem wf_RX12_19 : Cond.fieldLink RX12 19 (TX12 3).1 (TX12 3).2.1 (TX12 3).2.2.1 ∈ xtb := xtb_m 1080 (by decide +kernel) rfl
theorem wf_RX12_22 : Cond.fieldLink RX12 22 (TX12 4).1 (TX12 4).2.1 (TX12 4).2.2.1 ∈ xtb := xtb_m 1081 (by decide +kernel) rfl
theorem wa_byte : Cond.arrayClass (newarray.typeOf .byte) ∈ xtb := xtb_m 1231 (by decide +kernel) rfl
theorem wf_RX12_25 : Cond.fieldLink RX12 25 (TX12 6).1 (TX12 6).2.1 (TX12 6).2.2.1 ∈ xtb := xtb_m 1083 (by decide +kernel) rfl
theorem wf_RX12_29 : Cond.fieldLink RX12 29 (TX12 17).1 (TX12 17).2.1 (TX12 17).2.2.1 ∈ xtb := xtb_m 1094 (by decide +kernel) rfl
theorem wf_RX12_32 : Cond.fieldLink RX12 32 (TX12 18).1 (TX12 18).2.1 (TX12 18).2.2.1 ∈ xtb := xtb_m 1095 (by decide +kernel) rfl
theorem wf_RX12_35 : Cond.fieldLink RX12 35 (TX12 19).1 (TX12 19).2.1 (TX12 19).2.2.1 ∈ xtb := xtb_m 1096 (by decide +kernel) rfl
theorem wf_RX12_38 : Cond.fieldLink RX12 38 (TX12 20).1 (TX12 20).2.1 (TX12 20).2.2.1 ∈ xtb := xtb_m 1097 (by decide +kernel) rfl
theorem wf_RX12_41 : Cond.fieldLink RX12 41 (TX12 21).1 (TX12 21).2.1 (TX12 21).2.2.1 ∈ xtb := xtb_m 1098 (by decide +kernel) rfl
theorem wf_RX12_44 : Cond.fieldLink RX12 44 (TX12 22).1 (TX12 22).2.1 (TX12 22).2.2.1 ∈ xtb := xtb_m 1099 (by decide +kernel) rfl
theorem wf_RX12_47 : Cond.fieldLink RX12 47 (TX12 23).1 (TX12 23).2.1 (TX12 23).2.2.1 ∈ xtb := xtb_m 1100 (by decide +kernel) rfl
theorem wf_RX12_50 : Cond.fieldLink RX12 50 (TX12 24).1 (TX12 24).2.1 (TX12 24).2.2.1 ∈ xtb := xtb_m 1101 (by decide +kernel) rfl
theorem wf_RX12_53 : Cond.fieldLink RX12 53 (TX12 25).1 (TX12 25).2.1 (TX12 25).2.2.1 ∈ xtb := xtb_m 1102 (by decide +kernel) rfl
theorem wf_RX12_56 : Cond.fieldLink RX12 56 (TX12 26).1 (TX12 26).2.1 (TX12 26).2.2.1 ∈ xtb := xtb_m 1103 (by decide +kernel) rfl
theorem wf_RX12_59 : Cond.fieldLink RX12 59 (TX12 27).1 (TX12 27).2.1 (TX12 27).2.2.1 ∈ xtb := xtb_m 1104 (by decide +kernel) rfl
theorem wf_RX12_62 : Cond.fieldLink RX12 62 (TX12 28).1 (TX12 28).2.1 (TX12 28).2.2.1 ∈ xtb := xtb_m 1105 (by decide +kernel) rfl
theorem wf_RX12_65 : Cond.fieldLink RX12 65 (TX12 29).1 (TX12 29).2.1 (TX12 29).2.2.1 ∈ xtb := xtb_m 1106 (by decide +kernel) rfl
theorem wf_RX12_68 : Cond.fieldLink RX12 68 (TX12 30).1 (TX12 30).2.1 (TX12 30).2.2.1 ∈ xtb := xtb_m 1107 (by decide +kernel) rfl
theorem wf_RX12_71 : Cond.fieldLink RX12 71 (TX12 31).1 (TX12 31).2.1 (TX12 31).2.2.1 ∈ xtb := xtb_m 1108 (by decide +kernel) rfl
theorem wf_RX12_74 : Cond.fieldLink RX12 74 (TX12 32).1 (TX12 32).2.1 (TX12 32).2.2.1 ∈ xtb := xtb_m 1109 (by decide +kernel) rfl
theorem wf_RX12_77 : Cond.fieldLink RX12 77 (TX12 33).1 (TX12 33).2.1 (TX12 33).2.2.1 ∈ xtb := xtb_m 1110 (by decide +kernel) rfl
theorem wf_RX12_80 : Cond.fieldLink RX12 80 (TX12 41).1 (TX12 41).2.1 (TX12 41).2.2.1 ∈ xtb := xtb_m 1118 (by decide +kernel) rfl
theorem wf_RX12_83 : Cond.fieldLink RX12 83 (TX12 42).1 (TX12 42).2.1 (TX12 42).2.2.1 ∈ xtb := xtb_m 1119 (by decide +kernel) rfl
theorem wf_RX12_86 : Cond.fieldLink RX12 86 (TX12 43).1 (TX12 43).2.1 (TX12 43).2.2.1 ∈ xtb := xtb_m 1120 (by decide +kernel) rfl
theorem wf_RX12_89 : Cond.fieldLink RX12 89 (TX12 44).1 (TX12 44).2.1 (TX12 44).2.2.1 ∈ xtb := xtb_m 1121 (by decide +kernel) rfl
theorem wf_RX12_92 : Cond.fieldLink RX12 92 (TX12 45).1 (TX12 45).2.1 (TX12 45).2.2.1 ∈ xtb := xtb_m 1122 (by decide +kernel) rfl
theorem wq_RX12_95 : Cond.constant RX12 95 (46656) ∈ xtb := xtb_m 1075 (by decide +kernel) rfl
theorem wf_RX12_96 : Cond.fieldLink RX12 96 (TX12 46).1 (TX12 46).2.1 (TX12 46).2.2.1 ∈ xtb := xtb_m 1123 (by decide +kernel) rfl
theorem wf_RX12_99 : Cond.fieldLink RX12 99 (TX12 47).1 (TX12 47).2.1 (TX12 47).2.2.1 ∈ xtb := xtb_m 1124 (by decide +kernel) rfl
theorem wf_RX12_102 : Cond.fieldLink RX12 102 (TX12 48).1 (TX12 48).2.1 (TX12 48).2.2.1 ∈ xtb := xtb_m 1125 (by decide +kernel) rfl
theorem wf_RX12_105 : Cond.fieldLink RX12 105 (TX12 49).1 (TX12 49).2.1 (TX12 49).2.2.1 ∈ xtb := xtb_m 1126 (by decide +kernel) rfl
theorem wq_RX12_108 : Cond.constant RX12 108 (99999) ∈ xtb := xtb_m 1076 (by decide +kernel) rfl
theorem wf_RX12_109 : Cond.fieldLink RX12 109 (TX12 5).1 (TX12 5).2.1 (TX12 5).2.2.1 ∈ xtb := xtb_m 1082 (by decide +kernel) rfl
/-! CONSTRUCTORS: objects and arrays come one by one -/
def kset (k : Kst) (ad : Nat → Nat) (n : Nat) : Kst := (kl k, kD k, kI k, kB k, kA k, ad, n)
def dw (d : Kdy) (c s : Nat) : Kdy := (dp d, de d, dR d, ds d, dm d, da d, db d, dM d, dc d, c, s, dQ d)
def Bd (n : Nat) (h : Hp) : Prop := ∀ i f j, h.2 i f = some j → j < n
def Fr (n : Nat) (h : Hp) : Prop := ∀ i, n ≤ i → ∀ j, h.1 i j = 0 ∧ h.2 i j = none
theorem bd_mono0 {n m : Nat} {h : Hp} (H : Bd n h) (hm : n ≤ m) : Bd m h := fun i f j e => Nat.lt_of_lt_of_le (H i f j e) hm
theorem bd_up0 {n : Nat} {h : Hp} {a j : Nat} {v : Int32} (H : Bd n h) : Bd n (up h a j v) := H
theorem bd_ur0 {n : Nat} {h : Hp} {a j v : Nat} (H : Bd n h) (hv : v < n) : Bd n (ur h a j v) := by
  intro i f q e
  unfold ur at e
  dsimp only at e
  split at e
  · cases e
    exact hv
  · exact H i f q e
theorem fr_mono0 {n m : Nat} {h : Hp} (H : Fr n h) (hm : n ≤ m) : Fr m h := fun i hi j => H i (Nat.le_trans hm hi) j
theorem fr_up0 {n : Nat} {h : Hp} {a j : Nat} {v : Int32} (H : Fr n h) (ha : a < n) : Fr n (up h a j v) := fun i hi q => ⟨(up_same (fun e => absurd e.1 (by omega))).trans (H i hi q).1, (H i hi q).2⟩
theorem fr_ur0 {n : Nat} {h : Hp} {a j v : Nat} (H : Fr n h) (ha : a < n) : Fr n (ur h a j v) := fun i hi q => ⟨(H i hi q).1, by
  show (if i = a ∧ q = j then some v else h.2 i q) = none
  rw [if_neg (fun e => absurd e.1 (by omega))]
  exact (H i hi q).2⟩
theorem ce_ext {k : Kst} {ad : Nat → Nat} {n : Nat} {h : Hp} {i : Nat} (hB : Bd (kn k) h) (ha : ∀ j, j < kn k → ad j = ka k j) : ce (kset k ad n) h i = ce k h i := by
  have e : fv (kset k ad n) h i = fv k h i := by
    funext f
    unfold fv
    cases hj : h.2 i f with
    | none => rfl
    | some j =>
      have : ka (kset k ad n) j = ka k j := ha j (hB i f j hj)
      simp only [Option.map_some, this]
  unfold ce
  rw [e]
  rfl
def kx (k : Kst) (q : Nat) : Kst := kset k (fun i => if i = kn k then q else ka k i) (kn k + 1)
def Sm (k k' : Kst) : Prop := kl k' = kl k ∧ kD k' = kD k ∧ kI k' = kI k ∧ kB k' = kB k ∧ kA k' = kA k
theorem sm_rf {k : Kst} : Sm k k := ⟨rfl, rfl, rfl, rfl, rfl⟩
theorem sm_kset {k : Kst} {ad : Nat → Nat} {n : Nat} : Sm k (kset k ad n) := ⟨rfl, rfl, rfl, rfl, rfl⟩
theorem sm_tr {a b c : Kst} (h : Sm a b) (g : Sm b c) : Sm a c := ⟨g.1.trans h.1, g.2.1.trans h.2.1, g.2.2.1.trans h.2.2.1, g.2.2.2.1.trans h.2.2.2.1, g.2.2.2.2.trans h.2.2.2.2⟩
theorem sm_eq {k k' : Kst} {n : Nat} (h : Sm k k') (hn : kn k' = n) : kset k (ka k') n = k' := by
  obtain ⟨a, b, c, d, e⟩ := h
  subst hn
  unfold kset
  rw [← a, ← b, ← c, ← d, ← e]
  rfl
theorem ka_kx {k : Kst} {q i : Nat} (hi : i < kn k) : ka k i = ka (kx k q) i := by
  show _ = if i = kn k then q else ka k i
  rw [if_neg (by omega)]
theorem ka_new {k : Kst} {q : Nat} : q = ka (kx k q) (kn k) := by
  show _ = if kn k = kn k then q else ka k _
  rw [if_pos rfl]
theorem ws_push {k : Kst} {h : Hp} {q : Nat} (hB : Bd (kn k) h) : ws (kx k q) h = ws k h ++ [(q, ce (kx k q) h (kn k))] := by
  show (List.range (kn k + 1)).map _ = _
  rw [List.range_succ, List.map_append]
  congr 1
  · apply List.map_congr_left
    intro i hi
    have hi' := List.mem_range.mp hi
    rw [← ka_kx hi']
    congr 1
    exact ce_ext hB (fun j hj => (ka_kx hj).symm)
  · show [(ka (kx k q) (kn k), _)] = _
    rw [← ka_new]
theorem dj_kx {k : Kst} {h : Hp} {q : Nat} (hB : Bd (kn k) h) (hD : va_D (kA k) (ws k h ++ [(q, ce (kx k q) h (kn k))])) : Dj (kx k q) := by
  rw [← ws_push hB] at hD
  have g : ∀ i, i < kn (kx k q) → (ws (kx k q) h)[i]? = some (ka (kx k q) i, ce (kx k q) h i) := fun i hi => ws_get hi
  exact ⟨fun i j hi hj e => hD.1 i j _ _ (g i hi) (g j hj) e, fun i hi => hD.2 i _ (g i hi)⟩
theorem okc_dw {k : Kst} {d : Kdy} {cc : ByteArray} {own : String} {nL lev c s : Nat} (o : Okc k d cc own nL lev) (h1 : c ≤ (dR d).cells) (h2 : s ≤ (dR d).slots) : Okc k (dw d c s) cc own nL lev := ⟨o.1, o.2.1, o.2.2.1, o.2.2.2.1, o.2.2.2.2.1, o.2.2.2.2.2.1, o.2.2.2.2.2.2.1, o.2.2.2.2.2.2.2.1, o.2.2.2.2.2.2.2.2.1, h1, h2⟩
theorem okc_kset {k : Kst} {d : Kdy} {cc : ByteArray} {own : String} {nL lev n : Nat} {ad : Nat → Nat} (o : Okc k d cc own nL lev) (hj : Dj (kset k ad n)) : Okc (kset k ad n) d cc own nL lev := ⟨o.1, o.2.1, o.2.2.1, o.2.2.2.1, o.2.2.2.2.1, o.2.2.2.2.2.1, hj, o.2.2.2.2.2.2.2.1, o.2.2.2.2.2.2.2.2.1, o.2.2.2.2.2.2.2.2.2.1, o.2.2.2.2.2.2.2.2.2.2⟩
section rows6
variable {k : Kst} {d : Kdy} {cc : ByteArray} {own : String} {nL lev : Nat} {h : Hp} {pc : Nat} {ls : List (Nat × Value)} {st : List Value}
theorem z_iconst (o : Okc k d cc own nL lev) {n : Int} {v : Int32} (hdg : decode cc pc = .ok (.iconst n, 1)) (hv : Int32.ofInt n = v) (kk : Wz k d h (pc + 1) ls (.int v :: st)) : Wz k d h pc ls st := fun H locs la hP hS hl => lv_iconst o.1 o.2.1 hdg hv (kk H locs la hP hS hl)
theorem z_bipush (o : Okc k d cc own nL lev) {n : Int} {v : Int32} (hdg : decode cc pc = .ok (.bipush n, 2)) (hv : (Int8.ofInt n).toInt32 = v) (kk : Wz k d h (pc + 2) ls (.int v :: st)) : Wz k d h pc ls st := fun H locs la hP hS hl => lv_bipush o.1 o.2.1 hdg hv (kk H locs la hP hS hl)
theorem z_sipush (o : Okc k d cc own nL lev) {n : Int} {v : Int32} (hdg : decode cc pc = .ok (.sipush n, 3)) (hv : (Int16.ofInt n).toInt32 = v) (kk : Wz k d h (pc + 3) ls (.int v :: st)) : Wz k d h pc ls st := fun H locs la hP hS hl => lv_sipush o.1 o.2.1 hdg hv (kk H locs la hP hS hl)
theorem z_ldc (o : Okc k d cc own nL lev) {n : Nat} {v : Int32} (hdg : decode cc pc = .ok (.ldc n, 2)) (hw : Cond.constant own n v ∈ xtb) (kk : Wz k d h (pc + 2) ls (.int v :: st)) : Wz k d h pc ls st := fun H locs la hP hS hl => lv_ldc o.1 o.2.1 o.2.2.2.1 (o.2.2.2.2.1 _ hw) hdg (kk H locs la hP hS hl)
theorem z_ldcw (o : Okc k d cc own nL lev) {n : Nat} {v : Int32} (hdg : decode cc pc = .ok (.ldc_w n, 3)) (hw : Cond.constant own n v ∈ xtb) (kk : Wz k d h (pc + 3) ls (.int v :: st)) : Wz k d h pc ls st := fun H locs la hP hS hl => lv_ldcw o.1 o.2.1 o.2.2.2.1 (o.2.2.2.2.1 _ hw) hdg (kk H locs la hP hS hl)
theorem z_aload_n (o : Okc k d cc own nL lev) {n : Fin 4} {i : Nat} {x : Nat} (hdg : decode cc pc = .ok (.aload_n n, 1)) (j : Nat) (hj : ls[j]? = some (i, .ref x)) (hi : (n : Nat) = i) (kk : Wz k d h (pc + 1) ls (.ref x :: st)) : Wz k d h pc ls st := fun H locs la hP hS hl => lv_aload_n o.1 o.2.1 hdg hi (lv_at hl j hj) (kk H locs la hP hS hl)
theorem z_dup (o : Okc k d cc own nL lev) {v : Value} (hdg : decode cc pc = .ok (.dup, 1)) (hv : v.category = 1) (kk : Wz k d h (pc + 1) ls (v :: v :: st)) : Wz k d h pc ls (v :: st) := fun H locs la hP hS hl => lv_dup o.1 o.2.1 hdg hv (kk H locs la hP hS hl)
theorem z_new (o : Okc k d cc own nL lev) (hA : ∀ q, (ds d).heap.size ≤ q → kA k q) {ci idx N : Nat} {C : String} {T : u_T} (hc : vwCl[ci]? = some (C, T, N)) (hin : ∀ w ∈ u_ws C T N, w ∈ xtb) (ty : Nat → FieldType) (hty : ∀ k, k < N → parseFieldDescriptor (T k).2.2.1 = some (ty k)) (m1 : Cond.classLink own idx C ∈ xtb) (m2 : Cond.instantiable C N ∈ xtb) (m3 : Cond.initialized C ∈ xtb) (hkd : kd (kn k) = (0, ci)) (hN : fN ci = N) (hdef : ∀ j, j < N → defaultValue (ty j) = if fR ci j = true then .null else .int 0) (hB : Bd (kn k) h) (hF : Fr (kn k) h) (hcells : dk d + 1 ≤ (dR d).cells) (hslots : dl d + N ≤ (dR d).slots) (hdg : decode cc pc = .ok (.new idx, 3))
    (kk : ∀ k', Sm k k' → kn k' = kn k + 1 → (∀ i, i < kn k → ka k i = ka k' i) → Okc k' (dw d (dk d + 1) (dl d + N)) cc own nL lev → Wz k' (dw d (dk d + 1) (dl d + N)) h (pc + 3) ls (.ref (ka k' (kn k)) :: st)) : Wz k d h pc ls st := fun H locs la hP hS hl => by
  have e : ∀ q, ce (kx k q) h (kn k) = .inr (ci, (List.range N).map (fun j => if fR ci j = true then .null else .int 0)) := by
    intro q
    rw [ce_o hkd, hN]
    congr 2
    apply List.map_congr_left
    intro j _
    unfold fv
    rw [hkd, (hF _ (Nat.le_refl _) j).1, (hF _ (Nat.le_refl _) j).2]
    rfl
  refine va_new (D := kD k) (fs := (List.range N).map (fun j => if fR ci j = true then .null else .int 0)) o.1 o.2.1 o.2.2.2.2.1 hin ty hty o.2.2.2.1 (o.2.2.2.2.1 _ m1) (o.2.2.2.2.1 _ m2) (o.2.2.2.2.1 _ m3) o.2.2.2.2.2.1 hP (dj_D o.2.2.2.2.2.2.1) hS hA hc (fun j hj => by
    rw [hdef j hj]
    unfold vp_V
    rw [List.getD_eq_getElem?_getD, List.getElem?_map, List.getElem?_range hj]
    rfl) hcells hslots hdg (fun q H1 hP1 hD1 hS1 => ?_)
  rw [← e q] at hP1 hD1
  have K := kk (kx k q) sm_kset rfl (fun i hi => ka_kx hi) (okc_dw (okc_kset o (dj_kx hB hD1)) hcells hslots) H1 locs la (by rw [ws_push hB]; exact hP1) hS1 hl
  rw [← ka_new] at K
  exact K
theorem z_newa (o : Okc k d cc own nL lev) (hA : ∀ q, (ds d).heap.size ≤ q → kA k q) {at_ : ArrayType} {kn1 N' : Nat} {n : Int32} (hat : (at_ = .int ∧ kn1 = 1) ∨ (at_ = .byte ∧ kn1 = 2)) (m1 : Cond.arrayClass (newarray.typeOf at_) ∈ xtb) (hkd : kd (kn k) = (kn1, N')) (hB : Bd (kn k) h) (hF : Fr (kn k) h) (hn : ¬ n < 0) (hN : n.toNatClampNeg = N') (hb : N' ≤ 100000) (hcells : dk d + 1 ≤ (dR d).cells) (hslots : dl d + N' ≤ (dR d).slots) (hdg : decode cc pc = .ok (.newarray at_, 2))
    (kk : ∀ k', Sm k k' → kn k' = kn k + 1 → (∀ i, i < kn k → ka k i = ka k' i) → Okc k' (dw d (dk d + 1) (dl d + N')) cc own nL lev → Wz k' (dw d (dk d + 1) (dl d + N')) h (pc + 2) ls (.ref (ka k' (kn k)) :: st)) : Wz k d h pc ls (.int n :: st) := fun H locs la hP hS hl => by
  have z : h.1 (kn k) = fun _ => 0 := funext fun j => (hF _ (Nat.le_refl _) j).1
  have KI := (o.2.2.2.2.2.1.2 0 (kI k, .int) rfl).2
  have KB := (o.2.2.2.2.2.1.2 1 (kB k, .byte) rfl).2
  rcases hat with ⟨rfl, rfl⟩ | ⟨rfl, rfl⟩
  · refine va_newa (D := kD k) (ty := .int) (a0 := (N', .inl (fun _ => 0))) o.1 o.2.1 (o.2.2.2.2.1 _ m1) rfl o.2.2.2.2.2.1 hP (dj_D o.2.2.2.2.2.2.1) hS hA (fun cA => rfl) hn hN (by show N' * 4 ≤ _; omega) hcells hslots hdg (fun q cA H1 hK1 hP1 hD1 hS1 => ?_)
    have hcA : kI k = cA := Option.some.inj (KI.symm.trans (hK1.2 2 (cA, .int) rfl).2)
    subst hcA
    have e : ce (kx k q) h (kn k) = .inl (kI k, N', .inl (fun _ => 0)) := by
      rw [ce_i (by rw [hkd]), hkd, z]
      rfl
    rw [← e] at hP1 hD1
    have K := kk (kx k q) sm_kset rfl (fun i hi => ka_kx hi) (okc_dw (okc_kset o (dj_kx hB hD1)) hcells hslots) H1 locs la (by rw [ws_push hB]; exact hP1) hS1 hl
    rw [← ka_new] at K
    exact K
  · refine va_newa (D := kD k) (ty := .byte) (a0 := (N', .inl (fun _ => 0))) o.1 o.2.1 (o.2.2.2.2.1 _ m1) rfl o.2.2.2.2.2.1 hP (dj_D o.2.2.2.2.2.2.1) hS hA (fun cA => rfl) hn hN (by show N' * 1 ≤ _; omega) hcells hslots hdg (fun q cA H1 hK1 hP1 hD1 hS1 => ?_)
    have hcA : kB k = cA := Option.some.inj (KB.symm.trans (hK1.2 2 (cA, .byte) rfl).2)
    subst hcA
    have e : ce (kx k q) h (kn k) = .inl (kB k, N', .inl (fun _ => 0)) := by
      rw [ce_b (by rw [hkd]), hkd, z]
      rfl
    rw [← e] at hP1 hD1
    have K := kk (kx k q) sm_kset rfl (fun i hi => ka_kx hi) (okc_dw (okc_kset o (dj_kx hB hD1)) hcells hslots) H1 locs la (by rw [ws_push hB]; exact hP1) hS1 hl
    rw [← ka_new] at K
    exact K
theorem z_putI (o : Okc k d cc own nL lev) {i ci f idx : Nat} {C : String} {T : u_T} {N : Nat} {x : Int32} {ty : FieldType} (hi : kd i = (0, ci)) (hil : i < kn k) (hc : vwCl[ci]? = some (C, T, N)) (hin : ∀ w ∈ u_ws C T N, w ∈ xtb) (ty0 : Nat → FieldType) (hty : ∀ k, k < N → parseFieldDescriptor (T k).2.2.1 = some (ty0 k)) (hnm : ∀ a, a < N → ∀ b, b < N → a ≠ b → (T a).2.1 ≠ (T b).2.1) (hN : fN ci = N) (hf : f < N) (hr : fR ci f = false) (hfin : (T f).2.2.2 = false) (hd : parseFieldDescriptor (T f).2.2.1 = some ty) (hw : Cond.fieldLink own idx (T f).1 (T f).2.1 (T f).2.2.1 ∈ xtb) (hn : narrow ty (.int x) = .int x) (hfit : fits ty (.int x) = true) (hdg : decode cc pc = .ok (.putfield idx, 3)) (kk : Wz k d (up h i f x) (pc + 3) ls st) : Wz k d h pc ls (.int x :: .ref (ka k i) :: st) := fun H locs la hP hS hl =>
  va_put (D := kD k) o.1 o.2.1 o.2.2.2.2.1 hin ty0 hty hnm o.2.2.2.1 o.2.2.2.2.2.1 hP (dj_D o.2.2.2.2.2.2.1) hS i (by rw [ws_get hil, ce_o hi]) hc f hf (o.2.2.2.2.1 _ hw) (fun _ q => q) hfin hd hn hfit (by rw [List.length_map, List.length_range, hN]; exact hf) hdg (fun H1 locs1 hP1 _ hS1 => kk H1 locs1 la (by
    rw [fs_up hi hr, ← ce_o hi, ws_set rfl (fun j hj => ce_up hj)] at hP1
    exact hP1) hS1 hl)
theorem z_putIF (o : Okc k d cc own nL lev) {i ci f idx : Nat} {C : String} {T : u_T} {N : Nat} {x : Int32} {ty : FieldType} (hi : kd i = (0, ci)) (hil : i < kn k) (hc : vwCl[ci]? = some (C, T, N)) (hin : ∀ w ∈ u_ws C T N, w ∈ xtb) (ty0 : Nat → FieldType) (hty : ∀ k, k < N → parseFieldDescriptor (T k).2.2.1 = some (ty0 k)) (hnm : ∀ a, a < N → ∀ b, b < N → a ≠ b → (T a).2.1 ≠ (T b).2.1) (hN : fN ci = N) (hf : f < N) (hr : fR ci f = false) (hfin : (T f).2.2.2 = true) (hin2 : (dM d).name = "<init>") (hdecl : (T f).1 = own) (hd : parseFieldDescriptor (T f).2.2.1 = some ty) (hw : Cond.fieldLink own idx (T f).1 (T f).2.1 (T f).2.2.1 ∈ xtb) (hn : narrow ty (.int x) = .int x) (hfit : fits ty (.int x) = true) (hdg : decode cc pc = .ok (.putfield idx, 3)) (kk : Wz k d (up h i f x) (pc + 3) ls st) : Wz k d h pc ls (.int x :: .ref (ka k i) :: st) := fun H locs la hP hS hl =>
  va_putF (D := kD k) o.1 o.2.1 o.2.2.2.2.1 hin ty0 hty hnm o.2.2.2.1 o.2.2.2.2.2.1 hP (dj_D o.2.2.2.2.2.2.1) hS i (by rw [ws_get hil, ce_o hi]) hc f hf (o.2.2.2.2.1 _ hw) (fun _ q => q) hfin hin2 hdecl hd hn hfit (by rw [List.length_map, List.length_range, hN]; exact hf) hdg (fun H1 locs1 hP1 _ hS1 => kk H1 locs1 la (by
    rw [fs_up hi hr, ← ce_o hi, ws_set rfl (fun j hj => ce_up hj)] at hP1
    exact hP1) hS1 hl)
theorem z_putR (o : Okc k d cc own nL lev) {i ci f idx : Nat} {C : String} {T : u_T} {N : Nat} {x : Nat} {ty : FieldType} (hi : kd i = (0, ci)) (hil : i < kn k) (hc : vwCl[ci]? = some (C, T, N)) (hin : ∀ w ∈ u_ws C T N, w ∈ xtb) (ty0 : Nat → FieldType) (hty : ∀ k, k < N → parseFieldDescriptor (T k).2.2.1 = some (ty0 k)) (hnm : ∀ a, a < N → ∀ b, b < N → a ≠ b → (T a).2.1 ≠ (T b).2.1) (hN : fN ci = N) (hf : f < N) (hr : fR ci f = true) (hfin : (T f).2.2.2 = false) (hd : parseFieldDescriptor (T f).2.2.1 = some ty) (hw : Cond.fieldLink own idx (T f).1 (T f).2.1 (T f).2.2.1 ∈ xtb) (hn : narrow ty (.ref (ka k x)) = .ref (ka k x)) (hfit : fits ty (.ref (ka k x)) = true) (hdg : decode cc pc = .ok (.putfield idx, 3)) (kk : Wz k d (ur h i f x) (pc + 3) ls st) : Wz k d h pc ls (.ref (ka k x) :: .ref (ka k i) :: st) := fun H locs la hP hS hl =>
  va_put (D := kD k) o.1 o.2.1 o.2.2.2.2.1 hin ty0 hty hnm o.2.2.2.1 o.2.2.2.2.2.1 hP (dj_D o.2.2.2.2.2.2.1) hS i (by rw [ws_get hil, ce_o hi]) hc f hf (o.2.2.2.2.1 _ hw) (fun _ q => q) hfin hd hn hfit (by rw [List.length_map, List.length_range, hN]; exact hf) hdg (fun H1 locs1 hP1 _ hS1 => kk H1 locs1 la (by
    rw [fs_ur hi hr, ← ce_o hi, ws_set rfl (fun j hj => ce_ur hj)] at hP1
    exact hP1) hS1 hl)
theorem z_putRF (o : Okc k d cc own nL lev) {i ci f idx : Nat} {C : String} {T : u_T} {N : Nat} {x : Nat} {ty : FieldType} (hi : kd i = (0, ci)) (hil : i < kn k) (hc : vwCl[ci]? = some (C, T, N)) (hin : ∀ w ∈ u_ws C T N, w ∈ xtb) (ty0 : Nat → FieldType) (hty : ∀ k, k < N → parseFieldDescriptor (T k).2.2.1 = some (ty0 k)) (hnm : ∀ a, a < N → ∀ b, b < N → a ≠ b → (T a).2.1 ≠ (T b).2.1) (hN : fN ci = N) (hf : f < N) (hr : fR ci f = true) (hfin : (T f).2.2.2 = true) (hin2 : (dM d).name = "<init>") (hdecl : (T f).1 = own) (hd : parseFieldDescriptor (T f).2.2.1 = some ty) (hw : Cond.fieldLink own idx (T f).1 (T f).2.1 (T f).2.2.1 ∈ xtb) (hn : narrow ty (.ref (ka k x)) = .ref (ka k x)) (hfit : fits ty (.ref (ka k x)) = true) (hdg : decode cc pc = .ok (.putfield idx, 3)) (kk : Wz k d (ur h i f x) (pc + 3) ls st) : Wz k d h pc ls (.ref (ka k x) :: .ref (ka k i) :: st) := fun H locs la hP hS hl =>
  va_putF (D := kD k) o.1 o.2.1 o.2.2.2.2.1 hin ty0 hty hnm o.2.2.2.1 o.2.2.2.2.2.1 hP (dj_D o.2.2.2.2.2.2.1) hS i (by rw [ws_get hil, ce_o hi]) hc f hf (o.2.2.2.2.1 _ hw) (fun _ q => q) hfin hin2 hdecl hd hn hfit (by rw [List.length_map, List.length_range, hN]; exact hf) hdg (fun H1 locs1 hP1 _ hS1 => kk H1 locs1 la (by
    rw [fs_ur hi hr, ← ce_o hi, ws_set rfl (fun j hj => ce_ur hj)] at hP1
    exact hP1) hS1 hl)
theorem z_getR (o : Okc k d cc own nL lev) {i ci f idx j : Nat} {C : String} {T : u_T} {N : Nat} (hi : kd i = (0, ci)) (hil : i < kn k) (hc : vwCl[ci]? = some (C, T, N)) (hin : ∀ w ∈ u_ws C T N, w ∈ xtb) (hN : fN ci = N) (hf : f < N) (hr : fR ci f = true) (hw : Cond.fieldLink own idx (T f).1 (T f).2.1 (T f).2.2.1 ∈ xtb) (hj : h.2 i f = some j) (hdg : decode cc pc = .ok (.getfield idx, 3)) (kk : Wz k d h (pc + 3) ls (.ref (ka k j) :: st)) : Wz k d h pc ls (.ref (ka k i) :: st) := fun H locs la hP hS hl =>
  va_get (D := kD k) o.1 o.2.1 o.2.2.2.2.1 hin o.2.2.2.1 o.2.2.2.2.2.1 hP i (by rw [ws_get hil, ce_o hi]) hc f hf (o.2.2.2.2.1 _ hw) (fun _ q => q) (by rw [List.getElem?_map, List.getElem?_range (by rw [hN]; exact hf)]; exact congrArg some (fv_ref hi hr hj)) hdg (kk H locs la hP hS hl)
theorem z_iast (o : Okc k d cc own nL lev) {a : Nat} {i x : Int32} (ha : (kd a).1 = 1) (hal : a < kn k) (hi : inb i (kd a).2) (hdg : decode cc pc = .ok (.iastore, 1)) (kk : Wz k d (up h a (ix i) x) (pc + 1) ls st) : Wz k d h pc ls (.int x :: .int i :: .ref (ka k a) :: st) := fun H locs la hP hS hl =>
  va_iast (D := kD k) o.1 o.2.1 o.2.2.2.2.2.1 hP (dj_D o.2.2.2.2.2.2.1) hS a 0 (by rw [ws_get hal, ce_i ha]) rfl (vin_of hi) hdg (fun H1 locs1 hP1 _ hS1 => kk H1 locs1 la (by
    rw [ws_set (h' := up h a i.toInt.toNat x) (by rw [ce_i ha, up_arr]; rfl) (fun j hj => ce_up hj)] at hP1
    exact hP1) hS1 hl)
theorem z_obj (o : Okc k d cc own nL lev) {i idx : Nat} (m1 : Cond.methodLink own idx Lib.objectInit ∈ xtb) (hv : 1 ≤ lev) (hr : (st.map fun v => v.category).sum ≤ 8) (hdg : decode cc pc = .ok (.invokespecial idx, 3)) (kk : Wz k d h (pc + 3) ls st) : Wz k d h pc ls (.ref (ka k i) :: st) := fun H locs la hP hS hl =>
  W.objInit o.1 o.2.1 o.2.2.2.1 (o.2.2.2.2.1 _ m1) (o.2.2.2.2.1 _ oi_inst) (o.2.2.2.2.1 _ oi_code) rfl hl.1 rfl hdg (by have := o.2.2.2.2.2.2.2.1; omega) (by show 2 * 0 + _ + 12 ≤ _; have := o.2.2.2.2.2.2.2.2.1; omega) (kk H locs la hP hS hl)
end rows6
def Wdc (k : Kst) (h : Hp) (U : State) : Prop := Wd k h U ∧ ∀ q, U.heap.size ≤ q → kA k q
def rmc (lev mc ms : Nat) : Room := { frames := lev, cells := mc, slots := ms, locals := 64 * lev }
/-- a constructor's contract: object t is made ready; behind it n1 objects and arrays stand -/
def MC (k : Kst) (lev mc ms : Nat) (y : MethodName) (cc : ByteArray) (nL t : Nat) (h h1 : Hp) (n1 : Nat) : Prop := Met (kl k) y (ca y cc nL none) (rmc lev mc ms) (va_Pc [.ref (ka k t)] (Wdc k h)) (va_Qv (fun (_ : Nat → Nat) => True) (fun ad t => (∀ i, i < kn k → ad i = ka k i) ∧ Wq (kset k ad n1) h1 t ∧ Dj (kset k ad n1)) (kA k)) mc ms (kA k)
theorem Wdc.blind {k : Kst} {h : Hp} {as : List Value} : FrameBlind (va_Pc as (Wdc k h)) := fun a U g mk q => ⟨q.1, ((Wd.blind (as := as) a U g mk) ⟨q.1, q.2.1⟩).2, q.2.2⟩
section calls6
variable {k : Kst} {d : Kdy} {cc : ByteArray} {own : String} {nL lev : Nat} {h : Hp} {pc : Nat} {ls : List (Nat × Value)} {st : List Value}
theorem z_callI (o : Okc k d cc own nL lev) (hA : ∀ q, (ds d).heap.size ≤ q → kA k q) {y : MethodName} {bytes : ByteArray} {mL idx lv mc ms t n1 : Nat} {h1 : Hp} (hM : MC k lv mc ms y bytes mL t h h1 n1) (hlv : lv + 1 ≤ lev) (hmL : mL ≤ 45) (m1 : Cond.methodLink own idx y ∈ xtb) (m2 : Cond.instanceMethod y ∈ xtb) (m4 : Cond.initialized y.cls ∈ xtb) (m5 : Cond.code y bytes mL none ∈ xtb) (hyn : y.name = "<init>") (hd : y.cls ≠ "java/lang/invoke/MethodHandle" ∧ y.cls ≠ "java/lang/invoke/VarHandle" ∧ (parseMethodDescriptor y.desc).map (fun d => d.parameters.length) = some 0) (hr : (st.map fun v => v.category).sum ≤ 8) (hcells : dk d + mc ≤ (dR d).cells) (hslots : dl d + ms ≤ (dR d).slots) (hdg : decode cc pc = .ok (.invokespecial idx, 3)) (kk : ∀ k', Sm k k' → kn k' = n1 → (∀ i, i < kn k → ka k i = ka k' i) → Okc k' (dw d (dk d + mc) (dl d + ms)) cc own nL lev → Wz k' (dw d (dk d + mc) (dl d + ms)) h1 (pc + 3) ls st) : Wz k d h pc ls (.ref (ka k t) :: st) := fun H locs la hP hS hl => by
  refine va_callv (a := ([.ref (ka k t)] : List Value).toArray) (va_runI (As := []) (rest := st) ⟨o.1, o.2.1, o.2.2.1, o.2.2.2.1, o.2.2.2.2.1⟩ hM (cwI 0 o.2.2.2.2.1 (g_all m5) rfl rfl rfl (o.2.2.2.2.1 _ m4) (o.2.2.2.2.1 _ m1) (o.2.2.2.2.1 _ m2) hyn hd ⟨by show lv + 1 ≤ _; have := o.2.2.2.2.2.2.2.1; omega, by show 8 + (mL + 11) + 64 * lv ≤ _; have := o.2.2.2.2.2.2.2.2.1; omega⟩) ⟨Wdc.blind, fun U hU hW => ⟨rfl, ⟨by rw [hU]; exact hP, va_K.moved hW.alike o.2.2.2.2.2.1, fun w hw hn => nw_warm hn hW (nw_of hn (o.2.2.2.2.1 w hw))⟩, fun q hq => hA q (Nat.le_trans hS.1 (by rw [hU] at hq; exact hq))⟩⟩ rfl rfl (hl.1.trans o.2.2.1) rfl (lv_room hr) hdg ⟨hcells, hslots⟩) hS (fun q _ z => z) (fun q z => z) (fun u t H1 locs1 ht hvm hw hB _ _ hS1 => ?_)
  exact kk (kset k u n1) sm_kset rfl (fun i hi => (hB.1 i hi).symm) (okc_dw (okc_kset o hB.2.2) hcells hslots) H1 locs1 la (by rw [← ht]; exact hB.2.1) hS1 hl
theorem z_callN (o : Okc k d cc own nL lev) (hA : ∀ q, (ds d).heap.size ≤ q → kA k q) {y : MethodName} {host : String} {bytes : ByteArray} {mL idx lv mc ms t n1 : Nat} {h1 : Hp} (hM : MC k lv mc ms y bytes mL t h h1 n1) (hlv : lv + 1 ≤ lev) (hmL : mL ≤ 45) (m1 : Cond.methodLinkNest own idx y host ∈ xtb) (m2 : Cond.instanceMethod y ∈ xtb) (m4 : Cond.initialized y.cls ∈ xtb) (m5 : Cond.code y bytes mL none ∈ xtb) (hyn : y.name = "<init>") (hd : y.cls ≠ "java/lang/invoke/MethodHandle" ∧ y.cls ≠ "java/lang/invoke/VarHandle" ∧ (parseMethodDescriptor y.desc).map (fun d => d.parameters.length) = some 0) (hr : (st.map fun v => v.category).sum ≤ 8) (hcells : dk d + mc ≤ (dR d).cells) (hslots : dl d + ms ≤ (dR d).slots) (hdg : decode cc pc = .ok (.invokespecial idx, 3)) (kk : ∀ k', Sm k k' → kn k' = n1 → (∀ i, i < kn k → ka k i = ka k' i) → Okc k' (dw d (dk d + mc) (dl d + ms)) cc own nL lev → Wz k' (dw d (dk d + mc) (dl d + ms)) h1 (pc + 3) ls st) : Wz k d h pc ls (.ref (ka k t) :: st) := fun H locs la hP hS hl => by
  refine va_callv (a := ([.ref (ka k t)] : List Value).toArray) (va_runIN (As := []) (rest := st) ⟨o.1, o.2.1, o.2.2.1, o.2.2.2.1, o.2.2.2.2.1⟩ hM ⟨va_cnB 0 o.2.2.2.2.1 (g_all m5) rfl rfl rfl (va_Nw.of rfl (o.2.2.2.2.1 _ m1)) (o.2.2.2.2.1 _ m4) hd ⟨by show lv + 1 ≤ _; have := o.2.2.2.2.2.2.2.1; omega, by show 8 + (mL + 11) + 64 * lv ≤ _; have := o.2.2.2.2.2.2.2.2.1; omega⟩, hyn, o.2.2.2.2.1 _ m2⟩ ⟨Wdc.blind, fun U hU hW => ⟨rfl, ⟨by rw [hU]; exact hP, va_K.moved hW.alike o.2.2.2.2.2.1, fun w hw hn => nw_warm hn hW (nw_of hn (o.2.2.2.2.1 w hw))⟩, fun q hq => hA q (Nat.le_trans hS.1 (by rw [hU] at hq; exact hq))⟩⟩ rfl rfl (hl.1.trans o.2.2.1) rfl (lv_room hr) hdg ⟨hcells, hslots⟩) hS (fun q _ z => z) (fun q z => z) (fun u t H1 locs1 ht hvm hw hB _ _ hS1 => ?_)
  exact kk (kset k u n1) sm_kset rfl (fun i hi => (hB.1 i hi).symm) (okc_dw (okc_kset o hB.2.2) hcells hslots) H1 locs1 la (by rw [← ht]; exact hB.2.1) hS1 hl
end calls6
/-- a constructor's end -/
def RC (k : Kst) (d : Kdy) (cc : ByteArray) (mc ms : Nat) (h1 : Hp) (n1 : Nat) : Prop := ∀ (k' : Kst) (pc : Nat) (ls : List (Nat × Value)), Sm k k' → kn k' = n1 → (∀ i, i < kn k → ka k i = ka k' i) → Dj k' → decode cc pc = .ok (.return_, 1) → Wz k' (dw d mc ms) h1 pc ls []
theorem mC {k : Kst} (hj : Dj k) {y : MethodName} {cc : ByteArray} {nL lev mc ms t n1 : Nat} {h h1 : Hp} (hy : plainName y.cls = true) (hyn : y.name = "<init>") (hlen : 1 ≤ nL) (S : ∀ d, Okc k (dw d 0 0) cc y.cls nL lev → (∀ q, (ds d).heap.size ≤ q → kA k q) → (dR d).cells = mc → (dR d).slots = ms → (dM d).name = "<init>" → RC k d cc mc ms h1 n1 → Wz k (dw d 0 0) h 0 [(0, .ref (ka k t))] []) : MC k lev mc ms y cc nL t h h1 n1 := by
  refine Met.ofW (cc := cc) (maxL := nL) (ret := none) hy rfl ?_
  intro p e s m args below meth c s₁ B hml hv
  obtain ⟨rfl, ⟨hP, hK, hNw⟩, hA⟩ := hv
  have hts := atoms_spec (ws := ca y cc nL none) B.pre
  have hlocks := B.notSynchronized
  have hr := B.returns
  have hnm : meth.name = "<init>" := (name_of_methodNamed B.named B.method).1.trans hyn
  obtain ⟨d, hd⟩ : ∃ z : Kdy, z = ((p, e, (headSpec (ca y cc nL none) (rmc lev mc ms)).room, s, m, ([.ref (ka k t)] : List Value).toArray, below, meth, c, 0, 0, MQ below (va_Qv (fun (_ : Nat → Nat) => True) (fun ad t => (∀ i, i < kn k → ad i = ka k i) ∧ Wq (kset k ad n1) h1 t ∧ Dj (kset k ad n1)) (kA k)) ([.ref (ka k t)] : List Value).toArray s mc ms (kA k)) : Kdy) := ⟨_, rfl⟩
  have o : Okc k (dw d 0 0) cc y.cls nL lev := by
    rw [hd]
    exact ⟨B.exec, B.bytes, hml, findClass_of_methodNamed B.named, tb_all (fun w hw => hts w (List.mem_cons_of_mem _ hw)) hNw, hK, hj, Nat.le_refl _, Nat.le_refl _, Nat.zero_le _, Nat.zero_le _⟩
  have hl := lv_entry [.ref (ka k t)] (n := nL) hlen
  have K := S d o (by rw [hd]; exact hA) (by rw [hd]; rfl) (by rw [hd]; rfl) (by rw [hd]; exact hnm) (fun k' pc ls s1 h1n h2 h3 hdg H locs la hP1 hS1 hl1 => by
    have ek := sm_eq s1 h1n
    rw [s1.2.2.2.2] at hS1
    subst hd
    show W p (kl k') _ _ _ _ _ _ _ _ _ _ _ _ _ _
    rw [s1.1]
    exact W.vret o.1 o.2.1 hr (fun t ht hW => ⟨⟨ka k', rfl, trivial, fun i hi => (h2 i hi).symm, by show va_P _ _ _ t.heap; rw [ht, ek]; exact hP1, by rw [ek]; exact h3⟩, hS1.F ht⟩) hS1.2.2 hdg hlocks) s.heap [] _ hP (by rw [hd]; exact va_S.rf) (by rw [hd]; show lv_has _ c.maxLocals _; rw [hml]; exact hl)
  rw [hd] at K
  rw [lg_entry_eq]
  exact K
def hs_0 : Hp := (fun _ _ => 0, fun _ _ => none)
def hs_1 : Hp := ur hs_0 0 0 1
def hs_2 : Hp := ur hs_1 2 0 3
def hs_3 : Hp := ur hs_2 0 2 2
def hs_4 : Hp := ur hs_3 4 0 5
def hs_5 : Hp := ur hs_4 0 3 4
def hs_6 : Hp := ur hs_5 6 0 7
def hs_7 : Hp := ur hs_6 6 1 8
def hs_8 : Hp := ur hs_7 6 2 9
def hs_9 : Hp := ur hs_8 6 3 10
def hs_10 : Hp := ur hs_9 0 4 6
def hs_11 : Hp := ur hs_10 12 0 13
def hs_12 : Hp := ur hs_11 12 1 14
def hs_13 : Hp := ur hs_12 12 2 15
def hs_14 : Hp := ur hs_13 12 3 16
def hs_15 : Hp := ur hs_14 12 4 17
def hs_16 : Hp := ur hs_15 12 5 18
def hs_17 : Hp := ur hs_16 12 6 19
def hs_18 : Hp := ur hs_17 11 0 12
def hs_19 : Hp := ur hs_18 0 5 11
def hs_20 : Hp := ur hs_19 21 0 22
def hs_21 : Hp := ur hs_20 20 0 21
def hs_22 : Hp := ur hs_21 23 0 24
def hs_23 : Hp := ur hs_22 20 1 23
def hs_24 : Hp := ur hs_23 25 2 26
def hs_25 : Hp := up hs_24 25 7 1
def hs_26 : Hp := ur hs_25 20 2 25
def hs_27 : Hp := ur hs_26 20 3 27
def hs_28 : Hp := ur hs_27 28 0 29
def hs_29 : Hp := ur hs_28 28 1 30
def hs_30 : Hp := ur hs_29 28 2 31
def hs_31 : Hp := ur hs_30 28 3 32
def hs_32 : Hp := ur hs_31 28 4 33
def hs_33 : Hp := ur hs_32 28 5 34
def hs_34 : Hp := ur hs_33 28 6 35
def hs_35 : Hp := ur hs_34 20 4 28
def hs_36 : Hp := up hs_35 20 5 99999
def hs_37 : Hp := ur hs_36 0 6 20
def hs_38 : Hp := ur hs_37 36 2 37
def hs_39 : Hp := up hs_38 36 7 1
def hs_40 : Hp := ur hs_39 0 7 36
def hs_41 : Hp := ur hs_40 38 2 39
def hs_42 : Hp := up hs_41 38 7 1
def hs_43 : Hp := ur hs_42 0 8 38
def hs_44 : Hp := ur hs_43 40 0 41
def hs_45 : Hp := ur hs_44 40 1 42
def hs_46 : Hp := ur hs_45 0 9 40
def hs_47 : Hp := ur hs_46 43 0 44
def hs_48 : Hp := ur hs_47 43 1 45
def hs_49 : Hp := ur hs_48 43 2 46
def hs_50 : Hp := ur hs_49 43 3 47
def hs_51 : Hp := ur hs_50 43 4 48
def hs_52 : Hp := ur hs_51 0 10 43
def hs_53 : Hp := up hs_52 0 1 0
def hs_54 : Hp := up hs_53 0 11 0
def hs_55 : Hp := ur hs_54 49 0 50
def hs_56 : Hp := ur hs_55 49 1 51
def hs_57 : Hp := ur hs_56 49 2 52
def hs_58 : Hp := ur hs_57 49 3 53
def hs_59 : Hp := ur hs_58 49 4 54
def hs_60 : Hp := ur hs_59 49 6 55
def hs_61 : Hp := ur hs_60 49 17 56
def hs_62 : Hp := ur hs_61 49 18 57
def hs_63 : Hp := ur hs_62 49 19 58
def hs_64 : Hp := ur hs_63 49 20 59
def hs_65 : Hp := ur hs_64 49 21 60
def hs_66 : Hp := ur hs_65 49 22 61
def hs_67 : Hp := ur hs_66 49 23 62
def hs_68 : Hp := ur hs_67 49 24 63
def hs_69 : Hp := ur hs_68 49 25 64
def hs_70 : Hp := ur hs_69 49 26 65
def hs_71 : Hp := ur hs_70 49 27 66
def hs_72 : Hp := ur hs_71 49 28 67
def hs_73 : Hp := ur hs_72 49 29 68
def hs_74 : Hp := ur hs_73 49 30 69
def hs_75 : Hp := ur hs_74 49 31 70
def hs_76 : Hp := ur hs_75 49 32 71
def hs_77 : Hp := ur hs_76 49 33 72
def hs_78 : Hp := ur hs_77 49 41 73
def hs_79 : Hp := ur hs_78 49 42 74
def hs_80 : Hp := ur hs_79 49 43 75
def hs_81 : Hp := ur hs_80 49 44 76
def hs_82 : Hp := ur hs_81 49 45 77
def hs_83 : Hp := ur hs_82 49 46 78
def hs_84 : Hp := ur hs_83 49 47 79
def hs_85 : Hp := ur hs_84 49 48 80
def hs_86 : Hp := ur hs_85 49 49 81
def hs_87 : Hp := up hs_86 50 46 1
def hs_88 : Hp := up hs_87 49 5 99999
theorem bd_hs_0 : Bd 0 hs_0 := fun i f j e => nomatch e
theorem fr_hs_0 : Fr 0 hs_0 := fun i _ j => ⟨rfl, rfl⟩
theorem bd_hs_1 : Bd 2 hs_1 := bd_ur0 (bd_mono0 bd_hs_0 (by decide)) (by decide)
theorem fr_hs_1 : Fr 2 hs_1 := fr_ur0 (fr_mono0 fr_hs_0 (by decide)) (by decide)
theorem bd_hs_2 : Bd 4 hs_2 := bd_ur0 (bd_mono0 bd_hs_1 (by decide)) (by decide)
theorem fr_hs_2 : Fr 4 hs_2 := fr_ur0 (fr_mono0 fr_hs_1 (by decide)) (by decide)
theorem bd_hs_3 : Bd 4 hs_3 := bd_ur0 (bd_mono0 bd_hs_2 (by decide)) (by decide)
theorem fr_hs_3 : Fr 4 hs_3 := fr_ur0 (fr_mono0 fr_hs_2 (by decide)) (by decide)
theorem bd_hs_4 : Bd 6 hs_4 := bd_ur0 (bd_mono0 bd_hs_3 (by decide)) (by decide)
theorem fr_hs_4 : Fr 6 hs_4 := fr_ur0 (fr_mono0 fr_hs_3 (by decide)) (by decide)
theorem bd_hs_5 : Bd 6 hs_5 := bd_ur0 (bd_mono0 bd_hs_4 (by decide)) (by decide)
theorem fr_hs_5 : Fr 6 hs_5 := fr_ur0 (fr_mono0 fr_hs_4 (by decide)) (by decide)
theorem bd_hs_6 : Bd 8 hs_6 := bd_ur0 (bd_mono0 bd_hs_5 (by decide)) (by decide)
theorem fr_hs_6 : Fr 8 hs_6 := fr_ur0 (fr_mono0 fr_hs_5 (by decide)) (by decide)
theorem bd_hs_7 : Bd 9 hs_7 := bd_ur0 (bd_mono0 bd_hs_6 (by decide)) (by decide)
theorem fr_hs_7 : Fr 9 hs_7 := fr_ur0 (fr_mono0 fr_hs_6 (by decide)) (by decide)
theorem bd_hs_8 : Bd 10 hs_8 := bd_ur0 (bd_mono0 bd_hs_7 (by decide)) (by decide)
theorem fr_hs_8 : Fr 10 hs_8 := fr_ur0 (fr_mono0 fr_hs_7 (by decide)) (by decide)
theorem bd_hs_9 : Bd 11 hs_9 := bd_ur0 (bd_mono0 bd_hs_8 (by decide)) (by decide)
theorem fr_hs_9 : Fr 11 hs_9 := fr_ur0 (fr_mono0 fr_hs_8 (by decide)) (by decide)
theorem bd_hs_10 : Bd 11 hs_10 := bd_ur0 (bd_mono0 bd_hs_9 (by decide)) (by decide)
theorem fr_hs_10 : Fr 11 hs_10 := fr_ur0 (fr_mono0 fr_hs_9 (by decide)) (by decide)
theorem bd_hs_11 : Bd 14 hs_11 := bd_ur0 (bd_mono0 bd_hs_10 (by decide)) (by decide)
theorem fr_hs_11 : Fr 14 hs_11 := fr_ur0 (fr_mono0 fr_hs_10 (by decide)) (by decide)
theorem bd_hs_12 : Bd 15 hs_12 := bd_ur0 (bd_mono0 bd_hs_11 (by decide)) (by decide)
theorem fr_hs_12 : Fr 15 hs_12 := fr_ur0 (fr_mono0 fr_hs_11 (by decide)) (by decide)
theorem bd_hs_13 : Bd 16 hs_13 := bd_ur0 (bd_mono0 bd_hs_12 (by decide)) (by decide)
theorem fr_hs_13 : Fr 16 hs_13 := fr_ur0 (fr_mono0 fr_hs_12 (by decide)) (by decide)
theorem bd_hs_14 : Bd 17 hs_14 := bd_ur0 (bd_mono0 bd_hs_13 (by decide)) (by decide)
theorem fr_hs_14 : Fr 17 hs_14 := fr_ur0 (fr_mono0 fr_hs_13 (by decide)) (by decide)
theorem bd_hs_15 : Bd 18 hs_15 := bd_ur0 (bd_mono0 bd_hs_14 (by decide)) (by decide)
theorem fr_hs_15 : Fr 18 hs_15 := fr_ur0 (fr_mono0 fr_hs_14 (by decide)) (by decide)
theorem bd_hs_16 : Bd 19 hs_16 := bd_ur0 (bd_mono0 bd_hs_15 (by decide)) (by decide)
theorem fr_hs_16 : Fr 19 hs_16 := fr_ur0 (fr_mono0 fr_hs_15 (by decide)) (by decide)
theorem bd_hs_17 : Bd 20 hs_17 := bd_ur0 (bd_mono0 bd_hs_16 (by decide)) (by decide)
theorem fr_hs_17 : Fr 20 hs_17 := fr_ur0 (fr_mono0 fr_hs_16 (by decide)) (by decide)
theorem bd_hs_18 : Bd 20 hs_18 := bd_ur0 (bd_mono0 bd_hs_17 (by decide)) (by decide)
theorem fr_hs_18 : Fr 20 hs_18 := fr_ur0 (fr_mono0 fr_hs_17 (by decide)) (by decide)
theorem bd_hs_19 : Bd 20 hs_19 := bd_ur0 (bd_mono0 bd_hs_18 (by decide)) (by decide)
theorem fr_hs_19 : Fr 20 hs_19 := fr_ur0 (fr_mono0 fr_hs_18 (by decide)) (by decide)
theorem bd_hs_20 : Bd 23 hs_20 := bd_ur0 (bd_mono0 bd_hs_19 (by decide)) (by decide)
theorem fr_hs_20 : Fr 23 hs_20 := fr_ur0 (fr_mono0 fr_hs_19 (by decide)) (by decide)
theorem bd_hs_21 : Bd 23 hs_21 := bd_ur0 (bd_mono0 bd_hs_20 (by decide)) (by decide)
theorem fr_hs_21 : Fr 23 hs_21 := fr_ur0 (fr_mono0 fr_hs_20 (by decide)) (by decide)
theorem bd_hs_22 : Bd 25 hs_22 := bd_ur0 (bd_mono0 bd_hs_21 (by decide)) (by decide)
theorem fr_hs_22 : Fr 25 hs_22 := fr_ur0 (fr_mono0 fr_hs_21 (by decide)) (by decide)
theorem bd_hs_23 : Bd 25 hs_23 := bd_ur0 (bd_mono0 bd_hs_22 (by decide)) (by decide)
theorem fr_hs_23 : Fr 25 hs_23 := fr_ur0 (fr_mono0 fr_hs_22 (by decide)) (by decide)
theorem bd_hs_24 : Bd 27 hs_24 := bd_ur0 (bd_mono0 bd_hs_23 (by decide)) (by decide)
theorem fr_hs_24 : Fr 27 hs_24 := fr_ur0 (fr_mono0 fr_hs_23 (by decide)) (by decide)
theorem bd_hs_25 : Bd 27 hs_25 := bd_up0 (bd_mono0 bd_hs_24 (by decide))
theorem fr_hs_25 : Fr 27 hs_25 := fr_up0 (fr_mono0 fr_hs_24 (by decide)) (by decide)
theorem bd_hs_26 : Bd 27 hs_26 := bd_ur0 (bd_mono0 bd_hs_25 (by decide)) (by decide)
theorem fr_hs_26 : Fr 27 hs_26 := fr_ur0 (fr_mono0 fr_hs_25 (by decide)) (by decide)
theorem bd_hs_27 : Bd 28 hs_27 := bd_ur0 (bd_mono0 bd_hs_26 (by decide)) (by decide)
theorem fr_hs_27 : Fr 28 hs_27 := fr_ur0 (fr_mono0 fr_hs_26 (by decide)) (by decide)
theorem bd_hs_28 : Bd 30 hs_28 := bd_ur0 (bd_mono0 bd_hs_27 (by decide)) (by decide)
theorem fr_hs_28 : Fr 30 hs_28 := fr_ur0 (fr_mono0 fr_hs_27 (by decide)) (by decide)
theorem bd_hs_29 : Bd 31 hs_29 := bd_ur0 (bd_mono0 bd_hs_28 (by decide)) (by decide)
theorem fr_hs_29 : Fr 31 hs_29 := fr_ur0 (fr_mono0 fr_hs_28 (by decide)) (by decide)
theorem bd_hs_30 : Bd 32 hs_30 := bd_ur0 (bd_mono0 bd_hs_29 (by decide)) (by decide)
theorem fr_hs_30 : Fr 32 hs_30 := fr_ur0 (fr_mono0 fr_hs_29 (by decide)) (by decide)
theorem bd_hs_31 : Bd 33 hs_31 := bd_ur0 (bd_mono0 bd_hs_30 (by decide)) (by decide)
theorem fr_hs_31 : Fr 33 hs_31 := fr_ur0 (fr_mono0 fr_hs_30 (by decide)) (by decide)
theorem bd_hs_32 : Bd 34 hs_32 := bd_ur0 (bd_mono0 bd_hs_31 (by decide)) (by decide)
theorem fr_hs_32 : Fr 34 hs_32 := fr_ur0 (fr_mono0 fr_hs_31 (by decide)) (by decide)
theorem bd_hs_33 : Bd 35 hs_33 := bd_ur0 (bd_mono0 bd_hs_32 (by decide)) (by decide)
theorem fr_hs_33 : Fr 35 hs_33 := fr_ur0 (fr_mono0 fr_hs_32 (by decide)) (by decide)
theorem bd_hs_34 : Bd 36 hs_34 := bd_ur0 (bd_mono0 bd_hs_33 (by decide)) (by decide)
theorem fr_hs_34 : Fr 36 hs_34 := fr_ur0 (fr_mono0 fr_hs_33 (by decide)) (by decide)
theorem bd_hs_35 : Bd 36 hs_35 := bd_ur0 (bd_mono0 bd_hs_34 (by decide)) (by decide)
theorem fr_hs_35 : Fr 36 hs_35 := fr_ur0 (fr_mono0 fr_hs_34 (by decide)) (by decide)
theorem bd_hs_36 : Bd 36 hs_36 := bd_up0 (bd_mono0 bd_hs_35 (by decide))
theorem fr_hs_36 : Fr 36 hs_36 := fr_up0 (fr_mono0 fr_hs_35 (by decide)) (by decide)
theorem bd_hs_37 : Bd 36 hs_37 := bd_ur0 (bd_mono0 bd_hs_36 (by decide)) (by decide)
theorem fr_hs_37 : Fr 36 hs_37 := fr_ur0 (fr_mono0 fr_hs_36 (by decide)) (by decide)
theorem bd_hs_38 : Bd 38 hs_38 := bd_ur0 (bd_mono0 bd_hs_37 (by decide)) (by decide)
theorem fr_hs_38 : Fr 38 hs_38 := fr_ur0 (fr_mono0 fr_hs_37 (by decide)) (by decide)
theorem bd_hs_39 : Bd 38 hs_39 := bd_up0 (bd_mono0 bd_hs_38 (by decide))
theorem fr_hs_39 : Fr 38 hs_39 := fr_up0 (fr_mono0 fr_hs_38 (by decide)) (by decide)
theorem bd_hs_40 : Bd 38 hs_40 := bd_ur0 (bd_mono0 bd_hs_39 (by decide)) (by decide)
theorem fr_hs_40 : Fr 38 hs_40 := fr_ur0 (fr_mono0 fr_hs_39 (by decide)) (by decide)
theorem bd_hs_41 : Bd 40 hs_41 := bd_ur0 (bd_mono0 bd_hs_40 (by decide)) (by decide)
theorem fr_hs_41 : Fr 40 hs_41 := fr_ur0 (fr_mono0 fr_hs_40 (by decide)) (by decide)
theorem bd_hs_42 : Bd 40 hs_42 := bd_up0 (bd_mono0 bd_hs_41 (by decide))
theorem fr_hs_42 : Fr 40 hs_42 := fr_up0 (fr_mono0 fr_hs_41 (by decide)) (by decide)
theorem bd_hs_43 : Bd 40 hs_43 := bd_ur0 (bd_mono0 bd_hs_42 (by decide)) (by decide)
theorem fr_hs_43 : Fr 40 hs_43 := fr_ur0 (fr_mono0 fr_hs_42 (by decide)) (by decide)
theorem bd_hs_44 : Bd 42 hs_44 := bd_ur0 (bd_mono0 bd_hs_43 (by decide)) (by decide)
theorem fr_hs_44 : Fr 42 hs_44 := fr_ur0 (fr_mono0 fr_hs_43 (by decide)) (by decide)
theorem bd_hs_45 : Bd 43 hs_45 := bd_ur0 (bd_mono0 bd_hs_44 (by decide)) (by decide)
theorem fr_hs_45 : Fr 43 hs_45 := fr_ur0 (fr_mono0 fr_hs_44 (by decide)) (by decide)
theorem bd_hs_46 : Bd 43 hs_46 := bd_ur0 (bd_mono0 bd_hs_45 (by decide)) (by decide)
theorem fr_hs_46 : Fr 43 hs_46 := fr_ur0 (fr_mono0 fr_hs_45 (by decide)) (by decide)
theorem bd_hs_47 : Bd 45 hs_47 := bd_ur0 (bd_mono0 bd_hs_46 (by decide)) (by decide)
theorem fr_hs_47 : Fr 45 hs_47 := fr_ur0 (fr_mono0 fr_hs_46 (by decide)) (by decide)
theorem bd_hs_48 : Bd 46 hs_48 := bd_ur0 (bd_mono0 bd_hs_47 (by decide)) (by decide)
theorem fr_hs_48 : Fr 46 hs_48 := fr_ur0 (fr_mono0 fr_hs_47 (by decide)) (by decide)
theorem bd_hs_49 : Bd 47 hs_49 := bd_ur0 (bd_mono0 bd_hs_48 (by decide)) (by decide)
theorem fr_hs_49 : Fr 47 hs_49 := fr_ur0 (fr_mono0 fr_hs_48 (by decide)) (by decide)
theorem bd_hs_50 : Bd 48 hs_50 := bd_ur0 (bd_mono0 bd_hs_49 (by decide)) (by decide)
theorem fr_hs_50 : Fr 48 hs_50 := fr_ur0 (fr_mono0 fr_hs_49 (by decide)) (by decide)
theorem bd_hs_51 : Bd 49 hs_51 := bd_ur0 (bd_mono0 bd_hs_50 (by decide)) (by decide)
theorem fr_hs_51 : Fr 49 hs_51 := fr_ur0 (fr_mono0 fr_hs_50 (by decide)) (by decide)
theorem bd_hs_52 : Bd 49 hs_52 := bd_ur0 (bd_mono0 bd_hs_51 (by decide)) (by decide)
theorem fr_hs_52 : Fr 49 hs_52 := fr_ur0 (fr_mono0 fr_hs_51 (by decide)) (by decide)
theorem bd_hs_53 : Bd 49 hs_53 := bd_up0 (bd_mono0 bd_hs_52 (by decide))
theorem fr_hs_53 : Fr 49 hs_53 := fr_up0 (fr_mono0 fr_hs_52 (by decide)) (by decide)
theorem bd_hs_54 : Bd 49 hs_54 := bd_up0 (bd_mono0 bd_hs_53 (by decide))
theorem fr_hs_54 : Fr 49 hs_54 := fr_up0 (fr_mono0 fr_hs_53 (by decide)) (by decide)
theorem bd_hs_55 : Bd 51 hs_55 := bd_ur0 (bd_mono0 bd_hs_54 (by decide)) (by decide)
theorem fr_hs_55 : Fr 51 hs_55 := fr_ur0 (fr_mono0 fr_hs_54 (by decide)) (by decide)
theorem bd_hs_56 : Bd 52 hs_56 := bd_ur0 (bd_mono0 bd_hs_55 (by decide)) (by decide)
theorem fr_hs_56 : Fr 52 hs_56 := fr_ur0 (fr_mono0 fr_hs_55 (by decide)) (by decide)
theorem bd_hs_57 : Bd 53 hs_57 := bd_ur0 (bd_mono0 bd_hs_56 (by decide)) (by decide)
theorem fr_hs_57 : Fr 53 hs_57 := fr_ur0 (fr_mono0 fr_hs_56 (by decide)) (by decide)
theorem bd_hs_58 : Bd 54 hs_58 := bd_ur0 (bd_mono0 bd_hs_57 (by decide)) (by decide)
theorem fr_hs_58 : Fr 54 hs_58 := fr_ur0 (fr_mono0 fr_hs_57 (by decide)) (by decide)
theorem bd_hs_59 : Bd 55 hs_59 := bd_ur0 (bd_mono0 bd_hs_58 (by decide)) (by decide)
theorem fr_hs_59 : Fr 55 hs_59 := fr_ur0 (fr_mono0 fr_hs_58 (by decide)) (by decide)
theorem bd_hs_60 : Bd 56 hs_60 := bd_ur0 (bd_mono0 bd_hs_59 (by decide)) (by decide)
theorem fr_hs_60 : Fr 56 hs_60 := fr_ur0 (fr_mono0 fr_hs_59 (by decide)) (by decide)
theorem bd_hs_61 : Bd 57 hs_61 := bd_ur0 (bd_mono0 bd_hs_60 (by decide)) (by decide)
theorem fr_hs_61 : Fr 57 hs_61 := fr_ur0 (fr_mono0 fr_hs_60 (by decide)) (by decide)
theorem bd_hs_62 : Bd 58 hs_62 := bd_ur0 (bd_mono0 bd_hs_61 (by decide)) (by decide)
theorem fr_hs_62 : Fr 58 hs_62 := fr_ur0 (fr_mono0 fr_hs_61 (by decide)) (by decide)
theorem bd_hs_63 : Bd 59 hs_63 := bd_ur0 (bd_mono0 bd_hs_62 (by decide)) (by decide)
theorem fr_hs_63 : Fr 59 hs_63 := fr_ur0 (fr_mono0 fr_hs_62 (by decide)) (by decide)
theorem bd_hs_64 : Bd 60 hs_64 := bd_ur0 (bd_mono0 bd_hs_63 (by decide)) (by decide)
theorem fr_hs_64 : Fr 60 hs_64 := fr_ur0 (fr_mono0 fr_hs_63 (by decide)) (by decide)
theorem bd_hs_65 : Bd 61 hs_65 := bd_ur0 (bd_mono0 bd_hs_64 (by decide)) (by decide)
theorem fr_hs_65 : Fr 61 hs_65 := fr_ur0 (fr_mono0 fr_hs_64 (by decide)) (by decide)
theorem bd_hs_66 : Bd 62 hs_66 := bd_ur0 (bd_mono0 bd_hs_65 (by decide)) (by decide)
theorem fr_hs_66 : Fr 62 hs_66 := fr_ur0 (fr_mono0 fr_hs_65 (by decide)) (by decide)
theorem bd_hs_67 : Bd 63 hs_67 := bd_ur0 (bd_mono0 bd_hs_66 (by decide)) (by decide)
theorem fr_hs_67 : Fr 63 hs_67 := fr_ur0 (fr_mono0 fr_hs_66 (by decide)) (by decide)
theorem bd_hs_68 : Bd 64 hs_68 := bd_ur0 (bd_mono0 bd_hs_67 (by decide)) (by decide)
theorem fr_hs_68 : Fr 64 hs_68 := fr_ur0 (fr_mono0 fr_hs_67 (by decide)) (by decide)
theorem bd_hs_69 : Bd 65 hs_69 := bd_ur0 (bd_mono0 bd_hs_68 (by decide)) (by decide)
theorem fr_hs_69 : Fr 65 hs_69 := fr_ur0 (fr_mono0 fr_hs_68 (by decide)) (by decide)
theorem bd_hs_70 : Bd 66 hs_70 := bd_ur0 (bd_mono0 bd_hs_69 (by decide)) (by decide)
theorem fr_hs_70 : Fr 66 hs_70 := fr_ur0 (fr_mono0 fr_hs_69 (by decide)) (by decide)
theorem bd_hs_71 : Bd 67 hs_71 := bd_ur0 (bd_mono0 bd_hs_70 (by decide)) (by decide)
theorem fr_hs_71 : Fr 67 hs_71 := fr_ur0 (fr_mono0 fr_hs_70 (by decide)) (by decide)
theorem bd_hs_72 : Bd 68 hs_72 := bd_ur0 (bd_mono0 bd_hs_71 (by decide)) (by decide)
theorem fr_hs_72 : Fr 68 hs_72 := fr_ur0 (fr_mono0 fr_hs_71 (by decide)) (by decide)
theorem bd_hs_73 : Bd 69 hs_73 := bd_ur0 (bd_mono0 bd_hs_72 (by decide)) (by decide)
theorem fr_hs_73 : Fr 69 hs_73 := fr_ur0 (fr_mono0 fr_hs_72 (by decide)) (by decide)
theorem bd_hs_74 : Bd 70 hs_74 := bd_ur0 (bd_mono0 bd_hs_73 (by decide)) (by decide)
theorem fr_hs_74 : Fr 70 hs_74 := fr_ur0 (fr_mono0 fr_hs_73 (by decide)) (by decide)
theorem bd_hs_75 : Bd 71 hs_75 := bd_ur0 (bd_mono0 bd_hs_74 (by decide)) (by decide)
theorem fr_hs_75 : Fr 71 hs_75 := fr_ur0 (fr_mono0 fr_hs_74 (by decide)) (by decide)
theorem bd_hs_76 : Bd 72 hs_76 := bd_ur0 (bd_mono0 bd_hs_75 (by decide)) (by decide)
theorem fr_hs_76 : Fr 72 hs_76 := fr_ur0 (fr_mono0 fr_hs_75 (by decide)) (by decide)
theorem bd_hs_77 : Bd 73 hs_77 := bd_ur0 (bd_mono0 bd_hs_76 (by decide)) (by decide)
theorem fr_hs_77 : Fr 73 hs_77 := fr_ur0 (fr_mono0 fr_hs_76 (by decide)) (by decide)
theorem bd_hs_78 : Bd 74 hs_78 := bd_ur0 (bd_mono0 bd_hs_77 (by decide)) (by decide)
theorem fr_hs_78 : Fr 74 hs_78 := fr_ur0 (fr_mono0 fr_hs_77 (by decide)) (by decide)
theorem bd_hs_79 : Bd 75 hs_79 := bd_ur0 (bd_mono0 bd_hs_78 (by decide)) (by decide)
theorem fr_hs_79 : Fr 75 hs_79 := fr_ur0 (fr_mono0 fr_hs_78 (by decide)) (by decide)
theorem bd_hs_80 : Bd 76 hs_80 := bd_ur0 (bd_mono0 bd_hs_79 (by decide)) (by decide)
theorem fr_hs_80 : Fr 76 hs_80 := fr_ur0 (fr_mono0 fr_hs_79 (by decide)) (by decide)
theorem bd_hs_81 : Bd 77 hs_81 := bd_ur0 (bd_mono0 bd_hs_80 (by decide)) (by decide)
theorem fr_hs_81 : Fr 77 hs_81 := fr_ur0 (fr_mono0 fr_hs_80 (by decide)) (by decide)
theorem bd_hs_82 : Bd 78 hs_82 := bd_ur0 (bd_mono0 bd_hs_81 (by decide)) (by decide)
theorem fr_hs_82 : Fr 78 hs_82 := fr_ur0 (fr_mono0 fr_hs_81 (by decide)) (by decide)
theorem bd_hs_83 : Bd 79 hs_83 := bd_ur0 (bd_mono0 bd_hs_82 (by decide)) (by decide)
theorem fr_hs_83 : Fr 79 hs_83 := fr_ur0 (fr_mono0 fr_hs_82 (by decide)) (by decide)
theorem bd_hs_84 : Bd 80 hs_84 := bd_ur0 (bd_mono0 bd_hs_83 (by decide)) (by decide)
theorem fr_hs_84 : Fr 80 hs_84 := fr_ur0 (fr_mono0 fr_hs_83 (by decide)) (by decide)
theorem bd_hs_85 : Bd 81 hs_85 := bd_ur0 (bd_mono0 bd_hs_84 (by decide)) (by decide)
theorem fr_hs_85 : Fr 81 hs_85 := fr_ur0 (fr_mono0 fr_hs_84 (by decide)) (by decide)
theorem bd_hs_86 : Bd 82 hs_86 := bd_ur0 (bd_mono0 bd_hs_85 (by decide)) (by decide)
theorem fr_hs_86 : Fr 82 hs_86 := fr_ur0 (fr_mono0 fr_hs_85 (by decide)) (by decide)
theorem bd_hs_87 : Bd 82 hs_87 := bd_up0 (bd_mono0 bd_hs_86 (by decide))
theorem fr_hs_87 : Fr 82 hs_87 := fr_up0 (fr_mono0 fr_hs_86 (by decide)) (by decide)
theorem bd_hs_88 : Bd 82 hs_88 := bd_up0 (bd_mono0 bd_hs_87 (by decide))
theorem fr_hs_88 : Fr 82 hs_88 := fr_up0 (fr_mono0 fr_hs_87 (by decide)) (by decide)
set_option maxRecDepth 100000 in
set_option maxHeartbeats 4000000 in
theorem S_X9_init_t2 {k_0 : Kst} {d : Kdy} (o_0 : Okc k_0 (dw d 0 0) cX9_init RX9 1 3) (n_0 : kn k_0 = 3) (A_0 : ∀ q, (ds d).heap.size ≤ q → kA k_0 q) (hRc : (dR d).cells = 1) (hRs : (dR d).slots = 240) (hin : (dM d).name = "<init>") (hr : RC k_0 d cX9_init 1 240 hs_2 4) : Wz k_0 (dw d 0 0) hs_1 0 [(0, .ref (ka k_0 2))] [] := by
  refine z_aload_n o_0 dX9_init_0 0 rfl rfl ?_
  refine z_obj o_0 wo_RX9_3 (by decide) (Nat.le_of_ble_eq_true rfl) dX9_init_1 ?_
  refine z_aload_n o_0 dX9_init_4 0 rfl rfl ?_
  refine z_sipush (v := 240) o_0 dX9_init_5 (by decide) ?_
  refine z_newa o_0 A_0 (at_ := .int) (kn1 := 1) (N' := 240) (Or.inl ⟨rfl, rfl⟩) wa_int (by rw [n_0]; rfl) (by rw [n_0]; exact (bd_mono0 bd_hs_1 (by decide))) (by rw [n_0]; exact (fr_mono0 fr_hs_1 (by decide))) (by decide) (by decide +kernel) (by decide) (by show 0 + 1 ≤ (dR d).cells; rw [hRc]; exact Nat.le_of_ble_eq_true rfl) (by show 0 + 240 ≤ (dR d).slots; rw [hRs]; exact Nat.le_of_ble_eq_true rfl) dX9_init_8 (fun k_1 s_1 n_1 x_1 o_1 => ?_)
  replace n_1 : kn k_1 = 4 := n_1.trans (by rw [n_0])
  rw [x_1 2 (by rw [n_0]; decide)]
  rw [n_0]
  replace x_1 : ∀ i, i < 3 → ka k_0 i = ka k_1 i := fun i hi => x_1 i (by rw [n_0]; exact hi)
  replace s_1 : Sm k_0 k_1 := s_1
  have A_1 : ∀ q, (ds d).heap.size ≤ q → kA k_1 q := by rw [s_1.2.2.2.2]; exact A_0
  replace o_1 : Okc k_1 (dw d 1 240) cX9_init RX9 1 3 := o_1
  show Wz _ (dw d 1 240) _ _ _ _
  refine z_putRF (ty := tyX9 0) (i := 2) (ci := 8) (f := 0) (C := RX9) (T := TX9) (N := 4) o_1 rfl (by rw [n_1]; decide) rfl iX9 tyX9 tyX9_ok nmX9 rfl (by decide) rfl rfl hin rfl (tyX9_ok 0 (by decide)) wf_RX9_9 rfl rfl dX9_init_10 ?_
  show Wz _ _ hs_2 _ _ _
  exact hr k_1 _ _ s_1 n_1 (fun i hi => x_1 i (by rw [n_0] at hi; exact hi)) o_1.2.2.2.2.2.2.1 dX9_init_13
theorem C_X9_init_t2 {k : Kst} (hj : Dj k) (hn : kn k = 3) : MC k 3 1 240 yX9_init cX9_init 1 2 hs_1 hs_2 4 := mC hj (by decide +kernel) rfl (by decide) (fun d o hA hRc hRs hin hr => S_X9_init_t2 o hn hA hRc hRs hin hr)
set_option maxRecDepth 100000 in
set_option maxHeartbeats 4000000 in
theorem S_X6_init_t4 {k_0 : Kst} {d : Kdy} (o_0 : Okc k_0 (dw d 0 0) cX6_init RX6 1 3) (n_0 : kn k_0 = 5) (A_0 : ∀ q, (ds d).heap.size ≤ q → kA k_0 q) (hRc : (dR d).cells = 1) (hRs : (dR d).slots = 20) (hin : (dM d).name = "<init>") (hr : RC k_0 d cX6_init 1 20 hs_4 6) : Wz k_0 (dw d 0 0) hs_3 0 [(0, .ref (ka k_0 4))] [] := by
  refine z_aload_n o_0 dX6_init_0 0 rfl rfl ?_
  refine z_obj o_0 wo_RX6_3 (by decide) (Nat.le_of_ble_eq_true rfl) dX6_init_1 ?_
  refine z_aload_n o_0 dX6_init_4 0 rfl rfl ?_
  refine z_bipush (v := 20) o_0 dX6_init_5 (by decide) ?_
  refine z_newa o_0 A_0 (at_ := .int) (kn1 := 1) (N' := 20) (Or.inl ⟨rfl, rfl⟩) wa_int (by rw [n_0]; rfl) (by rw [n_0]; exact (bd_mono0 bd_hs_3 (by decide))) (by rw [n_0]; exact (fr_mono0 fr_hs_3 (by decide))) (by decide) (by decide +kernel) (by decide) (by show 0 + 1 ≤ (dR d).cells; rw [hRc]; exact Nat.le_of_ble_eq_true rfl) (by show 0 + 20 ≤ (dR d).slots; rw [hRs]; exact Nat.le_of_ble_eq_true rfl) dX6_init_7 (fun k_1 s_1 n_1 x_1 o_1 => ?_)
  replace n_1 : kn k_1 = 6 := n_1.trans (by rw [n_0])
  rw [x_1 4 (by rw [n_0]; decide)]
  rw [n_0]
  replace x_1 : ∀ i, i < 5 → ka k_0 i = ka k_1 i := fun i hi => x_1 i (by rw [n_0]; exact hi)
  replace s_1 : Sm k_0 k_1 := s_1
  have A_1 : ∀ q, (ds d).heap.size ≤ q → kA k_1 q := by rw [s_1.2.2.2.2]; exact A_0
  replace o_1 : Okc k_1 (dw d 1 20) cX6_init RX6 1 3 := o_1
  show Wz _ (dw d 1 20) _ _ _ _
  refine z_putRF (ty := tyX6 0) (i := 4) (ci := 5) (f := 0) (C := RX6) (T := TX6) (N := 2) o_1 rfl (by rw [n_1]; decide) rfl iX6 tyX6 tyX6_ok nmX6 rfl (by decide) rfl rfl hin rfl (tyX6_ok 0 (by decide)) wf_RX6_9 rfl rfl dX6_init_9 ?_
  show Wz _ _ hs_4 _ _ _
  exact hr k_1 _ _ s_1 n_1 (fun i hi => x_1 i (by rw [n_0] at hi; exact hi)) o_1.2.2.2.2.2.2.1 dX6_init_12
theorem C_X6_init_t4 {k : Kst} (hj : Dj k) (hn : kn k = 5) : MC k 3 1 20 yX6_init cX6_init 1 4 hs_3 hs_4 6 := mC hj (by decide +kernel) rfl (by decide) (fun d o hA hRc hRs hin hr => S_X6_init_t4 o hn hA hRc hRs hin hr)
set_option maxRecDepth 100000 in
set_option maxHeartbeats 4000000 in
theorem S_X4_init_t6 {k_0 : Kst} {d : Kdy} (o_0 : Okc k_0 (dw d 0 0) cX4_init RX4 1 3) (n_0 : kn k_0 = 7) (A_0 : ∀ q, (ds d).heap.size ≤ q → kA k_0 q) (hRc : (dR d).cells = 4) (hRs : (dR d).slots = 80) (hin : (dM d).name = "<init>") (hr : RC k_0 d cX4_init 4 80 hs_9 11) : Wz k_0 (dw d 0 0) hs_5 0 [(0, .ref (ka k_0 6))] [] := by
  refine z_aload_n o_0 dX4_init_0 0 rfl rfl ?_
  refine z_obj o_0 wo_RX4_3 (by decide) (Nat.le_of_ble_eq_true rfl) dX4_init_1 ?_
  refine z_aload_n o_0 dX4_init_4 0 rfl rfl ?_
  refine z_bipush (v := 20) o_0 dX4_init_5 (by decide) ?_
  refine z_newa o_0 A_0 (at_ := .int) (kn1 := 1) (N' := 20) (Or.inl ⟨rfl, rfl⟩) wa_int (by rw [n_0]; rfl) (by rw [n_0]; exact (bd_mono0 bd_hs_5 (by decide))) (by rw [n_0]; exact (fr_mono0 fr_hs_5 (by decide))) (by decide) (by decide +kernel) (by decide) (by show 0 + 1 ≤ (dR d).cells; rw [hRc]; exact Nat.le_of_ble_eq_true rfl) (by show 0 + 20 ≤ (dR d).slots; rw [hRs]; exact Nat.le_of_ble_eq_true rfl) dX4_init_7 (fun k_1 s_1 n_1 x_1 o_1 => ?_)
  replace n_1 : kn k_1 = 8 := n_1.trans (by rw [n_0])
  rw [x_1 6 (by rw [n_0]; decide)]
  rw [n_0]
  replace x_1 : ∀ i, i < 7 → ka k_0 i = ka k_1 i := fun i hi => x_1 i (by rw [n_0]; exact hi)
  replace s_1 : Sm k_0 k_1 := s_1
  have A_1 : ∀ q, (ds d).heap.size ≤ q → kA k_1 q := by rw [s_1.2.2.2.2]; exact A_0
  replace o_1 : Okc k_1 (dw d 1 20) cX4_init RX4 1 3 := o_1
  show Wz _ (dw d 1 20) _ _ _ _
  refine z_putRF (ty := tyX4 0) (i := 6) (ci := 3) (f := 0) (C := RX4) (T := TX4) (N := 5) o_1 rfl (by rw [n_1]; decide) rfl iX4 tyX4 tyX4_ok nmX4 rfl (by decide) rfl rfl hin rfl (tyX4_ok 0 (by decide)) wf_RX4_9 rfl rfl dX4_init_9 ?_
  show Wz _ _ hs_6 _ _ _
  refine z_aload_n o_1 dX4_init_12 0 rfl rfl ?_
  refine z_bipush (v := 20) o_1 dX4_init_13 (by decide) ?_
  refine z_newa o_1 A_1 (at_ := .int) (kn1 := 1) (N' := 20) (Or.inl ⟨rfl, rfl⟩) wa_int (by rw [n_1]; rfl) (by rw [n_1]; exact (bd_mono0 bd_hs_6 (by decide))) (by rw [n_1]; exact (fr_mono0 fr_hs_6 (by decide))) (by decide) (by decide +kernel) (by decide) (by show 1 + 1 ≤ (dR d).cells; rw [hRc]; exact Nat.le_of_ble_eq_true rfl) (by show 20 + 20 ≤ (dR d).slots; rw [hRs]; exact Nat.le_of_ble_eq_true rfl) dX4_init_15 (fun k_2 s_2 n_2 x_2 o_2 => ?_)
  replace n_2 : kn k_2 = 9 := n_2.trans (by rw [n_1])
  rw [x_2 6 (by rw [n_1]; decide)]
  rw [n_1]
  replace x_2 : ∀ i, i < 7 → ka k_0 i = ka k_2 i := fun i hi => (x_1 i hi).trans (x_2 i (by rw [n_1]; omega))
  replace s_2 : Sm k_0 k_2 := sm_tr s_1 s_2
  have A_2 : ∀ q, (ds d).heap.size ≤ q → kA k_2 q := by rw [s_2.2.2.2.2]; exact A_0
  replace o_2 : Okc k_2 (dw d 2 40) cX4_init RX4 1 3 := o_2
  show Wz _ (dw d 2 40) _ _ _ _
  refine z_putRF (ty := tyX4 1) (i := 6) (ci := 3) (f := 1) (C := RX4) (T := TX4) (N := 5) o_2 rfl (by rw [n_2]; decide) rfl iX4 tyX4 tyX4_ok nmX4 rfl (by decide) rfl rfl hin rfl (tyX4_ok 1 (by decide)) wf_RX4_15 rfl rfl dX4_init_17 ?_
  show Wz _ _ hs_7 _ _ _
  refine z_aload_n o_2 dX4_init_20 0 rfl rfl ?_
  refine z_bipush (v := 20) o_2 dX4_init_21 (by decide) ?_
  refine z_newa o_2 A_2 (at_ := .int) (kn1 := 1) (N' := 20) (Or.inl ⟨rfl, rfl⟩) wa_int (by rw [n_2]; rfl) (by rw [n_2]; exact (bd_mono0 bd_hs_7 (by decide))) (by rw [n_2]; exact (fr_mono0 fr_hs_7 (by decide))) (by decide) (by decide +kernel) (by decide) (by show 2 + 1 ≤ (dR d).cells; rw [hRc]; exact Nat.le_of_ble_eq_true rfl) (by show 40 + 20 ≤ (dR d).slots; rw [hRs]; exact Nat.le_of_ble_eq_true rfl) dX4_init_23 (fun k_3 s_3 n_3 x_3 o_3 => ?_)
  replace n_3 : kn k_3 = 10 := n_3.trans (by rw [n_2])
  rw [x_3 6 (by rw [n_2]; decide)]
  rw [n_2]
  replace x_3 : ∀ i, i < 7 → ka k_0 i = ka k_3 i := fun i hi => (x_2 i hi).trans (x_3 i (by rw [n_2]; omega))
  replace s_3 : Sm k_0 k_3 := sm_tr s_2 s_3
  have A_3 : ∀ q, (ds d).heap.size ≤ q → kA k_3 q := by rw [s_3.2.2.2.2]; exact A_0
  replace o_3 : Okc k_3 (dw d 3 60) cX4_init RX4 1 3 := o_3
  show Wz _ (dw d 3 60) _ _ _ _
  refine z_putRF (ty := tyX4 2) (i := 6) (ci := 3) (f := 2) (C := RX4) (T := TX4) (N := 5) o_3 rfl (by rw [n_3]; decide) rfl iX4 tyX4 tyX4_ok nmX4 rfl (by decide) rfl rfl hin rfl (tyX4_ok 2 (by decide)) wf_RX4_18 rfl rfl dX4_init_25 ?_
  show Wz _ _ hs_8 _ _ _
  refine z_aload_n o_3 dX4_init_28 0 rfl rfl ?_
  refine z_bipush (v := 20) o_3 dX4_init_29 (by decide) ?_
  refine z_newa o_3 A_3 (at_ := .int) (kn1 := 1) (N' := 20) (Or.inl ⟨rfl, rfl⟩) wa_int (by rw [n_3]; rfl) (by rw [n_3]; exact (bd_mono0 bd_hs_8 (by decide))) (by rw [n_3]; exact (fr_mono0 fr_hs_8 (by decide))) (by decide) (by decide +kernel) (by decide) (by show 3 + 1 ≤ (dR d).cells; rw [hRc]; exact Nat.le_of_ble_eq_true rfl) (by show 60 + 20 ≤ (dR d).slots; rw [hRs]; exact Nat.le_of_ble_eq_true rfl) dX4_init_31 (fun k_4 s_4 n_4 x_4 o_4 => ?_)
  replace n_4 : kn k_4 = 11 := n_4.trans (by rw [n_3])
  rw [x_4 6 (by rw [n_3]; decide)]
  rw [n_3]
  replace x_4 : ∀ i, i < 7 → ka k_0 i = ka k_4 i := fun i hi => (x_3 i hi).trans (x_4 i (by rw [n_3]; omega))
  replace s_4 : Sm k_0 k_4 := sm_tr s_3 s_4
  have A_4 : ∀ q, (ds d).heap.size ≤ q → kA k_4 q := by rw [s_4.2.2.2.2]; exact A_0
  replace o_4 : Okc k_4 (dw d 4 80) cX4_init RX4 1 3 := o_4
  show Wz _ (dw d 4 80) _ _ _ _
  refine z_putRF (ty := tyX4 3) (i := 6) (ci := 3) (f := 3) (C := RX4) (T := TX4) (N := 5) o_4 rfl (by rw [n_4]; decide) rfl iX4 tyX4 tyX4_ok nmX4 rfl (by decide) rfl rfl hin rfl (tyX4_ok 3 (by decide)) wf_RX4_21 rfl rfl dX4_init_33 ?_
  show Wz _ _ hs_9 _ _ _
  exact hr k_4 _ _ s_4 n_4 (fun i hi => x_4 i (by rw [n_0] at hi; exact hi)) o_4.2.2.2.2.2.2.1 dX4_init_36
theorem C_X4_init_t6 {k : Kst} (hj : Dj k) (hn : kn k = 7) : MC k 3 4 80 yX4_init cX4_init 1 6 hs_5 hs_9 11 := mC hj (by decide +kernel) rfl (by decide) (fun d o hA hRc hRs hin hr => S_X4_init_t6 o hn hA hRc hRs hin hr)
set_option maxRecDepth 100000 in
set_option maxHeartbeats 4000000 in
theorem S_X1_init_t12 {k_0 : Kst} {d : Kdy} (o_0 : Okc k_0 (dw d 0 0) cX1_init RX1 1 3) (n_0 : kn k_0 = 13) (A_0 : ∀ q, (ds d).heap.size ≤ q → kA k_0 q) (hRc : (dR d).cells = 7) (hRs : (dR d).slots = 568) (hin : (dM d).name = "<init>") (hr : RC k_0 d cX1_init 7 568 hs_17 20) : Wz k_0 (dw d 0 0) hs_10 0 [(0, .ref (ka k_0 12))] [] := by
  refine z_aload_n o_0 dX1_init_0 0 rfl rfl ?_
  refine z_obj o_0 wo_RX1_3 (by decide) (Nat.le_of_ble_eq_true rfl) dX1_init_1 ?_
  refine z_aload_n o_0 dX1_init_4 0 rfl rfl ?_
  refine z_bipush (v := 16) o_0 dX1_init_5 (by decide) ?_
  refine z_newa o_0 A_0 (at_ := .int) (kn1 := 1) (N' := 16) (Or.inl ⟨rfl, rfl⟩) wa_int (by rw [n_0]; rfl) (by rw [n_0]; exact (bd_mono0 bd_hs_10 (by decide))) (by rw [n_0]; exact (fr_mono0 fr_hs_10 (by decide))) (by decide) (by decide +kernel) (by decide) (by show 0 + 1 ≤ (dR d).cells; rw [hRc]; exact Nat.le_of_ble_eq_true rfl) (by show 0 + 16 ≤ (dR d).slots; rw [hRs]; exact Nat.le_of_ble_eq_true rfl) dX1_init_7 (fun k_1 s_1 n_1 x_1 o_1 => ?_)
  replace n_1 : kn k_1 = 14 := n_1.trans (by rw [n_0])
  rw [x_1 12 (by rw [n_0]; decide)]
  rw [n_0]
  replace x_1 : ∀ i, i < 13 → ka k_0 i = ka k_1 i := fun i hi => x_1 i (by rw [n_0]; exact hi)
  replace s_1 : Sm k_0 k_1 := s_1
  have A_1 : ∀ q, (ds d).heap.size ≤ q → kA k_1 q := by rw [s_1.2.2.2.2]; exact A_0
  replace o_1 : Okc k_1 (dw d 1 16) cX1_init RX1 1 3 := o_1
  show Wz _ (dw d 1 16) _ _ _ _
  refine z_putRF (ty := tyX1 0) (i := 12) (ci := 1) (f := 0) (C := RX1) (T := TX1) (N := 9) o_1 rfl (by rw [n_1]; decide) rfl iX1 tyX1 tyX1_ok nmX1 rfl (by decide) rfl rfl hin rfl (tyX1_ok 0 (by decide)) wf_RX1_9 rfl rfl dX1_init_9 ?_
  show Wz _ _ hs_11 _ _ _
  refine z_aload_n o_1 dX1_init_12 0 rfl rfl ?_
  refine z_bipush (v := 16) o_1 dX1_init_13 (by decide) ?_
  refine z_newa o_1 A_1 (at_ := .int) (kn1 := 1) (N' := 16) (Or.inl ⟨rfl, rfl⟩) wa_int (by rw [n_1]; rfl) (by rw [n_1]; exact (bd_mono0 bd_hs_11 (by decide))) (by rw [n_1]; exact (fr_mono0 fr_hs_11 (by decide))) (by decide) (by decide +kernel) (by decide) (by show 1 + 1 ≤ (dR d).cells; rw [hRc]; exact Nat.le_of_ble_eq_true rfl) (by show 16 + 16 ≤ (dR d).slots; rw [hRs]; exact Nat.le_of_ble_eq_true rfl) dX1_init_15 (fun k_2 s_2 n_2 x_2 o_2 => ?_)
  replace n_2 : kn k_2 = 15 := n_2.trans (by rw [n_1])
  rw [x_2 12 (by rw [n_1]; decide)]
  rw [n_1]
  replace x_2 : ∀ i, i < 13 → ka k_0 i = ka k_2 i := fun i hi => (x_1 i hi).trans (x_2 i (by rw [n_1]; omega))
  replace s_2 : Sm k_0 k_2 := sm_tr s_1 s_2
  have A_2 : ∀ q, (ds d).heap.size ≤ q → kA k_2 q := by rw [s_2.2.2.2.2]; exact A_0
  replace o_2 : Okc k_2 (dw d 2 32) cX1_init RX1 1 3 := o_2
  show Wz _ (dw d 2 32) _ _ _ _
  refine z_putRF (ty := tyX1 1) (i := 12) (ci := 1) (f := 1) (C := RX1) (T := TX1) (N := 9) o_2 rfl (by rw [n_2]; decide) rfl iX1 tyX1 tyX1_ok nmX1 rfl (by decide) rfl rfl hin rfl (tyX1_ok 1 (by decide)) wf_RX1_15 rfl rfl dX1_init_17 ?_
  show Wz _ _ hs_12 _ _ _
  refine z_aload_n o_2 dX1_init_20 0 rfl rfl ?_
  refine z_bipush (v := 16) o_2 dX1_init_21 (by decide) ?_
  refine z_newa o_2 A_2 (at_ := .int) (kn1 := 1) (N' := 16) (Or.inl ⟨rfl, rfl⟩) wa_int (by rw [n_2]; rfl) (by rw [n_2]; exact (bd_mono0 bd_hs_12 (by decide))) (by rw [n_2]; exact (fr_mono0 fr_hs_12 (by decide))) (by decide) (by decide +kernel) (by decide) (by show 2 + 1 ≤ (dR d).cells; rw [hRc]; exact Nat.le_of_ble_eq_true rfl) (by show 32 + 16 ≤ (dR d).slots; rw [hRs]; exact Nat.le_of_ble_eq_true rfl) dX1_init_23 (fun k_3 s_3 n_3 x_3 o_3 => ?_)
  replace n_3 : kn k_3 = 16 := n_3.trans (by rw [n_2])
  rw [x_3 12 (by rw [n_2]; decide)]
  rw [n_2]
  replace x_3 : ∀ i, i < 13 → ka k_0 i = ka k_3 i := fun i hi => (x_2 i hi).trans (x_3 i (by rw [n_2]; omega))
  replace s_3 : Sm k_0 k_3 := sm_tr s_2 s_3
  have A_3 : ∀ q, (ds d).heap.size ≤ q → kA k_3 q := by rw [s_3.2.2.2.2]; exact A_0
  replace o_3 : Okc k_3 (dw d 3 48) cX1_init RX1 1 3 := o_3
  show Wz _ (dw d 3 48) _ _ _ _
  refine z_putRF (ty := tyX1 2) (i := 12) (ci := 1) (f := 2) (C := RX1) (T := TX1) (N := 9) o_3 rfl (by rw [n_3]; decide) rfl iX1 tyX1 tyX1_ok nmX1 rfl (by decide) rfl rfl hin rfl (tyX1_ok 2 (by decide)) wf_RX1_18 rfl rfl dX1_init_25 ?_
  show Wz _ _ hs_13 _ _ _
  refine z_aload_n o_3 dX1_init_28 0 rfl rfl ?_
  refine z_bipush (v := 16) o_3 dX1_init_29 (by decide) ?_
  refine z_newa o_3 A_3 (at_ := .int) (kn1 := 1) (N' := 16) (Or.inl ⟨rfl, rfl⟩) wa_int (by rw [n_3]; rfl) (by rw [n_3]; exact (bd_mono0 bd_hs_13 (by decide))) (by rw [n_3]; exact (fr_mono0 fr_hs_13 (by decide))) (by decide) (by decide +kernel) (by decide) (by show 3 + 1 ≤ (dR d).cells; rw [hRc]; exact Nat.le_of_ble_eq_true rfl) (by show 48 + 16 ≤ (dR d).slots; rw [hRs]; exact Nat.le_of_ble_eq_true rfl) dX1_init_31 (fun k_4 s_4 n_4 x_4 o_4 => ?_)
  replace n_4 : kn k_4 = 17 := n_4.trans (by rw [n_3])
  rw [x_4 12 (by rw [n_3]; decide)]
  rw [n_3]
  replace x_4 : ∀ i, i < 13 → ka k_0 i = ka k_4 i := fun i hi => (x_3 i hi).trans (x_4 i (by rw [n_3]; omega))
  replace s_4 : Sm k_0 k_4 := sm_tr s_3 s_4
  have A_4 : ∀ q, (ds d).heap.size ≤ q → kA k_4 q := by rw [s_4.2.2.2.2]; exact A_0
  replace o_4 : Okc k_4 (dw d 4 64) cX1_init RX1 1 3 := o_4
  show Wz _ (dw d 4 64) _ _ _ _
  refine z_putRF (ty := tyX1 3) (i := 12) (ci := 1) (f := 3) (C := RX1) (T := TX1) (N := 9) o_4 rfl (by rw [n_4]; decide) rfl iX1 tyX1 tyX1_ok nmX1 rfl (by decide) rfl rfl hin rfl (tyX1_ok 3 (by decide)) wf_RX1_21 rfl rfl dX1_init_33 ?_
  show Wz _ _ hs_14 _ _ _
  refine z_aload_n o_4 dX1_init_36 0 rfl rfl ?_
  refine z_sipush (v := 240) o_4 dX1_init_37 (by decide) ?_
  refine z_newa o_4 A_4 (at_ := .int) (kn1 := 1) (N' := 240) (Or.inl ⟨rfl, rfl⟩) wa_int (by rw [n_4]; rfl) (by rw [n_4]; exact (bd_mono0 bd_hs_14 (by decide))) (by rw [n_4]; exact (fr_mono0 fr_hs_14 (by decide))) (by decide) (by decide +kernel) (by decide) (by show 4 + 1 ≤ (dR d).cells; rw [hRc]; exact Nat.le_of_ble_eq_true rfl) (by show 64 + 240 ≤ (dR d).slots; rw [hRs]; exact Nat.le_of_ble_eq_true rfl) dX1_init_40 (fun k_5 s_5 n_5 x_5 o_5 => ?_)
  replace n_5 : kn k_5 = 18 := n_5.trans (by rw [n_4])
  rw [x_5 12 (by rw [n_4]; decide)]
  rw [n_4]
  replace x_5 : ∀ i, i < 13 → ka k_0 i = ka k_5 i := fun i hi => (x_4 i hi).trans (x_5 i (by rw [n_4]; omega))
  replace s_5 : Sm k_0 k_5 := sm_tr s_4 s_5
  have A_5 : ∀ q, (ds d).heap.size ≤ q → kA k_5 q := by rw [s_5.2.2.2.2]; exact A_0
  replace o_5 : Okc k_5 (dw d 5 304) cX1_init RX1 1 3 := o_5
  show Wz _ (dw d 5 304) _ _ _ _
  refine z_putRF (ty := tyX1 4) (i := 12) (ci := 1) (f := 4) (C := RX1) (T := TX1) (N := 9) o_5 rfl (by rw [n_5]; decide) rfl iX1 tyX1 tyX1_ok nmX1 rfl (by decide) rfl rfl hin rfl (tyX1_ok 4 (by decide)) wf_RX1_24 rfl rfl dX1_init_42 ?_
  show Wz _ _ hs_15 _ _ _
  refine z_aload_n o_5 dX1_init_45 0 rfl rfl ?_
  refine z_sipush (v := 240) o_5 dX1_init_46 (by decide) ?_
  refine z_newa o_5 A_5 (at_ := .int) (kn1 := 1) (N' := 240) (Or.inl ⟨rfl, rfl⟩) wa_int (by rw [n_5]; rfl) (by rw [n_5]; exact (bd_mono0 bd_hs_15 (by decide))) (by rw [n_5]; exact (fr_mono0 fr_hs_15 (by decide))) (by decide) (by decide +kernel) (by decide) (by show 5 + 1 ≤ (dR d).cells; rw [hRc]; exact Nat.le_of_ble_eq_true rfl) (by show 304 + 240 ≤ (dR d).slots; rw [hRs]; exact Nat.le_of_ble_eq_true rfl) dX1_init_49 (fun k_6 s_6 n_6 x_6 o_6 => ?_)
  replace n_6 : kn k_6 = 19 := n_6.trans (by rw [n_5])
  rw [x_6 12 (by rw [n_5]; decide)]
  rw [n_5]
  replace x_6 : ∀ i, i < 13 → ka k_0 i = ka k_6 i := fun i hi => (x_5 i hi).trans (x_6 i (by rw [n_5]; omega))
  replace s_6 : Sm k_0 k_6 := sm_tr s_5 s_6
  have A_6 : ∀ q, (ds d).heap.size ≤ q → kA k_6 q := by rw [s_6.2.2.2.2]; exact A_0
  replace o_6 : Okc k_6 (dw d 6 544) cX1_init RX1 1 3 := o_6
  show Wz _ (dw d 6 544) _ _ _ _
  refine z_putRF (ty := tyX1 5) (i := 12) (ci := 1) (f := 5) (C := RX1) (T := TX1) (N := 9) o_6 rfl (by rw [n_6]; decide) rfl iX1 tyX1 tyX1_ok nmX1 rfl (by decide) rfl rfl hin rfl (tyX1_ok 5 (by decide)) wf_RX1_27 rfl rfl dX1_init_51 ?_
  show Wz _ _ hs_16 _ _ _
  refine z_aload_n o_6 dX1_init_54 0 rfl rfl ?_
  refine z_bipush (v := 24) o_6 dX1_init_55 (by decide) ?_
  refine z_newa o_6 A_6 (at_ := .int) (kn1 := 1) (N' := 24) (Or.inl ⟨rfl, rfl⟩) wa_int (by rw [n_6]; rfl) (by rw [n_6]; exact (bd_mono0 bd_hs_16 (by decide))) (by rw [n_6]; exact (fr_mono0 fr_hs_16 (by decide))) (by decide) (by decide +kernel) (by decide) (by show 6 + 1 ≤ (dR d).cells; rw [hRc]; exact Nat.le_of_ble_eq_true rfl) (by show 544 + 24 ≤ (dR d).slots; rw [hRs]; exact Nat.le_of_ble_eq_true rfl) dX1_init_57 (fun k_7 s_7 n_7 x_7 o_7 => ?_)
  replace n_7 : kn k_7 = 20 := n_7.trans (by rw [n_6])
  rw [x_7 12 (by rw [n_6]; decide)]
  rw [n_6]
  replace x_7 : ∀ i, i < 13 → ka k_0 i = ka k_7 i := fun i hi => (x_6 i hi).trans (x_7 i (by rw [n_6]; omega))
  replace s_7 : Sm k_0 k_7 := sm_tr s_6 s_7
  have A_7 : ∀ q, (ds d).heap.size ≤ q → kA k_7 q := by rw [s_7.2.2.2.2]; exact A_0
  replace o_7 : Okc k_7 (dw d 7 568) cX1_init RX1 1 3 := o_7
  show Wz _ (dw d 7 568) _ _ _ _
  refine z_putRF (ty := tyX1 6) (i := 12) (ci := 1) (f := 6) (C := RX1) (T := TX1) (N := 9) o_7 rfl (by rw [n_7]; decide) rfl iX1 tyX1 tyX1_ok nmX1 rfl (by decide) rfl rfl hin rfl (tyX1_ok 6 (by decide)) wf_RX1_30 rfl rfl dX1_init_59 ?_
  show Wz _ _ hs_17 _ _ _
  exact hr k_7 _ _ s_7 n_7 (fun i hi => x_7 i (by rw [n_0] at hi; exact hi)) o_7.2.2.2.2.2.2.1 dX1_init_62
theorem C_X1_init_t12 {k : Kst} (hj : Dj k) (hn : kn k = 13) : MC k 3 7 568 yX1_init cX1_init 1 12 hs_10 hs_17 20 := mC hj (by decide +kernel) rfl (by decide) (fun d o hA hRc hRs hin hr => S_X1_init_t12 o hn hA hRc hRs hin hr)
set_option maxRecDepth 100000 in
set_option maxHeartbeats 4000000 in
theorem S_X2_init_t11 {k_0 : Kst} {d : Kdy} (o_0 : Okc k_0 (dw d 0 0) cX2_init RX2 1 4) (n_0 : kn k_0 = 12) (A_0 : ∀ q, (ds d).heap.size ≤ q → kA k_0 q) (hRc : (dR d).cells = 8) (hRs : (dR d).slots = 577) (hin : (dM d).name = "<init>") (hr : RC k_0 d cX2_init 8 577 hs_18 20) : Wz k_0 (dw d 0 0) hs_10 0 [(0, .ref (ka k_0 11))] [] := by
  refine z_aload_n o_0 dX2_init_0 0 rfl rfl ?_
  refine z_obj o_0 wo_RX2_3 (by decide) (Nat.le_of_ble_eq_true rfl) dX2_init_1 ?_
  refine z_aload_n o_0 dX2_init_4 0 rfl rfl ?_
  refine z_new o_0 A_0 (ci := 1) (C := RX1) (T := TX1) (N := 9) rfl iX1 tyX1 tyX1_ok wk_RX2_9 wi_RX1 wni_RX1 (by rw [n_0]; rfl) rfl df_RX1 (by rw [n_0]; exact (bd_mono0 bd_hs_10 (by decide))) (by rw [n_0]; exact (fr_mono0 fr_hs_10 (by decide))) (by show 0 + 1 ≤ (dR d).cells; rw [hRc]; exact Nat.le_of_ble_eq_true rfl) (by show 0 + 9 ≤ (dR d).slots; rw [hRs]; exact Nat.le_of_ble_eq_true rfl) dX2_init_5 (fun k_1 s_1 n_1 x_1 o_1 => ?_)
  replace n_1 : kn k_1 = 13 := n_1.trans (by rw [n_0])
  rw [x_1 11 (by rw [n_0]; decide)]
  rw [n_0]
  replace x_1 : ∀ i, i < 12 → ka k_0 i = ka k_1 i := fun i hi => x_1 i (by rw [n_0]; exact hi)
  replace s_1 : Sm k_0 k_1 := s_1
  have A_1 : ∀ q, (ds d).heap.size ≤ q → kA k_1 q := by rw [s_1.2.2.2.2]; exact A_0
  replace o_1 : Okc k_1 (dw d 1 9) cX2_init RX2 1 4 := o_1
  show Wz _ (dw d 1 9) _ _ _ _
  refine z_dup o_1 dX2_init_8 rfl ?_
  refine z_callN o_1 A_1 (C_X1_init_t12 o_1.2.2.2.2.2.2.1 n_1) (by decide) (by decide) wv_RX2_11 wim_X1_init wni_RX1 wci_X1_init rfl (by decide +kernel) (Nat.le_of_ble_eq_true rfl) (by show 1 + 7 ≤ (dR d).cells; rw [hRc]; exact Nat.le_of_ble_eq_true rfl) (by show 9 + 568 ≤ (dR d).slots; rw [hRs]; exact Nat.le_of_ble_eq_true rfl) dX2_init_9 (fun k_2 s_2 n_2 x_2 o_2 => ?_)
  replace n_2 : kn k_2 = 20 := n_2
  rw [x_2 11 (by rw [n_1]; decide)]
  rw [x_2 12 (by rw [n_1]; decide)]
  replace x_2 : ∀ i, i < 12 → ka k_0 i = ka k_2 i := fun i hi => (x_1 i hi).trans (x_2 i (by rw [n_1]; omega))
  replace s_2 : Sm k_0 k_2 := sm_tr s_1 s_2
  have A_2 : ∀ q, (ds d).heap.size ≤ q → kA k_2 q := by rw [s_2.2.2.2.2]; exact A_0
  replace o_2 : Okc k_2 (dw d 8 577) cX2_init RX2 1 4 := o_2
  show Wz _ (dw d 8 577) _ _ _ _
  refine z_putR (ty := tyX2 0) (i := 11) (ci := 2) (f := 0) (C := RX2) (T := TX2) (N := 1) o_2 rfl (by rw [n_2]; decide) rfl iX2 tyX2 tyX2_ok nmX2 rfl (by decide) rfl rfl (tyX2_ok 0 (by decide)) wf_RX2_12 rfl rfl dX2_init_12 ?_
  show Wz _ _ hs_18 _ _ _
  exact hr k_2 _ _ s_2 n_2 (fun i hi => x_2 i (by rw [n_0] at hi; exact hi)) o_2.2.2.2.2.2.2.1 dX2_init_15
theorem C_X2_init_t11 {k : Kst} (hj : Dj k) (hn : kn k = 12) : MC k 4 8 577 yX2_init cX2_init 1 11 hs_10 hs_18 20 := mC hj (by decide +kernel) rfl (by decide) (fun d o hA hRc hRs hin hr => S_X2_init_t11 o hn hA hRc hRs hin hr)
set_option maxRecDepth 100000 in
set_option maxHeartbeats 4000000 in
theorem S_X5_init_t21 {k_0 : Kst} {d : Kdy} (o_0 : Okc k_0 (dw d 0 0) cX5_init RX5 1 3) (n_0 : kn k_0 = 22) (A_0 : ∀ q, (ds d).heap.size ≤ q → kA k_0 q) (hRc : (dR d).cells = 1) (hRs : (dR d).slots = 21) (hin : (dM d).name = "<init>") (hr : RC k_0 d cX5_init 1 21 hs_20 23) : Wz k_0 (dw d 0 0) hs_19 0 [(0, .ref (ka k_0 21))] [] := by
  refine z_aload_n o_0 dX5_init_0 0 rfl rfl ?_
  refine z_obj o_0 wo_RX5_3 (by decide) (Nat.le_of_ble_eq_true rfl) dX5_init_1 ?_
  refine z_aload_n o_0 dX5_init_4 0 rfl rfl ?_
  refine z_bipush (v := 21) o_0 dX5_init_5 (by decide) ?_
  refine z_newa o_0 A_0 (at_ := .int) (kn1 := 1) (N' := 21) (Or.inl ⟨rfl, rfl⟩) wa_int (by rw [n_0]; rfl) (by rw [n_0]; exact (bd_mono0 bd_hs_19 (by decide))) (by rw [n_0]; exact (fr_mono0 fr_hs_19 (by decide))) (by decide) (by decide +kernel) (by decide) (by show 0 + 1 ≤ (dR d).cells; rw [hRc]; exact Nat.le_of_ble_eq_true rfl) (by show 0 + 21 ≤ (dR d).slots; rw [hRs]; exact Nat.le_of_ble_eq_true rfl) dX5_init_7 (fun k_1 s_1 n_1 x_1 o_1 => ?_)
  replace n_1 : kn k_1 = 23 := n_1.trans (by rw [n_0])
  rw [x_1 21 (by rw [n_0]; decide)]
  rw [n_0]
  replace x_1 : ∀ i, i < 22 → ka k_0 i = ka k_1 i := fun i hi => x_1 i (by rw [n_0]; exact hi)
  replace s_1 : Sm k_0 k_1 := s_1
  have A_1 : ∀ q, (ds d).heap.size ≤ q → kA k_1 q := by rw [s_1.2.2.2.2]; exact A_0
  replace o_1 : Okc k_1 (dw d 1 21) cX5_init RX5 1 3 := o_1
  show Wz _ (dw d 1 21) _ _ _ _
  refine z_putRF (ty := tyX5 0) (i := 21) (ci := 4) (f := 0) (C := RX5) (T := TX5) (N := 2) o_1 rfl (by rw [n_1]; decide) rfl iX5 tyX5 tyX5_ok nmX5 rfl (by decide) rfl rfl hin rfl (tyX5_ok 0 (by decide)) wf_RX5_9 rfl rfl dX5_init_9 ?_
  show Wz _ _ hs_20 _ _ _
  exact hr k_1 _ _ s_1 n_1 (fun i hi => x_1 i (by rw [n_0] at hi; exact hi)) o_1.2.2.2.2.2.2.1 dX5_init_12
theorem C_X5_init_t21 {k : Kst} (hj : Dj k) (hn : kn k = 22) : MC k 3 1 21 yX5_init cX5_init 1 21 hs_19 hs_20 23 := mC hj (by decide +kernel) rfl (by decide) (fun d o hA hRc hRs hin hr => S_X5_init_t21 o hn hA hRc hRs hin hr)
set_option maxRecDepth 100000 in
set_option maxHeartbeats 4000000 in
theorem S_X5_init_t23 {k_0 : Kst} {d : Kdy} (o_0 : Okc k_0 (dw d 0 0) cX5_init RX5 1 3) (n_0 : kn k_0 = 24) (A_0 : ∀ q, (ds d).heap.size ≤ q → kA k_0 q) (hRc : (dR d).cells = 1) (hRs : (dR d).slots = 21) (hin : (dM d).name = "<init>") (hr : RC k_0 d cX5_init 1 21 hs_22 25) : Wz k_0 (dw d 0 0) hs_21 0 [(0, .ref (ka k_0 23))] [] := by
  refine z_aload_n o_0 dX5_init_0 0 rfl rfl ?_
  refine z_obj o_0 wo_RX5_3 (by decide) (Nat.le_of_ble_eq_true rfl) dX5_init_1 ?_
  refine z_aload_n o_0 dX5_init_4 0 rfl rfl ?_
  refine z_bipush (v := 21) o_0 dX5_init_5 (by decide) ?_
  refine z_newa o_0 A_0 (at_ := .int) (kn1 := 1) (N' := 21) (Or.inl ⟨rfl, rfl⟩) wa_int (by rw [n_0]; rfl) (by rw [n_0]; exact (bd_mono0 bd_hs_21 (by decide))) (by rw [n_0]; exact (fr_mono0 fr_hs_21 (by decide))) (by decide) (by decide +kernel) (by decide) (by show 0 + 1 ≤ (dR d).cells; rw [hRc]; exact Nat.le_of_ble_eq_true rfl) (by show 0 + 21 ≤ (dR d).slots; rw [hRs]; exact Nat.le_of_ble_eq_true rfl) dX5_init_7 (fun k_1 s_1 n_1 x_1 o_1 => ?_)
  replace n_1 : kn k_1 = 25 := n_1.trans (by rw [n_0])
  rw [x_1 23 (by rw [n_0]; decide)]
  rw [n_0]
  replace x_1 : ∀ i, i < 24 → ka k_0 i = ka k_1 i := fun i hi => x_1 i (by rw [n_0]; exact hi)
  replace s_1 : Sm k_0 k_1 := s_1
  have A_1 : ∀ q, (ds d).heap.size ≤ q → kA k_1 q := by rw [s_1.2.2.2.2]; exact A_0
  replace o_1 : Okc k_1 (dw d 1 21) cX5_init RX5 1 3 := o_1
  show Wz _ (dw d 1 21) _ _ _ _
  refine z_putRF (ty := tyX5 0) (i := 23) (ci := 4) (f := 0) (C := RX5) (T := TX5) (N := 2) o_1 rfl (by rw [n_1]; decide) rfl iX5 tyX5 tyX5_ok nmX5 rfl (by decide) rfl rfl hin rfl (tyX5_ok 0 (by decide)) wf_RX5_9 rfl rfl dX5_init_9 ?_
  show Wz _ _ hs_22 _ _ _
  exact hr k_1 _ _ s_1 n_1 (fun i hi => x_1 i (by rw [n_0] at hi; exact hi)) o_1.2.2.2.2.2.2.1 dX5_init_12
theorem C_X5_init_t23 {k : Kst} (hj : Dj k) (hn : kn k = 24) : MC k 3 1 21 yX5_init cX5_init 1 23 hs_21 hs_22 25 := mC hj (by decide +kernel) rfl (by decide) (fun d o hA hRc hRs hin hr => S_X5_init_t23 o hn hA hRc hRs hin hr)
set_option maxRecDepth 100000 in
set_option maxHeartbeats 4000000 in
theorem S_X8_init_t25 {k_0 : Kst} {d : Kdy} (o_0 : Okc k_0 (dw d 0 0) cX8_init RX8 1 3) (n_0 : kn k_0 = 26) (A_0 : ∀ q, (ds d).heap.size ≤ q → kA k_0 q) (hRc : (dR d).cells = 1) (hRs : (dR d).slots = 40) (hin : (dM d).name = "<init>") (hr : RC k_0 d cX8_init 1 40 hs_25 27) : Wz k_0 (dw d 0 0) hs_23 0 [(0, .ref (ka k_0 25))] [] := by
  refine z_aload_n o_0 dX8_init_0 0 rfl rfl ?_
  refine z_obj o_0 wo_RX8_3 (by decide) (Nat.le_of_ble_eq_true rfl) dX8_init_1 ?_
  refine z_aload_n o_0 dX8_init_4 0 rfl rfl ?_
  refine z_bipush (v := 40) o_0 dX8_init_5 (by decide) ?_
  refine z_newa o_0 A_0 (at_ := .int) (kn1 := 1) (N' := 40) (Or.inl ⟨rfl, rfl⟩) wa_int (by rw [n_0]; rfl) (by rw [n_0]; exact (bd_mono0 bd_hs_23 (by decide))) (by rw [n_0]; exact (fr_mono0 fr_hs_23 (by decide))) (by decide) (by decide +kernel) (by decide) (by show 0 + 1 ≤ (dR d).cells; rw [hRc]; exact Nat.le_of_ble_eq_true rfl) (by show 0 + 40 ≤ (dR d).slots; rw [hRs]; exact Nat.le_of_ble_eq_true rfl) dX8_init_7 (fun k_1 s_1 n_1 x_1 o_1 => ?_)
  replace n_1 : kn k_1 = 27 := n_1.trans (by rw [n_0])
  rw [x_1 25 (by rw [n_0]; decide)]
  rw [n_0]
  replace x_1 : ∀ i, i < 26 → ka k_0 i = ka k_1 i := fun i hi => x_1 i (by rw [n_0]; exact hi)
  replace s_1 : Sm k_0 k_1 := s_1
  have A_1 : ∀ q, (ds d).heap.size ≤ q → kA k_1 q := by rw [s_1.2.2.2.2]; exact A_0
  replace o_1 : Okc k_1 (dw d 1 40) cX8_init RX8 1 3 := o_1
  show Wz _ (dw d 1 40) _ _ _ _
  refine z_putRF (ty := tyX8 2) (i := 25) (ci := 7) (f := 2) (C := RX8) (T := TX8) (N := 8) o_1 rfl (by rw [n_1]; decide) rfl iX8 tyX8 tyX8_ok nmX8 rfl (by decide) rfl rfl hin rfl (tyX8_ok 2 (by decide)) wf_RX8_9 rfl rfl dX8_init_9 ?_
  show Wz _ _ hs_24 _ _ _
  refine z_aload_n o_1 dX8_init_12 0 rfl rfl ?_
  refine z_iconst (v := 1) o_1 dX8_init_13 (by decide) ?_
  refine z_putI (ty := .int) (i := 25) (ci := 7) (f := 7) (C := RX8) (T := TX8) (N := 8) o_1 rfl (by rw [n_1]; decide) rfl iX8 tyX8 tyX8_ok nmX8 rfl (by decide) rfl rfl (tyX8_ok 7 (by decide)) wf_RX8_15 rfl rfl dX8_init_14 ?_
  show Wz _ _ hs_25 _ _ _
  exact hr k_1 _ _ s_1 n_1 (fun i hi => x_1 i (by rw [n_0] at hi; exact hi)) o_1.2.2.2.2.2.2.1 dX8_init_17
theorem C_X8_init_t25 {k : Kst} (hj : Dj k) (hn : kn k = 26) : MC k 3 1 40 yX8_init cX8_init 1 25 hs_23 hs_25 27 := mC hj (by decide +kernel) rfl (by decide) (fun d o hA hRc hRs hin hr => S_X8_init_t25 o hn hA hRc hRs hin hr)
set_option maxRecDepth 100000 in
set_option maxHeartbeats 4000000 in
theorem S_X1_init_t28 {k_0 : Kst} {d : Kdy} (o_0 : Okc k_0 (dw d 0 0) cX1_init RX1 1 3) (n_0 : kn k_0 = 29) (A_0 : ∀ q, (ds d).heap.size ≤ q → kA k_0 q) (hRc : (dR d).cells = 7) (hRs : (dR d).slots = 568) (hin : (dM d).name = "<init>") (hr : RC k_0 d cX1_init 7 568 hs_34 36) : Wz k_0 (dw d 0 0) hs_27 0 [(0, .ref (ka k_0 28))] [] := by
  refine z_aload_n o_0 dX1_init_0 0 rfl rfl ?_
  refine z_obj o_0 wo_RX1_3 (by decide) (Nat.le_of_ble_eq_true rfl) dX1_init_1 ?_
  refine z_aload_n o_0 dX1_init_4 0 rfl rfl ?_
  refine z_bipush (v := 16) o_0 dX1_init_5 (by decide) ?_
  refine z_newa o_0 A_0 (at_ := .int) (kn1 := 1) (N' := 16) (Or.inl ⟨rfl, rfl⟩) wa_int (by rw [n_0]; rfl) (by rw [n_0]; exact (bd_mono0 bd_hs_27 (by decide))) (by rw [n_0]; exact (fr_mono0 fr_hs_27 (by decide))) (by decide) (by decide +kernel) (by decide) (by show 0 + 1 ≤ (dR d).cells; rw [hRc]; exact Nat.le_of_ble_eq_true rfl) (by show 0 + 16 ≤ (dR d).slots; rw [hRs]; exact Nat.le_of_ble_eq_true rfl) dX1_init_7 (fun k_1 s_1 n_1 x_1 o_1 => ?_)
  replace n_1 : kn k_1 = 30 := n_1.trans (by rw [n_0])
  rw [x_1 28 (by rw [n_0]; decide)]
  rw [n_0]
  replace x_1 : ∀ i, i < 29 → ka k_0 i = ka k_1 i := fun i hi => x_1 i (by rw [n_0]; exact hi)
  replace s_1 : Sm k_0 k_1 := s_1
  have A_1 : ∀ q, (ds d).heap.size ≤ q → kA k_1 q := by rw [s_1.2.2.2.2]; exact A_0
  replace o_1 : Okc k_1 (dw d 1 16) cX1_init RX1 1 3 := o_1
  show Wz _ (dw d 1 16) _ _ _ _
  refine z_putRF (ty := tyX1 0) (i := 28) (ci := 1) (f := 0) (C := RX1) (T := TX1) (N := 9) o_1 rfl (by rw [n_1]; decide) rfl iX1 tyX1 tyX1_ok nmX1 rfl (by decide) rfl rfl hin rfl (tyX1_ok 0 (by decide)) wf_RX1_9 rfl rfl dX1_init_9 ?_
  show Wz _ _ hs_28 _ _ _
  refine z_aload_n o_1 dX1_init_12 0 rfl rfl ?_
  refine z_bipush (v := 16) o_1 dX1_init_13 (by decide) ?_
  refine z_newa o_1 A_1 (at_ := .int) (kn1 := 1) (N' := 16) (Or.inl ⟨rfl, rfl⟩) wa_int (by rw [n_1]; rfl) (by rw [n_1]; exact (bd_mono0 bd_hs_28 (by decide))) (by rw [n_1]; exact (fr_mono0 fr_hs_28 (by decide))) (by decide) (by decide +kernel) (by decide) (by show 1 + 1 ≤ (dR d).cells; rw [hRc]; exact Nat.le_of_ble_eq_true rfl) (by show 16 + 16 ≤ (dR d).slots; rw [hRs]; exact Nat.le_of_ble_eq_true rfl) dX1_init_15 (fun k_2 s_2 n_2 x_2 o_2 => ?_)
  replace n_2 : kn k_2 = 31 := n_2.trans (by rw [n_1])
  rw [x_2 28 (by rw [n_1]; decide)]
  rw [n_1]
  replace x_2 : ∀ i, i < 29 → ka k_0 i = ka k_2 i := fun i hi => (x_1 i hi).trans (x_2 i (by rw [n_1]; omega))
  replace s_2 : Sm k_0 k_2 := sm_tr s_1 s_2
  have A_2 : ∀ q, (ds d).heap.size ≤ q → kA k_2 q := by rw [s_2.2.2.2.2]; exact A_0
  replace o_2 : Okc k_2 (dw d 2 32) cX1_init RX1 1 3 := o_2
  show Wz _ (dw d 2 32) _ _ _ _
  refine z_putRF (ty := tyX1 1) (i := 28) (ci := 1) (f := 1) (C := RX1) (T := TX1) (N := 9) o_2 rfl (by rw [n_2]; decide) rfl iX1 tyX1 tyX1_ok nmX1 rfl (by decide) rfl rfl hin rfl (tyX1_ok 1 (by decide)) wf_RX1_15 rfl rfl dX1_init_17 ?_
  show Wz _ _ hs_29 _ _ _
  refine z_aload_n o_2 dX1_init_20 0 rfl rfl ?_
  refine z_bipush (v := 16) o_2 dX1_init_21 (by decide) ?_
  refine z_newa o_2 A_2 (at_ := .int) (kn1 := 1) (N' := 16) (Or.inl ⟨rfl, rfl⟩) wa_int (by rw [n_2]; rfl) (by rw [n_2]; exact (bd_mono0 bd_hs_29 (by decide))) (by rw [n_2]; exact (fr_mono0 fr_hs_29 (by decide))) (by decide) (by decide +kernel) (by decide) (by show 2 + 1 ≤ (dR d).cells; rw [hRc]; exact Nat.le_of_ble_eq_true rfl) (by show 32 + 16 ≤ (dR d).slots; rw [hRs]; exact Nat.le_of_ble_eq_true rfl) dX1_init_23 (fun k_3 s_3 n_3 x_3 o_3 => ?_)
  replace n_3 : kn k_3 = 32 := n_3.trans (by rw [n_2])
  rw [x_3 28 (by rw [n_2]; decide)]
  rw [n_2]
  replace x_3 : ∀ i, i < 29 → ka k_0 i = ka k_3 i := fun i hi => (x_2 i hi).trans (x_3 i (by rw [n_2]; omega))
  replace s_3 : Sm k_0 k_3 := sm_tr s_2 s_3
  have A_3 : ∀ q, (ds d).heap.size ≤ q → kA k_3 q := by rw [s_3.2.2.2.2]; exact A_0
  replace o_3 : Okc k_3 (dw d 3 48) cX1_init RX1 1 3 := o_3
  show Wz _ (dw d 3 48) _ _ _ _
  refine z_putRF (ty := tyX1 2) (i := 28) (ci := 1) (f := 2) (C := RX1) (T := TX1) (N := 9) o_3 rfl (by rw [n_3]; decide) rfl iX1 tyX1 tyX1_ok nmX1 rfl (by decide) rfl rfl hin rfl (tyX1_ok 2 (by decide)) wf_RX1_18 rfl rfl dX1_init_25 ?_
  show Wz _ _ hs_30 _ _ _
  refine z_aload_n o_3 dX1_init_28 0 rfl rfl ?_
  refine z_bipush (v := 16) o_3 dX1_init_29 (by decide) ?_
  refine z_newa o_3 A_3 (at_ := .int) (kn1 := 1) (N' := 16) (Or.inl ⟨rfl, rfl⟩) wa_int (by rw [n_3]; rfl) (by rw [n_3]; exact (bd_mono0 bd_hs_30 (by decide))) (by rw [n_3]; exact (fr_mono0 fr_hs_30 (by decide))) (by decide) (by decide +kernel) (by decide) (by show 3 + 1 ≤ (dR d).cells; rw [hRc]; exact Nat.le_of_ble_eq_true rfl) (by show 48 + 16 ≤ (dR d).slots; rw [hRs]; exact Nat.le_of_ble_eq_true rfl) dX1_init_31 (fun k_4 s_4 n_4 x_4 o_4 => ?_)
  replace n_4 : kn k_4 = 33 := n_4.trans (by rw [n_3])
  rw [x_4 28 (by rw [n_3]; decide)]
  rw [n_3]
  replace x_4 : ∀ i, i < 29 → ka k_0 i = ka k_4 i := fun i hi => (x_3 i hi).trans (x_4 i (by rw [n_3]; omega))
  replace s_4 : Sm k_0 k_4 := sm_tr s_3 s_4
  have A_4 : ∀ q, (ds d).heap.size ≤ q → kA k_4 q := by rw [s_4.2.2.2.2]; exact A_0
  replace o_4 : Okc k_4 (dw d 4 64) cX1_init RX1 1 3 := o_4
  show Wz _ (dw d 4 64) _ _ _ _
  refine z_putRF (ty := tyX1 3) (i := 28) (ci := 1) (f := 3) (C := RX1) (T := TX1) (N := 9) o_4 rfl (by rw [n_4]; decide) rfl iX1 tyX1 tyX1_ok nmX1 rfl (by decide) rfl rfl hin rfl (tyX1_ok 3 (by decide)) wf_RX1_21 rfl rfl dX1_init_33 ?_
  show Wz _ _ hs_31 _ _ _
  refine z_aload_n o_4 dX1_init_36 0 rfl rfl ?_
  refine z_sipush (v := 240) o_4 dX1_init_37 (by decide) ?_
  refine z_newa o_4 A_4 (at_ := .int) (kn1 := 1) (N' := 240) (Or.inl ⟨rfl, rfl⟩) wa_int (by rw [n_4]; rfl) (by rw [n_4]; exact (bd_mono0 bd_hs_31 (by decide))) (by rw [n_4]; exact (fr_mono0 fr_hs_31 (by decide))) (by decide) (by decide +kernel) (by decide) (by show 4 + 1 ≤ (dR d).cells; rw [hRc]; exact Nat.le_of_ble_eq_true rfl) (by show 64 + 240 ≤ (dR d).slots; rw [hRs]; exact Nat.le_of_ble_eq_true rfl) dX1_init_40 (fun k_5 s_5 n_5 x_5 o_5 => ?_)
  replace n_5 : kn k_5 = 34 := n_5.trans (by rw [n_4])
  rw [x_5 28 (by rw [n_4]; decide)]
  rw [n_4]
  replace x_5 : ∀ i, i < 29 → ka k_0 i = ka k_5 i := fun i hi => (x_4 i hi).trans (x_5 i (by rw [n_4]; omega))
  replace s_5 : Sm k_0 k_5 := sm_tr s_4 s_5
  have A_5 : ∀ q, (ds d).heap.size ≤ q → kA k_5 q := by rw [s_5.2.2.2.2]; exact A_0
  replace o_5 : Okc k_5 (dw d 5 304) cX1_init RX1 1 3 := o_5
  show Wz _ (dw d 5 304) _ _ _ _
  refine z_putRF (ty := tyX1 4) (i := 28) (ci := 1) (f := 4) (C := RX1) (T := TX1) (N := 9) o_5 rfl (by rw [n_5]; decide) rfl iX1 tyX1 tyX1_ok nmX1 rfl (by decide) rfl rfl hin rfl (tyX1_ok 4 (by decide)) wf_RX1_24 rfl rfl dX1_init_42 ?_
  show Wz _ _ hs_32 _ _ _
  refine z_aload_n o_5 dX1_init_45 0 rfl rfl ?_
  refine z_sipush (v := 240) o_5 dX1_init_46 (by decide) ?_
  refine z_newa o_5 A_5 (at_ := .int) (kn1 := 1) (N' := 240) (Or.inl ⟨rfl, rfl⟩) wa_int (by rw [n_5]; rfl) (by rw [n_5]; exact (bd_mono0 bd_hs_32 (by decide))) (by rw [n_5]; exact (fr_mono0 fr_hs_32 (by decide))) (by decide) (by decide +kernel) (by decide) (by show 5 + 1 ≤ (dR d).cells; rw [hRc]; exact Nat.le_of_ble_eq_true rfl) (by show 304 + 240 ≤ (dR d).slots; rw [hRs]; exact Nat.le_of_ble_eq_true rfl) dX1_init_49 (fun k_6 s_6 n_6 x_6 o_6 => ?_)
  replace n_6 : kn k_6 = 35 := n_6.trans (by rw [n_5])
  rw [x_6 28 (by rw [n_5]; decide)]
  rw [n_5]
  replace x_6 : ∀ i, i < 29 → ka k_0 i = ka k_6 i := fun i hi => (x_5 i hi).trans (x_6 i (by rw [n_5]; omega))
  replace s_6 : Sm k_0 k_6 := sm_tr s_5 s_6
  have A_6 : ∀ q, (ds d).heap.size ≤ q → kA k_6 q := by rw [s_6.2.2.2.2]; exact A_0
  replace o_6 : Okc k_6 (dw d 6 544) cX1_init RX1 1 3 := o_6
  show Wz _ (dw d 6 544) _ _ _ _
  refine z_putRF (ty := tyX1 5) (i := 28) (ci := 1) (f := 5) (C := RX1) (T := TX1) (N := 9) o_6 rfl (by rw [n_6]; decide) rfl iX1 tyX1 tyX1_ok nmX1 rfl (by decide) rfl rfl hin rfl (tyX1_ok 5 (by decide)) wf_RX1_27 rfl rfl dX1_init_51 ?_
  show Wz _ _ hs_33 _ _ _
  refine z_aload_n o_6 dX1_init_54 0 rfl rfl ?_
  refine z_bipush (v := 24) o_6 dX1_init_55 (by decide) ?_
  refine z_newa o_6 A_6 (at_ := .int) (kn1 := 1) (N' := 24) (Or.inl ⟨rfl, rfl⟩) wa_int (by rw [n_6]; rfl) (by rw [n_6]; exact (bd_mono0 bd_hs_33 (by decide))) (by rw [n_6]; exact (fr_mono0 fr_hs_33 (by decide))) (by decide) (by decide +kernel) (by decide) (by show 6 + 1 ≤ (dR d).cells; rw [hRc]; exact Nat.le_of_ble_eq_true rfl) (by show 544 + 24 ≤ (dR d).slots; rw [hRs]; exact Nat.le_of_ble_eq_true rfl) dX1_init_57 (fun k_7 s_7 n_7 x_7 o_7 => ?_)
  replace n_7 : kn k_7 = 36 := n_7.trans (by rw [n_6])
  rw [x_7 28 (by rw [n_6]; decide)]
  rw [n_6]
  replace x_7 : ∀ i, i < 29 → ka k_0 i = ka k_7 i := fun i hi => (x_6 i hi).trans (x_7 i (by rw [n_6]; omega))
  replace s_7 : Sm k_0 k_7 := sm_tr s_6 s_7
  have A_7 : ∀ q, (ds d).heap.size ≤ q → kA k_7 q := by rw [s_7.2.2.2.2]; exact A_0
  replace o_7 : Okc k_7 (dw d 7 568) cX1_init RX1 1 3 := o_7
  show Wz _ (dw d 7 568) _ _ _ _
  refine z_putRF (ty := tyX1 6) (i := 28) (ci := 1) (f := 6) (C := RX1) (T := TX1) (N := 9) o_7 rfl (by rw [n_7]; decide) rfl iX1 tyX1 tyX1_ok nmX1 rfl (by decide) rfl rfl hin rfl (tyX1_ok 6 (by decide)) wf_RX1_30 rfl rfl dX1_init_59 ?_
  show Wz _ _ hs_34 _ _ _
  exact hr k_7 _ _ s_7 n_7 (fun i hi => x_7 i (by rw [n_0] at hi; exact hi)) o_7.2.2.2.2.2.2.1 dX1_init_62
theorem C_X1_init_t28 {k : Kst} (hj : Dj k) (hn : kn k = 29) : MC k 3 7 568 yX1_init cX1_init 1 28 hs_27 hs_34 36 := mC hj (by decide +kernel) rfl (by decide) (fun d o hA hRc hRs hin hr => S_X1_init_t28 o hn hA hRc hRs hin hr)
set_option maxRecDepth 100000 in
set_option maxHeartbeats 4000000 in
theorem S_X10_init_t20 {k_0 : Kst} {d : Kdy} (o_0 : Okc k_0 (dw d 0 0) cX10_init RX10 1 4) (n_0 : kn k_0 = 21) (A_0 : ∀ q, (ds d).heap.size ≤ q → kA k_0 q) (hRc : (dR d).cells = 15) (hRs : (dR d).slots = 680) (hin : (dM d).name = "<init>") (hr : RC k_0 d cX10_init 15 680 hs_36 36) : Wz k_0 (dw d 0 0) hs_19 0 [(0, .ref (ka k_0 20))] [] := by
  refine z_aload_n o_0 dX10_init_0 0 rfl rfl ?_
  refine z_obj o_0 wo_RX10_3 (by decide) (Nat.le_of_ble_eq_true rfl) dX10_init_1 ?_
  refine z_aload_n o_0 dX10_init_4 0 rfl rfl ?_
  refine z_new o_0 A_0 (ci := 4) (C := RX5) (T := TX5) (N := 2) rfl iX5 tyX5 tyX5_ok wk_RX10_9 wi_RX5 wni_RX5 (by rw [n_0]; rfl) rfl df_RX5 (by rw [n_0]; exact (bd_mono0 bd_hs_19 (by decide))) (by rw [n_0]; exact (fr_mono0 fr_hs_19 (by decide))) (by show 0 + 1 ≤ (dR d).cells; rw [hRc]; exact Nat.le_of_ble_eq_true rfl) (by show 0 + 2 ≤ (dR d).slots; rw [hRs]; exact Nat.le_of_ble_eq_true rfl) dX10_init_5 (fun k_1 s_1 n_1 x_1 o_1 => ?_)
  replace n_1 : kn k_1 = 22 := n_1.trans (by rw [n_0])
  rw [x_1 20 (by rw [n_0]; decide)]
  rw [n_0]
  replace x_1 : ∀ i, i < 21 → ka k_0 i = ka k_1 i := fun i hi => x_1 i (by rw [n_0]; exact hi)
  replace s_1 : Sm k_0 k_1 := s_1
  have A_1 : ∀ q, (ds d).heap.size ≤ q → kA k_1 q := by rw [s_1.2.2.2.2]; exact A_0
  replace o_1 : Okc k_1 (dw d 1 2) cX10_init RX10 1 4 := o_1
  show Wz _ (dw d 1 2) _ _ _ _
  refine z_dup o_1 dX10_init_8 rfl ?_
  refine z_callN o_1 A_1 (C_X5_init_t21 o_1.2.2.2.2.2.2.1 n_1) (by decide) (by decide) wv_RX10_11 wim_X5_init wni_RX5 wci_X5_init rfl (by decide +kernel) (Nat.le_of_ble_eq_true rfl) (by show 1 + 1 ≤ (dR d).cells; rw [hRc]; exact Nat.le_of_ble_eq_true rfl) (by show 2 + 21 ≤ (dR d).slots; rw [hRs]; exact Nat.le_of_ble_eq_true rfl) dX10_init_9 (fun k_2 s_2 n_2 x_2 o_2 => ?_)
  replace n_2 : kn k_2 = 23 := n_2
  rw [x_2 20 (by rw [n_1]; decide)]
  rw [x_2 21 (by rw [n_1]; decide)]
  replace x_2 : ∀ i, i < 21 → ka k_0 i = ka k_2 i := fun i hi => (x_1 i hi).trans (x_2 i (by rw [n_1]; omega))
  replace s_2 : Sm k_0 k_2 := sm_tr s_1 s_2
  have A_2 : ∀ q, (ds d).heap.size ≤ q → kA k_2 q := by rw [s_2.2.2.2.2]; exact A_0
  replace o_2 : Okc k_2 (dw d 2 23) cX10_init RX10 1 4 := o_2
  show Wz _ (dw d 2 23) _ _ _ _
  refine z_putRF (ty := tyX10 0) (i := 20) (ci := 9) (f := 0) (C := RX10) (T := TX10) (N := 6) o_2 rfl (by rw [n_2]; decide) rfl iX10 tyX10 tyX10_ok nmX10 rfl (by decide) rfl rfl hin rfl (tyX10_ok 0 (by decide)) wf_RX10_12 rfl rfl dX10_init_12 ?_
  show Wz _ _ hs_21 _ _ _
  refine z_aload_n o_2 dX10_init_15 0 rfl rfl ?_
  refine z_new o_2 A_2 (ci := 4) (C := RX5) (T := TX5) (N := 2) rfl iX5 tyX5 tyX5_ok wk_RX10_9 wi_RX5 wni_RX5 (by rw [n_2]; rfl) rfl df_RX5 (by rw [n_2]; exact (bd_mono0 bd_hs_21 (by decide))) (by rw [n_2]; exact (fr_mono0 fr_hs_21 (by decide))) (by show 2 + 1 ≤ (dR d).cells; rw [hRc]; exact Nat.le_of_ble_eq_true rfl) (by show 23 + 2 ≤ (dR d).slots; rw [hRs]; exact Nat.le_of_ble_eq_true rfl) dX10_init_16 (fun k_3 s_3 n_3 x_3 o_3 => ?_)
  replace n_3 : kn k_3 = 24 := n_3.trans (by rw [n_2])
  rw [x_3 20 (by rw [n_2]; decide)]
  rw [n_2]
  replace x_3 : ∀ i, i < 21 → ka k_0 i = ka k_3 i := fun i hi => (x_2 i hi).trans (x_3 i (by rw [n_2]; omega))
  replace s_3 : Sm k_0 k_3 := sm_tr s_2 s_3
  have A_3 : ∀ q, (ds d).heap.size ≤ q → kA k_3 q := by rw [s_3.2.2.2.2]; exact A_0
  replace o_3 : Okc k_3 (dw d 3 25) cX10_init RX10 1 4 := o_3
  show Wz _ (dw d 3 25) _ _ _ _
  refine z_dup o_3 dX10_init_19 rfl ?_
  refine z_callN o_3 A_3 (C_X5_init_t23 o_3.2.2.2.2.2.2.1 n_3) (by decide) (by decide) wv_RX10_11 wim_X5_init wni_RX5 wci_X5_init rfl (by decide +kernel) (Nat.le_of_ble_eq_true rfl) (by show 3 + 1 ≤ (dR d).cells; rw [hRc]; exact Nat.le_of_ble_eq_true rfl) (by show 25 + 21 ≤ (dR d).slots; rw [hRs]; exact Nat.le_of_ble_eq_true rfl) dX10_init_20 (fun k_4 s_4 n_4 x_4 o_4 => ?_)
  replace n_4 : kn k_4 = 25 := n_4
  rw [x_4 20 (by rw [n_3]; decide)]
  rw [x_4 23 (by rw [n_3]; decide)]
  replace x_4 : ∀ i, i < 21 → ka k_0 i = ka k_4 i := fun i hi => (x_3 i hi).trans (x_4 i (by rw [n_3]; omega))
  replace s_4 : Sm k_0 k_4 := sm_tr s_3 s_4
  have A_4 : ∀ q, (ds d).heap.size ≤ q → kA k_4 q := by rw [s_4.2.2.2.2]; exact A_0
  replace o_4 : Okc k_4 (dw d 4 46) cX10_init RX10 1 4 := o_4
  show Wz _ (dw d 4 46) _ _ _ _
  refine z_putRF (ty := tyX10 1) (i := 20) (ci := 9) (f := 1) (C := RX10) (T := TX10) (N := 6) o_4 rfl (by rw [n_4]; decide) rfl iX10 tyX10 tyX10_ok nmX10 rfl (by decide) rfl rfl hin rfl (tyX10_ok 1 (by decide)) wf_RX10_18 rfl rfl dX10_init_23 ?_
  show Wz _ _ hs_23 _ _ _
  refine z_aload_n o_4 dX10_init_26 0 rfl rfl ?_
  refine z_new o_4 A_4 (ci := 7) (C := RX8) (T := TX8) (N := 8) rfl iX8 tyX8 tyX8_ok wk_RX10_21 wi_RX8 wni_RX8 (by rw [n_4]; rfl) rfl df_RX8 (by rw [n_4]; exact (bd_mono0 bd_hs_23 (by decide))) (by rw [n_4]; exact (fr_mono0 fr_hs_23 (by decide))) (by show 4 + 1 ≤ (dR d).cells; rw [hRc]; exact Nat.le_of_ble_eq_true rfl) (by show 46 + 8 ≤ (dR d).slots; rw [hRs]; exact Nat.le_of_ble_eq_true rfl) dX10_init_27 (fun k_5 s_5 n_5 x_5 o_5 => ?_)
  replace n_5 : kn k_5 = 26 := n_5.trans (by rw [n_4])
  rw [x_5 20 (by rw [n_4]; decide)]
  rw [n_4]
  replace x_5 : ∀ i, i < 21 → ka k_0 i = ka k_5 i := fun i hi => (x_4 i hi).trans (x_5 i (by rw [n_4]; omega))
  replace s_5 : Sm k_0 k_5 := sm_tr s_4 s_5
  have A_5 : ∀ q, (ds d).heap.size ≤ q → kA k_5 q := by rw [s_5.2.2.2.2]; exact A_0
  replace o_5 : Okc k_5 (dw d 5 54) cX10_init RX10 1 4 := o_5
  show Wz _ (dw d 5 54) _ _ _ _
  refine z_dup o_5 dX10_init_30 rfl ?_
  refine z_callN o_5 A_5 (C_X8_init_t25 o_5.2.2.2.2.2.2.1 n_5) (by decide) (by decide) wv_RX10_23 wim_X8_init wni_RX8 wci_X8_init rfl (by decide +kernel) (Nat.le_of_ble_eq_true rfl) (by show 5 + 1 ≤ (dR d).cells; rw [hRc]; exact Nat.le_of_ble_eq_true rfl) (by show 54 + 40 ≤ (dR d).slots; rw [hRs]; exact Nat.le_of_ble_eq_true rfl) dX10_init_31 (fun k_6 s_6 n_6 x_6 o_6 => ?_)
  replace n_6 : kn k_6 = 27 := n_6
  rw [x_6 20 (by rw [n_5]; decide)]
  rw [x_6 25 (by rw [n_5]; decide)]
  replace x_6 : ∀ i, i < 21 → ka k_0 i = ka k_6 i := fun i hi => (x_5 i hi).trans (x_6 i (by rw [n_5]; omega))
  replace s_6 : Sm k_0 k_6 := sm_tr s_5 s_6
  have A_6 : ∀ q, (ds d).heap.size ≤ q → kA k_6 q := by rw [s_6.2.2.2.2]; exact A_0
  replace o_6 : Okc k_6 (dw d 6 94) cX10_init RX10 1 4 := o_6
  show Wz _ (dw d 6 94) _ _ _ _
  refine z_putRF (ty := tyX10 2) (i := 20) (ci := 9) (f := 2) (C := RX10) (T := TX10) (N := 6) o_6 rfl (by rw [n_6]; decide) rfl iX10 tyX10 tyX10_ok nmX10 rfl (by decide) rfl rfl hin rfl (tyX10_ok 2 (by decide)) wf_RX10_24 rfl rfl dX10_init_34 ?_
  show Wz _ _ hs_26 _ _ _
  refine z_aload_n o_6 dX10_init_37 0 rfl rfl ?_
  refine z_bipush (v := 9) o_6 dX10_init_38 (by decide) ?_
  refine z_newa o_6 A_6 (at_ := .int) (kn1 := 1) (N' := 9) (Or.inl ⟨rfl, rfl⟩) wa_int (by rw [n_6]; rfl) (by rw [n_6]; exact (bd_mono0 bd_hs_26 (by decide))) (by rw [n_6]; exact (fr_mono0 fr_hs_26 (by decide))) (by decide) (by decide +kernel) (by decide) (by show 6 + 1 ≤ (dR d).cells; rw [hRc]; exact Nat.le_of_ble_eq_true rfl) (by show 94 + 9 ≤ (dR d).slots; rw [hRs]; exact Nat.le_of_ble_eq_true rfl) dX10_init_40 (fun k_7 s_7 n_7 x_7 o_7 => ?_)
  replace n_7 : kn k_7 = 28 := n_7.trans (by rw [n_6])
  rw [x_7 20 (by rw [n_6]; decide)]
  rw [n_6]
  replace x_7 : ∀ i, i < 21 → ka k_0 i = ka k_7 i := fun i hi => (x_6 i hi).trans (x_7 i (by rw [n_6]; omega))
  replace s_7 : Sm k_0 k_7 := sm_tr s_6 s_7
  have A_7 : ∀ q, (ds d).heap.size ≤ q → kA k_7 q := by rw [s_7.2.2.2.2]; exact A_0
  replace o_7 : Okc k_7 (dw d 7 103) cX10_init RX10 1 4 := o_7
  show Wz _ (dw d 7 103) _ _ _ _
  refine z_putRF (ty := tyX10 3) (i := 20) (ci := 9) (f := 3) (C := RX10) (T := TX10) (N := 6) o_7 rfl (by rw [n_7]; decide) rfl iX10 tyX10 tyX10_ok nmX10 rfl (by decide) rfl rfl hin rfl (tyX10_ok 3 (by decide)) wf_RX10_30 rfl rfl dX10_init_42 ?_
  show Wz _ _ hs_27 _ _ _
  refine z_aload_n o_7 dX10_init_45 0 rfl rfl ?_
  refine z_new o_7 A_7 (ci := 1) (C := RX1) (T := TX1) (N := 9) rfl iX1 tyX1 tyX1_ok wk_RX10_34 wi_RX1 wni_RX1 (by rw [n_7]; rfl) rfl df_RX1 (by rw [n_7]; exact (bd_mono0 bd_hs_27 (by decide))) (by rw [n_7]; exact (fr_mono0 fr_hs_27 (by decide))) (by show 7 + 1 ≤ (dR d).cells; rw [hRc]; exact Nat.le_of_ble_eq_true rfl) (by show 103 + 9 ≤ (dR d).slots; rw [hRs]; exact Nat.le_of_ble_eq_true rfl) dX10_init_46 (fun k_8 s_8 n_8 x_8 o_8 => ?_)
  replace n_8 : kn k_8 = 29 := n_8.trans (by rw [n_7])
  rw [x_8 20 (by rw [n_7]; decide)]
  rw [n_7]
  replace x_8 : ∀ i, i < 21 → ka k_0 i = ka k_8 i := fun i hi => (x_7 i hi).trans (x_8 i (by rw [n_7]; omega))
  replace s_8 : Sm k_0 k_8 := sm_tr s_7 s_8
  have A_8 : ∀ q, (ds d).heap.size ≤ q → kA k_8 q := by rw [s_8.2.2.2.2]; exact A_0
  replace o_8 : Okc k_8 (dw d 8 112) cX10_init RX10 1 4 := o_8
  show Wz _ (dw d 8 112) _ _ _ _
  refine z_dup o_8 dX10_init_49 rfl ?_
  refine z_callN o_8 A_8 (C_X1_init_t28 o_8.2.2.2.2.2.2.1 n_8) (by decide) (by decide) wv_RX10_36 wim_X1_init wni_RX1 wci_X1_init rfl (by decide +kernel) (Nat.le_of_ble_eq_true rfl) (by show 8 + 7 ≤ (dR d).cells; rw [hRc]; exact Nat.le_of_ble_eq_true rfl) (by show 112 + 568 ≤ (dR d).slots; rw [hRs]; exact Nat.le_of_ble_eq_true rfl) dX10_init_50 (fun k_9 s_9 n_9 x_9 o_9 => ?_)
  replace n_9 : kn k_9 = 36 := n_9
  rw [x_9 20 (by rw [n_8]; decide)]
  rw [x_9 28 (by rw [n_8]; decide)]
  replace x_9 : ∀ i, i < 21 → ka k_0 i = ka k_9 i := fun i hi => (x_8 i hi).trans (x_9 i (by rw [n_8]; omega))
  replace s_9 : Sm k_0 k_9 := sm_tr s_8 s_9
  have A_9 : ∀ q, (ds d).heap.size ≤ q → kA k_9 q := by rw [s_9.2.2.2.2]; exact A_0
  replace o_9 : Okc k_9 (dw d 15 680) cX10_init RX10 1 4 := o_9
  show Wz _ (dw d 15 680) _ _ _ _
  refine z_putR (ty := tyX10 4) (i := 20) (ci := 9) (f := 4) (C := RX10) (T := TX10) (N := 6) o_9 rfl (by rw [n_9]; decide) rfl iX10 tyX10 tyX10_ok nmX10 rfl (by decide) rfl rfl (tyX10_ok 4 (by decide)) wf_RX10_37 rfl rfl dX10_init_53 ?_
  show Wz _ _ hs_35 _ _ _
  refine z_aload_n o_9 dX10_init_56 0 rfl rfl ?_
  refine z_ldc (v := 99999) o_9 dX10_init_57 wq_RX10_41 ?_
  refine z_putI (ty := .int) (i := 20) (ci := 9) (f := 5) (C := RX10) (T := TX10) (N := 6) o_9 rfl (by rw [n_9]; decide) rfl iX10 tyX10 tyX10_ok nmX10 rfl (by decide) rfl rfl (tyX10_ok 5 (by decide)) wf_RX10_42 rfl rfl dX10_init_59 ?_
  show Wz _ _ hs_36 _ _ _
  exact hr k_9 _ _ s_9 n_9 (fun i hi => x_9 i (by rw [n_0] at hi; exact hi)) o_9.2.2.2.2.2.2.1 dX10_init_62
theorem C_X10_init_t20 {k : Kst} (hj : Dj k) (hn : kn k = 21) : MC k 4 15 680 yX10_init cX10_init 1 20 hs_19 hs_36 36 := mC hj (by decide +kernel) rfl (by decide) (fun d o hA hRc hRs hin hr => S_X10_init_t20 o hn hA hRc hRs hin hr)
set_option maxRecDepth 100000 in
set_option maxHeartbeats 4000000 in
theorem S_X8_init_t36 {k_0 : Kst} {d : Kdy} (o_0 : Okc k_0 (dw d 0 0) cX8_init RX8 1 3) (n_0 : kn k_0 = 37) (A_0 : ∀ q, (ds d).heap.size ≤ q → kA k_0 q) (hRc : (dR d).cells = 1) (hRs : (dR d).slots = 40) (hin : (dM d).name = "<init>") (hr : RC k_0 d cX8_init 1 40 hs_39 38) : Wz k_0 (dw d 0 0) hs_37 0 [(0, .ref (ka k_0 36))] [] := by
  refine z_aload_n o_0 dX8_init_0 0 rfl rfl ?_
  refine z_obj o_0 wo_RX8_3 (by decide) (Nat.le_of_ble_eq_true rfl) dX8_init_1 ?_
  refine z_aload_n o_0 dX8_init_4 0 rfl rfl ?_
  refine z_bipush (v := 40) o_0 dX8_init_5 (by decide) ?_
  refine z_newa o_0 A_0 (at_ := .int) (kn1 := 1) (N' := 40) (Or.inl ⟨rfl, rfl⟩) wa_int (by rw [n_0]; rfl) (by rw [n_0]; exact (bd_mono0 bd_hs_37 (by decide))) (by rw [n_0]; exact (fr_mono0 fr_hs_37 (by decide))) (by decide) (by decide +kernel) (by decide) (by show 0 + 1 ≤ (dR d).cells; rw [hRc]; exact Nat.le_of_ble_eq_true rfl) (by show 0 + 40 ≤ (dR d).slots; rw [hRs]; exact Nat.le_of_ble_eq_true rfl) dX8_init_7 (fun k_1 s_1 n_1 x_1 o_1 => ?_)
  replace n_1 : kn k_1 = 38 := n_1.trans (by rw [n_0])
  rw [x_1 36 (by rw [n_0]; decide)]
  rw [n_0]
  replace x_1 : ∀ i, i < 37 → ka k_0 i = ka k_1 i := fun i hi => x_1 i (by rw [n_0]; exact hi)
  replace s_1 : Sm k_0 k_1 := s_1
  have A_1 : ∀ q, (ds d).heap.size ≤ q → kA k_1 q := by rw [s_1.2.2.2.2]; exact A_0
  replace o_1 : Okc k_1 (dw d 1 40) cX8_init RX8 1 3 := o_1
  show Wz _ (dw d 1 40) _ _ _ _
  refine z_putRF (ty := tyX8 2) (i := 36) (ci := 7) (f := 2) (C := RX8) (T := TX8) (N := 8) o_1 rfl (by rw [n_1]; decide) rfl iX8 tyX8 tyX8_ok nmX8 rfl (by decide) rfl rfl hin rfl (tyX8_ok 2 (by decide)) wf_RX8_9 rfl rfl dX8_init_9 ?_
  show Wz _ _ hs_38 _ _ _
  refine z_aload_n o_1 dX8_init_12 0 rfl rfl ?_
  refine z_iconst (v := 1) o_1 dX8_init_13 (by decide) ?_
  refine z_putI (ty := .int) (i := 36) (ci := 7) (f := 7) (C := RX8) (T := TX8) (N := 8) o_1 rfl (by rw [n_1]; decide) rfl iX8 tyX8 tyX8_ok nmX8 rfl (by decide) rfl rfl (tyX8_ok 7 (by decide)) wf_RX8_15 rfl rfl dX8_init_14 ?_
  show Wz _ _ hs_39 _ _ _
  exact hr k_1 _ _ s_1 n_1 (fun i hi => x_1 i (by rw [n_0] at hi; exact hi)) o_1.2.2.2.2.2.2.1 dX8_init_17
theorem C_X8_init_t36 {k : Kst} (hj : Dj k) (hn : kn k = 37) : MC k 3 1 40 yX8_init cX8_init 1 36 hs_37 hs_39 38 := mC hj (by decide +kernel) rfl (by decide) (fun d o hA hRc hRs hin hr => S_X8_init_t36 o hn hA hRc hRs hin hr)
set_option maxRecDepth 100000 in
set_option maxHeartbeats 4000000 in
theorem S_X8_init_t38 {k_0 : Kst} {d : Kdy} (o_0 : Okc k_0 (dw d 0 0) cX8_init RX8 1 3) (n_0 : kn k_0 = 39) (A_0 : ∀ q, (ds d).heap.size ≤ q → kA k_0 q) (hRc : (dR d).cells = 1) (hRs : (dR d).slots = 40) (hin : (dM d).name = "<init>") (hr : RC k_0 d cX8_init 1 40 hs_42 40) : Wz k_0 (dw d 0 0) hs_40 0 [(0, .ref (ka k_0 38))] [] := by
  refine z_aload_n o_0 dX8_init_0 0 rfl rfl ?_
  refine z_obj o_0 wo_RX8_3 (by decide) (Nat.le_of_ble_eq_true rfl) dX8_init_1 ?_
  refine z_aload_n o_0 dX8_init_4 0 rfl rfl ?_
  refine z_bipush (v := 40) o_0 dX8_init_5 (by decide) ?_
  refine z_newa o_0 A_0 (at_ := .int) (kn1 := 1) (N' := 40) (Or.inl ⟨rfl, rfl⟩) wa_int (by rw [n_0]; rfl) (by rw [n_0]; exact (bd_mono0 bd_hs_40 (by decide))) (by rw [n_0]; exact (fr_mono0 fr_hs_40 (by decide))) (by decide) (by decide +kernel) (by decide) (by show 0 + 1 ≤ (dR d).cells; rw [hRc]; exact Nat.le_of_ble_eq_true rfl) (by show 0 + 40 ≤ (dR d).slots; rw [hRs]; exact Nat.le_of_ble_eq_true rfl) dX8_init_7 (fun k_1 s_1 n_1 x_1 o_1 => ?_)
  replace n_1 : kn k_1 = 40 := n_1.trans (by rw [n_0])
  rw [x_1 38 (by rw [n_0]; decide)]
  rw [n_0]
  replace x_1 : ∀ i, i < 39 → ka k_0 i = ka k_1 i := fun i hi => x_1 i (by rw [n_0]; exact hi)
  replace s_1 : Sm k_0 k_1 := s_1
  have A_1 : ∀ q, (ds d).heap.size ≤ q → kA k_1 q := by rw [s_1.2.2.2.2]; exact A_0
  replace o_1 : Okc k_1 (dw d 1 40) cX8_init RX8 1 3 := o_1
  show Wz _ (dw d 1 40) _ _ _ _
  refine z_putRF (ty := tyX8 2) (i := 38) (ci := 7) (f := 2) (C := RX8) (T := TX8) (N := 8) o_1 rfl (by rw [n_1]; decide) rfl iX8 tyX8 tyX8_ok nmX8 rfl (by decide) rfl rfl hin rfl (tyX8_ok 2 (by decide)) wf_RX8_9 rfl rfl dX8_init_9 ?_
  show Wz _ _ hs_41 _ _ _
  refine z_aload_n o_1 dX8_init_12 0 rfl rfl ?_
  refine z_iconst (v := 1) o_1 dX8_init_13 (by decide) ?_
  refine z_putI (ty := .int) (i := 38) (ci := 7) (f := 7) (C := RX8) (T := TX8) (N := 8) o_1 rfl (by rw [n_1]; decide) rfl iX8 tyX8 tyX8_ok nmX8 rfl (by decide) rfl rfl (tyX8_ok 7 (by decide)) wf_RX8_15 rfl rfl dX8_init_14 ?_
  show Wz _ _ hs_42 _ _ _
  exact hr k_1 _ _ s_1 n_1 (fun i hi => x_1 i (by rw [n_0] at hi; exact hi)) o_1.2.2.2.2.2.2.1 dX8_init_17
theorem C_X8_init_t38 {k : Kst} (hj : Dj k) (hn : kn k = 39) : MC k 3 1 40 yX8_init cX8_init 1 38 hs_40 hs_42 40 := mC hj (by decide +kernel) rfl (by decide) (fun d o hA hRc hRs hin hr => S_X8_init_t38 o hn hA hRc hRs hin hr)
set_option maxRecDepth 100000 in
set_option maxHeartbeats 4000000 in
theorem S_X0_init_t40 {k_0 : Kst} {d : Kdy} (o_0 : Okc k_0 (dw d 0 0) cX0_init RX0 1 3) (n_0 : kn k_0 = 41) (A_0 : ∀ q, (ds d).heap.size ≤ q → kA k_0 q) (hRc : (dR d).cells = 2) (hRs : (dR d).slots = 1440) (hin : (dM d).name = "<init>") (hr : RC k_0 d cX0_init 2 1440 hs_45 43) : Wz k_0 (dw d 0 0) hs_43 0 [(0, .ref (ka k_0 40))] [] := by
  refine z_aload_n o_0 dX0_init_0 0 rfl rfl ?_
  refine z_obj o_0 wo_RX0_3 (by decide) (Nat.le_of_ble_eq_true rfl) dX0_init_1 ?_
  refine z_aload_n o_0 dX0_init_4 0 rfl rfl ?_
  refine z_sipush (v := 720) o_0 dX0_init_5 (by decide) ?_
  refine z_newa o_0 A_0 (at_ := .int) (kn1 := 1) (N' := 720) (Or.inl ⟨rfl, rfl⟩) wa_int (by rw [n_0]; rfl) (by rw [n_0]; exact (bd_mono0 bd_hs_43 (by decide))) (by rw [n_0]; exact (fr_mono0 fr_hs_43 (by decide))) (by decide) (by decide +kernel) (by decide) (by show 0 + 1 ≤ (dR d).cells; rw [hRc]; exact Nat.le_of_ble_eq_true rfl) (by show 0 + 720 ≤ (dR d).slots; rw [hRs]; exact Nat.le_of_ble_eq_true rfl) dX0_init_8 (fun k_1 s_1 n_1 x_1 o_1 => ?_)
  replace n_1 : kn k_1 = 42 := n_1.trans (by rw [n_0])
  rw [x_1 40 (by rw [n_0]; decide)]
  rw [n_0]
  replace x_1 : ∀ i, i < 41 → ka k_0 i = ka k_1 i := fun i hi => x_1 i (by rw [n_0]; exact hi)
  replace s_1 : Sm k_0 k_1 := s_1
  have A_1 : ∀ q, (ds d).heap.size ≤ q → kA k_1 q := by rw [s_1.2.2.2.2]; exact A_0
  replace o_1 : Okc k_1 (dw d 1 720) cX0_init RX0 1 3 := o_1
  show Wz _ (dw d 1 720) _ _ _ _
  refine z_putRF (ty := tyX0 0) (i := 40) (ci := 0) (f := 0) (C := RX0) (T := TX0) (N := 2) o_1 rfl (by rw [n_1]; decide) rfl iX0 tyX0 tyX0_ok nmX0 rfl (by decide) rfl rfl hin rfl (tyX0_ok 0 (by decide)) wf_RX0_11 rfl rfl dX0_init_10 ?_
  show Wz _ _ hs_44 _ _ _
  refine z_aload_n o_1 dX0_init_13 0 rfl rfl ?_
  refine z_sipush (v := 720) o_1 dX0_init_14 (by decide) ?_
  refine z_newa o_1 A_1 (at_ := .int) (kn1 := 1) (N' := 720) (Or.inl ⟨rfl, rfl⟩) wa_int (by rw [n_1]; rfl) (by rw [n_1]; exact (bd_mono0 bd_hs_44 (by decide))) (by rw [n_1]; exact (fr_mono0 fr_hs_44 (by decide))) (by decide) (by decide +kernel) (by decide) (by show 1 + 1 ≤ (dR d).cells; rw [hRc]; exact Nat.le_of_ble_eq_true rfl) (by show 720 + 720 ≤ (dR d).slots; rw [hRs]; exact Nat.le_of_ble_eq_true rfl) dX0_init_17 (fun k_2 s_2 n_2 x_2 o_2 => ?_)
  replace n_2 : kn k_2 = 43 := n_2.trans (by rw [n_1])
  rw [x_2 40 (by rw [n_1]; decide)]
  rw [n_1]
  replace x_2 : ∀ i, i < 41 → ka k_0 i = ka k_2 i := fun i hi => (x_1 i hi).trans (x_2 i (by rw [n_1]; omega))
  replace s_2 : Sm k_0 k_2 := sm_tr s_1 s_2
  have A_2 : ∀ q, (ds d).heap.size ≤ q → kA k_2 q := by rw [s_2.2.2.2.2]; exact A_0
  replace o_2 : Okc k_2 (dw d 2 1440) cX0_init RX0 1 3 := o_2
  show Wz _ (dw d 2 1440) _ _ _ _
  refine z_putRF (ty := tyX0 1) (i := 40) (ci := 0) (f := 1) (C := RX0) (T := TX0) (N := 2) o_2 rfl (by rw [n_2]; decide) rfl iX0 tyX0 tyX0_ok nmX0 rfl (by decide) rfl rfl hin rfl (tyX0_ok 1 (by decide)) wf_RX0_15 rfl rfl dX0_init_19 ?_
  show Wz _ _ hs_45 _ _ _
  exact hr k_2 _ _ s_2 n_2 (fun i hi => x_2 i (by rw [n_0] at hi; exact hi)) o_2.2.2.2.2.2.2.1 dX0_init_22
theorem C_X0_init_t40 {k : Kst} (hj : Dj k) (hn : kn k = 41) : MC k 3 2 1440 yX0_init cX0_init 1 40 hs_43 hs_45 43 := mC hj (by decide +kernel) rfl (by decide) (fun d o hA hRc hRs hin hr => S_X0_init_t40 o hn hA hRc hRs hin hr)
set_option maxRecDepth 100000 in
set_option maxHeartbeats 4000000 in
theorem S_X7_init_t43 {k_0 : Kst} {d : Kdy} (o_0 : Okc k_0 (dw d 0 0) cX7_init RX7 1 3) (n_0 : kn k_0 = 44) (A_0 : ∀ q, (ds d).heap.size ≤ q → kA k_0 q) (hRc : (dR d).cells = 5) (hRs : (dR d).slots = 102) (hin : (dM d).name = "<init>") (hr : RC k_0 d cX7_init 5 102 hs_51 49) : Wz k_0 (dw d 0 0) hs_46 0 [(0, .ref (ka k_0 43))] [] := by
  refine z_aload_n o_0 dX7_init_0 0 rfl rfl ?_
  refine z_obj o_0 wo_RX7_3 (by decide) (Nat.le_of_ble_eq_true rfl) dX7_init_1 ?_
  refine z_aload_n o_0 dX7_init_4 0 rfl rfl ?_
  refine z_bipush (v := 21) o_0 dX7_init_5 (by decide) ?_
  refine z_newa o_0 A_0 (at_ := .int) (kn1 := 1) (N' := 21) (Or.inl ⟨rfl, rfl⟩) wa_int (by rw [n_0]; rfl) (by rw [n_0]; exact (bd_mono0 bd_hs_46 (by decide))) (by rw [n_0]; exact (fr_mono0 fr_hs_46 (by decide))) (by decide) (by decide +kernel) (by decide) (by show 0 + 1 ≤ (dR d).cells; rw [hRc]; exact Nat.le_of_ble_eq_true rfl) (by show 0 + 21 ≤ (dR d).slots; rw [hRs]; exact Nat.le_of_ble_eq_true rfl) dX7_init_7 (fun k_1 s_1 n_1 x_1 o_1 => ?_)
  replace n_1 : kn k_1 = 45 := n_1.trans (by rw [n_0])
  rw [x_1 43 (by rw [n_0]; decide)]
  rw [n_0]
  replace x_1 : ∀ i, i < 44 → ka k_0 i = ka k_1 i := fun i hi => x_1 i (by rw [n_0]; exact hi)
  replace s_1 : Sm k_0 k_1 := s_1
  have A_1 : ∀ q, (ds d).heap.size ≤ q → kA k_1 q := by rw [s_1.2.2.2.2]; exact A_0
  replace o_1 : Okc k_1 (dw d 1 21) cX7_init RX7 1 3 := o_1
  show Wz _ (dw d 1 21) _ _ _ _
  refine z_putRF (ty := tyX7 0) (i := 43) (ci := 6) (f := 0) (C := RX7) (T := TX7) (N := 5) o_1 rfl (by rw [n_1]; decide) rfl iX7 tyX7 tyX7_ok nmX7 rfl (by decide) rfl rfl hin rfl (tyX7_ok 0 (by decide)) wf_RX7_9 rfl rfl dX7_init_9 ?_
  show Wz _ _ hs_47 _ _ _
  refine z_aload_n o_1 dX7_init_12 0 rfl rfl ?_
  refine z_bipush (v := 61) o_1 dX7_init_13 (by decide) ?_
  refine z_newa o_1 A_1 (at_ := .int) (kn1 := 1) (N' := 61) (Or.inl ⟨rfl, rfl⟩) wa_int (by rw [n_1]; rfl) (by rw [n_1]; exact (bd_mono0 bd_hs_47 (by decide))) (by rw [n_1]; exact (fr_mono0 fr_hs_47 (by decide))) (by decide) (by decide +kernel) (by decide) (by show 1 + 1 ≤ (dR d).cells; rw [hRc]; exact Nat.le_of_ble_eq_true rfl) (by show 21 + 61 ≤ (dR d).slots; rw [hRs]; exact Nat.le_of_ble_eq_true rfl) dX7_init_15 (fun k_2 s_2 n_2 x_2 o_2 => ?_)
  replace n_2 : kn k_2 = 46 := n_2.trans (by rw [n_1])
  rw [x_2 43 (by rw [n_1]; decide)]
  rw [n_1]
  replace x_2 : ∀ i, i < 44 → ka k_0 i = ka k_2 i := fun i hi => (x_1 i hi).trans (x_2 i (by rw [n_1]; omega))
  replace s_2 : Sm k_0 k_2 := sm_tr s_1 s_2
  have A_2 : ∀ q, (ds d).heap.size ≤ q → kA k_2 q := by rw [s_2.2.2.2.2]; exact A_0
  replace o_2 : Okc k_2 (dw d 2 82) cX7_init RX7 1 3 := o_2
  show Wz _ (dw d 2 82) _ _ _ _
  refine z_putRF (ty := tyX7 1) (i := 43) (ci := 6) (f := 1) (C := RX7) (T := TX7) (N := 5) o_2 rfl (by rw [n_2]; decide) rfl iX7 tyX7 tyX7_ok nmX7 rfl (by decide) rfl rfl hin rfl (tyX7_ok 1 (by decide)) wf_RX7_15 rfl rfl dX7_init_17 ?_
  show Wz _ _ hs_48 _ _ _
  refine z_aload_n o_2 dX7_init_20 0 rfl rfl ?_
  refine z_bipush (v := 10) o_2 dX7_init_21 (by decide) ?_
  refine z_newa o_2 A_2 (at_ := .int) (kn1 := 1) (N' := 10) (Or.inl ⟨rfl, rfl⟩) wa_int (by rw [n_2]; rfl) (by rw [n_2]; exact (bd_mono0 bd_hs_48 (by decide))) (by rw [n_2]; exact (fr_mono0 fr_hs_48 (by decide))) (by decide) (by decide +kernel) (by decide) (by show 2 + 1 ≤ (dR d).cells; rw [hRc]; exact Nat.le_of_ble_eq_true rfl) (by show 82 + 10 ≤ (dR d).slots; rw [hRs]; exact Nat.le_of_ble_eq_true rfl) dX7_init_23 (fun k_3 s_3 n_3 x_3 o_3 => ?_)
  replace n_3 : kn k_3 = 47 := n_3.trans (by rw [n_2])
  rw [x_3 43 (by rw [n_2]; decide)]
  rw [n_2]
  replace x_3 : ∀ i, i < 44 → ka k_0 i = ka k_3 i := fun i hi => (x_2 i hi).trans (x_3 i (by rw [n_2]; omega))
  replace s_3 : Sm k_0 k_3 := sm_tr s_2 s_3
  have A_3 : ∀ q, (ds d).heap.size ≤ q → kA k_3 q := by rw [s_3.2.2.2.2]; exact A_0
  replace o_3 : Okc k_3 (dw d 3 92) cX7_init RX7 1 3 := o_3
  show Wz _ (dw d 3 92) _ _ _ _
  refine z_putRF (ty := tyX7 2) (i := 43) (ci := 6) (f := 2) (C := RX7) (T := TX7) (N := 5) o_3 rfl (by rw [n_3]; decide) rfl iX7 tyX7 tyX7_ok nmX7 rfl (by decide) rfl rfl hin rfl (tyX7_ok 2 (by decide)) wf_RX7_18 rfl rfl dX7_init_25 ?_
  show Wz _ _ hs_49 _ _ _
  refine z_aload_n o_3 dX7_init_28 0 rfl rfl ?_
  refine z_iconst (v := 5) o_3 dX7_init_29 (by decide) ?_
  refine z_newa o_3 A_3 (at_ := .int) (kn1 := 1) (N' := 5) (Or.inl ⟨rfl, rfl⟩) wa_int (by rw [n_3]; rfl) (by rw [n_3]; exact (bd_mono0 bd_hs_49 (by decide))) (by rw [n_3]; exact (fr_mono0 fr_hs_49 (by decide))) (by decide) (by decide +kernel) (by decide) (by show 3 + 1 ≤ (dR d).cells; rw [hRc]; exact Nat.le_of_ble_eq_true rfl) (by show 92 + 5 ≤ (dR d).slots; rw [hRs]; exact Nat.le_of_ble_eq_true rfl) dX7_init_30 (fun k_4 s_4 n_4 x_4 o_4 => ?_)
  replace n_4 : kn k_4 = 48 := n_4.trans (by rw [n_3])
  rw [x_4 43 (by rw [n_3]; decide)]
  rw [n_3]
  replace x_4 : ∀ i, i < 44 → ka k_0 i = ka k_4 i := fun i hi => (x_3 i hi).trans (x_4 i (by rw [n_3]; omega))
  replace s_4 : Sm k_0 k_4 := sm_tr s_3 s_4
  have A_4 : ∀ q, (ds d).heap.size ≤ q → kA k_4 q := by rw [s_4.2.2.2.2]; exact A_0
  replace o_4 : Okc k_4 (dw d 4 97) cX7_init RX7 1 3 := o_4
  show Wz _ (dw d 4 97) _ _ _ _
  refine z_putRF (ty := tyX7 3) (i := 43) (ci := 6) (f := 3) (C := RX7) (T := TX7) (N := 5) o_4 rfl (by rw [n_4]; decide) rfl iX7 tyX7 tyX7_ok nmX7 rfl (by decide) rfl rfl hin rfl (tyX7_ok 3 (by decide)) wf_RX7_21 rfl rfl dX7_init_32 ?_
  show Wz _ _ hs_50 _ _ _
  refine z_aload_n o_4 dX7_init_35 0 rfl rfl ?_
  refine z_iconst (v := 5) o_4 dX7_init_36 (by decide) ?_
  refine z_newa o_4 A_4 (at_ := .int) (kn1 := 1) (N' := 5) (Or.inl ⟨rfl, rfl⟩) wa_int (by rw [n_4]; rfl) (by rw [n_4]; exact (bd_mono0 bd_hs_50 (by decide))) (by rw [n_4]; exact (fr_mono0 fr_hs_50 (by decide))) (by decide) (by decide +kernel) (by decide) (by show 4 + 1 ≤ (dR d).cells; rw [hRc]; exact Nat.le_of_ble_eq_true rfl) (by show 97 + 5 ≤ (dR d).slots; rw [hRs]; exact Nat.le_of_ble_eq_true rfl) dX7_init_37 (fun k_5 s_5 n_5 x_5 o_5 => ?_)
  replace n_5 : kn k_5 = 49 := n_5.trans (by rw [n_4])
  rw [x_5 43 (by rw [n_4]; decide)]
  rw [n_4]
  replace x_5 : ∀ i, i < 44 → ka k_0 i = ka k_5 i := fun i hi => (x_4 i hi).trans (x_5 i (by rw [n_4]; omega))
  replace s_5 : Sm k_0 k_5 := sm_tr s_4 s_5
  have A_5 : ∀ q, (ds d).heap.size ≤ q → kA k_5 q := by rw [s_5.2.2.2.2]; exact A_0
  replace o_5 : Okc k_5 (dw d 5 102) cX7_init RX7 1 3 := o_5
  show Wz _ (dw d 5 102) _ _ _ _
  refine z_putRF (ty := tyX7 4) (i := 43) (ci := 6) (f := 4) (C := RX7) (T := TX7) (N := 5) o_5 rfl (by rw [n_5]; decide) rfl iX7 tyX7 tyX7_ok nmX7 rfl (by decide) rfl rfl hin rfl (tyX7_ok 4 (by decide)) wf_RX7_24 rfl rfl dX7_init_39 ?_
  show Wz _ _ hs_51 _ _ _
  exact hr k_5 _ _ s_5 n_5 (fun i hi => x_5 i (by rw [n_0] at hi; exact hi)) o_5.2.2.2.2.2.2.1 dX7_init_42
theorem C_X7_init_t43 {k : Kst} (hj : Dj k) (hn : kn k = 44) : MC k 3 5 102 yX7_init cX7_init 1 43 hs_46 hs_51 49 := mC hj (by decide +kernel) rfl (by decide) (fun d o hA hRc hRs hin hr => S_X7_init_t43 o hn hA hRc hRs hin hr)
set_option maxRecDepth 100000 in
set_option maxHeartbeats 4000000 in
theorem S_X11_init_t0 {k_0 : Kst} {d : Kdy} (o_0 : Okc k_0 (dw d 0 0) cX11_init RX11 1 5) (n_0 : kn k_0 = 1) (A_0 : ∀ q, (ds d).heap.size ≤ q → kA k_0 q) (hRc : (dR d).cells = 48) (hRs : (dR d).slots = 3520) (hin : (dM d).name = "<init>") (hr : RC k_0 d cX11_init 48 3520 hs_54 49) : Wz k_0 (dw d 0 0) hs_0 0 [(0, .ref (ka k_0 0))] [] := by
  refine z_aload_n o_0 dX11_init_0 0 rfl rfl ?_
  refine z_obj o_0 wo_RX11_1 (by decide) (Nat.le_of_ble_eq_true rfl) dX11_init_1 ?_
  refine z_aload_n o_0 dX11_init_4 0 rfl rfl ?_
  refine z_sipush (v := 260) o_0 dX11_init_5 (by decide) ?_
  refine z_newa o_0 A_0 (at_ := .int) (kn1 := 1) (N' := 260) (Or.inl ⟨rfl, rfl⟩) wa_int (by rw [n_0]; rfl) (by rw [n_0]; exact (bd_mono0 bd_hs_0 (by decide))) (by rw [n_0]; exact (fr_mono0 fr_hs_0 (by decide))) (by decide) (by decide +kernel) (by decide) (by show 0 + 1 ≤ (dR d).cells; rw [hRc]; exact Nat.le_of_ble_eq_true rfl) (by show 0 + 260 ≤ (dR d).slots; rw [hRs]; exact Nat.le_of_ble_eq_true rfl) dX11_init_8 (fun k_1 s_1 n_1 x_1 o_1 => ?_)
  replace n_1 : kn k_1 = 2 := n_1.trans (by rw [n_0])
  rw [x_1 0 (by rw [n_0]; decide)]
  rw [n_0]
  replace x_1 : ∀ i, i < 1 → ka k_0 i = ka k_1 i := fun i hi => x_1 i (by rw [n_0]; exact hi)
  replace s_1 : Sm k_0 k_1 := s_1
  have A_1 : ∀ q, (ds d).heap.size ≤ q → kA k_1 q := by rw [s_1.2.2.2.2]; exact A_0
  replace o_1 : Okc k_1 (dw d 1 260) cX11_init RX11 1 5 := o_1
  show Wz _ (dw d 1 260) _ _ _ _
  refine z_putRF (ty := tyX11 0) (i := 0) (ci := 10) (f := 0) (C := RX11) (T := TX11) (N := 12) o_1 rfl (by rw [n_1]; decide) rfl iX11 tyX11 tyX11_ok nmX11 rfl (by decide) rfl rfl hin rfl (tyX11_ok 0 (by decide)) wf_RX11_9 rfl rfl dX11_init_10 ?_
  show Wz _ _ hs_1 _ _ _
  refine z_aload_n o_1 dX11_init_13 0 rfl rfl ?_
  refine z_new o_1 A_1 (ci := 8) (C := RX9) (T := TX9) (N := 4) rfl iX9 tyX9 tyX9_ok wk_RX11_13 wi_RX9 wni_RX9 (by rw [n_1]; rfl) rfl df_RX9 (by rw [n_1]; exact (bd_mono0 bd_hs_1 (by decide))) (by rw [n_1]; exact (fr_mono0 fr_hs_1 (by decide))) (by show 1 + 1 ≤ (dR d).cells; rw [hRc]; exact Nat.le_of_ble_eq_true rfl) (by show 260 + 4 ≤ (dR d).slots; rw [hRs]; exact Nat.le_of_ble_eq_true rfl) dX11_init_14 (fun k_2 s_2 n_2 x_2 o_2 => ?_)
  replace n_2 : kn k_2 = 3 := n_2.trans (by rw [n_1])
  rw [x_2 0 (by rw [n_1]; decide)]
  rw [n_1]
  replace x_2 : ∀ i, i < 1 → ka k_0 i = ka k_2 i := fun i hi => (x_1 i hi).trans (x_2 i (by rw [n_1]; omega))
  replace s_2 : Sm k_0 k_2 := sm_tr s_1 s_2
  have A_2 : ∀ q, (ds d).heap.size ≤ q → kA k_2 q := by rw [s_2.2.2.2.2]; exact A_0
  replace o_2 : Okc k_2 (dw d 2 264) cX11_init RX11 1 5 := o_2
  show Wz _ (dw d 2 264) _ _ _ _
  refine z_dup o_2 dX11_init_17 rfl ?_
  refine z_callN o_2 A_2 (C_X9_init_t2 o_2.2.2.2.2.2.2.1 n_2) (by decide) (by decide) wv_RX11_15 wim_X9_init wni_RX9 wci_X9_init rfl (by decide +kernel) (Nat.le_of_ble_eq_true rfl) (by show 2 + 1 ≤ (dR d).cells; rw [hRc]; exact Nat.le_of_ble_eq_true rfl) (by show 264 + 240 ≤ (dR d).slots; rw [hRs]; exact Nat.le_of_ble_eq_true rfl) dX11_init_18 (fun k_3 s_3 n_3 x_3 o_3 => ?_)
  replace n_3 : kn k_3 = 4 := n_3
  rw [x_3 0 (by rw [n_2]; decide)]
  rw [x_3 2 (by rw [n_2]; decide)]
  replace x_3 : ∀ i, i < 1 → ka k_0 i = ka k_3 i := fun i hi => (x_2 i hi).trans (x_3 i (by rw [n_2]; omega))
  replace s_3 : Sm k_0 k_3 := sm_tr s_2 s_3
  have A_3 : ∀ q, (ds d).heap.size ≤ q → kA k_3 q := by rw [s_3.2.2.2.2]; exact A_0
  replace o_3 : Okc k_3 (dw d 3 504) cX11_init RX11 1 5 := o_3
  show Wz _ (dw d 3 504) _ _ _ _
  refine z_putRF (ty := tyX11 2) (i := 0) (ci := 10) (f := 2) (C := RX11) (T := TX11) (N := 12) o_3 rfl (by rw [n_3]; decide) rfl iX11 tyX11 tyX11_ok nmX11 rfl (by decide) rfl rfl hin rfl (tyX11_ok 2 (by decide)) wf_RX11_16 rfl rfl dX11_init_21 ?_
  show Wz _ _ hs_3 _ _ _
  refine z_aload_n o_3 dX11_init_24 0 rfl rfl ?_
  refine z_new o_3 A_3 (ci := 5) (C := RX6) (T := TX6) (N := 2) rfl iX6 tyX6 tyX6_ok wk_RX11_20 wi_RX6 wni_RX6 (by rw [n_3]; rfl) rfl df_RX6 (by rw [n_3]; exact (bd_mono0 bd_hs_3 (by decide))) (by rw [n_3]; exact (fr_mono0 fr_hs_3 (by decide))) (by show 3 + 1 ≤ (dR d).cells; rw [hRc]; exact Nat.le_of_ble_eq_true rfl) (by show 504 + 2 ≤ (dR d).slots; rw [hRs]; exact Nat.le_of_ble_eq_true rfl) dX11_init_25 (fun k_4 s_4 n_4 x_4 o_4 => ?_)
  replace n_4 : kn k_4 = 5 := n_4.trans (by rw [n_3])
  rw [x_4 0 (by rw [n_3]; decide)]
  rw [n_3]
  replace x_4 : ∀ i, i < 1 → ka k_0 i = ka k_4 i := fun i hi => (x_3 i hi).trans (x_4 i (by rw [n_3]; omega))
  replace s_4 : Sm k_0 k_4 := sm_tr s_3 s_4
  have A_4 : ∀ q, (ds d).heap.size ≤ q → kA k_4 q := by rw [s_4.2.2.2.2]; exact A_0
  replace o_4 : Okc k_4 (dw d 4 506) cX11_init RX11 1 5 := o_4
  show Wz _ (dw d 4 506) _ _ _ _
  refine z_dup o_4 dX11_init_28 rfl ?_
  refine z_callN o_4 A_4 (C_X6_init_t4 o_4.2.2.2.2.2.2.1 n_4) (by decide) (by decide) wv_RX11_22 wim_X6_init wni_RX6 wci_X6_init rfl (by decide +kernel) (Nat.le_of_ble_eq_true rfl) (by show 4 + 1 ≤ (dR d).cells; rw [hRc]; exact Nat.le_of_ble_eq_true rfl) (by show 506 + 20 ≤ (dR d).slots; rw [hRs]; exact Nat.le_of_ble_eq_true rfl) dX11_init_29 (fun k_5 s_5 n_5 x_5 o_5 => ?_)
  replace n_5 : kn k_5 = 6 := n_5
  rw [x_5 0 (by rw [n_4]; decide)]
  rw [x_5 4 (by rw [n_4]; decide)]
  replace x_5 : ∀ i, i < 1 → ka k_0 i = ka k_5 i := fun i hi => (x_4 i hi).trans (x_5 i (by rw [n_4]; omega))
  replace s_5 : Sm k_0 k_5 := sm_tr s_4 s_5
  have A_5 : ∀ q, (ds d).heap.size ≤ q → kA k_5 q := by rw [s_5.2.2.2.2]; exact A_0
  replace o_5 : Okc k_5 (dw d 5 526) cX11_init RX11 1 5 := o_5
  show Wz _ (dw d 5 526) _ _ _ _
  refine z_putRF (ty := tyX11 3) (i := 0) (ci := 10) (f := 3) (C := RX11) (T := TX11) (N := 12) o_5 rfl (by rw [n_5]; decide) rfl iX11 tyX11 tyX11_ok nmX11 rfl (by decide) rfl rfl hin rfl (tyX11_ok 3 (by decide)) wf_RX11_23 rfl rfl dX11_init_32 ?_
  show Wz _ _ hs_5 _ _ _
  refine z_aload_n o_5 dX11_init_35 0 rfl rfl ?_
  refine z_new o_5 A_5 (ci := 3) (C := RX4) (T := TX4) (N := 5) rfl iX4 tyX4 tyX4_ok wk_RX11_27 wi_RX4 wni_RX4 (by rw [n_5]; rfl) rfl df_RX4 (by rw [n_5]; exact (bd_mono0 bd_hs_5 (by decide))) (by rw [n_5]; exact (fr_mono0 fr_hs_5 (by decide))) (by show 5 + 1 ≤ (dR d).cells; rw [hRc]; exact Nat.le_of_ble_eq_true rfl) (by show 526 + 5 ≤ (dR d).slots; rw [hRs]; exact Nat.le_of_ble_eq_true rfl) dX11_init_36 (fun k_6 s_6 n_6 x_6 o_6 => ?_)
  replace n_6 : kn k_6 = 7 := n_6.trans (by rw [n_5])
  rw [x_6 0 (by rw [n_5]; decide)]
  rw [n_5]
  replace x_6 : ∀ i, i < 1 → ka k_0 i = ka k_6 i := fun i hi => (x_5 i hi).trans (x_6 i (by rw [n_5]; omega))
  replace s_6 : Sm k_0 k_6 := sm_tr s_5 s_6
  have A_6 : ∀ q, (ds d).heap.size ≤ q → kA k_6 q := by rw [s_6.2.2.2.2]; exact A_0
  replace o_6 : Okc k_6 (dw d 6 531) cX11_init RX11 1 5 := o_6
  show Wz _ (dw d 6 531) _ _ _ _
  refine z_dup o_6 dX11_init_39 rfl ?_
  refine z_callN o_6 A_6 (C_X4_init_t6 o_6.2.2.2.2.2.2.1 n_6) (by decide) (by decide) wv_RX11_29 wim_X4_init wni_RX4 wci_X4_init rfl (by decide +kernel) (Nat.le_of_ble_eq_true rfl) (by show 6 + 4 ≤ (dR d).cells; rw [hRc]; exact Nat.le_of_ble_eq_true rfl) (by show 531 + 80 ≤ (dR d).slots; rw [hRs]; exact Nat.le_of_ble_eq_true rfl) dX11_init_40 (fun k_7 s_7 n_7 x_7 o_7 => ?_)
  replace n_7 : kn k_7 = 11 := n_7
  rw [x_7 0 (by rw [n_6]; decide)]
  rw [x_7 6 (by rw [n_6]; decide)]
  replace x_7 : ∀ i, i < 1 → ka k_0 i = ka k_7 i := fun i hi => (x_6 i hi).trans (x_7 i (by rw [n_6]; omega))
  replace s_7 : Sm k_0 k_7 := sm_tr s_6 s_7
  have A_7 : ∀ q, (ds d).heap.size ≤ q → kA k_7 q := by rw [s_7.2.2.2.2]; exact A_0
  replace o_7 : Okc k_7 (dw d 10 611) cX11_init RX11 1 5 := o_7
  show Wz _ (dw d 10 611) _ _ _ _
  refine z_putRF (ty := tyX11 4) (i := 0) (ci := 10) (f := 4) (C := RX11) (T := TX11) (N := 12) o_7 rfl (by rw [n_7]; decide) rfl iX11 tyX11 tyX11_ok nmX11 rfl (by decide) rfl rfl hin rfl (tyX11_ok 4 (by decide)) wf_RX11_30 rfl rfl dX11_init_43 ?_
  show Wz _ _ hs_10 _ _ _
  refine z_aload_n o_7 dX11_init_46 0 rfl rfl ?_
  refine z_new o_7 A_7 (ci := 2) (C := RX2) (T := TX2) (N := 1) rfl iX2 tyX2 tyX2_ok wk_RX11_34 wi_RX2 wni_RX2 (by rw [n_7]; rfl) rfl df_RX2 (by rw [n_7]; exact (bd_mono0 bd_hs_10 (by decide))) (by rw [n_7]; exact (fr_mono0 fr_hs_10 (by decide))) (by show 10 + 1 ≤ (dR d).cells; rw [hRc]; exact Nat.le_of_ble_eq_true rfl) (by show 611 + 1 ≤ (dR d).slots; rw [hRs]; exact Nat.le_of_ble_eq_true rfl) dX11_init_47 (fun k_8 s_8 n_8 x_8 o_8 => ?_)
  replace n_8 : kn k_8 = 12 := n_8.trans (by rw [n_7])
  rw [x_8 0 (by rw [n_7]; decide)]
  rw [n_7]
  replace x_8 : ∀ i, i < 1 → ka k_0 i = ka k_8 i := fun i hi => (x_7 i hi).trans (x_8 i (by rw [n_7]; omega))
  replace s_8 : Sm k_0 k_8 := sm_tr s_7 s_8
  have A_8 : ∀ q, (ds d).heap.size ≤ q → kA k_8 q := by rw [s_8.2.2.2.2]; exact A_0
  replace o_8 : Okc k_8 (dw d 11 612) cX11_init RX11 1 5 := o_8
  show Wz _ (dw d 11 612) _ _ _ _
  refine z_dup o_8 dX11_init_50 rfl ?_
  refine z_callN o_8 A_8 (C_X2_init_t11 o_8.2.2.2.2.2.2.1 n_8) (by decide) (by decide) wv_RX11_36 wim_X2_init wni_RX2 wci_X2_init rfl (by decide +kernel) (Nat.le_of_ble_eq_true rfl) (by show 11 + 8 ≤ (dR d).cells; rw [hRc]; exact Nat.le_of_ble_eq_true rfl) (by show 612 + 577 ≤ (dR d).slots; rw [hRs]; exact Nat.le_of_ble_eq_true rfl) dX11_init_51 (fun k_9 s_9 n_9 x_9 o_9 => ?_)
  replace n_9 : kn k_9 = 20 := n_9
  rw [x_9 0 (by rw [n_8]; decide)]
  rw [x_9 11 (by rw [n_8]; decide)]
  replace x_9 : ∀ i, i < 1 → ka k_0 i = ka k_9 i := fun i hi => (x_8 i hi).trans (x_9 i (by rw [n_8]; omega))
  replace s_9 : Sm k_0 k_9 := sm_tr s_8 s_9
  have A_9 : ∀ q, (ds d).heap.size ≤ q → kA k_9 q := by rw [s_9.2.2.2.2]; exact A_0
  replace o_9 : Okc k_9 (dw d 19 1189) cX11_init RX11 1 5 := o_9
  show Wz _ (dw d 19 1189) _ _ _ _
  refine z_putRF (ty := tyX11 5) (i := 0) (ci := 10) (f := 5) (C := RX11) (T := TX11) (N := 12) o_9 rfl (by rw [n_9]; decide) rfl iX11 tyX11 tyX11_ok nmX11 rfl (by decide) rfl rfl hin rfl (tyX11_ok 5 (by decide)) wf_RX11_37 rfl rfl dX11_init_54 ?_
  show Wz _ _ hs_19 _ _ _
  refine z_aload_n o_9 dX11_init_57 0 rfl rfl ?_
  refine z_new o_9 A_9 (ci := 9) (C := RX10) (T := TX10) (N := 6) rfl iX10 tyX10 tyX10_ok wk_RX11_41 wi_RX10 wni_RX10 (by rw [n_9]; rfl) rfl df_RX10 (by rw [n_9]; exact (bd_mono0 bd_hs_19 (by decide))) (by rw [n_9]; exact (fr_mono0 fr_hs_19 (by decide))) (by show 19 + 1 ≤ (dR d).cells; rw [hRc]; exact Nat.le_of_ble_eq_true rfl) (by show 1189 + 6 ≤ (dR d).slots; rw [hRs]; exact Nat.le_of_ble_eq_true rfl) dX11_init_58 (fun k_10 s_10 n_10 x_10 o_10 => ?_)
  replace n_10 : kn k_10 = 21 := n_10.trans (by rw [n_9])
  rw [x_10 0 (by rw [n_9]; decide)]
  rw [n_9]
  replace x_10 : ∀ i, i < 1 → ka k_0 i = ka k_10 i := fun i hi => (x_9 i hi).trans (x_10 i (by rw [n_9]; omega))
  replace s_10 : Sm k_0 k_10 := sm_tr s_9 s_10
  have A_10 : ∀ q, (ds d).heap.size ≤ q → kA k_10 q := by rw [s_10.2.2.2.2]; exact A_0
  replace o_10 : Okc k_10 (dw d 20 1195) cX11_init RX11 1 5 := o_10
  show Wz _ (dw d 20 1195) _ _ _ _
  refine z_dup o_10 dX11_init_61 rfl ?_
  refine z_callN o_10 A_10 (C_X10_init_t20 o_10.2.2.2.2.2.2.1 n_10) (by decide) (by decide) wv_RX11_43 wim_X10_init wni_RX10 wci_X10_init rfl (by decide +kernel) (Nat.le_of_ble_eq_true rfl) (by show 20 + 15 ≤ (dR d).cells; rw [hRc]; exact Nat.le_of_ble_eq_true rfl) (by show 1195 + 680 ≤ (dR d).slots; rw [hRs]; exact Nat.le_of_ble_eq_true rfl) dX11_init_62 (fun k_11 s_11 n_11 x_11 o_11 => ?_)
  replace n_11 : kn k_11 = 36 := n_11
  rw [x_11 0 (by rw [n_10]; decide)]
  rw [x_11 20 (by rw [n_10]; decide)]
  replace x_11 : ∀ i, i < 1 → ka k_0 i = ka k_11 i := fun i hi => (x_10 i hi).trans (x_11 i (by rw [n_10]; omega))
  replace s_11 : Sm k_0 k_11 := sm_tr s_10 s_11
  have A_11 : ∀ q, (ds d).heap.size ≤ q → kA k_11 q := by rw [s_11.2.2.2.2]; exact A_0
  replace o_11 : Okc k_11 (dw d 35 1875) cX11_init RX11 1 5 := o_11
  show Wz _ (dw d 35 1875) _ _ _ _
  refine z_putRF (ty := tyX11 6) (i := 0) (ci := 10) (f := 6) (C := RX11) (T := TX11) (N := 12) o_11 rfl (by rw [n_11]; decide) rfl iX11 tyX11 tyX11_ok nmX11 rfl (by decide) rfl rfl hin rfl (tyX11_ok 6 (by decide)) wf_RX11_44 rfl rfl dX11_init_65 ?_
  show Wz _ _ hs_37 _ _ _
  refine z_aload_n o_11 dX11_init_68 0 rfl rfl ?_
  refine z_new o_11 A_11 (ci := 7) (C := RX8) (T := TX8) (N := 8) rfl iX8 tyX8 tyX8_ok wk_RX11_48 wi_RX8 wni_RX8 (by rw [n_11]; rfl) rfl df_RX8 (by rw [n_11]; exact (bd_mono0 bd_hs_37 (by decide))) (by rw [n_11]; exact (fr_mono0 fr_hs_37 (by decide))) (by show 35 + 1 ≤ (dR d).cells; rw [hRc]; exact Nat.le_of_ble_eq_true rfl) (by show 1875 + 8 ≤ (dR d).slots; rw [hRs]; exact Nat.le_of_ble_eq_true rfl) dX11_init_69 (fun k_12 s_12 n_12 x_12 o_12 => ?_)
  replace n_12 : kn k_12 = 37 := n_12.trans (by rw [n_11])
  rw [x_12 0 (by rw [n_11]; decide)]
  rw [n_11]
  replace x_12 : ∀ i, i < 1 → ka k_0 i = ka k_12 i := fun i hi => (x_11 i hi).trans (x_12 i (by rw [n_11]; omega))
  replace s_12 : Sm k_0 k_12 := sm_tr s_11 s_12
  have A_12 : ∀ q, (ds d).heap.size ≤ q → kA k_12 q := by rw [s_12.2.2.2.2]; exact A_0
  replace o_12 : Okc k_12 (dw d 36 1883) cX11_init RX11 1 5 := o_12
  show Wz _ (dw d 36 1883) _ _ _ _
  refine z_dup o_12 dX11_init_72 rfl ?_
  refine z_callN o_12 A_12 (C_X8_init_t36 o_12.2.2.2.2.2.2.1 n_12) (by decide) (by decide) wv_RX11_50 wim_X8_init wni_RX8 wci_X8_init rfl (by decide +kernel) (Nat.le_of_ble_eq_true rfl) (by show 36 + 1 ≤ (dR d).cells; rw [hRc]; exact Nat.le_of_ble_eq_true rfl) (by show 1883 + 40 ≤ (dR d).slots; rw [hRs]; exact Nat.le_of_ble_eq_true rfl) dX11_init_73 (fun k_13 s_13 n_13 x_13 o_13 => ?_)
  replace n_13 : kn k_13 = 38 := n_13
  rw [x_13 0 (by rw [n_12]; decide)]
  rw [x_13 36 (by rw [n_12]; decide)]
  replace x_13 : ∀ i, i < 1 → ka k_0 i = ka k_13 i := fun i hi => (x_12 i hi).trans (x_13 i (by rw [n_12]; omega))
  replace s_13 : Sm k_0 k_13 := sm_tr s_12 s_13
  have A_13 : ∀ q, (ds d).heap.size ≤ q → kA k_13 q := by rw [s_13.2.2.2.2]; exact A_0
  replace o_13 : Okc k_13 (dw d 37 1923) cX11_init RX11 1 5 := o_13
  show Wz _ (dw d 37 1923) _ _ _ _
  refine z_putRF (ty := tyX11 7) (i := 0) (ci := 10) (f := 7) (C := RX11) (T := TX11) (N := 12) o_13 rfl (by rw [n_13]; decide) rfl iX11 tyX11 tyX11_ok nmX11 rfl (by decide) rfl rfl hin rfl (tyX11_ok 7 (by decide)) wf_RX11_51 rfl rfl dX11_init_76 ?_
  show Wz _ _ hs_40 _ _ _
  refine z_aload_n o_13 dX11_init_79 0 rfl rfl ?_
  refine z_new o_13 A_13 (ci := 7) (C := RX8) (T := TX8) (N := 8) rfl iX8 tyX8 tyX8_ok wk_RX11_48 wi_RX8 wni_RX8 (by rw [n_13]; rfl) rfl df_RX8 (by rw [n_13]; exact (bd_mono0 bd_hs_40 (by decide))) (by rw [n_13]; exact (fr_mono0 fr_hs_40 (by decide))) (by show 37 + 1 ≤ (dR d).cells; rw [hRc]; exact Nat.le_of_ble_eq_true rfl) (by show 1923 + 8 ≤ (dR d).slots; rw [hRs]; exact Nat.le_of_ble_eq_true rfl) dX11_init_80 (fun k_14 s_14 n_14 x_14 o_14 => ?_)
  replace n_14 : kn k_14 = 39 := n_14.trans (by rw [n_13])
  rw [x_14 0 (by rw [n_13]; decide)]
  rw [n_13]
  replace x_14 : ∀ i, i < 1 → ka k_0 i = ka k_14 i := fun i hi => (x_13 i hi).trans (x_14 i (by rw [n_13]; omega))
  replace s_14 : Sm k_0 k_14 := sm_tr s_13 s_14
  have A_14 : ∀ q, (ds d).heap.size ≤ q → kA k_14 q := by rw [s_14.2.2.2.2]; exact A_0
  replace o_14 : Okc k_14 (dw d 38 1931) cX11_init RX11 1 5 := o_14
  show Wz _ (dw d 38 1931) _ _ _ _
  refine z_dup o_14 dX11_init_83 rfl ?_
  refine z_callN o_14 A_14 (C_X8_init_t38 o_14.2.2.2.2.2.2.1 n_14) (by decide) (by decide) wv_RX11_50 wim_X8_init wni_RX8 wci_X8_init rfl (by decide +kernel) (Nat.le_of_ble_eq_true rfl) (by show 38 + 1 ≤ (dR d).cells; rw [hRc]; exact Nat.le_of_ble_eq_true rfl) (by show 1931 + 40 ≤ (dR d).slots; rw [hRs]; exact Nat.le_of_ble_eq_true rfl) dX11_init_84 (fun k_15 s_15 n_15 x_15 o_15 => ?_)
  replace n_15 : kn k_15 = 40 := n_15
  rw [x_15 0 (by rw [n_14]; decide)]
  rw [x_15 38 (by rw [n_14]; decide)]
  replace x_15 : ∀ i, i < 1 → ka k_0 i = ka k_15 i := fun i hi => (x_14 i hi).trans (x_15 i (by rw [n_14]; omega))
  replace s_15 : Sm k_0 k_15 := sm_tr s_14 s_15
  have A_15 : ∀ q, (ds d).heap.size ≤ q → kA k_15 q := by rw [s_15.2.2.2.2]; exact A_0
  replace o_15 : Okc k_15 (dw d 39 1971) cX11_init RX11 1 5 := o_15
  show Wz _ (dw d 39 1971) _ _ _ _
  refine z_putRF (ty := tyX11 8) (i := 0) (ci := 10) (f := 8) (C := RX11) (T := TX11) (N := 12) o_15 rfl (by rw [n_15]; decide) rfl iX11 tyX11 tyX11_ok nmX11 rfl (by decide) rfl rfl hin rfl (tyX11_ok 8 (by decide)) wf_RX11_55 rfl rfl dX11_init_87 ?_
  show Wz _ _ hs_43 _ _ _
  refine z_aload_n o_15 dX11_init_90 0 rfl rfl ?_
  refine z_new o_15 A_15 (ci := 0) (C := RX0) (T := TX0) (N := 2) rfl iX0 tyX0 tyX0_ok wk_RX11_58 wi_RX0 wni_RX0 (by rw [n_15]; rfl) rfl df_RX0 (by rw [n_15]; exact (bd_mono0 bd_hs_43 (by decide))) (by rw [n_15]; exact (fr_mono0 fr_hs_43 (by decide))) (by show 39 + 1 ≤ (dR d).cells; rw [hRc]; exact Nat.le_of_ble_eq_true rfl) (by show 1971 + 2 ≤ (dR d).slots; rw [hRs]; exact Nat.le_of_ble_eq_true rfl) dX11_init_91 (fun k_16 s_16 n_16 x_16 o_16 => ?_)
  replace n_16 : kn k_16 = 41 := n_16.trans (by rw [n_15])
  rw [x_16 0 (by rw [n_15]; decide)]
  rw [n_15]
  replace x_16 : ∀ i, i < 1 → ka k_0 i = ka k_16 i := fun i hi => (x_15 i hi).trans (x_16 i (by rw [n_15]; omega))
  replace s_16 : Sm k_0 k_16 := sm_tr s_15 s_16
  have A_16 : ∀ q, (ds d).heap.size ≤ q → kA k_16 q := by rw [s_16.2.2.2.2]; exact A_0
  replace o_16 : Okc k_16 (dw d 40 1973) cX11_init RX11 1 5 := o_16
  show Wz _ (dw d 40 1973) _ _ _ _
  refine z_dup o_16 dX11_init_94 rfl ?_
  refine z_callN o_16 A_16 (C_X0_init_t40 o_16.2.2.2.2.2.2.1 n_16) (by decide) (by decide) wv_RX11_60 wim_X0_init wni_RX0 wci_X0_init rfl (by decide +kernel) (Nat.le_of_ble_eq_true rfl) (by show 40 + 2 ≤ (dR d).cells; rw [hRc]; exact Nat.le_of_ble_eq_true rfl) (by show 1973 + 1440 ≤ (dR d).slots; rw [hRs]; exact Nat.le_of_ble_eq_true rfl) dX11_init_95 (fun k_17 s_17 n_17 x_17 o_17 => ?_)
  replace n_17 : kn k_17 = 43 := n_17
  rw [x_17 0 (by rw [n_16]; decide)]
  rw [x_17 40 (by rw [n_16]; decide)]
  replace x_17 : ∀ i, i < 1 → ka k_0 i = ka k_17 i := fun i hi => (x_16 i hi).trans (x_17 i (by rw [n_16]; omega))
  replace s_17 : Sm k_0 k_17 := sm_tr s_16 s_17
  have A_17 : ∀ q, (ds d).heap.size ≤ q → kA k_17 q := by rw [s_17.2.2.2.2]; exact A_0
  replace o_17 : Okc k_17 (dw d 42 3413) cX11_init RX11 1 5 := o_17
  show Wz _ (dw d 42 3413) _ _ _ _
  refine z_putRF (ty := tyX11 9) (i := 0) (ci := 10) (f := 9) (C := RX11) (T := TX11) (N := 12) o_17 rfl (by rw [n_17]; decide) rfl iX11 tyX11 tyX11_ok nmX11 rfl (by decide) rfl rfl hin rfl (tyX11_ok 9 (by decide)) wf_RX11_61 rfl rfl dX11_init_98 ?_
  show Wz _ _ hs_46 _ _ _
  refine z_aload_n o_17 dX11_init_101 0 rfl rfl ?_
  refine z_new o_17 A_17 (ci := 6) (C := RX7) (T := TX7) (N := 5) rfl iX7 tyX7 tyX7_ok wk_RX11_65 wi_RX7 wni_RX7 (by rw [n_17]; rfl) rfl df_RX7 (by rw [n_17]; exact (bd_mono0 bd_hs_46 (by decide))) (by rw [n_17]; exact (fr_mono0 fr_hs_46 (by decide))) (by show 42 + 1 ≤ (dR d).cells; rw [hRc]; exact Nat.le_of_ble_eq_true rfl) (by show 3413 + 5 ≤ (dR d).slots; rw [hRs]; exact Nat.le_of_ble_eq_true rfl) dX11_init_102 (fun k_18 s_18 n_18 x_18 o_18 => ?_)
  replace n_18 : kn k_18 = 44 := n_18.trans (by rw [n_17])
  rw [x_18 0 (by rw [n_17]; decide)]
  rw [n_17]
  replace x_18 : ∀ i, i < 1 → ka k_0 i = ka k_18 i := fun i hi => (x_17 i hi).trans (x_18 i (by rw [n_17]; omega))
  replace s_18 : Sm k_0 k_18 := sm_tr s_17 s_18
  have A_18 : ∀ q, (ds d).heap.size ≤ q → kA k_18 q := by rw [s_18.2.2.2.2]; exact A_0
  replace o_18 : Okc k_18 (dw d 43 3418) cX11_init RX11 1 5 := o_18
  show Wz _ (dw d 43 3418) _ _ _ _
  refine z_dup o_18 dX11_init_105 rfl ?_
  refine z_callN o_18 A_18 (C_X7_init_t43 o_18.2.2.2.2.2.2.1 n_18) (by decide) (by decide) wv_RX11_67 wim_X7_init wni_RX7 wci_X7_init rfl (by decide +kernel) (Nat.le_of_ble_eq_true rfl) (by show 43 + 5 ≤ (dR d).cells; rw [hRc]; exact Nat.le_of_ble_eq_true rfl) (by show 3418 + 102 ≤ (dR d).slots; rw [hRs]; exact Nat.le_of_ble_eq_true rfl) dX11_init_106 (fun k_19 s_19 n_19 x_19 o_19 => ?_)
  replace n_19 : kn k_19 = 49 := n_19
  rw [x_19 0 (by rw [n_18]; decide)]
  rw [x_19 43 (by rw [n_18]; decide)]
  replace x_19 : ∀ i, i < 1 → ka k_0 i = ka k_19 i := fun i hi => (x_18 i hi).trans (x_19 i (by rw [n_18]; omega))
  replace s_19 : Sm k_0 k_19 := sm_tr s_18 s_19
  have A_19 : ∀ q, (ds d).heap.size ≤ q → kA k_19 q := by rw [s_19.2.2.2.2]; exact A_0
  replace o_19 : Okc k_19 (dw d 48 3520) cX11_init RX11 1 5 := o_19
  show Wz _ (dw d 48 3520) _ _ _ _
  refine z_putRF (ty := tyX11 10) (i := 0) (ci := 10) (f := 10) (C := RX11) (T := TX11) (N := 12) o_19 rfl (by rw [n_19]; decide) rfl iX11 tyX11 tyX11_ok nmX11 rfl (by decide) rfl rfl hin rfl (tyX11_ok 10 (by decide)) wf_RX11_68 rfl rfl dX11_init_109 ?_
  show Wz _ _ hs_52 _ _ _
  refine z_aload_n o_19 dX11_init_112 0 rfl rfl ?_
  refine z_iconst (v := 0) o_19 dX11_init_113 (by decide) ?_
  refine z_putI (ty := .int) (i := 0) (ci := 10) (f := 1) (C := RX11) (T := TX11) (N := 12) o_19 rfl (by rw [n_19]; decide) rfl iX11 tyX11 tyX11_ok nmX11 rfl (by decide) rfl rfl (tyX11_ok 1 (by decide)) wf_RX11_72 rfl rfl dX11_init_114 ?_
  show Wz _ _ hs_53 _ _ _
  refine z_aload_n o_19 dX11_init_117 0 rfl rfl ?_
  refine z_iconst (v := 0) o_19 dX11_init_118 (by decide) ?_
  refine z_putI (ty := .boolean) (i := 0) (ci := 10) (f := 11) (C := RX11) (T := TX11) (N := 12) o_19 rfl (by rw [n_19]; decide) rfl iX11 tyX11 tyX11_ok nmX11 rfl (by decide) rfl rfl (tyX11_ok 11 (by decide)) wf_RX11_76 rfl rfl dX11_init_119 ?_
  show Wz _ _ hs_54 _ _ _
  exact hr k_19 _ _ s_19 n_19 (fun i hi => x_19 i (by rw [n_0] at hi; exact hi)) o_19.2.2.2.2.2.2.1 dX11_init_122
theorem C_X11_init_t0 {k : Kst} (hj : Dj k) (hn : kn k = 1) : MC k 5 48 3520 yX11_init cX11_init 1 0 hs_0 hs_54 49 := mC hj (by decide +kernel) rfl (by decide) (fun d o hA hRc hRs hin hr => S_X11_init_t0 o hn hA hRc hRs hin hr)
set_option maxRecDepth 100000 in
set_option maxHeartbeats 4000000 in
theorem S_X12_init_t49 {k_0 : Kst} {d : Kdy} (o_0 : Okc k_0 (dw d 0 0) cX12_init RX12 1 3) (n_0 : kn k_0 = 50) (A_0 : ∀ q, (ds d).heap.size ≤ q → kA k_0 q) (hRc : (dR d).cells = 32) (hRs : (dR d).slots = 49557) (hin : (dM d).name = "<init>") (hr : RC k_0 d cX12_init 32 49557 hs_88 82) : Wz k_0 (dw d 0 0) hs_54 0 [(0, .ref (ka k_0 49))] [] := by
  refine z_aload_n o_0 dX12_init_0 0 rfl rfl ?_
  refine z_obj o_0 wo_RX12_1 (by decide) (Nat.le_of_ble_eq_true rfl) dX12_init_1 ?_
  refine z_aload_n o_0 dX12_init_4 0 rfl rfl ?_
  refine z_bipush (v := 47) o_0 dX12_init_5 (by decide) ?_
  refine z_newa o_0 A_0 (at_ := .int) (kn1 := 1) (N' := 47) (Or.inl ⟨rfl, rfl⟩) wa_int (by rw [n_0]; rfl) (by rw [n_0]; exact (bd_mono0 bd_hs_54 (by decide))) (by rw [n_0]; exact (fr_mono0 fr_hs_54 (by decide))) (by decide) (by decide +kernel) (by decide) (by show 0 + 1 ≤ (dR d).cells; rw [hRc]; exact Nat.le_of_ble_eq_true rfl) (by show 0 + 47 ≤ (dR d).slots; rw [hRs]; exact Nat.le_of_ble_eq_true rfl) dX12_init_7 (fun k_1 s_1 n_1 x_1 o_1 => ?_)
  replace n_1 : kn k_1 = 51 := n_1.trans (by rw [n_0])
  rw [x_1 49 (by rw [n_0]; decide)]
  rw [n_0]
  replace x_1 : ∀ i, i < 50 → ka k_0 i = ka k_1 i := fun i hi => x_1 i (by rw [n_0]; exact hi)
  replace s_1 : Sm k_0 k_1 := s_1
  have A_1 : ∀ q, (ds d).heap.size ≤ q → kA k_1 q := by rw [s_1.2.2.2.2]; exact A_0
  replace o_1 : Okc k_1 (dw d 1 47) cX12_init RX12 1 3 := o_1
  show Wz _ (dw d 1 47) _ _ _ _
  refine z_putRF (ty := tyX12 0) (i := 49) (ci := 11) (f := 0) (C := RX12) (T := TX12) (N := 51) o_1 rfl (by rw [n_1]; decide) rfl iX12 tyX12 tyX12_ok nmX12 rfl (by decide) rfl rfl hin rfl (tyX12_ok 0 (by decide)) wf_RX12_7 rfl rfl dX12_init_9 ?_
  show Wz _ _ hs_55 _ _ _
  refine z_aload_n o_1 dX12_init_12 0 rfl rfl ?_
  refine z_bipush (v := 47) o_1 dX12_init_13 (by decide) ?_
  refine z_newa o_1 A_1 (at_ := .int) (kn1 := 1) (N' := 47) (Or.inl ⟨rfl, rfl⟩) wa_int (by rw [n_1]; rfl) (by rw [n_1]; exact (bd_mono0 bd_hs_55 (by decide))) (by rw [n_1]; exact (fr_mono0 fr_hs_55 (by decide))) (by decide) (by decide +kernel) (by decide) (by show 1 + 1 ≤ (dR d).cells; rw [hRc]; exact Nat.le_of_ble_eq_true rfl) (by show 47 + 47 ≤ (dR d).slots; rw [hRs]; exact Nat.le_of_ble_eq_true rfl) dX12_init_15 (fun k_2 s_2 n_2 x_2 o_2 => ?_)
  replace n_2 : kn k_2 = 52 := n_2.trans (by rw [n_1])
  rw [x_2 49 (by rw [n_1]; decide)]
  rw [n_1]
  replace x_2 : ∀ i, i < 50 → ka k_0 i = ka k_2 i := fun i hi => (x_1 i hi).trans (x_2 i (by rw [n_1]; omega))
  replace s_2 : Sm k_0 k_2 := sm_tr s_1 s_2
  have A_2 : ∀ q, (ds d).heap.size ≤ q → kA k_2 q := by rw [s_2.2.2.2.2]; exact A_0
  replace o_2 : Okc k_2 (dw d 2 94) cX12_init RX12 1 3 := o_2
  show Wz _ (dw d 2 94) _ _ _ _
  refine z_putRF (ty := tyX12 1) (i := 49) (ci := 11) (f := 1) (C := RX12) (T := TX12) (N := 51) o_2 rfl (by rw [n_2]; decide) rfl iX12 tyX12 tyX12_ok nmX12 rfl (by decide) rfl rfl hin rfl (tyX12_ok 1 (by decide)) wf_RX12_13 rfl rfl dX12_init_17 ?_
  show Wz _ _ hs_56 _ _ _
  refine z_aload_n o_2 dX12_init_20 0 rfl rfl ?_
  refine z_bipush (v := 47) o_2 dX12_init_21 (by decide) ?_
  refine z_newa o_2 A_2 (at_ := .int) (kn1 := 1) (N' := 47) (Or.inl ⟨rfl, rfl⟩) wa_int (by rw [n_2]; rfl) (by rw [n_2]; exact (bd_mono0 bd_hs_56 (by decide))) (by rw [n_2]; exact (fr_mono0 fr_hs_56 (by decide))) (by decide) (by decide +kernel) (by decide) (by show 2 + 1 ≤ (dR d).cells; rw [hRc]; exact Nat.le_of_ble_eq_true rfl) (by show 94 + 47 ≤ (dR d).slots; rw [hRs]; exact Nat.le_of_ble_eq_true rfl) dX12_init_23 (fun k_3 s_3 n_3 x_3 o_3 => ?_)
  replace n_3 : kn k_3 = 53 := n_3.trans (by rw [n_2])
  rw [x_3 49 (by rw [n_2]; decide)]
  rw [n_2]
  replace x_3 : ∀ i, i < 50 → ka k_0 i = ka k_3 i := fun i hi => (x_2 i hi).trans (x_3 i (by rw [n_2]; omega))
  replace s_3 : Sm k_0 k_3 := sm_tr s_2 s_3
  have A_3 : ∀ q, (ds d).heap.size ≤ q → kA k_3 q := by rw [s_3.2.2.2.2]; exact A_0
  replace o_3 : Okc k_3 (dw d 3 141) cX12_init RX12 1 3 := o_3
  show Wz _ (dw d 3 141) _ _ _ _
  refine z_putRF (ty := tyX12 2) (i := 49) (ci := 11) (f := 2) (C := RX12) (T := TX12) (N := 51) o_3 rfl (by rw [n_3]; decide) rfl iX12 tyX12 tyX12_ok nmX12 rfl (by decide) rfl rfl hin rfl (tyX12_ok 2 (by decide)) wf_RX12_16 rfl rfl dX12_init_25 ?_
  show Wz _ _ hs_57 _ _ _
  refine z_aload_n o_3 dX12_init_28 0 rfl rfl ?_
  refine z_iconst (v := 2) o_3 dX12_init_29 (by decide) ?_
  refine z_newa o_3 A_3 (at_ := .int) (kn1 := 1) (N' := 2) (Or.inl ⟨rfl, rfl⟩) wa_int (by rw [n_3]; rfl) (by rw [n_3]; exact (bd_mono0 bd_hs_57 (by decide))) (by rw [n_3]; exact (fr_mono0 fr_hs_57 (by decide))) (by decide) (by decide +kernel) (by decide) (by show 3 + 1 ≤ (dR d).cells; rw [hRc]; exact Nat.le_of_ble_eq_true rfl) (by show 141 + 2 ≤ (dR d).slots; rw [hRs]; exact Nat.le_of_ble_eq_true rfl) dX12_init_30 (fun k_4 s_4 n_4 x_4 o_4 => ?_)
  replace n_4 : kn k_4 = 54 := n_4.trans (by rw [n_3])
  rw [x_4 49 (by rw [n_3]; decide)]
  rw [n_3]
  replace x_4 : ∀ i, i < 50 → ka k_0 i = ka k_4 i := fun i hi => (x_3 i hi).trans (x_4 i (by rw [n_3]; omega))
  replace s_4 : Sm k_0 k_4 := sm_tr s_3 s_4
  have A_4 : ∀ q, (ds d).heap.size ≤ q → kA k_4 q := by rw [s_4.2.2.2.2]; exact A_0
  replace o_4 : Okc k_4 (dw d 4 143) cX12_init RX12 1 3 := o_4
  show Wz _ (dw d 4 143) _ _ _ _
  refine z_putRF (ty := tyX12 3) (i := 49) (ci := 11) (f := 3) (C := RX12) (T := TX12) (N := 51) o_4 rfl (by rw [n_4]; decide) rfl iX12 tyX12 tyX12_ok nmX12 rfl (by decide) rfl rfl hin rfl (tyX12_ok 3 (by decide)) wf_RX12_19 rfl rfl dX12_init_32 ?_
  show Wz _ _ hs_58 _ _ _
  refine z_aload_n o_4 dX12_init_35 0 rfl rfl ?_
  refine z_bipush (v := 40) o_4 dX12_init_36 (by decide) ?_
  refine z_newa o_4 A_4 (at_ := .int) (kn1 := 1) (N' := 40) (Or.inl ⟨rfl, rfl⟩) wa_int (by rw [n_4]; rfl) (by rw [n_4]; exact (bd_mono0 bd_hs_58 (by decide))) (by rw [n_4]; exact (fr_mono0 fr_hs_58 (by decide))) (by decide) (by decide +kernel) (by decide) (by show 4 + 1 ≤ (dR d).cells; rw [hRc]; exact Nat.le_of_ble_eq_true rfl) (by show 143 + 40 ≤ (dR d).slots; rw [hRs]; exact Nat.le_of_ble_eq_true rfl) dX12_init_38 (fun k_5 s_5 n_5 x_5 o_5 => ?_)
  replace n_5 : kn k_5 = 55 := n_5.trans (by rw [n_4])
  rw [x_5 49 (by rw [n_4]; decide)]
  rw [n_4]
  replace x_5 : ∀ i, i < 50 → ka k_0 i = ka k_5 i := fun i hi => (x_4 i hi).trans (x_5 i (by rw [n_4]; omega))
  replace s_5 : Sm k_0 k_5 := sm_tr s_4 s_5
  have A_5 : ∀ q, (ds d).heap.size ≤ q → kA k_5 q := by rw [s_5.2.2.2.2]; exact A_0
  replace o_5 : Okc k_5 (dw d 5 183) cX12_init RX12 1 3 := o_5
  show Wz _ (dw d 5 183) _ _ _ _
  refine z_putRF (ty := tyX12 4) (i := 49) (ci := 11) (f := 4) (C := RX12) (T := TX12) (N := 51) o_5 rfl (by rw [n_5]; decide) rfl iX12 tyX12 tyX12_ok nmX12 rfl (by decide) rfl rfl hin rfl (tyX12_ok 4 (by decide)) wf_RX12_22 rfl rfl dX12_init_40 ?_
  show Wz _ _ hs_59 _ _ _
  refine z_aload_n o_5 dX12_init_43 0 rfl rfl ?_
  refine z_sipush (v := 260) o_5 dX12_init_44 (by decide) ?_
  refine z_newa o_5 A_5 (at_ := .byte) (kn1 := 2) (N' := 260) (Or.inr ⟨rfl, rfl⟩) wa_byte (by rw [n_5]; rfl) (by rw [n_5]; exact (bd_mono0 bd_hs_59 (by decide))) (by rw [n_5]; exact (fr_mono0 fr_hs_59 (by decide))) (by decide) (by decide +kernel) (by decide) (by show 5 + 1 ≤ (dR d).cells; rw [hRc]; exact Nat.le_of_ble_eq_true rfl) (by show 183 + 260 ≤ (dR d).slots; rw [hRs]; exact Nat.le_of_ble_eq_true rfl) dX12_init_47 (fun k_6 s_6 n_6 x_6 o_6 => ?_)
  replace n_6 : kn k_6 = 56 := n_6.trans (by rw [n_5])
  rw [x_6 49 (by rw [n_5]; decide)]
  rw [n_5]
  replace x_6 : ∀ i, i < 50 → ka k_0 i = ka k_6 i := fun i hi => (x_5 i hi).trans (x_6 i (by rw [n_5]; omega))
  replace s_6 : Sm k_0 k_6 := sm_tr s_5 s_6
  have A_6 : ∀ q, (ds d).heap.size ≤ q → kA k_6 q := by rw [s_6.2.2.2.2]; exact A_0
  replace o_6 : Okc k_6 (dw d 6 443) cX12_init RX12 1 3 := o_6
  show Wz _ (dw d 6 443) _ _ _ _
  refine z_putRF (ty := tyX12 6) (i := 49) (ci := 11) (f := 6) (C := RX12) (T := TX12) (N := 51) o_6 rfl (by rw [n_6]; decide) rfl iX12 tyX12 tyX12_ok nmX12 rfl (by decide) rfl rfl hin rfl (tyX12_ok 6 (by decide)) wf_RX12_25 rfl rfl dX12_init_49 ?_
  show Wz _ _ hs_60 _ _ _
  refine z_aload_n o_6 dX12_init_52 0 rfl rfl ?_
  refine z_sipush (v := 260) o_6 dX12_init_53 (by decide) ?_
  refine z_newa o_6 A_6 (at_ := .int) (kn1 := 1) (N' := 260) (Or.inl ⟨rfl, rfl⟩) wa_int (by rw [n_6]; rfl) (by rw [n_6]; exact (bd_mono0 bd_hs_60 (by decide))) (by rw [n_6]; exact (fr_mono0 fr_hs_60 (by decide))) (by decide) (by decide +kernel) (by decide) (by show 6 + 1 ≤ (dR d).cells; rw [hRc]; exact Nat.le_of_ble_eq_true rfl) (by show 443 + 260 ≤ (dR d).slots; rw [hRs]; exact Nat.le_of_ble_eq_true rfl) dX12_init_56 (fun k_7 s_7 n_7 x_7 o_7 => ?_)
  replace n_7 : kn k_7 = 57 := n_7.trans (by rw [n_6])
  rw [x_7 49 (by rw [n_6]; decide)]
  rw [n_6]
  replace x_7 : ∀ i, i < 50 → ka k_0 i = ka k_7 i := fun i hi => (x_6 i hi).trans (x_7 i (by rw [n_6]; omega))
  replace s_7 : Sm k_0 k_7 := sm_tr s_6 s_7
  have A_7 : ∀ q, (ds d).heap.size ≤ q → kA k_7 q := by rw [s_7.2.2.2.2]; exact A_0
  replace o_7 : Okc k_7 (dw d 7 703) cX12_init RX12 1 3 := o_7
  show Wz _ (dw d 7 703) _ _ _ _
  refine z_putRF (ty := tyX12 17) (i := 49) (ci := 11) (f := 17) (C := RX12) (T := TX12) (N := 51) o_7 rfl (by rw [n_7]; decide) rfl iX12 tyX12 tyX12_ok nmX12 rfl (by decide) rfl rfl hin rfl (tyX12_ok 17 (by decide)) wf_RX12_29 rfl rfl dX12_init_58 ?_
  show Wz _ _ hs_61 _ _ _
  refine z_aload_n o_7 dX12_init_61 0 rfl rfl ?_
  refine z_sipush (v := 260) o_7 dX12_init_62 (by decide) ?_
  refine z_newa o_7 A_7 (at_ := .int) (kn1 := 1) (N' := 260) (Or.inl ⟨rfl, rfl⟩) wa_int (by rw [n_7]; rfl) (by rw [n_7]; exact (bd_mono0 bd_hs_61 (by decide))) (by rw [n_7]; exact (fr_mono0 fr_hs_61 (by decide))) (by decide) (by decide +kernel) (by decide) (by show 7 + 1 ≤ (dR d).cells; rw [hRc]; exact Nat.le_of_ble_eq_true rfl) (by show 703 + 260 ≤ (dR d).slots; rw [hRs]; exact Nat.le_of_ble_eq_true rfl) dX12_init_65 (fun k_8 s_8 n_8 x_8 o_8 => ?_)
  replace n_8 : kn k_8 = 58 := n_8.trans (by rw [n_7])
  rw [x_8 49 (by rw [n_7]; decide)]
  rw [n_7]
  replace x_8 : ∀ i, i < 50 → ka k_0 i = ka k_8 i := fun i hi => (x_7 i hi).trans (x_8 i (by rw [n_7]; omega))
  replace s_8 : Sm k_0 k_8 := sm_tr s_7 s_8
  have A_8 : ∀ q, (ds d).heap.size ≤ q → kA k_8 q := by rw [s_8.2.2.2.2]; exact A_0
  replace o_8 : Okc k_8 (dw d 8 963) cX12_init RX12 1 3 := o_8
  show Wz _ (dw d 8 963) _ _ _ _
  refine z_putRF (ty := tyX12 18) (i := 49) (ci := 11) (f := 18) (C := RX12) (T := TX12) (N := 51) o_8 rfl (by rw [n_8]; decide) rfl iX12 tyX12 tyX12_ok nmX12 rfl (by decide) rfl rfl hin rfl (tyX12_ok 18 (by decide)) wf_RX12_32 rfl rfl dX12_init_67 ?_
  show Wz _ _ hs_62 _ _ _
  refine z_aload_n o_8 dX12_init_70 0 rfl rfl ?_
  refine z_bipush (v := 16) o_8 dX12_init_71 (by decide) ?_
  refine z_newa o_8 A_8 (at_ := .int) (kn1 := 1) (N' := 16) (Or.inl ⟨rfl, rfl⟩) wa_int (by rw [n_8]; rfl) (by rw [n_8]; exact (bd_mono0 bd_hs_62 (by decide))) (by rw [n_8]; exact (fr_mono0 fr_hs_62 (by decide))) (by decide) (by decide +kernel) (by decide) (by show 8 + 1 ≤ (dR d).cells; rw [hRc]; exact Nat.le_of_ble_eq_true rfl) (by show 963 + 16 ≤ (dR d).slots; rw [hRs]; exact Nat.le_of_ble_eq_true rfl) dX12_init_73 (fun k_9 s_9 n_9 x_9 o_9 => ?_)
  replace n_9 : kn k_9 = 59 := n_9.trans (by rw [n_8])
  rw [x_9 49 (by rw [n_8]; decide)]
  rw [n_8]
  replace x_9 : ∀ i, i < 50 → ka k_0 i = ka k_9 i := fun i hi => (x_8 i hi).trans (x_9 i (by rw [n_8]; omega))
  replace s_9 : Sm k_0 k_9 := sm_tr s_8 s_9
  have A_9 : ∀ q, (ds d).heap.size ≤ q → kA k_9 q := by rw [s_9.2.2.2.2]; exact A_0
  replace o_9 : Okc k_9 (dw d 9 979) cX12_init RX12 1 3 := o_9
  show Wz _ (dw d 9 979) _ _ _ _
  refine z_putRF (ty := tyX12 19) (i := 49) (ci := 11) (f := 19) (C := RX12) (T := TX12) (N := 51) o_9 rfl (by rw [n_9]; decide) rfl iX12 tyX12 tyX12_ok nmX12 rfl (by decide) rfl rfl hin rfl (tyX12_ok 19 (by decide)) wf_RX12_35 rfl rfl dX12_init_75 ?_
  show Wz _ _ hs_63 _ _ _
  refine z_aload_n o_9 dX12_init_78 0 rfl rfl ?_
  refine z_bipush (v := 16) o_9 dX12_init_79 (by decide) ?_
  refine z_newa o_9 A_9 (at_ := .int) (kn1 := 1) (N' := 16) (Or.inl ⟨rfl, rfl⟩) wa_int (by rw [n_9]; rfl) (by rw [n_9]; exact (bd_mono0 bd_hs_63 (by decide))) (by rw [n_9]; exact (fr_mono0 fr_hs_63 (by decide))) (by decide) (by decide +kernel) (by decide) (by show 9 + 1 ≤ (dR d).cells; rw [hRc]; exact Nat.le_of_ble_eq_true rfl) (by show 979 + 16 ≤ (dR d).slots; rw [hRs]; exact Nat.le_of_ble_eq_true rfl) dX12_init_81 (fun k_10 s_10 n_10 x_10 o_10 => ?_)
  replace n_10 : kn k_10 = 60 := n_10.trans (by rw [n_9])
  rw [x_10 49 (by rw [n_9]; decide)]
  rw [n_9]
  replace x_10 : ∀ i, i < 50 → ka k_0 i = ka k_10 i := fun i hi => (x_9 i hi).trans (x_10 i (by rw [n_9]; omega))
  replace s_10 : Sm k_0 k_10 := sm_tr s_9 s_10
  have A_10 : ∀ q, (ds d).heap.size ≤ q → kA k_10 q := by rw [s_10.2.2.2.2]; exact A_0
  replace o_10 : Okc k_10 (dw d 10 995) cX12_init RX12 1 3 := o_10
  show Wz _ (dw d 10 995) _ _ _ _
  refine z_putRF (ty := tyX12 20) (i := 49) (ci := 11) (f := 20) (C := RX12) (T := TX12) (N := 51) o_10 rfl (by rw [n_10]; decide) rfl iX12 tyX12 tyX12_ok nmX12 rfl (by decide) rfl rfl hin rfl (tyX12_ok 20 (by decide)) wf_RX12_38 rfl rfl dX12_init_83 ?_
  show Wz _ _ hs_64 _ _ _
  refine z_aload_n o_10 dX12_init_86 0 rfl rfl ?_
  refine z_bipush (v := 16) o_10 dX12_init_87 (by decide) ?_
  refine z_newa o_10 A_10 (at_ := .int) (kn1 := 1) (N' := 16) (Or.inl ⟨rfl, rfl⟩) wa_int (by rw [n_10]; rfl) (by rw [n_10]; exact (bd_mono0 bd_hs_64 (by decide))) (by rw [n_10]; exact (fr_mono0 fr_hs_64 (by decide))) (by decide) (by decide +kernel) (by decide) (by show 10 + 1 ≤ (dR d).cells; rw [hRc]; exact Nat.le_of_ble_eq_true rfl) (by show 995 + 16 ≤ (dR d).slots; rw [hRs]; exact Nat.le_of_ble_eq_true rfl) dX12_init_89 (fun k_11 s_11 n_11 x_11 o_11 => ?_)
  replace n_11 : kn k_11 = 61 := n_11.trans (by rw [n_10])
  rw [x_11 49 (by rw [n_10]; decide)]
  rw [n_10]
  replace x_11 : ∀ i, i < 50 → ka k_0 i = ka k_11 i := fun i hi => (x_10 i hi).trans (x_11 i (by rw [n_10]; omega))
  replace s_11 : Sm k_0 k_11 := sm_tr s_10 s_11
  have A_11 : ∀ q, (ds d).heap.size ≤ q → kA k_11 q := by rw [s_11.2.2.2.2]; exact A_0
  replace o_11 : Okc k_11 (dw d 11 1011) cX12_init RX12 1 3 := o_11
  show Wz _ (dw d 11 1011) _ _ _ _
  refine z_putRF (ty := tyX12 21) (i := 49) (ci := 11) (f := 21) (C := RX12) (T := TX12) (N := 51) o_11 rfl (by rw [n_11]; decide) rfl iX12 tyX12 tyX12_ok nmX12 rfl (by decide) rfl rfl hin rfl (tyX12_ok 21 (by decide)) wf_RX12_41 rfl rfl dX12_init_91 ?_
  show Wz _ _ hs_65 _ _ _
  refine z_aload_n o_11 dX12_init_94 0 rfl rfl ?_
  refine z_bipush (v := 16) o_11 dX12_init_95 (by decide) ?_
  refine z_newa o_11 A_11 (at_ := .int) (kn1 := 1) (N' := 16) (Or.inl ⟨rfl, rfl⟩) wa_int (by rw [n_11]; rfl) (by rw [n_11]; exact (bd_mono0 bd_hs_65 (by decide))) (by rw [n_11]; exact (fr_mono0 fr_hs_65 (by decide))) (by decide) (by decide +kernel) (by decide) (by show 11 + 1 ≤ (dR d).cells; rw [hRc]; exact Nat.le_of_ble_eq_true rfl) (by show 1011 + 16 ≤ (dR d).slots; rw [hRs]; exact Nat.le_of_ble_eq_true rfl) dX12_init_97 (fun k_12 s_12 n_12 x_12 o_12 => ?_)
  replace n_12 : kn k_12 = 62 := n_12.trans (by rw [n_11])
  rw [x_12 49 (by rw [n_11]; decide)]
  rw [n_11]
  replace x_12 : ∀ i, i < 50 → ka k_0 i = ka k_12 i := fun i hi => (x_11 i hi).trans (x_12 i (by rw [n_11]; omega))
  replace s_12 : Sm k_0 k_12 := sm_tr s_11 s_12
  have A_12 : ∀ q, (ds d).heap.size ≤ q → kA k_12 q := by rw [s_12.2.2.2.2]; exact A_0
  replace o_12 : Okc k_12 (dw d 12 1027) cX12_init RX12 1 3 := o_12
  show Wz _ (dw d 12 1027) _ _ _ _
  refine z_putRF (ty := tyX12 22) (i := 49) (ci := 11) (f := 22) (C := RX12) (T := TX12) (N := 51) o_12 rfl (by rw [n_12]; decide) rfl iX12 tyX12 tyX12_ok nmX12 rfl (by decide) rfl rfl hin rfl (tyX12_ok 22 (by decide)) wf_RX12_44 rfl rfl dX12_init_99 ?_
  show Wz _ _ hs_66 _ _ _
  refine z_aload_n o_12 dX12_init_102 0 rfl rfl ?_
  refine z_sipush (v := 260) o_12 dX12_init_103 (by decide) ?_
  refine z_newa o_12 A_12 (at_ := .int) (kn1 := 1) (N' := 260) (Or.inl ⟨rfl, rfl⟩) wa_int (by rw [n_12]; rfl) (by rw [n_12]; exact (bd_mono0 bd_hs_66 (by decide))) (by rw [n_12]; exact (fr_mono0 fr_hs_66 (by decide))) (by decide) (by decide +kernel) (by decide) (by show 12 + 1 ≤ (dR d).cells; rw [hRc]; exact Nat.le_of_ble_eq_true rfl) (by show 1027 + 260 ≤ (dR d).slots; rw [hRs]; exact Nat.le_of_ble_eq_true rfl) dX12_init_106 (fun k_13 s_13 n_13 x_13 o_13 => ?_)
  replace n_13 : kn k_13 = 63 := n_13.trans (by rw [n_12])
  rw [x_13 49 (by rw [n_12]; decide)]
  rw [n_12]
  replace x_13 : ∀ i, i < 50 → ka k_0 i = ka k_13 i := fun i hi => (x_12 i hi).trans (x_13 i (by rw [n_12]; omega))
  replace s_13 : Sm k_0 k_13 := sm_tr s_12 s_13
  have A_13 : ∀ q, (ds d).heap.size ≤ q → kA k_13 q := by rw [s_13.2.2.2.2]; exact A_0
  replace o_13 : Okc k_13 (dw d 13 1287) cX12_init RX12 1 3 := o_13
  show Wz _ (dw d 13 1287) _ _ _ _
  refine z_putRF (ty := tyX12 23) (i := 49) (ci := 11) (f := 23) (C := RX12) (T := TX12) (N := 51) o_13 rfl (by rw [n_13]; decide) rfl iX12 tyX12 tyX12_ok nmX12 rfl (by decide) rfl rfl hin rfl (tyX12_ok 23 (by decide)) wf_RX12_47 rfl rfl dX12_init_108 ?_
  show Wz _ _ hs_67 _ _ _
  refine z_aload_n o_13 dX12_init_111 0 rfl rfl ?_
  refine z_bipush (v := 16) o_13 dX12_init_112 (by decide) ?_
  refine z_newa o_13 A_13 (at_ := .int) (kn1 := 1) (N' := 16) (Or.inl ⟨rfl, rfl⟩) wa_int (by rw [n_13]; rfl) (by rw [n_13]; exact (bd_mono0 bd_hs_67 (by decide))) (by rw [n_13]; exact (fr_mono0 fr_hs_67 (by decide))) (by decide) (by decide +kernel) (by decide) (by show 13 + 1 ≤ (dR d).cells; rw [hRc]; exact Nat.le_of_ble_eq_true rfl) (by show 1287 + 16 ≤ (dR d).slots; rw [hRs]; exact Nat.le_of_ble_eq_true rfl) dX12_init_114 (fun k_14 s_14 n_14 x_14 o_14 => ?_)
  replace n_14 : kn k_14 = 64 := n_14.trans (by rw [n_13])
  rw [x_14 49 (by rw [n_13]; decide)]
  rw [n_13]
  replace x_14 : ∀ i, i < 50 → ka k_0 i = ka k_14 i := fun i hi => (x_13 i hi).trans (x_14 i (by rw [n_13]; omega))
  replace s_14 : Sm k_0 k_14 := sm_tr s_13 s_14
  have A_14 : ∀ q, (ds d).heap.size ≤ q → kA k_14 q := by rw [s_14.2.2.2.2]; exact A_0
  replace o_14 : Okc k_14 (dw d 14 1303) cX12_init RX12 1 3 := o_14
  show Wz _ (dw d 14 1303) _ _ _ _
  refine z_putRF (ty := tyX12 24) (i := 49) (ci := 11) (f := 24) (C := RX12) (T := TX12) (N := 51) o_14 rfl (by rw [n_14]; decide) rfl iX12 tyX12 tyX12_ok nmX12 rfl (by decide) rfl rfl hin rfl (tyX12_ok 24 (by decide)) wf_RX12_50 rfl rfl dX12_init_116 ?_
  show Wz _ _ hs_68 _ _ _
  refine z_aload_n o_14 dX12_init_119 0 rfl rfl ?_
  refine z_bipush (v := 16) o_14 dX12_init_120 (by decide) ?_
  refine z_newa o_14 A_14 (at_ := .int) (kn1 := 1) (N' := 16) (Or.inl ⟨rfl, rfl⟩) wa_int (by rw [n_14]; rfl) (by rw [n_14]; exact (bd_mono0 bd_hs_68 (by decide))) (by rw [n_14]; exact (fr_mono0 fr_hs_68 (by decide))) (by decide) (by decide +kernel) (by decide) (by show 14 + 1 ≤ (dR d).cells; rw [hRc]; exact Nat.le_of_ble_eq_true rfl) (by show 1303 + 16 ≤ (dR d).slots; rw [hRs]; exact Nat.le_of_ble_eq_true rfl) dX12_init_122 (fun k_15 s_15 n_15 x_15 o_15 => ?_)
  replace n_15 : kn k_15 = 65 := n_15.trans (by rw [n_14])
  rw [x_15 49 (by rw [n_14]; decide)]
  rw [n_14]
  replace x_15 : ∀ i, i < 50 → ka k_0 i = ka k_15 i := fun i hi => (x_14 i hi).trans (x_15 i (by rw [n_14]; omega))
  replace s_15 : Sm k_0 k_15 := sm_tr s_14 s_15
  have A_15 : ∀ q, (ds d).heap.size ≤ q → kA k_15 q := by rw [s_15.2.2.2.2]; exact A_0
  replace o_15 : Okc k_15 (dw d 15 1319) cX12_init RX12 1 3 := o_15
  show Wz _ (dw d 15 1319) _ _ _ _
  refine z_putRF (ty := tyX12 25) (i := 49) (ci := 11) (f := 25) (C := RX12) (T := TX12) (N := 51) o_15 rfl (by rw [n_15]; decide) rfl iX12 tyX12 tyX12_ok nmX12 rfl (by decide) rfl rfl hin rfl (tyX12_ok 25 (by decide)) wf_RX12_53 rfl rfl dX12_init_124 ?_
  show Wz _ _ hs_69 _ _ _
  refine z_aload_n o_15 dX12_init_127 0 rfl rfl ?_
  refine z_bipush (v := 16) o_15 dX12_init_128 (by decide) ?_
  refine z_newa o_15 A_15 (at_ := .int) (kn1 := 1) (N' := 16) (Or.inl ⟨rfl, rfl⟩) wa_int (by rw [n_15]; rfl) (by rw [n_15]; exact (bd_mono0 bd_hs_69 (by decide))) (by rw [n_15]; exact (fr_mono0 fr_hs_69 (by decide))) (by decide) (by decide +kernel) (by decide) (by show 15 + 1 ≤ (dR d).cells; rw [hRc]; exact Nat.le_of_ble_eq_true rfl) (by show 1319 + 16 ≤ (dR d).slots; rw [hRs]; exact Nat.le_of_ble_eq_true rfl) dX12_init_130 (fun k_16 s_16 n_16 x_16 o_16 => ?_)
  replace n_16 : kn k_16 = 66 := n_16.trans (by rw [n_15])
  rw [x_16 49 (by rw [n_15]; decide)]
  rw [n_15]
  replace x_16 : ∀ i, i < 50 → ka k_0 i = ka k_16 i := fun i hi => (x_15 i hi).trans (x_16 i (by rw [n_15]; omega))
  replace s_16 : Sm k_0 k_16 := sm_tr s_15 s_16
  have A_16 : ∀ q, (ds d).heap.size ≤ q → kA k_16 q := by rw [s_16.2.2.2.2]; exact A_0
  replace o_16 : Okc k_16 (dw d 16 1335) cX12_init RX12 1 3 := o_16
  show Wz _ (dw d 16 1335) _ _ _ _
  refine z_putRF (ty := tyX12 26) (i := 49) (ci := 11) (f := 26) (C := RX12) (T := TX12) (N := 51) o_16 rfl (by rw [n_16]; decide) rfl iX12 tyX12 tyX12_ok nmX12 rfl (by decide) rfl rfl hin rfl (tyX12_ok 26 (by decide)) wf_RX12_56 rfl rfl dX12_init_132 ?_
  show Wz _ _ hs_70 _ _ _
  refine z_aload_n o_16 dX12_init_135 0 rfl rfl ?_
  refine z_bipush (v := 16) o_16 dX12_init_136 (by decide) ?_
  refine z_newa o_16 A_16 (at_ := .int) (kn1 := 1) (N' := 16) (Or.inl ⟨rfl, rfl⟩) wa_int (by rw [n_16]; rfl) (by rw [n_16]; exact (bd_mono0 bd_hs_70 (by decide))) (by rw [n_16]; exact (fr_mono0 fr_hs_70 (by decide))) (by decide) (by decide +kernel) (by decide) (by show 16 + 1 ≤ (dR d).cells; rw [hRc]; exact Nat.le_of_ble_eq_true rfl) (by show 1335 + 16 ≤ (dR d).slots; rw [hRs]; exact Nat.le_of_ble_eq_true rfl) dX12_init_138 (fun k_17 s_17 n_17 x_17 o_17 => ?_)
  replace n_17 : kn k_17 = 67 := n_17.trans (by rw [n_16])
  rw [x_17 49 (by rw [n_16]; decide)]
  rw [n_16]
  replace x_17 : ∀ i, i < 50 → ka k_0 i = ka k_17 i := fun i hi => (x_16 i hi).trans (x_17 i (by rw [n_16]; omega))
  replace s_17 : Sm k_0 k_17 := sm_tr s_16 s_17
  have A_17 : ∀ q, (ds d).heap.size ≤ q → kA k_17 q := by rw [s_17.2.2.2.2]; exact A_0
  replace o_17 : Okc k_17 (dw d 17 1351) cX12_init RX12 1 3 := o_17
  show Wz _ (dw d 17 1351) _ _ _ _
  refine z_putRF (ty := tyX12 27) (i := 49) (ci := 11) (f := 27) (C := RX12) (T := TX12) (N := 51) o_17 rfl (by rw [n_17]; decide) rfl iX12 tyX12 tyX12_ok nmX12 rfl (by decide) rfl rfl hin rfl (tyX12_ok 27 (by decide)) wf_RX12_59 rfl rfl dX12_init_140 ?_
  show Wz _ _ hs_71 _ _ _
  refine z_aload_n o_17 dX12_init_143 0 rfl rfl ?_
  refine z_sipush (v := 260) o_17 dX12_init_144 (by decide) ?_
  refine z_newa o_17 A_17 (at_ := .int) (kn1 := 1) (N' := 260) (Or.inl ⟨rfl, rfl⟩) wa_int (by rw [n_17]; rfl) (by rw [n_17]; exact (bd_mono0 bd_hs_71 (by decide))) (by rw [n_17]; exact (fr_mono0 fr_hs_71 (by decide))) (by decide) (by decide +kernel) (by decide) (by show 17 + 1 ≤ (dR d).cells; rw [hRc]; exact Nat.le_of_ble_eq_true rfl) (by show 1351 + 260 ≤ (dR d).slots; rw [hRs]; exact Nat.le_of_ble_eq_true rfl) dX12_init_147 (fun k_18 s_18 n_18 x_18 o_18 => ?_)
  replace n_18 : kn k_18 = 68 := n_18.trans (by rw [n_17])
  rw [x_18 49 (by rw [n_17]; decide)]
  rw [n_17]
  replace x_18 : ∀ i, i < 50 → ka k_0 i = ka k_18 i := fun i hi => (x_17 i hi).trans (x_18 i (by rw [n_17]; omega))
  replace s_18 : Sm k_0 k_18 := sm_tr s_17 s_18
  have A_18 : ∀ q, (ds d).heap.size ≤ q → kA k_18 q := by rw [s_18.2.2.2.2]; exact A_0
  replace o_18 : Okc k_18 (dw d 18 1611) cX12_init RX12 1 3 := o_18
  show Wz _ (dw d 18 1611) _ _ _ _
  refine z_putRF (ty := tyX12 28) (i := 49) (ci := 11) (f := 28) (C := RX12) (T := TX12) (N := 51) o_18 rfl (by rw [n_18]; decide) rfl iX12 tyX12 tyX12_ok nmX12 rfl (by decide) rfl rfl hin rfl (tyX12_ok 28 (by decide)) wf_RX12_62 rfl rfl dX12_init_149 ?_
  show Wz _ _ hs_72 _ _ _
  refine z_aload_n o_18 dX12_init_152 0 rfl rfl ?_
  refine z_bipush (v := 9) o_18 dX12_init_153 (by decide) ?_
  refine z_newa o_18 A_18 (at_ := .int) (kn1 := 1) (N' := 9) (Or.inl ⟨rfl, rfl⟩) wa_int (by rw [n_18]; rfl) (by rw [n_18]; exact (bd_mono0 bd_hs_72 (by decide))) (by rw [n_18]; exact (fr_mono0 fr_hs_72 (by decide))) (by decide) (by decide +kernel) (by decide) (by show 18 + 1 ≤ (dR d).cells; rw [hRc]; exact Nat.le_of_ble_eq_true rfl) (by show 1611 + 9 ≤ (dR d).slots; rw [hRs]; exact Nat.le_of_ble_eq_true rfl) dX12_init_155 (fun k_19 s_19 n_19 x_19 o_19 => ?_)
  replace n_19 : kn k_19 = 69 := n_19.trans (by rw [n_18])
  rw [x_19 49 (by rw [n_18]; decide)]
  rw [n_18]
  replace x_19 : ∀ i, i < 50 → ka k_0 i = ka k_19 i := fun i hi => (x_18 i hi).trans (x_19 i (by rw [n_18]; omega))
  replace s_19 : Sm k_0 k_19 := sm_tr s_18 s_19
  have A_19 : ∀ q, (ds d).heap.size ≤ q → kA k_19 q := by rw [s_19.2.2.2.2]; exact A_0
  replace o_19 : Okc k_19 (dw d 19 1620) cX12_init RX12 1 3 := o_19
  show Wz _ (dw d 19 1620) _ _ _ _
  refine z_putRF (ty := tyX12 29) (i := 49) (ci := 11) (f := 29) (C := RX12) (T := TX12) (N := 51) o_19 rfl (by rw [n_19]; decide) rfl iX12 tyX12 tyX12_ok nmX12 rfl (by decide) rfl rfl hin rfl (tyX12_ok 29 (by decide)) wf_RX12_65 rfl rfl dX12_init_157 ?_
  show Wz _ _ hs_73 _ _ _
  refine z_aload_n o_19 dX12_init_160 0 rfl rfl ?_
  refine z_bipush (v := 20) o_19 dX12_init_161 (by decide) ?_
  refine z_newa o_19 A_19 (at_ := .int) (kn1 := 1) (N' := 20) (Or.inl ⟨rfl, rfl⟩) wa_int (by rw [n_19]; rfl) (by rw [n_19]; exact (bd_mono0 bd_hs_73 (by decide))) (by rw [n_19]; exact (fr_mono0 fr_hs_73 (by decide))) (by decide) (by decide +kernel) (by decide) (by show 19 + 1 ≤ (dR d).cells; rw [hRc]; exact Nat.le_of_ble_eq_true rfl) (by show 1620 + 20 ≤ (dR d).slots; rw [hRs]; exact Nat.le_of_ble_eq_true rfl) dX12_init_163 (fun k_20 s_20 n_20 x_20 o_20 => ?_)
  replace n_20 : kn k_20 = 70 := n_20.trans (by rw [n_19])
  rw [x_20 49 (by rw [n_19]; decide)]
  rw [n_19]
  replace x_20 : ∀ i, i < 50 → ka k_0 i = ka k_20 i := fun i hi => (x_19 i hi).trans (x_20 i (by rw [n_19]; omega))
  replace s_20 : Sm k_0 k_20 := sm_tr s_19 s_20
  have A_20 : ∀ q, (ds d).heap.size ≤ q → kA k_20 q := by rw [s_20.2.2.2.2]; exact A_0
  replace o_20 : Okc k_20 (dw d 20 1640) cX12_init RX12 1 3 := o_20
  show Wz _ (dw d 20 1640) _ _ _ _
  refine z_putRF (ty := tyX12 30) (i := 49) (ci := 11) (f := 30) (C := RX12) (T := TX12) (N := 51) o_20 rfl (by rw [n_20]; decide) rfl iX12 tyX12 tyX12_ok nmX12 rfl (by decide) rfl rfl hin rfl (tyX12_ok 30 (by decide)) wf_RX12_68 rfl rfl dX12_init_165 ?_
  show Wz _ _ hs_74 _ _ _
  refine z_aload_n o_20 dX12_init_168 0 rfl rfl ?_
  refine z_iconst (v := 2) o_20 dX12_init_169 (by decide) ?_
  refine z_newa o_20 A_20 (at_ := .int) (kn1 := 1) (N' := 2) (Or.inl ⟨rfl, rfl⟩) wa_int (by rw [n_20]; rfl) (by rw [n_20]; exact (bd_mono0 bd_hs_74 (by decide))) (by rw [n_20]; exact (fr_mono0 fr_hs_74 (by decide))) (by decide) (by decide +kernel) (by decide) (by show 20 + 1 ≤ (dR d).cells; rw [hRc]; exact Nat.le_of_ble_eq_true rfl) (by show 1640 + 2 ≤ (dR d).slots; rw [hRs]; exact Nat.le_of_ble_eq_true rfl) dX12_init_170 (fun k_21 s_21 n_21 x_21 o_21 => ?_)
  replace n_21 : kn k_21 = 71 := n_21.trans (by rw [n_20])
  rw [x_21 49 (by rw [n_20]; decide)]
  rw [n_20]
  replace x_21 : ∀ i, i < 50 → ka k_0 i = ka k_21 i := fun i hi => (x_20 i hi).trans (x_21 i (by rw [n_20]; omega))
  replace s_21 : Sm k_0 k_21 := sm_tr s_20 s_21
  have A_21 : ∀ q, (ds d).heap.size ≤ q → kA k_21 q := by rw [s_21.2.2.2.2]; exact A_0
  replace o_21 : Okc k_21 (dw d 21 1642) cX12_init RX12 1 3 := o_21
  show Wz _ (dw d 21 1642) _ _ _ _
  refine z_putRF (ty := tyX12 31) (i := 49) (ci := 11) (f := 31) (C := RX12) (T := TX12) (N := 51) o_21 rfl (by rw [n_21]; decide) rfl iX12 tyX12 tyX12_ok nmX12 rfl (by decide) rfl rfl hin rfl (tyX12_ok 31 (by decide)) wf_RX12_71 rfl rfl dX12_init_172 ?_
  show Wz _ _ hs_75 _ _ _
  refine z_aload_n o_21 dX12_init_175 0 rfl rfl ?_
  refine z_iconst (v := 2) o_21 dX12_init_176 (by decide) ?_
  refine z_newa o_21 A_21 (at_ := .int) (kn1 := 1) (N' := 2) (Or.inl ⟨rfl, rfl⟩) wa_int (by rw [n_21]; rfl) (by rw [n_21]; exact (bd_mono0 bd_hs_75 (by decide))) (by rw [n_21]; exact (fr_mono0 fr_hs_75 (by decide))) (by decide) (by decide +kernel) (by decide) (by show 21 + 1 ≤ (dR d).cells; rw [hRc]; exact Nat.le_of_ble_eq_true rfl) (by show 1642 + 2 ≤ (dR d).slots; rw [hRs]; exact Nat.le_of_ble_eq_true rfl) dX12_init_177 (fun k_22 s_22 n_22 x_22 o_22 => ?_)
  replace n_22 : kn k_22 = 72 := n_22.trans (by rw [n_21])
  rw [x_22 49 (by rw [n_21]; decide)]
  rw [n_21]
  replace x_22 : ∀ i, i < 50 → ka k_0 i = ka k_22 i := fun i hi => (x_21 i hi).trans (x_22 i (by rw [n_21]; omega))
  replace s_22 : Sm k_0 k_22 := sm_tr s_21 s_22
  have A_22 : ∀ q, (ds d).heap.size ≤ q → kA k_22 q := by rw [s_22.2.2.2.2]; exact A_0
  replace o_22 : Okc k_22 (dw d 22 1644) cX12_init RX12 1 3 := o_22
  show Wz _ (dw d 22 1644) _ _ _ _
  refine z_putRF (ty := tyX12 32) (i := 49) (ci := 11) (f := 32) (C := RX12) (T := TX12) (N := 51) o_22 rfl (by rw [n_22]; decide) rfl iX12 tyX12 tyX12_ok nmX12 rfl (by decide) rfl rfl hin rfl (tyX12_ok 32 (by decide)) wf_RX12_74 rfl rfl dX12_init_179 ?_
  show Wz _ _ hs_76 _ _ _
  refine z_aload_n o_22 dX12_init_182 0 rfl rfl ?_
  refine z_iconst (v := 2) o_22 dX12_init_183 (by decide) ?_
  refine z_newa o_22 A_22 (at_ := .int) (kn1 := 1) (N' := 2) (Or.inl ⟨rfl, rfl⟩) wa_int (by rw [n_22]; rfl) (by rw [n_22]; exact (bd_mono0 bd_hs_76 (by decide))) (by rw [n_22]; exact (fr_mono0 fr_hs_76 (by decide))) (by decide) (by decide +kernel) (by decide) (by show 22 + 1 ≤ (dR d).cells; rw [hRc]; exact Nat.le_of_ble_eq_true rfl) (by show 1644 + 2 ≤ (dR d).slots; rw [hRs]; exact Nat.le_of_ble_eq_true rfl) dX12_init_184 (fun k_23 s_23 n_23 x_23 o_23 => ?_)
  replace n_23 : kn k_23 = 73 := n_23.trans (by rw [n_22])
  rw [x_23 49 (by rw [n_22]; decide)]
  rw [n_22]
  replace x_23 : ∀ i, i < 50 → ka k_0 i = ka k_23 i := fun i hi => (x_22 i hi).trans (x_23 i (by rw [n_22]; omega))
  replace s_23 : Sm k_0 k_23 := sm_tr s_22 s_23
  have A_23 : ∀ q, (ds d).heap.size ≤ q → kA k_23 q := by rw [s_23.2.2.2.2]; exact A_0
  replace o_23 : Okc k_23 (dw d 23 1646) cX12_init RX12 1 3 := o_23
  show Wz _ (dw d 23 1646) _ _ _ _
  refine z_putRF (ty := tyX12 33) (i := 49) (ci := 11) (f := 33) (C := RX12) (T := TX12) (N := 51) o_23 rfl (by rw [n_23]; decide) rfl iX12 tyX12 tyX12_ok nmX12 rfl (by decide) rfl rfl hin rfl (tyX12_ok 33 (by decide)) wf_RX12_77 rfl rfl dX12_init_186 ?_
  show Wz _ _ hs_77 _ _ _
  refine z_aload_n o_23 dX12_init_189 0 rfl rfl ?_
  refine z_sipush (v := 441) o_23 dX12_init_190 (by decide) ?_
  refine z_newa o_23 A_23 (at_ := .int) (kn1 := 1) (N' := 441) (Or.inl ⟨rfl, rfl⟩) wa_int (by rw [n_23]; rfl) (by rw [n_23]; exact (bd_mono0 bd_hs_77 (by decide))) (by rw [n_23]; exact (fr_mono0 fr_hs_77 (by decide))) (by decide) (by decide +kernel) (by decide) (by show 23 + 1 ≤ (dR d).cells; rw [hRc]; exact Nat.le_of_ble_eq_true rfl) (by show 1646 + 441 ≤ (dR d).slots; rw [hRs]; exact Nat.le_of_ble_eq_true rfl) dX12_init_193 (fun k_24 s_24 n_24 x_24 o_24 => ?_)
  replace n_24 : kn k_24 = 74 := n_24.trans (by rw [n_23])
  rw [x_24 49 (by rw [n_23]; decide)]
  rw [n_23]
  replace x_24 : ∀ i, i < 50 → ka k_0 i = ka k_24 i := fun i hi => (x_23 i hi).trans (x_24 i (by rw [n_23]; omega))
  replace s_24 : Sm k_0 k_24 := sm_tr s_23 s_24
  have A_24 : ∀ q, (ds d).heap.size ≤ q → kA k_24 q := by rw [s_24.2.2.2.2]; exact A_0
  replace o_24 : Okc k_24 (dw d 24 2087) cX12_init RX12 1 3 := o_24
  show Wz _ (dw d 24 2087) _ _ _ _
  refine z_putRF (ty := tyX12 41) (i := 49) (ci := 11) (f := 41) (C := RX12) (T := TX12) (N := 51) o_24 rfl (by rw [n_24]; decide) rfl iX12 tyX12 tyX12_ok nmX12 rfl (by decide) rfl rfl hin rfl (tyX12_ok 41 (by decide)) wf_RX12_80 rfl rfl dX12_init_195 ?_
  show Wz _ _ hs_78 _ _ _
  refine z_aload_n o_24 dX12_init_198 0 rfl rfl ?_
  refine z_bipush (v := 61) o_24 dX12_init_199 (by decide) ?_
  refine z_newa o_24 A_24 (at_ := .int) (kn1 := 1) (N' := 61) (Or.inl ⟨rfl, rfl⟩) wa_int (by rw [n_24]; rfl) (by rw [n_24]; exact (bd_mono0 bd_hs_78 (by decide))) (by rw [n_24]; exact (fr_mono0 fr_hs_78 (by decide))) (by decide) (by decide +kernel) (by decide) (by show 24 + 1 ≤ (dR d).cells; rw [hRc]; exact Nat.le_of_ble_eq_true rfl) (by show 2087 + 61 ≤ (dR d).slots; rw [hRs]; exact Nat.le_of_ble_eq_true rfl) dX12_init_201 (fun k_25 s_25 n_25 x_25 o_25 => ?_)
  replace n_25 : kn k_25 = 75 := n_25.trans (by rw [n_24])
  rw [x_25 49 (by rw [n_24]; decide)]
  rw [n_24]
  replace x_25 : ∀ i, i < 50 → ka k_0 i = ka k_25 i := fun i hi => (x_24 i hi).trans (x_25 i (by rw [n_24]; omega))
  replace s_25 : Sm k_0 k_25 := sm_tr s_24 s_25
  have A_25 : ∀ q, (ds d).heap.size ≤ q → kA k_25 q := by rw [s_25.2.2.2.2]; exact A_0
  replace o_25 : Okc k_25 (dw d 25 2148) cX12_init RX12 1 3 := o_25
  show Wz _ (dw d 25 2148) _ _ _ _
  refine z_putRF (ty := tyX12 42) (i := 49) (ci := 11) (f := 42) (C := RX12) (T := TX12) (N := 51) o_25 rfl (by rw [n_25]; decide) rfl iX12 tyX12 tyX12_ok nmX12 rfl (by decide) rfl rfl hin rfl (tyX12_ok 42 (by decide)) wf_RX12_83 rfl rfl dX12_init_203 ?_
  show Wz _ _ hs_79 _ _ _
  refine z_aload_n o_25 dX12_init_206 0 rfl rfl ?_
  refine z_bipush (v := 10) o_25 dX12_init_207 (by decide) ?_
  refine z_newa o_25 A_25 (at_ := .int) (kn1 := 1) (N' := 10) (Or.inl ⟨rfl, rfl⟩) wa_int (by rw [n_25]; rfl) (by rw [n_25]; exact (bd_mono0 bd_hs_79 (by decide))) (by rw [n_25]; exact (fr_mono0 fr_hs_79 (by decide))) (by decide) (by decide +kernel) (by decide) (by show 25 + 1 ≤ (dR d).cells; rw [hRc]; exact Nat.le_of_ble_eq_true rfl) (by show 2148 + 10 ≤ (dR d).slots; rw [hRs]; exact Nat.le_of_ble_eq_true rfl) dX12_init_209 (fun k_26 s_26 n_26 x_26 o_26 => ?_)
  replace n_26 : kn k_26 = 76 := n_26.trans (by rw [n_25])
  rw [x_26 49 (by rw [n_25]; decide)]
  rw [n_25]
  replace x_26 : ∀ i, i < 50 → ka k_0 i = ka k_26 i := fun i hi => (x_25 i hi).trans (x_26 i (by rw [n_25]; omega))
  replace s_26 : Sm k_0 k_26 := sm_tr s_25 s_26
  have A_26 : ∀ q, (ds d).heap.size ≤ q → kA k_26 q := by rw [s_26.2.2.2.2]; exact A_0
  replace o_26 : Okc k_26 (dw d 26 2158) cX12_init RX12 1 3 := o_26
  show Wz _ (dw d 26 2158) _ _ _ _
  refine z_putRF (ty := tyX12 43) (i := 49) (ci := 11) (f := 43) (C := RX12) (T := TX12) (N := 51) o_26 rfl (by rw [n_26]; decide) rfl iX12 tyX12 tyX12_ok nmX12 rfl (by decide) rfl rfl hin rfl (tyX12_ok 43 (by decide)) wf_RX12_86 rfl rfl dX12_init_211 ?_
  show Wz _ _ hs_80 _ _ _
  refine z_aload_n o_26 dX12_init_214 0 rfl rfl ?_
  refine z_iconst (v := 5) o_26 dX12_init_215 (by decide) ?_
  refine z_newa o_26 A_26 (at_ := .int) (kn1 := 1) (N' := 5) (Or.inl ⟨rfl, rfl⟩) wa_int (by rw [n_26]; rfl) (by rw [n_26]; exact (bd_mono0 bd_hs_80 (by decide))) (by rw [n_26]; exact (fr_mono0 fr_hs_80 (by decide))) (by decide) (by decide +kernel) (by decide) (by show 26 + 1 ≤ (dR d).cells; rw [hRc]; exact Nat.le_of_ble_eq_true rfl) (by show 2158 + 5 ≤ (dR d).slots; rw [hRs]; exact Nat.le_of_ble_eq_true rfl) dX12_init_216 (fun k_27 s_27 n_27 x_27 o_27 => ?_)
  replace n_27 : kn k_27 = 77 := n_27.trans (by rw [n_26])
  rw [x_27 49 (by rw [n_26]; decide)]
  rw [n_26]
  replace x_27 : ∀ i, i < 50 → ka k_0 i = ka k_27 i := fun i hi => (x_26 i hi).trans (x_27 i (by rw [n_26]; omega))
  replace s_27 : Sm k_0 k_27 := sm_tr s_26 s_27
  have A_27 : ∀ q, (ds d).heap.size ≤ q → kA k_27 q := by rw [s_27.2.2.2.2]; exact A_0
  replace o_27 : Okc k_27 (dw d 27 2163) cX12_init RX12 1 3 := o_27
  show Wz _ (dw d 27 2163) _ _ _ _
  refine z_putRF (ty := tyX12 44) (i := 49) (ci := 11) (f := 44) (C := RX12) (T := TX12) (N := 51) o_27 rfl (by rw [n_27]; decide) rfl iX12 tyX12 tyX12_ok nmX12 rfl (by decide) rfl rfl hin rfl (tyX12_ok 44 (by decide)) wf_RX12_89 rfl rfl dX12_init_218 ?_
  show Wz _ _ hs_81 _ _ _
  refine z_aload_n o_27 dX12_init_221 0 rfl rfl ?_
  refine z_iconst (v := 5) o_27 dX12_init_222 (by decide) ?_
  refine z_newa o_27 A_27 (at_ := .int) (kn1 := 1) (N' := 5) (Or.inl ⟨rfl, rfl⟩) wa_int (by rw [n_27]; rfl) (by rw [n_27]; exact (bd_mono0 bd_hs_81 (by decide))) (by rw [n_27]; exact (fr_mono0 fr_hs_81 (by decide))) (by decide) (by decide +kernel) (by decide) (by show 27 + 1 ≤ (dR d).cells; rw [hRc]; exact Nat.le_of_ble_eq_true rfl) (by show 2163 + 5 ≤ (dR d).slots; rw [hRs]; exact Nat.le_of_ble_eq_true rfl) dX12_init_223 (fun k_28 s_28 n_28 x_28 o_28 => ?_)
  replace n_28 : kn k_28 = 78 := n_28.trans (by rw [n_27])
  rw [x_28 49 (by rw [n_27]; decide)]
  rw [n_27]
  replace x_28 : ∀ i, i < 50 → ka k_0 i = ka k_28 i := fun i hi => (x_27 i hi).trans (x_28 i (by rw [n_27]; omega))
  replace s_28 : Sm k_0 k_28 := sm_tr s_27 s_28
  have A_28 : ∀ q, (ds d).heap.size ≤ q → kA k_28 q := by rw [s_28.2.2.2.2]; exact A_0
  replace o_28 : Okc k_28 (dw d 28 2168) cX12_init RX12 1 3 := o_28
  show Wz _ (dw d 28 2168) _ _ _ _
  refine z_putRF (ty := tyX12 45) (i := 49) (ci := 11) (f := 45) (C := RX12) (T := TX12) (N := 51) o_28 rfl (by rw [n_28]; decide) rfl iX12 tyX12 tyX12_ok nmX12 rfl (by decide) rfl rfl hin rfl (tyX12_ok 45 (by decide)) wf_RX12_92 rfl rfl dX12_init_225 ?_
  show Wz _ _ hs_82 _ _ _
  refine z_aload_n o_28 dX12_init_228 0 rfl rfl ?_
  refine z_ldc (v := 46656) o_28 dX12_init_229 wq_RX12_95 ?_
  refine z_newa o_28 A_28 (at_ := .int) (kn1 := 1) (N' := 46656) (Or.inl ⟨rfl, rfl⟩) wa_int (by rw [n_28]; rfl) (by rw [n_28]; exact (bd_mono0 bd_hs_82 (by decide))) (by rw [n_28]; exact (fr_mono0 fr_hs_82 (by decide))) (by decide) (by decide +kernel) (by decide) (by show 28 + 1 ≤ (dR d).cells; rw [hRc]; exact Nat.le_of_ble_eq_true rfl) (by show 2168 + 46656 ≤ (dR d).slots; rw [hRs]; exact Nat.le_of_ble_eq_true rfl) dX12_init_231 (fun k_29 s_29 n_29 x_29 o_29 => ?_)
  replace n_29 : kn k_29 = 79 := n_29.trans (by rw [n_28])
  rw [x_29 49 (by rw [n_28]; decide)]
  rw [n_28]
  replace x_29 : ∀ i, i < 50 → ka k_0 i = ka k_29 i := fun i hi => (x_28 i hi).trans (x_29 i (by rw [n_28]; omega))
  replace s_29 : Sm k_0 k_29 := sm_tr s_28 s_29
  have A_29 : ∀ q, (ds d).heap.size ≤ q → kA k_29 q := by rw [s_29.2.2.2.2]; exact A_0
  replace o_29 : Okc k_29 (dw d 29 48824) cX12_init RX12 1 3 := o_29
  show Wz _ (dw d 29 48824) _ _ _ _
  refine z_putRF (ty := tyX12 46) (i := 49) (ci := 11) (f := 46) (C := RX12) (T := TX12) (N := 51) o_29 rfl (by rw [n_29]; decide) rfl iX12 tyX12 tyX12_ok nmX12 rfl (by decide) rfl rfl hin rfl (tyX12_ok 46 (by decide)) wf_RX12_96 rfl rfl dX12_init_233 ?_
  show Wz _ _ hs_83 _ _ _
  refine z_aload_n o_29 dX12_init_236 0 rfl rfl ?_
  refine z_sipush (v := 720) o_29 dX12_init_237 (by decide) ?_
  refine z_newa o_29 A_29 (at_ := .int) (kn1 := 1) (N' := 720) (Or.inl ⟨rfl, rfl⟩) wa_int (by rw [n_29]; rfl) (by rw [n_29]; exact (bd_mono0 bd_hs_83 (by decide))) (by rw [n_29]; exact (fr_mono0 fr_hs_83 (by decide))) (by decide) (by decide +kernel) (by decide) (by show 29 + 1 ≤ (dR d).cells; rw [hRc]; exact Nat.le_of_ble_eq_true rfl) (by show 48824 + 720 ≤ (dR d).slots; rw [hRs]; exact Nat.le_of_ble_eq_true rfl) dX12_init_240 (fun k_30 s_30 n_30 x_30 o_30 => ?_)
  replace n_30 : kn k_30 = 80 := n_30.trans (by rw [n_29])
  rw [x_30 49 (by rw [n_29]; decide)]
  rw [n_29]
  replace x_30 : ∀ i, i < 50 → ka k_0 i = ka k_30 i := fun i hi => (x_29 i hi).trans (x_30 i (by rw [n_29]; omega))
  replace s_30 : Sm k_0 k_30 := sm_tr s_29 s_30
  have A_30 : ∀ q, (ds d).heap.size ≤ q → kA k_30 q := by rw [s_30.2.2.2.2]; exact A_0
  replace o_30 : Okc k_30 (dw d 30 49544) cX12_init RX12 1 3 := o_30
  show Wz _ (dw d 30 49544) _ _ _ _
  refine z_putRF (ty := tyX12 47) (i := 49) (ci := 11) (f := 47) (C := RX12) (T := TX12) (N := 51) o_30 rfl (by rw [n_30]; decide) rfl iX12 tyX12 tyX12_ok nmX12 rfl (by decide) rfl rfl hin rfl (tyX12_ok 47 (by decide)) wf_RX12_99 rfl rfl dX12_init_242 ?_
  show Wz _ _ hs_84 _ _ _
  refine z_aload_n o_30 dX12_init_245 0 rfl rfl ?_
  refine z_bipush (v := 6) o_30 dX12_init_246 (by decide) ?_
  refine z_newa o_30 A_30 (at_ := .int) (kn1 := 1) (N' := 6) (Or.inl ⟨rfl, rfl⟩) wa_int (by rw [n_30]; rfl) (by rw [n_30]; exact (bd_mono0 bd_hs_84 (by decide))) (by rw [n_30]; exact (fr_mono0 fr_hs_84 (by decide))) (by decide) (by decide +kernel) (by decide) (by show 30 + 1 ≤ (dR d).cells; rw [hRc]; exact Nat.le_of_ble_eq_true rfl) (by show 49544 + 6 ≤ (dR d).slots; rw [hRs]; exact Nat.le_of_ble_eq_true rfl) dX12_init_248 (fun k_31 s_31 n_31 x_31 o_31 => ?_)
  replace n_31 : kn k_31 = 81 := n_31.trans (by rw [n_30])
  rw [x_31 49 (by rw [n_30]; decide)]
  rw [n_30]
  replace x_31 : ∀ i, i < 50 → ka k_0 i = ka k_31 i := fun i hi => (x_30 i hi).trans (x_31 i (by rw [n_30]; omega))
  replace s_31 : Sm k_0 k_31 := sm_tr s_30 s_31
  have A_31 : ∀ q, (ds d).heap.size ≤ q → kA k_31 q := by rw [s_31.2.2.2.2]; exact A_0
  replace o_31 : Okc k_31 (dw d 31 49550) cX12_init RX12 1 3 := o_31
  show Wz _ (dw d 31 49550) _ _ _ _
  refine z_putRF (ty := tyX12 48) (i := 49) (ci := 11) (f := 48) (C := RX12) (T := TX12) (N := 51) o_31 rfl (by rw [n_31]; decide) rfl iX12 tyX12 tyX12_ok nmX12 rfl (by decide) rfl rfl hin rfl (tyX12_ok 48 (by decide)) wf_RX12_102 rfl rfl dX12_init_250 ?_
  show Wz _ _ hs_85 _ _ _
  refine z_aload_n o_31 dX12_init_253 0 rfl rfl ?_
  refine z_bipush (v := 7) o_31 dX12_init_254 (by decide) ?_
  refine z_newa o_31 A_31 (at_ := .int) (kn1 := 1) (N' := 7) (Or.inl ⟨rfl, rfl⟩) wa_int (by rw [n_31]; rfl) (by rw [n_31]; exact (bd_mono0 bd_hs_85 (by decide))) (by rw [n_31]; exact (fr_mono0 fr_hs_85 (by decide))) (by decide) (by decide +kernel) (by decide) (by show 31 + 1 ≤ (dR d).cells; rw [hRc]; exact Nat.le_of_ble_eq_true rfl) (by show 49550 + 7 ≤ (dR d).slots; rw [hRs]; exact Nat.le_of_ble_eq_true rfl) dX12_init_256 (fun k_32 s_32 n_32 x_32 o_32 => ?_)
  replace n_32 : kn k_32 = 82 := n_32.trans (by rw [n_31])
  rw [x_32 49 (by rw [n_31]; decide)]
  rw [n_31]
  replace x_32 : ∀ i, i < 50 → ka k_0 i = ka k_32 i := fun i hi => (x_31 i hi).trans (x_32 i (by rw [n_31]; omega))
  replace s_32 : Sm k_0 k_32 := sm_tr s_31 s_32
  have A_32 : ∀ q, (ds d).heap.size ≤ q → kA k_32 q := by rw [s_32.2.2.2.2]; exact A_0
  replace o_32 : Okc k_32 (dw d 32 49557) cX12_init RX12 1 3 := o_32
  show Wz _ (dw d 32 49557) _ _ _ _
  refine z_putRF (ty := tyX12 49) (i := 49) (ci := 11) (f := 49) (C := RX12) (T := TX12) (N := 51) o_32 rfl (by rw [n_32]; decide) rfl iX12 tyX12 tyX12_ok nmX12 rfl (by decide) rfl rfl hin rfl (tyX12_ok 49 (by decide)) wf_RX12_105 rfl rfl dX12_init_258 ?_
  show Wz _ _ hs_86 _ _ _
  refine z_aload_n o_32 dX12_init_261 0 rfl rfl ?_
  refine z_getR (i := 49) (ci := 11) (f := 0) (j := 50) (C := RX12) (T := TX12) (N := 51) o_32 rfl (by rw [n_32]; decide) rfl iX12 rfl (by decide) rfl wf_RX12_7 rfl dX12_init_262 ?_
  refine z_bipush (v := 46) o_32 dX12_init_265 (by decide) ?_
  refine z_iconst (v := 1) o_32 dX12_init_267 (by decide) ?_
  refine z_iast (a := 50) o_32 rfl (by rw [n_32]; decide) (by decide) dX12_init_268 ?_
  show Wz _ _ hs_87 _ _ _
  refine z_aload_n o_32 dX12_init_269 0 rfl rfl ?_
  refine z_ldc (v := 99999) o_32 dX12_init_270 wq_RX12_108 ?_
  refine z_putI (ty := .int) (i := 49) (ci := 11) (f := 5) (C := RX12) (T := TX12) (N := 51) o_32 rfl (by rw [n_32]; decide) rfl iX12 tyX12 tyX12_ok nmX12 rfl (by decide) rfl rfl (tyX12_ok 5 (by decide)) wf_RX12_109 rfl rfl dX12_init_272 ?_
  show Wz _ _ hs_88 _ _ _
  exact hr k_32 _ _ s_32 n_32 (fun i hi => x_32 i (by rw [n_0] at hi; exact hi)) o_32.2.2.2.2.2.2.1 dX12_init_275
theorem C_X12_init_t49 {k : Kst} (hj : Dj k) (hn : kn k = 50) : MC k 3 32 49557 yX12_init cX12_init 1 49 hs_54 hs_88 82 := mC hj (by decide +kernel) rfl (by decide) (fun d o hA hRc hRs hin hr => S_X12_init_t49 o hn hA hRc hRs hin hr)
