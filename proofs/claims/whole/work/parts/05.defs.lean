def X9_at (F : Nat) (a0 : Nat) (x1 : Int32) (h : Hp) : Option Int32 :=
  if x1 < 0 then (
    some (-1)
  ) else (
    gq (kd a0 = (0, 8)) <|
    if (h.1 a0 1) ≤ x1 then (
      some (-1)
    ) else (
      (h.2 a0 0).bind fun j_4 =>
      gq ((kd j_4).1 = 1) <|
      if (Int32.ofNat (kd j_4).2) ≤ x1 then (
        some (-1)
      ) else (
        gq (inb x1 (kd j_4).2) <|
        some (h.1 j_4 (ix x1))
      )
    )
  )
def X11_put (F : Nat) (a0 : Nat) (x1 : Int32) (x2 : Int32) (h : Hp) : Option Hp :=
  if x1 < 0 then (
    some h
  ) else (
    gq ((kd a0).1 = 1) <|
    if (Int32.ofNat (kd a0).2) ≤ x1 then (
      some h
    ) else (
      gq (inb x1 (kd a0).2) <|
      bd (up h a0 (ix x1) x2) fun h_5 =>
      some h_5
    )
  )
def X0_placeOf_46 (F : Nat) (k4 : Int32 → Int32 → Int32 → Int32 → Hp → Option Int32) (k17 : Int32 → Int32 → Int32 → Int32 → Int32 → Int32 → Hp → Option Int32) (x0 : Int32) (x1 : Int32) (x2 : Int32) (x3 : Int32) (x4 : Int32) (x5 : Int32) (h : Hp) : Option Int32 :=
  bd (x5 + 1) fun x5_1 =>
  k17 x0 x1 x2 x3 x4 x5_1 h
def X0_placeOf_17 (F : Nat) (k4 : Int32 → Int32 → Int32 → Int32 → Hp → Option Int32) : Nat → Int32 → Int32 → Int32 → Int32 → Int32 → Int32 → Hp → Option Int32
  | 0, _, _, _, _, _, _, _ => none
  | f + 1, x0, x1, x2, x3, x4, x5, h =>
  if x1 ≤ x5 then (
    bd (((x2 * (x1 - x3)) + x4)) fun x2_2 =>
    bd (x3 + 1) fun x3_3 =>
    k4 x0 x1 x2_2 x3_3 h
  ) else (
    if ((x0 >>> ((3 * x3) &&& 31)) &&& 7) ≤ ((x0 >>> ((3 * x5) &&& 31)) &&& 7) then (
      X0_placeOf_46 F k4 (X0_placeOf_17 F k4 f) x0 x1 x2 x3 x4 x5 h
    ) else (
      bd (x4 + 1) fun x4_5 =>
      X0_placeOf_46 F k4 (X0_placeOf_17 F k4 f) x0 x1 x2 x3 x4_5 x5 h
    )
  )
def X0_placeOf_4 (F : Nat) : Nat → Int32 → Int32 → Int32 → Int32 → Hp → Option Int32
  | 0, _, _, _, _, _ => none
  | f + 1, x0, x1, x2, x3, h =>
  if x1 ≤ x3 then (
    some x2
  ) else (
    bd ((x3 + 1)) fun x5_2 =>
    X0_placeOf_17 F (X0_placeOf_4 F f) F x0 x1 x2 x3 0 x5_2 h
  )
def X0_placeOf (F : Nat) (x0 : Int32) (x1 : Int32) (h : Hp) : Option Int32 :=
  X0_placeOf_4 F F x0 x1 0 0 h
def X11_get (F : Nat) (a0 : Nat) (x1 : Int32) (h : Hp) : Option Int32 :=
  if x1 < 0 then (
    some 0
  ) else (
    gq ((kd a0).1 = 1) <|
    if (Int32.ofNat (kd a0).2) ≤ x1 then (
      some 0
    ) else (
      gq (inb x1 (kd a0).2) <|
      some (h.1 a0 (ix x1))
    )
  )
def X0_swapped_62 (F : Nat) (k5 : Int32 → Int32 → Int32 → Int32 → Hp → Option Int32) (x1 : Int32) (x2 : Int32) (x3 : Int32) (x4 : Int32) (h : Hp) : Option Int32 :=
  bd (x4 + 1) fun x4_1 =>
  k5 x1 x2 x3 x4_1 h
def X0_swapped_5 (F : Nat) : Nat → Int32 → Int32 → Int32 → Int32 → Hp → Option Int32
  | 0, _, _, _, _, _ => none
  | f + 1, x1, x2, x3, x4, h =>
  if (x2 - 1) ≤ x4 then (
    some x3
  ) else (
    if ((x1 >>> (x4 &&& 31)) &&& 1) = 0 then (
      X0_swapped_62 F (X0_swapped_5 F f) x1 x2 x3 x4 h
    ) else (
      bd ((((x3 >>> ((3 * x4) &&& 31)) ^^^ (x3 >>> (((3 * x4) + 3) &&& 31))) &&& 7)) fun x5_3 =>
      bd ((x3 ^^^ ((x5_3 <<< ((3 * x4) &&& 31)) ||| (x5_3 <<< (((3 * x4) + 3) &&& 31))))) fun x3_4 =>
      X0_swapped_62 F (X0_swapped_5 F f) x1 x2 x3_4 x4 h
    )
  )
def X0_swapped (F : Nat) (x0 : Int32) (x1 : Int32) (x2 : Int32) (h : Hp) : Option Int32 :=
  X0_swapped_5 F F x1 x2 x0 0 h
def X0_ringFrom_97 (F : Nat) (k22 : Nat → Int32 → Int32 → Int32 → Int32 → Int32 → Hp → Option (Int32 × Hp)) (a0 : Nat) (x1 : Int32) (x2 : Int32) (x4 : Int32) (x5 : Int32) (x6 : Int32) (h : Hp) : Option (Int32 × Hp) :=
  bd (x6 + 1) fun x6_1 =>
  k22 a0 x1 x2 x4 x5 x6_1 h
def X0_ringFrom_22 (F : Nat) : Nat → Nat → Int32 → Int32 → Int32 → Int32 → Int32 → Hp → Option (Int32 × Hp)
  | 0, _, _, _, _, _, _, _ => none
  | f + 1, a0, x1, x2, x4, x5, x6, h =>
  if (1 <<< ((x2 - 1) &&& 31)) ≤ x6 then (
    some (x5, h)
  ) else (
    if (x6 &&& (x6 >>> (1 &&& 31))) = 0 then (
      (X0_swapped F x1 x6 x2 h).bind fun c_3 =>
      (X0_placeOf F c_3 x2 h).bind fun c_5 =>
      gq (kd a0 = (0, 0)) <|
      (h.2 a0 1).bind fun j_8 =>
      (X11_get F j_8 c_5 h).bind fun c_9 =>
      if c_9 = (-1) then (
        (X11_put F j_8 c_5 x4 h).bind fun h_13 =>
        (h_13.2 a0 0).bind fun j_14 =>
        (X11_put F j_14 x5 c_3 h_13).bind fun h_16 =>
        bd (x5 + 1) fun x5_17 =>
        X0_ringFrom_97 F (X0_ringFrom_22 F f) a0 x1 x2 x4 x5_17 x6 h_16
      ) else (
        X0_ringFrom_97 F (X0_ringFrom_22 F f) a0 x1 x2 x4 x5 x6 h
      )
    ) else (
      X0_ringFrom_97 F (X0_ringFrom_22 F f) a0 x1 x2 x4 x5 x6 h
    )
  )
def X0_ringFrom (F : Nat) (a0 : Nat) (x1 : Int32) (x2 : Int32) (x3 : Int32) (h : Hp) : Option (Int32 × Hp) :=
  gq (kd a0 = (0, 0)) <|
  (h.2 a0 1).bind fun j_2 =>
  (X0_placeOf F x1 x2 h).bind fun c_3 =>
  (X11_get F j_2 c_3 h).bind fun c_5 =>
  bd ((c_5 + 1)) fun x4_7 =>
  X0_ringFrom_22 F F a0 x1 x2 x4_7 x3 1 h
def X0_fewestChanges_162 (F : Nat) (a0 : Nat) (x6 : Int32) (h : Hp) : Option (Int32 × Hp) :=
  gq (kd a0 = (0, 0)) <|
  (h.2 a0 1).bind fun j_2 =>
  (X11_get F j_2 x6 h).bind fun c_3 =>
  some (c_3, h)
def X0_fewestChanges_110 (F : Nat) : Nat → Nat → Int32 → Int32 → Int32 → Int32 → Hp → Option (Int32 × Hp)
  | 0, _, _, _, _, _, _ => none
  | f + 1, a0, x2, x5, x6, x7, h =>
  if x5 ≤ x7 then (
    X0_fewestChanges_162 F a0 x6 h
  ) else (
    if 720 ≤ x7 then (
      X0_fewestChanges_162 F a0 x6 h
    ) else (
      gq (kd a0 = (0, 0)) <|
      (h.2 a0 1).bind fun j_4 =>
      (X11_get F j_4 x6 h).bind fun c_5 =>
      if c_5 = (-1) then (
        (h.2 a0 0).bind fun j_8 =>
        (X11_get F j_8 x7 h).bind fun c_9 =>
        bq (X0_ringFrom F a0 c_9 x2 x5 h) fun c_11 h_12 =>
        bd (x7 + 1) fun x7_13 =>
        X0_fewestChanges_110 F f a0 x2 c_11 x6 x7_13 h_12
      ) else (
        X0_fewestChanges_162 F a0 x6 h
      )
    )
  )
def X0_fewestChanges_49 (F : Nat) : Nat → Nat → Int32 → Int32 → Int32 → Int32 → Hp → Option (Int32 × Hp)
  | 0, _, _, _, _, _, _ => none
  | f + 1, a0, x2, x3, x4, x5, h =>
  if 720 ≤ x5 then (
    gq (kd a0 = (0, 0)) <|
    (h.2 a0 0).bind fun j_3 =>
    (X11_put F j_3 0 x4 h).bind fun h_5 =>
    (h_5.2 a0 1).bind fun j_6 =>
    (X0_placeOf F x4 x2 h_5).bind fun c_7 =>
    (X11_put F j_6 c_7 0 h_5).bind fun h_10 =>
    (X0_placeOf F x3 x2 h_10).bind fun c_11 =>
    X0_fewestChanges_110 F F a0 x2 1 c_11 0 h_10
  ) else (
    gq (kd a0 = (0, 0)) <|
    (h.2 a0 1).bind fun j_14 =>
    (X11_put F j_14 x5 (-1) h).bind fun h_16 =>
    bd (x5 + 1) fun x5_17 =>
    X0_fewestChanges_49 F f a0 x2 x3 x4 x5_17 h_16
  )
def X0_fewestChanges_8 (F : Nat) : Nat → Nat → Nat → Int32 → Int32 → Int32 → Int32 → Hp → Option (Int32 × Hp)
  | 0, _, _, _, _, _, _, _ => none
  | f + 1, a0, a1, x2, x3, x4, x5, h =>
  if x2 ≤ x5 then (
    X0_fewestChanges_49 F F a0 x2 x3 x4 0 h
  ) else (
    gq (kd a1 = (0, 8)) <|
    (X9_at F a1 x5 h).bind fun c_3 =>
    bd ((x3 ||| (c_3 <<< ((3 * x5) &&& 31)))) fun x3_5 =>
    bd ((x4 ||| (x5 <<< ((3 * x5) &&& 31)))) fun x4_6 =>
    bd (x5 + 1) fun x5_7 =>
    X0_fewestChanges_8 F f a0 a1 x2 x3_5 x4_6 x5_7 h
  )
def X0_fewestChanges (F : Nat) (a0 : Nat) (a1 : Nat) (x2 : Int32) (h : Hp) : Option (Int32 × Hp) :=
  X0_fewestChanges_8 F F a0 a1 x2 0 0 0 h
def X1_empty (F : Nat) (a0 : Nat) (h : Hp) : Option Hp :=
  gq (kd a0 = (0, 1)) <|
  bd (up h a0 7 0) fun h_2 =>
  bd (up h_2 a0 8 0) fun h_3 =>
  some h_3
def X1_beginRule (F : Nat) (a0 : Nat) (x1 : Int32) (h : Hp) : Option Hp :=
  gq (kd a0 = (0, 1)) <|
  (h.2 a0 0).bind fun j_2 =>
  (X11_put F j_2 (h.1 a0 7) x1 h).bind fun h_4 =>
  (h_4.2 a0 1).bind fun j_5 =>
  (X11_put F j_5 (h_4.1 a0 7) (h_4.1 a0 8) h_4).bind fun h_7 =>
  some h_7
def X1_beginTest (F : Nat) (a0 : Nat) (h : Hp) : Option Hp :=
  gq (kd a0 = (0, 1)) <|
  (h.2 a0 2).bind fun j_2 =>
  (X11_put F j_2 (h.1 a0 7) (h.1 a0 8) h).bind fun h_4 =>
  some h_4
def X1_endRule (F : Nat) (a0 : Nat) (h : Hp) : Option Hp :=
  gq (kd a0 = (0, 1)) <|
  (h.2 a0 3).bind fun j_2 =>
  (X11_put F j_2 (h.1 a0 7) (h.1 a0 8) h).bind fun h_4 =>
  bd (up h_4 a0 7 ((h_4.1 a0 7) + 1)) fun h_5 =>
  some h_5
def X1_add (F : Nat) (a0 : Nat) (x1 : Int32) (x2 : Int32) (h : Hp) : Option (Int32 × Hp) :=
  gq (kd a0 = (0, 1)) <|
  (h.2 a0 4).bind fun j_2 =>
  (X11_put F j_2 (h.1 a0 8) x1 h).bind fun h_4 =>
  (h_4.2 a0 5).bind fun j_5 =>
  (X11_put F j_5 (h_4.1 a0 8) x2 h_4).bind fun h_7 =>
  bd (up h_7 a0 8 ((h_7.1 a0 8) + 1)) fun h_8 =>
  some (((h_8.1 a0 8) - 1), h_8)
def X1_aim (F : Nat) (a0 : Nat) (x1 : Int32) (h : Hp) : Option Hp :=
  gq (kd a0 = (0, 1)) <|
  (h.2 a0 5).bind fun j_2 =>
  (X11_put F j_2 x1 (h.1 a0 8) h).bind fun h_4 =>
  some h_4
def X1_joined (F : Nat) (x0 : Int32) (x1 : Int32) (x2 : Int32) (h : Hp) : Option Int32 :=
  bd (x0) fun t_1 =>
  if t_1 = 37 then (
    if x2 = 0 then (
      some 0
    ) else (
      gq (¬ x2 = 0) <|
      some (irm x1 x2)
    )
  ) else (
  if t_1 = 42 then (
    some (x1 * x2)
  ) else (
  if t_1 = 43 then (
    some (x1 + x2)
  ) else (
  if t_1 = 45 then (
    some (x1 - x2)
  ) else (
  if t_1 = 47 then (
    if x2 = 0 then (
      some 0
    ) else (
      gq (¬ x2 = 0) <|
      some (x1 / x2)
    )
  ) else (
  if t_1 = 60 then (
    if x2 ≤ x1 then (
      some 0
    ) else (
      some 1
    )
  ) else (
  if t_1 = 62 then (
    if x1 ≤ x2 then (
      some 0
    ) else (
      some 1
    )
  ) else (
  if x1 = x2 then (
    some 1
  ) else (
    some 0
  )
  )))))))
def X1_reckon_278 (F : Nat) (a0 : Nat) (h : Hp) : Option (Int32 × Hp) :=
  gq (kd a0 = (0, 1)) <|
  (h.2 a0 6).bind fun j_2 =>
  (X11_get F j_2 0 h).bind fun c_3 =>
  some (c_3, h)
def X1_reckon_272 (F : Nat) (k9 : Nat → Int32 → Nat → Int32 → Int32 → Int32 → Hp → Option (Int32 × Hp)) (a0 : Nat) (x2 : Int32) (a3 : Nat) (x4 : Int32) (x5 : Int32) (x6 : Int32) (h : Hp) : Option (Int32 × Hp) :=
  bd (x6 + 1) fun x6_1 =>
  k9 a0 x2 a3 x4 x5 x6_1 h
def X1_reckon_244 (F : Nat) (k9 : Nat → Int32 → Nat → Int32 → Int32 → Int32 → Hp → Option (Int32 × Hp)) (a0 : Nat) (x2 : Int32) (a3 : Nat) (x4 : Int32) (x5 : Int32) (x6 : Int32) (x7 : Int32) (x9 : Int32) (h : Hp) : Option (Int32 × Hp) :=
  bd (x4 + (-1)) fun x4_1 =>
  gq (kd a0 = (0, 1)) <|
  (h.2 a0 6).bind fun j_3 =>
  (X11_get F j_3 x4_1 h).bind fun c_4 =>
  (X1_joined F x7 c_4 x9 h).bind fun c_6 =>
  (X11_put F j_3 x4_1 c_6 h).bind fun h_9 =>
  X1_reckon_272 F k9 a0 x2 a3 x4_1 x5 x6 h_9
def X1_reckon_196 (F : Nat) (k9 : Nat → Int32 → Nat → Int32 → Int32 → Int32 → Hp → Option (Int32 × Hp)) (a0 : Nat) (x2 : Int32) (a3 : Nat) (x4 : Int32) (x5 : Int32) (x6 : Int32) (x8 : Int32) (s0 : Int32) (s1 : Int32) (h : Hp) : Option (Int32 × Hp) :=
  if s0 = s1 then (
    X1_reckon_272 F k9 a0 x2 a3 x4 x8 x6 h
  ) else (
    bd (x4 + (-1)) fun x4_2 =>
    X1_reckon_272 F k9 a0 x2 a3 x4_2 x5 x6 h
  )
def X1_reckon_184 (F : Nat) (k9 : Nat → Int32 → Nat → Int32 → Int32 → Int32 → Hp → Option (Int32 × Hp)) (a0 : Nat) (x2 : Int32) (a3 : Nat) (x4 : Int32) (x5 : Int32) (x6 : Int32) (x7 : Int32) (x8 : Int32) (s0 : Int32) (h : Hp) : Option (Int32 × Hp) :=
  if x7 = 124 then (
    X1_reckon_196 F k9 a0 x2 a3 x4 x5 x6 x8 s0 1 h
  ) else (
    X1_reckon_196 F k9 a0 x2 a3 x4 x5 x6 x8 s0 0 h
  )
def X1_reckon_161 (F : Nat) (k9 : Nat → Int32 → Nat → Int32 → Int32 → Int32 → Hp → Option (Int32 × Hp)) (a0 : Nat) (x2 : Int32) (a3 : Nat) (x4 : Int32) (x5 : Int32) (x6 : Int32) (r0 : Nat) (s1 : Int32) (s2 : Int32) (h : Hp) : Option (Int32 × Hp) :=
  (X11_put F r0 s1 s2 h).bind fun h_2 =>
  X1_reckon_272 F k9 a0 x2 a3 x4 x5 x6 h_2
def X1_reckon_9 (F : Nat) : Nat → Nat → Int32 → Nat → Int32 → Int32 → Int32 → Hp → Option (Int32 × Hp)
  | 0, _, _, _, _, _, _, _ => none
  | f + 1, a0, x2, a3, x4, x5, x6, h =>
  if 240 ≤ x6 then (
    X1_reckon_278 F a0 h
  ) else (
    if x2 ≤ x5 then (
      X1_reckon_278 F a0 h
    ) else (
      gq (kd a0 = (0, 1)) <|
      (h.2 a0 4).bind fun j_4 =>
      (X11_get F j_4 x5 h).bind fun c_5 =>
      (h.2 a0 5).bind fun j_7 =>
      (X11_get F j_7 x5 h).bind fun c_8 =>
      bd (x5 + 1) fun x5_10 =>
      bd (c_5) fun t_11 =>
      if t_11 = 33 then (
        (h.2 a0 6).bind fun j_13 =>
        (X11_get F j_13 x4 h).bind fun c_14 =>
        if c_14 = 0 then (
          X1_reckon_161 F (X1_reckon_9 F f) a0 x2 a3 x4 x5_10 x6 j_13 x4 1 h
        ) else (
          X1_reckon_161 F (X1_reckon_9 F f) a0 x2 a3 x4 x5_10 x6 j_13 x4 0 h
        )
      ) else (
      if t_11 = 38 then (
        (h.2 a0 6).bind fun j_18 =>
        (X11_get F j_18 x4 h).bind fun c_19 =>
        if c_19 = 0 then (
          X1_reckon_184 F (X1_reckon_9 F f) a0 x2 a3 x4 x5_10 x6 c_5 c_8 0 h
        ) else (
          X1_reckon_184 F (X1_reckon_9 F f) a0 x2 a3 x4 x5_10 x6 c_5 c_8 1 h
        )
      ) else (
      if t_11 = 48 then (
        bd (x4 + 1) fun x4_23 =>
        (h.2 a0 6).bind fun j_24 =>
        (X11_put F j_24 x4_23 c_8 h).bind fun h_26 =>
        X1_reckon_272 F (X1_reckon_9 F f) a0 x2 a3 x4_23 x5_10 x6 h_26
      ) else (
      if t_11 = 97 then (
        bd (x4 + 1) fun x4_28 =>
        (h.2 a0 6).bind fun j_29 =>
        (X11_get F a3 c_8 h).bind fun c_30 =>
        (X11_put F j_29 x4_28 c_30 h).bind fun h_33 =>
        X1_reckon_272 F (X1_reckon_9 F f) a0 x2 a3 x4_28 x5_10 x6 h_33
      ) else (
      if t_11 = 124 then (
        (h.2 a0 6).bind fun j_35 =>
        (X11_get F j_35 x4 h).bind fun c_36 =>
        if c_36 = 0 then (
          X1_reckon_184 F (X1_reckon_9 F f) a0 x2 a3 x4 x5_10 x6 c_5 c_8 0 h
        ) else (
          X1_reckon_184 F (X1_reckon_9 F f) a0 x2 a3 x4 x5_10 x6 c_5 c_8 1 h
        )
      ) else (
      (h.2 a0 6).bind fun j_39 =>
      (X11_get F j_39 x4 h).bind fun c_40 =>
      if c_40 = 0 then (
        if c_5 = 47 then (
          some (0, h)
        ) else (
          if c_5 = 37 then (
            some (0, h)
          ) else (
            X1_reckon_244 F (X1_reckon_9 F f) a0 x2 a3 x4 x5_10 x6 c_5 c_40 h
          )
        )
      ) else (
        X1_reckon_244 F (X1_reckon_9 F f) a0 x2 a3 x4 x5_10 x6 c_5 c_40 h
      )
      )))))
    )
  )
def X1_reckon (F : Nat) (a0 : Nat) (x1 : Int32) (x2 : Int32) (a3 : Nat) (h : Hp) : Option (Int32 × Hp) :=
  X1_reckon_9 F F a0 x2 a3 (-1) x1 0 h
def X1_someHolds_48 (F : Nat) (k2 : Nat → Int32 → Nat → Int32 → Hp → Option (Int32 × Hp)) (a0 : Nat) (x1 : Int32) (a2 : Nat) (x3 : Int32) (h : Hp) : Option (Int32 × Hp) :=
  bd (x3 + 1) fun x3_1 =>
  k2 a0 x1 a2 x3_1 h
def X1_someHolds_2 (F : Nat) : Nat → Nat → Int32 → Nat → Int32 → Hp → Option (Int32 × Hp)
  | 0, _, _, _, _, _ => none
  | f + 1, a0, x1, a2, x3, h =>
  gq (kd a0 = (0, 1)) <|
  if (h.1 a0 7) ≤ x3 then (
    some (0, h)
  ) else (
    (h.2 a0 0).bind fun j_3 =>
    (X11_get F j_3 x3 h).bind fun c_4 =>
    if c_4 = x1 then (
      (h.2 a0 2).bind fun j_7 =>
      (X11_get F j_7 x3 h).bind fun c_8 =>
      (h.2 a0 3).bind fun j_10 =>
      (X11_get F j_10 x3 h).bind fun c_11 =>
      bq (X1_reckon F a0 c_8 c_11 a2 h) fun c_13 h_14 =>
      if c_13 = 0 then (
        X1_someHolds_48 F (X1_someHolds_2 F f) a0 x1 a2 x3 h_14
      ) else (
        some (1, h_14)
      )
    ) else (
      X1_someHolds_48 F (X1_someHolds_2 F f) a0 x1 a2 x3 h
    )
  )
def X1_someHolds (F : Nat) (a0 : Nat) (x1 : Int32) (a2 : Nat) (h : Hp) : Option (Int32 × Hp) :=
  X1_someHolds_2 F F a0 x1 a2 0 h
def X1_amount_87 (F : Nat) (k3 : Nat → Int32 → Int32 → Nat → Int32 → Hp → Option (Int32 × Hp)) (a0 : Nat) (x1 : Int32) (x2 : Int32) (a3 : Nat) (x4 : Int32) (h : Hp) : Option (Int32 × Hp) :=
  bd (x4 + 1) fun x4_1 =>
  k3 a0 x1 x2 a3 x4_1 h
def X1_amount_3 (F : Nat) : Nat → Nat → Int32 → Int32 → Nat → Int32 → Hp → Option (Int32 × Hp)
  | 0, _, _, _, _, _, _ => none
  | f + 1, a0, x1, x2, a3, x4, h =>
  gq (kd a0 = (0, 1)) <|
  if (h.1 a0 7) ≤ x4 then (
    some (0, h)
  ) else (
    (h.2 a0 0).bind fun j_3 =>
    (X11_get F j_3 x4 h).bind fun c_4 =>
    if c_4 = x1 then (
      (h.2 a0 2).bind fun j_7 =>
      (X11_get F j_7 x4 h).bind fun c_8 =>
      (h.2 a0 3).bind fun j_10 =>
      (X11_get F j_10 x4 h).bind fun c_11 =>
      bq (X1_reckon F a0 c_8 c_11 a3 h) fun c_13 h_14 =>
      if c_13 = 0 then (
        X1_amount_87 F (X1_amount_3 F f) a0 x1 x2 a3 x4 h_14
      ) else (
        (h_14.2 a0 1).bind fun j_16 =>
        (X11_get F j_16 x4 h_14).bind fun c_17 =>
        (h_14.2 a0 2).bind fun j_19 =>
        (X11_get F j_19 x4 h_14).bind fun c_20 =>
        bq (X1_reckon F a0 c_17 c_20 a3 h_14) fun c_22 h_23 =>
        some ((imax 0 (imin c_22 x2)), h_23)
      )
    ) else (
      X1_amount_87 F (X1_amount_3 F f) a0 x1 x2 a3 x4 h
    )
  )
def X1_amount (F : Nat) (a0 : Nat) (x1 : Int32) (x2 : Int32) (a3 : Nat) (h : Hp) : Option (Int32 × Hp) :=
  X1_amount_3 F F a0 x1 x2 a3 0 h
def X9_sign (F : Nat) (a0 : Nat) (h : Hp) : Option Int32 :=
  gq (kd a0 = (0, 8)) <|
  (X9_at F a0 (h.1 a0 2) h).bind fun c_2 =>
  some c_2
def X9_refuse (F : Nat) (a0 : Nat) (x1 : Int32) (x2 : Int32) (h : Hp) : Option Hp :=
  gq (kd a0 = (0, 8)) <|
  if (h.1 a0 3) = 0 then (
    bd (up h a0 3 (((-1000) * x1) - x2)) fun h_3 =>
    some h_3
  ) else (
    some h
  )
def X9_sound (F : Nat) (a0 : Nat) (h : Hp) : Option Int32 :=
  gq (kd a0 = (0, 8)) <|
  if (h.1 a0 3) = 0 then (
    some 1
  ) else (
    some 0
  )
def X2_opens_15 (F : Nat) (a0 : Nat) (h : Hp) : Option (Int32 × Hp) :=
  gq (kd a0 = (0, 8)) <|
  (X9_sound F a0 h).bind fun c_2 =>
  if c_2 = 0 then (
    some (0, h)
  ) else (
    bd (up h a0 2 ((h.1 a0 2) + 1)) fun h_5 =>
    some (1, h_5)
  )
def X2_opens (F : Nat) (a0 : Nat) (x1 : Int32) (h : Hp) : Option (Int32 × Hp) :=
  if x1 < 6 then (
    X2_opens_15 F a0 h
  ) else (
    gq (kd a0 = (0, 8)) <|
    (X9_refuse F a0 5 (h.1 a0 2) h).bind fun h_4 =>
    X2_opens_15 F a0 h_4
  )
def X9_pass_28 (F : Nat) (a0 : Nat) (h : Hp) : Option Hp :=
  gq (kd a0 = (0, 8)) <|
  (X9_refuse F a0 1 (h.1 a0 2) h).bind fun h_3 =>
  some h_3
def X9_pass (F : Nat) (a0 : Nat) (x1 : Int32) (h : Hp) : Option Hp :=
  gq (kd a0 = (0, 8)) <|
  (X9_sound F a0 h).bind fun c_2 =>
  if c_2 = 0 then (
    X9_pass_28 F a0 h
  ) else (
    (X9_sign F a0 h).bind fun c_5 =>
    if c_5 = x1 then (
      bd (up h a0 2 ((h.1 a0 2) + 1)) fun h_8 =>
      some h_8
    ) else (
      X9_pass_28 F a0 h
    )
  )
def X9_digit (F : Nat) (a0 : Nat) (h : Hp) : Option Int32 :=
  gq (kd a0 = (0, 8)) <|
  (X9_at F a0 (h.1 a0 2) h).bind fun c_2 =>
  if c_2 < 48 then (
    some 0
  ) else (
    if 57 < c_2 then (
      some 0
    ) else (
      some 1
    )
  )
def X9_readNumber_67 (F : Nat) (a0 : Nat) (x2 : Int32) (h : Hp) : Option (Int32 × Hp) :=
  gq (kd a0 = (0, 8)) <|
  (X9_digit F a0 h).bind fun c_2 =>
  if c_2 = 0 then (
    some (x2, h)
  ) else (
    (X9_refuse F a0 2 (h.1 a0 2) h).bind fun h_6 =>
    some (x2, h_6)
  )
def X9_readNumber_22 (F : Nat) : Nat → Nat → Int32 → Int32 → Int32 → Hp → Option (Int32 × Hp)
  | 0, _, _, _, _, _ => none
  | f + 1, a0, x1, x2, x3, h =>
  if x1 ≤ x3 then (
    X9_readNumber_67 F a0 x2 h
  ) else (
    gq (kd a0 = (0, 8)) <|
    (X9_digit F a0 h).bind fun c_3 =>
    if c_3 = 0 then (
      X9_readNumber_67 F a0 x2 h
    ) else (
      (X9_at F a0 (h.1 a0 2) h).bind fun c_6 =>
      bd ((((x2 * 10) + c_6) - 48)) fun x2_8 =>
      bd (up h a0 2 ((h.1 a0 2) + 1)) fun h_9 =>
      bd (x3 + 1) fun x3_10 =>
      X9_readNumber_22 F f a0 x1 x2_8 x3_10 h_9
    )
  )
def X9_readNumber (F : Nat) (a0 : Nat) (x1 : Int32) (h : Hp) : Option (Int32 × Hp) :=
  gq (kd a0 = (0, 8)) <|
  (X9_digit F a0 h).bind fun c_2 =>
  if c_2 = 0 then (
    (X9_refuse F a0 1 (h.1 a0 2) h).bind fun h_6 =>
    some (0, h_6)
  ) else (
    X9_readNumber_22 F F a0 x1 0 0 h
  )
def X3_placeOf (F : Nat) (x0 : Int32) (h : Hp) : Option Int32 :=
  bd (x0) fun t_1 =>
  if t_1 = 97 then (
    some 1
  ) else (
  if t_1 = 98 then (
    some 2
  ) else (
  if t_1 = 99 then (
    some (-1)
  ) else (
  if t_1 = 100 then (
    some (-1)
  ) else (
  if t_1 = 101 then (
    some 0
  ) else (
  if t_1 = 102 then (
    some (-1)
  ) else (
  if t_1 = 103 then (
    some 3
  ) else (
  if t_1 = 104 then (
    some 4
  ) else (
  if t_1 = 105 then (
    some (-1)
  ) else (
  if t_1 = 106 then (
    some (-1)
  ) else (
  if t_1 = 107 then (
    some 6
  ) else (
  if t_1 = 108 then (
    some (-1)
  ) else (
  if t_1 = 109 then (
    some (-1)
  ) else (
  if t_1 = 110 then (
    some (-1)
  ) else (
  if t_1 = 111 then (
    some (-1)
  ) else (
  if t_1 = 112 then (
    some (-1)
  ) else (
  if t_1 = 113 then (
    some (-1)
  ) else (
  if t_1 = 114 then (
    some 8
  ) else (
  if t_1 = 115 then (
    some 5
  ) else (
  if t_1 = 116 then (
    some 7
  ) else (
  some (-1)
  ))))))))))))))))))))
def X9_either_37 (F : Nat) (a0 : Nat) (x4 : Int32) (h : Hp) : Option (Int32 × Hp) :=
  gq (kd a0 = (0, 8)) <|
  bd (up h a0 2 ((h.1 a0 2) + 1)) fun h_2 =>
  some (x4, h_2)
def X9_either (F : Nat) (a0 : Nat) (x1 : Int32) (x2 : Int32) (x3 : Int32) (h : Hp) : Option (Int32 × Hp) :=
  gq (kd a0 = (0, 8)) <|
  (X9_at F a0 (h.1 a0 2) h).bind fun c_2 =>
  (X9_sound F a0 h).bind fun c_4 =>
  if c_4 = 0 then (
    some (0, h)
  ) else (
    if c_2 = x1 then (
      X9_either_37 F a0 c_2 h
    ) else (
      if c_2 = x2 then (
        X9_either_37 F a0 c_2 h
      ) else (
        if c_2 = x3 then (
          X9_either_37 F a0 c_2 h
        ) else (
          some (0, h)
        )
      )
    )
  )
def X2_readFactor (F : Nat) (rc : Nat → Nat → Nat → Int32 → Hp → Option Hp) (a0 : Nat) (a1 : Nat) (x2 : Int32) (h : Hp) : Option Hp :=
  gq (kd a1 = (0, 8)) <|
  (X9_sign F a1 h).bind fun c_2 =>
  if c_2 = 91 then (
    bq (X2_opens F a1 x2 h) fun c_28 h_29 =>
    if c_28 = 0 then (
      some h_29
    ) else (
      gq (kd a0 = (0, 2)) <|
      (rc 2 a0 a1 (x2 + 1) h_29).bind fun h_33 =>
      (X9_pass F a1 93 h_33).bind fun h_35 =>
      some h_35
    )
  ) else (
    (X9_digit F a1 h).bind fun c_5 =>
    if c_5 = 0 then (
      (X9_sign F a1 h).bind fun c_8 =>
      (X3_placeOf F c_8 h).bind fun c_10 =>
      if 0 ≤ c_10 then (
        bd (up h a1 2 ((h.1 a1 2) + 1)) fun h_13 =>
        gq (kd a0 = (0, 2)) <|
        (h_13.2 a0 0).bind fun j_15 =>
        gq (kd j_15 = (0, 1)) <|
        bq (X1_add F j_15 97 c_10 h_13) fun c_17 h_18 =>
        some h_18
      ) else (
        (X9_refuse F a1 1 (h.1 a1 2) h).bind fun h_20 =>
        some h_20
      )
    ) else (
      gq (kd a0 = (0, 2)) <|
      (h.2 a0 0).bind fun j_22 =>
      bq (X9_readNumber F a1 5 h) fun c_23 h_24 =>
      gq (kd j_22 = (0, 1)) <|
      bq (X1_add F j_22 48 c_23 h_24) fun c_26 h_27 =>
      some h_27
    )
  )
def X2_readProduct_20 (F : Nat) (rc : Nat → Nat → Nat → Int32 → Hp → Option Hp) : Nat → Nat → Nat → Int32 → Int32 → Int32 → Hp → Option Hp
  | 0, _, _, _, _, _, _ => none
  | f + 1, a0, a1, x2, x3, x4, h =>
  if 240 ≤ x4 then (
    some h
  ) else (
    if x3 = 0 then (
      some h
    ) else (
      gq (kd a0 = (0, 2)) <|
      (rc 0 a0 a1 x2 h).bind fun h_5 =>
      (h_5.2 a0 0).bind fun j_6 =>
      gq (kd j_6 = (0, 1)) <|
      bq (X1_add F j_6 x3 0 h_5) fun c_8 h_9 =>
      gq (kd a1 = (0, 8)) <|
      bq (X9_either F a1 42 47 37 h_9) fun c_11 h_12 =>
      bd (x4 + 1) fun x4_13 =>
      X2_readProduct_20 F rc f a0 a1 x2 c_11 x4_13 h_12
    )
  )
def X2_readProduct (F : Nat) (rc : Nat → Nat → Nat → Int32 → Hp → Option Hp) (a0 : Nat) (a1 : Nat) (x2 : Int32) (h : Hp) : Option Hp :=
  gq (kd a0 = (0, 2)) <|
  (rc 0 a0 a1 x2 h).bind fun h_3 =>
  gq (kd a1 = (0, 8)) <|
  bq (X9_either F a1 42 47 37 h_3) fun c_5 h_6 =>
  X2_readProduct_20 F rc F a0 a1 x2 c_5 0 h_6
def X2_readSum_20 (F : Nat) (rc : Nat → Nat → Nat → Int32 → Hp → Option Hp) : Nat → Nat → Nat → Int32 → Int32 → Int32 → Hp → Option Hp
  | 0, _, _, _, _, _, _ => none
  | f + 1, a0, a1, x2, x3, x4, h =>
  if 240 ≤ x4 then (
    some h
  ) else (
    if x3 = 0 then (
      some h
    ) else (
      gq (kd a0 = (0, 2)) <|
      (rc 1 a0 a1 x2 h).bind fun h_5 =>
      (h_5.2 a0 0).bind fun j_6 =>
      gq (kd j_6 = (0, 1)) <|
      bq (X1_add F j_6 x3 0 h_5) fun c_8 h_9 =>
      gq (kd a1 = (0, 8)) <|
      bq (X9_either F a1 43 45 45 h_9) fun c_11 h_12 =>
      bd (x4 + 1) fun x4_13 =>
      X2_readSum_20 F rc f a0 a1 x2 c_11 x4_13 h_12
    )
  )
def X2_readSum (F : Nat) (rc : Nat → Nat → Nat → Int32 → Hp → Option Hp) (a0 : Nat) (a1 : Nat) (x2 : Int32) (h : Hp) : Option Hp :=
  gq (kd a0 = (0, 2)) <|
  (rc 1 a0 a1 x2 h).bind fun h_3 =>
  gq (kd a1 = (0, 8)) <|
  bq (X9_either F a1 43 45 45 h_3) fun c_5 h_6 =>
  X2_readSum_20 F rc F a0 a1 x2 c_5 0 h_6
def G0 (F : Nat) : Nat → Nat → Nat → Nat → Int32 → Hp → Option Hp
  | 0, _, _, _, _, _ => none
  | G + 1, tag, a0, a1, x2, h => if tag = 0 then X2_readFactor F (G0 F G) a0 a1 x2 h else if tag = 1 then X2_readProduct F (G0 F G) a0 a1 x2 h else if tag = 2 then X2_readSum F (G0 F G) a0 a1 x2 h else none
def X9_goesOn (F : Nat) (a0 : Nat) (x1 : Int32) (h : Hp) : Option (Int32 × Hp) :=
  gq (kd a0 = (0, 8)) <|
  bq (X9_either F a0 x1 x1 x1 h) fun c_2 h_3 =>
  if c_2 = 0 then (
    some (0, h_3)
  ) else (
    some (1, h_3)
  )
def X2_readPart_8 (F : Nat) (rc : Nat → Nat → Nat → Int32 → Hp → Option Hp) : Nat → Nat → Nat → Int32 → Int32 → Hp → Option Hp
  | 0, _, _, _, _, _ => none
  | f + 1, a0, a1, x2, x3, h =>
  if 240 ≤ x3 then (
    some h
  ) else (
    gq (kd a1 = (0, 8)) <|
    bq (X9_goesOn F a1 38 h) fun c_3 h_4 =>
    if c_3 = 0 then (
      some h_4
    ) else (
      gq (kd a0 = (0, 2)) <|
      (h_4.2 a0 0).bind fun j_7 =>
      gq (kd j_7 = (0, 1)) <|
      bq (X1_add F j_7 38 0 h_4) fun c_9 h_10 =>
      (rc 2 a0 a1 x2 h_10).bind fun h_12 =>
      (h_12.2 a0 0).bind fun j_13 =>
      gq (kd j_13 = (0, 1)) <|
      (X1_aim F j_13 c_9 h_12).bind fun h_16 =>
      bd (x3 + 1) fun x3_17 =>
      X2_readPart_8 F rc f a0 a1 x2 x3_17 h_16
    )
  )
def X2_readPart (F : Nat) (rc : Nat → Nat → Nat → Int32 → Hp → Option Hp) (a0 : Nat) (a1 : Nat) (x2 : Int32) (h : Hp) : Option Hp :=
  gq (kd a0 = (0, 2)) <|
  (rc 2 a0 a1 x2 h).bind fun h_3 =>
  X2_readPart_8 F rc F a0 a1 x2 0 h_3
def X2_readParts_8 (F : Nat) (rc : Nat → Nat → Nat → Int32 → Hp → Option Hp) : Nat → Nat → Nat → Int32 → Int32 → Hp → Option Hp
  | 0, _, _, _, _, _ => none
  | f + 1, a0, a1, x2, x3, h =>
  if 240 ≤ x3 then (
    some h
  ) else (
    gq (kd a1 = (0, 8)) <|
    bq (X9_goesOn F a1 124 h) fun c_3 h_4 =>
    if c_3 = 0 then (
      some h_4
    ) else (
      gq (kd a0 = (0, 2)) <|
      (h_4.2 a0 0).bind fun j_7 =>
      gq (kd j_7 = (0, 1)) <|
      bq (X1_add F j_7 124 0 h_4) fun c_9 h_10 =>
      (rc 0 a0 a1 x2 h_10).bind fun h_12 =>
      (h_12.2 a0 0).bind fun j_13 =>
      gq (kd j_13 = (0, 1)) <|
      (X1_aim F j_13 c_9 h_12).bind fun h_16 =>
      bd (x3 + 1) fun x3_17 =>
      X2_readParts_8 F rc f a0 a1 x2 x3_17 h_16
    )
  )
def X2_readParts (F : Nat) (rc : Nat → Nat → Nat → Int32 → Hp → Option Hp) (a0 : Nat) (a1 : Nat) (x2 : Int32) (h : Hp) : Option Hp :=
  gq (kd a0 = (0, 2)) <|
  (rc 0 a0 a1 x2 h).bind fun h_3 =>
  X2_readParts_8 F rc F a0 a1 x2 0 h_3
def X2_readTest (F : Nat) (rc : Nat → Nat → Nat → Int32 → Hp → Option Hp) (a0 : Nat) (a1 : Nat) (x2 : Int32) (h : Hp) : Option Hp :=
  gq (kd a1 = (0, 8)) <|
  (X9_sign F a1 h).bind fun c_2 =>
  if c_2 = 33 then (
    bq (X2_opens F a1 x2 h) fun c_30 h_31 =>
    if c_30 = 0 then (
      some h_31
    ) else (
      gq (kd a0 = (0, 2)) <|
      (rc 2 a0 a1 (x2 + 1) h_31).bind fun h_35 =>
      (h_35.2 a0 0).bind fun j_36 =>
      gq (kd j_36 = (0, 1)) <|
      bq (X1_add F j_36 33 0 h_35) fun c_38 h_39 =>
      some h_39
    )
  ) else (
    (X9_sign F a1 h).bind fun c_5 =>
    if c_5 = 40 then (
      bq (X2_opens F a1 x2 h) fun c_22 h_23 =>
      if c_22 = 0 then (
        some h_23
      ) else (
        gq (kd a0 = (0, 2)) <|
        (rc 1 a0 a1 (x2 + 1) h_23).bind fun h_27 =>
        (X9_pass F a1 41 h_27).bind fun h_29 =>
        some h_29
      )
    ) else (
      gq (kd a0 = (0, 2)) <|
      (G0 F 60 2 a0 a1 x2 h).bind fun h_10 =>
      bq (X9_either F a1 60 62 61 h_10) fun c_11 h_12 =>
      if c_11 = 0 then (
        (X9_refuse F a1 1 (h_12.1 a1 2) h_12).bind fun h_21 =>
        some h_21
      ) else (
        (G0 F 60 2 a0 a1 x2 h_12).bind fun h_15 =>
        (h_15.2 a0 0).bind fun j_16 =>
        gq (kd j_16 = (0, 1)) <|
        bq (X1_add F j_16 c_11 0 h_15) fun c_18 h_19 =>
        some h_19
      )
    )
  )
def G1 (F : Nat) : Nat → Nat → Nat → Nat → Int32 → Hp → Option Hp
  | 0, _, _, _, _, _ => none
  | G + 1, tag, a0, a1, x2, h => if tag = 0 then X2_readPart F (G1 F G) a0 a1 x2 h else if tag = 1 then X2_readParts F (G1 F G) a0 a1 x2 h else if tag = 2 then X2_readTest F (G1 F G) a0 a1 x2 h else none
def X2_readRule_97 (F : Nat) (a0 : Nat) (a1 : Nat) (h : Hp) : Option Hp :=
  gq (kd a0 = (0, 2)) <|
  (h.2 a0 0).bind fun j_2 =>
  gq (kd j_2 = (0, 1)) <|
  (X1_beginTest F j_2 h).bind fun h_5 =>
  gq (kd a1 = (0, 8)) <|
  (X9_pass F a1 40 h_5).bind fun h_8 =>
  (G1 F 60 1 a0 a1 1 h_8).bind fun h_10 =>
  (X9_pass F a1 41 h_10).bind fun h_12 =>
  (h_12.2 a0 0).bind fun j_13 =>
  gq (kd j_13 = (0, 1)) <|
  (X1_endRule F j_13 h_12).bind fun h_16 =>
  some h_16
def X2_readRule_45 (F : Nat) (a0 : Nat) (a1 : Nat) (x2 : Int32) (h : Hp) : Option Hp :=
  gq (kd a0 = (0, 2)) <|
  (h.2 a0 0).bind fun j_2 =>
  gq (kd j_2 = (0, 1)) <|
  if (h.1 j_2 7) < 16 then (
    gq (kd a1 = (0, 8)) <|
    bd (up h a1 2 ((h.1 a1 2) + 1)) fun h_6 =>
    (X1_beginRule F j_2 x2 h_6).bind fun h_8 =>
    if x2 = 120 then (
      X2_readRule_97 F a0 a1 h_8
    ) else (
      (G0 F 60 2 a0 a1 0 h_8).bind fun h_11 =>
      X2_readRule_97 F a0 a1 h_11
    )
  ) else (
    gq (kd a1 = (0, 8)) <|
    (X9_refuse F a1 4 (h.1 a1 2) h).bind fun h_14 =>
    some h_14
  )
def X2_readRule (F : Nat) (a0 : Nat) (a1 : Nat) (h : Hp) : Option Hp :=
  gq (kd a1 = (0, 8)) <|
  (X9_sign F a1 h).bind fun c_2 =>
  if c_2 = 119 then (
    X2_readRule_45 F a0 a1 c_2 h
  ) else (
    if c_2 = 99 then (
      X2_readRule_45 F a0 a1 c_2 h
    ) else (
      if c_2 = 105 then (
        X2_readRule_45 F a0 a1 c_2 h
      ) else (
        if c_2 = 110 then (
          X2_readRule_45 F a0 a1 c_2 h
        ) else (
          if c_2 = 120 then (
            X2_readRule_45 F a0 a1 c_2 h
          ) else (
            (X9_refuse F a1 1 (h.1 a1 2) h).bind fun h_10 =>
            some h_10
          )
        )
      )
    )
  )
def X9_mustEnd (F : Nat) (a0 : Nat) (h : Hp) : Option Hp :=
  gq (kd a0 = (0, 8)) <|
  if (h.1 a0 1) ≤ (h.1 a0 2) then (
    some h
  ) else (
    (X9_refuse F a0 1 (h.1 a0 2) h).bind fun h_4 =>
    some h_4
  )
def X2_readAll_41 (F : Nat) (a1 : Nat) (h : Hp) : Option Hp :=
  gq (kd a1 = (0, 8)) <|
  (X9_mustEnd F a1 h).bind fun h_3 =>
  some h_3
def X2_readAll_14 (F : Nat) : Nat → Nat → Nat → Int32 → Hp → Option Hp
  | 0, _, _, _, _ => none
  | f + 1, a0, a1, x2, h =>
  if 240 ≤ x2 then (
    X2_readAll_41 F a1 h
  ) else (
    gq (kd a1 = (0, 8)) <|
    bq (X9_goesOn F a1 59 h) fun c_3 h_4 =>
    if c_3 = 0 then (
      X2_readAll_41 F a1 h_4
    ) else (
      gq (kd a0 = (0, 2)) <|
      (X2_readRule F a0 a1 h_4).bind fun h_8 =>
      bd (x2 + 1) fun x2_9 =>
      X2_readAll_14 F f a0 a1 x2_9 h_8
    )
  )
def X2_readAll (F : Nat) (a0 : Nat) (a1 : Nat) (h : Hp) : Option Hp :=
  gq (kd a0 = (0, 2)) <|
  (h.2 a0 0).bind fun j_2 =>
  gq (kd j_2 = (0, 1)) <|
  (X1_empty F j_2 h).bind fun h_5 =>
  (X2_readRule F a0 a1 h_5).bind fun h_7 =>
  X2_readAll_14 F F a0 a1 0 h_7
def X2_exchange (F : Nat) (a0 : Nat) (a1 : Nat) (h : Hp) : Option (Nat × Hp) :=
  gq (kd a0 = (0, 2)) <|
  (h.2 a0 0).bind fun j_2 =>
  bd (ur h a0 0 a1) fun h_3 =>
  some (j_2, h_3)
def X11_within (F : Nat) (x0 : Int32) (x1 : Int32) (x2 : Int32) (h : Hp) : Option Int32 :=
  if x0 < x1 then (
    some 0
  ) else (
    if x2 < x0 then (
      some 0
    ) else (
      some 1
    )
  )
def X9_readBounded (F : Nat) (a0 : Nat) (x1 : Int32) (x2 : Int32) (x3 : Int32) (h : Hp) : Option (Int32 × Hp) :=
  gq (kd a0 = (0, 8)) <|
  bd ((h.1 a0 2)) fun x4_2 =>
  bq (X9_readNumber F a0 x1 h) fun c_3 h_4 =>
  (X11_within F c_3 x2 x3 h_4).bind fun c_5 =>
  if c_5 = 0 then (
    (X9_refuse F a0 3 x4_2 h_4).bind fun h_9 =>
    some (c_3, h_9)
  ) else (
    some (c_3, h_4)
  )
def X4_readDeed_16 (F : Nat) (a0 : Nat) (a1 : Nat) (r0 : Nat) (s1 : Int32) (s2 : Int32) (s3 : Int32) (h : Hp) : Option Hp :=
  gq (kd r0 = (0, 8)) <|
  bq (X9_either F r0 s1 s2 s3 h) fun c_2 h_3 =>
  gq (kd a0 = (0, 3)) <|
  (h_3.2 a0 1).bind fun j_5 =>
  (X11_put F j_5 (h_3.1 a0 4) c_2 h_3).bind fun h_7 =>
  if c_2 = 0 then (
    gq (kd a1 = (0, 8)) <|
    (X9_refuse F a1 1 (h_7.1 a1 2) h_7).bind fun h_31 =>
    some h_31
  ) else (
    if c_2 = 98 then (
      (h_7.2 a0 2).bind fun j_16 =>
      gq (kd a1 = (0, 8)) <|
      bq (X9_readBounded F a1 4 1 20 h_7) fun c_18 h_19 =>
      (X11_put F j_16 (h_7.1 a0 4) c_18 h_19).bind fun h_21 =>
      (X9_pass F a1 58 h_21).bind fun h_23 =>
      (h_23.2 a0 3).bind fun j_24 =>
      bq (X9_readBounded F a1 4 0 255 h_23) fun c_25 h_26 =>
      (X11_put F j_24 (h_23.1 a0 4) c_25 h_26).bind fun h_28 =>
      some h_28
    ) else (
      (h_7.2 a0 3).bind fun j_10 =>
      gq (kd a1 = (0, 8)) <|
      bq (X9_readNumber F a1 4 h_7) fun c_12 h_13 =>
      (X11_put F j_10 (h_7.1 a0 4) c_12 h_13).bind fun h_15 =>
      some h_15
    )
  )
def X4_readDeed (F : Nat) (a0 : Nat) (a1 : Nat) (x2 : Int32) (h : Hp) : Option Hp :=
  if x2 = 0 then (
    X4_readDeed_16 F a0 a1 a1 43 45 45 h
  ) else (
    X4_readDeed_16 F a0 a1 a1 43 45 98 h
  )
def X4_readLine_49 (F : Nat) (a0 : Nat) (a1 : Nat) (x2 : Int32) (x3 : Int32) (h : Hp) : Option Hp :=
  gq (kd a0 = (0, 3)) <|
  if (h.1 a0 4) < 20 then (
    gq (kd a1 = (0, 8)) <|
    bd (up h a1 2 ((h.1 a1 2) + 1)) fun h_4 =>
    (h_4.2 a0 0).bind fun j_5 =>
    (X11_put F j_5 (h_4.1 a0 4) x2 h_4).bind fun h_7 =>
    (X4_readDeed F a0 a1 x3 h_7).bind fun h_9 =>
    bd (up h_9 a0 4 ((h_9.1 a0 4) + 1)) fun h_10 =>
    some h_10
  ) else (
    gq (kd a1 = (0, 8)) <|
    (X9_refuse F a1 4 (h.1 a1 2) h).bind fun h_13 =>
    some h_13
  )
def X4_readLine_22 (F : Nat) (a0 : Nat) (a1 : Nat) (x2 : Int32) (s0 : Int32) (h : Hp) : Option Hp :=
  if s0 = 0 then (
    if x2 = 115 then (
      X4_readLine_49 F a0 a1 x2 s0 h
    ) else (
      if x2 = 100 then (
        X4_readLine_49 F a0 a1 x2 s0 h
      ) else (
        gq (kd a1 = (0, 8)) <|
        (X9_refuse F a1 1 (h.1 a1 2) h).bind fun h_6 =>
        some h_6
      )
    )
  ) else (
    X4_readLine_49 F a0 a1 x2 s0 h
  )
def X4_readLine_17 (F : Nat) (a0 : Nat) (a1 : Nat) (x2 : Int32) (h : Hp) : Option Hp :=
  X4_readLine_22 F a0 a1 x2 1 h
def X4_readLine (F : Nat) (a0 : Nat) (a1 : Nat) (h : Hp) : Option Hp :=
  gq (kd a1 = (0, 8)) <|
  (X9_sign F a1 h).bind fun c_2 =>
  if c_2 = 108 then (
    X4_readLine_17 F a0 a1 c_2 h
  ) else (
    if c_2 = 114 then (
      X4_readLine_17 F a0 a1 c_2 h
    ) else (
      X4_readLine_22 F a0 a1 c_2 0 h
    )
  )
def X4_readAll_38 (F : Nat) (a1 : Nat) (h : Hp) : Option Hp :=
  gq (kd a1 = (0, 8)) <|
  (X9_mustEnd F a1 h).bind fun h_3 =>
  some h_3
def X4_readAll_12 (F : Nat) : Nat → Nat → Nat → Int32 → Hp → Option Hp
  | 0, _, _, _, _ => none
  | f + 1, a0, a1, x2, h =>
  if 120 ≤ x2 then (
    X4_readAll_38 F a1 h
  ) else (
    gq (kd a1 = (0, 8)) <|
    bq (X9_goesOn F a1 59 h) fun c_3 h_4 =>
    if c_3 = 0 then (
      X4_readAll_38 F a1 h_4
    ) else (
      gq (kd a0 = (0, 3)) <|
      (X4_readLine F a0 a1 h_4).bind fun h_8 =>
      bd (x2 + 1) fun x2_9 =>
      X4_readAll_12 F f a0 a1 x2_9 h_8
    )
  )
def X4_readAll (F : Nat) (a0 : Nat) (a1 : Nat) (h : Hp) : Option Hp :=
  gq (kd a0 = (0, 3)) <|
  bd (up h a0 4 0) fun h_2 =>
  (X4_readLine F a0 a1 h_2).bind fun h_4 =>
  X4_readAll_12 F F a0 a1 0 h_4
def X8_putBench (F : Nat) (a0 : Nat) (x1 : Int32) (x2 : Int32) (x3 : Int32) (h : Hp) : Option Hp :=
  gq (kd a0 = (0, 7)) <|
  (h.2 a0 2).bind fun j_2 =>
  (X11_put F j_2 (((x1 * 20) + x2) - 1) x3 h).bind fun h_4 =>
  some h_4
def X8_bounded (F : Nat) (x0 : Int32) (x1 : Int32) (h : Hp) : Option Int32 :=
  some (imax 0 (imin x0 x1))
def X8_addStore (F : Nat) (a0 : Nat) (x1 : Int32) (h : Hp) : Option Hp :=
  gq (kd a0 = (0, 7)) <|
  (X8_bounded F ((h.1 a0 3) + x1) 99999 h).bind fun c_2 =>
  bd (up h a0 3 c_2) fun h_4 =>
  some h_4
def X8_addDebt (F : Nat) (a0 : Nat) (x1 : Int32) (h : Hp) : Option Hp :=
  gq (kd a0 = (0, 7)) <|
  (X8_bounded F ((h.1 a0 4) + x1) 999999 h).bind fun c_2 =>
  bd (up h a0 4 c_2) fun h_4 =>
  some h_4
def X8_laidOn (F : Nat) (a0 : Nat) (x1 : Int32) (h : Hp) : Option Int32 :=
  if x1 = 0 then (
    gq (kd a0 = (0, 7)) <|
    some (h.1 a0 0)
  ) else (
    gq (kd a0 = (0, 7)) <|
    some (h.1 a0 1)
  )
def X8_setLaid (F : Nat) (a0 : Nat) (x1 : Int32) (x2 : Int32) (h : Hp) : Option Hp :=
  if x1 = 0 then (
    gq (kd a0 = (0, 7)) <|
    bd (up h a0 0 x2) fun h_5 =>
    some h_5
  ) else (
    gq (kd a0 = (0, 7)) <|
    bd (up h a0 1 x2) fun h_3 =>
    some h_3
  )
def X8_lay (F : Nat) (a0 : Nat) (x1 : Int32) (x2 : Int32) (h : Hp) : Option Hp :=
  gq (kd a0 = (0, 7)) <|
  (X8_laidOn F a0 x1 h).bind fun c_2 =>
  (X8_bounded F (c_2 + x2) 9999 h).bind fun c_4 =>
  (X8_setLaid F a0 x1 c_4 h).bind fun h_7 =>
  some h_7
def X4_obey_135 (F : Nat) (k2 : Nat → Nat → Int32 → Hp → Option Hp) (a0 : Nat) (a1 : Nat) (x2 : Int32) (h : Hp) : Option Hp :=
  bd (x2 + 1) fun x2_1 =>
  k2 a0 a1 x2_1 h
def X4_obey_63 (F : Nat) (k2 : Nat → Nat → Int32 → Hp → Option Hp) (a0 : Nat) (a1 : Nat) (x2 : Int32) (x3 : Int32) (x4 : Int32) (x5 : Int32) (s0 : Int32) (h : Hp) : Option Hp :=
  gq (kd a0 = (0, 3)) <|
  (h.2 a0 1).bind fun j_2 =>
  (X11_get F j_2 x2 h).bind fun c_3 =>
  if c_3 = 98 then (
    (h.2 a0 2).bind fun j_17 =>
    (X11_get F j_17 x2 h).bind fun c_18 =>
    gq (kd a1 = (0, 7)) <|
    (X8_putBench F a1 x4 c_18 x5 h).bind fun h_22 =>
    X4_obey_135 F k2 a0 a1 x2 h_22
  ) else (
    if x3 = 115 then (
      gq (kd a1 = (0, 7)) <|
      (X8_addStore F a1 s0 h).bind fun h_16 =>
      X4_obey_135 F k2 a0 a1 x2 h_16
    ) else (
      if x3 = 100 then (
        gq (kd a1 = (0, 7)) <|
        (X8_addDebt F a1 s0 h).bind fun h_13 =>
        X4_obey_135 F k2 a0 a1 x2 h_13
      ) else (
        gq (kd a1 = (0, 7)) <|
        (X8_lay F a1 x4 s0 h).bind fun h_10 =>
        X4_obey_135 F k2 a0 a1 x2 h_10
      )
    )
  )
def X4_obey_30 (F : Nat) (k2 : Nat → Nat → Int32 → Hp → Option Hp) (a0 : Nat) (a1 : Nat) (x2 : Int32) (x3 : Int32) (s0 : Int32) (h : Hp) : Option Hp :=
  gq (kd a0 = (0, 3)) <|
  (h.2 a0 3).bind fun j_2 =>
  (X11_get F j_2 x2 h).bind fun c_3 =>
  (h.2 a0 1).bind fun j_5 =>
  (X11_get F j_5 x2 h).bind fun c_6 =>
  if c_6 = 45 then (
    X4_obey_63 F k2 a0 a1 x2 x3 s0 c_3 (-c_3) h
  ) else (
    X4_obey_63 F k2 a0 a1 x2 x3 s0 c_3 c_3 h
  )
def X4_obey_2 (F : Nat) : Nat → Nat → Nat → Int32 → Hp → Option Hp
  | 0, _, _, _, _ => none
  | f + 1, a0, a1, x2, h =>
  gq (kd a0 = (0, 3)) <|
  if (h.1 a0 4) ≤ x2 then (
    some h
  ) else (
    (h.2 a0 0).bind fun j_3 =>
    (X11_get F j_3 x2 h).bind fun c_4 =>
    if c_4 = 114 then (
      X4_obey_30 F (X4_obey_2 F f) a0 a1 x2 c_4 1 h
    ) else (
      X4_obey_30 F (X4_obey_2 F f) a0 a1 x2 c_4 0 h
    )
  )
def X4_obey (F : Nat) (a0 : Nat) (a1 : Nat) (h : Hp) : Option Hp :=
  X4_obey_2 F F a0 a1 0 h
def X5_renew_16 (F : Nat) : Nat → Nat → Nat → Int32 → Hp → Option Hp
  | 0, _, _, _, _ => none
  | f + 1, a0, a1, x3, h =>
  gq (kd a0 = (0, 4)) <|
  if (h.1 a0 1) < x3 then (
    some h
  ) else (
    (h.2 a0 0).bind fun j_3 =>
    (X11_get F j_3 (x3 - 1) h).bind fun c_4 =>
    (X11_get F a1 (x3 - 1) h).bind fun c_6 =>
    (X11_put F j_3 x3 (c_4 + c_6) h).bind fun h_9 =>
    bd (x3 + 1) fun x3_10 =>
    X5_renew_16 F f a0 a1 x3_10 h_9
  )
def X5_renew (F : Nat) (a0 : Nat) (a1 : Nat) (x2 : Int32) (h : Hp) : Option Hp :=
  gq (kd a0 = (0, 4)) <|
  bd (up h a0 1 (imax 0 (imin x2 20))) fun h_2 =>
  X5_renew_16 F F a0 a1 1 h_2
def X5_stonesOf (F : Nat) (a0 : Nat) (x1 : Int32) (h : Hp) : Option Int32 :=
  gq (kd a0 = (0, 4)) <|
  (h.2 a0 0).bind fun j_2 =>
  (X11_get F j_2 x1 h).bind fun c_3 =>
  (X11_get F j_2 (x1 - 1) h).bind fun c_5 =>
  some (c_3 - c_5)
def X5_stonesUpTo (F : Nat) (a0 : Nat) (x1 : Int32) (h : Hp) : Option Int32 :=
  gq (kd a0 = (0, 4)) <|
  (h.2 a0 0).bind fun j_2 =>
  (X11_get F j_2 x1 h).bind fun c_3 =>
  some c_3
def X5_whole (F : Nat) (a0 : Nat) (h : Hp) : Option Int32 :=
  gq (kd a0 = (0, 4)) <|
  (h.2 a0 0).bind fun j_2 =>
  (X11_get F j_2 (h.1 a0 1) h).bind fun c_3 =>
  some c_3
def X5_standingBy_39 (F : Nat) (a0 : Nat) (h : Hp) : Option Int32 :=
  gq (kd a0 = (0, 4)) <|
  some (h.1 a0 1)
def X5_standingBy_2 (F : Nat) : Nat → Nat → Int32 → Int32 → Hp → Option Int32
  | 0, _, _, _, _ => none
  | f + 1, a0, x1, x2, h =>
  gq (kd a0 = (0, 4)) <|
  if (h.1 a0 1) < x2 then (
    X5_standingBy_39 F a0 h
  ) else (
    (h.2 a0 0).bind fun j_3 =>
    gq ((kd j_3).1 = 1) <|
    if (Int32.ofNat (kd j_3).2) ≤ x2 then (
      X5_standingBy_39 F a0 h
    ) else (
      gq (inb x2 (kd j_3).2) <|
      if (h.1 j_3 (ix x2)) ≤ x1 then (
        bd (x2 + 1) fun x2_8 =>
        X5_standingBy_2 F f a0 x1 x2_8 h
      ) else (
        some (x2 - 1)
      )
    )
  )
def X5_standingBy (F : Nat) (a0 : Nat) (x1 : Int32) (h : Hp) : Option Int32 :=
  X5_standingBy_2 F F a0 x1 1 h
def X6_readTimes (F : Nat) (a0 : Nat) (a1 : Nat) (h : Hp) : Option (Int32 × Hp) :=
  gq (kd a1 = (0, 8)) <|
  (X9_sign F a1 h).bind fun c_2 =>
  (X11_within F c_2 50 57 h).bind fun c_4 =>
  if c_4 = 0 then (
    some (1, h)
  ) else (
    (X9_at F a1 ((h.1 a1 2) + 1) h).bind fun c_7 =>
    if c_7 = 120 then (
      bd (up h a1 2 ((h.1 a1 2) + 2)) fun h_10 =>
      some ((c_2 - 48), h_10)
    ) else (
      some (1, h)
    )
  )
def X6_addArch (F : Nat) (a0 : Nat) (x1 : Int32) (h : Hp) : Option Hp :=
  gq (kd a0 = (0, 5)) <|
  (h.2 a0 0).bind fun j_2 =>
  (X11_put F j_2 (h.1 a0 1) x1 h).bind fun h_4 =>
  bd (up h_4 a0 1 ((h_4.1 a0 1) + 1)) fun h_5 =>
  some h_5
def X6_repeat_17 (F : Nat) (k8 : Nat → Int32 → Int32 → Int32 → Int32 → Hp → Option Hp) : Nat → Nat → Int32 → Int32 → Int32 → Int32 → Int32 → Hp → Option Hp
  | 0, _, _, _, _, _, _, _ => none
  | f + 1, a0, x1, x2, x3, x4, x5, h =>
  if x3 ≤ x5 then (
    bd (x4 + 1) fun x4_2 =>
    k8 a0 x1 x2 x3 x4_2 h
  ) else (
    gq (kd a0 = (0, 5)) <|
    (h.2 a0 0).bind fun j_4 =>
    (X11_get F j_4 x5 h).bind fun c_5 =>
    (X6_addArch F a0 c_5 h).bind fun h_8 =>
    bd (x5 + 1) fun x5_9 =>
    X6_repeat_17 F k8 f a0 x1 x2 x3 x4 x5_9 h_8
  )
def X6_repeat_8 (F : Nat) : Nat → Nat → Int32 → Int32 → Int32 → Int32 → Hp → Option Hp
  | 0, _, _, _, _, _, _ => none
  | f + 1, a0, x1, x2, x3, x4, h =>
  if x2 ≤ x4 then (
    some h
  ) else (
    X6_repeat_17 F (X6_repeat_8 F f) F a0 x1 x2 x3 x4 x1 h
  )
def X6_repeat (F : Nat) (a0 : Nat) (x1 : Int32) (x2 : Int32) (h : Hp) : Option Hp :=
  gq (kd a0 = (0, 5)) <|
  bd ((h.1 a0 1)) fun x3_2 =>
  X6_repeat_8 F F a0 x1 x2 x3_2 1 h
def X6_readGroup (F : Nat) (rc : Nat → Nat → Nat → Int32 → Hp → Option Hp) (a0 : Nat) (a1 : Nat) (x2 : Int32) (h : Hp) : Option Hp :=
  if x2 < 2 then (
    gq (kd a1 = (0, 8)) <|
    (X9_pass F a1 40 h).bind fun h_4 =>
    gq (kd a0 = (0, 5)) <|
    (rc 2 a0 a1 (x2 + 1) h_4).bind fun h_7 =>
    (X9_pass F a1 41 h_7).bind fun h_9 =>
    some h_9
  ) else (
    gq (kd a1 = (0, 8)) <|
    (X9_refuse F a1 5 (h.1 a1 2) h).bind fun h_12 =>
    some h_12
  )
def X6_readItem_64 (F : Nat) (rc : Nat → Nat → Nat → Int32 → Hp → Option Hp) (a0 : Nat) (a1 : Nat) (x3 : Int32) (h : Hp) : Option Hp :=
  gq (kd a0 = (0, 5)) <|
  if (h.1 a0 1) ≤ 20 then (
    some h
  ) else (
    gq (kd a1 = (0, 8)) <|
    (X9_refuse F a1 6 x3 h).bind fun h_5 =>
    some h_5
  )
def X6_readItem_49 (F : Nat) (rc : Nat → Nat → Nat → Int32 → Hp → Option Hp) (a0 : Nat) (a1 : Nat) (x3 : Int32) (x4 : Int32) (x5 : Int32) (h : Hp) : Option Hp :=
  gq (kd a1 = (0, 8)) <|
  (X9_sound F a1 h).bind fun c_2 =>
  if c_2 = 0 then (
    X6_readItem_64 F rc a0 a1 x3 h
  ) else (
    gq (kd a0 = (0, 5)) <|
    (X6_repeat F a0 x4 x5 h).bind fun h_7 =>
    X6_readItem_64 F rc a0 a1 x3 h_7
  )
def X6_readItem (F : Nat) (rc : Nat → Nat → Nat → Int32 → Hp → Option Hp) (a0 : Nat) (a1 : Nat) (x2 : Int32) (h : Hp) : Option Hp :=
  gq (kd a1 = (0, 8)) <|
  bd ((h.1 a1 2)) fun x3_2 =>
  gq (kd a0 = (0, 5)) <|
  bd ((h.1 a0 1)) fun x4_4 =>
  bq (X6_readTimes F a0 a1 h) fun c_5 h_6 =>
  (X9_sign F a1 h_6).bind fun c_7 =>
  if c_7 = 40 then (
    (rc 0 a0 a1 x2 h_6).bind fun h_15 =>
    X6_readItem_49 F rc a0 a1 x3_2 x4_4 c_5 h_15
  ) else (
    bq (X9_readBounded F a1 3 1 255 h_6) fun c_10 h_11 =>
    (X6_addArch F a0 c_10 h_11).bind fun h_13 =>
    X6_readItem_49 F rc a0 a1 x3_2 x4_4 c_5 h_13
  )
def X6_readItems_8 (F : Nat) (rc : Nat → Nat → Nat → Int32 → Hp → Option Hp) : Nat → Nat → Nat → Int32 → Int32 → Hp → Option Hp
  | 0, _, _, _, _, _ => none
  | f + 1, a0, a1, x2, x3, h =>
  if 80 ≤ x3 then (
    some h
  ) else (
    gq (kd a1 = (0, 8)) <|
    bq (X9_goesOn F a1 44 h) fun c_3 h_4 =>
    if c_3 = 0 then (
      some h_4
    ) else (
      gq (kd a0 = (0, 5)) <|
      (rc 1 a0 a1 x2 h_4).bind fun h_8 =>
      bd (x3 + 1) fun x3_9 =>
      X6_readItems_8 F rc f a0 a1 x2 x3_9 h_8
    )
  )
def X6_readItems (F : Nat) (rc : Nat → Nat → Nat → Int32 → Hp → Option Hp) (a0 : Nat) (a1 : Nat) (x2 : Int32) (h : Hp) : Option Hp :=
  gq (kd a0 = (0, 5)) <|
  (rc 1 a0 a1 x2 h).bind fun h_3 =>
  X6_readItems_8 F rc F a0 a1 x2 0 h_3
def G2 (F : Nat) : Nat → Nat → Nat → Nat → Int32 → Hp → Option Hp
  | 0, _, _, _, _, _ => none
  | G + 1, tag, a0, a1, x2, h => if tag = 0 then X6_readGroup F (G2 F G) a0 a1 x2 h else if tag = 1 then X6_readItem F (G2 F G) a0 a1 x2 h else if tag = 2 then X6_readItems F (G2 F G) a0 a1 x2 h else none
def X6_readAll (F : Nat) (a0 : Nat) (a1 : Nat) (h : Hp) : Option Hp :=
  gq (kd a0 = (0, 5)) <|
  bd (up h a0 1 0) fun h_2 =>
  (G2 F 60 2 a0 a1 0 h_2).bind fun h_4 =>
  gq (kd a1 = (0, 8)) <|
  (X9_mustEnd F a1 h_4).bind fun h_7 =>
  some h_7
def X7_evenest_14 (F : Nat) (rc : Nat → Int32 → Int32 → Int32 → Int32 → Int32 → Hp → Option Int32) (x4 : Int32) (x5 : Int32) (h : Hp) : Option Int32 :=
  some (((iabs x4) * 16) + x5)
def X7_evenest (F : Nat) (rc : Nat → Int32 → Int32 → Int32 → Int32 → Int32 → Hp → Option Int32) (a0 : Nat) (x1 : Int32) (x2 : Int32) (x3 : Int32) (x4 : Int32) (x5 : Int32) (h : Hp) : Option Int32 :=
  gq (kd a0 = (0, 8)) <|
  if (h.1 a0 1) ≤ x1 then (
    X7_evenest_14 F rc x4 x5 h
  ) else (
    if x1 < 8 then (
      (rc a0 (x1 + 1) x2 x3 x4 x5 h).bind fun c_4 =>
      (X9_at F a0 x1 h).bind fun c_6 =>
      (rc a0 (x1 + 1) x2 x3 (x4 + (c_6 * x2)) (x5 + 1) h).bind fun c_8 =>
      (X9_at F a0 x1 h).bind fun c_10 =>
      (rc a0 (x1 + 1) x2 x3 (x4 - (c_10 * x3)) (x5 + 1) h).bind fun c_12 =>
      some (imin c_4 (imin c_8 c_12))
    ) else (
      X7_evenest_14 F rc x4 x5 h
    )
  )
def G3 (F : Nat) : Nat → Nat → Int32 → Int32 → Int32 → Int32 → Int32 → Hp → Option Int32
  | 0, _, _, _, _, _, _, _ => none
  | G + 1, a0, x1, x2, x3, x4, x5, h => X7_evenest F (G3 F G) a0 x1 x2 x3 x4 x5 h
def X10_built (F : Nat) (a0 : Nat) (x1 : Int32) (h : Hp) : Option Nat :=
  if x1 = 0 then (
    gq (kd a0 = (0, 9)) <|
    (h.2 a0 0).bind fun j_5 =>
    some j_5
  ) else (
    gq (kd a0 = (0, 9)) <|
    (h.2 a0 1).bind fun j_3 =>
    some j_3
  )
def X10_standing (F : Nat) (a0 : Nat) (x1 : Int32) (h : Hp) : Option Int32 :=
  gq (kd a0 = (0, 9)) <|
  (X10_built F a0 x1 h).bind fun j_2 =>
  (h.2 a0 2).bind fun j_4 =>
  gq (kd j_4 = (0, 7)) <|
  (X8_laidOn F j_4 x1 h).bind fun c_6 =>
  gq (kd j_2 = (0, 4)) <|
  (X5_standingBy F j_2 c_6 h).bind fun c_9 =>
  some c_9
def X7_ordersOfBuilding_204 (F : Nat) (a0 : Nat) (x5 : Int32) (h : Hp) : Option (Int32 × Hp) :=
  gq (kd a0 = (0, 6)) <|
  (h.2 a0 0).bind fun j_2 =>
  (X11_get F j_2 x5 h).bind fun c_3 =>
  some (c_3, h)
def X7_ordersOfBuilding_198 (F : Nat) (k59 : Nat → Int32 → Int32 → Int32 → Int32 → Int32 → Hp → Option (Int32 × Hp)) (a0 : Nat) (x2 : Int32) (x3 : Int32) (x4 : Int32) (x5 : Int32) (x6 : Int32) (h : Hp) : Option (Int32 × Hp) :=
  bd (x6 + 1) fun x6_1 =>
  k59 a0 x2 x3 x4 x5 x6_1 h
def X7_ordersOfBuilding_176 (F : Nat) (k59 : Nat → Int32 → Int32 → Int32 → Int32 → Int32 → Hp → Option (Int32 × Hp)) (k76 : Nat → Int32 → Int32 → Int32 → Int32 → Int32 → Int32 → Hp → Option (Int32 × Hp)) (a0 : Nat) (x2 : Int32) (x3 : Int32) (x4 : Int32) (x5 : Int32) (x6 : Int32) (x7 : Int32) (x8 : Int32) (h : Hp) : Option (Int32 × Hp) :=
  gq (kd a0 = (0, 6)) <|
  (h.2 a0 0).bind fun j_2 =>
  (X11_put F j_2 x7 (imin x8 1000000000) h).bind fun h_4 =>
  bd (x7 + 1) fun x7_5 =>
  k76 a0 x2 x3 x4 x5 x6 x7_5 h_4
def X7_ordersOfBuilding_173 (F : Nat) (k59 : Nat → Int32 → Int32 → Int32 → Int32 → Int32 → Hp → Option (Int32 × Hp)) (k76 : Nat → Int32 → Int32 → Int32 → Int32 → Int32 → Int32 → Hp → Option (Int32 × Hp)) (a0 : Nat) (x2 : Int32) (x3 : Int32) (x4 : Int32) (x5 : Int32) (x6 : Int32) (x7 : Int32) (h : Hp) : Option (Int32 × Hp) :=
  X7_ordersOfBuilding_176 F k59 k76 a0 x2 x3 x4 x5 x6 x7 0 h
def X7_ordersOfBuilding_157 (F : Nat) (k59 : Nat → Int32 → Int32 → Int32 → Int32 → Int32 → Hp → Option (Int32 × Hp)) (k76 : Nat → Int32 → Int32 → Int32 → Int32 → Int32 → Int32 → Hp → Option (Int32 × Hp)) (a0 : Nat) (x2 : Int32) (x3 : Int32) (x4 : Int32) (x5 : Int32) (x6 : Int32) (x7 : Int32) (x8 : Int32) (h : Hp) : Option (Int32 × Hp) :=
  if x5 ≤ x7 then (
    X7_ordersOfBuilding_176 F k59 k76 a0 x2 x3 x4 x5 x6 x7 x8 h
  ) else (
    if (x6 - x7) ≤ 1 then (
      X7_ordersOfBuilding_176 F k59 k76 a0 x2 x3 x4 x5 x6 x7 x8 h
    ) else (
      X7_ordersOfBuilding_173 F k59 k76 a0 x2 x3 x4 x5 x6 x7 h
    )
  )
def X7_ordersOfBuilding_141 (F : Nat) (k59 : Nat → Int32 → Int32 → Int32 → Int32 → Int32 → Hp → Option (Int32 × Hp)) (k76 : Nat → Int32 → Int32 → Int32 → Int32 → Int32 → Int32 → Hp → Option (Int32 × Hp)) (a0 : Nat) (x2 : Int32) (x3 : Int32) (x4 : Int32) (x5 : Int32) (x6 : Int32) (x7 : Int32) (x8 : Int32) (h : Hp) : Option (Int32 × Hp) :=
  if x4 ≤ x6 then (
    X7_ordersOfBuilding_157 F k59 k76 a0 x2 x3 x4 x5 x6 x7 x8 h
  ) else (
    if 1 < (x7 - x6) then (
      X7_ordersOfBuilding_173 F k59 k76 a0 x2 x3 x4 x5 x6 x7 h
    ) else (
      X7_ordersOfBuilding_157 F k59 k76 a0 x2 x3 x4 x5 x6 x7 x8 h
    )
  )
def X7_ordersOfBuilding_120 (F : Nat) (k59 : Nat → Int32 → Int32 → Int32 → Int32 → Int32 → Hp → Option (Int32 × Hp)) (k76 : Nat → Int32 → Int32 → Int32 → Int32 → Int32 → Int32 → Hp → Option (Int32 × Hp)) (a0 : Nat) (x2 : Int32) (x3 : Int32) (x4 : Int32) (x5 : Int32) (x6 : Int32) (x7 : Int32) (s0 : Int32) (s1 : Int32) (h : Hp) : Option (Int32 × Hp) :=
  bd ((s0 + s1)) fun x8_1 =>
  if x6 = x2 then (
    if x7 = x3 then (
      X7_ordersOfBuilding_176 F k59 k76 a0 x2 x3 x4 x5 x6 x7 1 h
    ) else (
      X7_ordersOfBuilding_141 F k59 k76 a0 x2 x3 x4 x5 x6 x7 x8_1 h
    )
  ) else (
    X7_ordersOfBuilding_141 F k59 k76 a0 x2 x3 x4 x5 x6 x7 x8_1 h
  )
def X7_ordersOfBuilding_76 (F : Nat) (k59 : Nat → Int32 → Int32 → Int32 → Int32 → Int32 → Hp → Option (Int32 × Hp)) : Nat → Nat → Int32 → Int32 → Int32 → Int32 → Int32 → Int32 → Hp → Option (Int32 × Hp)
  | 0, _, _, _, _, _, _, _, _ => none
  | f + 1, a0, x2, x3, x4, x5, x6, x7, h =>
  if x5 < x7 then (
    X7_ordersOfBuilding_198 F k59 a0 x2 x3 x4 x5 x6 h
  ) else (
    if 20 < x7 then (
      X7_ordersOfBuilding_198 F k59 a0 x2 x3 x4 x5 x6 h
    ) else (
      gq (kd a0 = (0, 6)) <|
      (h.2 a0 0).bind fun j_4 =>
      (X11_get F j_4 x7 h).bind fun c_5 =>
      if x7 ≤ x3 then (
        X7_ordersOfBuilding_120 F k59 (X7_ordersOfBuilding_76 F k59 f) a0 x2 x3 x4 x5 x6 x7 c_5 0 h
      ) else (
        (X11_get F j_4 (x7 - 1) h).bind fun c_8 =>
        X7_ordersOfBuilding_120 F k59 (X7_ordersOfBuilding_76 F k59 f) a0 x2 x3 x4 x5 x6 x7 c_5 c_8 h
      )
    )
  )
def X7_ordersOfBuilding_59 (F : Nat) : Nat → Nat → Int32 → Int32 → Int32 → Int32 → Int32 → Hp → Option (Int32 × Hp)
  | 0, _, _, _, _, _, _, _ => none
  | f + 1, a0, x2, x3, x4, x5, x6, h =>
  if x4 < x6 then (
    X7_ordersOfBuilding_204 F a0 x5 h
  ) else (
    if 20 < x6 then (
      X7_ordersOfBuilding_204 F a0 x5 h
    ) else (
      X7_ordersOfBuilding_76 F (X7_ordersOfBuilding_59 F f) F a0 x2 x3 x4 x5 x6 x3 h
    )
  )
def X7_ordersOfBuilding_33 (F : Nat) : Nat → Nat → Int32 → Int32 → Int32 → Int32 → Int32 → Hp → Option (Int32 × Hp)
  | 0, _, _, _, _, _, _, _ => none
  | f + 1, a0, x2, x3, x4, x5, x6, h =>
  if 20 < x6 then (
    X7_ordersOfBuilding_59 F F a0 x2 x3 x4 x5 x2 h
  ) else (
    gq (kd a0 = (0, 6)) <|
    (h.2 a0 0).bind fun j_3 =>
    (X11_put F j_3 x6 0 h).bind fun h_5 =>
    bd (x6 + 1) fun x6_6 =>
    X7_ordersOfBuilding_33 F f a0 x2 x3 x4 x5 x6_6 h_5
  )
def X7_ordersOfBuilding (F : Nat) (a0 : Nat) (a1 : Nat) (h : Hp) : Option (Int32 × Hp) :=
  gq (kd a1 = (0, 9)) <|
  (X10_standing F a1 0 h).bind fun c_2 =>
  (X10_standing F a1 1 h).bind fun c_4 =>
  (h.2 a1 0).bind fun j_6 =>
  gq (kd j_6 = (0, 4)) <|
  bd ((h.1 j_6 1)) fun x4_8 =>
  (h.2 a1 1).bind fun j_9 =>
  gq (kd j_9 = (0, 4)) <|
  bd ((h.1 j_9 1)) fun x5_11 =>
  X7_ordersOfBuilding_33 F F a0 c_2 c_4 x4_8 x5_11 0 h
def X7_fliesOver_13 (F : Nat) : Nat → Int32 → Int32 → Int32 → Int32 → Int32 → Int32 → Int32 → Hp → Option Int32
  | 0, _, _, _, _, _, _, _, _ => none
  | f + 1, x0, x1, x3, x5, x6, x7, x8, h =>
  if 200 < x8 then (
    some 0
  ) else (
    bd ((x5 + x3)) fun x5_2 =>
    bd ((x6 + x7)) fun x6_3 =>
    bd (x7 + (-1)) fun x7_4 =>
    if x5_2 < x0 then (
      if 0 ≤ x6_3 then (
        bd (x8 + 1) fun x8_7 =>
        X7_fliesOver_13 F f x0 x1 x3 x5_2 x6_3 x7_4 x8_7 h
      ) else (
        some 0
      )
    ) else (
      if x6_3 < x1 then (
        some 0
      ) else (
        some 1
      )
    )
  )
def X7_fliesOver (F : Nat) (x0 : Int32) (x1 : Int32) (x2 : Int32) (x3 : Int32) (x4 : Int32) (h : Hp) : Option Int32 :=
  X7_fliesOver_13 F F x0 x1 x3 0 x2 x4 1 h
def X7_pilesUpTo (F : Nat) (a0 : Nat) (x1 : Int32) (h : Hp) : Option Int32 :=
  gq (kd a0 = (0, 6)) <|
  (h.2 a0 1).bind fun j_2 =>
  (X11_get F j_2 x1 h).bind fun c_3 =>
  some c_3
def X7_pilesWithLast_36 (F : Nat) : Nat → Nat → Int32 → Int32 → Int32 → Hp → Option Int32
  | 0, _, _, _, _, _ => none
  | f + 1, a0, x2, x4, x5, h =>
  if x2 ≤ x5 then (
    some (x4 + 1)
  ) else (
    gq (kd a0 = (0, 6)) <|
    (X7_pilesUpTo F a0 x5 h).bind fun c_3 =>
    bd ((imin x4 c_3)) fun x4_5 =>
    bd (x5 + 1) fun x5_6 =>
    X7_pilesWithLast_36 F f a0 x2 x4_5 x5_6 h
  )
def X7_pilesWithLast (F : Nat) (a0 : Nat) (a1 : Nat) (x2 : Int32) (x3 : Int32) (h : Hp) : Option Int32 :=
  gq (kd a1 = (0, 8)) <|
  (X9_at F a1 (x2 / 8) h).bind fun c_2 =>
  if ((c_2 >>> ((irm x2 8) &&& 31)) &&& 1) = 0 then (
    some 1000
  ) else (
    bd ((imax 0 (x2 - x3))) fun x5_5 =>
    X7_pilesWithLast_36 F F a0 x2 999 x5_5 h
  )
def X7_lastPile_87 (F : Nat) (k21 : Nat → Nat → Int32 → Int32 → Int32 → Int32 → Int32 → Hp → Option (Int32 × Hp)) (a0 : Nat) (a1 : Nat) (x2 : Int32) (x3 : Int32) (x4 : Int32) (x5 : Int32) (x6 : Int32) (h : Hp) : Option (Int32 × Hp) :=
  bd (x6 + 1) fun x6_1 =>
  k21 a0 a1 x2 x3 x4 x5 x6_1 h
def X7_lastPile_56 (F : Nat) (k21 : Nat → Nat → Int32 → Int32 → Int32 → Int32 → Int32 → Hp → Option (Int32 × Hp)) (a0 : Nat) (a1 : Nat) (x2 : Int32) (x3 : Int32) (x4 : Int32) (x5 : Int32) (x6 : Int32) (h : Hp) : Option (Int32 × Hp) :=
  if x3 < (x2 - x6) then (
    X7_lastPile_87 F k21 a0 a1 x2 x3 x4 x5 x6 h
  ) else (
    gq (kd a0 = (0, 6)) <|
    (X7_pilesUpTo F a0 x6 h).bind fun c_3 =>
    if x4 ≤ c_3 then (
      X7_lastPile_87 F k21 a0 a1 x2 x3 x4 x5 x6 h
    ) else (
      (X7_pilesUpTo F a0 x6 h).bind fun c_6 =>
      X7_lastPile_87 F k21 a0 a1 x2 x3 c_6 x6 x6 h
    )
  )
def X7_lastPile_21 (F : Nat) : Nat → Nat → Nat → Int32 → Int32 → Int32 → Int32 → Int32 → Hp → Option (Int32 × Hp)
  | 0, _, _, _, _, _, _, _, _ => none
  | f + 1, a0, a1, x2, x3, x4, x5, x6, h =>
  if x2 ≤ x6 then (
    some (x5, h)
  ) else (
    if 61 ≤ x6 then (
      some (x5, h)
    ) else (
      if x6 ≤ 0 then (
        X7_lastPile_56 F (X7_lastPile_21 F f) a0 a1 x2 x3 x4 x5 x6 h
      ) else (
        gq (kd a0 = (0, 6)) <|
        (h.2 a0 1).bind fun j_5 =>
        (X7_pilesWithLast F a0 a1 x6 x3 h).bind fun c_6 =>
        (X11_put F j_5 x6 c_6 h).bind fun h_9 =>
        X7_lastPile_56 F (X7_lastPile_21 F f) a0 a1 x2 x3 x4 x5 x6 h_9
      )
    )
  )
def X7_lastPile (F : Nat) (a0 : Nat) (a1 : Nat) (x2 : Int32) (x3 : Int32) (h : Hp) : Option (Int32 × Hp) :=
  gq (kd a0 = (0, 6)) <|
  (h.2 a0 1).bind fun j_2 =>
  (X11_put F j_2 0 0 h).bind fun h_4 =>
  X7_lastPile_21 F F a0 a1 x2 x3 1000 (-2) 0 h_4
def J_bitCount (F : Nat) (x0 : Int32) (h : Hp) : Option Int32 :=
  bd ((x0 - ((iush x0 1) &&& 1431655765))) fun x0_1 =>
  bd (((x0_1 &&& 858993459) + ((iush x0_1 2) &&& 858993459))) fun x0_2 =>
  bd (((x0_2 + (iush x0_2 4)) &&& 252645135)) fun x0_3 =>
  bd ((x0_3 + (iush x0_3 8))) fun x0_4 =>
  bd ((x0_4 + (iush x0_4 16))) fun x0_5 =>
  some (x0_5 &&& 63)
def X7_litBy_71 (F : Nat) (k6 : Nat → Int32 → Int32 → Int32 → Int32 → Int32 → Hp → Option Int32) (a0 : Nat) (x1 : Int32) (x2 : Int32) (x3 : Int32) (x4 : Int32) (x5 : Int32) (h : Hp) : Option Int32 :=
  bd (x5 + 1) fun x5_1 =>
  k6 a0 x1 x2 x3 x4 x5_1 h
def X7_litBy_68 (F : Nat) (k6 : Nat → Int32 → Int32 → Int32 → Int32 → Int32 → Hp → Option Int32) (a0 : Nat) (x1 : Int32) (x2 : Int32) (x3 : Int32) (x5 : Int32) (s0 : Int32) (s1 : Int32) (h : Hp) : Option Int32 :=
  bd ((s0 ||| s1)) fun x4_1 =>
  X7_litBy_71 F k6 a0 x1 x2 x3 x4_1 x5 h
def X7_litBy_6 (F : Nat) : Nat → Nat → Int32 → Int32 → Int32 → Int32 → Int32 → Hp → Option Int32
  | 0, _, _, _, _, _, _, _ => none
  | f + 1, a0, x1, x2, x3, x4, x5, h =>
  if x2 ≤ x5 then (
    some (x4 &&& ((1 <<< (x2 &&& 31)) - 1))
  ) else (
    if ((x1 >>> (x5 &&& 31)) &&& 1) = 0 then (
      X7_litBy_71 F (X7_litBy_6 F f) a0 x1 x2 x3 x4 x5 h
    ) else (
      gq (kd a0 = (0, 8)) <|
      (X9_at F a0 x5 h).bind fun c_4 =>
      if c_4 = 0 then (
        some 0
      ) else (
        bd (((1 <<< (((2 * x3) + 1) &&& 31)) - 1)) fun x6_7 =>
        if x5 < x3 then (
          X7_litBy_68 F (X7_litBy_6 F f) a0 x1 x2 x3 x5 x4 (x6_7 >>> ((x3 - x5) &&& 31)) h
        ) else (
          X7_litBy_68 F (X7_litBy_6 F f) a0 x1 x2 x3 x5 x4 (x6_7 <<< ((x5 - x3) &&& 31)) h
        )
      )
    )
  )
def X7_litBy (F : Nat) (a0 : Nat) (x1 : Int32) (x2 : Int32) (x3 : Int32) (h : Hp) : Option Int32 :=
  X7_litBy_6 F F a0 x1 x2 x3 0 0 h
def X7_fewestLamps_66 (F : Nat) (k18 : Nat → Int32 → Int32 → Int32 → Int32 → Int32 → Int32 → Hp → Option Int32) (a0 : Nat) (x1 : Int32) (x2 : Int32) (x3 : Int32) (x4 : Int32) (x5 : Int32) (x6 : Int32) (h : Hp) : Option Int32 :=
  bd (x6 + 1) fun x6_1 =>
  k18 a0 x1 x2 x3 x4 x5 x6_1 h
def X7_fewestLamps_18 (F : Nat) : Nat → Nat → Int32 → Int32 → Int32 → Int32 → Int32 → Int32 → Hp → Option Int32
  | 0, _, _, _, _, _, _, _, _ => none
  | f + 1, a0, x1, x2, x3, x4, x5, x6, h =>
  if x3 < x6 then (
    some x5
  ) else (
    if 4096 ≤ x6 then (
      some x5
    ) else (
      (J_bitCount F x6 h).bind fun c_3 =>
      if x4 ≤ c_3 then (
        X7_fewestLamps_66 F (X7_fewestLamps_18 F f) a0 x1 x2 x3 x4 x5 x6 h
      ) else (
        (X7_litBy F a0 x6 x1 x2 h).bind fun c_6 =>
        if c_6 = x3 then (
          X7_fewestLamps_66 F (X7_fewestLamps_18 F f) a0 x1 x2 x3 c_3 x6 x6 h
        ) else (
          X7_fewestLamps_66 F (X7_fewestLamps_18 F f) a0 x1 x2 x3 x4 x5 x6 h
        )
      )
    )
  )
def X7_fewestLamps (F : Nat) (a0 : Nat) (x1 : Int32) (x2 : Int32) (h : Hp) : Option Int32 :=
  bd (((1 <<< (x1 &&& 31)) - 1)) fun x3_1 =>
  bd ((x1 + 1)) fun x4_2 =>
  X7_fewestLamps_18 F F a0 x1 x2 x3_1 x4_2 (-2) 1 h
def X7_claimsOf_41 (F : Nat) (k6 : Nat → Int32 → Int32 → Int32 → Int32 → Hp → Option Int32) (a0 : Nat) (x1 : Int32) (x3 : Int32) (x4 : Int32) (x5 : Int32) (h : Hp) : Option Int32 :=
  bd (x5 + 2) fun x5_1 =>
  k6 a0 x1 x3 x4 x5_1 h
def X7_claimsOf_6 (F : Nat) : Nat → Nat → Int32 → Int32 → Int32 → Int32 → Hp → Option Int32
  | 0, _, _, _, _, _, _ => none
  | f + 1, a0, x1, x3, x4, x5, h =>
  if x1 ≤ x5 then (
    some x4
  ) else (
    gq (kd a0 = (0, 8)) <|
    (X9_at F a0 (2 * x5) h).bind fun c_3 =>
    if x3 < c_3 then (
      X7_claimsOf_41 F (X7_claimsOf_6 F f) a0 x1 x3 x4 x5 h
    ) else (
      (X9_at F a0 ((2 * x5) + 1) h).bind fun c_6 =>
      if c_6 ≤ x3 then (
        X7_claimsOf_41 F (X7_claimsOf_6 F f) a0 x1 x3 x4 x5 h
      ) else (
        bd (x4 + 1) fun x4_9 =>
        X7_claimsOf_41 F (X7_claimsOf_6 F f) a0 x1 x3 x4_9 x5 h
      )
    )
  )
def X7_claimsOf (F : Nat) (a0 : Nat) (x1 : Int32) (x2 : Int32) (x3 : Int32) (h : Hp) : Option Int32 :=
  X7_claimsOf_6 F F a0 x1 x3 0 x2 h
def X7_claimed_155 (F : Nat) (x2 : Int32) (x5 : Int32) (x6 : Int32) (x7 : Int32) (h : Hp) : Option Int32 :=
  if x2 = 0 then (
    some x5
  ) else (
    if x2 = 1 then (
      some x6
    ) else (
      some x7
    )
  )
def X7_claimed_134 (F : Nat) (k64 : Nat → Int32 → Int32 → Int32 → Int32 → Int32 → Int32 → Int32 → Hp → Option Int32) (a0 : Nat) (x1 : Int32) (x2 : Int32) (x4 : Int32) (x5 : Int32) (x7 : Int32) (x8 : Int32) (x9 : Int32) (x10 : Int32) (s0 : Int32) (s1 : Int32) (h : Hp) : Option Int32 :=
  bd ((s0 + s1)) fun x6_1 =>
  bd ((imax x7 (x9 + x10))) fun x7_2 =>
  bd (x8 + 1) fun x8_3 =>
  k64 a0 x1 x2 x4 x5 x6_1 x7_2 x8_3 h
def X7_claimed_116 (F : Nat) (k64 : Nat → Int32 → Int32 → Int32 → Int32 → Int32 → Int32 → Int32 → Hp → Option Int32) (a0 : Nat) (x1 : Int32) (x2 : Int32) (x4 : Int32) (x6 : Int32) (x7 : Int32) (x8 : Int32) (x9 : Int32) (x10 : Int32) (s0 : Int32) (s1 : Int32) (h : Hp) : Option Int32 :=
  bd ((s0 + s1)) fun x5_1 =>
  if (x9 + x10) = 0 then (
    X7_claimed_134 F k64 a0 x1 x2 x4 x5_1 x7 x8 x9 x10 x6 1 h
  ) else (
    X7_claimed_134 F k64 a0 x1 x2 x4 x5_1 x7 x8 x9 x10 x6 0 h
  )
def X7_claimed_115 (F : Nat) (k64 : Nat → Int32 → Int32 → Int32 → Int32 → Int32 → Int32 → Int32 → Hp → Option Int32) (a0 : Nat) (x1 : Int32) (x2 : Int32) (x4 : Int32) (x6 : Int32) (x7 : Int32) (x8 : Int32) (x9 : Int32) (x10 : Int32) (s0 : Int32) (h : Hp) : Option Int32 :=
  X7_claimed_116 F k64 a0 x1 x2 x4 x6 x7 x8 x9 x10 s0 0 h
def X7_claimed_64 (F : Nat) : Nat → Nat → Int32 → Int32 → Int32 → Int32 → Int32 → Int32 → Int32 → Hp → Option Int32
  | 0, _, _, _, _, _, _, _, _, _ => none
  | f + 1, a0, x1, x2, x4, x5, x6, x7, x8, h =>
  if x4 ≤ x8 then (
    X7_claimed_155 F x2 x5 x6 x7 h
  ) else (
    if 255 ≤ x8 then (
      X7_claimed_155 F x2 x5 x6 x7 h
    ) else (
      (X7_claimsOf F a0 x1 0 x8 h).bind fun c_3 =>
      (X7_claimsOf F a0 x1 1 x8 h).bind fun c_5 =>
      if c_3 ≤ 0 then (
        X7_claimed_115 F (X7_claimed_64 F f) a0 x1 x2 x4 x6 x7 x8 c_3 c_5 x5 h
      ) else (
        if c_5 ≤ 0 then (
          X7_claimed_115 F (X7_claimed_64 F f) a0 x1 x2 x4 x6 x7 x8 c_3 c_5 x5 h
        ) else (
          X7_claimed_116 F (X7_claimed_64 F f) a0 x1 x2 x4 x6 x7 x8 c_3 c_5 x5 1 h
        )
      )
    )
  )
def X7_claimed_10 (F : Nat) : Nat → Nat → Int32 → Int32 → Int32 → Int32 → Int32 → Hp → Option Int32
  | 0, _, _, _, _, _, _, _ => none
  | f + 1, a0, x1, x2, x3, x4, x5, h =>
  if x1 ≤ x5 then (
    X7_claimed_64 F F a0 x1 x2 x4 0 0 0 x3 h
  ) else (
    gq (kd a0 = (0, 8)) <|
    (X9_at F a0 (2 * x5) h).bind fun c_3 =>
    bd ((imin x3 c_3)) fun x3_5 =>
    (X9_at F a0 ((2 * x5) + 1) h).bind fun c_6 =>
    bd ((imax x4 c_6)) fun x4_8 =>
    bd (x5 + 1) fun x5_9 =>
    X7_claimed_10 F f a0 x1 x2 x3_5 x4_8 x5_9 h
  )
def X7_claimed (F : Nat) (a0 : Nat) (x1 : Int32) (x2 : Int32) (h : Hp) : Option Int32 :=
  X7_claimed_10 F F a0 x1 x2 255 0 0 h
def X7_sortMinutes_71 (F : Nat) (k2 : Nat → Nat → Int32 → Int32 → Hp → Option Hp) (a0 : Nat) (a1 : Nat) (x2 : Int32) (x3 : Int32) (x4 : Int32) (x5 : Int32) (h : Hp) : Option Hp :=
  gq (kd a0 = (0, 6)) <|
  (h.2 a0 2).bind fun j_2 =>
  (X11_put F j_2 x5 x4 h).bind fun h_4 =>
  bd (x3 + 1) fun x3_5 =>
  k2 a0 a1 x2 x3_5 h_4
def X7_sortMinutes_22 (F : Nat) (k2 : Nat → Nat → Int32 → Int32 → Hp → Option Hp) : Nat → Nat → Nat → Int32 → Int32 → Int32 → Int32 → Int32 → Hp → Option Hp
  | 0, _, _, _, _, _, _, _, _ => none
  | f + 1, a0, a1, x2, x3, x4, x5, x6, h =>
  if x6 < 0 then (
    X7_sortMinutes_71 F k2 a0 a1 x2 x3 x4 x5 h
  ) else (
    gq (kd a0 = (0, 6)) <|
    (h.2 a0 2).bind fun j_3 =>
    (X11_get F j_3 x6 h).bind fun c_4 =>
    if c_4 ≤ x4 then (
      X7_sortMinutes_71 F k2 a0 a1 x2 x3 x4 x5 h
    ) else (
      (X11_get F j_3 x6 h).bind fun c_7 =>
      (X11_put F j_3 (x6 + 1) c_7 h).bind fun h_10 =>
      bd (x6 + (-1)) fun x6_11 =>
      X7_sortMinutes_22 F k2 f a0 a1 x2 x3 x4 x6 x6_11 h_10
    )
  )
def X7_sortMinutes_2 (F : Nat) : Nat → Nat → Nat → Int32 → Int32 → Hp → Option Hp
  | 0, _, _, _, _, _ => none
  | f + 1, a0, a1, x2, x3, h =>
  if x2 ≤ x3 then (
    some h
  ) else (
    gq (kd a1 = (0, 8)) <|
    (X9_at F a1 x3 h).bind fun c_3 =>
    bd ((x3 - 1)) fun x6_5 =>
    X7_sortMinutes_22 F (X7_sortMinutes_2 F f) F a0 a1 x2 x3 c_3 x3 x6_5 h
  )
def X7_sortMinutes (F : Nat) (a0 : Nat) (a1 : Nat) (x2 : Int32) (h : Hp) : Option Hp :=
  X7_sortMinutes_2 F F a0 a1 x2 0 h
def X7_leastMinutes_145 (F : Nat) (s0 : Int32) (s1 : Int32) (h : Hp) : Option (Int32 × Hp) :=
  some ((s0 + s1), h)
def X7_leastMinutes_108 (F : Nat) (a0 : Nat) (x3 : Int32) (x4 : Int32) (x5 : Int32) (x6 : Int32) (h : Hp) : Option (Int32 × Hp) :=
  if x6 = 3 then (
    gq (kd a0 = (0, 6)) <|
    (h.2 a0 2).bind fun j_4 =>
    (X11_get F j_4 2 h).bind fun c_5 =>
    some ((((x5 + x3) + x4) + c_5), h)
  ) else (
    if x6 = 2 then (
      X7_leastMinutes_145 F x5 x4 h
    ) else (
      X7_leastMinutes_145 F x5 x3 h
    )
  )
def X7_leastMinutes_34 (F : Nat) : Nat → Nat → Int32 → Int32 → Int32 → Int32 → Int32 → Hp → Option (Int32 × Hp)
  | 0, _, _, _, _, _, _, _ => none
  | f + 1, a0, x3, x4, x5, x6, x7, h =>
  if 10 ≤ x7 then (
    X7_leastMinutes_108 F a0 x3 x4 x5 x6 h
  ) else (
    if x6 ≤ 3 then (
      X7_leastMinutes_108 F a0 x3 x4 x5 x6 h
    ) else (
      gq (kd a0 = (0, 6)) <|
      (h.2 a0 2).bind fun j_4 =>
      (X11_get F j_4 (x6 - 1) h).bind fun c_5 =>
      (X11_get F j_4 (x6 - 2) h).bind fun c_7 =>
      bd ((x5 + (imin ((x3 + (2 * x4)) + c_5) (((2 * x3) + c_7) + c_5)))) fun x5_9 =>
      bd (x6 + (-2)) fun x6_10 =>
      bd (x7 + 1) fun x7_11 =>
      X7_leastMinutes_34 F f a0 x3 x4 x5_9 x6_10 x7_11 h
    )
  )
def X7_leastMinutes (F : Nat) (a0 : Nat) (a1 : Nat) (x2 : Int32) (h : Hp) : Option (Int32 × Hp) :=
  gq (kd a0 = (0, 6)) <|
  (X7_sortMinutes F a0 a1 x2 h).bind fun h_3 =>
  (h_3.2 a0 2).bind fun j_4 =>
  (X11_get F j_4 0 h_3).bind fun c_5 =>
  (X11_get F j_4 1 h_3).bind fun c_7 =>
  X7_leastMinutes_34 F F a0 c_5 c_7 0 x2 0 h_3
def X7_likes_38 (F : Nat) (x3 : Int32) (x6 : Int32) (h : Hp) : Option Int32 :=
  if x6 = x3 then (
    some 1
  ) else (
    some 0
  )
def X7_likes_3 (F : Nat) : Nat → Nat → Int32 → Int32 → Int32 → Int32 → Int32 → Hp → Option Int32
  | 0, _, _, _, _, _, _, _ => none
  | f + 1, a0, x1, x2, x3, x4, x5, h =>
  if x1 ≤ x5 then (
    some 0
  ) else (
    gq (kd a0 = (0, 8)) <|
    (X9_at F a0 (((x1 * x1) + (x2 * x1)) + x5) h).bind fun c_3 =>
    if c_3 = x3 then (
      X7_likes_38 F x3 c_3 h
    ) else (
      if c_3 = x4 then (
        X7_likes_38 F x3 c_3 h
      ) else (
        bd (x5 + 1) fun x5_7 =>
        X7_likes_3 F f a0 x1 x2 x3 x4 x5_7 h
      )
    )
  )
def X7_likes (F : Nat) (a0 : Nat) (x1 : Int32) (x2 : Int32) (x3 : Int32) (x4 : Int32) (h : Hp) : Option Int32 :=
  X7_likes_3 F F a0 x1 x2 x3 x4 0 h
def X7_firstSingle_41 (F : Nat) : Nat → Int32 → Int32 → Int32 → Hp → Option Int32
  | 0, _, _, _, _ => none
  | f + 1, x1, x2, x3, h =>
  if x1 ≤ x3 then (
    some (-1)
  ) else (
    if ((x2 >>> (x3 &&& 31)) &&& 1) = 0 then (
      some x3
    ) else (
      bd (x3 + 1) fun x3_3 =>
      X7_firstSingle_41 F f x1 x2 x3_3 h
    )
  )
def X7_firstSingle_33 (F : Nat) (k4 : Nat → Int32 → Int32 → Int32 → Hp → Option Int32) (a0 : Nat) (x1 : Int32) (x2 : Int32) (x3 : Int32) (h : Hp) : Option Int32 :=
  bd (x3 + 1) fun x3_1 =>
  k4 a0 x1 x2 x3_1 h
def X7_firstSingle_4 (F : Nat) : Nat → Nat → Int32 → Int32 → Int32 → Hp → Option Int32
  | 0, _, _, _, _, _ => none
  | f + 1, a0, x1, x2, x3, h =>
  if x1 ≤ x3 then (
    X7_firstSingle_41 F F x1 x2 0 h
  ) else (
    gq (kd a0 = (0, 6)) <|
    (h.2 a0 4).bind fun j_3 =>
    (X11_get F j_3 x3 h).bind fun c_4 =>
    if c_4 < 0 then (
      X7_firstSingle_33 F (X7_firstSingle_4 F f) a0 x1 x2 x3 h
    ) else (
      (X11_get F j_3 x3 h).bind fun c_7 =>
      bd ((x2 ||| (1 <<< (c_7 &&& 31)))) fun x2_9 =>
      X7_firstSingle_33 F (X7_firstSingle_4 F f) a0 x1 x2_9 x3 h
    )
  )
def X7_firstSingle (F : Nat) (a0 : Nat) (x1 : Int32) (h : Hp) : Option Int32 :=
  X7_firstSingle_4 F F a0 x1 0 0 h
def X7_weds_154 (F : Nat) : Nat → Nat → Int32 → Int32 → Int32 → Hp → Option (Int32 × Hp)
  | 0, _, _, _, _, _ => none
  | f + 1, a0, x2, x3, x5, h =>
  if x2 ≤ x5 then (
    some ((-1), h)
  ) else (
    gq (kd a0 = (0, 6)) <|
    (h.2 a0 4).bind fun j_3 =>
    (X11_get F j_3 x5 h).bind fun c_4 =>
    if c_4 = x3 then (
      some (x5, h)
    ) else (
      bd (x5 + 1) fun x5_7 =>
      X7_weds_154 F f a0 x2 x3 x5_7 h
    )
  )
def X7_weds_151 (F : Nat) (a0 : Nat) (x2 : Int32) (x3 : Int32) (h : Hp) : Option (Int32 × Hp) :=
  X7_weds_154 F F a0 x2 x3 0 h
def X7_weds_138 (F : Nat) (k41 : Nat → Nat → Int32 → Int32 → Int32 → Int32 → Hp → Option (Int32 × Hp)) (a0 : Nat) (a1 : Nat) (x2 : Int32) (x3 : Int32) (x5 : Int32) (h : Hp) : Option (Int32 × Hp) :=
  gq (kd a0 = (0, 6)) <|
  (X7_firstSingle F a0 x2 h).bind fun c_2 =>
  bd (x5 + 1) fun x5_4 =>
  k41 a0 a1 x2 x3 c_2 x5_4 h
def X7_weds_127 (F : Nat) (k41 : Nat → Nat → Int32 → Int32 → Int32 → Int32 → Hp → Option (Int32 × Hp)) (a0 : Nat) (a1 : Nat) (x2 : Int32) (x3 : Int32) (x4 : Int32) (x5 : Int32) (x6 : Int32) (h : Hp) : Option (Int32 × Hp) :=
  gq (kd a0 = (0, 6)) <|
  (h.2 a0 4).bind fun j_2 =>
  (X11_put F j_2 x6 x4 h).bind fun h_4 =>
  X7_weds_138 F k41 a0 a1 x2 x3 x5 h_4
def X7_weds_41 (F : Nat) : Nat → Nat → Nat → Int32 → Int32 → Int32 → Int32 → Hp → Option (Int32 × Hp)
  | 0, _, _, _, _, _, _, _ => none
  | f + 1, a0, a1, x2, x3, x4, x5, h =>
  if ((2 * x2) * x2) ≤ x5 then (
    X7_weds_151 F a0 x2 x3 h
  ) else (
    if x4 < 0 then (
      X7_weds_151 F a0 x2 x3 h
    ) else (
      gq (kd a0 = (0, 6)) <|
      (h.2 a0 3).bind fun j_4 =>
      (X11_get F j_4 x4 h).bind fun c_5 =>
      gq (kd a1 = (0, 8)) <|
      (X9_at F a1 ((x4 * x2) + c_5) h).bind fun c_8 =>
      (X11_get F j_4 x4 h).bind fun c_10 =>
      (X11_put F j_4 x4 (c_10 + 1) h).bind fun h_13 =>
      (h_13.2 a0 4).bind fun j_14 =>
      (X11_get F j_14 c_8 h_13).bind fun c_15 =>
      if c_15 = (-1) then (
        X7_weds_127 F (X7_weds_41 F f) a0 a1 x2 x3 x4 x5 c_8 h_13
      ) else (
        (X7_likes F a1 x2 c_8 x4 c_15 h_13).bind fun c_18 =>
        if c_18 = 0 then (
          X7_weds_138 F (X7_weds_41 F f) a0 a1 x2 x3 x5 h_13
        ) else (
          X7_weds_127 F (X7_weds_41 F f) a0 a1 x2 x3 x4 x5 c_8 h_13
        )
      )
    )
  )
def X7_weds_3 (F : Nat) : Nat → Nat → Nat → Int32 → Int32 → Int32 → Hp → Option (Int32 × Hp)
  | 0, _, _, _, _, _, _ => none
  | f + 1, a0, a1, x2, x3, x4, h =>
  if x2 ≤ x4 then (
    X7_weds_41 F F a0 a1 x2 x3 0 0 h
  ) else (
    gq (kd a0 = (0, 6)) <|
    (h.2 a0 3).bind fun j_3 =>
    (X11_put F j_3 x4 0 h).bind fun h_5 =>
    (h_5.2 a0 4).bind fun j_6 =>
    (X11_put F j_6 x4 (-1) h_5).bind fun h_8 =>
    bd (x4 + 1) fun x4_9 =>
    X7_weds_3 F f a0 a1 x2 x3 x4_9 h_8
  )
def X7_weds (F : Nat) (a0 : Nat) (a1 : Nat) (x2 : Int32) (x3 : Int32) (h : Hp) : Option (Int32 × Hp) :=
  X7_weds_3 F F a0 a1 x2 x3 0 h
def X7_longestRun_37 (F : Nat) (k7 : Int32 → Int32 → Int32 → Int32 → Int32 → Hp → Option Int32) (x0 : Int32) (x1 : Int32) (x2 : Int32) (x4 : Int32) (s0 : Int32) (h : Hp) : Option Int32 :=
  bd ((imax x2 s0)) fun x2_1 =>
  bd (x4 + 1) fun x4_2 =>
  k7 x0 x1 x2_1 s0 x4_2 h
def X7_longestRun_7 (F : Nat) : Nat → Int32 → Int32 → Int32 → Int32 → Int32 → Hp → Option Int32
  | 0, _, _, _, _, _, _ => none
  | f + 1, x0, x1, x2, x3, x4, h =>
  if x1 ≤ x4 then (
    some x2
  ) else (
    if ((x0 >>> (x4 &&& 31)) &&& 1) = ((x0 >>> ((x4 - 1) &&& 31)) &&& 1) then (
      X7_longestRun_37 F (X7_longestRun_7 F f) x0 x1 x2 x4 (x3 + 1) h
    ) else (
      X7_longestRun_37 F (X7_longestRun_7 F f) x0 x1 x2 x4 1 h
    )
  )
def X7_longestRun (F : Nat) (x0 : Int32) (x1 : Int32) (h : Hp) : Option Int32 :=
  X7_longestRun_7 F F x0 x1 1 1 1 h
def X7_mixtures_26 (F : Nat) (k4 : Int32 → Int32 → Int32 → Int32 → Hp → Option Int32) (x0 : Int32) (x1 : Int32) (x3 : Int32) (s0 : Int32) (s1 : Int32) (h : Hp) : Option Int32 :=
  bd ((s0 + s1)) fun x2_1 =>
  bd (x3 + 1) fun x3_2 =>
  k4 x0 x1 x2_1 x3_2 h
def X7_mixtures_4 (F : Nat) : Nat → Int32 → Int32 → Int32 → Int32 → Hp → Option Int32
  | 0, _, _, _, _, _ => none
  | f + 1, x0, x1, x2, x3, h =>
  if (1 <<< (x0 &&& 31)) ≤ x3 then (
    some x2
  ) else (
    (X7_longestRun F x3 x0 h).bind fun c_2 =>
    if x1 < c_2 then (
      X7_mixtures_26 F (X7_mixtures_4 F f) x0 x1 x3 x2 0 h
    ) else (
      X7_mixtures_26 F (X7_mixtures_4 F f) x0 x1 x3 x2 1 h
    )
  )
def X7_mixtures (F : Nat) (x0 : Int32) (x1 : Int32) (h : Hp) : Option Int32 :=
  X7_mixtures_4 F F x0 x1 0 0 h
def X7_leastMixture_2 (F : Nat) : Nat → Int32 → Int32 → Int32 → Hp → Option Int32
  | 0, _, _, _, _ => none
  | f + 1, x0, x1, x2, h =>
  if (1 <<< (x0 &&& 31)) ≤ x2 then (
    some (-2)
  ) else (
    (X7_longestRun F x2 x0 h).bind fun c_2 =>
    if x1 < c_2 then (
      bd (x2 + 1) fun x2_5 =>
      X7_leastMixture_2 F f x0 x1 x2_5 h
    ) else (
      some x2
    )
  )
def X7_leastMixture (F : Nat) (x0 : Int32) (x1 : Int32) (h : Hp) : Option Int32 :=
  X7_leastMixture_2 F F x0 x1 0 h
def X7_yearsTillPaid_5 (F : Nat) : Nat → Int32 → Int32 → Int32 → Int32 → Hp → Option Int32
  | 0, _, _, _, _, _ => none
  | f + 1, x1, x2, x3, x4, h =>
  if 200 < x4 then (
    some (-2)
  ) else (
    if 0 < x3 then (
      bd (((x3 + (((x3 * x2) + 99) / 100)) - x1)) fun x5_3 =>
      if x5_3 < x3 then (
        bd (x4 + 1) fun x4_5 =>
        X7_yearsTillPaid_5 F f x1 x2 x5_3 x4_5 h
      ) else (
        some (-2)
      )
    ) else (
      some x4
    )
  )
def X7_yearsTillPaid (F : Nat) (x0 : Int32) (x1 : Int32) (x2 : Int32) (h : Hp) : Option Int32 :=
  X7_yearsTillPaid_5 F F x1 x2 x0 0 h
def X8_copy (F : Nat) (a0 : Nat) (a1 : Nat) (h : Hp) : Option Hp :=
  gq (kd a1 = (0, 7)) <|
  gq (kd a0 = (0, 7)) <|
  bd (up h a0 0 (h.1 a1 0)) fun h_3 =>
  bd (up h_3 a0 1 (h_3.1 a1 1)) fun h_4 =>
  (h_4.2 a1 2).bind fun j_5 =>
  (h_4.2 a0 2).bind fun j_6 =>
  gq ((kd j_5).1 = 1) <|
  gq ((kd j_6).1 = 1) <|
  gq (¬ (0 : Int32) < 0 ∧ ¬ (0 : Int32) < 0 ∧ ¬ (40 : Int32) < 0 ∧ ix 0 + ix 40 ≤ (kd j_5).2 ∧ ix 0 + ix 40 ≤ (kd j_6).2) <|
  bd (uc h_4 j_5 j_6 (ix 0) (ix 0) (ix 40)) fun h_9 =>
  bd (up h_9 a0 3 (h_9.1 a1 3)) fun h_11 =>
  bd (up h_11 a0 4 (h_11.1 a1 4)) fun h_12 =>
  bd (up h_12 a0 5 (h_12.1 a1 5)) fun h_13 =>
  bd (up h_13 a0 6 (h_13.1 a1 6)) fun h_14 =>
  bd (up h_14 a0 7 (h_14.1 a1 7)) fun h_15 =>
  some h_15
def X8_benchAt (F : Nat) (a0 : Nat) (x1 : Int32) (x2 : Int32) (h : Hp) : Option Int32 :=
  gq (kd a0 = (0, 7)) <|
  (h.2 a0 2).bind fun j_2 =>
  (X11_get F j_2 (((x1 * 20) + x2) - 1) h).bind fun c_3 =>
  some c_3
def X8_nextDraw (F : Nat) (a0 : Nat) (h : Hp) : Option (Int32 × Hp) :=
  gq (kd a0 = (0, 7)) <|
  bd (up h a0 7 (irm ((25173 * (h.1 a0 7)) + 13849) 65536)) fun h_2 =>
  some ((irm (h_2.1 a0 7) 10), h_2)
def X9_begin (F : Nat) (a0 : Nat) (a1 : Nat) (x2 : Int32) (h : Hp) : Option Hp :=
  gq ((kd a1).1 = 1) <|
  gq (kd a0 = (0, 8)) <|
  (h.2 a0 0).bind fun j_3 =>
  gq ((kd j_3).1 = 1) <|
  bd (up h a0 1 (imax 0 (imin x2 (imin (Int32.ofNat (kd a1).2) (Int32.ofNat (kd j_3).2))))) fun h_5 =>
  gq (¬ (0 : Int32) < 0 ∧ ¬ (0 : Int32) < 0 ∧ ¬ ((h_5.1 a0 1) : Int32) < 0 ∧ ix 0 + ix (h_5.1 a0 1) ≤ (kd a1).2 ∧ ix 0 + ix (h_5.1 a0 1) ≤ (kd j_3).2) <|
  bd (uc h_5 a1 j_3 (ix 0) (ix 0) (ix (h_5.1 a0 1))) fun h_6 =>
  bd (up h_6 a0 2 0) fun h_8 =>
  bd (up h_8 a0 3 0) fun h_9 =>
  some h_9
def X9_tellsEachOnce_5 (F : Nat) : Nat → Nat → Int32 → Int32 → Int32 → Int32 → Hp → Option Int32
  | 0, _, _, _, _, _, _ => none
  | f + 1, a0, x1, x2, x3, x4, h =>
  if x2 ≤ x4 then (
    some 1
  ) else (
    gq (kd a0 = (0, 8)) <|
    (X9_at F a0 (x1 + x4) h).bind fun c_3 =>
    (X11_within F c_3 0 (x2 - 1) h).bind fun c_5 =>
    if c_5 = 0 then (
      some 0
    ) else (
      if ((x3 >>> (c_3 &&& 31)) &&& 1) = 0 then (
        bd ((x3 ||| (1 <<< (c_3 &&& 31)))) fun x3_9 =>
        bd (x4 + 1) fun x4_10 =>
        X9_tellsEachOnce_5 F f a0 x1 x2 x3_9 x4_10 h
      ) else (
        some 0
      )
    )
  )
def X9_tellsEachOnce (F : Nat) (a0 : Nat) (x1 : Int32) (x2 : Int32) (h : Hp) : Option Int32 :=
  X9_tellsEachOnce_5 F F a0 x1 x2 0 0 h
def X10_toBuild (F : Nat) (a0 : Nat) (x1 : Int32) (h : Hp) : Option Int32 :=
  gq (kd a0 = (0, 9)) <|
  (X10_built F a0 x1 h).bind fun j_2 =>
  gq (kd j_2 = (0, 4)) <|
  (X10_standing F a0 x1 h).bind fun c_5 =>
  some ((h.1 j_2 1) - c_5)
def X10_reached (F : Nat) (a0 : Nat) (x1 : Int32) (h : Hp) : Option Int32 :=
  gq (kd a0 = (0, 9)) <|
  (X10_built F a0 x1 h).bind fun j_2 =>
  gq (kd j_2 = (0, 4)) <|
  bd ((h.1 j_2 1)) fun x2_5 =>
  if x2_5 ≤ 0 then (
    some 0
  ) else (
    (X10_standing F a0 x1 h).bind fun c_7 =>
    if c_7 = x2_5 then (
      some 1
    ) else (
      some 0
    )
  )
def X10_lacking (F : Nat) (a0 : Nat) (x1 : Int32) (h : Hp) : Option Int32 :=
  gq (kd a0 = (0, 9)) <|
  (X10_standing F a0 x1 h).bind fun c_2 =>
  (X10_built F a0 x1 h).bind fun j_4 =>
  gq (kd j_4 = (0, 4)) <|
  if (h.1 j_4 1) ≤ c_2 then (
    some 0
  ) else (
    (X5_stonesUpTo F j_4 (c_2 + 1) h).bind fun c_8 =>
    (h.2 a0 2).bind fun j_10 =>
    gq (kd j_10 = (0, 7)) <|
    (X8_laidOn F j_10 x1 h).bind fun c_12 =>
    some (c_8 - c_12)
  )
def X10_weight_11 (F : Nat) : Nat → Nat → Int32 → Int32 → Int32 → Int32 → Hp → Option Int32
  | 0, _, _, _, _, _, _ => none
  | f + 1, a0, x1, x2, x3, x4, h =>
  if x2 < x4 then (
    some x3
  ) else (
    if 20 < x4 then (
      some x3
    ) else (
      gq (kd a0 = (0, 9)) <|
      (X10_built F a0 x1 h).bind fun j_4 =>
      gq (kd j_4 = (0, 4)) <|
      (X5_stonesOf F j_4 x4 h).bind fun c_7 =>
      (h.2 a0 2).bind fun j_9 =>
      gq (kd j_9 = (0, 7)) <|
      (X8_benchAt F j_9 x1 x4 h).bind fun c_11 =>
      bd ((x3 + ((c_7 + c_11) * x4))) fun x3_13 =>
      bd (x4 + 1) fun x4_14 =>
      X10_weight_11 F f a0 x1 x2 x3_13 x4_14 h
    )
  )
def X10_weight (F : Nat) (a0 : Nat) (x1 : Int32) (h : Hp) : Option Int32 :=
  gq (kd a0 = (0, 9)) <|
  (X10_standing F a0 x1 h).bind fun c_2 =>
  X10_weight_11 F F a0 x1 c_2 0 1 h
def X10_tellAll (F : Nat) (a0 : Nat) (x1 : Int32) (h : Hp) : Option Hp :=
  gq (kd a0 = (0, 9)) <|
  (h.2 a0 3).bind fun j_2 =>
  (h.2 a0 2).bind fun j_3 =>
  gq (kd j_3 = (0, 7)) <|
  (X11_put F j_2 5 (h.1 j_3 3) h).bind fun h_6 =>
  (h_6.2 a0 3).bind fun j_7 =>
  (h_6.2 a0 2).bind fun j_8 =>
  gq (kd j_8 = (0, 7)) <|
  (X11_put F j_7 6 ((h_6.1 j_8 4) / 100) h_6).bind fun h_11 =>
  (h_11.2 a0 3).bind fun j_12 =>
  (h_11.2 a0 2).bind fun j_13 =>
  gq (kd j_13 = (0, 7)) <|
  (X11_put F j_12 7 (irm (h_11.1 j_13 5) 100) h_11).bind fun h_16 =>
  (h_16.2 a0 3).bind fun j_17 =>
  (X11_put F j_17 8 x1 h_16).bind fun h_19 =>
  some h_19
def X10_deliver (F : Nat) (a0 : Nat) (h : Hp) : Option Hp :=
  gq (kd a0 = (0, 9)) <|
  (h.2 a0 2).bind fun j_2 =>
  gq (kd j_2 = (0, 7)) <|
  bq (X8_nextDraw F j_2 h) fun c_4 h_5 =>
  (X10_tellAll F a0 c_4 h_5).bind fun h_7 =>
  (h_7.2 a0 3).bind fun j_8 =>
  (X11_put F j_8 0 0 h_7).bind fun h_10 =>
  (h_10.2 a0 3).bind fun j_11 =>
  (X11_put F j_11 1 0 h_10).bind fun h_13 =>
  (h_13.2 a0 3).bind fun j_14 =>
  (X11_put F j_14 2 0 h_13).bind fun h_16 =>
  (h_16.2 a0 3).bind fun j_17 =>
  (X11_put F j_17 3 0 h_16).bind fun h_19 =>
  (h_19.2 a0 3).bind fun j_20 =>
  (X11_put F j_20 4 0 h_19).bind fun h_22 =>
  (h_22.2 a0 4).bind fun j_23 =>
  (h_22.2 a0 3).bind fun j_24 =>
  gq (kd j_23 = (0, 1)) <|
  bq (X1_amount F j_23 105 999 j_24 h_22) fun c_26 h_27 =>
  (h_27.2 a0 4).bind fun j_28 =>
  (h_27.2 a0 3).bind fun j_29 =>
  gq (kd j_28 = (0, 1)) <|
  bq (X1_amount F j_28 110 9999 j_29 h_27) fun c_31 h_32 =>
  (h_32.2 a0 2).bind fun j_33 =>
  gq (kd j_33 = (0, 7)) <|
  (X8_addStore F j_33 c_26 h_32).bind fun h_36 =>
  (h_36.2 a0 2).bind fun j_37 =>
  gq (kd j_37 = (0, 7)) <|
  (X8_addDebt F j_37 c_31 h_36).bind fun h_40 =>
  some h_40
def X10_tellSide (F : Nat) (a0 : Nat) (x1 : Int32) (h : Hp) : Option Hp :=
  gq (kd a0 = (0, 9)) <|
  (h.2 a0 3).bind fun j_2 =>
  (X11_put F j_2 0 x1 h).bind fun h_4 =>
  (h_4.2 a0 3).bind fun j_5 =>
  (X10_standing F a0 x1 h_4).bind fun c_6 =>
  (X11_put F j_5 1 c_6 h_4).bind fun h_9 =>
  (h_9.2 a0 3).bind fun j_10 =>
  (X10_standing F a0 (1 - x1) h_9).bind fun c_11 =>
  (X11_put F j_10 2 c_11 h_9).bind fun h_14 =>
  (h_14.2 a0 3).bind fun j_15 =>
  (X10_toBuild F a0 x1 h_14).bind fun c_16 =>
  (X11_put F j_15 3 c_16 h_14).bind fun h_19 =>
  (h_19.2 a0 3).bind fun j_20 =>
  (X10_lacking F a0 x1 h_19).bind fun c_21 =>
  (X11_put F j_20 4 c_21 h_19).bind fun h_24 =>
  some h_24
def X10_mayBeLaid_68 (F : Nat) (a0 : Nat) (x1 : Int32) (x4 : Int32) (h : Hp) : Option Int32 :=
  gq (kd a0 = (0, 9)) <|
  (h.2 a0 2).bind fun j_2 =>
  gq (kd j_2 = (0, 7)) <|
  (X8_laidOn F j_2 x1 h).bind fun c_4 =>
  some (x4 - c_4)
def X10_mayBeLaid (F : Nat) (a0 : Nat) (x1 : Int32) (h : Hp) : Option Int32 :=
  gq (kd a0 = (0, 9)) <|
  (X10_built F a0 x1 h).bind fun j_2 =>
  (X10_standing F a0 (1 - x1) h).bind fun c_4 =>
  gq (kd j_2 = (0, 4)) <|
  (X5_whole F j_2 h).bind fun c_7 =>
  (X10_built F a0 (1 - x1) h).bind fun j_9 =>
  gq (kd j_9 = (0, 4)) <|
  if (h.1 j_9 1) ≤ c_4 then (
    X10_mayBeLaid_68 F a0 x1 c_7 h
  ) else (
    (X10_standing F a0 x1 h).bind fun c_13 =>
    bd ((imax (c_13 + 1) (c_4 + 2))) fun x5_15 =>
    if (h.1 j_2 1) < x5_15 then (
      X10_mayBeLaid_68 F a0 x1 c_7 h
    ) else (
      (X5_stonesUpTo F j_2 x5_15 h).bind fun c_17 =>
      bd ((c_17 - 1)) fun x4_19 =>
      X10_mayBeLaid_68 F a0 x1 x4_19 h
    )
  )
def X10_work (F : Nat) (a0 : Nat) (x1 : Int32) (h : Hp) : Option (Int32 × Hp) :=
  gq (kd a0 = (0, 9)) <|
  (X10_reached F a0 x1 h).bind fun c_2 =>
  if c_2 = 0 then (
    (h.2 a0 2).bind fun j_5 =>
    gq (kd j_5 = (0, 7)) <|
    bq (X8_nextDraw F j_5 h) fun c_7 h_8 =>
    (X10_tellAll F a0 c_7 h_8).bind fun h_10 =>
    (X10_tellSide F a0 x1 h_10).bind fun h_12 =>
    (h_12.2 a0 4).bind fun j_13 =>
    (h_12.2 a0 3).bind fun j_14 =>
    gq (kd j_13 = (0, 1)) <|
    bq (X1_someHolds F j_13 120 j_14 h_12) fun c_16 h_17 =>
    if c_16 = 0 then (
      (h_17.2 a0 4).bind fun j_19 =>
      (h_17.2 a0 3).bind fun j_20 =>
      gq (kd j_19 = (0, 1)) <|
      bq (X1_amount F j_19 119 99 j_20 h_17) fun c_22 h_23 =>
      (h_23.2 a0 4).bind fun j_24 =>
      (h_23.2 a0 3).bind fun j_25 =>
      gq (kd j_24 = (0, 1)) <|
      bq (X1_amount F j_24 99 99 j_25 h_23) fun c_27 h_28 =>
      (h_28.2 a0 2).bind fun j_29 =>
      gq (kd j_29 = (0, 7)) <|
      (X10_mayBeLaid F a0 x1 h_28).bind fun c_31 =>
      bd ((imax 0 (imin c_22 (imin (h_28.1 j_29 3) c_31)))) fun x4_33 =>
      (X8_lay F j_29 x1 x4_33 h_28).bind fun h_35 =>
      (h_35.2 a0 2).bind fun j_36 =>
      gq (kd j_36 = (0, 7)) <|
      (X8_addStore F j_36 (-x4_33) h_35).bind fun h_39 =>
      (h_39.2 a0 2).bind fun j_40 =>
      gq (kd j_40 = (0, 7)) <|
      (X8_addDebt F j_40 (c_27 * x4_33) h_39).bind fun h_43 =>
      some (x4_33, h_43)
    ) else (
      some (0, h_17)
    )
  ) else (
    some (0, h)
  )
def X10_fall_33 (F : Nat) (a0 : Nat) (s0 : Int32) (h : Hp) : Option Hp :=
  gq (kd a0 = (0, 9)) <|
  (X10_standing F a0 s0 h).bind fun c_2 =>
  if c_2 ≤ 0 then (
    some h
  ) else (
    (h.2 a0 2).bind fun j_5 =>
    (X10_built F a0 s0 h).bind fun j_6 =>
    gq (kd j_6 = (0, 4)) <|
    (X5_stonesUpTo F j_6 (c_2 - 1) h).bind fun c_9 =>
    gq (kd j_5 = (0, 7)) <|
    (X8_setLaid F j_5 s0 c_9 h).bind fun h_13 =>
    (h_13.2 a0 2).bind fun j_14 =>
    gq (kd j_14 = (0, 7)) <|
    bd (up h_13 j_14 6 ((h_13.1 j_14 6) + 1)) fun h_16 =>
    some h_16
  )
def X10_fall (F : Nat) (a0 : Nat) (h : Hp) : Option Hp :=
  gq (kd a0 = (0, 9)) <|
  (X10_weight F a0 0 h).bind fun c_2 =>
  (X10_weight F a0 1 h).bind fun c_4 =>
  bd ((c_2 - c_4)) fun x1_6 =>
  if (h.1 a0 5) < (iabs x1_6) then (
    if x1_6 ≤ 0 then (
      X10_fall_33 F a0 1 h
    ) else (
      X10_fall_33 F a0 0 h
    )
  ) else (
    some h
  )
def X10_passDay (F : Nat) (a0 : Nat) (h : Hp) : Option (Int32 × Hp) :=
  gq (kd a0 = (0, 9)) <|
  (h.2 a0 2).bind fun j_2 =>
  gq (kd j_2 = (0, 7)) <|
  if (h.1 j_2 5) < 9999 then (
    (X10_deliver F a0 h).bind fun h_6 =>
    bq (X10_work F a0 0 h_6) fun c_7 h_8 =>
    bq (X10_work F a0 1 h_8) fun c_9 h_10 =>
    bd ((c_7 + c_9)) fun x1_11 =>
    (X10_fall F a0 h_10).bind fun h_13 =>
    (h_13.2 a0 2).bind fun j_14 =>
    gq (kd j_14 = (0, 7)) <|
    bd (up h_13 j_14 5 ((h_13.1 j_14 5) + 1)) fun h_16 =>
    some (x1_11, h_16)
  ) else (
    some (0, h)
  )
def X10_passDays_4 (F : Nat) : Nat → Nat → Int32 → Int32 → Int32 → Hp → Option (Int32 × Hp)
  | 0, _, _, _, _, _ => none
  | f + 1, a0, x1, x2, x3, h =>
  if x1 ≤ x3 then (
    some (x2, h)
  ) else (
    if 240 ≤ x3 then (
      some (x2, h)
    ) else (
      gq (kd a0 = (0, 9)) <|
      bq (X10_passDay F a0 h) fun c_4 h_5 =>
      bd ((x2 + c_4)) fun x2_6 =>
      bd (x3 + 1) fun x3_7 =>
      X10_passDays_4 F f a0 x1 x2_6 x3_7 h_5
    )
  )
def X10_passDays (F : Nat) (a0 : Nat) (x1 : Int32) (h : Hp) : Option (Int32 × Hp) :=
  X10_passDays_4 F F a0 x1 0 0 h
def X10_daysTillBank_2 (F : Nat) : Nat → Nat → Int32 → Int32 → Hp → Option (Int32 × Hp)
  | 0, _, _, _, _ => none
  | f + 1, a0, x1, x2, h =>
  if x1 < x2 then (
    some ((-2), h)
  ) else (
    if 240 < x2 then (
      some ((-2), h)
    ) else (
      gq (kd a0 = (0, 9)) <|
      (X10_reached F a0 0 h).bind fun c_4 =>
      if c_4 = 0 then (
        (X10_reached F a0 1 h).bind fun c_7 =>
        if c_7 = 0 then (
          bq (X10_passDay F a0 h) fun c_10 h_11 =>
          bd (x2 + 1) fun x2_12 =>
          X10_daysTillBank_2 F f a0 x1 x2_12 h_11
        ) else (
          some (x2, h)
        )
      ) else (
        some (x2, h)
      )
    )
  )
def X10_daysTillBank (F : Nat) (a0 : Nat) (x1 : Int32) (h : Hp) : Option (Int32 × Hp) :=
  X10_daysTillBank_2 F F a0 x1 0 h
def X10_sideAtBank_18 (F : Nat) (a0 : Nat) (h : Hp) : Option Int32 :=
  gq (kd a0 = (0, 9)) <|
  (X10_reached F a0 0 h).bind fun c_2 =>
  if c_2 = 0 then (
    some 1
  ) else (
    some 0
  )
def X10_sideAtBank (F : Nat) (a0 : Nat) (h : Hp) : Option Int32 :=
  gq (kd a0 = (0, 9)) <|
  (X10_reached F a0 0 h).bind fun c_2 =>
  if c_2 = 0 then (
    X10_sideAtBank_18 F a0 h
  ) else (
    (X10_reached F a0 1 h).bind fun c_5 =>
    if c_5 = 0 then (
      X10_sideAtBank_18 F a0 h
    ) else (
      some 2
    )
  )
def X10_mostAhead_4 (F : Nat) : Nat → Nat → Int32 → Int32 → Int32 → Hp → Option (Int32 × Hp)
  | 0, _, _, _, _, _ => none
  | f + 1, a0, x1, x2, x3, h =>
  if x1 < x3 then (
    some (x2, h)
  ) else (
    if 240 < x3 then (
      some (x2, h)
    ) else (
      gq (kd a0 = (0, 9)) <|
      (X10_standing F a0 0 h).bind fun c_4 =>
      (X10_standing F a0 1 h).bind fun c_6 =>
      bd ((imax x2 (iabs (c_4 - c_6)))) fun x2_8 =>
      bq (X10_passDay F a0 h) fun c_9 h_10 =>
      bd (x3 + 1) fun x3_11 =>
      X10_mostAhead_4 F f a0 x1 x2_8 x3_11 h_10
    )
  )
def X10_mostAhead (F : Nat) (a0 : Nat) (x1 : Int32) (h : Hp) : Option (Int32 × Hp) :=
  X10_mostAhead_4 F F a0 x1 0 0 h
def X10_daysTillDebt_2 (F : Nat) : Nat → Nat → Int32 → Int32 → Int32 → Hp → Option (Int32 × Hp)
  | 0, _, _, _, _, _ => none
  | f + 1, a0, x1, x2, x3, h =>
  if x1 < x3 then (
    some ((-2), h)
  ) else (
    if 240 < x3 then (
      some ((-2), h)
    ) else (
      gq (kd a0 = (0, 9)) <|
      (h.2 a0 2).bind fun j_4 =>
      gq (kd j_4 = (0, 7)) <|
      if (h.1 j_4 4) ≤ x2 then (
        bq (X10_passDay F a0 h) fun c_7 h_8 =>
        bd (x3 + 1) fun x3_9 =>
        X10_daysTillDebt_2 F f a0 x1 x2 x3_9 h_8
      ) else (
        some (x3, h)
      )
    )
  )
def X10_daysTillDebt (F : Nat) (a0 : Nat) (x1 : Int32) (x2 : Int32) (h : Hp) : Option (Int32 × Hp) :=
  X10_daysTillDebt_2 F F a0 x1 x2 0 h
def X11_tilt (F : Nat) (a0 : Nat) (x1 : Int32) (h : Hp) : Option (Int32 × Hp) :=
  (X11_within F x1 0 99999 h).bind fun c_1 =>
  if c_1 = 0 then (
    some (0, h)
  ) else (
    gq (kd a0 = (0, 10)) <|
    (h.2 a0 6).bind fun j_5 =>
    gq (kd j_5 = (0, 9)) <|
    bd (up h j_5 5 x1) fun h_7 =>
    some (1, h_7)
  )
def X11_addBytes_3 (F : Nat) : Nat → Nat → Int32 → Int32 → Hp → Option Hp
  | 0, _, _, _, _ => none
  | f + 1, a0, x1, x2, h =>
  if x2 < 0 then (
    some h
  ) else (
    gq (kd a0 = (0, 10)) <|
    (h.2 a0 0).bind fun j_3 =>
    (X11_put F j_3 (h.1 a0 1) ((iush x1 x2) &&& 255) h).bind fun h_5 =>
    bd (up h_5 a0 1 ((h_5.1 a0 1) + 1)) fun h_6 =>
    bd (x2 + (-8)) fun x2_7 =>
    X11_addBytes_3 F f a0 x1 x2_7 h_6
  )
def X11_addBytes (F : Nat) (a0 : Nat) (x1 : Int32) (h : Hp) : Option Hp :=
  X11_addBytes_3 F F a0 x1 24 h
def X11_feed (F : Nat) (a0 : Nat) (x1 : Int32) (x2 : Int32) (x3 : Int32) (x4 : Int32) (x5 : Int32) (h : Hp) : Option (Int32 × Hp) :=
  gq (kd a0 = (0, 10)) <|
  if ((h.1 a0 1) + 20) ≤ 260 then (
    (X11_addBytes F a0 x1 h).bind fun h_4 =>
    (X11_addBytes F a0 x2 h_4).bind fun h_6 =>
    (X11_addBytes F a0 x3 h_6).bind fun h_8 =>
    (X11_addBytes F a0 x4 h_8).bind fun h_10 =>
    (X11_addBytes F a0 x5 h_10).bind fun h_12 =>
    some ((h_12.1 a0 1), h_12)
  ) else (
    some ((-1), h)
  )
def X11_take (F : Nat) (a0 : Nat) (x1 : Int32) (x2 : Int32) (h : Hp) : Option (Int32 × Hp) :=
  (X11_within F x1 1 x2 h).bind fun c_1 =>
  if c_1 = 0 then (
    some (0, h)
  ) else (
    gq (kd a0 = (0, 10)) <|
    if x1 ≤ (h.1 a0 1) then (
      (h.2 a0 2).bind fun j_6 =>
      (h.2 a0 0).bind fun j_7 =>
      gq (kd j_6 = (0, 8)) <|
      (X9_begin F j_6 j_7 x1 h).bind fun h_10 =>
      bd (up h_10 a0 1 0) fun h_11 =>
      some (1, h_11)
    ) else (
      some (0, h)
    )
  )
def X11_law (F : Nat) (a0 : Nat) (x1 : Int32) (h : Hp) : Option (Int32 × Hp) :=
  gq (kd a0 = (0, 10)) <|
  bq (X11_take F a0 x1 240 h) fun c_2 h_3 =>
  if c_2 = 0 then (
    some ((-1), h_3)
  ) else (
    (h_3.2 a0 5).bind fun j_5 =>
    (h_3.2 a0 2).bind fun j_6 =>
    gq (kd j_5 = (0, 2)) <|
    (X2_readAll F j_5 j_6 h_3).bind fun h_9 =>
    (h_9.2 a0 2).bind fun j_10 =>
    gq (kd j_10 = (0, 8)) <|
    (X9_sound F j_10 h_9).bind fun c_12 =>
    if c_12 = 0 then (
      some ((h_9.1 j_10 3), h_9)
    ) else (
      (h_9.2 a0 6).bind fun j_15 =>
      (h_9.2 a0 5).bind fun j_16 =>
      gq (kd j_15 = (0, 9)) <|
      (h_9.2 j_15 4).bind fun j_18 =>
      gq (kd j_16 = (0, 2)) <|
      bq (X2_exchange F j_16 j_18 h_9) fun j_20 h_21 =>
      bd (ur h_21 j_15 4 j_20) fun h_22 =>
      (h_22.2 a0 6).bind fun j_23 =>
      gq (kd j_23 = (0, 9)) <|
      (h_22.2 j_23 4).bind fun j_25 =>
      gq (kd j_25 = (0, 1)) <|
      some ((h_22.1 j_25 7), h_22)
    )
  )
def X11_plan (F : Nat) (a0 : Nat) (x1 : Int32) (x2 : Int32) (h : Hp) : Option (Int32 × Hp) :=
  (X11_within F x1 0 1 h).bind fun c_1 =>
  if c_1 = 0 then (
    some ((-1), h)
  ) else (
    gq (kd a0 = (0, 10)) <|
    bq (X11_take F a0 x2 80 h) fun c_5 h_6 =>
    if c_5 = 0 then (
      some ((-1), h_6)
    ) else (
      (h_6.2 a0 3).bind fun j_8 =>
      (h_6.2 a0 2).bind fun j_9 =>
      gq (kd j_8 = (0, 5)) <|
      (X6_readAll F j_8 j_9 h_6).bind fun h_12 =>
      (h_12.2 a0 2).bind fun j_13 =>
      gq (kd j_13 = (0, 8)) <|
      (X9_sound F j_13 h_12).bind fun c_15 =>
      if c_15 = 0 then (
        some ((h_12.1 j_13 3), h_12)
      ) else (
        (h_12.2 a0 6).bind fun j_18 =>
        gq (kd j_18 = (0, 9)) <|
        (X10_built F j_18 x1 h_12).bind fun j_20 =>
        (h_12.2 a0 3).bind fun j_22 =>
        gq (kd j_22 = (0, 5)) <|
        (h_12.2 j_22 0).bind fun j_24 =>
        gq (kd j_20 = (0, 4)) <|
        (X5_renew F j_20 j_24 (h_12.1 j_22 1) h_12).bind fun h_27 =>
        (h_27.2 a0 3).bind fun j_28 =>
        gq (kd j_28 = (0, 5)) <|
        some ((h_27.1 j_28 1), h_27)
      )
    )
  )
def X11_orders (F : Nat) (a0 : Nat) (x1 : Int32) (h : Hp) : Option (Int32 × Hp) :=
  gq (kd a0 = (0, 10)) <|
  bq (X11_take F a0 x1 120 h) fun c_2 h_3 =>
  if c_2 = 0 then (
    some ((-1), h_3)
  ) else (
    (h_3.2 a0 4).bind fun j_5 =>
    (h_3.2 a0 2).bind fun j_6 =>
    gq (kd j_5 = (0, 3)) <|
    (X4_readAll F j_5 j_6 h_3).bind fun h_9 =>
    (h_9.2 a0 2).bind fun j_10 =>
    gq (kd j_10 = (0, 8)) <|
    (X9_sound F j_10 h_9).bind fun c_12 =>
    if c_12 = 0 then (
      some ((h_9.1 j_10 3), h_9)
    ) else (
      (h_9.2 a0 4).bind fun j_15 =>
      (h_9.2 a0 6).bind fun j_16 =>
      gq (kd j_16 = (0, 9)) <|
      (h_9.2 j_16 2).bind fun j_18 =>
      gq (kd j_15 = (0, 3)) <|
      (X4_obey F j_15 j_18 h_9).bind fun h_21 =>
      (h_21.2 a0 4).bind fun j_22 =>
      gq (kd j_22 = (0, 3)) <|
      some ((h_21.1 j_22 4), h_21)
    )
  )
def X11_days (F : Nat) (a0 : Nat) (x1 : Int32) (h : Hp) : Option (Int32 × Hp) :=
  (X11_within F x1 1 240 h).bind fun c_1 =>
  if c_1 = 0 then (
    some ((-1), h)
  ) else (
    gq (kd a0 = (0, 10)) <|
    (h.2 a0 6).bind fun j_5 =>
    gq (kd j_5 = (0, 9)) <|
    bq (X10_passDays F j_5 x1 h) fun c_7 h_8 =>
    some (c_7, h_8)
  )
def X11_triedIs (F : Nat) (a0 : Nat) (x1 : Int32) (x2 : Int32) (h : Hp) : Option Int32 :=
  bd (x1) fun t_1 =>
  if t_1 = 0 then (
    some x2
  ) else (
  if t_1 = 1 then (
    gq (kd a0 = (0, 10)) <|
    (h.2 a0 6).bind fun j_5 =>
    gq (kd j_5 = (0, 9)) <|
    (h.2 j_5 2).bind fun j_7 =>
    gq (kd j_7 = (0, 7)) <|
    (h.2 a0 8).bind fun j_9 =>
    gq (kd j_9 = (0, 7)) <|
    some ((h.1 j_7 6) - (h.1 j_9 6))
  ) else (
  if t_1 = 2 then (
    gq (kd a0 = (0, 10)) <|
    (h.2 a0 6).bind fun j_13 =>
    gq (kd j_13 = (0, 9)) <|
    (h.2 j_13 2).bind fun j_15 =>
    gq (kd j_15 = (0, 7)) <|
    some (h.1 j_15 4)
  ) else (
  if t_1 = 3 then (
    gq (kd a0 = (0, 10)) <|
    (h.2 a0 6).bind fun j_19 =>
    gq (kd j_19 = (0, 9)) <|
    (h.2 j_19 2).bind fun j_21 =>
    gq (kd j_21 = (0, 7)) <|
    some (h.1 j_21 3)
  ) else (
  gq (kd a0 = (0, 10)) <|
  (h.2 a0 6).bind fun j_24 =>
  gq (kd j_24 = (0, 9)) <|
  (X10_standing F j_24 (x1 - 10) h).bind fun c_26 =>
  some c_26
  ))))
def X11_tried_33 (F : Nat) (a0 : Nat) (x1 : Int32) (x2 : Int32) (h : Hp) : Option (Int32 × Hp) :=
  gq (kd a0 = (0, 10)) <|
  (h.2 a0 8).bind fun j_2 =>
  (h.2 a0 6).bind fun j_3 =>
  gq (kd j_3 = (0, 9)) <|
  (h.2 j_3 2).bind fun j_5 =>
  gq (kd j_2 = (0, 7)) <|
  (X8_copy F j_2 j_5 h).bind fun h_8 =>
  (h_8.2 a0 6).bind fun j_9 =>
  gq (kd j_9 = (0, 9)) <|
  bq (X10_passDays F j_9 x1 h_8) fun c_11 h_12 =>
  (X11_triedIs F a0 x2 c_11 h_12).bind fun c_13 =>
  (h_12.2 a0 6).bind fun j_15 =>
  gq (kd j_15 = (0, 9)) <|
  (h_12.2 j_15 2).bind fun j_17 =>
  (h_12.2 a0 8).bind fun j_18 =>
  gq (kd j_17 = (0, 7)) <|
  (X8_copy F j_17 j_18 h_12).bind fun h_21 =>
  some (c_13, h_21)
def X11_tried (F : Nat) (a0 : Nat) (x1 : Int32) (x2 : Int32) (h : Hp) : Option (Int32 × Hp) :=
  (X11_within F x1 1 240 h).bind fun c_1 =>
  if c_1 = 0 then (
    some ((-1), h)
  ) else (
    (X11_within F x2 0 3 h).bind fun c_4 =>
    if c_4 = 0 then (
      (X11_within F x2 10 11 h).bind fun c_7 =>
      if c_7 = 0 then (
        some ((-1), h)
      ) else (
        X11_tried_33 F a0 x1 x2 h
      )
    ) else (
      X11_tried_33 F a0 x1 x2 h
    )
  )
def X11_sideIs (F : Nat) (a0 : Nat) (x1 : Int32) (x2 : Int32) (h : Hp) : Option Int32 :=
  (X11_within F x1 0 1 h).bind fun c_1 =>
  if c_1 = 0 then (
    some (-1)
  ) else (
    bd (x2) fun t_4 =>
    if t_4 = 0 then (
      gq (kd a0 = (0, 10)) <|
      (h.2 a0 6).bind fun j_7 =>
      gq (kd j_7 = (0, 9)) <|
      (X10_built F j_7 x1 h).bind fun j_9 =>
      gq (kd j_9 = (0, 4)) <|
      some (h.1 j_9 1)
    ) else (
    if t_4 = 1 then (
      gq (kd a0 = (0, 10)) <|
      (h.2 a0 6).bind fun j_14 =>
      gq (kd j_14 = (0, 9)) <|
      (X10_standing F j_14 x1 h).bind fun c_16 =>
      some c_16
    ) else (
    if t_4 = 2 then (
      gq (kd a0 = (0, 10)) <|
      (h.2 a0 6).bind fun j_20 =>
      gq (kd j_20 = (0, 9)) <|
      (h.2 j_20 2).bind fun j_22 =>
      gq (kd j_22 = (0, 7)) <|
      (X8_laidOn F j_22 x1 h).bind fun c_24 =>
      some c_24
    ) else (
    if t_4 = 3 then (
      gq (kd a0 = (0, 10)) <|
      (h.2 a0 6).bind fun j_28 =>
      gq (kd j_28 = (0, 9)) <|
      (X10_lacking F j_28 x1 h).bind fun c_30 =>
      some c_30
    ) else (
    if t_4 = 4 then (
      gq (kd a0 = (0, 10)) <|
      (h.2 a0 6).bind fun j_34 =>
      gq (kd j_34 = (0, 9)) <|
      (X10_weight F j_34 x1 h).bind fun c_36 =>
      some c_36
    ) else (
    if t_4 = 5 then (
      gq (kd a0 = (0, 10)) <|
      (h.2 a0 6).bind fun j_40 =>
      gq (kd j_40 = (0, 9)) <|
      (X10_reached F j_40 x1 h).bind fun c_42 =>
      if c_42 = 0 then (
        some 0
      ) else (
        some 1
      )
    ) else (
    if t_4 = 6 then (
      gq (kd a0 = (0, 10)) <|
      (h.2 a0 6).bind fun j_47 =>
      gq (kd j_47 = (0, 9)) <|
      (X10_built F j_47 x1 h).bind fun j_49 =>
      gq (kd j_49 = (0, 4)) <|
      (X5_whole F j_49 h).bind fun c_52 =>
      some c_52
    ) else (
    some (-1)
    )))))))
  )
def X11_archIs (F : Nat) (a0 : Nat) (x1 : Int32) (x2 : Int32) (x3 : Int32) (h : Hp) : Option Int32 :=
  (X11_within F x1 0 1 h).bind fun c_1 =>
  if c_1 = 0 then (
    some (-1)
  ) else (
    gq (kd a0 = (0, 10)) <|
    (h.2 a0 6).bind fun j_5 =>
    gq (kd j_5 = (0, 9)) <|
    (X10_built F j_5 x1 h).bind fun j_7 =>
    gq (kd j_7 = (0, 4)) <|
    (X11_within F x2 1 (h.1 j_7 1) h).bind fun c_10 =>
    if c_10 = 0 then (
      some (-1)
    ) else (
      bd (x3) fun t_13 =>
      if t_13 = 0 then (
        (X10_built F j_5 x1 h).bind fun j_15 =>
        gq (kd j_15 = (0, 4)) <|
        (X5_stonesOf F j_15 x2 h).bind fun c_18 =>
        some c_18
      ) else (
      if t_13 = 1 then (
        (X10_standing F j_5 x1 h).bind fun c_21 =>
        if c_21 < x2 then (
          some 0
        ) else (
          some 1
        )
      ) else (
      if t_13 = 2 then (
        (h.2 j_5 2).bind fun j_25 =>
        gq (kd j_25 = (0, 7)) <|
        (X8_benchAt F j_25 x1 x2 h).bind fun c_27 =>
        some c_27
      ) else (
      some (-1)
      )))
    )
  )
def X11_touches_64 (F : Nat) (a0 : Nat) (s0 : Int32) (h : Hp) : Option (Int32 × Hp) :=
  gq (kd a0 = (0, 10)) <|
  (h.2 a0 6).bind fun j_2 =>
  gq (kd j_2 = (0, 9)) <|
  (h.2 j_2 2).bind fun j_4 =>
  (h.2 a0 8).bind fun j_5 =>
  gq (kd j_4 = (0, 7)) <|
  (X8_copy F j_4 j_5 h).bind fun h_8 =>
  some (s0, h_8)
def X11_touches_53 (F : Nat) (a0 : Nat) (x3 : Int32) (h : Hp) : Option (Int32 × Hp) :=
  X11_touches_64 F a0 x3 h
def X11_touches (F : Nat) (a0 : Nat) (x1 : Int32) (x2 : Int32) (h : Hp) : Option (Int32 × Hp) :=
  (X11_within F x1 1 240 h).bind fun c_1 =>
  if c_1 = 0 then (
    some ((-1), h)
  ) else (
    (X11_within F x2 0 1 h).bind fun c_4 =>
    if c_4 = 0 then (
      some ((-1), h)
    ) else (
      gq (kd a0 = (0, 10)) <|
      (h.2 a0 8).bind fun j_8 =>
      (h.2 a0 6).bind fun j_9 =>
      gq (kd j_9 = (0, 9)) <|
      (h.2 j_9 2).bind fun j_11 =>
      gq (kd j_8 = (0, 7)) <|
      (X8_copy F j_8 j_11 h).bind fun h_14 =>
      (h_14.2 a0 6).bind fun j_15 =>
      gq (kd j_15 = (0, 9)) <|
      bq (X10_daysTillBank F j_15 x1 h_14) fun c_17 h_18 =>
      if x2 = 0 then (
        X11_touches_53 F a0 c_17 h_18
      ) else (
        if 0 ≤ c_17 then (
          (h_18.2 a0 6).bind fun j_21 =>
          gq (kd j_21 = (0, 9)) <|
          (X10_sideAtBank F j_21 h_18).bind fun c_23 =>
          X11_touches_64 F a0 c_23 h_18
        ) else (
          X11_touches_53 F a0 c_17 h_18
        )
      )
    )
  )
def X11_ahead (F : Nat) (a0 : Nat) (x1 : Int32) (h : Hp) : Option (Int32 × Hp) :=
  (X11_within F x1 1 240 h).bind fun c_1 =>
  if c_1 = 0 then (
    some ((-1), h)
  ) else (
    gq (kd a0 = (0, 10)) <|
    (h.2 a0 8).bind fun j_5 =>
    (h.2 a0 6).bind fun j_6 =>
    gq (kd j_6 = (0, 9)) <|
    (h.2 j_6 2).bind fun j_8 =>
    gq (kd j_5 = (0, 7)) <|
    (X8_copy F j_5 j_8 h).bind fun h_11 =>
    (h_11.2 a0 6).bind fun j_12 =>
    gq (kd j_12 = (0, 9)) <|
    bq (X10_mostAhead F j_12 x1 h_11) fun c_14 h_15 =>
    (h_15.2 a0 6).bind fun j_16 =>
    gq (kd j_16 = (0, 9)) <|
    (h_15.2 j_16 2).bind fun j_18 =>
    (h_15.2 a0 8).bind fun j_19 =>
    gq (kd j_18 = (0, 7)) <|
    (X8_copy F j_18 j_19 h_15).bind fun h_22 =>
    some (c_14, h_22)
  )
def X11_beyond (F : Nat) (a0 : Nat) (x1 : Int32) (x2 : Int32) (h : Hp) : Option (Int32 × Hp) :=
  (X11_within F x1 1 240 h).bind fun c_1 =>
  if c_1 = 0 then (
    some ((-1), h)
  ) else (
    (X11_within F x2 0 999999 h).bind fun c_4 =>
    if c_4 = 0 then (
      some ((-1), h)
    ) else (
      gq (kd a0 = (0, 10)) <|
      (h.2 a0 8).bind fun j_8 =>
      (h.2 a0 6).bind fun j_9 =>
      gq (kd j_9 = (0, 9)) <|
      (h.2 j_9 2).bind fun j_11 =>
      gq (kd j_8 = (0, 7)) <|
      (X8_copy F j_8 j_11 h).bind fun h_14 =>
      (h_14.2 a0 6).bind fun j_15 =>
      gq (kd j_15 = (0, 9)) <|
      bq (X10_daysTillDebt F j_15 x1 x2 h_14) fun c_17 h_18 =>
      (h_18.2 a0 6).bind fun j_19 =>
      gq (kd j_19 = (0, 9)) <|
      (h_18.2 j_19 2).bind fun j_21 =>
      (h_18.2 a0 8).bind fun j_22 =>
      gq (kd j_21 = (0, 7)) <|
      (X8_copy F j_21 j_22 h_18).bind fun h_25 =>
      some (c_17, h_25)
    )
  )
def X11_even_55 (F : Nat) : Nat → Nat → Int32 → Int32 → Int32 → Int32 → Int32 → Hp → Option (Int32 × Hp)
  | 0, _, _, _, _, _, _, _ => none
  | f + 1, a0, x1, x2, x3, x4, x5, h =>
  if x1 ≤ x5 then (
    gq (kd a0 = (0, 10)) <|
    (h.2 a0 6).bind fun j_3 =>
    gq (kd j_3 = (0, 9)) <|
    (X10_weight F j_3 0 h).bind fun c_5 =>
    (X10_weight F j_3 1 h).bind fun c_7 =>
    bd ((c_5 - c_7)) fun x5_9 =>
    (h.2 a0 2).bind fun j_10 =>
    (G3 F 60 j_10 0 x3 x4 x5_9 0 h).bind fun c_11 =>
    if x2 = 0 then (
      some ((c_11 / 16), h)
    ) else (
      some ((irm c_11 16), h)
    )
  ) else (
    gq (kd a0 = (0, 10)) <|
    (h.2 a0 2).bind fun j_15 =>
    gq (kd j_15 = (0, 8)) <|
    (X9_at F j_15 x5 h).bind fun c_17 =>
    if c_17 = 0 then (
      some ((-3), h)
    ) else (
      bd (x5 + 1) fun x5_20 =>
      X11_even_55 F f a0 x1 x2 x3 x4 x5_20 h
    )
  )
def X11_even (F : Nat) (a0 : Nat) (x1 : Int32) (x2 : Int32) (h : Hp) : Option (Int32 × Hp) :=
  (X11_within F x2 0 1 h).bind fun c_1 =>
  if c_1 = 0 then (
    some ((-1), h)
  ) else (
    gq (kd a0 = (0, 10)) <|
    bq (X11_take F a0 x1 8 h) fun c_5 h_6 =>
    if c_5 = 0 then (
      some ((-1), h_6)
    ) else (
      (h_6.2 a0 6).bind fun j_8 =>
      gq (kd j_8 = (0, 9)) <|
      (X10_standing F j_8 0 h_6).bind fun c_10 =>
      (X10_standing F j_8 1 h_6).bind fun c_12 =>
      if c_10 = 0 then (
        some ((-2), h_6)
      ) else (
        if c_12 = 0 then (
          some ((-2), h_6)
        ) else (
          X11_even_55 F F a0 x1 x2 c_10 c_12 0 h_6
        )
      )
    )
  )
def X11_inARow (F : Nat) (a0 : Nat) (h : Hp) : Option (Int32 × Hp) :=
  gq (kd a0 = (0, 10)) <|
  (h.2 a0 10).bind fun j_2 =>
  (h.2 a0 6).bind fun j_3 =>
  gq (kd j_2 = (0, 6)) <|
  bq (X7_ordersOfBuilding F j_2 j_3 h) fun c_5 h_6 =>
  some (c_5, h_6)
def X11_throwable (F : Nat) (x0 : Int32) (x1 : Int32) (x2 : Int32) (x3 : Int32) (h : Hp) : Option Int32 :=
  (X11_within F x0 1 200 h).bind fun c_1 =>
  if c_1 = 0 then (
    some 0
  ) else (
    (X11_within F x1 0 99 h).bind fun c_4 =>
    if c_4 = 0 then (
      some 0
    ) else (
      (X11_within F x2 0 99 h).bind fun c_7 =>
      if c_7 = 0 then (
        some 0
      ) else (
        (X11_within F x3 0 20 h).bind fun c_10 =>
        if c_10 = 0 then (
          some 0
        ) else (
          some 1
        )
      )
    )
  )
def X11_ball (F : Nat) (a0 : Nat) (x1 : Int32) (x2 : Int32) (x3 : Int32) (x4 : Int32) (x5 : Int32) (h : Hp) : Option Int32 :=
  (X11_throwable F x1 x2 x3 x5 h).bind fun c_1 =>
  if c_1 = 0 then (
    some (-1)
  ) else (
    (X11_within F x4 1 20 h).bind fun c_4 =>
    if c_4 = 0 then (
      some (-1)
    ) else (
      (X7_fliesOver F x1 x2 x3 x4 x5 h).bind fun c_7 =>
      if c_7 = 0 then (
        some 0
      ) else (
        some 1
      )
    )
  )
def X11_leastSpeed_16 (F : Nat) : Nat → Int32 → Int32 → Int32 → Int32 → Int32 → Hp → Option Int32
  | 0, _, _, _, _, _, _ => none
  | f + 1, x1, x2, x3, x4, x5, h =>
  if 20 < x5 then (
    some (-2)
  ) else (
    (X7_fliesOver F x1 x2 x3 x5 x4 h).bind fun c_2 =>
    if c_2 = 0 then (
      bd (x5 + 1) fun x5_5 =>
      X11_leastSpeed_16 F f x1 x2 x3 x4 x5_5 h
    ) else (
      some x5
    )
  )
def X11_leastSpeed (F : Nat) (a0 : Nat) (x1 : Int32) (x2 : Int32) (x3 : Int32) (x4 : Int32) (h : Hp) : Option Int32 :=
  (X11_throwable F x1 x2 x3 x4 h).bind fun c_1 =>
  if c_1 = 0 then (
    some (-1)
  ) else (
    X11_leastSpeed_16 F F x1 x2 x3 x4 1 h
  )
def X11_piles (F : Nat) (a0 : Nat) (x1 : Int32) (x2 : Int32) (x3 : Int32) (h : Hp) : Option (Int32 × Hp) :=
  (X11_within F x1 1 60 h).bind fun c_1 =>
  if c_1 = 0 then (
    some ((-1), h)
  ) else (
    (X11_within F x2 1 60 h).bind fun c_4 =>
    if c_4 = 0 then (
      some ((-1), h)
    ) else (
      (X11_within F x3 0 1 h).bind fun c_7 =>
      if c_7 = 0 then (
        some ((-1), h)
      ) else (
        gq (kd a0 = (0, 10)) <|
        bq (X11_take F a0 8 8 h) fun c_11 h_12 =>
        if c_11 = 0 then (
          some ((-1), h_12)
        ) else (
          (h_12.2 a0 10).bind fun j_14 =>
          (h_12.2 a0 2).bind fun j_15 =>
          gq (kd j_14 = (0, 6)) <|
          bq (X7_lastPile F j_14 j_15 x1 x2 h_12) fun c_17 h_18 =>
          if 0 ≤ c_17 then (
            if x3 = 0 then (
              (h_18.2 a0 10).bind fun j_21 =>
              gq (kd j_21 = (0, 6)) <|
              (X7_pilesUpTo F j_21 c_17 h_18).bind fun c_23 =>
              some (c_23, h_18)
            ) else (
              some (c_17, h_18)
            )
          ) else (
            some ((-2), h_18)
          )
        )
      )
    )
  )
def X11_lamps (F : Nat) (a0 : Nat) (x1 : Int32) (x2 : Int32) (x3 : Int32) (h : Hp) : Option (Int32 × Hp) :=
  (X11_within F x2 0 5 h).bind fun c_1 =>
  if c_1 = 0 then (
    some ((-1), h)
  ) else (
    (X11_within F x3 0 1 h).bind fun c_4 =>
    if c_4 = 0 then (
      some ((-1), h)
    ) else (
      gq (kd a0 = (0, 10)) <|
      bq (X11_take F a0 x1 12 h) fun c_8 h_9 =>
      if c_8 = 0 then (
        some ((-1), h_9)
      ) else (
        (h_9.2 a0 2).bind fun j_11 =>
        (X7_fewestLamps F j_11 x1 x2 h_9).bind fun c_12 =>
        if 0 ≤ c_12 then (
          if x3 = 0 then (
            (J_bitCount F c_12 h_9).bind fun c_16 =>
            some (c_16, h_9)
          ) else (
            some (c_12, h_9)
          )
        ) else (
          some ((-2), h_9)
        )
      )
    )
  )
def X11_claims_35 (F : Nat) : Nat → Nat → Int32 → Int32 → Int32 → Hp → Option (Int32 × Hp)
  | 0, _, _, _, _, _ => none
  | f + 1, a0, x1, x2, x3, h =>
  if x1 ≤ x3 then (
    gq (kd a0 = (0, 10)) <|
    (h.2 a0 2).bind fun j_3 =>
    (X7_claimed F j_3 x1 x2 h).bind fun c_4 =>
    some (c_4, h)
  ) else (
    gq (kd a0 = (0, 10)) <|
    (h.2 a0 2).bind fun j_7 =>
    gq (kd j_7 = (0, 8)) <|
    (X9_at F j_7 (2 * x3) h).bind fun c_9 =>
    (X9_at F j_7 ((2 * x3) + 1) h).bind fun c_11 =>
    if c_9 < c_11 then (
      bd (x3 + 1) fun x3_14 =>
      X11_claims_35 F f a0 x1 x2 x3_14 h
    ) else (
      some ((-2), h)
    )
  )
def X11_claims (F : Nat) (a0 : Nat) (x1 : Int32) (x2 : Int32) (h : Hp) : Option (Int32 × Hp) :=
  (X11_within F x1 1 10 h).bind fun c_1 =>
  if c_1 = 0 then (
    some ((-1), h)
  ) else (
    (X11_within F x2 0 2 h).bind fun c_4 =>
    if c_4 = 0 then (
      some ((-1), h)
    ) else (
      gq (kd a0 = (0, 10)) <|
      bq (X11_take F a0 (2 * x1) 20 h) fun c_8 h_9 =>
      if c_8 = 0 then (
        some ((-1), h_9)
      ) else (
        X11_claims_35 F F a0 x1 x2 0 h_9
      )
    )
  )
def X11_rowed (F : Nat) (a0 : Nat) (x1 : Int32) (h : Hp) : Option (Int32 × Hp) :=
  gq (kd a0 = (0, 10)) <|
  bq (X11_take F a0 x1 10 h) fun c_2 h_3 =>
  if c_2 = 0 then (
    some ((-1), h_3)
  ) else (
    (h_3.2 a0 10).bind fun j_5 =>
    (h_3.2 a0 2).bind fun j_6 =>
    gq (kd j_5 = (0, 6)) <|
    bq (X7_leastMinutes F j_5 j_6 x1 h_3) fun c_8 h_9 =>
    some (c_8, h_9)
  )
def X11_wed_38 (F : Nat) : Nat → Nat → Int32 → Int32 → Int32 → Hp → Option (Int32 × Hp)
  | 0, _, _, _, _, _ => none
  | f + 1, a0, x1, x2, x3, h =>
  if (2 * x1) ≤ x3 then (
    gq (kd a0 = (0, 10)) <|
    (h.2 a0 10).bind fun j_3 =>
    (h.2 a0 2).bind fun j_4 =>
    gq (kd j_3 = (0, 6)) <|
    bq (X7_weds F j_3 j_4 x1 x2 h) fun c_6 h_7 =>
    some (c_6, h_7)
  ) else (
    gq (kd a0 = (0, 10)) <|
    (h.2 a0 2).bind fun j_9 =>
    gq (kd j_9 = (0, 8)) <|
    (X9_tellsEachOnce F j_9 (x3 * x1) x1 h).bind fun c_11 =>
    if c_11 = 0 then (
      some ((-2), h)
    ) else (
      bd (x3 + 1) fun x3_14 =>
      X11_wed_38 F f a0 x1 x2 x3_14 h
    )
  )
def X11_wed (F : Nat) (a0 : Nat) (x1 : Int32) (x2 : Int32) (h : Hp) : Option (Int32 × Hp) :=
  (X11_within F x1 1 5 h).bind fun c_1 =>
  if c_1 = 0 then (
    some ((-1), h)
  ) else (
    (X11_within F x2 0 (x1 - 1) h).bind fun c_4 =>
    if c_4 = 0 then (
      some ((-1), h)
    ) else (
      gq (kd a0 = (0, 10)) <|
      bq (X11_take F a0 ((2 * x1) * x1) 50 h) fun c_8 h_9 =>
      if c_8 = 0 then (
        some ((-1), h_9)
      ) else (
        X11_wed_38 F F a0 x1 x2 0 h_9
      )
    )
  )
def X11_changes (F : Nat) (a0 : Nat) (x1 : Int32) (h : Hp) : Option (Int32 × Hp) :=
  (X11_within F x1 2 6 h).bind fun c_1 =>
  if c_1 = 0 then (
    some ((-1), h)
  ) else (
    gq (kd a0 = (0, 10)) <|
    bq (X11_take F a0 x1 6 h) fun c_5 h_6 =>
    if c_5 = 0 then (
      some ((-1), h_6)
    ) else (
      (h_6.2 a0 2).bind fun j_8 =>
      gq (kd j_8 = (0, 8)) <|
      (X9_tellsEachOnce F j_8 0 x1 h_6).bind fun c_10 =>
      if c_10 = 0 then (
        some ((-2), h_6)
      ) else (
        (h_6.2 a0 9).bind fun j_13 =>
        gq (kd j_13 = (0, 0)) <|
        bq (X0_fewestChanges F j_13 j_8 x1 h_6) fun c_15 h_16 =>
        some (c_15, h_16)
      )
    )
  )
def X11_dialect (F : Nat) (a0 : Nat) (x1 : Int32) (x2 : Int32) (x3 : Int32) (h : Hp) : Option Int32 :=
  (X11_within F x1 1 8 h).bind fun c_1 =>
  if c_1 = 0 then (
    some (-1)
  ) else (
    (X11_within F x2 0 8 h).bind fun c_4 =>
    if c_4 = 0 then (
      some (-1)
    ) else (
      (X11_within F x3 0 1 h).bind fun c_7 =>
      if c_7 = 0 then (
        some (-1)
      ) else (
        if x3 = 0 then (
          (X7_mixtures F x1 x2 h).bind fun c_13 =>
          some c_13
        ) else (
          (X7_leastMixture F x1 x2 h).bind fun c_11 =>
          some c_11
        )
      )
    )
  )
def X11_owed (F : Nat) (a0 : Nat) (x1 : Int32) (x2 : Int32) (h : Hp) : Option Int32 :=
  (X11_within F x1 1 99999 h).bind fun c_1 =>
  if c_1 = 0 then (
    some (-1)
  ) else (
    (X11_within F x2 0 50 h).bind fun c_4 =>
    if c_4 = 0 then (
      some (-1)
    ) else (
      gq (kd a0 = (0, 10)) <|
      (h.2 a0 6).bind fun j_8 =>
      gq (kd j_8 = (0, 9)) <|
      (h.2 j_8 2).bind fun j_10 =>
      gq (kd j_10 = (0, 7)) <|
      (X7_yearsTillPaid F (h.1 j_10 4) x1 x2 h).bind fun c_12 =>
      some c_12
    )
  )
def X11_seed (F : Nat) (a0 : Nat) (x1 : Int32) (h : Hp) : Option (Int32 × Hp) :=
  (X11_within F x1 0 65535 h).bind fun c_1 =>
  if c_1 = 0 then (
    some (0, h)
  ) else (
    gq (kd a0 = (0, 10)) <|
    (h.2 a0 6).bind fun j_5 =>
    gq (kd j_5 = (0, 9)) <|
    (h.2 j_5 2).bind fun j_7 =>
    gq (kd j_7 = (0, 7)) <|
    bd (up h j_7 7 x1) fun h_9 =>
    some (1, h_9)
  )
def X11_keep (F : Nat) (a0 : Nat) (h : Hp) : Option (Int32 × Hp) :=
  gq (kd a0 = (0, 10)) <|
  (h.2 a0 7).bind fun j_2 =>
  (h.2 a0 6).bind fun j_3 =>
  gq (kd j_3 = (0, 9)) <|
  (h.2 j_3 2).bind fun j_5 =>
  gq (kd j_2 = (0, 7)) <|
  (X8_copy F j_2 j_5 h).bind fun h_8 =>
  bd (up h_8 a0 11 1) fun h_9 =>
  (h_9.2 a0 6).bind fun j_10 =>
  gq (kd j_10 = (0, 9)) <|
  (h_9.2 j_10 2).bind fun j_12 =>
  gq (kd j_12 = (0, 7)) <|
  some ((h_9.1 j_12 5), h_9)
def X11_undo (F : Nat) (a0 : Nat) (h : Hp) : Option (Int32 × Hp) :=
  gq (kd a0 = (0, 10)) <|
  if (h.1 a0 11) = 0 then (
    some (0, h)
  ) else (
    (h.2 a0 6).bind fun j_3 =>
    gq (kd j_3 = (0, 9)) <|
    (h.2 j_3 2).bind fun j_5 =>
    (h.2 a0 7).bind fun j_6 =>
    gq (kd j_5 = (0, 7)) <|
    (X8_copy F j_5 j_6 h).bind fun h_9 =>
    some (1, h_9)
  )
def X11_checkedIs (F : Nat) (a0 : Nat) (x1 : Int32) (h : Hp) : Option Int32 :=
  bd (x1) fun t_1 =>
  if t_1 = 0 then (
    gq (kd a0 = (0, 10)) <|
    (h.2 a0 6).bind fun j_4 =>
    gq (kd j_4 = (0, 9)) <|
    (X10_standing F j_4 0 h).bind fun c_6 =>
    some c_6
  ) else (
  if t_1 = 1 then (
    gq (kd a0 = (0, 10)) <|
    (h.2 a0 6).bind fun j_10 =>
    gq (kd j_10 = (0, 9)) <|
    (X10_standing F j_10 1 h).bind fun c_12 =>
    some c_12
  ) else (
  if t_1 = 2 then (
    gq (kd a0 = (0, 10)) <|
    (h.2 a0 6).bind fun j_16 =>
    gq (kd j_16 = (0, 9)) <|
    (h.2 j_16 2).bind fun j_18 =>
    gq (kd j_18 = (0, 7)) <|
    some (h.1 j_18 6)
  ) else (
  gq (kd a0 = (0, 10)) <|
  (h.2 a0 6).bind fun j_21 =>
  gq (kd j_21 = (0, 9)) <|
  (h.2 j_21 2).bind fun j_23 =>
  gq (kd j_23 = (0, 7)) <|
  some (h.1 j_23 3)
  )))
def X11_check_14 (F : Nat) : Nat → Nat → Int32 → Hp → Option (Int32 × Hp)
  | 0, _, _, _ => none
  | f + 1, a0, x1, h =>
  if 4 ≤ x1 then (
    some ((-1), h)
  ) else (
    gq (kd a0 = (0, 10)) <|
    (h.2 a0 2).bind fun j_3 =>
    gq (kd j_3 = (0, 8)) <|
    (X9_at F j_3 x1 h).bind fun c_5 =>
    (X11_checkedIs F a0 x1 h).bind fun c_7 =>
    if c_5 = (irm c_7 256) then (
      bd (x1 + 1) fun x1_10 =>
      X11_check_14 F f a0 x1_10 h
    ) else (
      some (x1, h)
    )
  )
def X11_check (F : Nat) (a0 : Nat) (h : Hp) : Option (Int32 × Hp) :=
  gq (kd a0 = (0, 10)) <|
  bq (X11_take F a0 4 4 h) fun c_2 h_3 =>
  if c_2 = 0 then (
    some ((-2), h_3)
  ) else (
    X11_check_14 F F a0 0 h_3
  )
def X11_count (F : Nat) (a0 : Nat) (x1 : Int32) (h : Hp) : Option Int32 :=
  bd (x1) fun t_1 =>
  if t_1 = 0 then (
    gq (kd a0 = (0, 10)) <|
    (h.2 a0 6).bind fun j_4 =>
    gq (kd j_4 = (0, 9)) <|
    (h.2 j_4 2).bind fun j_6 =>
    gq (kd j_6 = (0, 7)) <|
    some (h.1 j_6 5)
  ) else (
  if t_1 = 1 then (
    gq (kd a0 = (0, 10)) <|
    (h.2 a0 6).bind fun j_10 =>
    gq (kd j_10 = (0, 9)) <|
    (h.2 j_10 2).bind fun j_12 =>
    gq (kd j_12 = (0, 7)) <|
    some (h.1 j_12 3)
  ) else (
  if t_1 = 2 then (
    gq (kd a0 = (0, 10)) <|
    (h.2 a0 6).bind fun j_16 =>
    gq (kd j_16 = (0, 9)) <|
    (h.2 j_16 2).bind fun j_18 =>
    gq (kd j_18 = (0, 7)) <|
    some (h.1 j_18 4)
  ) else (
  if t_1 = 3 then (
    gq (kd a0 = (0, 10)) <|
    (h.2 a0 6).bind fun j_22 =>
    gq (kd j_22 = (0, 9)) <|
    (h.2 j_22 2).bind fun j_24 =>
    gq (kd j_24 = (0, 7)) <|
    some (h.1 j_24 6)
  ) else (
  if t_1 = 4 then (
    gq (kd a0 = (0, 10)) <|
    (h.2 a0 6).bind fun j_28 =>
    gq (kd j_28 = (0, 9)) <|
    some (h.1 j_28 5)
  ) else (
  if t_1 = 5 then (
    gq (kd a0 = (0, 10)) <|
    (h.2 a0 6).bind fun j_32 =>
    gq (kd j_32 = (0, 9)) <|
    (h.2 j_32 4).bind fun j_34 =>
    gq (kd j_34 = (0, 1)) <|
    some (h.1 j_34 7)
  ) else (
  if t_1 = 6 then (
    gq (kd a0 = (0, 10)) <|
    some (h.1 a0 1)
  ) else (
  if t_1 = 7 then (
    gq (kd a0 = (0, 10)) <|
    (h.2 a0 6).bind fun j_40 =>
    gq (kd j_40 = (0, 9)) <|
    (h.2 j_40 2).bind fun j_42 =>
    gq (kd j_42 = (0, 7)) <|
    some (h.1 j_42 7)
  ) else (
  if t_1 = 8 then (
    gq (kd a0 = (0, 10)) <|
    (h.2 a0 6).bind fun j_46 =>
    gq (kd j_46 = (0, 9)) <|
    (X10_weight F j_46 0 h).bind fun c_48 =>
    (X10_weight F j_46 1 h).bind fun c_50 =>
    some (iabs (c_48 - c_50))
  ) else (
  some (-1)
  )))))))))
def X12_in (F : Nat) (x0 : Int32) (x1 : Int32) (x2 : Int32) (h : Hp) : Option Int32 :=
  if x0 < x1 then (
    some 0
  ) else (
    if x2 < x0 then (
      some 0
    ) else (
      some 1
    )
  )
def X12_min (F : Nat) (x0 : Int32) (x1 : Int32) (h : Hp) : Option Int32 :=
  if x1 ≤ x0 then (
    some x1
  ) else (
    some x0
  )
def X12_max (F : Nat) (x0 : Int32) (x1 : Int32) (h : Hp) : Option Int32 :=
  if x0 ≤ x1 then (
    some x1
  ) else (
    some x0
  )
def X12_size (F : Nat) (x0 : Int32) (h : Hp) : Option Int32 :=
  if 0 ≤ x0 then (
    some x0
  ) else (
    some (-x0)
  )
def X12_has (F : Nat) (x0 : Int32) (x1 : Int32) (h : Hp) : Option Int32 :=
  if ((x0 >>> (x1 &&& 31)) &&& 1) = 1 then (
    some 1
  ) else (
    some 0
  )
def X12_bits_4 (F : Nat) : Nat → Int32 → Int32 → Int32 → Hp → Option Int32
  | 0, _, _, _, _ => none
  | f + 1, x0, x1, x2, h =>
  if 20 ≤ x2 then (
    some x1
  ) else (
    bd ((x1 + ((x0 >>> (x2 &&& 31)) &&& 1))) fun x1_2 =>
    bd (x2 + 1) fun x2_3 =>
    X12_bits_4 F f x0 x1_2 x2_3 h
  )
def X12_bits (F : Nat) (x0 : Int32) (h : Hp) : Option Int32 :=
  X12_bits_4 F F x0 0 0 h
def X12_copies_2 (F : Nat) : Nat → Nat → Nat → Int32 → Hp → Option Hp
  | 0, _, _, _, _ => none
  | f + 1, a0, a1, x2, h =>
  if 47 ≤ x2 then (
    some h
  ) else (
    gq ((kd a0).1 = 1) <|
    gq (inb x2 (kd a0).2) <|
    gq ((kd a1).1 = 1) <|
    gq (inb x2 (kd a1).2) <|
    bd (up h a1 (ix x2) (h.1 a0 (ix x2))) fun h_6 =>
    bd (x2 + 1) fun x2_7 =>
    X12_copies_2 F f a0 a1 x2_7 h_6
  )
def X12_copies (F : Nat) (a0 : Nat) (a1 : Nat) (h : Hp) : Option Hp :=
  X12_copies_2 F F a0 a1 0 h
def X12_isSide (F : Nat) (x0 : Int32) (h : Hp) : Option Int32 :=
  (X12_in F x0 0 1 h).bind fun c_1 =>
  gq (c_1 = 0 ∨ c_1 = 1) <|
  some c_1
def X12_stonesTo_5 (F : Nat) : Nat → Nat → Int32 → Int32 → Int32 → Int32 → Hp → Option Int32
  | 0, _, _, _, _, _, _ => none
  | f + 1, a0, x1, x2, x3, x4, h =>
  if x2 ≤ x4 then (
    some x3
  ) else (
    gq (kd a0 = (0, 11)) <|
    (h.2 a0 4).bind fun j_3 =>
    gq ((kd j_3).1 = 1) <|
    gq (inb ((20 * x1) + x4) (kd j_3).2) <|
    bd ((x3 + (h.1 j_3 (ix ((20 * x1) + x4))))) fun x3_6 =>
    bd (x4 + 1) fun x4_7 =>
    X12_stonesTo_5 F f a0 x1 x2 x3_6 x4_7 h
  )
def X12_stonesTo (F : Nat) (a0 : Nat) (x1 : Int32) (x2 : Int32) (h : Hp) : Option Int32 :=
  X12_stonesTo_5 F F a0 x1 x2 0 0 h
def X12_whole (F : Nat) (a0 : Nat) (x1 : Int32) (h : Hp) : Option Int32 :=
  gq (kd a0 = (0, 11)) <|
  (h.2 a0 3).bind fun j_2 =>
  gq ((kd j_2).1 = 1) <|
  gq (inb x1 (kd j_2).2) <|
  (X12_stonesTo F a0 x1 (h.1 j_2 (ix x1)) h).bind fun c_5 =>
  some c_5
def X12_standing_2 (F : Nat) : Nat → Nat → Int32 → Int32 → Hp → Option Int32
  | 0, _, _, _, _ => none
  | f + 1, a0, x1, x2, h =>
  gq (kd a0 = (0, 11)) <|
  (h.2 a0 3).bind fun j_2 =>
  gq ((kd j_2).1 = 1) <|
  gq (inb x1 (kd j_2).2) <|
  if (h.1 j_2 (ix x1)) ≤ x2 then (
    some x2
  ) else (
    (X12_stonesTo F a0 x1 (x2 + 1) h).bind fun c_6 =>
    (h.2 a0 0).bind fun j_8 =>
    gq ((kd j_8).1 = 1) <|
    gq (inb (0 + x1) (kd j_8).2) <|
    if (h.1 j_8 (ix (0 + x1))) < c_6 then (
      some x2
    ) else (
      bd ((x2 + 1)) fun x2_12 =>
      X12_standing_2 F f a0 x1 x2_12 h
    )
  )
def X12_standing (F : Nat) (a0 : Nat) (x1 : Int32) (h : Hp) : Option Int32 :=
  X12_standing_2 F F a0 x1 0 h
def X12_leftToBuild (F : Nat) (a0 : Nat) (x1 : Int32) (h : Hp) : Option Int32 :=
  gq (kd a0 = (0, 11)) <|
  (h.2 a0 3).bind fun j_2 =>
  gq ((kd j_2).1 = 1) <|
  gq (inb x1 (kd j_2).2) <|
  (X12_standing F a0 x1 h).bind fun c_5 =>
  some ((h.1 j_2 (ix x1)) - c_5)
def X12_nextNeeds (F : Nat) (a0 : Nat) (x1 : Int32) (h : Hp) : Option Int32 :=
  gq (kd a0 = (0, 11)) <|
  (X12_leftToBuild F a0 x1 h).bind fun c_2 =>
  if c_2 = 0 then (
    some 0
  ) else (
    (X12_standing F a0 x1 h).bind fun c_5 =>
    (X12_stonesTo F a0 x1 (c_5 + 1) h).bind fun c_7 =>
    (h.2 a0 0).bind fun j_9 =>
    gq ((kd j_9).1 = 1) <|
    gq (inb (0 + x1) (kd j_9).2) <|
    some (c_7 - (h.1 j_9 (ix (0 + x1))))
  )
def X12_touchesNow (F : Nat) (a0 : Nat) (x1 : Int32) (h : Hp) : Option Int32 :=
  gq (kd a0 = (0, 11)) <|
  (h.2 a0 3).bind fun j_2 =>
  gq ((kd j_2).1 = 1) <|
  gq (inb x1 (kd j_2).2) <|
  if (h.1 j_2 (ix x1)) ≤ 0 then (
    some 0
  ) else (
    (X12_leftToBuild F a0 x1 h).bind fun c_6 =>
    if c_6 = 0 then (
      some 1
    ) else (
      some 0
    )
  )
def X12_weightOf_4 (F : Nat) : Nat → Nat → Int32 → Int32 → Int32 → Hp → Option Int32
  | 0, _, _, _, _, _ => none
  | f + 1, a0, x1, x2, x3, h =>
  gq (kd a0 = (0, 11)) <|
  (X12_standing F a0 x1 h).bind fun c_2 =>
  if c_2 ≤ x3 then (
    some x2
  ) else (
    (h.2 a0 4).bind fun j_5 =>
    gq ((kd j_5).1 = 1) <|
    gq (inb ((20 * x1) + x3) (kd j_5).2) <|
    (h.2 a0 0).bind fun j_8 =>
    gq ((kd j_8).1 = 1) <|
    gq (inb ((2 + (20 * x1)) + x3) (kd j_8).2) <|
    bd ((x2 + ((x3 + 1) * ((h.1 j_5 (ix ((20 * x1) + x3))) + (h.1 j_8 (ix ((2 + (20 * x1)) + x3))))))) fun x2_11 =>
    bd (x3 + 1) fun x3_12 =>
    X12_weightOf_4 F f a0 x1 x2_11 x3_12 h
  )
def X12_weightOf (F : Nat) (a0 : Nat) (x1 : Int32) (h : Hp) : Option Int32 :=
  X12_weightOf_4 F F a0 x1 0 0 h
def X12_tilt (F : Nat) (a0 : Nat) (x1 : Int32) (h : Hp) : Option (Int32 × Hp) :=
  (X12_in F x1 0 99999 h).bind fun c_1 =>
  if c_1 = 0 then (
    some (0, h)
  ) else (
    gq (kd a0 = (0, 11)) <|
    bd (up h a0 5 x1) fun h_5 =>
    some (1, h_5)
  )
def X12_types_2 (F : Nat) : Nat → Nat → Int32 → Int32 → Hp → Option Hp
  | 0, _, _, _, _ => none
  | f + 1, a0, x1, x2, h =>
  if x2 < 0 then (
    some h
  ) else (
    gq (kd a0 = (0, 11)) <|
    (h.2 a0 6).bind fun j_3 =>
    gq ((kd j_3).1 = 2) <|
    gq (inb (h.1 a0 7) (kd j_3).2) <|
    bd (up h j_3 (ix (h.1 a0 7)) (i2b (i2b (x1 >>> ((8 * x2) &&& 31))))) fun h_6 =>
    bd (up h_6 a0 7 ((h_6.1 a0 7) + 1)) fun h_7 =>
    bd (x2 + (-1)) fun x2_8 =>
    X12_types_2 F f a0 x1 x2_8 h_7
  )
def X12_types (F : Nat) (a0 : Nat) (x1 : Int32) (h : Hp) : Option Hp :=
  X12_types_2 F F a0 x1 3 h
def X12_feed (F : Nat) (a0 : Nat) (x1 : Int32) (x2 : Int32) (x3 : Int32) (x4 : Int32) (x5 : Int32) (h : Hp) : Option (Int32 × Hp) :=
  gq (kd a0 = (0, 11)) <|
  if ((h.1 a0 7) + 20) ≤ 260 then (
    (X12_types F a0 x1 h).bind fun h_4 =>
    (X12_types F a0 x2 h_4).bind fun h_6 =>
    (X12_types F a0 x3 h_6).bind fun h_8 =>
    (X12_types F a0 x4 h_8).bind fun h_10 =>
    (X12_types F a0 x5 h_10).bind fun h_12 =>
    some ((h_12.1 a0 7), h_12)
  ) else (
    some ((-1), h)
  )
def X12_octet (F : Nat) (a0 : Nat) (x1 : Int32) (h : Hp) : Option Int32 :=
  gq (kd a0 = (0, 11)) <|
  (h.2 a0 6).bind fun j_2 =>
  gq ((kd j_2).1 = 2) <|
  gq (inb x1 (kd j_2).2) <|
  some ((h.1 j_2 (ix x1)) &&& 255)
def X12_here (F : Nat) (a0 : Nat) (h : Hp) : Option Int32 :=
  gq (kd a0 = (0, 11)) <|
  if (h.1 a0 9) ≤ (h.1 a0 8) then (
    some (-1)
  ) else (
    (h.2 a0 6).bind fun j_3 =>
    gq ((kd j_3).1 = 2) <|
    gq (inb (h.1 a0 8) (kd j_3).2) <|
    some ((h.1 j_3 (ix (h.1 a0 8))) &&& 255)
  )
def X12_isDigit (F : Nat) (a0 : Nat) (h : Hp) : Option Int32 :=
  gq (kd a0 = (0, 11)) <|
  (X12_here F a0 h).bind fun c_2 =>
  if c_2 < 48 then (
    some 0
  ) else (
    (X12_here F a0 h).bind fun c_5 =>
    if 57 < c_5 then (
      some 0
    ) else (
      some 1
    )
  )
def X12_wrongAt (F : Nat) (a0 : Nat) (x1 : Int32) (x2 : Int32) (h : Hp) : Option (Int32 × Hp) :=
  gq (kd a0 = (0, 11)) <|
  bd (up h a0 10 (((-1000) * x1) - x2)) fun h_2 =>
  some (0, h_2)
def X12_takes (F : Nat) (a0 : Nat) (x1 : Int32) (h : Hp) : Option (Int32 × Hp) :=
  gq (kd a0 = (0, 11)) <|
  (X12_here F a0 h).bind fun c_2 =>
  if c_2 = x1 then (
    bd (up h a0 8 ((h.1 a0 8) + 1)) fun h_5 =>
    some (1, h_5)
  ) else (
    bq (X12_wrongAt F a0 1 (h.1 a0 8) h) fun c_6 h_7 =>
    gq (c_6 = 0 ∨ c_6 = 1) <|
    some (c_6, h_7)
  )
def X12_readsNumber_10 (F : Nat) : Nat → Nat → Int32 → Hp → Option (Int32 × Hp)
  | 0, _, _, _ => none
  | f + 1, a0, x1, h =>
  gq (kd a0 = (0, 11)) <|
  (X12_isDigit F a0 h).bind fun c_2 =>
  if c_2 = 0 then (
    some (1, h)
  ) else (
    if (h.1 a0 8) = (x1 + 5) then (
      bq (X12_wrongAt F a0 2 (h.1 a0 8) h) fun c_10 h_11 =>
      gq (c_10 = 0 ∨ c_10 = 1) <|
      some (c_10, h_11)
    ) else (
      (X12_here F a0 h).bind fun c_6 =>
      bd (up h a0 11 (((10 * (h.1 a0 11)) + c_6) - 48)) fun h_8 =>
      bd (up h_8 a0 8 ((h_8.1 a0 8) + 1)) fun h_9 =>
      X12_readsNumber_10 F f a0 x1 h_9
    )
  )
def X12_readsNumber (F : Nat) (a0 : Nat) (h : Hp) : Option (Int32 × Hp) :=
  gq (kd a0 = (0, 11)) <|
  bd ((h.1 a0 8)) fun x1_2 =>
  bd (up h a0 11 0) fun h_3 =>
  X12_readsNumber_10 F F a0 x1_2 h_3
def X12_notes (F : Nat) (a0 : Nat) (x1 : Int32) (x2 : Int32) (h : Hp) : Option Hp :=
  gq (kd a0 = (0, 11)) <|
  (h.2 a0 17).bind fun j_2 =>
  gq ((kd j_2).1 = 1) <|
  gq (inb (h.1 a0 13) (kd j_2).2) <|
  bd (up h j_2 (ix (h.1 a0 13)) ((1048576 * x1) + x2)) fun h_5 =>
  bd (up h_5 a0 13 ((h_5.1 a0 13) + 1)) fun h_6 =>
  some h_6
def X12_opens (F : Nat) (a0 : Nat) (x1 : Int32) (h : Hp) : Option (Int32 × Hp) :=
  gq (kd a0 = (0, 11)) <|
  if (h.1 a0 12) = 6 then (
    bq (X12_wrongAt F a0 5 (h.1 a0 8) h) fun c_10 h_11 =>
    gq (c_10 = 0 ∨ c_10 = 1) <|
    some (c_10, h_11)
  ) else (
    bd (up h a0 12 ((h.1 a0 12) + 1)) fun h_3 =>
    (h_3.2 a0 18).bind fun j_4 =>
    gq ((kd j_4).1 = 1) <|
    gq (inb (h_3.1 a0 14) (kd j_4).2) <|
    bd (up h_3 j_4 (ix (h_3.1 a0 14)) (1048576 * x1)) fun h_7 =>
    bd (up h_7 a0 14 ((h_7.1 a0 14) + 1)) fun h_8 =>
    bd (up h_8 a0 8 ((h_8.1 a0 8) + 1)) fun h_9 =>
    some (1, h_9)
  )
def X12_waitTop (F : Nat) (a0 : Nat) (h : Hp) : Option Int32 :=
  gq (kd a0 = (0, 11)) <|
  if (h.1 a0 14) = 0 then (
    some (-1)
  ) else (
    (h.2 a0 18).bind fun j_3 =>
    gq ((kd j_3).1 = 1) <|
    gq (inb ((h.1 a0 14) - 1) (kd j_3).2) <|
    some ((h.1 j_3 (ix ((h.1 a0 14) - 1))) / 1048576)
  )
def X12_factOf (F : Nat) (x0 : Int32) (h : Hp) : Option Int32 :=
  bd (x0) fun t_1 =>
  if t_1 = 97 then (
    some 1
  ) else (
  if t_1 = 98 then (
    some 2
  ) else (
  if t_1 = 99 then (
    some (-1)
  ) else (
  if t_1 = 100 then (
    some (-1)
  ) else (
  if t_1 = 101 then (
    some 0
  ) else (
  if t_1 = 102 then (
    some (-1)
  ) else (
  if t_1 = 103 then (
    some 3
  ) else (
  if t_1 = 104 then (
    some 4
  ) else (
  if t_1 = 105 then (
    some (-1)
  ) else (
  if t_1 = 106 then (
    some (-1)
  ) else (
  if t_1 = 107 then (
    some 6
  ) else (
  if t_1 = 108 then (
    some (-1)
  ) else (
  if t_1 = 109 then (
    some (-1)
  ) else (
  if t_1 = 110 then (
    some (-1)
  ) else (
  if t_1 = 111 then (
    some (-1)
  ) else (
  if t_1 = 112 then (
    some (-1)
  ) else (
  if t_1 = 113 then (
    some (-1)
  ) else (
  if t_1 = 114 then (
    some 8
  ) else (
  if t_1 = 115 then (
    some 5
  ) else (
  if t_1 = 116 then (
    some 7
  ) else (
  some (-1)
  ))))))))))))))))))))
def X12_sumSign (F : Nat) (x0 : Int32) (h : Hp) : Option Int32 :=
  if x0 = 43 then (
    some 2
  ) else (
    if x0 = 45 then (
      some 3
    ) else (
      if x0 = 42 then (
        some 4
      ) else (
        if x0 = 47 then (
          some 5
        ) else (
          if x0 = 37 then (
            some 6
          ) else (
            some (-1)
          )
        )
      )
    )
  )
def X12_closesSums_37 (F : Nat) (k0 : Nat → Int32 → Hp → Option Hp) (a0 : Nat) (x1 : Int32) (h : Hp) : Option Hp :=
  gq (kd a0 = (0, 11)) <|
  (X12_waitTop F a0 h).bind fun c_2 =>
  (X12_notes F a0 c_2 0 h).bind fun h_5 =>
  bd (up h_5 a0 14 ((h_5.1 a0 14) - 1)) fun h_6 =>
  k0 a0 x1 h_6
def X12_closesSums_17 (F : Nat) (k0 : Nat → Int32 → Hp → Option Hp) (a0 : Nat) (x1 : Int32) (h : Hp) : Option Hp :=
  if x1 = 0 then (
    some h
  ) else (
    gq (kd a0 = (0, 11)) <|
    (X12_waitTop F a0 h).bind fun c_3 =>
    if c_3 = 2 then (
      X12_closesSums_37 F k0 a0 x1 h
    ) else (
      (X12_waitTop F a0 h).bind fun c_6 =>
      if c_6 = 3 then (
        X12_closesSums_37 F k0 a0 x1 h
      ) else (
        some h
      )
    )
  )
def X12_closesSums_0 (F : Nat) : Nat → Nat → Int32 → Hp → Option Hp
  | 0, _, _, _ => none
  | f + 1, a0, x1, h =>
  gq (kd a0 = (0, 11)) <|
  (X12_waitTop F a0 h).bind fun c_2 =>
  if c_2 < 4 then (
    X12_closesSums_17 F (X12_closesSums_0 F f) a0 x1 h
  ) else (
    (X12_waitTop F a0 h).bind fun c_5 =>
    if c_5 ≤ 6 then (
      X12_closesSums_37 F (X12_closesSums_0 F f) a0 x1 h
    ) else (
      X12_closesSums_17 F (X12_closesSums_0 F f) a0 x1 h
    )
  )
def X12_closesSums (F : Nat) (a0 : Nat) (x1 : Int32) (h : Hp) : Option Hp := X12_closesSums_0 F F a0 x1 h
def X12_readsFactor_0 (F : Nat) : Nat → Nat → Hp → Option (Int32 × Hp)
  | 0, _, _ => none
  | f + 1, a0, h =>
  gq (kd a0 = (0, 11)) <|
  (X12_here F a0 h).bind fun c_2 =>
  if c_2 = 91 then (
    bq (X12_opens F a0 14 h) fun c_24 h_25 =>
    if c_24 = 0 then (
      some (0, h_25)
    ) else (
      X12_readsFactor_0 F f a0 h_25
    )
  ) else (
    (X12_isDigit F a0 h).bind fun c_5 =>
    if c_5 = 0 then (
      (X12_here F a0 h).bind fun c_8 =>
      (X12_factOf F c_8 h).bind fun c_10 =>
      if c_10 = (-1) then (
        bq (X12_wrongAt F a0 1 (h.1 a0 8) h) fun c_16 h_17 =>
        gq (c_16 = 0 ∨ c_16 = 1) <|
        some (c_16, h_17)
      ) else (
        (X12_notes F a0 1 c_10 h).bind fun h_14 =>
        bd (up h_14 a0 8 ((h_14.1 a0 8) + 1)) fun h_15 =>
        some (1, h_15)
      )
    ) else (
      bq (X12_readsNumber F a0 h) fun c_19 h_20 =>
      if c_19 = 0 then (
        some (0, h_20)
      ) else (
        (X12_notes F a0 0 (h_20.1 a0 11) h_20).bind fun h_23 =>
        some (1, h_23)
      )
    )
  )
def X12_readsFactor (F : Nat) (a0 : Nat) (h : Hp) : Option (Int32 × Hp) := X12_readsFactor_0 F F a0 h
def X12_hasOpenSum_2 (F : Nat) : Nat → Nat → Int32 → Hp → Option Int32
  | 0, _, _, _ => none
  | f + 1, a0, x2, h =>
  gq (kd a0 = (0, 11)) <|
  if (h.1 a0 14) ≤ x2 then (
    some 0
  ) else (
    (h.2 a0 18).bind fun j_3 =>
    gq ((kd j_3).1 = 1) <|
    gq (inb x2 (kd j_3).2) <|
    if ((h.1 j_3 (ix x2)) / 1048576) = 14 then (
      some 1
    ) else (
      bd (x2 + 1) fun x2_7 =>
      X12_hasOpenSum_2 F f a0 x2_7 h
    )
  )
def X12_hasOpenSum (F : Nat) (a0 : Nat) (x1 : Int32) (h : Hp) : Option Int32 :=
  X12_hasOpenSum_2 F F a0 x1 h
def X12_readsSum_163 (F : Nat) (k14 : Nat → Int32 → Hp → Option (Int32 × Hp)) (a0 : Nat) (x1 : Int32) (h : Hp) : Option (Int32 × Hp) :=
  k14 a0 x1 h
def X12_readsSum_138 (F : Nat) (a0 : Nat) (x1 : Int32) (h : Hp) : Option (Int32 × Hp) :=
  gq (kd a0 = (0, 11)) <|
  (X12_hasOpenSum F a0 x1 h).bind fun c_2 =>
  if c_2 = 0 then (
    (X12_closesSums F a0 1 h).bind fun h_6 =>
    some (1, h_6)
  ) else (
    bq (X12_wrongAt F a0 1 (h.1 a0 8) h) fun c_7 h_8 =>
    gq (c_7 = 0 ∨ c_7 = 1) <|
    some (c_7, h_8)
  )
def X12_readsSum_38 (F : Nat) (k14 : Nat → Int32 → Hp → Option (Int32 × Hp)) (a0 : Nat) (x1 : Int32) (x2 : Int32) (r0 : Nat) (s1 : Int32) (h : Hp) : Option (Int32 × Hp) :=
  gq (kd r0 = (0, 11)) <|
  (X12_closesSums F r0 s1 h).bind fun h_3 =>
  gq (kd a0 = (0, 11)) <|
  (h_3.2 a0 18).bind fun j_5 =>
  gq ((kd j_5).1 = 1) <|
  gq (inb (h_3.1 a0 14) (kd j_5).2) <|
  bd (up h_3 j_5 (ix (h_3.1 a0 14)) (1048576 * x2)) fun h_8 =>
  bd (up h_8 a0 14 ((h_8.1 a0 14) + 1)) fun h_9 =>
  bd (up h_9 a0 8 ((h_9.1 a0 8) + 1)) fun h_10 =>
  bq (X12_readsFactor F a0 h_10) fun c_11 h_12 =>
  if c_11 = 0 then (
    some (0, h_12)
  ) else (
    X12_readsSum_163 F k14 a0 x1 h_12
  )
def X12_readsSum_14 (F : Nat) : Nat → Nat → Int32 → Hp → Option (Int32 × Hp)
  | 0, _, _, _ => none
  | f + 1, a0, x1, h =>
  gq (kd a0 = (0, 11)) <|
  (X12_here F a0 h).bind fun c_2 =>
  (X12_sumSign F c_2 h).bind fun c_4 =>
  if c_4 = (-1) then (
    (X12_here F a0 h).bind fun c_7 =>
    if c_7 = 93 then (
      (X12_hasOpenSum F a0 x1 h).bind fun c_10 =>
      if c_10 = 0 then (
        X12_readsSum_138 F a0 x1 h
      ) else (
        (X12_closesSums F a0 1 h).bind fun h_14 =>
        bd (up h_14 a0 14 ((h_14.1 a0 14) - 1)) fun h_15 =>
        bd (up h_15 a0 12 ((h_15.1 a0 12) - 1)) fun h_16 =>
        bd (up h_16 a0 8 ((h_16.1 a0 8) + 1)) fun h_17 =>
        X12_readsSum_163 F (X12_readsSum_14 F f) a0 x1 h_17
      )
    ) else (
      X12_readsSum_138 F a0 x1 h
    )
  ) else (
    if 4 ≤ c_4 then (
      X12_readsSum_38 F (X12_readsSum_14 F f) a0 x1 c_4 a0 0 h
    ) else (
      X12_readsSum_38 F (X12_readsSum_14 F f) a0 x1 c_4 a0 1 h
    )
  )
def X12_readsSum (F : Nat) (a0 : Nat) (h : Hp) : Option (Int32 × Hp) :=
  gq (kd a0 = (0, 11)) <|
  bd ((h.1 a0 14)) fun x1_2 =>
  bq (X12_readsFactor F a0 h) fun c_3 h_4 =>
  if c_3 = 0 then (
    some (0, h_4)
  ) else (
    X12_readsSum_14 F F a0 x1_2 h_4
  )
def X12_endsPiece_0 (F : Nat) : Nat → Nat → Hp → Option Hp
  | 0, _, _ => none
  | f + 1, a0, h =>
  gq (kd a0 = (0, 11)) <|
  (X12_waitTop F a0 h).bind fun c_2 =>
  if c_2 = 10 then (
    (X12_notes F a0 10 0 h).bind fun h_6 =>
    bd (up h_6 a0 14 ((h_6.1 a0 14) - 1)) fun h_7 =>
    bd (up h_7 a0 12 ((h_7.1 a0 12) - 1)) fun h_8 =>
    X12_endsPiece_0 F f a0 h_8
  ) else (
    some h
  )
def X12_endsPiece (F : Nat) (a0 : Nat) (h : Hp) : Option Hp := X12_endsPiece_0 F F a0 h
def X12_lands_22 (F : Nat) (k0 : Nat → Int32 → Hp → Option Hp) (a0 : Nat) (x1 : Int32) (h : Hp) : Option Hp :=
  gq (kd a0 = (0, 11)) <|
  (h.2 a0 18).bind fun j_2 =>
  gq ((kd j_2).1 = 1) <|
  gq (inb ((h.1 a0 14) - 1) (kd j_2).2) <|
  bd ((irm (h.1 j_2 (ix ((h.1 a0 14) - 1))) 1048576)) fun x2_5 =>
  (h.2 a0 17).bind fun j_6 =>
  gq ((kd j_6).1 = 1) <|
  gq (inb x2_5 (kd j_6).2) <|
  gq (inb x2_5 (kd j_6).2) <|
  bd (up h j_6 (ix x2_5) ((1048576 * ((h.1 j_6 (ix x2_5)) / 1048576)) + (h.1 a0 13))) fun h_10 =>
  bd (up h_10 a0 14 ((h_10.1 a0 14) - 1)) fun h_11 =>
  k0 a0 x1 h_11
def X12_lands_0 (F : Nat) : Nat → Nat → Int32 → Hp → Option Hp
  | 0, _, _, _ => none
  | f + 1, a0, x1, h =>
  gq (kd a0 = (0, 11)) <|
  (X12_waitTop F a0 h).bind fun c_2 =>
  if c_2 = 11 then (
    X12_lands_22 F (X12_lands_0 F f) a0 x1 h
  ) else (
    if x1 = 0 then (
      some h
    ) else (
      (X12_waitTop F a0 h).bind fun c_6 =>
      if c_6 = 12 then (
        X12_lands_22 F (X12_lands_0 F f) a0 x1 h
      ) else (
        some h
      )
    )
  )
def X12_lands (F : Nat) (a0 : Nat) (x1 : Int32) (h : Hp) : Option Hp := X12_lands_0 F F a0 x1 h
def X12_jumps (F : Nat) (a0 : Nat) (x1 : Int32) (h : Hp) : Option Hp :=
  gq (kd a0 = (0, 11)) <|
  (h.2 a0 18).bind fun j_2 =>
  gq ((kd j_2).1 = 1) <|
  gq (inb (h.1 a0 14) (kd j_2).2) <|
  bd (up h j_2 (ix (h.1 a0 14)) ((1048576 * x1) + (h.1 a0 13))) fun h_5 =>
  bd (up h_5 a0 14 ((h_5.1 a0 14) + 1)) fun h_6 =>
  (X12_notes F a0 x1 0 h_6).bind fun h_8 =>
  bd (up h_8 a0 8 ((h_8.1 a0 8) + 1)) fun h_9 =>
  some h_9
def X12_readsCompared_52 (F : Nat) (a0 : Nat) (s0 : Int32) (h : Hp) : Option (Int32 × Hp) :=
  if s0 = (-1) then (
    gq (kd a0 = (0, 11)) <|
    bq (X12_wrongAt F a0 1 (h.1 a0 8) h) fun c_12 h_13 =>
    gq (c_12 = 0 ∨ c_12 = 1) <|
    some (c_12, h_13)
  ) else (
    gq (kd a0 = (0, 11)) <|
    bd (up h a0 8 ((h.1 a0 8) + 1)) fun h_3 =>
    bq (X12_readsSum F a0 h_3) fun c_4 h_5 =>
    if c_4 = 0 then (
      some (0, h_5)
    ) else (
      (X12_notes F a0 s0 0 h_5).bind fun h_8 =>
      (X12_endsPiece F a0 h_8).bind fun h_10 =>
      some (1, h_10)
    )
  )
def X12_readsCompared (F : Nat) (a0 : Nat) (h : Hp) : Option (Int32 × Hp) :=
  gq (kd a0 = (0, 11)) <|
  bq (X12_readsSum F a0 h) fun c_2 h_3 =>
  if c_2 = 0 then (
    some (0, h_3)
  ) else (
    (X12_here F a0 h_3).bind fun c_5 =>
    if c_5 = 60 then (
      X12_readsCompared_52 F a0 7 h_3
    ) else (
      (X12_here F a0 h_3).bind fun c_8 =>
      if c_8 = 62 then (
        X12_readsCompared_52 F a0 8 h_3
      ) else (
        (X12_here F a0 h_3).bind fun c_11 =>
        if c_11 = 61 then (
          X12_readsCompared_52 F a0 9 h_3
        ) else (
          X12_readsCompared_52 F a0 (-1) h_3
        )
      )
    )
  )
def X12_readsCondition_215 (F : Nat) (k40 : Nat → Hp → Option (Int32 × Hp)) (a0 : Nat) (r0 : Nat) (s1 : Int32) (h : Hp) : Option (Int32 × Hp) :=
  gq (kd r0 = (0, 11)) <|
  (X12_jumps F r0 s1 h).bind fun h_3 =>
  k40 a0 h_3
def X12_readsCondition_195 (F : Nat) (k40 : Nat → Hp → Option (Int32 × Hp)) (a0 : Nat) (r0 : Nat) (s1 : Int32) (h : Hp) : Option (Int32 × Hp) :=
  gq (kd r0 = (0, 11)) <|
  (X12_lands F r0 s1 h).bind fun h_3 =>
  gq (kd a0 = (0, 11)) <|
  (X12_here F a0 h_3).bind fun c_5 =>
  if c_5 = 38 then (
    X12_readsCondition_215 F k40 a0 a0 11 h_3
  ) else (
    X12_readsCondition_215 F k40 a0 a0 12 h_3
  )
def X12_readsCondition_180 (F : Nat) (k40 : Nat → Hp → Option (Int32 × Hp)) (a0 : Nat) (h : Hp) : Option (Int32 × Hp) :=
  gq (kd a0 = (0, 11)) <|
  (X12_here F a0 h).bind fun c_2 =>
  if c_2 = 124 then (
    X12_readsCondition_195 F k40 a0 a0 1 h
  ) else (
    X12_readsCondition_195 F k40 a0 a0 0 h
  )
def X12_readsCondition_92 (F : Nat) (k40 : Nat → Hp → Option (Int32 × Hp)) : Nat → Nat → Hp → Option (Int32 × Hp)
  | 0, _, _ => none
  | f + 1, a0, h =>
  gq (kd a0 = (0, 11)) <|
  (X12_here F a0 h).bind fun c_2 =>
  if c_2 = 41 then (
    (X12_lands F a0 1 h).bind fun h_15 =>
    bd (up h_15 a0 14 ((h_15.1 a0 14) - 1)) fun h_16 =>
    bd (up h_16 a0 12 ((h_16.1 a0 12) - 1)) fun h_17 =>
    bd (up h_17 a0 8 ((h_17.1 a0 8) + 1)) fun h_18 =>
    if (h_18.1 a0 14) = 0 then (
      some (1, h_18)
    ) else (
      (X12_endsPiece F a0 h_18).bind fun h_21 =>
      X12_readsCondition_92 F k40 f a0 h_21
    )
  ) else (
    (X12_here F a0 h).bind fun c_5 =>
    if c_5 = 38 then (
      X12_readsCondition_180 F k40 a0 h
    ) else (
      (X12_here F a0 h).bind fun c_8 =>
      if c_8 = 124 then (
        X12_readsCondition_180 F k40 a0 h
      ) else (
        bq (X12_wrongAt F a0 1 (h.1 a0 8) h) fun c_11 h_12 =>
        gq (c_11 = 0 ∨ c_11 = 1) <|
        some (c_11, h_12)
      )
    )
  )
def X12_readsCondition_75 (F : Nat) (k40 : Nat → Hp → Option (Int32 × Hp)) (a0 : Nat) (r0 : Nat) (s1 : Int32) (h : Hp) : Option (Int32 × Hp) :=
  gq (kd r0 = (0, 11)) <|
  bq (X12_opens F r0 s1 h) fun c_2 h_3 =>
  if c_2 = 0 then (
    some (0, h_3)
  ) else (
    k40 a0 h_3
  )
def X12_readsCondition_58 (F : Nat) (k40 : Nat → Hp → Option (Int32 × Hp)) (a0 : Nat) (h : Hp) : Option (Int32 × Hp) :=
  gq (kd a0 = (0, 11)) <|
  (X12_here F a0 h).bind fun c_2 =>
  if c_2 = 33 then (
    X12_readsCondition_75 F k40 a0 a0 10 h
  ) else (
    X12_readsCondition_75 F k40 a0 a0 13 h
  )
def X12_readsCondition_40 (F : Nat) : Nat → Nat → Hp → Option (Int32 × Hp)
  | 0, _, _ => none
  | f + 1, a0, h =>
  gq (kd a0 = (0, 11)) <|
  (X12_here F a0 h).bind fun c_2 =>
  if c_2 = 33 then (
    X12_readsCondition_58 F (X12_readsCondition_40 F f) a0 h
  ) else (
    (X12_here F a0 h).bind fun c_5 =>
    if c_5 = 40 then (
      X12_readsCondition_58 F (X12_readsCondition_40 F f) a0 h
    ) else (
      bq (X12_readsCompared F a0 h) fun c_8 h_9 =>
      if c_8 = 0 then (
        some (0, h_9)
      ) else (
        X12_readsCondition_92 F (X12_readsCondition_40 F f) F a0 h_9
      )
    )
  )
def X12_readsCondition (F : Nat) (a0 : Nat) (h : Hp) : Option (Int32 × Hp) :=
  gq (kd a0 = (0, 11)) <|
  (X12_here F a0 h).bind fun c_2 =>
  if c_2 = 40 then (
    bd (up h a0 12 0) fun h_5 =>
    bd (up h_5 a0 14 0) fun h_6 =>
    bq (X12_opens F a0 13 h_6) fun c_7 h_8 =>
    if c_7 = 0 then (
      some (0, h_8)
    ) else (
      X12_readsCondition_40 F F a0 h_8
    )
  ) else (
    bq (X12_wrongAt F a0 1 (h.1 a0 8) h) fun c_10 h_11 =>
    gq (c_10 = 0 ∨ c_10 = 1) <|
    some (c_10, h_11)
  )
def X12_readsRule_122 (F : Nat) (a0 : Nat) (h : Hp) : Option (Int32 × Hp) :=
  gq (kd a0 = (0, 11)) <|
  (h.2 a0 21).bind fun j_2 =>
  gq ((kd j_2).1 = 1) <|
  gq (inb (h.1 a0 15) (kd j_2).2) <|
  bd (up h j_2 (ix (h.1 a0 15)) (h.1 a0 13)) fun h_5 =>
  bq (X12_readsCondition F a0 h_5) fun c_6 h_7 =>
  if c_6 = 0 then (
    some (0, h_7)
  ) else (
    (h_7.2 a0 22).bind fun j_9 =>
    gq ((kd j_9).1 = 1) <|
    gq (inb (h_7.1 a0 15) (kd j_9).2) <|
    bd (up h_7 j_9 (ix (h_7.1 a0 15)) (h_7.1 a0 13)) fun h_12 =>
    bd (up h_12 a0 15 ((h_12.1 a0 15) + 1)) fun h_13 =>
    some (1, h_13)
  )
def X12_readsRule_45 (F : Nat) (a0 : Nat) (x1 : Int32) (h : Hp) : Option (Int32 × Hp) :=
  gq (kd a0 = (0, 11)) <|
  if (h.1 a0 15) = 16 then (
    bq (X12_wrongAt F a0 4 (h.1 a0 8) h) fun c_18 h_19 =>
    gq (c_18 = 0 ∨ c_18 = 1) <|
    some (c_18, h_19)
  ) else (
    (h.2 a0 19).bind fun j_3 =>
    gq ((kd j_3).1 = 1) <|
    gq (inb (h.1 a0 15) (kd j_3).2) <|
    bd (up h j_3 (ix (h.1 a0 15)) x1) fun h_6 =>
    bd (up h_6 a0 8 ((h_6.1 a0 8) + 1)) fun h_7 =>
    (h_7.2 a0 20).bind fun j_8 =>
    gq ((kd j_8).1 = 1) <|
    gq (inb (h_7.1 a0 15) (kd j_8).2) <|
    bd (up h_7 j_8 (ix (h_7.1 a0 15)) (h_7.1 a0 13)) fun h_11 =>
    bd (up h_11 a0 12 0) fun h_12 =>
    bd (up h_12 a0 14 0) fun h_13 =>
    if x1 = 120 then (
      X12_readsRule_122 F a0 h_13
    ) else (
      bq (X12_readsSum F a0 h_13) fun c_15 h_16 =>
      if c_15 = 0 then (
        some (0, h_16)
      ) else (
        X12_readsRule_122 F a0 h_16
      )
    )
  )
def X12_readsRule (F : Nat) (a0 : Nat) (h : Hp) : Option (Int32 × Hp) :=
  gq (kd a0 = (0, 11)) <|
  (X12_here F a0 h).bind fun c_2 =>
  if c_2 = 119 then (
    X12_readsRule_45 F a0 c_2 h
  ) else (
    if c_2 = 99 then (
      X12_readsRule_45 F a0 c_2 h
    ) else (
      if c_2 = 105 then (
        X12_readsRule_45 F a0 c_2 h
      ) else (
        if c_2 = 110 then (
          X12_readsRule_45 F a0 c_2 h
        ) else (
          if c_2 = 120 then (
            X12_readsRule_45 F a0 c_2 h
          ) else (
            bq (X12_wrongAt F a0 1 (h.1 a0 8) h) fun c_9 h_10 =>
            gq (c_9 = 0 ∨ c_9 = 1) <|
            some (c_9, h_10)
          )
        )
      )
    )
  )
def X12_beginsText (F : Nat) (a0 : Nat) (x1 : Int32) (h : Hp) : Option Hp :=
  gq (kd a0 = (0, 11)) <|
  bd (up h a0 8 0) fun h_2 =>
  bd (up h_2 a0 9 x1) fun h_3 =>
  bd (up h_3 a0 13 0) fun h_4 =>
  bd (up h_4 a0 15 0) fun h_5 =>
  some h_5
def X12_law_123 (F : Nat) : Nat → Nat → Int32 → Hp → Option (Int32 × Hp)
  | 0, _, _, _ => none
  | f + 1, a0, x3, h =>
  gq (kd a0 = (0, 11)) <|
  if (h.1 a0 15) ≤ x3 then (
    some ((h.1 a0 15), h)
  ) else (
    (h.2 a0 24).bind fun j_3 =>
    (h.2 a0 19).bind fun j_4 =>
    gq ((kd j_4).1 = 1) <|
    gq (inb x3 (kd j_4).2) <|
    gq ((kd j_3).1 = 1) <|
    gq (inb x3 (kd j_3).2) <|
    bd (up h j_3 (ix x3) (h.1 j_4 (ix x3))) fun h_9 =>
    (h_9.2 a0 25).bind fun j_10 =>
    (h_9.2 a0 20).bind fun j_11 =>
    gq ((kd j_11).1 = 1) <|
    gq (inb x3 (kd j_11).2) <|
    gq ((kd j_10).1 = 1) <|
    gq (inb x3 (kd j_10).2) <|
    bd (up h_9 j_10 (ix x3) (h_9.1 j_11 (ix x3))) fun h_16 =>
    (h_16.2 a0 26).bind fun j_17 =>
    (h_16.2 a0 21).bind fun j_18 =>
    gq ((kd j_18).1 = 1) <|
    gq (inb x3 (kd j_18).2) <|
    gq ((kd j_17).1 = 1) <|
    gq (inb x3 (kd j_17).2) <|
    bd (up h_16 j_17 (ix x3) (h_16.1 j_18 (ix x3))) fun h_23 =>
    (h_23.2 a0 27).bind fun j_24 =>
    (h_23.2 a0 22).bind fun j_25 =>
    gq ((kd j_25).1 = 1) <|
    gq (inb x3 (kd j_25).2) <|
    gq ((kd j_24).1 = 1) <|
    gq (inb x3 (kd j_24).2) <|
    bd (up h_23 j_24 (ix x3) (h_23.1 j_25 (ix x3))) fun h_30 =>
    bd (x3 + 1) fun x3_31 =>
    X12_law_123 F f a0 x3_31 h_30
  )
def X12_law_95 (F : Nat) : Nat → Nat → Int32 → Hp → Option (Int32 × Hp)
  | 0, _, _, _ => none
  | f + 1, a0, x3, h =>
  gq (kd a0 = (0, 11)) <|
  if (h.1 a0 13) ≤ x3 then (
    X12_law_123 F F a0 0 h
  ) else (
    (h.2 a0 23).bind fun j_3 =>
    (h.2 a0 17).bind fun j_4 =>
    gq ((kd j_4).1 = 1) <|
    gq (inb x3 (kd j_4).2) <|
    gq ((kd j_3).1 = 1) <|
    gq (inb x3 (kd j_3).2) <|
    bd (up h j_3 (ix x3) (h.1 j_4 (ix x3))) fun h_9 =>
    bd (x3 + 1) fun x3_10 =>
    X12_law_95 F f a0 x3_10 h_9
  )
def X12_law_71 (F : Nat) (a0 : Nat) (x2 : Int32) (h : Hp) : Option (Int32 × Hp) :=
  gq (kd a0 = (0, 11)) <|
  bd (up h a0 7 0) fun h_2 =>
  if x2 = 0 then (
    some ((h_2.1 a0 10), h_2)
  ) else (
    bd (up h_2 a0 16 (h_2.1 a0 15)) fun h_4 =>
    X12_law_95 F F a0 0 h_4
  )
def X12_law_67 (F : Nat) (k31 : Nat → Int32 → Hp → Option (Int32 × Hp)) (a0 : Nat) (s0 : Int32) (h : Hp) : Option (Int32 × Hp) :=
  k31 a0 s0 h
def X12_law_66 (F : Nat) (k31 : Nat → Int32 → Hp → Option (Int32 × Hp)) (a0 : Nat) (h : Hp) : Option (Int32 × Hp) :=
  X12_law_67 F k31 a0 0 h
def X12_law_31 (F : Nat) : Nat → Nat → Int32 → Hp → Option (Int32 × Hp)
  | 0, _, _, _ => none
  | f + 1, a0, x2, h =>
  if x2 = 0 then (
    X12_law_71 F a0 x2 h
  ) else (
    gq (kd a0 = (0, 11)) <|
    if (h.1 a0 9) ≤ (h.1 a0 8) then (
      X12_law_71 F a0 x2 h
    ) else (
      bq (X12_takes F a0 59 h) fun c_4 h_5 =>
      if c_4 = 0 then (
        X12_law_66 F (X12_law_31 F f) a0 h_5
      ) else (
        bq (X12_readsRule F a0 h_5) fun c_7 h_8 =>
        if c_7 = 0 then (
          X12_law_66 F (X12_law_31 F f) a0 h_8
        ) else (
          X12_law_67 F (X12_law_31 F f) a0 1 h_8
        )
      )
    )
  )
def X12_law (F : Nat) (a0 : Nat) (x1 : Int32) (h : Hp) : Option (Int32 × Hp) :=
  (X12_in F x1 1 240 h).bind fun c_1 =>
  if c_1 = 0 then (
    some ((-1), h)
  ) else (
    gq (kd a0 = (0, 11)) <|
    if x1 ≤ (h.1 a0 7) then (
      (X12_beginsText F a0 x1 h).bind fun h_7 =>
      bq (X12_readsRule F a0 h_7) fun c_8 h_9 =>
      X12_law_31 F F a0 c_8 h_9
    ) else (
      some ((-1), h)
    )
  )
def X12_reckon (F : Nat) (x0 : Int32) (x1 : Int32) (x2 : Int32) (h : Hp) : Option Int32 :=
  bd (x0) fun t_1 =>
  if t_1 = 2 then (
    some (x1 + x2)
  ) else (
  if t_1 = 3 then (
    some (x1 - x2)
  ) else (
  if t_1 = 4 then (
    some (x1 * x2)
  ) else (
  if t_1 = 5 then (
    gq (¬ x2 = 0) <|
    some (x1 / x2)
  ) else (
  if t_1 = 6 then (
    gq (¬ x2 = 0) <|
    some (irm x1 x2)
  ) else (
  if t_1 = 7 then (
    if x2 ≤ x1 then (
      some 0
    ) else (
      some 1
    )
  ) else (
  if t_1 = 8 then (
    if x1 ≤ x2 then (
      some 0
    ) else (
      some 1
    )
  ) else (
  if x1 = x2 then (
    some 1
  ) else (
    some 0
  )
  )))))))
def X12_comesTo_230 (F : Nat) (k16 : Nat → Int32 → Int32 → Int32 → Int32 → Hp → Option (Int32 × Hp)) (a0 : Nat) (x2 : Int32) (x3 : Int32) (x4 : Int32) (x5 : Int32) (h : Hp) : Option (Int32 × Hp) :=
  k16 a0 x2 x3 x4 x5 h
def X12_comesTo_203 (F : Nat) (k16 : Nat → Int32 → Int32 → Int32 → Int32 → Hp → Option (Int32 × Hp)) (a0 : Nat) (x2 : Int32) (x3 : Int32) (x4 : Int32) (x5 : Int32) (x6 : Int32) (h : Hp) : Option (Int32 × Hp) :=
  gq (kd a0 = (0, 11)) <|
  (h.2 a0 28).bind fun j_2 =>
  gq ((kd j_2).1 = 1) <|
  gq (inb (x3 - 1) (kd j_2).2) <|
  gq (inb x3 (kd j_2).2) <|
  (X12_reckon F x6 (h.1 j_2 (ix (x3 - 1))) (h.1 j_2 (ix x3)) h).bind fun c_6 =>
  gq (inb (x3 - 1) (kd j_2).2) <|
  bd (up h j_2 (ix (x3 - 1)) c_6) fun h_9 =>
  X12_comesTo_230 F k16 a0 x2 x3 x4 x5 h_9
def X12_comesTo_192 (F : Nat) (k16 : Nat → Int32 → Int32 → Int32 → Int32 → Hp → Option (Int32 × Hp)) (a0 : Nat) (x2 : Int32) (x3 : Int32) (x4 : Int32) (x5 : Int32) (x6 : Int32) (h : Hp) : Option (Int32 × Hp) :=
  gq (kd a0 = (0, 11)) <|
  (h.2 a0 28).bind fun j_2 =>
  gq ((kd j_2).1 = 1) <|
  gq (inb x3 (kd j_2).2) <|
  if (h.1 j_2 (ix x3)) = 0 then (
    some (0, h)
  ) else (
    X12_comesTo_203 F k16 a0 x2 x3 x4 x5 x6 h
  )
def X12_comesTo_155 (F : Nat) (k16 : Nat → Int32 → Int32 → Int32 → Int32 → Hp → Option (Int32 × Hp)) (a0 : Nat) (x2 : Int32) (x3 : Int32) (x4 : Int32) (x5 : Int32) (x7 : Int32) (s0 : Int32) (s1 : Int32) (h : Hp) : Option (Int32 × Hp) :=
  if s0 = s1 then (
    bd ((x4 + x7)) fun x5_3 =>
    X12_comesTo_230 F k16 a0 x2 x3 x4 x5_3 h
  ) else (
    bd ((x3 - 1)) fun x3_2 =>
    X12_comesTo_230 F k16 a0 x2 x3_2 x4 x5 h
  )
def X12_comesTo_135 (F : Nat) (k16 : Nat → Int32 → Int32 → Int32 → Int32 → Hp → Option (Int32 × Hp)) (a0 : Nat) (x2 : Int32) (x3 : Int32) (x4 : Int32) (x5 : Int32) (x6 : Int32) (x7 : Int32) (h : Hp) : Option (Int32 × Hp) :=
  gq (kd a0 = (0, 11)) <|
  (h.2 a0 28).bind fun j_2 =>
  gq ((kd j_2).1 = 1) <|
  gq (inb (x3 - 1) (kd j_2).2) <|
  if x6 = 12 then (
    X12_comesTo_155 F k16 a0 x2 x3 x4 x5 x7 (h.1 j_2 (ix (x3 - 1))) 1 h
  ) else (
    X12_comesTo_155 F k16 a0 x2 x3 x4 x5 x7 (h.1 j_2 (ix (x3 - 1))) 0 h
  )
def X12_comesTo_85 (F : Nat) (k16 : Nat → Int32 → Int32 → Int32 → Int32 → Hp → Option (Int32 × Hp)) (a0 : Nat) (x2 : Int32) (x3 : Int32) (x4 : Int32) (x5 : Int32) (r0 : Nat) (s1 : Int32) (s2 : Int32) (h : Hp) : Option (Int32 × Hp) :=
  gq ((kd r0).1 = 1) <|
  gq (inb s1 (kd r0).2) <|
  bd (up h r0 (ix s1) s2) fun h_3 =>
  bd ((x3 + 1)) fun x3_4 =>
  X12_comesTo_230 F k16 a0 x2 x3_4 x4 x5 h_3
def X12_comesTo_63 (F : Nat) (k16 : Nat → Int32 → Int32 → Int32 → Int32 → Hp → Option (Int32 × Hp)) (a0 : Nat) (x2 : Int32) (x3 : Int32) (x4 : Int32) (x5 : Int32) (x6 : Int32) (x7 : Int32) (h : Hp) : Option (Int32 × Hp) :=
  gq (kd a0 = (0, 11)) <|
  (h.2 a0 28).bind fun j_2 =>
  if x6 = 0 then (
    X12_comesTo_85 F k16 a0 x2 x3 x4 x5 j_2 x3 x7 h
  ) else (
    (h.2 a0 29).bind fun j_4 =>
    gq ((kd j_4).1 = 1) <|
    gq (inb x7 (kd j_4).2) <|
    X12_comesTo_85 F k16 a0 x2 x3 x4 x5 j_2 x3 (h.1 j_4 (ix x7)) h
  )
def X12_comesTo_16 (F : Nat) : Nat → Nat → Int32 → Int32 → Int32 → Int32 → Hp → Option (Int32 × Hp)
  | 0, _, _, _, _, _, _ => none
  | f + 1, a0, x2, x3, x4, x5, h =>
  if x2 ≤ x5 then (
    gq (kd a0 = (0, 11)) <|
    (h.2 a0 28).bind fun j_3 =>
    gq ((kd j_3).1 = 1) <|
    gq (inb 0 (kd j_3).2) <|
    some ((h.1 j_3 (ix 0)), h)
  ) else (
    gq (kd a0 = (0, 11)) <|
    (h.2 a0 23).bind fun j_7 =>
    gq ((kd j_7).1 = 1) <|
    gq (inb x5 (kd j_7).2) <|
    bd (((h.1 j_7 (ix x5)) / 1048576)) fun x6_10 =>
    gq (inb x5 (kd j_7).2) <|
    bd ((irm (h.1 j_7 (ix x5)) 1048576)) fun x7_12 =>
    bd ((x5 + 1)) fun x5_13 =>
    if x6_10 = 0 then (
      X12_comesTo_63 F (X12_comesTo_16 F f) a0 x2 x3 x4 x5_13 x6_10 x7_12 h
    ) else (
      if x6_10 = 1 then (
        X12_comesTo_63 F (X12_comesTo_16 F f) a0 x2 x3 x4 x5_13 x6_10 x7_12 h
      ) else (
        if x6_10 = 10 then (
          (h.2 a0 28).bind fun j_22 =>
          gq ((kd j_22).1 = 1) <|
          gq (inb (x3 - 1) (kd j_22).2) <|
          gq (inb (x3 - 1) (kd j_22).2) <|
          bd (up h j_22 (ix (x3 - 1)) (1 - (h.1 j_22 (ix (x3 - 1))))) fun h_26 =>
          X12_comesTo_230 F (X12_comesTo_16 F f) a0 x2 x3 x4 x5_13 h_26
        ) else (
          if x6_10 = 11 then (
            X12_comesTo_135 F (X12_comesTo_16 F f) a0 x2 x3 x4 x5_13 x6_10 x7_12 h
          ) else (
            if x6_10 = 12 then (
              X12_comesTo_135 F (X12_comesTo_16 F f) a0 x2 x3 x4 x5_13 x6_10 x7_12 h
            ) else (
              bd ((x3 - 1)) fun x3_19 =>
              if x6_10 = 5 then (
                X12_comesTo_192 F (X12_comesTo_16 F f) a0 x2 x3_19 x4 x5_13 x6_10 h
              ) else (
                if x6_10 = 6 then (
                  X12_comesTo_192 F (X12_comesTo_16 F f) a0 x2 x3_19 x4 x5_13 x6_10 h
                ) else (
                  X12_comesTo_203 F (X12_comesTo_16 F f) a0 x2 x3_19 x4 x5_13 x6_10 h
                )
              )
            )
          )
        )
      )
    )
  )
def X12_comesTo (F : Nat) (a0 : Nat) (x1 : Int32) (x2 : Int32) (h : Hp) : Option (Int32 × Hp) :=
  bd ((260 * (x1 / 260))) fun x4_1 =>
  X12_comesTo_16 F F a0 x2 0 x4_1 x1 h
def X12_byLaw_83 (F : Nat) (k2 : Nat → Int32 → Int32 → Int32 → Hp → Option (Int32 × Hp)) (a0 : Nat) (x1 : Int32) (x2 : Int32) (x3 : Int32) (h : Hp) : Option (Int32 × Hp) :=
  bd (x3 + 1) fun x3_1 =>
  k2 a0 x1 x2 x3_1 h
def X12_byLaw_2 (F : Nat) : Nat → Nat → Int32 → Int32 → Int32 → Hp → Option (Int32 × Hp)
  | 0, _, _, _, _, _ => none
  | f + 1, a0, x1, x2, x3, h =>
  gq (kd a0 = (0, 11)) <|
  if (h.1 a0 16) ≤ x3 then (
    some (0, h)
  ) else (
    (h.2 a0 24).bind fun j_3 =>
    gq ((kd j_3).1 = 1) <|
    gq (inb x3 (kd j_3).2) <|
    if (h.1 j_3 (ix x3)) = x1 then (
      (h.2 a0 26).bind fun j_7 =>
      gq ((kd j_7).1 = 1) <|
      gq (inb x3 (kd j_7).2) <|
      (h.2 a0 27).bind fun j_10 =>
      gq ((kd j_10).1 = 1) <|
      gq (inb x3 (kd j_10).2) <|
      bq (X12_comesTo F a0 (h.1 j_7 (ix x3)) (h.1 j_10 (ix x3)) h) fun c_13 h_14 =>
      if c_13 = 1 then (
        (h_14.2 a0 25).bind fun j_16 =>
        gq ((kd j_16).1 = 1) <|
        gq (inb x3 (kd j_16).2) <|
        (h_14.2 a0 26).bind fun j_19 =>
        gq ((kd j_19).1 = 1) <|
        gq (inb x3 (kd j_19).2) <|
        bq (X12_comesTo F a0 (h_14.1 j_16 (ix x3)) (h_14.1 j_19 (ix x3)) h_14) fun c_22 h_23 =>
        if 0 ≤ c_22 then (
          if c_22 ≤ x2 then (
            some (c_22, h_23)
          ) else (
            some (x2, h_23)
          )
        ) else (
          some (0, h_23)
        )
      ) else (
        X12_byLaw_83 F (X12_byLaw_2 F f) a0 x1 x2 x3 h_14
      )
    ) else (
      X12_byLaw_83 F (X12_byLaw_2 F f) a0 x1 x2 x3 h
    )
  )
def X12_byLaw (F : Nat) (a0 : Nat) (x1 : Int32) (x2 : Int32) (h : Hp) : Option (Int32 × Hp) :=
  X12_byLaw_2 F F a0 x1 x2 0 h
def X12_holdsAny_42 (F : Nat) (k2 : Nat → Int32 → Int32 → Hp → Option (Int32 × Hp)) (a0 : Nat) (x1 : Int32) (x2 : Int32) (h : Hp) : Option (Int32 × Hp) :=
  bd (x2 + 1) fun x2_1 =>
  k2 a0 x1 x2_1 h
def X12_holdsAny_2 (F : Nat) : Nat → Nat → Int32 → Int32 → Hp → Option (Int32 × Hp)
  | 0, _, _, _, _ => none
  | f + 1, a0, x1, x2, h =>
  gq (kd a0 = (0, 11)) <|
  if (h.1 a0 16) ≤ x2 then (
    some (0, h)
  ) else (
    (h.2 a0 24).bind fun j_3 =>
    gq ((kd j_3).1 = 1) <|
    gq (inb x2 (kd j_3).2) <|
    if (h.1 j_3 (ix x2)) = x1 then (
      (h.2 a0 26).bind fun j_7 =>
      gq ((kd j_7).1 = 1) <|
      gq (inb x2 (kd j_7).2) <|
      (h.2 a0 27).bind fun j_10 =>
      gq ((kd j_10).1 = 1) <|
      gq (inb x2 (kd j_10).2) <|
      bq (X12_comesTo F a0 (h.1 j_7 (ix x2)) (h.1 j_10 (ix x2)) h) fun c_13 h_14 =>
      if c_13 = 1 then (
        some (1, h_14)
      ) else (
        X12_holdsAny_42 F (X12_holdsAny_2 F f) a0 x1 x2 h_14
      )
    ) else (
      X12_holdsAny_42 F (X12_holdsAny_2 F f) a0 x1 x2 h
    )
  )
def X12_holdsAny (F : Nat) (a0 : Nat) (x1 : Int32) (h : Hp) : Option (Int32 × Hp) :=
  X12_holdsAny_2 F F a0 x1 0 h
def X12_readsTimes (F : Nat) (a0 : Nat) (h : Hp) : Option Hp :=
  gq (kd a0 = (0, 11)) <|
  bd (up h a0 36 (h.1 a0 8)) fun h_2 =>
  bd (up h_2 a0 37 1) fun h_3 =>
  (X12_here F a0 h_3).bind fun c_4 =>
  (X12_in F c_4 50 57 h_3).bind fun c_6 =>
  if c_6 = 0 then (
    some h_3
  ) else (
    if (h_3.1 a0 9) ≤ ((h_3.1 a0 8) + 1) then (
      some h_3
    ) else (
      (X12_octet F a0 ((h_3.1 a0 8) + 1) h_3).bind fun c_10 =>
      if c_10 = 120 then (
        (X12_here F a0 h_3).bind fun c_13 =>
        bd (up h_3 a0 37 (c_13 - 48)) fun h_15 =>
        bd (up h_15 a0 8 ((h_15.1 a0 8) + 2)) fun h_16 =>
        some h_16
      ) else (
        some h_3
      )
    )
  )
def X12_repeats_31 (F : Nat) : Nat → Nat → Int32 → Int32 → Int32 → Int32 → Hp → Option (Int32 × Hp)
  | 0, _, _, _, _, _, _ => none
  | f + 1, a0, x1, x2, x4, x5, h =>
  if (x4 * x2) ≤ x5 then (
    gq (kd a0 = (0, 11)) <|
    bd (up h a0 34 (x1 + (x4 * x2))) fun h_3 =>
    some (1, h_3)
  ) else (
    gq (kd a0 = (0, 11)) <|
    (h.2 a0 30).bind fun j_5 =>
    gq ((kd j_5).1 = 1) <|
    gq (inb ((x1 + x5) - x4) (kd j_5).2) <|
    gq (inb (x1 + x5) (kd j_5).2) <|
    bd (up h j_5 (ix (x1 + x5)) (h.1 j_5 (ix ((x1 + x5) - x4)))) fun h_9 =>
    bd (x5 + 1) fun x5_10 =>
    X12_repeats_31 F f a0 x1 x2 x4 x5_10 h_9
  )
def X12_repeats (F : Nat) (a0 : Nat) (x1 : Int32) (x2 : Int32) (x3 : Int32) (h : Hp) : Option (Int32 × Hp) :=
  gq (kd a0 = (0, 11)) <|
  bd (((h.1 a0 34) - x1)) fun x4_2 =>
  if (x1 + (x4_2 * x2)) ≤ 20 then (
    X12_repeats_31 F F a0 x1 x2 x4_2 x4_2 h
  ) else (
    bq (X12_wrongAt F a0 6 x3 h) fun c_4 h_5 =>
    gq (c_4 = 0 ∨ c_4 = 1) <|
    some (c_4, h_5)
  )
def X12_readsAmount_27 (F : Nat) : Nat → Nat → Int32 → Int32 → Hp → Option (Int32 × Hp)
  | 0, _, _, _, _ => none
  | f + 1, a0, x1, x2, h =>
  gq (kd a0 = (0, 11)) <|
  (X12_isDigit F a0 h).bind fun c_2 =>
  if c_2 = 0 then (
    some (1, h)
  ) else (
    if (h.1 a0 8) = (x2 + x1) then (
      bq (X12_wrongAt F a0 2 (h.1 a0 8) h) fun c_10 h_11 =>
      gq (c_10 = 0 ∨ c_10 = 1) <|
      some (c_10, h_11)
    ) else (
      (X12_here F a0 h).bind fun c_6 =>
      bd (up h a0 11 (((10 * (h.1 a0 11)) + c_6) - 48)) fun h_8 =>
      bd (up h_8 a0 8 ((h_8.1 a0 8) + 1)) fun h_9 =>
      X12_readsAmount_27 F f a0 x1 x2 h_9
    )
  )
def X12_readsAmount (F : Nat) (a0 : Nat) (x1 : Int32) (h : Hp) : Option (Int32 × Hp) :=
  gq (kd a0 = (0, 11)) <|
  bd ((h.1 a0 8)) fun x2_2 =>
  (X12_isDigit F a0 h).bind fun c_3 =>
  if c_3 = 0 then (
    bq (X12_wrongAt F a0 1 (h.1 a0 8) h) fun c_7 h_8 =>
    gq (c_7 = 0 ∨ c_7 = 1) <|
    some (c_7, h_8)
  ) else (
    bd (up h a0 11 0) fun h_6 =>
    X12_readsAmount_27 F F a0 x1 x2_2 h_6
  )
def X12_readsItem_202 (F : Nat) : Nat → Nat → Hp → Option (Int32 × Hp)
  | 0, _, _ => none
  | f + 1, a0, h =>
  gq (kd a0 = (0, 11)) <|
  (X12_here F a0 h).bind fun c_2 =>
  if c_2 = 41 then (
    if (h.1 a0 35) ≤ 0 then (
      some (1, h)
    ) else (
      bd (up h a0 8 ((h.1 a0 8) + 1)) fun h_6 =>
      bd (up h_6 a0 35 ((h_6.1 a0 35) - 1)) fun h_7 =>
      (h_7.2 a0 32).bind fun j_8 =>
      gq ((kd j_8).1 = 1) <|
      gq (inb (h_7.1 a0 35) (kd j_8).2) <|
      (h_7.2 a0 33).bind fun j_11 =>
      gq ((kd j_11).1 = 1) <|
      gq (inb (h_7.1 a0 35) (kd j_11).2) <|
      (h_7.2 a0 31).bind fun j_14 =>
      gq ((kd j_14).1 = 1) <|
      gq (inb (h_7.1 a0 35) (kd j_14).2) <|
      bq (X12_repeats F a0 (h_7.1 j_8 (ix (h_7.1 a0 35))) (h_7.1 j_11 (ix (h_7.1 a0 35))) (h_7.1 j_14 (ix (h_7.1 a0 35))) h_7) fun c_17 h_18 =>
      if c_17 = 0 then (
        some (0, h_18)
      ) else (
        X12_readsItem_202 F f a0 h_18
      )
    )
  ) else (
    some (1, h)
  )
def X12_readsItem_4 (F : Nat) : Nat → Nat → Hp → Option (Int32 × Hp)
  | 0, _, _ => none
  | f + 1, a0, h =>
  gq (kd a0 = (0, 11)) <|
  (X12_here F a0 h).bind fun c_2 =>
  if c_2 = 40 then (
    if (h.1 a0 35) = 2 then (
      bq (X12_wrongAt F a0 5 (h.1 a0 8) h) fun c_46 h_47 =>
      gq (c_46 = 0 ∨ c_46 = 1) <|
      some (c_46, h_47)
    ) else (
      (h.2 a0 31).bind fun j_30 =>
      gq ((kd j_30).1 = 1) <|
      gq (inb (h.1 a0 35) (kd j_30).2) <|
      bd (up h j_30 (ix (h.1 a0 35)) (h.1 a0 36)) fun h_33 =>
      (h_33.2 a0 32).bind fun j_34 =>
      gq ((kd j_34).1 = 1) <|
      gq (inb (h_33.1 a0 35) (kd j_34).2) <|
      bd (up h_33 j_34 (ix (h_33.1 a0 35)) (h_33.1 a0 34)) fun h_37 =>
      (h_37.2 a0 33).bind fun j_38 =>
      gq ((kd j_38).1 = 1) <|
      gq (inb (h_37.1 a0 35) (kd j_38).2) <|
      bd (up h_37 j_38 (ix (h_37.1 a0 35)) (h_37.1 a0 37)) fun h_41 =>
      bd (up h_41 a0 35 ((h_41.1 a0 35) + 1)) fun h_42 =>
      bd (up h_42 a0 8 ((h_42.1 a0 8) + 1)) fun h_43 =>
      (X12_readsTimes F a0 h_43).bind fun h_45 =>
      X12_readsItem_4 F f a0 h_45
    )
  ) else (
    bd ((h.1 a0 36)) fun x1_5 =>
    bd ((h.1 a0 37)) fun x2_6 =>
    bd ((h.1 a0 8)) fun x3_7 =>
    bq (X12_readsAmount F a0 3 h) fun c_8 h_9 =>
    if c_8 = 0 then (
      some (0, h_9)
    ) else (
      (X12_in F (h_9.1 a0 11) 1 255 h_9).bind fun c_11 =>
      if c_11 = 0 then (
        bq (X12_wrongAt F a0 3 x3_7 h_9) fun c_26 h_27 =>
        gq (c_26 = 0 ∨ c_26 = 1) <|
        some (c_26, h_27)
      ) else (
        if ((h_9.1 a0 34) + x2_6) ≤ 20 then (
          (h_9.2 a0 30).bind fun j_15 =>
          gq ((kd j_15).1 = 1) <|
          gq (inb (h_9.1 a0 34) (kd j_15).2) <|
          bd (up h_9 j_15 (ix (h_9.1 a0 34)) (h_9.1 a0 11)) fun h_18 =>
          bd (up h_18 a0 34 ((h_18.1 a0 34) + 1)) fun h_19 =>
          bq (X12_repeats F a0 ((h_19.1 a0 34) - 1) x2_6 x1_5 h_19) fun c_20 h_21 =>
          if c_20 = 0 then (
            some (0, h_21)
          ) else (
            X12_readsItem_202 F F a0 h_21
          )
        ) else (
          bq (X12_wrongAt F a0 6 x1_5 h_9) fun c_23 h_24 =>
          gq (c_23 = 0 ∨ c_23 = 1) <|
          some (c_23, h_24)
        )
      )
    )
  )
def X12_readsItem (F : Nat) (a0 : Nat) (h : Hp) : Option (Int32 × Hp) :=
  gq (kd a0 = (0, 11)) <|
  (X12_readsTimes F a0 h).bind fun h_3 =>
  X12_readsItem_4 F F a0 h_3
def X12_plan_121 (F : Nat) : Nat → Nat → Int32 → Int32 → Hp → Option (Int32 × Hp)
  | 0, _, _, _, _ => none
  | f + 1, a0, x1, x4, h =>
  gq (kd a0 = (0, 11)) <|
  if (h.1 a0 34) ≤ x4 then (
    some ((h.1 a0 34), h)
  ) else (
    (h.2 a0 4).bind fun j_3 =>
    (h.2 a0 30).bind fun j_4 =>
    gq ((kd j_4).1 = 1) <|
    gq (inb x4 (kd j_4).2) <|
    gq ((kd j_3).1 = 1) <|
    gq (inb ((20 * x1) + x4) (kd j_3).2) <|
    bd (up h j_3 (ix ((20 * x1) + x4)) (h.1 j_4 (ix x4))) fun h_9 =>
    bd (x4 + 1) fun x4_10 =>
    X12_plan_121 F f a0 x1 x4_10 h_9
  )
def X12_plan_94 (F : Nat) (a0 : Nat) (x1 : Int32) (x3 : Int32) (h : Hp) : Option (Int32 × Hp) :=
  gq (kd a0 = (0, 11)) <|
  bd (up h a0 7 0) fun h_2 =>
  if x3 = 0 then (
    some ((h_2.1 a0 10), h_2)
  ) else (
    (h_2.2 a0 3).bind fun j_4 =>
    gq ((kd j_4).1 = 1) <|
    gq (inb x1 (kd j_4).2) <|
    bd (up h_2 j_4 (ix x1) (h_2.1 a0 34)) fun h_7 =>
    X12_plan_121 F F a0 x1 0 h_7
  )
def X12_plan_90 (F : Nat) (k47 : Nat → Int32 → Int32 → Hp → Option (Int32 × Hp)) (a0 : Nat) (x1 : Int32) (s0 : Int32) (h : Hp) : Option (Int32 × Hp) :=
  k47 a0 x1 s0 h
def X12_plan_89 (F : Nat) (k47 : Nat → Int32 → Int32 → Hp → Option (Int32 × Hp)) (a0 : Nat) (x1 : Int32) (h : Hp) : Option (Int32 × Hp) :=
  X12_plan_90 F k47 a0 x1 0 h
def X12_plan_69 (F : Nat) (k47 : Nat → Int32 → Int32 → Hp → Option (Int32 × Hp)) (a0 : Nat) (x1 : Int32) (h : Hp) : Option (Int32 × Hp) :=
  gq (kd a0 = (0, 11)) <|
  bq (X12_takes F a0 44 h) fun c_2 h_3 =>
  if c_2 = 0 then (
    X12_plan_89 F k47 a0 x1 h_3
  ) else (
    bq (X12_readsItem F a0 h_3) fun c_5 h_6 =>
    if c_5 = 0 then (
      X12_plan_89 F k47 a0 x1 h_6
    ) else (
      X12_plan_90 F k47 a0 x1 1 h_6
    )
  )
def X12_plan_47 (F : Nat) : Nat → Nat → Int32 → Int32 → Hp → Option (Int32 × Hp)
  | 0, _, _, _, _ => none
  | f + 1, a0, x1, x3, h =>
  if x3 = 0 then (
    X12_plan_94 F a0 x1 x3 h
  ) else (
    gq (kd a0 = (0, 11)) <|
    if (h.1 a0 8) < (h.1 a0 9) then (
      X12_plan_69 F (X12_plan_47 F f) a0 x1 h
    ) else (
      if (h.1 a0 35) ≤ 0 then (
        X12_plan_94 F a0 x1 x3 h
      ) else (
        X12_plan_69 F (X12_plan_47 F f) a0 x1 h
      )
    )
  )
def X12_plan (F : Nat) (a0 : Nat) (x1 : Int32) (x2 : Int32) (h : Hp) : Option (Int32 × Hp) :=
  (X12_isSide F x1 h).bind fun c_1 =>
  if c_1 = 0 then (
    some ((-1), h)
  ) else (
    (X12_in F x2 1 80 h).bind fun c_4 =>
    if c_4 = 0 then (
      some ((-1), h)
    ) else (
      gq (kd a0 = (0, 11)) <|
      if x2 ≤ (h.1 a0 7) then (
        (X12_beginsText F a0 x2 h).bind fun h_10 =>
        bd (up h_10 a0 34 0) fun h_11 =>
        bd (up h_11 a0 35 0) fun h_12 =>
        bq (X12_readsItem F a0 h_12) fun c_13 h_14 =>
        X12_plan_47 F F a0 x1 c_13 h_14
      ) else (
        some ((-1), h)
      )
    )
  )
def X12_readsMore_78 (F : Nat) (r0 : Nat) (s1 : Int32) (s2 : Int32) (s3 : Int32) (s4 : Int32) (s5 : Int32) (h : Hp) : Option (Int32 × Hp) :=
  (X12_min F s3 (s4 + s5) h).bind fun c_1 =>
  (X12_max F s2 c_1 h).bind fun c_3 =>
  gq ((kd r0).1 = 1) <|
  gq (inb s1 (kd r0).2) <|
  bd (up h r0 (ix s1) c_3) fun h_7 =>
  some (1, h_7)
def X12_readsMore_27 (F : Nat) (a0 : Nat) (x1 : Int32) (x2 : Int32) (x3 : Int32) (h : Hp) : Option (Int32 × Hp) :=
  gq (kd a0 = (0, 11)) <|
  bd (up h a0 8 ((h.1 a0 8) + 1)) fun h_2 =>
  bq (X12_readsAmount F a0 4 h_2) fun c_3 h_4 =>
  if c_3 = 0 then (
    some (0, h_4)
  ) else (
    (h_4.2 a0 0).bind fun j_6 =>
    gq ((kd j_6).1 = 1) <|
    gq (inb x1 (kd j_6).2) <|
    if x3 = 43 then (
      X12_readsMore_78 F j_6 x1 0 x2 (h_4.1 j_6 (ix x1)) (h_4.1 a0 11) h_4
    ) else (
      X12_readsMore_78 F j_6 x1 0 x2 (h_4.1 j_6 (ix x1)) (-(h_4.1 a0 11)) h_4
    )
  )
def X12_readsMore (F : Nat) (a0 : Nat) (x1 : Int32) (x2 : Int32) (h : Hp) : Option (Int32 × Hp) :=
  gq (kd a0 = (0, 11)) <|
  (X12_here F a0 h).bind fun c_2 =>
  if c_2 = 43 then (
    X12_readsMore_27 F a0 x1 x2 c_2 h
  ) else (
    if c_2 = 45 then (
      X12_readsMore_27 F a0 x1 x2 c_2 h
    ) else (
      bq (X12_wrongAt F a0 1 (h.1 a0 8) h) fun c_6 h_7 =>
      gq (c_6 = 0 ∨ c_6 = 1) <|
      some (c_6, h_7)
    )
  )
def X12_readsBench (F : Nat) (a0 : Nat) (x1 : Int32) (h : Hp) : Option (Int32 × Hp) :=
  gq (kd a0 = (0, 11)) <|
  bd (up h a0 8 ((h.1 a0 8) + 1)) fun h_2 =>
  bd ((h_2.1 a0 8)) fun x2_3 =>
  bq (X12_readsAmount F a0 4 h_2) fun c_4 h_5 =>
  if c_4 = 0 then (
    some (0, h_5)
  ) else (
    bd ((h_5.1 a0 11)) fun x3_7 =>
    (X12_in F x3_7 1 20 h_5).bind fun c_8 =>
    if c_8 = 0 then (
      bq (X12_wrongAt F a0 3 x2_3 h_5) fun c_26 h_27 =>
      gq (c_26 = 0 ∨ c_26 = 1) <|
      some (c_26, h_27)
    ) else (
      bq (X12_takes F a0 58 h_5) fun c_11 h_12 =>
      if c_11 = 0 then (
        some (0, h_12)
      ) else (
        bd ((h_12.1 a0 8)) fun x2_14 =>
        bq (X12_readsAmount F a0 4 h_12) fun c_15 h_16 =>
        if c_15 = 0 then (
          some (0, h_16)
        ) else (
          if (h_16.1 a0 11) ≤ 255 then (
            (h_16.2 a0 0).bind fun j_19 =>
            gq ((kd j_19).1 = 1) <|
            gq (inb (((2 + (20 * x1)) + x3_7) - 1) (kd j_19).2) <|
            bd (up h_16 j_19 (ix (((2 + (20 * x1)) + x3_7) - 1)) (h_16.1 a0 11)) fun h_22 =>
            some (1, h_22)
          ) else (
            bq (X12_wrongAt F a0 3 x2_14 h_16) fun c_23 h_24 =>
            gq (c_23 = 0 ∨ c_23 = 1) <|
            some (c_23, h_24)
          )
        )
      )
    )
  )
def X12_readsLine_120 (F : Nat) (a0 : Nat) (s0 : Int32) (h : Hp) : Option (Int32 × Hp) :=
  gq (kd a0 = (0, 11)) <|
  (X12_here F a0 h).bind fun c_2 =>
  if c_2 = 98 then (
    bq (X12_readsBench F a0 s0 h) fun c_8 h_9 =>
    gq (c_8 = 0 ∨ c_8 = 1) <|
    some (c_8, h_9)
  ) else (
    bq (X12_readsMore F a0 (0 + s0) 9999 h) fun c_5 h_6 =>
    gq (c_5 = 0 ∨ c_5 = 1) <|
    some (c_5, h_6)
  )
def X12_readsLine_39 (F : Nat) (a0 : Nat) (x1 : Int32) (h : Hp) : Option (Int32 × Hp) :=
  gq (kd a0 = (0, 11)) <|
  if (h.1 a0 38) = 20 then (
    bq (X12_wrongAt F a0 4 (h.1 a0 8) h) fun c_14 h_15 =>
    gq (c_14 = 0 ∨ c_14 = 1) <|
    some (c_14, h_15)
  ) else (
    bd (up h a0 38 ((h.1 a0 38) + 1)) fun h_3 =>
    bd (up h_3 a0 8 ((h_3.1 a0 8) + 1)) fun h_4 =>
    if x1 = 115 then (
      bq (X12_readsMore F a0 42 99999 h_4) fun c_11 h_12 =>
      gq (c_11 = 0 ∨ c_11 = 1) <|
      some (c_11, h_12)
    ) else (
      if x1 = 100 then (
        bq (X12_readsMore F a0 43 999999 h_4) fun c_8 h_9 =>
        gq (c_8 = 0 ∨ c_8 = 1) <|
        some (c_8, h_9)
      ) else (
        if x1 = 108 then (
          X12_readsLine_120 F a0 0 h_4
        ) else (
          X12_readsLine_120 F a0 1 h_4
        )
      )
    )
  )
def X12_readsLine (F : Nat) (a0 : Nat) (h : Hp) : Option (Int32 × Hp) :=
  gq (kd a0 = (0, 11)) <|
  (X12_here F a0 h).bind fun c_2 =>
  if c_2 = 108 then (
    X12_readsLine_39 F a0 c_2 h
  ) else (
    if c_2 = 114 then (
      X12_readsLine_39 F a0 c_2 h
    ) else (
      if c_2 = 115 then (
        X12_readsLine_39 F a0 c_2 h
      ) else (
        if c_2 = 100 then (
          X12_readsLine_39 F a0 c_2 h
        ) else (
          bq (X12_wrongAt F a0 1 (h.1 a0 8) h) fun c_8 h_9 =>
          gq (c_8 = 0 ∨ c_8 = 1) <|
          some (c_8, h_9)
        )
      )
    )
  )
def X12_orders_86 (F : Nat) (a0 : Nat) (x2 : Int32) (h : Hp) : Option (Int32 × Hp) :=
  gq (kd a0 = (0, 11)) <|
  bd (up h a0 7 0) fun h_2 =>
  if x2 = 0 then (
    (h_2.2 a0 1).bind fun j_4 =>
    (h_2.2 a0 0).bind fun j_5 =>
    (X12_copies F j_4 j_5 h_2).bind fun h_7 =>
    some ((h_7.1 a0 10), h_7)
  ) else (
    some ((h_2.1 a0 38), h_2)
  )
def X12_orders_82 (F : Nat) (k46 : Nat → Int32 → Hp → Option (Int32 × Hp)) (a0 : Nat) (s0 : Int32) (h : Hp) : Option (Int32 × Hp) :=
  k46 a0 s0 h
def X12_orders_81 (F : Nat) (k46 : Nat → Int32 → Hp → Option (Int32 × Hp)) (a0 : Nat) (h : Hp) : Option (Int32 × Hp) :=
  X12_orders_82 F k46 a0 0 h
def X12_orders_46 (F : Nat) : Nat → Nat → Int32 → Hp → Option (Int32 × Hp)
  | 0, _, _, _ => none
  | f + 1, a0, x2, h =>
  if x2 = 0 then (
    X12_orders_86 F a0 x2 h
  ) else (
    gq (kd a0 = (0, 11)) <|
    if (h.1 a0 9) ≤ (h.1 a0 8) then (
      X12_orders_86 F a0 x2 h
    ) else (
      bq (X12_takes F a0 59 h) fun c_4 h_5 =>
      if c_4 = 0 then (
        X12_orders_81 F (X12_orders_46 F f) a0 h_5
      ) else (
        bq (X12_readsLine F a0 h_5) fun c_7 h_8 =>
        if c_7 = 0 then (
          X12_orders_81 F (X12_orders_46 F f) a0 h_8
        ) else (
          X12_orders_82 F (X12_orders_46 F f) a0 1 h_8
        )
      )
    )
  )
def X12_orders (F : Nat) (a0 : Nat) (x1 : Int32) (h : Hp) : Option (Int32 × Hp) :=
  (X12_in F x1 1 120 h).bind fun c_1 =>
  if c_1 = 0 then (
    some ((-1), h)
  ) else (
    gq (kd a0 = (0, 11)) <|
    if x1 ≤ (h.1 a0 7) then (
      (X12_beginsText F a0 x1 h).bind fun h_7 =>
      bd (up h_7 a0 38 0) fun h_8 =>
      (h_8.2 a0 0).bind fun j_9 =>
      (h_8.2 a0 1).bind fun j_10 =>
      (X12_copies F j_9 j_10 h_8).bind fun h_12 =>
      bq (X12_readsLine F a0 h_12) fun c_13 h_14 =>
      X12_orders_46 F F a0 c_13 h_14
    ) else (
      some ((-1), h)
    )
  )
def X12_draws (F : Nat) (a0 : Nat) (h : Hp) : Option (Int32 × Hp) :=
  gq (kd a0 = (0, 11)) <|
  (h.2 a0 0).bind fun j_2 =>
  gq ((kd j_2).1 = 1) <|
  gq (inb 46 (kd j_2).2) <|
  gq (inb 46 (kd j_2).2) <|
  bd (up h j_2 (ix 46) (irm ((25173 * (h.1 j_2 (ix 46))) + 13849) 65536)) fun h_6 =>
  gq (inb 46 (kd j_2).2) <|
  some ((irm (h_6.1 j_2 (ix 46)) 10), h_6)
def X12_feels_2 (F : Nat) : Nat → Nat → Int32 → Int32 → Hp → Option Hp
  | 0, _, _, _, _ => none
  | f + 1, a0, x1, x2, h =>
  if 5 ≤ x2 then (
    gq (kd a0 = (0, 11)) <|
    (h.2 a0 29).bind fun j_3 =>
    (h.2 a0 0).bind fun j_4 =>
    gq ((kd j_4).1 = 1) <|
    gq (inb 42 (kd j_4).2) <|
    gq ((kd j_3).1 = 1) <|
    gq (inb 5 (kd j_3).2) <|
    bd (up h j_3 (ix 5) (h.1 j_4 (ix 42))) fun h_9 =>
    gq (inb 43 (kd j_4).2) <|
    gq (inb 6 (kd j_3).2) <|
    bd (up h_9 j_3 (ix 6) ((h_9.1 j_4 (ix 43)) / 100)) fun h_12 =>
    gq (inb 44 (kd j_4).2) <|
    gq (inb 7 (kd j_3).2) <|
    bd (up h_12 j_3 (ix 7) (irm (h_12.1 j_4 (ix 44)) 100)) fun h_15 =>
    gq (inb 8 (kd j_3).2) <|
    bd (up h_15 j_3 (ix 8) x1) fun h_17 =>
    some h_17
  ) else (
    gq (kd a0 = (0, 11)) <|
    (h.2 a0 29).bind fun j_19 =>
    gq ((kd j_19).1 = 1) <|
    gq (inb x2 (kd j_19).2) <|
    bd (up h j_19 (ix x2) 0) fun h_22 =>
    bd (x2 + 1) fun x2_23 =>
    X12_feels_2 F f a0 x1 x2_23 h_22
  )
def X12_feels (F : Nat) (a0 : Nat) (x1 : Int32) (h : Hp) : Option Hp :=
  X12_feels_2 F F a0 x1 0 h
def X12_mayCome_40 (F : Nat) (a0 : Nat) (x1 : Int32) (h : Hp) : Option Int32 :=
  gq (kd a0 = (0, 11)) <|
  (X12_whole F a0 x1 h).bind fun c_2 =>
  some c_2
def X12_mayCome (F : Nat) (a0 : Nat) (x1 : Int32) (h : Hp) : Option Int32 :=
  bd ((1 - x1)) fun x2_1 =>
  gq (kd a0 = (0, 11)) <|
  (X12_standing F a0 x2_1 h).bind fun c_3 =>
  (X12_standing F a0 x1 h).bind fun c_5 =>
  (X12_max F (c_3 + 2) (c_5 + 1) h).bind fun c_7 =>
  (X12_leftToBuild F a0 x2_1 h).bind fun c_9 =>
  if c_9 = 0 then (
    X12_mayCome_40 F a0 x1 h
  ) else (
    (h.2 a0 3).bind fun j_12 =>
    gq ((kd j_12).1 = 1) <|
    gq (inb x1 (kd j_12).2) <|
    if c_7 ≤ (h.1 j_12 (ix x1)) then (
      (X12_stonesTo F a0 x1 c_7 h).bind fun c_16 =>
      some (c_16 - 1)
    ) else (
      X12_mayCome_40 F a0 x1 h
    )
  )
def X12_works (F : Nat) (a0 : Nat) (x1 : Int32) (h : Hp) : Option Hp :=
  gq (kd a0 = (0, 11)) <|
  bq (X12_draws F a0 h) fun c_2 h_3 =>
  (X12_feels F a0 c_2 h_3).bind fun h_5 =>
  (h_5.2 a0 29).bind fun j_6 =>
  gq ((kd j_6).1 = 1) <|
  gq (inb 0 (kd j_6).2) <|
  bd (up h_5 j_6 (ix 0) x1) fun h_9 =>
  (X12_standing F a0 x1 h_9).bind fun c_10 =>
  gq (inb 1 (kd j_6).2) <|
  bd (up h_9 j_6 (ix 1) c_10) fun h_13 =>
  (X12_standing F a0 (1 - x1) h_13).bind fun c_14 =>
  gq (inb 2 (kd j_6).2) <|
  bd (up h_13 j_6 (ix 2) c_14) fun h_17 =>
  (X12_leftToBuild F a0 x1 h_17).bind fun c_18 =>
  gq (inb 3 (kd j_6).2) <|
  bd (up h_17 j_6 (ix 3) c_18) fun h_21 =>
  (X12_nextNeeds F a0 x1 h_21).bind fun c_22 =>
  gq (inb 4 (kd j_6).2) <|
  bd (up h_21 j_6 (ix 4) c_22) fun h_25 =>
  bq (X12_holdsAny F a0 120 h_25) fun c_26 h_27 =>
  bq (X12_byLaw F a0 119 99 h_27) fun c_28 h_29 =>
  bq (X12_byLaw F a0 99 99 h_29) fun c_30 h_31 =>
  if c_26 = 0 then (
    (h_31.2 a0 0).bind fun j_33 =>
    gq ((kd j_33).1 = 1) <|
    gq (inb 42 (kd j_33).2) <|
    (X12_min F c_28 (h_31.1 j_33 (ix 42)) h_31).bind fun c_36 =>
    (X12_mayCome F a0 x1 h_31).bind fun c_38 =>
    gq (inb (0 + x1) (kd j_33).2) <|
    (X12_max F 0 (c_38 - (h_31.1 j_33 (ix (0 + x1)))) h_31).bind fun c_41 =>
    (X12_min F c_36 c_41 h_31).bind fun c_43 =>
    gq (inb (0 + x1) (kd j_33).2) <|
    gq (inb (0 + x1) (kd j_33).2) <|
    bd (up h_31 j_33 (ix (0 + x1)) ((h_31.1 j_33 (ix (0 + x1))) + c_43)) fun h_47 =>
    gq (inb 42 (kd j_33).2) <|
    gq (inb 42 (kd j_33).2) <|
    bd (up h_47 j_33 (ix 42) ((h_47.1 j_33 (ix 42)) - c_43)) fun h_50 =>
    gq (inb 43 (kd j_33).2) <|
    (X12_min F 999999 ((h_50.1 j_33 (ix 43)) + (c_30 * c_43)) h_50).bind fun c_52 =>
    gq (inb 43 (kd j_33).2) <|
    bd (up h_50 j_33 (ix 43) c_52) fun h_55 =>
    bd (up h_55 a0 39 ((h_55.1 a0 39) + c_43)) fun h_56 =>
    some h_56
  ) else (
    some h_31
  )
def X12_tiltNow (F : Nat) (a0 : Nat) (h : Hp) : Option Int32 :=
  gq (kd a0 = (0, 11)) <|
  (X12_weightOf F a0 0 h).bind fun c_2 =>
  (X12_weightOf F a0 1 h).bind fun c_4 =>
  (X12_size F (c_2 - c_4) h).bind fun c_6 =>
  some c_6
def X12_dayGoes_173 (F : Nat) (a0 : Nat) (h : Hp) : Option Hp :=
  gq (kd a0 = (0, 11)) <|
  (h.2 a0 0).bind fun j_2 =>
  gq ((kd j_2).1 = 1) <|
  gq (inb 44 (kd j_2).2) <|
  gq (inb 44 (kd j_2).2) <|
  bd (up h j_2 (ix 44) ((h.1 j_2 (ix 44)) + 1)) fun h_6 =>
  some h_6
def X12_dayGoes_126 (F : Nat) (a0 : Nat) (s0 : Int32) (h : Hp) : Option Hp :=
  gq (kd a0 = (0, 11)) <|
  (h.2 a0 0).bind fun j_2 =>
  (X12_standing F a0 s0 h).bind fun c_3 =>
  (X12_stonesTo F a0 s0 (c_3 - 1) h).bind fun c_5 =>
  gq ((kd j_2).1 = 1) <|
  gq (inb (0 + s0) (kd j_2).2) <|
  bd (up h j_2 (ix (0 + s0)) c_5) fun h_9 =>
  gq (inb 45 (kd j_2).2) <|
  gq (inb 45 (kd j_2).2) <|
  bd (up h_9 j_2 (ix 45) ((h_9.1 j_2 (ix 45)) + 1)) fun h_12 =>
  bd (up h_12 a0 40 ((h_12.1 a0 40) + 1)) fun h_13 =>
  X12_dayGoes_173 F a0 h_13
def X12_dayGoes_91 (F : Nat) (k73 : Nat → Int32 → Hp → Option Hp) (a0 : Nat) (x3 : Int32) (h : Hp) : Option Hp :=
  bd (x3 + 1) fun x3_1 =>
  k73 a0 x3_1 h
def X12_dayGoes_73 (F : Nat) : Nat → Nat → Int32 → Hp → Option Hp
  | 0, _, _, _ => none
  | f + 1, a0, x3, h =>
  if 2 ≤ x3 then (
    gq (kd a0 = (0, 11)) <|
    (X12_tiltNow F a0 h).bind fun c_3 =>
    if c_3 ≤ (h.1 a0 5) then (
      X12_dayGoes_173 F a0 h
    ) else (
      (X12_weightOf F a0 0 h).bind fun c_6 =>
      (X12_weightOf F a0 1 h).bind fun c_8 =>
      if c_6 ≤ c_8 then (
        X12_dayGoes_126 F a0 1 h
      ) else (
        X12_dayGoes_126 F a0 0 h
      )
    )
  ) else (
    gq (kd a0 = (0, 11)) <|
    (X12_touchesNow F a0 x3 h).bind fun c_12 =>
    if c_12 = 0 then (
      (X12_works F a0 x3 h).bind fun h_16 =>
      X12_dayGoes_91 F (X12_dayGoes_73 F f) a0 x3 h_16
    ) else (
      X12_dayGoes_91 F (X12_dayGoes_73 F f) a0 x3 h
    )
  )
def X12_dayGoes (F : Nat) (a0 : Nat) (h : Hp) : Option Hp :=
  gq (kd a0 = (0, 11)) <|
  bq (X12_draws F a0 h) fun c_2 h_3 =>
  (X12_feels F a0 c_2 h_3).bind fun h_5 =>
  bq (X12_byLaw F a0 105 999 h_5) fun c_6 h_7 =>
  bq (X12_byLaw F a0 110 9999 h_7) fun c_8 h_9 =>
  (h_9.2 a0 0).bind fun j_10 =>
  gq ((kd j_10).1 = 1) <|
  gq (inb 42 (kd j_10).2) <|
  (X12_min F 99999 ((h_9.1 j_10 (ix 42)) + c_6) h_9).bind fun c_13 =>
  gq (inb 42 (kd j_10).2) <|
  bd (up h_9 j_10 (ix 42) c_13) fun h_16 =>
  gq (inb 43 (kd j_10).2) <|
  (X12_min F 999999 ((h_16.1 j_10 (ix 43)) + c_8) h_16).bind fun c_18 =>
  gq (inb 43 (kd j_10).2) <|
  bd (up h_16 j_10 (ix 43) c_18) fun h_21 =>
  X12_dayGoes_73 F F a0 0 h_21
def X12_beginsDays (F : Nat) (a0 : Nat) (h : Hp) : Option Hp :=
  gq (kd a0 = (0, 11)) <|
  bd (up h a0 39 0) fun h_2 =>
  bd (up h_2 a0 40 0) fun h_3 =>
  some h_3
def X12_daysGo_6 (F : Nat) : Nat → Nat → Int32 → Int32 → Hp → Option Hp
  | 0, _, _, _, _ => none
  | f + 1, a0, x1, x2, h =>
  if x1 ≤ x2 then (
    some h
  ) else (
    gq (kd a0 = (0, 11)) <|
    (h.2 a0 0).bind fun j_3 =>
    gq ((kd j_3).1 = 1) <|
    gq (inb 44 (kd j_3).2) <|
    if 9999 ≤ (h.1 j_3 (ix 44)) then (
      some h
    ) else (
      (X12_dayGoes F a0 h).bind fun h_8 =>
      bd (x2 + 1) fun x2_9 =>
      X12_daysGo_6 F f a0 x1 x2_9 h_8
    )
  )
def X12_daysGo (F : Nat) (a0 : Nat) (x1 : Int32) (h : Hp) : Option Hp :=
  gq (kd a0 = (0, 11)) <|
  (X12_beginsDays F a0 h).bind fun h_3 =>
  X12_daysGo_6 F F a0 x1 0 h_3
def X12_days (F : Nat) (a0 : Nat) (x1 : Int32) (h : Hp) : Option (Int32 × Hp) :=
  (X12_in F x1 1 240 h).bind fun c_1 =>
  if c_1 = 0 then (
    some ((-1), h)
  ) else (
    gq (kd a0 = (0, 11)) <|
    (X12_daysGo F a0 x1 h).bind fun h_6 =>
    some ((h_6.1 a0 39), h_6)
  )
def X12_tried_127 (F : Nat) (a0 : Nat) (x3 : Int32) (h : Hp) : Option (Int32 × Hp) :=
  gq (kd a0 = (0, 11)) <|
  (h.2 a0 1).bind fun j_2 =>
  (h.2 a0 0).bind fun j_3 =>
  (X12_copies F j_2 j_3 h).bind fun h_5 =>
  some (x3, h_5)
def X12_tried_33 (F : Nat) (a0 : Nat) (x1 : Int32) (x2 : Int32) (h : Hp) : Option (Int32 × Hp) :=
  gq (kd a0 = (0, 11)) <|
  (h.2 a0 0).bind fun j_2 =>
  (h.2 a0 1).bind fun j_3 =>
  (X12_copies F j_2 j_3 h).bind fun h_5 =>
  (X12_daysGo F a0 x1 h_5).bind fun h_7 =>
  bd (x2) fun t_8 =>
  if t_8 = 0 then (
    bd ((h_7.1 a0 39)) fun x3_10 =>
    X12_tried_127 F a0 x3_10 h_7
  ) else (
  if t_8 = 1 then (
    bd ((h_7.1 a0 40)) fun x3_12 =>
    X12_tried_127 F a0 x3_12 h_7
  ) else (
  if t_8 = 2 then (
    (h_7.2 a0 0).bind fun j_14 =>
    gq ((kd j_14).1 = 1) <|
    gq (inb 43 (kd j_14).2) <|
    bd ((h_7.1 j_14 (ix 43))) fun x3_17 =>
    X12_tried_127 F a0 x3_17 h_7
  ) else (
  if t_8 = 3 then (
    (h_7.2 a0 0).bind fun j_19 =>
    gq ((kd j_19).1 = 1) <|
    gq (inb 42 (kd j_19).2) <|
    bd ((h_7.1 j_19 (ix 42))) fun x3_22 =>
    X12_tried_127 F a0 x3_22 h_7
  ) else (
  (X12_standing F a0 (x2 - 10) h_7).bind fun c_23 =>
  X12_tried_127 F a0 c_23 h_7
  ))))
def X12_tried (F : Nat) (a0 : Nat) (x1 : Int32) (x2 : Int32) (h : Hp) : Option (Int32 × Hp) :=
  (X12_in F x1 1 240 h).bind fun c_1 =>
  if c_1 = 0 then (
    some ((-1), h)
  ) else (
    (X12_in F x2 0 3 h).bind fun c_4 =>
    if c_4 = 0 then (
      (X12_in F x2 10 11 h).bind fun c_7 =>
      if c_7 = 0 then (
        some ((-1), h)
      ) else (
        X12_tried_33 F a0 x1 x2 h
      )
    ) else (
      X12_tried_33 F a0 x1 x2 h
    )
  )
def X12_sideIs (F : Nat) (a0 : Nat) (x1 : Int32) (x2 : Int32) (h : Hp) : Option Int32 :=
  (X12_isSide F x1 h).bind fun c_1 =>
  if c_1 = 0 then (
    some (-1)
  ) else (
    bd (x2) fun t_4 =>
    if t_4 = 0 then (
      gq (kd a0 = (0, 11)) <|
      (h.2 a0 3).bind fun j_7 =>
      gq ((kd j_7).1 = 1) <|
      gq (inb x1 (kd j_7).2) <|
      some (h.1 j_7 (ix x1))
    ) else (
    if t_4 = 1 then (
      gq (kd a0 = (0, 11)) <|
      (X12_standing F a0 x1 h).bind fun c_12 =>
      some c_12
    ) else (
    if t_4 = 2 then (
      gq (kd a0 = (0, 11)) <|
      (h.2 a0 0).bind fun j_16 =>
      gq ((kd j_16).1 = 1) <|
      gq (inb (0 + x1) (kd j_16).2) <|
      some (h.1 j_16 (ix (0 + x1)))
    ) else (
    if t_4 = 3 then (
      gq (kd a0 = (0, 11)) <|
      (X12_nextNeeds F a0 x1 h).bind fun c_21 =>
      some c_21
    ) else (
    if t_4 = 4 then (
      gq (kd a0 = (0, 11)) <|
      (X12_weightOf F a0 x1 h).bind fun c_25 =>
      some c_25
    ) else (
    if t_4 = 5 then (
      gq (kd a0 = (0, 11)) <|
      (X12_touchesNow F a0 x1 h).bind fun c_29 =>
      if c_29 = 0 then (
        some 0
      ) else (
        some 1
      )
    ) else (
    if t_4 = 6 then (
      gq (kd a0 = (0, 11)) <|
      (X12_whole F a0 x1 h).bind fun c_34 =>
      some c_34
    ) else (
    some (-1)
    )))))))
  )
def X12_archIs (F : Nat) (a0 : Nat) (x1 : Int32) (x2 : Int32) (x3 : Int32) (h : Hp) : Option Int32 :=
  (X12_isSide F x1 h).bind fun c_1 =>
  if c_1 = 0 then (
    some (-1)
  ) else (
    gq (kd a0 = (0, 11)) <|
    (h.2 a0 3).bind fun j_5 =>
    gq ((kd j_5).1 = 1) <|
    gq (inb x1 (kd j_5).2) <|
    (X12_in F x2 1 (h.1 j_5 (ix x1)) h).bind fun c_8 =>
    if c_8 = 0 then (
      some (-1)
    ) else (
      (X12_in F x3 0 2 h).bind fun c_11 =>
      if c_11 = 0 then (
        some (-1)
      ) else (
        if x3 = 1 then (
          (X12_standing F a0 x1 h).bind fun c_22 =>
          if c_22 < x2 then (
            some 0
          ) else (
            some 1
          )
        ) else (
          if x3 = 0 then (
            (h.2 a0 4).bind fun j_19 =>
            gq ((kd j_19).1 = 1) <|
            gq (inb (((20 * x1) + x2) - 1) (kd j_19).2) <|
            some (h.1 j_19 (ix (((20 * x1) + x2) - 1)))
          ) else (
            (h.2 a0 0).bind fun j_16 =>
            gq ((kd j_16).1 = 1) <|
            gq (inb (((2 + (20 * x1)) + x2) - 1) (kd j_16).2) <|
            some (h.1 j_16 (ix (((2 + (20 * x1)) + x2) - 1)))
          )
        )
      )
    )
  )
def X12_whoTouches_18 (F : Nat) (a0 : Nat) (h : Hp) : Option Int32 :=
  gq (kd a0 = (0, 11)) <|
  (X12_touchesNow F a0 0 h).bind fun c_2 =>
  if c_2 = 0 then (
    (X12_touchesNow F a0 1 h).bind fun c_5 =>
    if c_5 = 0 then (
      some (-1)
    ) else (
      some 1
    )
  ) else (
    some 0
  )
def X12_whoTouches (F : Nat) (a0 : Nat) (h : Hp) : Option Int32 :=
  gq (kd a0 = (0, 11)) <|
  (X12_touchesNow F a0 0 h).bind fun c_2 =>
  if c_2 = 0 then (
    X12_whoTouches_18 F a0 h
  ) else (
    (X12_touchesNow F a0 1 h).bind fun c_5 =>
    if c_5 = 0 then (
      X12_whoTouches_18 F a0 h
    ) else (
      some 2
    )
  )
def X12_touches_76 (F : Nat) (a0 : Nat) (x2 : Int32) (x3 : Int32) (h : Hp) : Option (Int32 × Hp) :=
  gq (kd a0 = (0, 11)) <|
  (X12_whoTouches F a0 h).bind fun c_2 =>
  (h.2 a0 1).bind fun j_4 =>
  (h.2 a0 0).bind fun j_5 =>
  (X12_copies F j_4 j_5 h).bind fun h_7 =>
  if c_2 = (-1) then (
    some ((-2), h_7)
  ) else (
    if x2 = 0 then (
      some (x3, h_7)
    ) else (
      some (c_2, h_7)
    )
  )
def X12_touches_39 (F : Nat) : Nat → Nat → Int32 → Int32 → Int32 → Hp → Option (Int32 × Hp)
  | 0, _, _, _, _, _ => none
  | f + 1, a0, x1, x2, x3, h =>
  if x1 ≤ x3 then (
    X12_touches_76 F a0 x2 x3 h
  ) else (
    gq (kd a0 = (0, 11)) <|
    (X12_whoTouches F a0 h).bind fun c_3 =>
    if c_3 = (-1) then (
      (h.2 a0 0).bind fun j_6 =>
      gq ((kd j_6).1 = 1) <|
      gq (inb 44 (kd j_6).2) <|
      if 9999 ≤ (h.1 j_6 (ix 44)) then (
        X12_touches_76 F a0 x2 x3 h
      ) else (
        (X12_dayGoes F a0 h).bind fun h_11 =>
        bd ((x3 + 1)) fun x3_12 =>
        X12_touches_39 F f a0 x1 x2 x3_12 h_11
      )
    ) else (
      X12_touches_76 F a0 x2 x3 h
    )
  )
def X12_touches (F : Nat) (a0 : Nat) (x1 : Int32) (x2 : Int32) (h : Hp) : Option (Int32 × Hp) :=
  (X12_in F x1 1 240 h).bind fun c_1 =>
  if c_1 = 0 then (
    some ((-1), h)
  ) else (
    (X12_in F x2 0 1 h).bind fun c_4 =>
    if c_4 = 0 then (
      some ((-1), h)
    ) else (
      gq (kd a0 = (0, 11)) <|
      (h.2 a0 0).bind fun j_8 =>
      (h.2 a0 1).bind fun j_9 =>
      (X12_copies F j_8 j_9 h).bind fun h_11 =>
      (X12_beginsDays F a0 h_11).bind fun h_13 =>
      X12_touches_39 F F a0 x1 x2 0 h_13
    )
  )
def X12_ahead_92 (F : Nat) (a0 : Nat) (x2 : Int32) (h : Hp) : Option (Int32 × Hp) :=
  gq (kd a0 = (0, 11)) <|
  (h.2 a0 1).bind fun j_2 =>
  (h.2 a0 0).bind fun j_3 =>
  (X12_copies F j_2 j_3 h).bind fun h_5 =>
  some (x2, h_5)
def X12_ahead_45 (F : Nat) : Nat → Nat → Int32 → Int32 → Int32 → Hp → Option (Int32 × Hp)
  | 0, _, _, _, _, _ => none
  | f + 1, a0, x1, x2, x3, h =>
  if x1 ≤ x3 then (
    X12_ahead_92 F a0 x2 h
  ) else (
    gq (kd a0 = (0, 11)) <|
    (h.2 a0 0).bind fun j_3 =>
    gq ((kd j_3).1 = 1) <|
    gq (inb 44 (kd j_3).2) <|
    if 9999 ≤ (h.1 j_3 (ix 44)) then (
      X12_ahead_92 F a0 x2 h
    ) else (
      (X12_dayGoes F a0 h).bind fun h_8 =>
      (X12_standing F a0 0 h_8).bind fun c_9 =>
      (X12_standing F a0 1 h_8).bind fun c_11 =>
      (X12_size F (c_9 - c_11) h_8).bind fun c_13 =>
      (X12_max F x2 c_13 h_8).bind fun c_15 =>
      bd (x3 + 1) fun x3_17 =>
      X12_ahead_45 F f a0 x1 c_15 x3_17 h_8
    )
  )
def X12_ahead (F : Nat) (a0 : Nat) (x1 : Int32) (h : Hp) : Option (Int32 × Hp) :=
  (X12_in F x1 1 240 h).bind fun c_1 =>
  if c_1 = 0 then (
    some ((-1), h)
  ) else (
    gq (kd a0 = (0, 11)) <|
    (h.2 a0 0).bind fun j_5 =>
    (h.2 a0 1).bind fun j_6 =>
    (X12_copies F j_5 j_6 h).bind fun h_8 =>
    (X12_beginsDays F a0 h_8).bind fun h_10 =>
    (X12_standing F a0 0 h_10).bind fun c_11 =>
    (X12_standing F a0 1 h_10).bind fun c_13 =>
    (X12_size F (c_11 - c_13) h_10).bind fun c_15 =>
    X12_ahead_45 F F a0 x1 c_15 0 h_10
  )
def X12_beyond_97 (F : Nat) (a0 : Nat) (x3 : Int32) (s0 : Int32) (h : Hp) : Option (Int32 × Hp) :=
  gq (kd a0 = (0, 11)) <|
  (h.2 a0 1).bind fun j_2 =>
  (h.2 a0 0).bind fun j_3 =>
  (X12_copies F j_2 j_3 h).bind fun h_5 =>
  if s0 = 0 then (
    some ((-2), h_5)
  ) else (
    some (x3, h_5)
  )
def X12_beyond_81 (F : Nat) (a0 : Nat) (x2 : Int32) (x3 : Int32) (h : Hp) : Option (Int32 × Hp) :=
  gq (kd a0 = (0, 11)) <|
  (h.2 a0 0).bind fun j_2 =>
  gq ((kd j_2).1 = 1) <|
  gq (inb 43 (kd j_2).2) <|
  if (h.1 j_2 (ix 43)) ≤ x2 then (
    X12_beyond_97 F a0 x3 0 h
  ) else (
    X12_beyond_97 F a0 x3 1 h
  )
def X12_beyond_41 (F : Nat) : Nat → Nat → Int32 → Int32 → Int32 → Hp → Option (Int32 × Hp)
  | 0, _, _, _, _, _ => none
  | f + 1, a0, x1, x2, x3, h =>
  if x1 ≤ x3 then (
    X12_beyond_81 F a0 x2 x3 h
  ) else (
    gq (kd a0 = (0, 11)) <|
    (h.2 a0 0).bind fun j_3 =>
    gq ((kd j_3).1 = 1) <|
    gq (inb 43 (kd j_3).2) <|
    if x2 < (h.1 j_3 (ix 43)) then (
      X12_beyond_81 F a0 x2 x3 h
    ) else (
      gq (inb 44 (kd j_3).2) <|
      if 9999 ≤ (h.1 j_3 (ix 44)) then (
        X12_beyond_81 F a0 x2 x3 h
      ) else (
        (X12_dayGoes F a0 h).bind fun h_10 =>
        bd ((x3 + 1)) fun x3_11 =>
        X12_beyond_41 F f a0 x1 x2 x3_11 h_10
      )
    )
  )
def X12_beyond (F : Nat) (a0 : Nat) (x1 : Int32) (x2 : Int32) (h : Hp) : Option (Int32 × Hp) :=
  (X12_in F x1 1 240 h).bind fun c_1 =>
  if c_1 = 0 then (
    some ((-1), h)
  ) else (
    (X12_in F x2 0 999999 h).bind fun c_4 =>
    if c_4 = 0 then (
      some ((-1), h)
    ) else (
      gq (kd a0 = (0, 11)) <|
      (h.2 a0 0).bind fun j_8 =>
      (h.2 a0 1).bind fun j_9 =>
      (X12_copies F j_8 j_9 h).bind fun h_11 =>
      (X12_beginsDays F a0 h_11).bind fun h_13 =>
      X12_beyond_41 F F a0 x1 x2 0 h_13
    )
  )
def X12_sumOf_29 (F : Nat) (k5 : Nat → Int32 → Int32 → Int32 → Int32 → Hp → Option Int32) (a0 : Nat) (x1 : Int32) (x2 : Int32) (x3 : Int32) (x4 : Int32) (h : Hp) : Option Int32 :=
  bd (x4 + 1) fun x4_1 =>
  k5 a0 x1 x2 x3 x4_1 h
def X12_sumOf_5 (F : Nat) : Nat → Nat → Int32 → Int32 → Int32 → Int32 → Hp → Option Int32
  | 0, _, _, _, _, _, _ => none
  | f + 1, a0, x1, x2, x3, x4, h =>
  if x2 ≤ x4 then (
    some x3
  ) else (
    (X12_has F x1 x4 h).bind fun c_2 =>
    if c_2 = 0 then (
      X12_sumOf_29 F (X12_sumOf_5 F f) a0 x1 x2 x3 x4 h
    ) else (
      gq (kd a0 = (0, 11)) <|
      (X12_octet F a0 x4 h).bind fun c_6 =>
      bd ((x3 + c_6)) fun x3_8 =>
      X12_sumOf_29 F (X12_sumOf_5 F f) a0 x1 x2 x3_8 x4 h
    )
  )
def X12_sumOf (F : Nat) (a0 : Nat) (x1 : Int32) (x2 : Int32) (h : Hp) : Option Int32 :=
  X12_sumOf_5 F F a0 x1 x2 0 0 h
def X12_even_182 (F : Nat) (k97 : Nat → Int32 → Int32 → Int32 → Int32 → Int32 → Hp → Option (Int32 × Hp)) (k108 : Nat → Int32 → Int32 → Int32 → Int32 → Int32 → Int32 → Hp → Option (Int32 × Hp)) (a0 : Nat) (x1 : Int32) (x2 : Int32) (x3 : Int32) (x4 : Int32) (x5 : Int32) (x6 : Int32) (h : Hp) : Option (Int32 × Hp) :=
  bd (x6 + 1) fun x6_1 =>
  k108 a0 x1 x2 x3 x4 x5 x6_1 h
def X12_even_108 (F : Nat) (k97 : Nat → Int32 → Int32 → Int32 → Int32 → Int32 → Hp → Option (Int32 × Hp)) : Nat → Nat → Int32 → Int32 → Int32 → Int32 → Int32 → Int32 → Hp → Option (Int32 × Hp)
  | 0, _, _, _, _, _, _, _, _ => none
  | f + 1, a0, x1, x2, x3, x4, x5, x6, h =>
  if (1 <<< (x1 &&& 31)) ≤ x6 then (
    bd (x5 + 1) fun x5_2 =>
    k97 a0 x1 x2 x3 x4 x5_2 h
  ) else (
    if (x5 &&& x6) = 0 then (
      gq (kd a0 = (0, 11)) <|
      (X12_standing F a0 0 h).bind fun c_5 =>
      (X12_sumOf F a0 x5 x1 h).bind fun c_7 =>
      (X12_standing F a0 1 h).bind fun c_9 =>
      (X12_sumOf F a0 x6 x1 h).bind fun c_11 =>
      (X12_size F ((x3 + (c_5 * c_7)) - (c_9 * c_11)) h).bind fun c_13 =>
      (X12_bits F (x5 ||| x6) h).bind fun c_15 =>
      (X12_min F x4 ((10 * c_13) + c_15) h).bind fun c_17 =>
      X12_even_182 F k97 (X12_even_108 F k97 f) a0 x1 x2 x3 c_17 x5 x6 h
    ) else (
      X12_even_182 F k97 (X12_even_108 F k97 f) a0 x1 x2 x3 x4 x5 x6 h
    )
  )
def X12_even_97 (F : Nat) : Nat → Nat → Int32 → Int32 → Int32 → Int32 → Int32 → Hp → Option (Int32 × Hp)
  | 0, _, _, _, _, _, _, _ => none
  | f + 1, a0, x1, x2, x3, x4, x5, h =>
  if (1 <<< (x1 &&& 31)) ≤ x5 then (
    if x2 = 0 then (
      some ((x4 / 10), h)
    ) else (
      some ((irm x4 10), h)
    )
  ) else (
    X12_even_108 F (X12_even_97 F f) F a0 x1 x2 x3 x4 x5 0 h
  )
def X12_even_55 (F : Nat) : Nat → Nat → Int32 → Int32 → Int32 → Hp → Option (Int32 × Hp)
  | 0, _, _, _, _, _ => none
  | f + 1, a0, x1, x2, x3, h =>
  if x1 ≤ x3 then (
    gq (kd a0 = (0, 11)) <|
    (X12_weightOf F a0 0 h).bind fun c_3 =>
    (X12_weightOf F a0 1 h).bind fun c_5 =>
    bd ((c_3 - c_5)) fun x3_7 =>
    X12_even_97 F F a0 x1 x2 x3_7 100000000 0 h
  ) else (
    gq (kd a0 = (0, 11)) <|
    (X12_octet F a0 x3 h).bind fun c_9 =>
    if c_9 = 0 then (
      some ((-3), h)
    ) else (
      bd (x3 + 1) fun x3_12 =>
      X12_even_55 F f a0 x1 x2 x3_12 h
    )
  )
def X12_even (F : Nat) (a0 : Nat) (x1 : Int32) (x2 : Int32) (h : Hp) : Option (Int32 × Hp) :=
  (X12_in F x1 1 8 h).bind fun c_1 =>
  if c_1 = 0 then (
    some ((-1), h)
  ) else (
    (X12_in F x2 0 1 h).bind fun c_4 =>
    if c_4 = 0 then (
      some ((-1), h)
    ) else (
      gq (kd a0 = (0, 11)) <|
      if x1 ≤ (h.1 a0 7) then (
        bd (up h a0 7 0) fun h_9 =>
        (X12_standing F a0 0 h_9).bind fun c_10 =>
        if c_10 = 0 then (
          some ((-2), h_9)
        ) else (
          (X12_standing F a0 1 h_9).bind fun c_13 =>
          if c_13 = 0 then (
            some ((-2), h_9)
          ) else (
            X12_even_55 F F a0 x1 x2 0 h_9
          )
        )
      ) else (
        some ((-1), h)
      )
    )
  )
def X12_mayStand_19 (F : Nat) (a0 : Nat) (x1 : Int32) (x2 : Int32) (h : Hp) : Option Int32 :=
  gq (kd a0 = (0, 11)) <|
  (h.2 a0 3).bind fun j_2 =>
  gq ((kd j_2).1 = 1) <|
  gq (inb 1 (kd j_2).2) <|
  if (h.1 j_2 (ix 1)) ≤ x2 then (
    some 1
  ) else (
    if 1 < (x1 - x2) then (
      some 0
    ) else (
      some 1
    )
  )
def X12_mayStand (F : Nat) (a0 : Nat) (x1 : Int32) (x2 : Int32) (h : Hp) : Option Int32 :=
  gq (kd a0 = (0, 11)) <|
  (h.2 a0 3).bind fun j_2 =>
  gq ((kd j_2).1 = 1) <|
  gq (inb 0 (kd j_2).2) <|
  if (h.1 j_2 (ix 0)) ≤ x1 then (
    X12_mayStand_19 F a0 x1 x2 h
  ) else (
    if (x2 - x1) ≤ 1 then (
      X12_mayStand_19 F a0 x1 x2 h
    ) else (
      some 0
    )
  )
def X12_inARow_132 (F : Nat) (k7 : Nat → Int32 → Hp → Option (Int32 × Hp)) (k23 : Nat → Int32 → Int32 → Hp → Option (Int32 × Hp)) (a0 : Nat) (x1 : Int32) (x2 : Int32) (x3 : Int32) (h : Hp) : Option (Int32 × Hp) :=
  gq (kd a0 = (0, 11)) <|
  (h.2 a0 41).bind fun j_2 =>
  (X12_min F 1000000000 x3 h).bind fun c_3 =>
  gq ((kd j_2).1 = 1) <|
  gq (inb ((21 * x1) + x2) (kd j_2).2) <|
  bd (up h j_2 (ix ((21 * x1) + x2)) c_3) fun h_7 =>
  bd (x2 + (-1)) fun x2_8 =>
  k23 a0 x1 x2_8 h_7
def X12_inARow_95 (F : Nat) (k7 : Nat → Int32 → Hp → Option (Int32 × Hp)) (k23 : Nat → Int32 → Int32 → Hp → Option (Int32 × Hp)) (a0 : Nat) (x1 : Int32) (x2 : Int32) (x3 : Int32) (h : Hp) : Option (Int32 × Hp) :=
  gq (kd a0 = (0, 11)) <|
  (h.2 a0 3).bind fun j_2 =>
  gq ((kd j_2).1 = 1) <|
  gq (inb 1 (kd j_2).2) <|
  if (h.1 j_2 (ix 1)) ≤ x2 then (
    X12_inARow_132 F k7 k23 a0 x1 x2 x3 h
  ) else (
    (X12_mayStand F a0 x1 (x2 + 1) h).bind fun c_6 =>
    if c_6 = 0 then (
      X12_inARow_132 F k7 k23 a0 x1 x2 x3 h
    ) else (
      (h.2 a0 41).bind fun j_9 =>
      gq ((kd j_9).1 = 1) <|
      gq (inb (((21 * x1) + x2) + 1) (kd j_9).2) <|
      bd ((x3 + (h.1 j_9 (ix (((21 * x1) + x2) + 1))))) fun x3_12 =>
      X12_inARow_132 F k7 k23 a0 x1 x2 x3_12 h
    )
  )
def X12_inARow_57 (F : Nat) (k7 : Nat → Int32 → Hp → Option (Int32 × Hp)) (k23 : Nat → Int32 → Int32 → Hp → Option (Int32 × Hp)) (a0 : Nat) (x1 : Int32) (x2 : Int32) (s0 : Int32) (h : Hp) : Option (Int32 × Hp) :=
  gq (kd a0 = (0, 11)) <|
  (h.2 a0 3).bind fun j_2 =>
  gq ((kd j_2).1 = 1) <|
  gq (inb 0 (kd j_2).2) <|
  if (h.1 j_2 (ix 0)) ≤ x1 then (
    X12_inARow_95 F k7 k23 a0 x1 x2 s0 h
  ) else (
    (X12_mayStand F a0 (x1 + 1) x2 h).bind fun c_6 =>
    if c_6 = 0 then (
      X12_inARow_95 F k7 k23 a0 x1 x2 s0 h
    ) else (
      (h.2 a0 41).bind fun j_9 =>
      gq ((kd j_9).1 = 1) <|
      gq (inb ((21 * (x1 + 1)) + x2) (kd j_9).2) <|
      bd ((s0 + (h.1 j_9 (ix ((21 * (x1 + 1)) + x2))))) fun x3_12 =>
      X12_inARow_95 F k7 k23 a0 x1 x2 x3_12 h
    )
  )
def X12_inARow_56 (F : Nat) (k7 : Nat → Int32 → Hp → Option (Int32 × Hp)) (k23 : Nat → Int32 → Int32 → Hp → Option (Int32 × Hp)) (a0 : Nat) (x1 : Int32) (x2 : Int32) (h : Hp) : Option (Int32 × Hp) :=
  X12_inARow_57 F k7 k23 a0 x1 x2 0 h
def X12_inARow_23 (F : Nat) (k7 : Nat → Int32 → Hp → Option (Int32 × Hp)) : Nat → Nat → Int32 → Int32 → Hp → Option (Int32 × Hp)
  | 0, _, _, _, _ => none
  | f + 1, a0, x1, x2, h =>
  gq (kd a0 = (0, 11)) <|
  (X12_standing F a0 1 h).bind fun c_2 =>
  if x2 < c_2 then (
    bd (x1 + (-1)) fun x1_5 =>
    k7 a0 x1_5 h
  ) else (
    (h.2 a0 3).bind fun j_6 =>
    gq ((kd j_6).1 = 1) <|
    gq (inb 0 (kd j_6).2) <|
    if x1 = (h.1 j_6 (ix 0)) then (
      gq (inb 1 (kd j_6).2) <|
      if x2 = (h.1 j_6 (ix 1)) then (
        X12_inARow_57 F k7 (X12_inARow_23 F k7 f) a0 x1 x2 1 h
      ) else (
        X12_inARow_56 F k7 (X12_inARow_23 F k7 f) a0 x1 x2 h
      )
    ) else (
      X12_inARow_56 F k7 (X12_inARow_23 F k7 f) a0 x1 x2 h
    )
  )
def X12_inARow_7 (F : Nat) : Nat → Nat → Int32 → Hp → Option (Int32 × Hp)
  | 0, _, _, _ => none
  | f + 1, a0, x1, h =>
  gq (kd a0 = (0, 11)) <|
  (X12_standing F a0 0 h).bind fun c_2 =>
  if x1 < c_2 then (
    (h.2 a0 41).bind fun j_5 =>
    (X12_standing F a0 0 h).bind fun c_6 =>
    (X12_standing F a0 1 h).bind fun c_8 =>
    gq ((kd j_5).1 = 1) <|
    gq (inb ((21 * c_6) + c_8) (kd j_5).2) <|
    some ((h.1 j_5 (ix ((21 * c_6) + c_8))), h)
  ) else (
    (h.2 a0 3).bind fun j_12 =>
    gq ((kd j_12).1 = 1) <|
    gq (inb 1 (kd j_12).2) <|
    bd ((h.1 j_12 (ix 1))) fun x2_15 =>
    X12_inARow_23 F (X12_inARow_7 F f) F a0 x1 x2_15 h
  )
def X12_inARow (F : Nat) (a0 : Nat) (h : Hp) : Option (Int32 × Hp) :=
  gq (kd a0 = (0, 11)) <|
  (h.2 a0 3).bind fun j_2 =>
  gq ((kd j_2).1 = 1) <|
  gq (inb 0 (kd j_2).2) <|
  bd ((h.1 j_2 (ix 0))) fun x1_5 =>
  X12_inARow_7 F F a0 x1_5 h
def X12_isOver_10 (F : Nat) : Nat → Int32 → Int32 → Int32 → Int32 → Int32 → Int32 → Hp → Option Int32
  | 0, _, _, _, _, _, _, _ => none
  | f + 1, x0, x1, x3, x5, x6, x7, h =>
  if x0 ≤ x5 then (
    if x6 < x1 then (
      some 0
    ) else (
      some 1
    )
  ) else (
    if 0 ≤ x6 then (
      bd ((x5 + x3)) fun x5_4 =>
      bd ((x6 + x7)) fun x6_5 =>
      bd ((x7 - 1)) fun x7_6 =>
      X12_isOver_10 F f x0 x1 x3 x5_4 x6_5 x7_6 h
    ) else (
      some 0
    )
  )
def X12_isOver (F : Nat) (x0 : Int32) (x1 : Int32) (x2 : Int32) (x3 : Int32) (x4 : Int32) (h : Hp) : Option Int32 :=
  X12_isOver_10 F F x0 x1 x3 0 x2 x4 h
def X12_ball (F : Nat) (a0 : Nat) (x1 : Int32) (x2 : Int32) (x3 : Int32) (x4 : Int32) (x5 : Int32) (h : Hp) : Option Int32 :=
  (X12_in F x1 1 200 h).bind fun c_1 =>
  if c_1 = 0 then (
    some (-1)
  ) else (
    (X12_in F x2 0 99 h).bind fun c_4 =>
    if c_4 = 0 then (
      some (-1)
    ) else (
      (X12_in F x3 0 99 h).bind fun c_7 =>
      if c_7 = 0 then (
        some (-1)
      ) else (
        (X12_in F x4 1 20 h).bind fun c_10 =>
        if c_10 = 0 then (
          some (-1)
        ) else (
          (X12_in F x5 0 20 h).bind fun c_13 =>
          if c_13 = 0 then (
            some (-1)
          ) else (
            (X12_isOver F x1 x2 x3 x4 x5 h).bind fun c_16 =>
            if c_16 = 0 then (
              some 0
            ) else (
              some 1
            )
          )
        )
      )
    )
  )
def X12_leastSpeed_47 (F : Nat) : Nat → Int32 → Int32 → Int32 → Int32 → Int32 → Hp → Option Int32
  | 0, _, _, _, _, _, _ => none
  | f + 1, x1, x2, x3, x4, x5, h =>
  if 20 < x5 then (
    some (-2)
  ) else (
    (X12_isOver F x1 x2 x3 x5 x4 h).bind fun c_2 =>
    if c_2 = 0 then (
      bd (x5 + 1) fun x5_5 =>
      X12_leastSpeed_47 F f x1 x2 x3 x4 x5_5 h
    ) else (
      some x5
    )
  )
def X12_leastSpeed (F : Nat) (a0 : Nat) (x1 : Int32) (x2 : Int32) (x3 : Int32) (x4 : Int32) (h : Hp) : Option Int32 :=
  (X12_in F x1 1 200 h).bind fun c_1 =>
  if c_1 = 0 then (
    some (-1)
  ) else (
    (X12_in F x2 0 99 h).bind fun c_4 =>
    if c_4 = 0 then (
      some (-1)
    ) else (
      (X12_in F x3 0 99 h).bind fun c_7 =>
      if c_7 = 0 then (
        some (-1)
      ) else (
        (X12_in F x4 0 20 h).bind fun c_10 =>
        if c_10 = 0 then (
          some (-1)
        ) else (
          X12_leastSpeed_47 F F x1 x2 x3 x4 1 h
        )
      )
    )
  )
def X12_piles_213 (F : Nat) (k58 : Nat → Int32 → Int32 → Int32 → Int32 → Int32 → Hp → Option (Int32 × Hp)) (a0 : Nat) (x1 : Int32) (x2 : Int32) (x3 : Int32) (x4 : Int32) (x5 : Int32) (h : Hp) : Option (Int32 × Hp) :=
  bd (x5 + 1) fun x5_1 =>
  k58 a0 x1 x2 x3 x4 x5_1 h
def X12_piles_209 (F : Nat) (k58 : Nat → Int32 → Int32 → Int32 → Int32 → Int32 → Hp → Option (Int32 × Hp)) (a0 : Nat) (x1 : Int32) (x2 : Int32) (x3 : Int32) (x5 : Int32) (h : Hp) : Option (Int32 × Hp) :=
  X12_piles_213 F k58 a0 x1 x2 x3 x5 x5 h
def X12_piles_159 (F : Nat) (k58 : Nat → Int32 → Int32 → Int32 → Int32 → Int32 → Hp → Option (Int32 × Hp)) (k121 : Nat → Int32 → Int32 → Int32 → Int32 → Int32 → Int32 → Int32 → Hp → Option (Int32 × Hp)) (a0 : Nat) (x1 : Int32) (x2 : Int32) (x3 : Int32) (x4 : Int32) (x5 : Int32) (x6 : Int32) (x7 : Int32) (h : Hp) : Option (Int32 × Hp) :=
  bd (x7 + 1) fun x7_1 =>
  k121 a0 x1 x2 x3 x4 x5 x6 x7_1 h
def X12_piles_121 (F : Nat) (k58 : Nat → Int32 → Int32 → Int32 → Int32 → Int32 → Hp → Option (Int32 × Hp)) : Nat → Nat → Int32 → Int32 → Int32 → Int32 → Int32 → Int32 → Int32 → Hp → Option (Int32 × Hp)
  | 0, _, _, _, _, _, _, _, _, _ => none
  | f + 1, a0, x1, x2, x3, x4, x5, x6, x7, h =>
  if x5 ≤ x7 then (
    gq (kd a0 = (0, 11)) <|
    (h.2 a0 42).bind fun j_3 =>
    gq ((kd j_3).1 = 1) <|
    gq (inb x5 (kd j_3).2) <|
    if 100000000 ≤ (h.1 j_3 (ix x5)) then (
      X12_piles_213 F k58 a0 x1 x2 x3 x4 x5 h
    ) else (
      if x2 < (x1 - x5) then (
        X12_piles_213 F k58 a0 x1 x2 x3 x4 x5 h
      ) else (
        if x4 = (-1) then (
          X12_piles_209 F k58 a0 x1 x2 x3 x5 h
        ) else (
          gq (inb x5 (kd j_3).2) <|
          gq (inb x4 (kd j_3).2) <|
          if (h.1 j_3 (ix x4)) ≤ (h.1 j_3 (ix x5)) then (
            X12_piles_213 F k58 a0 x1 x2 x3 x4 x5 h
          ) else (
            X12_piles_209 F k58 a0 x1 x2 x3 x5 h
          )
        )
      )
    )
  ) else (
    if x6 = 0 then (
      X12_piles_159 F k58 (X12_piles_121 F k58 f) a0 x1 x2 x3 x4 x5 x6 x7 h
    ) else (
      gq (kd a0 = (0, 11)) <|
      (h.2 a0 42).bind fun j_14 =>
      gq ((kd j_14).1 = 1) <|
      gq (inb x5 (kd j_14).2) <|
      gq (inb x7 (kd j_14).2) <|
      (X12_min F (h.1 j_14 (ix x5)) ((h.1 j_14 (ix x7)) + 1) h).bind fun c_18 =>
      gq (inb x5 (kd j_14).2) <|
      bd (up h j_14 (ix x5) c_18) fun h_21 =>
      X12_piles_159 F k58 (X12_piles_121 F k58 f) a0 x1 x2 x3 x4 x5 x6 x7 h_21
    )
  )
def X12_piles_109 (F : Nat) (k58 : Nat → Int32 → Int32 → Int32 → Int32 → Int32 → Hp → Option (Int32 × Hp)) (a0 : Nat) (x1 : Int32) (x2 : Int32) (x3 : Int32) (x4 : Int32) (x5 : Int32) (s0 : Int32) (h : Hp) : Option (Int32 × Hp) :=
  (X12_max F 0 (x5 - x2) h).bind fun c_1 =>
  X12_piles_121 F k58 F a0 x1 x2 x3 x4 x5 s0 c_1 h
def X12_piles_108 (F : Nat) (k58 : Nat → Int32 → Int32 → Int32 → Int32 → Int32 → Hp → Option (Int32 × Hp)) (a0 : Nat) (x1 : Int32) (x2 : Int32) (x3 : Int32) (x4 : Int32) (x5 : Int32) (h : Hp) : Option (Int32 × Hp) :=
  X12_piles_109 F k58 a0 x1 x2 x3 x4 x5 0 h
def X12_piles_79 (F : Nat) (k58 : Nat → Int32 → Int32 → Int32 → Int32 → Int32 → Hp → Option (Int32 × Hp)) (a0 : Nat) (x1 : Int32) (x2 : Int32) (x3 : Int32) (x4 : Int32) (x5 : Int32) (h : Hp) : Option (Int32 × Hp) :=
  if x5 ≤ 0 then (
    X12_piles_108 F k58 a0 x1 x2 x3 x4 x5 h
  ) else (
    gq (kd a0 = (0, 11)) <|
    (X12_octet F a0 (x5 / 8) h).bind fun c_3 =>
    (X12_has F c_3 (irm x5 8) h).bind fun c_5 =>
    if c_5 = 0 then (
      X12_piles_108 F k58 a0 x1 x2 x3 x4 x5 h
    ) else (
      X12_piles_109 F k58 a0 x1 x2 x3 x4 x5 1 h
    )
  )
def X12_piles_58 (F : Nat) : Nat → Nat → Int32 → Int32 → Int32 → Int32 → Int32 → Hp → Option (Int32 × Hp)
  | 0, _, _, _, _, _, _, _ => none
  | f + 1, a0, x1, x2, x3, x4, x5, h =>
  if x1 ≤ x5 then (
    if x4 = (-1) then (
      some ((-2), h)
    ) else (
      if x3 = 0 then (
        gq (kd a0 = (0, 11)) <|
        (h.2 a0 42).bind fun j_5 =>
        gq ((kd j_5).1 = 1) <|
        gq (inb x4 (kd j_5).2) <|
        some ((h.1 j_5 (ix x4)), h)
      ) else (
        some (x4, h)
      )
    )
  ) else (
    if x5 ≤ 0 then (
      X12_piles_79 F (X12_piles_58 F f) a0 x1 x2 x3 x4 x5 h
    ) else (
      gq (kd a0 = (0, 11)) <|
      (h.2 a0 42).bind fun j_10 =>
      gq ((kd j_10).1 = 1) <|
      gq (inb x5 (kd j_10).2) <|
      bd (up h j_10 (ix x5) 100000000) fun h_13 =>
      X12_piles_79 F (X12_piles_58 F f) a0 x1 x2 x3 x4 x5 h_13
    )
  )
def X12_piles (F : Nat) (a0 : Nat) (x1 : Int32) (x2 : Int32) (x3 : Int32) (h : Hp) : Option (Int32 × Hp) :=
  (X12_in F x1 1 60 h).bind fun c_1 =>
  if c_1 = 0 then (
    some ((-1), h)
  ) else (
    (X12_in F x2 1 60 h).bind fun c_4 =>
    if c_4 = 0 then (
      some ((-1), h)
    ) else (
      (X12_in F x3 0 1 h).bind fun c_7 =>
      if c_7 = 0 then (
        some ((-1), h)
      ) else (
        gq (kd a0 = (0, 11)) <|
        if 8 ≤ (h.1 a0 7) then (
          bd (up h a0 7 0) fun h_12 =>
          (h_12.2 a0 42).bind fun j_13 =>
          gq ((kd j_13).1 = 1) <|
          gq (inb 0 (kd j_13).2) <|
          bd (up h_12 j_13 (ix 0) 0) fun h_16 =>
          X12_piles_58 F F a0 x1 x2 x3 (-1) 0 h_16
        ) else (
          some ((-1), h)
        )
      )
    )
  )
def X12_isAllLit_55 (F : Nat) (k3 : Int32 → Int32 → Int32 → Int32 → Hp → Option Int32) (x1 : Int32) (x2 : Int32) (x3 : Int32) (x4 : Int32) (x5 : Int32) (h : Hp) : Option Int32 :=
  if x5 = 0 then (
    some 0
  ) else (
    bd (x4 + 1) fun x4_2 =>
    k3 x1 x2 x3 x4_2 h
  )
def X12_isAllLit_49 (F : Nat) (k3 : Int32 → Int32 → Int32 → Int32 → Hp → Option Int32) (k22 : Int32 → Int32 → Int32 → Int32 → Int32 → Int32 → Hp → Option Int32) (x1 : Int32) (x2 : Int32) (x3 : Int32) (x4 : Int32) (x5 : Int32) (x6 : Int32) (h : Hp) : Option Int32 :=
  bd (x6 + 1) fun x6_1 =>
  k22 x1 x2 x3 x4 x5 x6_1 h
def X12_isAllLit_22 (F : Nat) (k3 : Int32 → Int32 → Int32 → Int32 → Hp → Option Int32) : Nat → Int32 → Int32 → Int32 → Int32 → Int32 → Int32 → Hp → Option Int32
  | 0, _, _, _, _, _, _, _ => none
  | f + 1, x1, x2, x3, x4, x5, x6, h =>
  if x1 ≤ x6 then (
    X12_isAllLit_55 F k3 x1 x2 x3 x4 x5 h
  ) else (
    if (x4 + x2) < x6 then (
      X12_isAllLit_55 F k3 x1 x2 x3 x4 x5 h
    ) else (
      (X12_has F x3 x6 h).bind fun c_3 =>
      if c_3 = 0 then (
        X12_isAllLit_49 F k3 (X12_isAllLit_22 F k3 f) x1 x2 x3 x4 x5 x6 h
      ) else (
        X12_isAllLit_49 F k3 (X12_isAllLit_22 F k3 f) x1 x2 x3 x4 1 x6 h
      )
    )
  )
def X12_isAllLit_3 (F : Nat) : Nat → Int32 → Int32 → Int32 → Int32 → Hp → Option Int32
  | 0, _, _, _, _, _ => none
  | f + 1, x1, x2, x3, x4, h =>
  if x1 ≤ x4 then (
    some 1
  ) else (
    (X12_max F 0 (x4 - x2) h).bind fun c_2 =>
    X12_isAllLit_22 F (X12_isAllLit_3 F f) F x1 x2 x3 x4 0 c_2 h
  )
def X12_isAllLit (F : Nat) (a0 : Nat) (x1 : Int32) (x2 : Int32) (x3 : Int32) (h : Hp) : Option Int32 :=
  X12_isAllLit_3 F F x1 x2 x3 0 h
def X12_lamps_140 (F : Nat) (k85 : Nat → Int32 → Int32 → Int32 → Int32 → Int32 → Int32 → Hp → Option (Int32 × Hp)) (a0 : Nat) (x1 : Int32) (x2 : Int32) (x3 : Int32) (x4 : Int32) (x5 : Int32) (x6 : Int32) (h : Hp) : Option (Int32 × Hp) :=
  bd (x6 + 1) fun x6_1 =>
  k85 a0 x1 x2 x3 x4 x5 x6_1 h
def X12_lamps_122 (F : Nat) (k85 : Nat → Int32 → Int32 → Int32 → Int32 → Int32 → Int32 → Hp → Option (Int32 × Hp)) (a0 : Nat) (x1 : Int32) (x2 : Int32) (x3 : Int32) (x4 : Int32) (x5 : Int32) (x6 : Int32) (h : Hp) : Option (Int32 × Hp) :=
  gq (kd a0 = (0, 11)) <|
  (X12_isAllLit F a0 x1 x2 x6 h).bind fun c_2 =>
  if c_2 = 0 then (
    X12_lamps_140 F k85 a0 x1 x2 x3 x4 x5 x6 h
  ) else (
    X12_lamps_140 F k85 a0 x1 x2 x3 x4 x6 x6 h
  )
def X12_lamps_85 (F : Nat) : Nat → Nat → Int32 → Int32 → Int32 → Int32 → Int32 → Int32 → Hp → Option (Int32 × Hp)
  | 0, _, _, _, _, _, _, _, _ => none
  | f + 1, a0, x1, x2, x3, x4, x5, x6, h =>
  if (1 <<< (x1 &&& 31)) ≤ x6 then (
    if x5 = (-1) then (
      some ((-2), h)
    ) else (
      if x3 = 0 then (
        (X12_bits F x5 h).bind fun c_4 =>
        some (c_4, h)
      ) else (
        some (x5, h)
      )
    )
  ) else (
    if (x6 &&& (x4 ^^^ (-1))) = 0 then (
      if x5 = (-1) then (
        X12_lamps_122 F (X12_lamps_85 F f) a0 x1 x2 x3 x4 x5 x6 h
      ) else (
        (X12_bits F x6 h).bind fun c_8 =>
        (X12_bits F x5 h).bind fun c_10 =>
        if c_10 ≤ c_8 then (
          X12_lamps_140 F (X12_lamps_85 F f) a0 x1 x2 x3 x4 x5 x6 h
        ) else (
          X12_lamps_122 F (X12_lamps_85 F f) a0 x1 x2 x3 x4 x5 x6 h
        )
      )
    ) else (
      X12_lamps_140 F (X12_lamps_85 F f) a0 x1 x2 x3 x4 x5 x6 h
    )
  )
def X12_lamps_73 (F : Nat) (k49 : Nat → Int32 → Int32 → Int32 → Int32 → Int32 → Hp → Option (Int32 × Hp)) (a0 : Nat) (x1 : Int32) (x2 : Int32) (x3 : Int32) (x4 : Int32) (x5 : Int32) (h : Hp) : Option (Int32 × Hp) :=
  bd (x5 + 1) fun x5_1 =>
  k49 a0 x1 x2 x3 x4 x5_1 h
def X12_lamps_49 (F : Nat) : Nat → Nat → Int32 → Int32 → Int32 → Int32 → Int32 → Hp → Option (Int32 × Hp)
  | 0, _, _, _, _, _, _, _ => none
  | f + 1, a0, x1, x2, x3, x4, x5, h =>
  if x1 ≤ x5 then (
    X12_lamps_85 F F a0 x1 x2 x3 x4 (-1) 1 h
  ) else (
    gq (kd a0 = (0, 11)) <|
    (X12_octet F a0 x5 h).bind fun c_3 =>
    if c_3 = 0 then (
      X12_lamps_73 F (X12_lamps_49 F f) a0 x1 x2 x3 x4 x5 h
    ) else (
      bd ((x4 ||| (1 <<< (x5 &&& 31)))) fun x4_6 =>
      X12_lamps_73 F (X12_lamps_49 F f) a0 x1 x2 x3 x4_6 x5 h
    )
  )
def X12_lamps (F : Nat) (a0 : Nat) (x1 : Int32) (x2 : Int32) (x3 : Int32) (h : Hp) : Option (Int32 × Hp) :=
  (X12_in F x1 1 12 h).bind fun c_1 =>
  if c_1 = 0 then (
    some ((-1), h)
  ) else (
    (X12_in F x2 0 5 h).bind fun c_4 =>
    if c_4 = 0 then (
      some ((-1), h)
    ) else (
      (X12_in F x3 0 1 h).bind fun c_7 =>
      if c_7 = 0 then (
        some ((-1), h)
      ) else (
        gq (kd a0 = (0, 11)) <|
        if x1 ≤ (h.1 a0 7) then (
          bd (up h a0 7 0) fun h_12 =>
          X12_lamps_49 F F a0 x1 x2 x3 0 0 h_12
        ) else (
          some ((-1), h)
        )
      )
    )
  )
def X12_claims_235 (F : Nat) (k124 : Nat → Int32 → Int32 → Int32 → Int32 → Int32 → Int32 → Int32 → Hp → Option (Int32 × Hp)) (a0 : Nat) (x1 : Int32) (x2 : Int32) (x4 : Int32) (x5 : Int32) (x6 : Int32) (x7 : Int32) (x8 : Int32) (x9 : Int32) (x10 : Int32) (h : Hp) : Option (Int32 × Hp) :=
  (X12_max F x7 (x9 + x10) h).bind fun c_1 =>
  bd (x8 + 1) fun x8_3 =>
  k124 a0 x1 x2 x4 x5 x6 c_1 x8_3 h
def X12_claims_221 (F : Nat) (k124 : Nat → Int32 → Int32 → Int32 → Int32 → Int32 → Int32 → Int32 → Hp → Option (Int32 × Hp)) (a0 : Nat) (x1 : Int32) (x2 : Int32) (x4 : Int32) (x5 : Int32) (x6 : Int32) (x7 : Int32) (x8 : Int32) (x9 : Int32) (x10 : Int32) (h : Hp) : Option (Int32 × Hp) :=
  if (x9 + x10) = 0 then (
    bd ((x6 + 1)) fun x6_2 =>
    X12_claims_235 F k124 a0 x1 x2 x4 x5 x6_2 x7 x8 x9 x10 h
  ) else (
    X12_claims_235 F k124 a0 x1 x2 x4 x5 x6 x7 x8 x9 x10 h
  )
def X12_claims_199 (F : Nat) (k124 : Nat → Int32 → Int32 → Int32 → Int32 → Int32 → Int32 → Int32 → Hp → Option (Int32 × Hp)) (k140 : Nat → Int32 → Int32 → Int32 → Int32 → Int32 → Int32 → Int32 → Int32 → Int32 → Int32 → Hp → Option (Int32 × Hp)) (a0 : Nat) (x1 : Int32) (x2 : Int32) (x4 : Int32) (x5 : Int32) (x6 : Int32) (x7 : Int32) (x8 : Int32) (x9 : Int32) (x10 : Int32) (x11 : Int32) (h : Hp) : Option (Int32 × Hp) :=
  bd (x11 + 1) fun x11_1 =>
  k140 a0 x1 x2 x4 x5 x6 x7 x8 x9 x10 x11_1 h
def X12_claims_140 (F : Nat) (k124 : Nat → Int32 → Int32 → Int32 → Int32 → Int32 → Int32 → Int32 → Hp → Option (Int32 × Hp)) : Nat → Nat → Int32 → Int32 → Int32 → Int32 → Int32 → Int32 → Int32 → Int32 → Int32 → Int32 → Hp → Option (Int32 × Hp)
  | 0, _, _, _, _, _, _, _, _, _, _, _, _ => none
  | f + 1, a0, x1, x2, x4, x5, x6, x7, x8, x9, x10, x11, h =>
  if x1 ≤ x11 then (
    if x9 ≤ 0 then (
      X12_claims_221 F k124 a0 x1 x2 x4 x5 x6 x7 x8 x9 x10 h
    ) else (
      if x10 ≤ 0 then (
        X12_claims_221 F k124 a0 x1 x2 x4 x5 x6 x7 x8 x9 x10 h
      ) else (
        bd ((x5 + 1)) fun x5_4 =>
        X12_claims_221 F k124 a0 x1 x2 x4 x5_4 x6 x7 x8 x9 x10 h
      )
    )
  ) else (
    gq (kd a0 = (0, 11)) <|
    (X12_octet F a0 (2 * x11) h).bind fun c_6 =>
    if x8 < c_6 then (
      X12_claims_199 F k124 (X12_claims_140 F k124 f) a0 x1 x2 x4 x5 x6 x7 x8 x9 x10 x11 h
    ) else (
      (X12_octet F a0 ((2 * x11) + 1) h).bind fun c_9 =>
      if x8 < c_9 then (
        if (irm x11 2) = 0 then (
          bd ((x9 + 1)) fun x9_14 =>
          X12_claims_199 F k124 (X12_claims_140 F k124 f) a0 x1 x2 x4 x5 x6 x7 x8 x9_14 x10 x11 h
        ) else (
          bd ((x10 + 1)) fun x10_13 =>
          X12_claims_199 F k124 (X12_claims_140 F k124 f) a0 x1 x2 x4 x5 x6 x7 x8 x9 x10_13 x11 h
        )
      ) else (
        X12_claims_199 F k124 (X12_claims_140 F k124 f) a0 x1 x2 x4 x5 x6 x7 x8 x9 x10 x11 h
      )
    )
  )
def X12_claims_124 (F : Nat) : Nat → Nat → Int32 → Int32 → Int32 → Int32 → Int32 → Int32 → Int32 → Hp → Option (Int32 × Hp)
  | 0, _, _, _, _, _, _, _, _, _ => none
  | f + 1, a0, x1, x2, x4, x5, x6, x7, x8, h =>
  if x4 ≤ x8 then (
    if x2 = 0 then (
      some (x5, h)
    ) else (
      if x2 = 1 then (
        some (x6, h)
      ) else (
        some (x7, h)
      )
    )
  ) else (
    X12_claims_140 F (X12_claims_124 F f) F a0 x1 x2 x4 x5 x6 x7 x8 0 0 0 h
  )
def X12_claims_46 (F : Nat) : Nat → Nat → Int32 → Int32 → Int32 → Int32 → Int32 → Hp → Option (Int32 × Hp)
  | 0, _, _, _, _, _, _, _ => none
  | f + 1, a0, x1, x2, x3, x4, x5, h =>
  if x1 ≤ x5 then (
    X12_claims_124 F F a0 x1 x2 x4 0 0 0 x3 h
  ) else (
    gq (kd a0 = (0, 11)) <|
    (X12_octet F a0 (2 * x5) h).bind fun c_3 =>
    (X12_octet F a0 ((2 * x5) + 1) h).bind fun c_5 =>
    if c_3 < c_5 then (
      (X12_octet F a0 (2 * x5) h).bind fun c_8 =>
      (X12_min F x3 c_8 h).bind fun c_10 =>
      (X12_octet F a0 ((2 * x5) + 1) h).bind fun c_12 =>
      (X12_max F x4 c_12 h).bind fun c_14 =>
      bd (x5 + 1) fun x5_16 =>
      X12_claims_46 F f a0 x1 x2 c_10 c_14 x5_16 h
    ) else (
      some ((-2), h)
    )
  )
def X12_claims (F : Nat) (a0 : Nat) (x1 : Int32) (x2 : Int32) (h : Hp) : Option (Int32 × Hp) :=
  (X12_in F x1 1 10 h).bind fun c_1 =>
  if c_1 = 0 then (
    some ((-1), h)
  ) else (
    (X12_in F x2 0 2 h).bind fun c_4 =>
    if c_4 = 0 then (
      some ((-1), h)
    ) else (
      gq (kd a0 = (0, 11)) <|
      if (2 * x1) ≤ (h.1 a0 7) then (
        bd (up h a0 7 0) fun h_9 =>
        X12_claims_46 F F a0 x1 x2 255 0 0 h_9
      ) else (
        some ((-1), h)
      )
    )
  )
def X12_sorts_50 (F : Nat) (k2 : Nat → Int32 → Int32 → Hp → Option Hp) (a0 : Nat) (x1 : Int32) (x2 : Int32) (x3 : Int32) (h : Hp) : Option Hp :=
  gq (kd a0 = (0, 11)) <|
  (h.2 a0 43).bind fun j_2 =>
  (X12_octet F a0 x2 h).bind fun c_3 =>
  gq ((kd j_2).1 = 1) <|
  gq (inb x3 (kd j_2).2) <|
  bd (up h j_2 (ix x3) c_3) fun h_7 =>
  bd (x2 + 1) fun x2_8 =>
  k2 a0 x1 x2_8 h_7
def X12_sorts_9 (F : Nat) (k2 : Nat → Int32 → Int32 → Hp → Option Hp) : Nat → Nat → Int32 → Int32 → Int32 → Hp → Option Hp
  | 0, _, _, _, _, _ => none
  | f + 1, a0, x1, x2, x3, h =>
  if x3 ≤ 0 then (
    X12_sorts_50 F k2 a0 x1 x2 x3 h
  ) else (
    gq (kd a0 = (0, 11)) <|
    (h.2 a0 43).bind fun j_3 =>
    gq ((kd j_3).1 = 1) <|
    gq (inb (x3 - 1) (kd j_3).2) <|
    (X12_octet F a0 x2 h).bind fun c_6 =>
    if (h.1 j_3 (ix (x3 - 1))) ≤ c_6 then (
      X12_sorts_50 F k2 a0 x1 x2 x3 h
    ) else (
      gq (inb (x3 - 1) (kd j_3).2) <|
      gq (inb x3 (kd j_3).2) <|
      bd (up h j_3 (ix x3) (h.1 j_3 (ix (x3 - 1)))) fun h_11 =>
      bd ((x3 - 1)) fun x3_12 =>
      X12_sorts_9 F k2 f a0 x1 x2 x3_12 h_11
    )
  )
def X12_sorts_2 (F : Nat) : Nat → Nat → Int32 → Int32 → Hp → Option Hp
  | 0, _, _, _, _ => none
  | f + 1, a0, x1, x2, h =>
  if x1 ≤ x2 then (
    some h
  ) else (
    X12_sorts_9 F (X12_sorts_2 F f) F a0 x1 x2 x2 h
  )
def X12_sorts (F : Nat) (a0 : Nat) (x1 : Int32) (h : Hp) : Option Hp :=
  X12_sorts_2 F F a0 x1 0 h
def X12_rowed_34 (F : Nat) : Nat → Nat → Int32 → Int32 → Hp → Option (Int32 × Hp)
  | 0, _, _, _, _ => none
  | f + 1, a0, x2, x3, h =>
  if x2 ≤ 3 then (
    if x2 = 3 then (
      gq (kd a0 = (0, 11)) <|
      (h.2 a0 43).bind fun j_8 =>
      gq ((kd j_8).1 = 1) <|
      gq (inb 0 (kd j_8).2) <|
      gq (inb 1 (kd j_8).2) <|
      gq (inb 2 (kd j_8).2) <|
      some ((((x3 + (h.1 j_8 (ix 0))) + (h.1 j_8 (ix 1))) + (h.1 j_8 (ix 2))), h)
    ) else (
      gq (kd a0 = (0, 11)) <|
      (h.2 a0 43).bind fun j_4 =>
      gq ((kd j_4).1 = 1) <|
      gq (inb (x2 - 1) (kd j_4).2) <|
      some ((x3 + (h.1 j_4 (ix (x2 - 1)))), h)
    )
  ) else (
    gq (kd a0 = (0, 11)) <|
    (h.2 a0 43).bind fun j_14 =>
    gq ((kd j_14).1 = 1) <|
    gq (inb 0 (kd j_14).2) <|
    gq (inb (x2 - 2) (kd j_14).2) <|
    gq (inb (x2 - 1) (kd j_14).2) <|
    bd ((((2 * (h.1 j_14 (ix 0))) + (h.1 j_14 (ix (x2 - 2)))) + (h.1 j_14 (ix (x2 - 1))))) fun x4_19 =>
    gq (inb 0 (kd j_14).2) <|
    gq (inb 1 (kd j_14).2) <|
    gq (inb (x2 - 1) (kd j_14).2) <|
    bd ((((h.1 j_14 (ix 0)) + (2 * (h.1 j_14 (ix 1)))) + (h.1 j_14 (ix (x2 - 1))))) fun x5_23 =>
    (X12_min F x4_19 x5_23 h).bind fun c_24 =>
    bd ((x3 + c_24)) fun x3_26 =>
    bd ((x2 - 2)) fun x2_27 =>
    X12_rowed_34 F f a0 x2_27 x3_26 h
  )
def X12_rowed (F : Nat) (a0 : Nat) (x1 : Int32) (h : Hp) : Option (Int32 × Hp) :=
  (X12_in F x1 1 10 h).bind fun c_1 =>
  if c_1 = 0 then (
    some ((-1), h)
  ) else (
    gq (kd a0 = (0, 11)) <|
    if x1 ≤ (h.1 a0 7) then (
      bd (up h a0 7 0) fun h_6 =>
      (X12_sorts F a0 x1 h_6).bind fun h_8 =>
      X12_rowed_34 F F a0 x1 0 h_8
    ) else (
      some ((-1), h)
    )
  )
def X12_isOnceEach_5 (F : Nat) : Nat → Nat → Int32 → Int32 → Int32 → Int32 → Hp → Option Int32
  | 0, _, _, _, _, _, _ => none
  | f + 1, a0, x1, x2, x3, x4, h =>
  if x2 ≤ x4 then (
    some 1
  ) else (
    gq (kd a0 = (0, 11)) <|
    (X12_octet F a0 (x1 + x4) h).bind fun c_3 =>
    if x2 ≤ c_3 then (
      some 0
    ) else (
      (X12_has F x3 c_3 h).bind fun c_6 =>
      if c_6 = 0 then (
        bd ((x3 ||| (1 <<< (c_3 &&& 31)))) fun x3_9 =>
        bd (x4 + 1) fun x4_10 =>
        X12_isOnceEach_5 F f a0 x1 x2 x3_9 x4_10 h
      ) else (
        some 0
      )
    )
  )
def X12_isOnceEach (F : Nat) (a0 : Nat) (x1 : Int32) (x2 : Int32) (h : Hp) : Option Int32 :=
  X12_isOnceEach_5 F F a0 x1 x2 0 0 h
def X12_likes_3 (F : Nat) : Nat → Nat → Int32 → Int32 → Int32 → Int32 → Hp → Option Int32
  | 0, _, _, _, _, _, _ => none
  | f + 1, a0, x1, x2, x3, x4, h =>
  gq (kd a0 = (0, 11)) <|
  (X12_octet F a0 (((x3 * x3) + (x3 * x1)) + x4) h).bind fun c_2 =>
  if c_2 = x2 then (
    some x4
  ) else (
    bd ((x4 + 1)) fun x4_5 =>
    X12_likes_3 F f a0 x1 x2 x3 x4_5 h
  )
def X12_likes (F : Nat) (a0 : Nat) (x1 : Int32) (x2 : Int32) (x3 : Int32) (h : Hp) : Option Int32 :=
  X12_likes_3 F F a0 x1 x2 x3 0 h
def X12_whoAsks_31 (F : Nat) (k2 : Nat → Int32 → Int32 → Hp → Option Int32) (k12 : Nat → Int32 → Int32 → Int32 → Int32 → Hp → Option Int32) (a0 : Nat) (x1 : Int32) (x2 : Int32) (x3 : Int32) (x4 : Int32) (h : Hp) : Option Int32 :=
  bd (x4 + 1) fun x4_1 =>
  k12 a0 x1 x2 x3 x4_1 h
def X12_whoAsks_12 (F : Nat) (k2 : Nat → Int32 → Int32 → Hp → Option Int32) : Nat → Nat → Int32 → Int32 → Int32 → Int32 → Hp → Option Int32
  | 0, _, _, _, _, _, _ => none
  | f + 1, a0, x1, x2, x3, x4, h =>
  if x1 ≤ x4 then (
    if x3 = 0 then (
      some x2
    ) else (
      bd (x2 + 1) fun x2_3 =>
      k2 a0 x1 x2_3 h
    )
  ) else (
    gq (kd a0 = (0, 11)) <|
    (h.2 a0 44).bind fun j_5 =>
    gq ((kd j_5).1 = 1) <|
    gq (inb x4 (kd j_5).2) <|
    if (h.1 j_5 (ix x4)) = x2 then (
      X12_whoAsks_31 F k2 (X12_whoAsks_12 F k2 f) a0 x1 x2 1 x4 h
    ) else (
      X12_whoAsks_31 F k2 (X12_whoAsks_12 F k2 f) a0 x1 x2 x3 x4 h
    )
  )
def X12_whoAsks_2 (F : Nat) : Nat → Nat → Int32 → Int32 → Hp → Option Int32
  | 0, _, _, _, _ => none
  | f + 1, a0, x1, x2, h =>
  if x1 ≤ x2 then (
    some (-1)
  ) else (
    X12_whoAsks_12 F (X12_whoAsks_2 F f) F a0 x1 x2 0 0 h
  )
def X12_whoAsks (F : Nat) (a0 : Nat) (x1 : Int32) (h : Hp) : Option Int32 :=
  X12_whoAsks_2 F F a0 x1 0 h
def X12_wed_192 (F : Nat) : Nat → Nat → Int32 → Int32 → Hp → Option (Int32 × Hp)
  | 0, _, _, _, _ => none
  | f + 1, a0, x2, x4, h =>
  gq (kd a0 = (0, 11)) <|
  (h.2 a0 44).bind fun j_2 =>
  gq ((kd j_2).1 = 1) <|
  gq (inb x4 (kd j_2).2) <|
  if (h.1 j_2 (ix x4)) = x2 then (
    some (x4, h)
  ) else (
    bd ((x4 + 1)) fun x4_6 =>
    X12_wed_192 F f a0 x2 x4_6 h
  )
def X12_wed_180 (F : Nat) (k101 : Nat → Int32 → Int32 → Int32 → Hp → Option (Int32 × Hp)) (a0 : Nat) (x1 : Int32) (x2 : Int32) (h : Hp) : Option (Int32 × Hp) :=
  gq (kd a0 = (0, 11)) <|
  (X12_whoAsks F a0 x1 h).bind fun c_2 =>
  k101 a0 x1 x2 c_2 h
def X12_wed_172 (F : Nat) (k101 : Nat → Int32 → Int32 → Int32 → Hp → Option (Int32 × Hp)) (a0 : Nat) (x1 : Int32) (x2 : Int32) (x3 : Int32) (x4 : Int32) (h : Hp) : Option (Int32 × Hp) :=
  gq (kd a0 = (0, 11)) <|
  (h.2 a0 44).bind fun j_2 =>
  gq ((kd j_2).1 = 1) <|
  gq (inb x4 (kd j_2).2) <|
  bd (up h j_2 (ix x4) x3) fun h_5 =>
  X12_wed_180 F k101 a0 x1 x2 h_5
def X12_wed_101 (F : Nat) : Nat → Nat → Int32 → Int32 → Int32 → Hp → Option (Int32 × Hp)
  | 0, _, _, _, _, _ => none
  | f + 1, a0, x1, x2, x3, h =>
  if x3 = (-1) then (
    X12_wed_192 F F a0 x2 0 h
  ) else (
    gq (kd a0 = (0, 11)) <|
    (h.2 a0 45).bind fun j_3 =>
    gq ((kd j_3).1 = 1) <|
    gq (inb x3 (kd j_3).2) <|
    (X12_octet F a0 ((x1 * x3) + (h.1 j_3 (ix x3))) h).bind fun c_6 =>
    gq (inb x3 (kd j_3).2) <|
    gq (inb x3 (kd j_3).2) <|
    bd (up h j_3 (ix x3) ((h.1 j_3 (ix x3)) + 1)) fun h_10 =>
    (h_10.2 a0 44).bind fun j_11 =>
    gq ((kd j_11).1 = 1) <|
    gq (inb c_6 (kd j_11).2) <|
    if (h_10.1 j_11 (ix c_6)) = (-1) then (
      X12_wed_172 F (X12_wed_101 F f) a0 x1 x2 x3 c_6 h_10
    ) else (
      (X12_likes F a0 c_6 x3 x1 h_10).bind fun c_15 =>
      gq (inb c_6 (kd j_11).2) <|
      (X12_likes F a0 c_6 (h_10.1 j_11 (ix c_6)) x1 h_10).bind fun c_18 =>
      if c_18 ≤ c_15 then (
        X12_wed_180 F (X12_wed_101 F f) a0 x1 x2 h_10
      ) else (
        X12_wed_172 F (X12_wed_101 F f) a0 x1 x2 x3 c_6 h_10
      )
    )
  )
def X12_wed_70 (F : Nat) : Nat → Nat → Int32 → Int32 → Int32 → Hp → Option (Int32 × Hp)
  | 0, _, _, _, _, _ => none
  | f + 1, a0, x1, x2, x3, h =>
  if x1 ≤ x3 then (
    gq (kd a0 = (0, 11)) <|
    (X12_whoAsks F a0 x1 h).bind fun c_3 =>
    X12_wed_101 F F a0 x1 x2 c_3 h
  ) else (
    gq (kd a0 = (0, 11)) <|
    (h.2 a0 44).bind fun j_6 =>
    gq ((kd j_6).1 = 1) <|
    gq (inb x3 (kd j_6).2) <|
    bd (up h j_6 (ix x3) (-1)) fun h_9 =>
    (h_9.2 a0 45).bind fun j_10 =>
    gq ((kd j_10).1 = 1) <|
    gq (inb x3 (kd j_10).2) <|
    bd (up h_9 j_10 (ix x3) 0) fun h_13 =>
    bd (x3 + 1) fun x3_14 =>
    X12_wed_70 F f a0 x1 x2 x3_14 h_13
  )
def X12_wed_41 (F : Nat) : Nat → Nat → Int32 → Int32 → Int32 → Hp → Option (Int32 × Hp)
  | 0, _, _, _, _, _ => none
  | f + 1, a0, x1, x2, x3, h =>
  if (2 * x1) ≤ x3 then (
    X12_wed_70 F F a0 x1 x2 0 h
  ) else (
    gq (kd a0 = (0, 11)) <|
    (X12_isOnceEach F a0 (x1 * x3) x1 h).bind fun c_3 =>
    if c_3 = 0 then (
      some ((-2), h)
    ) else (
      bd (x3 + 1) fun x3_6 =>
      X12_wed_41 F f a0 x1 x2 x3_6 h
    )
  )
def X12_wed (F : Nat) (a0 : Nat) (x1 : Int32) (x2 : Int32) (h : Hp) : Option (Int32 × Hp) :=
  (X12_in F x1 1 5 h).bind fun c_1 =>
  if c_1 = 0 then (
    some ((-1), h)
  ) else (
    (X12_in F x2 0 (x1 - 1) h).bind fun c_4 =>
    if c_4 = 0 then (
      some ((-1), h)
    ) else (
      gq (kd a0 = (0, 11)) <|
      if ((2 * x1) * x1) ≤ (h.1 a0 7) then (
        bd (up h a0 7 0) fun h_9 =>
        X12_wed_41 F F a0 x1 x2 0 h_9
      ) else (
        some ((-1), h)
      )
    )
  )
def X12_unfolds_5 (F : Nat) : Nat → Nat → Int32 → Int32 → Int32 → Hp → Option Hp
  | 0, _, _, _, _, _ => none
  | f + 1, a0, x2, x3, x4, h =>
  if x2 ≤ x4 then (
    some h
  ) else (
    gq (kd a0 = (0, 11)) <|
    (h.2 a0 48).bind fun j_3 =>
    gq ((kd j_3).1 = 1) <|
    gq (inb x4 (kd j_3).2) <|
    bd (up h j_3 (ix x4) (irm x3 6)) fun h_6 =>
    bd ((x3 / 6)) fun x3_7 =>
    bd (x4 + 1) fun x4_8 =>
    X12_unfolds_5 F f a0 x2 x3_7 x4_8 h_6
  )
def X12_unfolds (F : Nat) (a0 : Nat) (x1 : Int32) (x2 : Int32) (h : Hp) : Option Hp :=
  X12_unfolds_5 F F a0 x2 x1 0 h
def X12_changedBy_62 (F : Nat) (k15 : Nat → Int32 → Int32 → Int32 → Int32 → Hp → Option Int32) (a0 : Nat) (x1 : Int32) (x2 : Int32) (x3 : Int32) (x4 : Int32) (s0 : Int32) (h : Hp) : Option Int32 :=
  gq (kd a0 = (0, 11)) <|
  (h.2 a0 49).bind fun j_2 =>
  gq ((kd j_2).1 = 1) <|
  gq (inb x4 (kd j_2).2) <|
  (h.2 a0 48).bind fun j_5 =>
  gq ((kd j_5).1 = 1) <|
  gq (inb s0 (kd j_5).2) <|
  bd ((x3 + ((h.1 j_2 (ix x4)) * (h.1 j_5 (ix s0))))) fun x3_8 =>
  bd (x4 + 1) fun x4_9 =>
  k15 a0 x1 x2 x3_8 x4_9 h
def X12_changedBy_60 (F : Nat) (k15 : Nat → Int32 → Int32 → Int32 → Int32 → Hp → Option Int32) (a0 : Nat) (x1 : Int32) (x2 : Int32) (x3 : Int32) (x4 : Int32) (h : Hp) : Option Int32 :=
  X12_changedBy_62 F k15 a0 x1 x2 x3 x4 x4 h
def X12_changedBy_15 (F : Nat) : Nat → Nat → Int32 → Int32 → Int32 → Int32 → Hp → Option Int32
  | 0, _, _, _, _, _, _ => none
  | f + 1, a0, x1, x2, x3, x4, h =>
  if x1 ≤ x4 then (
    some x3
  ) else (
    (X12_has F x2 x4 h).bind fun c_2 =>
    if c_2 = 0 then (
      if x4 ≤ 0 then (
        X12_changedBy_60 F (X12_changedBy_15 F f) a0 x1 x2 x3 x4 h
      ) else (
        (X12_has F x2 (x4 - 1) h).bind fun c_6 =>
        if c_6 = 0 then (
          X12_changedBy_60 F (X12_changedBy_15 F f) a0 x1 x2 x3 x4 h
        ) else (
          X12_changedBy_62 F (X12_changedBy_15 F f) a0 x1 x2 x3 x4 (x4 - 1) h
        )
      )
    ) else (
      X12_changedBy_62 F (X12_changedBy_15 F f) a0 x1 x2 x3 x4 (x4 + 1) h
    )
  )
def X12_changedBy (F : Nat) (a0 : Nat) (x1 : Int32) (x2 : Int32) (h : Hp) : Option Int32 :=
  if (x2 &&& (x2 >>> (1 &&& 31))) = 0 then (
    X12_changedBy_15 F F a0 x1 x2 0 0 h
  ) else (
    some (-1)
  )
def X12_changes_268 (F : Nat) (k168 : Nat → Int32 → Int32 → Int32 → Int32 → Hp → Option (Int32 × Hp)) (k193 : Nat → Int32 → Int32 → Int32 → Int32 → Int32 → Hp → Option (Int32 × Hp)) (a0 : Nat) (x1 : Int32) (x3 : Int32) (x4 : Int32) (x5 : Int32) (x6 : Int32) (h : Hp) : Option (Int32 × Hp) :=
  bd (x6 + 1) fun x6_1 =>
  k193 a0 x1 x3 x4 x5 x6_1 h
def X12_changes_193 (F : Nat) (k168 : Nat → Int32 → Int32 → Int32 → Int32 → Hp → Option (Int32 × Hp)) : Nat → Nat → Int32 → Int32 → Int32 → Int32 → Int32 → Hp → Option (Int32 × Hp)
  | 0, _, _, _, _, _, _, _ => none
  | f + 1, a0, x1, x3, x4, x5, x6, h =>
  if (1 <<< ((x1 - 1) &&& 31)) ≤ x6 then (
    bd (x5 + 1) fun x5_2 =>
    k168 a0 x1 x3 x4 x5_2 h
  ) else (
    gq (kd a0 = (0, 11)) <|
    (X12_changedBy F a0 x1 x6 h).bind fun c_4 =>
    if c_4 = (-1) then (
      X12_changes_268 F k168 (X12_changes_193 F k168 f) a0 x1 x3 x4 x5 x6 h
    ) else (
      (h.2 a0 46).bind fun j_7 =>
      gq ((kd j_7).1 = 1) <|
      gq (inb c_4 (kd j_7).2) <|
      if (h.1 j_7 (ix c_4)) = (-1) then (
        (h.2 a0 47).bind fun j_11 =>
        gq ((kd j_11).1 = 1) <|
        gq (inb x5 (kd j_11).2) <|
        gq (inb (h.1 j_11 (ix x5)) (kd j_7).2) <|
        gq (inb c_4 (kd j_7).2) <|
        bd (up h j_7 (ix c_4) ((h.1 j_7 (ix (h.1 j_11 (ix x5)))) + 1)) fun h_16 =>
        gq (inb x4 (kd j_11).2) <|
        bd (up h_16 j_11 (ix x4) c_4) fun h_18 =>
        bd ((x4 + 1)) fun x4_19 =>
        X12_changes_268 F k168 (X12_changes_193 F k168 f) a0 x1 x3 x4_19 x5 x6 h_18
      ) else (
        X12_changes_268 F k168 (X12_changes_193 F k168 f) a0 x1 x3 x4 x5 x6 h
      )
    )
  )
def X12_changes_168 (F : Nat) : Nat → Nat → Int32 → Int32 → Int32 → Int32 → Hp → Option (Int32 × Hp)
  | 0, _, _, _, _, _, _ => none
  | f + 1, a0, x1, x3, x4, x5, h =>
  gq (kd a0 = (0, 11)) <|
  (h.2 a0 46).bind fun j_2 =>
  gq ((kd j_2).1 = 1) <|
  gq (inb x3 (kd j_2).2) <|
  if (h.1 j_2 (ix x3)) = (-1) then (
    (h.2 a0 47).bind fun j_7 =>
    gq ((kd j_7).1 = 1) <|
    gq (inb x5 (kd j_7).2) <|
    (X12_unfolds F a0 (h.1 j_7 (ix x5)) x1 h).bind fun h_11 =>
    X12_changes_193 F (X12_changes_168 F f) F a0 x1 x3 x4 x5 1 h_11
  ) else (
    gq (inb x3 (kd j_2).2) <|
    some ((h.1 j_2 (ix x3)), h)
  )
def X12_changes_127 (F : Nat) : Nat → Nat → Int32 → Int32 → Int32 → Int32 → Hp → Option (Int32 × Hp)
  | 0, _, _, _, _, _, _ => none
  | f + 1, a0, x1, x2, x3, x4, h =>
  if 46656 ≤ x4 then (
    gq (kd a0 = (0, 11)) <|
    (h.2 a0 46).bind fun j_3 =>
    gq ((kd j_3).1 = 1) <|
    gq (inb x2 (kd j_3).2) <|
    bd (up h j_3 (ix x2) 0) fun h_6 =>
    (h_6.2 a0 47).bind fun j_7 =>
    gq ((kd j_7).1 = 1) <|
    gq (inb 0 (kd j_7).2) <|
    bd (up h_6 j_7 (ix 0) x2) fun h_10 =>
    X12_changes_168 F F a0 x1 x3 1 0 h_10
  ) else (
    gq (kd a0 = (0, 11)) <|
    (h.2 a0 46).bind fun j_12 =>
    gq ((kd j_12).1 = 1) <|
    gq (inb x4 (kd j_12).2) <|
    bd (up h j_12 (ix x4) (-1)) fun h_15 =>
    bd (x4 + 1) fun x4_16 =>
    X12_changes_127 F f a0 x1 x2 x3 x4_16 h_15
  )
def X12_changes_82 (F : Nat) : Nat → Nat → Int32 → Int32 → Int32 → Int32 → Hp → Option (Int32 × Hp)
  | 0, _, _, _, _, _, _ => none
  | f + 1, a0, x1, x2, x3, x4, h =>
  if x1 ≤ x4 then (
    X12_changes_127 F F a0 x1 x2 x3 0 h
  ) else (
    gq (kd a0 = (0, 11)) <|
    (h.2 a0 49).bind fun j_3 =>
    gq ((kd j_3).1 = 1) <|
    gq (inb x4 (kd j_3).2) <|
    bd ((x2 + ((h.1 j_3 (ix x4)) * x4))) fun x2_6 =>
    gq (inb x4 (kd j_3).2) <|
    (X12_octet F a0 x4 h).bind fun c_8 =>
    bd ((x3 + ((h.1 j_3 (ix x4)) * c_8))) fun x3_10 =>
    bd (x4 + 1) fun x4_11 =>
    X12_changes_82 F f a0 x1 x2_6 x3_10 x4_11 h
  )
def X12_changes_46 (F : Nat) : Nat → Nat → Int32 → Int32 → Hp → Option (Int32 × Hp)
  | 0, _, _, _, _ => none
  | f + 1, a0, x1, x2, h =>
  if 6 ≤ x2 then (
    X12_changes_82 F F a0 x1 0 0 0 h
  ) else (
    gq (kd a0 = (0, 11)) <|
    (h.2 a0 49).bind fun j_3 =>
    gq ((kd j_3).1 = 1) <|
    gq (inb x2 (kd j_3).2) <|
    gq (inb (x2 + 1) (kd j_3).2) <|
    bd (up h j_3 (ix (x2 + 1)) (6 * (h.1 j_3 (ix x2)))) fun h_7 =>
    bd (x2 + 1) fun x2_8 =>
    X12_changes_46 F f a0 x1 x2_8 h_7
  )
def X12_changes (F : Nat) (a0 : Nat) (x1 : Int32) (h : Hp) : Option (Int32 × Hp) :=
  (X12_in F x1 2 6 h).bind fun c_1 =>
  if c_1 = 0 then (
    some ((-1), h)
  ) else (
    gq (kd a0 = (0, 11)) <|
    if x1 ≤ (h.1 a0 7) then (
      bd (up h a0 7 0) fun h_6 =>
      (X12_isOnceEach F a0 0 x1 h_6).bind fun c_7 =>
      if c_7 = 0 then (
        some ((-2), h_6)
      ) else (
        (h_6.2 a0 49).bind fun j_10 =>
        gq ((kd j_10).1 = 1) <|
        gq (inb 0 (kd j_10).2) <|
        bd (up h_6 j_10 (ix 0) 1) fun h_13 =>
        X12_changes_46 F F a0 x1 0 h_13
      )
    ) else (
      some ((-1), h)
    )
  )
def X12_longestRun_37 (F : Nat) (k7 : Int32 → Int32 → Int32 → Int32 → Int32 → Hp → Option Int32) (x0 : Int32) (x1 : Int32) (x2 : Int32) (x4 : Int32) (s0 : Int32) (h : Hp) : Option Int32 :=
  (X12_max F x2 s0 h).bind fun c_1 =>
  bd (x4 + 1) fun x4_3 =>
  k7 x0 x1 c_1 s0 x4_3 h
def X12_longestRun_7 (F : Nat) : Nat → Int32 → Int32 → Int32 → Int32 → Int32 → Hp → Option Int32
  | 0, _, _, _, _, _, _ => none
  | f + 1, x0, x1, x2, x3, x4, h =>
  if x1 ≤ x4 then (
    some x2
  ) else (
    (X12_has F x0 x4 h).bind fun c_2 =>
    (X12_has F x0 (x4 - 1) h).bind fun c_4 =>
    if c_2 = c_4 then (
      X12_longestRun_37 F (X12_longestRun_7 F f) x0 x1 x2 x4 (x3 + 1) h
    ) else (
      X12_longestRun_37 F (X12_longestRun_7 F f) x0 x1 x2 x4 1 h
    )
  )
def X12_longestRun (F : Nat) (x0 : Int32) (x1 : Int32) (h : Hp) : Option Int32 :=
  X12_longestRun_7 F F x0 x1 1 1 1 h
def X12_dialect_73 (F : Nat) (k45 : Int32 → Int32 → Int32 → Int32 → Int32 → Int32 → Hp → Option Int32) (x1 : Int32) (x2 : Int32) (x3 : Int32) (x4 : Int32) (x5 : Int32) (x6 : Int32) (h : Hp) : Option Int32 :=
  bd (x6 + (-1)) fun x6_1 =>
  k45 x1 x2 x3 x4 x5 x6_1 h
def X12_dialect_45 (F : Nat) : Nat → Int32 → Int32 → Int32 → Int32 → Int32 → Int32 → Hp → Option Int32
  | 0, _, _, _, _, _, _, _ => none
  | f + 1, x1, x2, x3, x4, x5, x6, h =>
  if x6 < 0 then (
    if x3 = 0 then (
      some x4
    ) else (
      some x5
    )
  ) else (
    (X12_longestRun F x6 x1 h).bind fun c_3 =>
    if c_3 ≤ x2 then (
      bd ((x4 + 1)) fun x4_6 =>
      X12_dialect_73 F (X12_dialect_45 F f) x1 x2 x3 x4_6 x6 x6 h
    ) else (
      X12_dialect_73 F (X12_dialect_45 F f) x1 x2 x3 x4 x5 x6 h
    )
  )
def X12_dialect (F : Nat) (a0 : Nat) (x1 : Int32) (x2 : Int32) (x3 : Int32) (h : Hp) : Option Int32 :=
  (X12_in F x1 1 8 h).bind fun c_1 =>
  if c_1 = 0 then (
    some (-1)
  ) else (
    (X12_in F x2 0 8 h).bind fun c_4 =>
    if c_4 = 0 then (
      some (-1)
    ) else (
      (X12_in F x3 0 1 h).bind fun c_7 =>
      if c_7 = 0 then (
        some (-1)
      ) else (
        bd (((1 <<< (x1 &&& 31)) - 1)) fun x6_10 =>
        X12_dialect_45 F F x1 x2 x3 0 (-2) x6_10 h
      )
    )
  )
def X12_owed_33 (F : Nat) : Nat → Int32 → Int32 → Int32 → Int32 → Hp → Option Int32
  | 0, _, _, _, _, _ => none
  | f + 1, x1, x2, x3, x4, h =>
  if 200 < x4 then (
    some (-2)
  ) else (
    if 0 < x3 then (
      bd ((((x3 + ((x3 / 100) * x2)) + ((((irm x3 100) * x2) + 99) / 100)) - x1)) fun x3_3 =>
      if x3_3 ≤ 100000000 then (
        bd (x4 + 1) fun x4_5 =>
        X12_owed_33 F f x1 x2 x3_3 x4_5 h
      ) else (
        some (-2)
      )
    ) else (
      some x4
    )
  )
def X12_owed (F : Nat) (a0 : Nat) (x1 : Int32) (x2 : Int32) (h : Hp) : Option Int32 :=
  (X12_in F x1 1 99999 h).bind fun c_1 =>
  if c_1 = 0 then (
    some (-1)
  ) else (
    (X12_in F x2 0 50 h).bind fun c_4 =>
    if c_4 = 0 then (
      some (-1)
    ) else (
      gq (kd a0 = (0, 11)) <|
      (h.2 a0 0).bind fun j_8 =>
      gq ((kd j_8).1 = 1) <|
      gq (inb 43 (kd j_8).2) <|
      bd ((h.1 j_8 (ix 43))) fun x3_11 =>
      X12_owed_33 F F x1 x2 x3_11 0 h
    )
  )
def X12_seed (F : Nat) (a0 : Nat) (x1 : Int32) (h : Hp) : Option (Int32 × Hp) :=
  (X12_in F x1 0 65535 h).bind fun c_1 =>
  if c_1 = 0 then (
    some (0, h)
  ) else (
    gq (kd a0 = (0, 11)) <|
    (h.2 a0 0).bind fun j_5 =>
    gq ((kd j_5).1 = 1) <|
    gq (inb 46 (kd j_5).2) <|
    bd (up h j_5 (ix 46) x1) fun h_8 =>
    some (1, h_8)
  )
def X12_keep (F : Nat) (a0 : Nat) (h : Hp) : Option (Int32 × Hp) :=
  gq (kd a0 = (0, 11)) <|
  bd (up h a0 50 1) fun h_2 =>
  (h_2.2 a0 0).bind fun j_3 =>
  (h_2.2 a0 2).bind fun j_4 =>
  (X12_copies F j_3 j_4 h_2).bind fun h_6 =>
  (h_6.2 a0 0).bind fun j_7 =>
  gq ((kd j_7).1 = 1) <|
  gq (inb 44 (kd j_7).2) <|
  some ((h_6.1 j_7 (ix 44)), h_6)
def X12_undo (F : Nat) (a0 : Nat) (h : Hp) : Option (Int32 × Hp) :=
  gq (kd a0 = (0, 11)) <|
  if (h.1 a0 50) = 0 then (
    some (0, h)
  ) else (
    (h.2 a0 2).bind fun j_3 =>
    (h.2 a0 0).bind fun j_4 =>
    (X12_copies F j_3 j_4 h).bind fun h_6 =>
    some (1, h_6)
  )
def X12_check (F : Nat) (a0 : Nat) (h : Hp) : Option (Int32 × Hp) :=
  gq (kd a0 = (0, 11)) <|
  if 4 ≤ (h.1 a0 7) then (
    bd (up h a0 7 0) fun h_3 =>
    (X12_octet F a0 0 h_3).bind fun c_4 =>
    (X12_standing F a0 0 h_3).bind fun c_6 =>
    if c_4 = c_6 then (
      (X12_octet F a0 1 h_3).bind fun c_9 =>
      (X12_standing F a0 1 h_3).bind fun c_11 =>
      if c_9 = c_11 then (
        (X12_octet F a0 2 h_3).bind fun c_14 =>
        (h_3.2 a0 0).bind fun j_16 =>
        gq ((kd j_16).1 = 1) <|
        gq (inb 45 (kd j_16).2) <|
        if c_14 = (irm (h_3.1 j_16 (ix 45)) 256) then (
          (X12_octet F a0 3 h_3).bind fun c_20 =>
          gq (inb 42 (kd j_16).2) <|
          if c_20 = (irm (h_3.1 j_16 (ix 42)) 256) then (
            some ((-1), h_3)
          ) else (
            some (3, h_3)
          )
        ) else (
          some (2, h_3)
        )
      ) else (
        some (1, h_3)
      )
    ) else (
      some (0, h_3)
    )
  ) else (
    some ((-2), h)
  )
def X12_count (F : Nat) (a0 : Nat) (x1 : Int32) (h : Hp) : Option Int32 :=
  bd (x1) fun t_1 =>
  if t_1 = 0 then (
    gq (kd a0 = (0, 11)) <|
    (h.2 a0 0).bind fun j_4 =>
    gq ((kd j_4).1 = 1) <|
    gq (inb 44 (kd j_4).2) <|
    some (h.1 j_4 (ix 44))
  ) else (
  if t_1 = 1 then (
    gq (kd a0 = (0, 11)) <|
    (h.2 a0 0).bind fun j_9 =>
    gq ((kd j_9).1 = 1) <|
    gq (inb 42 (kd j_9).2) <|
    some (h.1 j_9 (ix 42))
  ) else (
  if t_1 = 2 then (
    gq (kd a0 = (0, 11)) <|
    (h.2 a0 0).bind fun j_14 =>
    gq ((kd j_14).1 = 1) <|
    gq (inb 43 (kd j_14).2) <|
    some (h.1 j_14 (ix 43))
  ) else (
  if t_1 = 3 then (
    gq (kd a0 = (0, 11)) <|
    (h.2 a0 0).bind fun j_19 =>
    gq ((kd j_19).1 = 1) <|
    gq (inb 45 (kd j_19).2) <|
    some (h.1 j_19 (ix 45))
  ) else (
  if t_1 = 4 then (
    gq (kd a0 = (0, 11)) <|
    some (h.1 a0 5)
  ) else (
  if t_1 = 5 then (
    gq (kd a0 = (0, 11)) <|
    some (h.1 a0 16)
  ) else (
  if t_1 = 6 then (
    gq (kd a0 = (0, 11)) <|
    some (h.1 a0 7)
  ) else (
  if t_1 = 7 then (
    gq (kd a0 = (0, 11)) <|
    (h.2 a0 0).bind fun j_30 =>
    gq ((kd j_30).1 = 1) <|
    gq (inb 46 (kd j_30).2) <|
    some (h.1 j_30 (ix 46))
  ) else (
  if t_1 = 8 then (
    gq (kd a0 = (0, 11)) <|
    (X12_tiltNow F a0 h).bind fun c_35 =>
    some c_35
  ) else (
  some (-1)
  )))))))))
