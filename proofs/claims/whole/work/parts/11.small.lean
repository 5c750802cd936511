theorem s_gq {α : Type} {c : Prop} {i : Decidable c} {x z : Option α} (hc : c) (k : x = z) : gq c x = z := (gq_p hc x).trans k
theorem s_bind {α β : Type} {X : Option α} {f : α → Option β} {z : Option β} {a : α} (hx : X = some a) (k : f a = z) : X.bind f = z := by rw [hx]; exact k
theorem s_bq {α β γ : Type} {X : Option (α × β)} {f : α → β → Option γ} {z : Option γ} {a : α} {b : β} (hx : X = some (a, b)) (k : f a b = z) : bq X f = z := by rw [hx]; exact k
theorem s_bd {α β : Type} {x : α} {f : α → β} {z : β} {a : α} (hx : x = a) (k : f a = z) : bd x f = z := by rw [hx]; exact k
theorem s_ifp {α : Type} {c : Prop} {i : Decidable c} {x y z : α} (hc : c) (k : x = z) : ite c x y = z := (if_pos hc).trans k
theorem s_ifn {α : Type} {c : Prop} {i : Decidable c} {x y z : α} (hc : ¬ c) (k : y = z) : ite c x y = z := (if_neg hc).trans k
def Ex {α : Type} (X : Option α) (Q : α → Prop) : Prop := ∃ y, X = some y ∧ Q y
theorem t_gq {α : Type} {c : Prop} {i : Decidable c} {x : Option α} {Q : α → Prop} (hc : c) (k : Ex x Q) : Ex (gq c x) Q := by rw [gq_p hc]; exact k
theorem t_bind {α β : Type} {X : Option α} {f : α → Option β} {Q : β → Prop} {a : α} (hx : X = some a) (k : Ex (f a) Q) : Ex (X.bind f) Q := by rw [hx]; exact k
theorem t_bq {α β γ : Type} {X : Option (α × β)} {f : α → β → Option γ} {Q : γ → Prop} {a : α} {b : β} (hx : X = some (a, b)) (k : Ex (f a b) Q) : Ex (bq X f) Q := by rw [hx]; exact k
theorem t_bd {α β : Type} {x : α} {f : α → Option β} {Q : β → Prop} {a : α} (hx : x = a) (k : Ex (f a) Q) : Ex (bd x f) Q := by rw [hx]; exact k
theorem t_ifp {α : Type} {c : Prop} {i : Decidable c} {x y : Option α} {Q : α → Prop} (hc : c) (k : Ex x Q) : Ex (ite c x y) Q := by rw [if_pos hc]; exact k
theorem t_ifn {α : Type} {c : Prop} {i : Decidable c} {x y : Option α} {Q : α → Prop} (hc : ¬ c) (k : Ex y Q) : Ex (ite c x y) Q := by rw [if_neg hc]; exact k
theorem t_some {α : Type} {v : α} {Q : α → Prop} (k : Q v) : Ex (some v) Q := ⟨v, rfl, k⟩
theorem t_of {α : Type} {X Y : Option α} {Q : α → Prop} (e : X = Y) (k : Ex Y Q) : Ex X Q := e ▸ k
theorem ofN_iI (n : Nat) : Int32.ofNat n = iI (n : Int) := (Int32.ofInt_eq_ofNat (n := n)).symm
theorem get_in {F a : Nat} {z : Int} {h : Hp} (ha : (kd a).1 = 1) (hz : 0 ≤ z ∧ z < (kd a).2) (hn : (kd a).2 < 2147483648) : X11_get F a (iI z) h = some (h.1 a z.toNat) := by
  unfold X11_get
  rw [ofN_iI, show (0 : Int32) = iI 0 from rfl, iflt_n hz.1 (by omega), gq_p ha, ifle_n (by omega) (by omega), gq_inb (by omega) (by omega), iI_ix (by omega)]
theorem get_out {F a : Nat} {z : Int} {h : Hp} (ha : (kd a).1 = 1) (hz : z < 0 ∨ (kd a).2 ≤ z) (hb : -2147483648 ≤ z ∧ z < 2147483648) (hn : (kd a).2 < 2147483648) : X11_get F a (iI z) h = some (iI 0) := by
  unfold X11_get
  rw [ofN_iI, show (0 : Int32) = iI 0 from rfl]
  by_cases h0 : z < 0
  · rw [iflt_p h0 (by omega)]
  · rw [iflt_n (by omega) (by omega), gq_p ha, ifle_p (by omega) (by omega)]
theorem put_in {F a : Nat} {z : Int} {v : Int32} {h : Hp} (ha : (kd a).1 = 1) (hz : 0 ≤ z ∧ z < (kd a).2) (hn : (kd a).2 < 2147483648) : X11_put F a (iI z) v h = some (up h a z.toNat v) := by
  unfold X11_put
  rw [ofN_iI, show (0 : Int32) = iI 0 from rfl, iflt_n hz.1 (by omega), gq_p ha, ifle_n (by omega) (by omega), gq_inb (by omega) (by omega), iI_ix (by omega)]
  rfl
theorem put_out {F a : Nat} {z : Int} {v : Int32} {h : Hp} (ha : (kd a).1 = 1) (hz : z < 0 ∨ (kd a).2 ≤ z) (hb : -2147483648 ≤ z ∧ z < 2147483648) (hn : (kd a).2 < 2147483648) : X11_put F a (iI z) v h = some h := by
  unfold X11_put
  rw [ofN_iI, show (0 : Int32) = iI 0 from rfl]
  by_cases h0 : z < 0
  · rw [iflt_p h0 (by omega)]
  · rw [iflt_n (by omega) (by omega), gq_p ha, ifle_p (by omega) (by omega)]
theorem gt1 {F : Nat} {z : Int} {h : Hp} (hz : 0 ≤ z ∧ z < 260) : X11_get F 1 (iI z) h = some (h.1 1 z.toNat) := get_in rfl hz (by decide)
theorem gu1 {F : Nat} {z : Int} {h : Hp} (hz : z < 0 ∨ 260 ≤ z) (hb : -2147483648 ≤ z ∧ z < 2147483648) : X11_get F 1 (iI z) h = some (iI 0) := get_out rfl hz hb (by decide)
theorem pt1 {F : Nat} {z : Int} {v : Int32} {h : Hp} (hz : 0 ≤ z ∧ z < 260) : X11_put F 1 (iI z) v h = some (up h 1 z.toNat v) := put_in rfl hz (by decide)
theorem pu1 {F : Nat} {z : Int} {v : Int32} {h : Hp} (hz : z < 0 ∨ 260 ≤ z) (hb : -2147483648 ≤ z ∧ z < 2147483648) : X11_put F 1 (iI z) v h = some h := put_out rfl hz hb (by decide)
theorem gt3 {F : Nat} {z : Int} {h : Hp} (hz : 0 ≤ z ∧ z < 240) : X11_get F 3 (iI z) h = some (h.1 3 z.toNat) := get_in rfl hz (by decide)
theorem gu3 {F : Nat} {z : Int} {h : Hp} (hz : z < 0 ∨ 240 ≤ z) (hb : -2147483648 ≤ z ∧ z < 2147483648) : X11_get F 3 (iI z) h = some (iI 0) := get_out rfl hz hb (by decide)
theorem pt3 {F : Nat} {z : Int} {v : Int32} {h : Hp} (hz : 0 ≤ z ∧ z < 240) : X11_put F 3 (iI z) v h = some (up h 3 z.toNat v) := put_in rfl hz (by decide)
theorem pu3 {F : Nat} {z : Int} {v : Int32} {h : Hp} (hz : z < 0 ∨ 240 ≤ z) (hb : -2147483648 ≤ z ∧ z < 2147483648) : X11_put F 3 (iI z) v h = some h := put_out rfl hz hb (by decide)
theorem gt5 {F : Nat} {z : Int} {h : Hp} (hz : 0 ≤ z ∧ z < 20) : X11_get F 5 (iI z) h = some (h.1 5 z.toNat) := get_in rfl hz (by decide)
theorem gu5 {F : Nat} {z : Int} {h : Hp} (hz : z < 0 ∨ 20 ≤ z) (hb : -2147483648 ≤ z ∧ z < 2147483648) : X11_get F 5 (iI z) h = some (iI 0) := get_out rfl hz hb (by decide)
theorem pt5 {F : Nat} {z : Int} {v : Int32} {h : Hp} (hz : 0 ≤ z ∧ z < 20) : X11_put F 5 (iI z) v h = some (up h 5 z.toNat v) := put_in rfl hz (by decide)
theorem pu5 {F : Nat} {z : Int} {v : Int32} {h : Hp} (hz : z < 0 ∨ 20 ≤ z) (hb : -2147483648 ≤ z ∧ z < 2147483648) : X11_put F 5 (iI z) v h = some h := put_out rfl hz hb (by decide)
theorem gt7 {F : Nat} {z : Int} {h : Hp} (hz : 0 ≤ z ∧ z < 20) : X11_get F 7 (iI z) h = some (h.1 7 z.toNat) := get_in rfl hz (by decide)
theorem gu7 {F : Nat} {z : Int} {h : Hp} (hz : z < 0 ∨ 20 ≤ z) (hb : -2147483648 ≤ z ∧ z < 2147483648) : X11_get F 7 (iI z) h = some (iI 0) := get_out rfl hz hb (by decide)
theorem pt7 {F : Nat} {z : Int} {v : Int32} {h : Hp} (hz : 0 ≤ z ∧ z < 20) : X11_put F 7 (iI z) v h = some (up h 7 z.toNat v) := put_in rfl hz (by decide)
theorem pu7 {F : Nat} {z : Int} {v : Int32} {h : Hp} (hz : z < 0 ∨ 20 ≤ z) (hb : -2147483648 ≤ z ∧ z < 2147483648) : X11_put F 7 (iI z) v h = some h := put_out rfl hz hb (by decide)
theorem gt8 {F : Nat} {z : Int} {h : Hp} (hz : 0 ≤ z ∧ z < 20) : X11_get F 8 (iI z) h = some (h.1 8 z.toNat) := get_in rfl hz (by decide)
theorem gu8 {F : Nat} {z : Int} {h : Hp} (hz : z < 0 ∨ 20 ≤ z) (hb : -2147483648 ≤ z ∧ z < 2147483648) : X11_get F 8 (iI z) h = some (iI 0) := get_out rfl hz hb (by decide)
theorem pt8 {F : Nat} {z : Int} {v : Int32} {h : Hp} (hz : 0 ≤ z ∧ z < 20) : X11_put F 8 (iI z) v h = some (up h 8 z.toNat v) := put_in rfl hz (by decide)
theorem pu8 {F : Nat} {z : Int} {v : Int32} {h : Hp} (hz : z < 0 ∨ 20 ≤ z) (hb : -2147483648 ≤ z ∧ z < 2147483648) : X11_put F 8 (iI z) v h = some h := put_out rfl hz hb (by decide)
theorem gt9 {F : Nat} {z : Int} {h : Hp} (hz : 0 ≤ z ∧ z < 20) : X11_get F 9 (iI z) h = some (h.1 9 z.toNat) := get_in rfl hz (by decide)
theorem gu9 {F : Nat} {z : Int} {h : Hp} (hz : z < 0 ∨ 20 ≤ z) (hb : -2147483648 ≤ z ∧ z < 2147483648) : X11_get F 9 (iI z) h = some (iI 0) := get_out rfl hz hb (by decide)
theorem pt9 {F : Nat} {z : Int} {v : Int32} {h : Hp} (hz : 0 ≤ z ∧ z < 20) : X11_put F 9 (iI z) v h = some (up h 9 z.toNat v) := put_in rfl hz (by decide)
theorem pu9 {F : Nat} {z : Int} {v : Int32} {h : Hp} (hz : z < 0 ∨ 20 ≤ z) (hb : -2147483648 ≤ z ∧ z < 2147483648) : X11_put F 9 (iI z) v h = some h := put_out rfl hz hb (by decide)
theorem gt10 {F : Nat} {z : Int} {h : Hp} (hz : 0 ≤ z ∧ z < 20) : X11_get F 10 (iI z) h = some (h.1 10 z.toNat) := get_in rfl hz (by decide)
theorem gu10 {F : Nat} {z : Int} {h : Hp} (hz : z < 0 ∨ 20 ≤ z) (hb : -2147483648 ≤ z ∧ z < 2147483648) : X11_get F 10 (iI z) h = some (iI 0) := get_out rfl hz hb (by decide)
theorem pt10 {F : Nat} {z : Int} {v : Int32} {h : Hp} (hz : 0 ≤ z ∧ z < 20) : X11_put F 10 (iI z) v h = some (up h 10 z.toNat v) := put_in rfl hz (by decide)
theorem pu10 {F : Nat} {z : Int} {v : Int32} {h : Hp} (hz : z < 0 ∨ 20 ≤ z) (hb : -2147483648 ≤ z ∧ z < 2147483648) : X11_put F 10 (iI z) v h = some h := put_out rfl hz hb (by decide)
theorem gt13 {F : Nat} {z : Int} {h : Hp} (hz : 0 ≤ z ∧ z < 16) : X11_get F 13 (iI z) h = some (h.1 13 z.toNat) := get_in rfl hz (by decide)
theorem gu13 {F : Nat} {z : Int} {h : Hp} (hz : z < 0 ∨ 16 ≤ z) (hb : -2147483648 ≤ z ∧ z < 2147483648) : X11_get F 13 (iI z) h = some (iI 0) := get_out rfl hz hb (by decide)
theorem pt13 {F : Nat} {z : Int} {v : Int32} {h : Hp} (hz : 0 ≤ z ∧ z < 16) : X11_put F 13 (iI z) v h = some (up h 13 z.toNat v) := put_in rfl hz (by decide)
theorem pu13 {F : Nat} {z : Int} {v : Int32} {h : Hp} (hz : z < 0 ∨ 16 ≤ z) (hb : -2147483648 ≤ z ∧ z < 2147483648) : X11_put F 13 (iI z) v h = some h := put_out rfl hz hb (by decide)
theorem gt14 {F : Nat} {z : Int} {h : Hp} (hz : 0 ≤ z ∧ z < 16) : X11_get F 14 (iI z) h = some (h.1 14 z.toNat) := get_in rfl hz (by decide)
theorem gu14 {F : Nat} {z : Int} {h : Hp} (hz : z < 0 ∨ 16 ≤ z) (hb : -2147483648 ≤ z ∧ z < 2147483648) : X11_get F 14 (iI z) h = some (iI 0) := get_out rfl hz hb (by decide)
theorem pt14 {F : Nat} {z : Int} {v : Int32} {h : Hp} (hz : 0 ≤ z ∧ z < 16) : X11_put F 14 (iI z) v h = some (up h 14 z.toNat v) := put_in rfl hz (by decide)
theorem pu14 {F : Nat} {z : Int} {v : Int32} {h : Hp} (hz : z < 0 ∨ 16 ≤ z) (hb : -2147483648 ≤ z ∧ z < 2147483648) : X11_put F 14 (iI z) v h = some h := put_out rfl hz hb (by decide)
theorem gt15 {F : Nat} {z : Int} {h : Hp} (hz : 0 ≤ z ∧ z < 16) : X11_get F 15 (iI z) h = some (h.1 15 z.toNat) := get_in rfl hz (by decide)
theorem gu15 {F : Nat} {z : Int} {h : Hp} (hz : z < 0 ∨ 16 ≤ z) (hb : -2147483648 ≤ z ∧ z < 2147483648) : X11_get F 15 (iI z) h = some (iI 0) := get_out rfl hz hb (by decide)
theorem pt15 {F : Nat} {z : Int} {v : Int32} {h : Hp} (hz : 0 ≤ z ∧ z < 16) : X11_put F 15 (iI z) v h = some (up h 15 z.toNat v) := put_in rfl hz (by decide)
theorem pu15 {F : Nat} {z : Int} {v : Int32} {h : Hp} (hz : z < 0 ∨ 16 ≤ z) (hb : -2147483648 ≤ z ∧ z < 2147483648) : X11_put F 15 (iI z) v h = some h := put_out rfl hz hb (by decide)
theorem gt16 {F : Nat} {z : Int} {h : Hp} (hz : 0 ≤ z ∧ z < 16) : X11_get F 16 (iI z) h = some (h.1 16 z.toNat) := get_in rfl hz (by decide)
theorem gu16 {F : Nat} {z : Int} {h : Hp} (hz : z < 0 ∨ 16 ≤ z) (hb : -2147483648 ≤ z ∧ z < 2147483648) : X11_get F 16 (iI z) h = some (iI 0) := get_out rfl hz hb (by decide)
theorem pt16 {F : Nat} {z : Int} {v : Int32} {h : Hp} (hz : 0 ≤ z ∧ z < 16) : X11_put F 16 (iI z) v h = some (up h 16 z.toNat v) := put_in rfl hz (by decide)
theorem pu16 {F : Nat} {z : Int} {v : Int32} {h : Hp} (hz : z < 0 ∨ 16 ≤ z) (hb : -2147483648 ≤ z ∧ z < 2147483648) : X11_put F 16 (iI z) v h = some h := put_out rfl hz hb (by decide)
theorem gt17 {F : Nat} {z : Int} {h : Hp} (hz : 0 ≤ z ∧ z < 240) : X11_get F 17 (iI z) h = some (h.1 17 z.toNat) := get_in rfl hz (by decide)
theorem gu17 {F : Nat} {z : Int} {h : Hp} (hz : z < 0 ∨ 240 ≤ z) (hb : -2147483648 ≤ z ∧ z < 2147483648) : X11_get F 17 (iI z) h = some (iI 0) := get_out rfl hz hb (by decide)
theorem pt17 {F : Nat} {z : Int} {v : Int32} {h : Hp} (hz : 0 ≤ z ∧ z < 240) : X11_put F 17 (iI z) v h = some (up h 17 z.toNat v) := put_in rfl hz (by decide)
theorem pu17 {F : Nat} {z : Int} {v : Int32} {h : Hp} (hz : z < 0 ∨ 240 ≤ z) (hb : -2147483648 ≤ z ∧ z < 2147483648) : X11_put F 17 (iI z) v h = some h := put_out rfl hz hb (by decide)
theorem gt18 {F : Nat} {z : Int} {h : Hp} (hz : 0 ≤ z ∧ z < 240) : X11_get F 18 (iI z) h = some (h.1 18 z.toNat) := get_in rfl hz (by decide)
theorem gu18 {F : Nat} {z : Int} {h : Hp} (hz : z < 0 ∨ 240 ≤ z) (hb : -2147483648 ≤ z ∧ z < 2147483648) : X11_get F 18 (iI z) h = some (iI 0) := get_out rfl hz hb (by decide)
theorem pt18 {F : Nat} {z : Int} {v : Int32} {h : Hp} (hz : 0 ≤ z ∧ z < 240) : X11_put F 18 (iI z) v h = some (up h 18 z.toNat v) := put_in rfl hz (by decide)
theorem pu18 {F : Nat} {z : Int} {v : Int32} {h : Hp} (hz : z < 0 ∨ 240 ≤ z) (hb : -2147483648 ≤ z ∧ z < 2147483648) : X11_put F 18 (iI z) v h = some h := put_out rfl hz hb (by decide)
theorem gt19 {F : Nat} {z : Int} {h : Hp} (hz : 0 ≤ z ∧ z < 24) : X11_get F 19 (iI z) h = some (h.1 19 z.toNat) := get_in rfl hz (by decide)
theorem gu19 {F : Nat} {z : Int} {h : Hp} (hz : z < 0 ∨ 24 ≤ z) (hb : -2147483648 ≤ z ∧ z < 2147483648) : X11_get F 19 (iI z) h = some (iI 0) := get_out rfl hz hb (by decide)
theorem pt19 {F : Nat} {z : Int} {v : Int32} {h : Hp} (hz : 0 ≤ z ∧ z < 24) : X11_put F 19 (iI z) v h = some (up h 19 z.toNat v) := put_in rfl hz (by decide)
theorem pu19 {F : Nat} {z : Int} {v : Int32} {h : Hp} (hz : z < 0 ∨ 24 ≤ z) (hb : -2147483648 ≤ z ∧ z < 2147483648) : X11_put F 19 (iI z) v h = some h := put_out rfl hz hb (by decide)
theorem gt22 {F : Nat} {z : Int} {h : Hp} (hz : 0 ≤ z ∧ z < 21) : X11_get F 22 (iI z) h = some (h.1 22 z.toNat) := get_in rfl hz (by decide)
theorem gu22 {F : Nat} {z : Int} {h : Hp} (hz : z < 0 ∨ 21 ≤ z) (hb : -2147483648 ≤ z ∧ z < 2147483648) : X11_get F 22 (iI z) h = some (iI 0) := get_out rfl hz hb (by decide)
theorem pt22 {F : Nat} {z : Int} {v : Int32} {h : Hp} (hz : 0 ≤ z ∧ z < 21) : X11_put F 22 (iI z) v h = some (up h 22 z.toNat v) := put_in rfl hz (by decide)
theorem pu22 {F : Nat} {z : Int} {v : Int32} {h : Hp} (hz : z < 0 ∨ 21 ≤ z) (hb : -2147483648 ≤ z ∧ z < 2147483648) : X11_put F 22 (iI z) v h = some h := put_out rfl hz hb (by decide)
theorem gt24 {F : Nat} {z : Int} {h : Hp} (hz : 0 ≤ z ∧ z < 21) : X11_get F 24 (iI z) h = some (h.1 24 z.toNat) := get_in rfl hz (by decide)
theorem gu24 {F : Nat} {z : Int} {h : Hp} (hz : z < 0 ∨ 21 ≤ z) (hb : -2147483648 ≤ z ∧ z < 2147483648) : X11_get F 24 (iI z) h = some (iI 0) := get_out rfl hz hb (by decide)
theorem pt24 {F : Nat} {z : Int} {v : Int32} {h : Hp} (hz : 0 ≤ z ∧ z < 21) : X11_put F 24 (iI z) v h = some (up h 24 z.toNat v) := put_in rfl hz (by decide)
theorem pu24 {F : Nat} {z : Int} {v : Int32} {h : Hp} (hz : z < 0 ∨ 21 ≤ z) (hb : -2147483648 ≤ z ∧ z < 2147483648) : X11_put F 24 (iI z) v h = some h := put_out rfl hz hb (by decide)
theorem gt26 {F : Nat} {z : Int} {h : Hp} (hz : 0 ≤ z ∧ z < 40) : X11_get F 26 (iI z) h = some (h.1 26 z.toNat) := get_in rfl hz (by decide)
theorem gu26 {F : Nat} {z : Int} {h : Hp} (hz : z < 0 ∨ 40 ≤ z) (hb : -2147483648 ≤ z ∧ z < 2147483648) : X11_get F 26 (iI z) h = some (iI 0) := get_out rfl hz hb (by decide)
theorem pt26 {F : Nat} {z : Int} {v : Int32} {h : Hp} (hz : 0 ≤ z ∧ z < 40) : X11_put F 26 (iI z) v h = some (up h 26 z.toNat v) := put_in rfl hz (by decide)
theorem pu26 {F : Nat} {z : Int} {v : Int32} {h : Hp} (hz : z < 0 ∨ 40 ≤ z) (hb : -2147483648 ≤ z ∧ z < 2147483648) : X11_put F 26 (iI z) v h = some h := put_out rfl hz hb (by decide)
theorem gt27 {F : Nat} {z : Int} {h : Hp} (hz : 0 ≤ z ∧ z < 9) : X11_get F 27 (iI z) h = some (h.1 27 z.toNat) := get_in rfl hz (by decide)
theorem gu27 {F : Nat} {z : Int} {h : Hp} (hz : z < 0 ∨ 9 ≤ z) (hb : -2147483648 ≤ z ∧ z < 2147483648) : X11_get F 27 (iI z) h = some (iI 0) := get_out rfl hz hb (by decide)
theorem pt27 {F : Nat} {z : Int} {v : Int32} {h : Hp} (hz : 0 ≤ z ∧ z < 9) : X11_put F 27 (iI z) v h = some (up h 27 z.toNat v) := put_in rfl hz (by decide)
theorem pu27 {F : Nat} {z : Int} {v : Int32} {h : Hp} (hz : z < 0 ∨ 9 ≤ z) (hb : -2147483648 ≤ z ∧ z < 2147483648) : X11_put F 27 (iI z) v h = some h := put_out rfl hz hb (by decide)
theorem gt29 {F : Nat} {z : Int} {h : Hp} (hz : 0 ≤ z ∧ z < 16) : X11_get F 29 (iI z) h = some (h.1 29 z.toNat) := get_in rfl hz (by decide)
theorem gu29 {F : Nat} {z : Int} {h : Hp} (hz : z < 0 ∨ 16 ≤ z) (hb : -2147483648 ≤ z ∧ z < 2147483648) : X11_get F 29 (iI z) h = some (iI 0) := get_out rfl hz hb (by decide)
theorem pt29 {F : Nat} {z : Int} {v : Int32} {h : Hp} (hz : 0 ≤ z ∧ z < 16) : X11_put F 29 (iI z) v h = some (up h 29 z.toNat v) := put_in rfl hz (by decide)
theorem pu29 {F : Nat} {z : Int} {v : Int32} {h : Hp} (hz : z < 0 ∨ 16 ≤ z) (hb : -2147483648 ≤ z ∧ z < 2147483648) : X11_put F 29 (iI z) v h = some h := put_out rfl hz hb (by decide)
theorem gt30 {F : Nat} {z : Int} {h : Hp} (hz : 0 ≤ z ∧ z < 16) : X11_get F 30 (iI z) h = some (h.1 30 z.toNat) := get_in rfl hz (by decide)
theorem gu30 {F : Nat} {z : Int} {h : Hp} (hz : z < 0 ∨ 16 ≤ z) (hb : -2147483648 ≤ z ∧ z < 2147483648) : X11_get F 30 (iI z) h = some (iI 0) := get_out rfl hz hb (by decide)
theorem pt30 {F : Nat} {z : Int} {v : Int32} {h : Hp} (hz : 0 ≤ z ∧ z < 16) : X11_put F 30 (iI z) v h = some (up h 30 z.toNat v) := put_in rfl hz (by decide)
theorem pu30 {F : Nat} {z : Int} {v : Int32} {h : Hp} (hz : z < 0 ∨ 16 ≤ z) (hb : -2147483648 ≤ z ∧ z < 2147483648) : X11_put F 30 (iI z) v h = some h := put_out rfl hz hb (by decide)
theorem gt31 {F : Nat} {z : Int} {h : Hp} (hz : 0 ≤ z ∧ z < 16) : X11_get F 31 (iI z) h = some (h.1 31 z.toNat) := get_in rfl hz (by decide)
theorem gu31 {F : Nat} {z : Int} {h : Hp} (hz : z < 0 ∨ 16 ≤ z) (hb : -2147483648 ≤ z ∧ z < 2147483648) : X11_get F 31 (iI z) h = some (iI 0) := get_out rfl hz hb (by decide)
theorem pt31 {F : Nat} {z : Int} {v : Int32} {h : Hp} (hz : 0 ≤ z ∧ z < 16) : X11_put F 31 (iI z) v h = some (up h 31 z.toNat v) := put_in rfl hz (by decide)
theorem pu31 {F : Nat} {z : Int} {v : Int32} {h : Hp} (hz : z < 0 ∨ 16 ≤ z) (hb : -2147483648 ≤ z ∧ z < 2147483648) : X11_put F 31 (iI z) v h = some h := put_out rfl hz hb (by decide)
theorem gt32 {F : Nat} {z : Int} {h : Hp} (hz : 0 ≤ z ∧ z < 16) : X11_get F 32 (iI z) h = some (h.1 32 z.toNat) := get_in rfl hz (by decide)
theorem gu32 {F : Nat} {z : Int} {h : Hp} (hz : z < 0 ∨ 16 ≤ z) (hb : -2147483648 ≤ z ∧ z < 2147483648) : X11_get F 32 (iI z) h = some (iI 0) := get_out rfl hz hb (by decide)
theorem pt32 {F : Nat} {z : Int} {v : Int32} {h : Hp} (hz : 0 ≤ z ∧ z < 16) : X11_put F 32 (iI z) v h = some (up h 32 z.toNat v) := put_in rfl hz (by decide)
theorem pu32 {F : Nat} {z : Int} {v : Int32} {h : Hp} (hz : z < 0 ∨ 16 ≤ z) (hb : -2147483648 ≤ z ∧ z < 2147483648) : X11_put F 32 (iI z) v h = some h := put_out rfl hz hb (by decide)
theorem gt33 {F : Nat} {z : Int} {h : Hp} (hz : 0 ≤ z ∧ z < 240) : X11_get F 33 (iI z) h = some (h.1 33 z.toNat) := get_in rfl hz (by decide)
theorem gu33 {F : Nat} {z : Int} {h : Hp} (hz : z < 0 ∨ 240 ≤ z) (hb : -2147483648 ≤ z ∧ z < 2147483648) : X11_get F 33 (iI z) h = some (iI 0) := get_out rfl hz hb (by decide)
theorem pt33 {F : Nat} {z : Int} {v : Int32} {h : Hp} (hz : 0 ≤ z ∧ z < 240) : X11_put F 33 (iI z) v h = some (up h 33 z.toNat v) := put_in rfl hz (by decide)
theorem pu33 {F : Nat} {z : Int} {v : Int32} {h : Hp} (hz : z < 0 ∨ 240 ≤ z) (hb : -2147483648 ≤ z ∧ z < 2147483648) : X11_put F 33 (iI z) v h = some h := put_out rfl hz hb (by decide)
theorem gt34 {F : Nat} {z : Int} {h : Hp} (hz : 0 ≤ z ∧ z < 240) : X11_get F 34 (iI z) h = some (h.1 34 z.toNat) := get_in rfl hz (by decide)
theorem gu34 {F : Nat} {z : Int} {h : Hp} (hz : z < 0 ∨ 240 ≤ z) (hb : -2147483648 ≤ z ∧ z < 2147483648) : X11_get F 34 (iI z) h = some (iI 0) := get_out rfl hz hb (by decide)
theorem pt34 {F : Nat} {z : Int} {v : Int32} {h : Hp} (hz : 0 ≤ z ∧ z < 240) : X11_put F 34 (iI z) v h = some (up h 34 z.toNat v) := put_in rfl hz (by decide)
theorem pu34 {F : Nat} {z : Int} {v : Int32} {h : Hp} (hz : z < 0 ∨ 240 ≤ z) (hb : -2147483648 ≤ z ∧ z < 2147483648) : X11_put F 34 (iI z) v h = some h := put_out rfl hz hb (by decide)
theorem gt35 {F : Nat} {z : Int} {h : Hp} (hz : 0 ≤ z ∧ z < 24) : X11_get F 35 (iI z) h = some (h.1 35 z.toNat) := get_in rfl hz (by decide)
theorem gu35 {F : Nat} {z : Int} {h : Hp} (hz : z < 0 ∨ 24 ≤ z) (hb : -2147483648 ≤ z ∧ z < 2147483648) : X11_get F 35 (iI z) h = some (iI 0) := get_out rfl hz hb (by decide)
theorem pt35 {F : Nat} {z : Int} {v : Int32} {h : Hp} (hz : 0 ≤ z ∧ z < 24) : X11_put F 35 (iI z) v h = some (up h 35 z.toNat v) := put_in rfl hz (by decide)
theorem pu35 {F : Nat} {z : Int} {v : Int32} {h : Hp} (hz : z < 0 ∨ 24 ≤ z) (hb : -2147483648 ≤ z ∧ z < 2147483648) : X11_put F 35 (iI z) v h = some h := put_out rfl hz hb (by decide)
theorem gt37 {F : Nat} {z : Int} {h : Hp} (hz : 0 ≤ z ∧ z < 40) : X11_get F 37 (iI z) h = some (h.1 37 z.toNat) := get_in rfl hz (by decide)
theorem gu37 {F : Nat} {z : Int} {h : Hp} (hz : z < 0 ∨ 40 ≤ z) (hb : -2147483648 ≤ z ∧ z < 2147483648) : X11_get F 37 (iI z) h = some (iI 0) := get_out rfl hz hb (by decide)
theorem pt37 {F : Nat} {z : Int} {v : Int32} {h : Hp} (hz : 0 ≤ z ∧ z < 40) : X11_put F 37 (iI z) v h = some (up h 37 z.toNat v) := put_in rfl hz (by decide)
theorem pu37 {F : Nat} {z : Int} {v : Int32} {h : Hp} (hz : z < 0 ∨ 40 ≤ z) (hb : -2147483648 ≤ z ∧ z < 2147483648) : X11_put F 37 (iI z) v h = some h := put_out rfl hz hb (by decide)
theorem gt39 {F : Nat} {z : Int} {h : Hp} (hz : 0 ≤ z ∧ z < 40) : X11_get F 39 (iI z) h = some (h.1 39 z.toNat) := get_in rfl hz (by decide)
theorem gu39 {F : Nat} {z : Int} {h : Hp} (hz : z < 0 ∨ 40 ≤ z) (hb : -2147483648 ≤ z ∧ z < 2147483648) : X11_get F 39 (iI z) h = some (iI 0) := get_out rfl hz hb (by decide)
theorem pt39 {F : Nat} {z : Int} {v : Int32} {h : Hp} (hz : 0 ≤ z ∧ z < 40) : X11_put F 39 (iI z) v h = some (up h 39 z.toNat v) := put_in rfl hz (by decide)
theorem pu39 {F : Nat} {z : Int} {v : Int32} {h : Hp} (hz : z < 0 ∨ 40 ≤ z) (hb : -2147483648 ≤ z ∧ z < 2147483648) : X11_put F 39 (iI z) v h = some h := put_out rfl hz hb (by decide)
theorem gt41 {F : Nat} {z : Int} {h : Hp} (hz : 0 ≤ z ∧ z < 720) : X11_get F 41 (iI z) h = some (h.1 41 z.toNat) := get_in rfl hz (by decide)
theorem gu41 {F : Nat} {z : Int} {h : Hp} (hz : z < 0 ∨ 720 ≤ z) (hb : -2147483648 ≤ z ∧ z < 2147483648) : X11_get F 41 (iI z) h = some (iI 0) := get_out rfl hz hb (by decide)
theorem pt41 {F : Nat} {z : Int} {v : Int32} {h : Hp} (hz : 0 ≤ z ∧ z < 720) : X11_put F 41 (iI z) v h = some (up h 41 z.toNat v) := put_in rfl hz (by decide)
theorem pu41 {F : Nat} {z : Int} {v : Int32} {h : Hp} (hz : z < 0 ∨ 720 ≤ z) (hb : -2147483648 ≤ z ∧ z < 2147483648) : X11_put F 41 (iI z) v h = some h := put_out rfl hz hb (by decide)
theorem gt42 {F : Nat} {z : Int} {h : Hp} (hz : 0 ≤ z ∧ z < 720) : X11_get F 42 (iI z) h = some (h.1 42 z.toNat) := get_in rfl hz (by decide)
theorem gu42 {F : Nat} {z : Int} {h : Hp} (hz : z < 0 ∨ 720 ≤ z) (hb : -2147483648 ≤ z ∧ z < 2147483648) : X11_get F 42 (iI z) h = some (iI 0) := get_out rfl hz hb (by decide)
theorem pt42 {F : Nat} {z : Int} {v : Int32} {h : Hp} (hz : 0 ≤ z ∧ z < 720) : X11_put F 42 (iI z) v h = some (up h 42 z.toNat v) := put_in rfl hz (by decide)
theorem pu42 {F : Nat} {z : Int} {v : Int32} {h : Hp} (hz : z < 0 ∨ 720 ≤ z) (hb : -2147483648 ≤ z ∧ z < 2147483648) : X11_put F 42 (iI z) v h = some h := put_out rfl hz hb (by decide)
theorem gt44 {F : Nat} {z : Int} {h : Hp} (hz : 0 ≤ z ∧ z < 21) : X11_get F 44 (iI z) h = some (h.1 44 z.toNat) := get_in rfl hz (by decide)
theorem gu44 {F : Nat} {z : Int} {h : Hp} (hz : z < 0 ∨ 21 ≤ z) (hb : -2147483648 ≤ z ∧ z < 2147483648) : X11_get F 44 (iI z) h = some (iI 0) := get_out rfl hz hb (by decide)
theorem pt44 {F : Nat} {z : Int} {v : Int32} {h : Hp} (hz : 0 ≤ z ∧ z < 21) : X11_put F 44 (iI z) v h = some (up h 44 z.toNat v) := put_in rfl hz (by decide)
theorem pu44 {F : Nat} {z : Int} {v : Int32} {h : Hp} (hz : z < 0 ∨ 21 ≤ z) (hb : -2147483648 ≤ z ∧ z < 2147483648) : X11_put F 44 (iI z) v h = some h := put_out rfl hz hb (by decide)
theorem gt45 {F : Nat} {z : Int} {h : Hp} (hz : 0 ≤ z ∧ z < 61) : X11_get F 45 (iI z) h = some (h.1 45 z.toNat) := get_in rfl hz (by decide)
theorem gu45 {F : Nat} {z : Int} {h : Hp} (hz : z < 0 ∨ 61 ≤ z) (hb : -2147483648 ≤ z ∧ z < 2147483648) : X11_get F 45 (iI z) h = some (iI 0) := get_out rfl hz hb (by decide)
theorem pt45 {F : Nat} {z : Int} {v : Int32} {h : Hp} (hz : 0 ≤ z ∧ z < 61) : X11_put F 45 (iI z) v h = some (up h 45 z.toNat v) := put_in rfl hz (by decide)
theorem pu45 {F : Nat} {z : Int} {v : Int32} {h : Hp} (hz : z < 0 ∨ 61 ≤ z) (hb : -2147483648 ≤ z ∧ z < 2147483648) : X11_put F 45 (iI z) v h = some h := put_out rfl hz hb (by decide)
theorem gt46 {F : Nat} {z : Int} {h : Hp} (hz : 0 ≤ z ∧ z < 10) : X11_get F 46 (iI z) h = some (h.1 46 z.toNat) := get_in rfl hz (by decide)
theorem gu46 {F : Nat} {z : Int} {h : Hp} (hz : z < 0 ∨ 10 ≤ z) (hb : -2147483648 ≤ z ∧ z < 2147483648) : X11_get F 46 (iI z) h = some (iI 0) := get_out rfl hz hb (by decide)
theorem pt46 {F : Nat} {z : Int} {v : Int32} {h : Hp} (hz : 0 ≤ z ∧ z < 10) : X11_put F 46 (iI z) v h = some (up h 46 z.toNat v) := put_in rfl hz (by decide)
theorem pu46 {F : Nat} {z : Int} {v : Int32} {h : Hp} (hz : z < 0 ∨ 10 ≤ z) (hb : -2147483648 ≤ z ∧ z < 2147483648) : X11_put F 46 (iI z) v h = some h := put_out rfl hz hb (by decide)
theorem gt47 {F : Nat} {z : Int} {h : Hp} (hz : 0 ≤ z ∧ z < 5) : X11_get F 47 (iI z) h = some (h.1 47 z.toNat) := get_in rfl hz (by decide)
theorem gu47 {F : Nat} {z : Int} {h : Hp} (hz : z < 0 ∨ 5 ≤ z) (hb : -2147483648 ≤ z ∧ z < 2147483648) : X11_get F 47 (iI z) h = some (iI 0) := get_out rfl hz hb (by decide)
theorem pt47 {F : Nat} {z : Int} {v : Int32} {h : Hp} (hz : 0 ≤ z ∧ z < 5) : X11_put F 47 (iI z) v h = some (up h 47 z.toNat v) := put_in rfl hz (by decide)
theorem pu47 {F : Nat} {z : Int} {v : Int32} {h : Hp} (hz : z < 0 ∨ 5 ≤ z) (hb : -2147483648 ≤ z ∧ z < 2147483648) : X11_put F 47 (iI z) v h = some h := put_out rfl hz hb (by decide)
theorem gt48 {F : Nat} {z : Int} {h : Hp} (hz : 0 ≤ z ∧ z < 5) : X11_get F 48 (iI z) h = some (h.1 48 z.toNat) := get_in rfl hz (by decide)
theorem gu48 {F : Nat} {z : Int} {h : Hp} (hz : z < 0 ∨ 5 ≤ z) (hb : -2147483648 ≤ z ∧ z < 2147483648) : X11_get F 48 (iI z) h = some (iI 0) := get_out rfl hz hb (by decide)
theorem pt48 {F : Nat} {z : Int} {v : Int32} {h : Hp} (hz : 0 ≤ z ∧ z < 5) : X11_put F 48 (iI z) v h = some (up h 48 z.toNat v) := put_in rfl hz (by decide)
theorem pu48 {F : Nat} {z : Int} {v : Int32} {h : Hp} (hz : z < 0 ∨ 5 ≤ z) (hb : -2147483648 ≤ z ∧ z < 2147483648) : X11_put F 48 (iI z) v h = some h := put_out rfl hz hb (by decide)
def wi (x a b : Int) : Int := if a ≤ x ∧ x ≤ b then 1 else 0
theorem within_s {F : Nat} {x a b : Int} {h : Hp} (hx : -2147483648 ≤ x ∧ x < 2147483648) (ha : -2147483648 ≤ a ∧ a < 2147483648) (hb : -2147483648 ≤ b ∧ b < 2147483648) : X11_within F (iI x) (iI a) (iI b) h = some (iI (wi x a b)) := by
  unfold X11_within wi
  by_cases h1 : x < a
  · rw [iflt_p h1 (by omega), if_neg (by omega)]
    rfl
  · rw [iflt_n (by omega) (by omega)]
    by_cases h2 : b < x
    · rw [iflt_p h2 (by omega), if_neg (by omega)]
      rfl
    · rw [iflt_n (by omega) (by omega), if_pos (by omega)]
      rfl
theorem in_s {F : Nat} {x a b : Int} {h : Hp} (hx : -2147483648 ≤ x ∧ x < 2147483648) (ha : -2147483648 ≤ a ∧ a < 2147483648) (hb : -2147483648 ≤ b ∧ b < 2147483648) : X12_in F (iI x) (iI a) (iI b) h = some (iI (wi x a b)) := by
  unfold X12_in wi
  by_cases h1 : x < a
  · rw [iflt_p h1 (by omega), if_neg (by omega)]
    rfl
  · rw [iflt_n (by omega) (by omega)]
    by_cases h2 : b < x
    · rw [iflt_p h2 (by omega), if_neg (by omega)]
      rfl
    · rw [iflt_n (by omega) (by omega), if_pos (by omega)]
      rfl
theorem wi_1 {x a b : Int} (h : a ≤ x ∧ x ≤ b) : wi x a b = 1 := if_pos h
theorem wi_0 {x a b : Int} (h : ¬ (a ≤ x ∧ x ≤ b)) : wi x a b = 0 := if_neg h
theorem imin_s {a b : Int} (ha : -2147483648 ≤ a ∧ a < 2147483648) (hb : -2147483648 ≤ b ∧ b < 2147483648) : imin (iI a) (iI b) = iI (min a b) := by
  unfold imin
  by_cases h : b < a
  · rw [iflt_p h (by omega), Int.min_eq_right (by omega)]
  · rw [iflt_n (by omega) (by omega), Int.min_eq_left (by omega)]
theorem imax_s {a b : Int} (ha : -2147483648 ≤ a ∧ a < 2147483648) (hb : -2147483648 ≤ b ∧ b < 2147483648) : imax (iI a) (iI b) = iI (max a b) := by
  unfold imax
  by_cases h : a < b
  · rw [iflt_p h (by omega), Int.max_eq_right (by omega)]
  · rw [iflt_n (by omega) (by omega), Int.max_eq_left (by omega)]
theorem iabs_s {a : Int} (ha : -2147483647 ≤ a ∧ a < 2147483648) : iabs (iI a) = iI (a.natAbs : Int) := by
  unfold iabs
  rw [show (0 : Int32) = iI 0 from rfl]
  by_cases h : 0 ≤ a
  · rw [ifle_p h (by omega)]
    congr 1
    omega
  · rw [ifle_n (by omega) (by omega), iI_sub]
    congr 1
    omega
theorem xmin_s {F : Nat} {a b : Int} {h : Hp} (ha : -2147483648 ≤ a ∧ a < 2147483648) (hb : -2147483648 ≤ b ∧ b < 2147483648) : X12_min F (iI a) (iI b) h = some (iI (min a b)) := by
  unfold X12_min
  by_cases h : b ≤ a
  · rw [ifle_p h (by omega), Int.min_eq_right (by omega)]
  · rw [ifle_n (by omega) (by omega), Int.min_eq_left (by omega)]
theorem xmax_s {F : Nat} {a b : Int} {h : Hp} (ha : -2147483648 ≤ a ∧ a < 2147483648) (hb : -2147483648 ≤ b ∧ b < 2147483648) : X12_max F (iI a) (iI b) h = some (iI (max a b)) := by
  unfold X12_max
  by_cases h : a ≤ b
  · rw [ifle_p h (by omega), Int.max_eq_right (by omega)]
  · rw [ifle_n (by omega) (by omega), Int.max_eq_left (by omega)]
theorem xsize_s {F : Nat} {a : Int} {h : Hp} (ha : -2147483647 ≤ a ∧ a < 2147483648) : X12_size F (iI a) h = some (iI (a.natAbs : Int)) := by
  unfold X12_size
  rw [show (0 : Int32) = iI 0 from rfl]
  by_cases h : 0 ≤ a
  · rw [ifle_p h (by omega)]
    congr 2
    omega
  · rw [ifle_n (by omega) (by omega), iI_neg]
    congr 2
    omega
