/-! what holds of both systems between two calls -/
/-- a law: how many rules; of each its letter, where its amount, its test begin, where it ends; of each step its kind and its value -/
abbrev Lw : Type := Nat × (Nat → Int) × (Nat → Nat) × (Nat → Nat) × (Nat → Nat) × (Nat → Nat) × (Nat → Nat)
def lwN (L : Lw) : Nat := L.1
def lwK (L : Lw) : Nat → Int := L.2.1
def lwA (L : Lw) : Nat → Nat := L.2.2.1
def lwH (L : Lw) : Nat → Nat := L.2.2.2.1
def lwT (L : Lw) : Nat → Nat := L.2.2.2.2.1
def lwO (L : Lw) : Nat → Nat := L.2.2.2.2.2.1
def lwV (L : Lw) : Nat → Nat := L.2.2.2.2.2.2
def sgn (o : Nat) : Int := [48, 97, 43, 45, 42, 47, 37, 60, 62, 61, 33, 38, 124].getD o 0
/-- the law as the class has it, in object a -/
def LC (a : Nat) (h : Hp) (L : Lw) : Prop := h.1 a 7 = iI (lwN L) ∧ ∀ q : Nat, q < lwN L → h.1 (a + 1) q = iI (lwK L q) ∧ h.1 (a + 2) q = iI (lwA L q) ∧ h.1 (a + 3) q = iI (lwH L q) ∧ h.1 (a + 4) q = iI (lwT L q) ∧ ∀ k : Nat, lwA L q ≤ k → k < lwT L q → h.1 (a + 5) k = iI (sgn (lwO L k)) ∧ h.1 (a + 6) k = iI (lwV L k)
def LR (h : Hp) (L : Lw) : Prop := h.1 49 16 = iI (lwN L) ∧ ∀ q : Nat, q < lwN L → h.1 63 q = iI (lwK L q) ∧ h.1 64 q = iI (lwA L q) ∧ h.1 65 q = iI (lwH L q) ∧ h.1 66 q = iI (lwT L q) ∧ ∀ k : Nat, lwA L q ≤ k → k < lwT L q → h.1 62 k = iI (1048576 * lwO L k + lwV L k)
/-- steps from a to b that leave one value, z: whether it is 0 or 1; d: what lies on the heap at each step, the newest first, whether it is 0 or 1 -/
def Steps1 (L : Lw) (d : Nat → List Bool) (e k : Nat) : Prop :=
  (d k).length ≤ 23 ∧
  ((lwO L k = 0 ∧ d (k + 1) = false :: d k ∧ lwV L k < 100000) ∨ (lwO L k = 1 ∧ d (k + 1) = false :: d k ∧ lwV L k < 9) ∨
   (2 ≤ lwO L k ∧ lwO L k ≤ 6 ∧ lwV L k = 0 ∧ ∃ r, d k = false :: false :: r ∧ d (k + 1) = false :: r) ∨
   (7 ≤ lwO L k ∧ lwO L k ≤ 9 ∧ lwV L k = 0 ∧ ∃ r, d k = false :: false :: r ∧ d (k + 1) = true :: r) ∨
   (lwO L k = 10 ∧ lwV L k = 0 ∧ ∃ r, d k = true :: r ∧ d (k + 1) = true :: r) ∨
   ((lwO L k = 11 ∨ lwO L k = 12) ∧ k < lwV L k ∧ lwV L k ≤ e ∧ ∃ r, d k = true :: r ∧ d (k + 1) = r ∧ d (lwV L k) = true :: r))
def Code1 (L : Lw) (a e : Nat) (z : Bool) : Prop := ∃ d : Nat → List Bool, d a = [] ∧ d e = [z] ∧ ∀ k, a ≤ k → k < e → Steps1 L d e k
def OKL (L : Lw) : Prop := lwN L ≤ 16 ∧ ∀ q, q < lwN L → lwA L q ≤ lwH L q ∧ lwH L q ≤ lwT L q ∧ lwT L q ≤ 240 ∧ (lwK L q = 119 ∨ lwK L q = 99 ∨ lwK L q = 105 ∨ lwK L q = 110 ∨ lwK L q = 120) ∧ (lwK L q ≠ 120 → Code1 L (lwA L q) (lwH L q) false) ∧ Code1 L (lwH L q) (lwT L q) true
def b01 (b : Bool) : Int := if b then 1 else 0
def IC (sw : Bool) (tl : Int) (t : Nat → Int) (M : Nat → Nat) (st N K : Nat → Int) (kb : Bool) (tm : Int) (L : Lw) (h : Hp) : Prop :=
  h.1 0 1 = iI tl ∧ (∀ j : Nat, j < 260 → h.1 1 j = iI (t j)) ∧ CP h M st ∧ CN 25 26 h N ∧ (kb = true → CN 36 37 h K) ∧ h.1 0 11 = iI (b01 kb) ∧ h.1 20 5 = iI tm ∧ LC (if sw then 12 else 28) h L
def IR (tl : Int) (t : Nat → Int) (M : Nat → Nat) (st N K : Nat → Int) (kb : Bool) (tm : Int) (L : Lw) (h : Hp) : Prop :=
  h.1 49 7 = iI tl ∧ (∀ j : Nat, j < 260 → h.1 55 j &&& 255 = iI (t j)) ∧ RP h M st ∧ RN 50 h N ∧ (kb = true → RN 52 h K) ∧ h.1 49 50 = iI (b01 kb) ∧ h.1 49 5 = iI tm ∧ LR h L
def OKS (tl : Int) (t : Nat → Int) (M : Nat → Nat) (st N K : Nat → Int) (kb : Bool) (tm : Int) (L : Lw) : Prop :=
  (0 ≤ tl ∧ tl ≤ 260) ∧ (∀ j, 0 ≤ t j ∧ t j ≤ 255) ∧ OKP M st ∧ OKN N ∧ (kb = true → OKN K) ∧ (0 ≤ tm ∧ tm ≤ 99999) ∧ OKL L
def Inv (h : Hp) : Prop := ∃ (sw : Bool) (tl : Int) (t : Nat → Int) (M : Nat → Nat) (st N K : Nat → Int) (kb : Bool) (tm : Int) (L : Lw), h.2 = pr sw ∧ OKS tl t M st N K kb tm L ∧ IC sw tl t M st N K kb tm L h ∧ IR tl t M st N K kb tm L h
/-- what the class says is unchanged where its ids are -/
theorem IC_fr {sw : Bool} {tl : Int} {t : Nat → Int} {M : Nat → Nat} {st N K : Nat → Int} {kb : Bool} {tm : Int} {L : Lw} {h h1 : Hp} (e : ∀ i, i < 49 → h1.1 i = h.1 i) (C : IC sw tl t M st N K kb tm L h) : IC sw tl t M st N K kb tm L h1 := by
  have q : ∀ i, i < 49 → ∀ j, h1.1 i j = h.1 i j := fun i hi j => congrFun (e i hi) j
  obtain ⟨c1, c2, c3, c4, c5, c6, c7, c8⟩ := C
  refine ⟨?_, ?_, ⟨?_, ?_, ?_, ?_⟩, ⟨?_, ?_, ?_, ?_, ?_, ?_, ?_, ?_⟩, fun hk => ?_, ?_, ?_, ?_⟩
  · rw [q _ (by decide)]; exact c1
  · intro j hj; rw [q _ (by decide)]; exact c2 j hj
  · rw [q _ (by decide)]; exact c3.1
  · rw [q _ (by decide)]; exact c3.2.1
  · intro i hi; rw [q _ (by decide)]; exact c3.2.2.1 i hi
  · intro i hi; rw [q _ (by decide)]; exact c3.2.2.2 i hi
  · rw [q _ (by decide)]; exact c4.1
  · rw [q _ (by decide)]; exact c4.2.1
  · intro i hi; rw [q _ (by decide)]; exact c4.2.2.1 i hi
  · rw [q _ (by decide)]; exact c4.2.2.2.1
  · rw [q _ (by decide)]; exact c4.2.2.2.2.1
  · rw [q _ (by decide)]; exact c4.2.2.2.2.2.1
  · rw [q _ (by decide)]; exact c4.2.2.2.2.2.2.1
  · rw [q _ (by decide)]; exact c4.2.2.2.2.2.2.2
  · obtain ⟨d1, d2, d3, d4, d5, d6, d7, d8⟩ := c5 hk
    refine ⟨?_, ?_, ?_, ?_, ?_, ?_, ?_, ?_⟩
    · rw [q _ (by decide)]; exact d1
    · rw [q _ (by decide)]; exact d2
    · intro i hi; rw [q _ (by decide)]; exact d3 i hi
    · rw [q _ (by decide)]; exact d4
    · rw [q _ (by decide)]; exact d5
    · rw [q _ (by decide)]; exact d6
    · rw [q _ (by decide)]; exact d7
    · rw [q _ (by decide)]; exact d8
  · rw [q _ (by decide)]; exact c6
  · rw [q _ (by decide)]; exact c7
  · have hs : (if sw then 12 else 28) + 6 < 49 := by split <;> decide
    refine ⟨?_, fun z hz => ?_⟩
    · rw [q _ (by omega)]; exact c8.1
    · obtain ⟨d1, d2, d3, d4, d5⟩ := c8.2 z hz
      refine ⟨?_, ?_, ?_, ?_, fun k h1 h2 => ⟨?_, ?_⟩⟩
      · rw [q _ (by omega)]; exact d1
      · rw [q _ (by omega)]; exact d2
      · rw [q _ (by omega)]; exact d3
      · rw [q _ (by omega)]; exact d4
      · rw [q _ (by omega)]; exact (d5 k h1 h2).1
      · rw [q _ (by omega)]; exact (d5 k h1 h2).2
theorem IR_fr {tl : Int} {t : Nat → Int} {M : Nat → Nat} {st N K : Nat → Int} {kb : Bool} {tm : Int} {L : Lw} {h h1 : Hp} (e : ∀ i, 49 ≤ i → h1.1 i = h.1 i) (C : IR tl t M st N K kb tm L h) : IR tl t M st N K kb tm L h1 := by
  have q : ∀ i, 49 ≤ i → ∀ j, h1.1 i j = h.1 i j := fun i hi j => congrFun (e i hi) j
  obtain ⟨c1, c2, c3, c4, c5, c6, c7, c8⟩ := C
  refine ⟨?_, ?_, ⟨?_, ?_, ?_⟩, ?_, fun hk => ?_, ?_, ?_, ?_⟩
  · rw [q _ (by decide)]; exact c1
  · intro j hj; rw [q _ (by decide)]; exact c2 j hj
  · rw [q _ (by decide)]; exact c3.1
  · rw [q _ (by decide)]; exact c3.2.1
  · intro s i h1 h2; rw [q _ (by decide)]; exact c3.2.2 s i h1 h2
  · intro i hi; rw [q _ (by decide)]; exact c4 i hi
  · intro i hi; rw [q _ (by decide)]; exact c5 hk i hi
  · rw [q _ (by decide)]; exact c6
  · rw [q _ (by decide)]; exact c7
  · refine ⟨?_, fun z hz => ?_⟩
    · rw [q _ (by decide)]; exact c8.1
    · obtain ⟨d1, d2, d3, d4, d5⟩ := c8.2 z hz
      refine ⟨?_, ?_, ?_, ?_, fun k h1 h2 => ?_⟩
      · rw [q _ (by decide)]; exact d1
      · rw [q _ (by decide)]; exact d2
      · rw [q _ (by decide)]; exact d3
      · rw [q _ (by decide)]; exact d4
      · rw [q _ (by decide)]; exact d5 k h1 h2
/-- one call, of both -/
def Eff (F : Nat) (f g : Hp → Option (Int32 × Hp)) (h : Hp) : Prop := ∃ r h1 h2, f h = some (r, h1) ∧ g h1 = some (r, h2) ∧ Inv h2
def Eq1 (f g : Option Int32) : Prop := ∃ r, f = some r ∧ g = some r
theorem eq1_of {f g : Option Int32} {r : Int32} (a : f = some r) (b : g = some r) : Eq1 f g := ⟨r, a, b⟩
section inv
variable {F : Nat} {sw : Bool} {tl : Int} {t : Nat → Int} {M : Nat → Nat} {st N K : Nat → Int} {kb : Bool} {tm : Int} {L : Lw} {h : Hp}
theorem cq_of (hP : h.2 = pr sw) (O : OKS tl t M st N K kb tm L) (C : IC sw tl t M st N K kb tm L h) : CQ sw h M st N := ⟨hP, C.2.2.1, C.2.2.2.1, O.2.2.1, O.2.2.2.1⟩
theorem rq_of (hP : h.2 = pr sw) (O : OKS tl t M st N K kb tm L) (R : IR tl t M st N K kb tm L h) : RQ sw h M st N := ⟨hP, R.2.2.1, R.2.2.2.1, O.2.2.1, O.2.2.2.1⟩
end inv
/-- any number of the script -/
theorem sc (x : Int32) : ∃ z : Int, x = iI z ∧ -2147483648 ≤ z ∧ z < 2147483648 := by
  refine ⟨x.toInt, iI_of x, ?_, ?_⟩
  · have := x.le_toInt
    omega
  · have := x.toInt_lt
    omega
