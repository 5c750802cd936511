/-! what holds of both systems between two calls -/
/-- a law: how many rules; of each its letter, where its amount, its test begin, where it ends; of each step its kind and its value -/
abbrev Lw : Type := Nat × (Nat → Int) × (Nat → Nat) × (Nat → Nat) × (Nat → Nat) × (Nat → Nat) × (Nat → Nat)
def lwN (L : Lw) : Nat := L.1
def lwK (L : Lw) : Nat → Int := L.2.1
def lwA (L : Lw) : Nat → Nat := L.2.2.1
def lwH (L : Lw) : Nat → Nat := L.2.2.2.1
def lwT (L : Lw) : Nat → Nat := L.2.2.2.2.1
def lwO (L : Lw) : Nat → Nat := L.2.2.2.2.2.1
def lwV (L : Lw) : Nat → Nat := L.2.2.2.2.2.2
def sgn (o : Nat) : Int := [48, 97, 43, 45, 42, 47, 37, 60, 62, 61, 33, 38, 124].getD o 0
/-- the law as the class has it, in object a -/
def LC (a : Nat) (h : Hp) (L : Lw) : Prop := h.1 a 7 = iI (lwN L) ∧ ∀ q : Nat, q < lwN L → h.1 (a + 1) q = iI (lwK L q) ∧ h.1 (a + 2) q = iI (lwA L q) ∧ h.1 (a + 3) q = iI (lwH L q) ∧ h.1 (a + 4) q = iI (lwT L q) ∧ ∀ k : Nat, lwA L q ≤ k → k < lwT L q → h.1 (a + 5) k = iI (sgn (lwO L k)) ∧ h.1 (a + 6) k = iI (lwV L k)
def LR (h : Hp) (L : Lw) : Prop := h.1 49 16 = iI (lwN L) ∧ ∀ q : Nat, q < lwN L → h.1 63 q = iI (lwK L q) ∧ h.1 64 q = iI (lwA L q) ∧ h.1 65 q = iI (lwH L q) ∧ h.1 66 q = iI (lwT L q) ∧ ∀ k : Nat, lwA L q ≤ k → k < lwT L q → h.1 62 k = iI (1048576 * lwO L k + lwV L k)
/-- steps from a to b that leave one value, z: whether it is 0 or 1; d: what lies on the heap at each step, the newest first, whether it is 0 or 1 -/
def Steps1 (L : Lw) (d : Nat → List Bool) (e k : Nat) : Prop :=
  (d k).length ≤ 23 ∧
  ((lwO L k = 0 ∧ d (k + 1) = false :: d k ∧ lwV L k < 100000) ∨ (lwO L k = 1 ∧ d (k + 1) = false :: d k ∧ lwV L k < 9) ∨
   (2 ≤ lwO L k ∧ lwO L k ≤ 6 ∧ lwV L k = 0 ∧ ∃ r, d k = false :: false :: r ∧ d (k + 1) = false :: r) ∨
   (7 ≤ lwO L k ∧ lwO L k ≤ 9 ∧ lwV L k = 0 ∧ ∃ r, d k = false :: false :: r ∧ d (k + 1) = true :: r) ∨
   (lwO L k = 10 ∧ lwV L k = 0 ∧ ∃ r, d k = true :: r ∧ d (k + 1) = true :: r) ∨
   ((lwO L k = 11 ∨ lwO L k = 12) ∧ k < lwV L k ∧ lwV L k ≤ e ∧ ∃ r, d k = true :: r ∧ d (k + 1) = r ∧ d (lwV L k) = true :: r))
def Code1 (L : Lw) (a e : Nat) (z : Bool) : Prop := ∃ d : Nat → List Bool, d a = [] ∧ d e = [z] ∧ ∀ k, a ≤ k → k < e → Steps1 L d e k
def OKL (L : Lw) : Prop := lwN L ≤ 16 ∧ ∀ q, q < lwN L → lwA L q ≤ lwH L q ∧ lwH L q ≤ lwT L q ∧ lwT L q ≤ 240 ∧ (lwK L q = 119 ∨ lwK L q = 99 ∨ lwK L q = 105 ∨ lwK L q = 110 ∨ lwK L q = 120) ∧ (lwK L q ≠ 120 → Code1 L (lwA L q) (lwH L q) false) ∧ Code1 L (lwH L q) (lwT L q) true
def b01 (b : Bool) : Int := if b then 1 else 0
def IC (sw : Bool) (tl : Int) (t : Nat → Int) (M : Nat → Nat) (st N K : Nat → Int) (kb : Bool) (tm : Int) (L : Lw) (h : Hp) : Prop :=
  h.1 0 1 = iI tl ∧ (∀ j : Nat, j < 260 → h.1 1 j = iI (t j)) ∧ CP h M st ∧ CN 25 26 h N ∧ (kb = true → CN 36 37 h K) ∧ h.1 0 11 = iI (b01 kb) ∧ h.1 20 5 = iI tm ∧ LC (if sw then 12 else 28) h L
def IR (tl : Int) (t : Nat → Int) (M : Nat → Nat) (st N K : Nat → Int) (kb : Bool) (tm : Int) (L : Lw) (h : Hp) : Prop :=
  h.1 49 7 = iI tl ∧ (∀ j : Nat, j < 260 → h.1 55 j &&& 255 = iI (t j)) ∧ RP h M st ∧ RN 50 h N ∧ (kb = true → RN 52 h K) ∧ h.1 49 50 = iI (b01 kb) ∧ h.1 49 5 = iI tm ∧ LR h L
def OKS (tl : Int) (t : Nat → Int) (M : Nat → Nat) (st N K : Nat → Int) (kb : Bool) (tm : Int) (L : Lw) : Prop :=
  (0 ≤ tl ∧ tl ≤ 260) ∧ (∀ j, 0 ≤ t j ∧ t j ≤ 255) ∧ OKP M st ∧ OKN N ∧ (kb = true → OKN K) ∧ (0 ≤ tm ∧ tm ≤ 99999) ∧ OKL L
def Inv (h : Hp) : Prop := ∃ (sw : Bool) (tl : Int) (t : Nat → Int) (M : Nat → Nat) (st N K : Nat → Int) (kb : Bool) (tm : Int) (L : Lw), h.2 = pr sw ∧ OKS tl t M st N K kb tm L ∧ IC sw tl t M st N K kb tm L h ∧ IR tl t M st N K kb tm L h
/-- what the class says is unchanged where its ids are -/
theorem IC_fr {sw : Bool} {tl : Int} {t : Nat → Int} {M : Nat → Nat} {st N K : Nat → Int} {kb : Bool} {tm : Int} {L : Lw} {h h1 : Hp} (e : ∀ i, i < 49 → h1.1 i = h.1 i) (C : IC sw tl t M st N K kb tm L h) : IC sw tl t M st N K kb tm L h1 := by
  have q : ∀ i, i < 49 → ∀ j, h1.1 i j = h.1 i j := fun i hi j => congrFun (e i hi) j
  obtain ⟨c1, c2, c3, c4, c5, c6, c7, c8⟩ := C
  refine ⟨?_, ?_, ⟨?_, ?_, ?_, ?_⟩, ⟨?_, ?_, ?_, ?_, ?_, ?_, ?_, ?_⟩, fun hk => ?_, ?_, ?_, ?_⟩
  · rw [q _ (by decide)]; exact c1
  · intro j hj; rw [q _ (by decide)]; exact c2 j hj
  · rw [q _ (by decide)]; exact c3.1
  · rw [q _ (by decide)]; exact c3.2.1
  · intro i hi; rw [q _ (by decide)]; exact c3.2.2.1 i hi
  · intro i hi; rw [q _ (by decide)]; exact c3.2.2.2 i hi
  · rw [q _ (by decide)]; exact c4.1
  · rw [q _ (by decide)]; exact c4.2.1
  · intro i hi; rw [q _ (by decide)]; exact c4.2.2.1 i hi
  · rw [q _ (by decide)]; exact c4.2.2.2.1
  · rw [q _ (by decide)]; exact c4.2.2.2.2.1
  · rw [q _ (by decide)]; exact c4.2.2.2.2.2.1
  · rw [q _ (by decide)]; exact c4.2.2.2.2.2.2.1
  · rw [q _ (by decide)]; exact c4.2.2.2.2.2.2.2
  · obtain ⟨d1, d2, d3, d4, d5, d6, d7, d8⟩ := c5 hk
    refine ⟨?_, ?_, ?_, ?_, ?_, ?_, ?_, ?_⟩
    · rw [q _ (by decide)]; exact d1
    · rw [q _ (by decide)]; exact d2
    · intro i hi; rw [q _ (by decide)]; exact d3 i hi
    · rw [q _ (by decide)]; exact d4
    · rw [q _ (by decide)]; exact d5
    · rw [q _ (by decide)]; exact d6
    · rw [q _ (by decide)]; exact d7
    · rw [q _ (by decide)]; exact d8
  · rw [q _ (by decide)]; exact c6
  · rw [q _ (by decide)]; exact c7
  · have hs : (if sw then 12 else 28) + 6 < 49 := by split <;> decide
    refine ⟨?_, fun z hz => ?_⟩
    · rw [q _ (by omega)]; exact c8.1
    · obtain ⟨d1, d2, d3, d4, d5⟩ := c8.2 z hz
      refine ⟨?_, ?_, ?_, ?_, fun k h1 h2 => ⟨?_, ?_⟩⟩
      · rw [q _ (by omega)]; exact d1
      · rw [q _ (by omega)]; exact d2
      · rw [q _ (by omega)]; exact d3
      · rw [q _ (by omega)]; exact d4
      · rw [q _ (by omega)]; exact (d5 k h1 h2).1
      · rw [q _ (by omega)]; exact (d5 k h1 h2).2
theorem IR_fr {tl : Int} {t : Nat → Int} {M : Nat → Nat} {st N K : Nat → Int} {kb : Bool} {tm : Int} {L : Lw} {h h1 : Hp} (e : ∀ i, 49 ≤ i → h1.1 i = h.1 i) (C : IR tl t M st N K kb tm L h) : IR tl t M st N K kb tm L h1 := by
  have q : ∀ i, 49 ≤ i → ∀ j, h1.1 i j = h.1 i j := fun i hi j => congrFun (e i hi) j
  obtain ⟨c1, c2, c3, c4, c5, c6, c7, c8⟩ := C
  refine ⟨?_, ?_, ⟨?_, ?_, ?_⟩, ?_, fun hk => ?_, ?_, ?_, ?_⟩
  · rw [q _ (by decide)]; exact c1
  · intro j hj; rw [q _ (by decide)]; exact c2 j hj
  · rw [q _ (by decide)]; exact c3.1
  · rw [q _ (by decide)]; exact c3.2.1
  · intro s i h1 h2; rw [q _ (by decide)]; exact c3.2.2 s i h1 h2
  · intro i hi; rw [q _ (by decide)]; exact c4 i hi
  · intro i hi; rw [q _ (by decide)]; exact c5 hk i hi
  · rw [q _ (by decide)]; exact c6
  · rw [q _ (by decide)]; exact c7
  · refine ⟨?_, fun z hz => ?_⟩
    · rw [q _ (by decide)]; exact c8.1
    · obtain ⟨d1, d2, d3, d4, d5⟩ := c8.2 z hz
      refine ⟨?_, ?_, ?_, ?_, fun k h1 h2 => ?_⟩
      · rw [q _ (by decide)]; exact d1
      · rw [q _ (by decide)]; exact d2
      · rw [q _ (by decide)]; exact d3
      · rw [q _ (by decide)]; exact d4
      · rw [q _ (by decide)]; exact d5 k h1 h2
theorem up_row {h : Hp} {a j i : Nat} {v : Int32} (hi : i ≠ a) : (up h a j v).1 i = h.1 i := funext fun q => up_same (fun e => hi e.1)
theorem up_slot {h : Hp} {a j i q : Nat} {v : Int32} (hi : q ≠ j) : (up h a j v).1 i q = h.1 i q := up_same (fun e => hi e.2)
theorem cp_fr {h h1 : Hp} {M : Nat → Nat} {st : Nat → Int} (e : ∀ i, 21 ≤ i → i ≤ 24 → h1.1 i = h.1 i) (C : CP h M st) : CP h1 M st := by
  unfold CP
  rw [e 21 (by decide) (by decide), e 22 (by decide) (by decide), e 23 (by decide) (by decide), e 24 (by decide) (by decide)]
  exact C
theorem cn_fr {o b : Nat} {h h1 : Hp} {N : Nat → Int} (e : h1.1 o = h.1 o) (eb : h1.1 b = h.1 b) (C : CN o b h N) : CN o b h1 N := by
  unfold CN
  rw [e, eb]
  exact C
theorem lc_fr {a : Nat} {h h1 : Hp} {L : Lw} (e : ∀ i, a ≤ i → i ≤ a + 6 → h1.1 i = h.1 i) (C : LC a h L) : LC a h1 L := by
  unfold LC
  rw [e a (by omega) (by omega), e (a + 1) (by omega) (by omega), e (a + 2) (by omega) (by omega), e (a + 3) (by omega) (by omega), e (a + 4) (by omega) (by omega), e (a + 5) (by omega) (by omega), e (a + 6) (by omega) (by omega)]
  exact C
theorem rp_fr {h h1 : Hp} {M : Nat → Nat} {st : Nat → Int} (e : h1.1 53 = h.1 53) (e2 : h1.1 54 = h.1 54) (C : RP h M st) : RP h1 M st := by
  unfold RP
  rw [e, e2]
  exact C
theorem rn_fr {r : Nat} {h h1 : Hp} {N : Nat → Int} (e : h1.1 r = h.1 r) (C : RN r h N) : RN r h1 N := by
  unfold RN
  rw [e]
  exact C
theorem lr_fr {h h1 : Hp} {L : Lw} (e0 : h1.1 49 16 = h.1 49 16) (e : ∀ i, 62 ≤ i → i ≤ 66 → h1.1 i = h.1 i) (C : LR h L) : LR h1 L := by
  unfold LR
  rw [e0, e 62 (by decide) (by decide), e 63 (by decide) (by decide), e 64 (by decide) (by decide), e 65 (by decide) (by decide), e 66 (by decide) (by decide)]
  exact C
/-- one call, of both -/
def Eff (F : Nat) (f g : Hp → Option (Int32 × Hp)) (h : Hp) : Prop := ∃ r h1 h2, f h = some (r, h1) ∧ g h1 = some (r, h2) ∧ Inv h2
def Eq1 (f g : Option Int32) : Prop := ∃ r, f = some r ∧ g = some r
theorem eq1_of {f g : Option Int32} {r : Int32} (a : f = some r) (b : g = some r) : Eq1 f g := ⟨r, a, b⟩
theorem eff_of {F : Nat} {f g : Hp → Option (Int32 × Hp)} {h h1 h2 : Hp} {r : Int32} {sw : Bool} {tl : Int} {t : Nat → Int} {M : Nat → Nat} {st N K : Nat → Int} {kb : Bool} {tm : Int} {L : Lw} (hf : f h = some (r, h1)) (hg : g h1 = some (r, h2)) (hP : h1.2 = pr sw) (hW : Fm (fun i => 49 ≤ i) h1 h2) (O : OKS tl t M st N K kb tm L) (C : IC sw tl t M st N K kb tm L h1) (R : IR tl t M st N K kb tm L h2) : Eff F f g h :=
  ⟨r, h1, h2, hf, hg, sw, tl, t, M, st, N, K, kb, tm, L, hW.1.trans hP, O, IC_fr (fun i hi => hW.2 i (by show ¬ 49 ≤ i; omega)) C, R⟩
section inv
variable {F : Nat} {sw : Bool} {tl : Int} {t : Nat → Int} {M : Nat → Nat} {st N K : Nat → Int} {kb : Bool} {tm : Int} {L : Lw} {h : Hp}
theorem cq_of (hP : h.2 = pr sw) (O : OKS tl t M st N K kb tm L) (C : IC sw tl t M st N K kb tm L h) : CQ sw h M st N := ⟨hP, C.2.2.1, C.2.2.2.1, O.2.2.1, O.2.2.2.1⟩
theorem rq_of (hP : h.2 = pr sw) (O : OKS tl t M st N K kb tm L) (R : IR tl t M st N K kb tm L h) : RQ sw h M st N := ⟨hP, R.2.2.1, R.2.2.2.1, O.2.2.1, O.2.2.2.1⟩
end inv
/-- any number of the script -/
theorem sc (x : Int32) : ∃ z : Int, x = iI z ∧ -2147483648 ≤ z ∧ z < 2147483648 := by
  refine ⟨x.toInt, iI_of x, ?_, ?_⟩
  · have := x.le_toInt
    omega
  · have := x.toInt_lt
    omega
