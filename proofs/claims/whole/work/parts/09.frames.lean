/-! WHICH IDS A METHOD MAY WRITE -/
def Fm (A : Nat → Prop) (h h1 : Hp) : Prop := h1.2 = h.2 ∧ ∀ i, ¬ A i → h1.1 i = h.1 i
theorem fm_rf {A : Nat → Prop} {h : Hp} : Fm A h h := ⟨rfl, fun _ _ => rfl⟩
theorem fm_tr {A : Nat → Prop} {h h1 h2 : Hp} (a : Fm A h h1) (b : Fm A h1 h2) : Fm A h h2 := ⟨b.1.trans a.1, fun i hi => (b.2 i hi).trans (a.2 i hi)⟩
theorem fm_up {A : Nat → Prop} {h h1 : Hp} {a j : Nat} {v : Int32} (e : h1 = up h a j v) (ha : A a) : Fm A h h1 := by
  subst e
  exact ⟨rfl, fun i hi => funext fun q => up_same (fun z => hi (z.1 ▸ ha))⟩
theorem fm_uc {A : Nat → Prop} {h h1 : Hp} {a b x y z : Nat} (e : h1 = uc h a b x y z) (hb : A b) : Fm A h h1 := by
  subst e
  refine ⟨rfl, fun i hi => funext fun q => ?_⟩
  exact if_neg (fun w : i = b => hi (by rw [w]; exact hb))
theorem ite_ex {α : Type} {c : Prop} {i : Decidable c} {x y r : α} (h : (if c then x else y) = r) : (c ∧ x = r) ∨ (¬ c ∧ y = r) := by
  by_cases hc : c
  · exact Or.inl ⟨hc, (if_pos hc).symm.trans h⟩
  · exact Or.inr ⟨hc, (if_neg hc).symm.trans h⟩
theorem W_X11_put_0 (A : Nat → Prop) (F : Nat) {h : Hp} {a0 : Nat} {x1 : Int32} {x2 : Int32} {h1 : Hp} (P_0 : A a0) (hf : X11_put F a0 x1 x2 h = some h1) : Fm A h h1 := by
  unfold X11_put at hf
  have m0 := fm_rf (A := A) (h := h)
  rcases ite_ex hf with ⟨q_1, hf⟩ | ⟨q_1, hf⟩
  · skip
    cases hf
    exact m0
  · skip
    obtain ⟨k_2, hf⟩ := gq_ex hf
    rcases ite_ex hf with ⟨q_3, hf⟩ | ⟨q_3, hf⟩
    · skip
      cases hf
      exact m0
    · skip
      obtain ⟨b_4, hf⟩ := gq_ex hf
      obtain ⟨h_5, eh_5, hf⟩ := bd_ex hf
      have mh_5 := fm_tr m0 (fm_up eh_5 (P_0))
      cases hf
      exact mh_5
theorem W_X11_put (A : Nat → Prop) (F : Nat) {h : Hp} {a0 : Nat} {x1 : Int32} {x2 : Int32} {h1 : Hp} (P_0 : A a0) (hf : X11_put F a0 x1 x2 h = some h1) : Fm A h h1 := W_X11_put_0 A F P_0 hf
theorem W_X0_ringFrom_97 (A : Nat → Prop) (F : Nat) {k22 : Nat → Int32 → Int32 → Int32 → Int32 → Int32 → Hp → Option (Int32 × Hp)} (hk22 : ∀ {h : Hp} {a0 : Nat} {x1 : Int32} {x2 : Int32} {x4 : Int32} {x5 : Int32} {x6 : Int32} {r : Int32} {h1 : Hp} (_ : ∀ q0, h.2 a0 1 = some q0 → A q0) (_ : ∀ q0, h.2 a0 0 = some q0 → A q0), k22 a0 x1 x2 x4 x5 x6 h = some (r, h1) → Fm A h h1) {h : Hp} {a0 : Nat} {x1 : Int32} {x2 : Int32} {x4 : Int32} {x5 : Int32} {x6 : Int32} {r : Int32} {h1 : Hp} (P_0 : ∀ q0, h.2 a0 1 = some q0 → A q0) (P_1 : ∀ q0, h.2 a0 0 = some q0 → A q0) (hf : X0_ringFrom_97 F k22 a0 x1 x2 x4 x5 x6 h = some (r, h1)) : Fm A h h1 := by
  unfold X0_ringFrom_97 at hf
  have m0 := fm_rf (A := A) (h := h)
  obtain ⟨x6_1, ex6_1, hf⟩ := bd_ex hf
  exact fm_tr m0 (hk22 (fun q0 e0 => P_0 q0 (m0.1 ▸ e0)) (fun q0 e0 => P_1 q0 (m0.1 ▸ e0)) hf)
theorem W_X0_ringFrom_22 (A : Nat → Prop) (F : Nat) : ∀ (f : Nat) {h : Hp} {a0 : Nat} {x1 : Int32} {x2 : Int32} {x4 : Int32} {x5 : Int32} {x6 : Int32} {r : Int32} {h1 : Hp} (P_0 : ∀ q0, h.2 a0 1 = some q0 → A q0) (P_1 : ∀ q0, h.2 a0 0 = some q0 → A q0), X0_ringFrom_22 F f a0 x1 x2 x4 x5 x6 h = some (r, h1) → Fm A h h1 := by
  intro f
  induction f with
  | zero =>
    intro h a0 x1 x2 x4 x5 x6 r h1 P_0 P_1 hf
    exact nomatch (show (none : Option _) = some _ from hf)
  | succ f ih =>
    intro h a0 x1 x2 x4 x5 x6 r h1 P_0 P_1 hf
    rw [X0_ringFrom_22] at hf
    have m0 := fm_rf (A := A) (h := h)
    rcases ite_ex hf with ⟨q_1, hf⟩ | ⟨q_1, hf⟩
    · skip
      cases hf
      exact m0
    · skip
      rcases ite_ex hf with ⟨q_2, hf⟩ | ⟨q_2, hf⟩
      · skip
        obtain ⟨c_3, ec_3, hf⟩ := ob_ex hf
        obtain ⟨c_5, ec_5, hf⟩ := ob_ex hf
        obtain ⟨k_7, hf⟩ := gq_ex hf
        obtain ⟨j_8, ej_8, hf⟩ := ob_ex hf
        have zj_8 : h.2 a0 1 = some j_8 := m0.1 ▸ ej_8
        obtain ⟨c_9, ec_9, hf⟩ := ob_ex hf
        rcases ite_ex hf with ⟨q_11, hf⟩ | ⟨q_11, hf⟩
        · skip
          obtain ⟨h_13, eh_13, hf⟩ := ob_ex hf
          have mh_13 := fm_tr m0 (W_X11_put A F (P_0 _ zj_8) eh_13)
          obtain ⟨j_14, ej_14, hf⟩ := ob_ex hf
          have zj_14 : h.2 a0 0 = some j_14 := mh_13.1 ▸ ej_14
          obtain ⟨h_16, eh_16, hf⟩ := ob_ex hf
          have mh_16 := fm_tr mh_13 (W_X11_put A F (P_1 _ zj_14) eh_16)
          obtain ⟨x5_17, ex5_17, hf⟩ := bd_ex hf
          exact fm_tr mh_16 (W_X0_ringFrom_97 A F (fun p0 p1 q => ih p0 p1 q) (fun q0 e0 => P_0 q0 (mh_16.1 ▸ e0)) (fun q0 e0 => P_1 q0 (mh_16.1 ▸ e0)) hf)
        · skip
          exact fm_tr m0 (W_X0_ringFrom_97 A F (fun p0 p1 q => ih p0 p1 q) (fun q0 e0 => P_0 q0 (m0.1 ▸ e0)) (fun q0 e0 => P_1 q0 (m0.1 ▸ e0)) hf)
      · skip
        exact fm_tr m0 (W_X0_ringFrom_97 A F (fun p0 p1 q => ih p0 p1 q) (fun q0 e0 => P_0 q0 (m0.1 ▸ e0)) (fun q0 e0 => P_1 q0 (m0.1 ▸ e0)) hf)
theorem W_X0_ringFrom_0 (A : Nat → Prop) (F : Nat) {h : Hp} {a0 : Nat} {x1 : Int32} {x2 : Int32} {x3 : Int32} {r : Int32} {h1 : Hp} (P_0 : ∀ q0, h.2 a0 1 = some q0 → A q0) (P_1 : ∀ q0, h.2 a0 0 = some q0 → A q0) (hf : X0_ringFrom F a0 x1 x2 x3 h = some (r, h1)) : Fm A h h1 := by
  unfold X0_ringFrom at hf
  have m0 := fm_rf (A := A) (h := h)
  obtain ⟨k_1, hf⟩ := gq_ex hf
  obtain ⟨j_2, ej_2, hf⟩ := ob_ex hf
  have zj_2 : h.2 a0 1 = some j_2 := m0.1 ▸ ej_2
  obtain ⟨c_3, ec_3, hf⟩ := ob_ex hf
  obtain ⟨c_5, ec_5, hf⟩ := ob_ex hf
  obtain ⟨x4_7, ex4_7, hf⟩ := bd_ex hf
  exact fm_tr m0 (W_X0_ringFrom_22 A F _ (fun q0 e0 => P_0 q0 (m0.1 ▸ e0)) (fun q0 e0 => P_1 q0 (m0.1 ▸ e0)) hf)
theorem W_X0_ringFrom (A : Nat → Prop) (F : Nat) {h : Hp} {a0 : Nat} {x1 : Int32} {x2 : Int32} {x3 : Int32} {r : Int32} {h1 : Hp} (P_0 : ∀ q0, h.2 a0 1 = some q0 → A q0) (P_1 : ∀ q0, h.2 a0 0 = some q0 → A q0) (hf : X0_ringFrom F a0 x1 x2 x3 h = some (r, h1)) : Fm A h h1 := W_X0_ringFrom_0 A F P_0 P_1 hf
theorem W_X0_fewestChanges_162 (A : Nat → Prop) (F : Nat) {h : Hp} {a0 : Nat} {x6 : Int32} {r : Int32} {h1 : Hp} (hf : X0_fewestChanges_162 F a0 x6 h = some (r, h1)) : Fm A h h1 := by
  unfold X0_fewestChanges_162 at hf
  have m0 := fm_rf (A := A) (h := h)
  obtain ⟨k_1, hf⟩ := gq_ex hf
  obtain ⟨j_2, ej_2, hf⟩ := ob_ex hf
  have zj_2 : h.2 a0 1 = some j_2 := m0.1 ▸ ej_2
  obtain ⟨c_3, ec_3, hf⟩ := ob_ex hf
  cases hf
  exact m0
theorem W_X0_fewestChanges_110 (A : Nat → Prop) (F : Nat) : ∀ (f : Nat) {h : Hp} {a0 : Nat} {x2 : Int32} {x5 : Int32} {x6 : Int32} {x7 : Int32} {r : Int32} {h1 : Hp} (P_0 : ∀ q0, h.2 a0 1 = some q0 → A q0) (P_1 : ∀ q0, h.2 a0 0 = some q0 → A q0), X0_fewestChanges_110 F f a0 x2 x5 x6 x7 h = some (r, h1) → Fm A h h1 := by
  intro f
  induction f with
  | zero =>
    intro h a0 x2 x5 x6 x7 r h1 P_0 P_1 hf
    exact nomatch (show (none : Option _) = some _ from hf)
  | succ f ih =>
    intro h a0 x2 x5 x6 x7 r h1 P_0 P_1 hf
    rw [X0_fewestChanges_110] at hf
    have m0 := fm_rf (A := A) (h := h)
    rcases ite_ex hf with ⟨q_1, hf⟩ | ⟨q_1, hf⟩
    · skip
      exact fm_tr m0 (W_X0_fewestChanges_162 A F hf)
    · skip
      rcases ite_ex hf with ⟨q_2, hf⟩ | ⟨q_2, hf⟩
      · skip
        exact fm_tr m0 (W_X0_fewestChanges_162 A F hf)
      · skip
        obtain ⟨k_3, hf⟩ := gq_ex hf
        obtain ⟨j_4, ej_4, hf⟩ := ob_ex hf
        have zj_4 : h.2 a0 1 = some j_4 := m0.1 ▸ ej_4
        obtain ⟨c_5, ec_5, hf⟩ := ob_ex hf
        rcases ite_ex hf with ⟨q_7, hf⟩ | ⟨q_7, hf⟩
        · skip
          obtain ⟨j_8, ej_8, hf⟩ := ob_ex hf
          have zj_8 : h.2 a0 0 = some j_8 := m0.1 ▸ ej_8
          obtain ⟨c_9, ec_9, hf⟩ := ob_ex hf
          obtain ⟨c_11, h_12, ec_11, hf⟩ := bq_ex hf
          have mh_12 := fm_tr m0 (W_X0_ringFrom A F (fun q0 e0 => P_0 q0 (m0.1 ▸ e0)) (fun q0 e0 => P_1 q0 (m0.1 ▸ e0)) ec_11)
          obtain ⟨x7_13, ex7_13, hf⟩ := bd_ex hf
          exact fm_tr mh_12 (ih (fun q0 e0 => P_0 q0 (mh_12.1 ▸ e0)) (fun q0 e0 => P_1 q0 (mh_12.1 ▸ e0)) hf)
        · skip
          exact fm_tr m0 (W_X0_fewestChanges_162 A F hf)
theorem W_X0_fewestChanges_49 (A : Nat → Prop) (F : Nat) : ∀ (f : Nat) {h : Hp} {a0 : Nat} {x2 : Int32} {x3 : Int32} {x4 : Int32} {x5 : Int32} {r : Int32} {h1 : Hp} (P_0 : ∀ q0, h.2 a0 0 = some q0 → A q0) (P_1 : ∀ q0, h.2 a0 1 = some q0 → A q0), X0_fewestChanges_49 F f a0 x2 x3 x4 x5 h = some (r, h1) → Fm A h h1 := by
  intro f
  induction f with
  | zero =>
    intro h a0 x2 x3 x4 x5 r h1 P_0 P_1 hf
    exact nomatch (show (none : Option _) = some _ from hf)
  | succ f ih =>
    intro h a0 x2 x3 x4 x5 r h1 P_0 P_1 hf
    rw [X0_fewestChanges_49] at hf
    have m0 := fm_rf (A := A) (h := h)
    rcases ite_ex hf with ⟨q_1, hf⟩ | ⟨q_1, hf⟩
    · skip
      obtain ⟨k_2, hf⟩ := gq_ex hf
      obtain ⟨j_3, ej_3, hf⟩ := ob_ex hf
      have zj_3 : h.2 a0 0 = some j_3 := m0.1 ▸ ej_3
      obtain ⟨h_5, eh_5, hf⟩ := ob_ex hf
      have mh_5 := fm_tr m0 (W_X11_put A F (P_0 _ zj_3) eh_5)
      obtain ⟨j_6, ej_6, hf⟩ := ob_ex hf
      have zj_6 : h.2 a0 1 = some j_6 := mh_5.1 ▸ ej_6
      obtain ⟨c_7, ec_7, hf⟩ := ob_ex hf
      obtain ⟨h_10, eh_10, hf⟩ := ob_ex hf
      have mh_10 := fm_tr mh_5 (W_X11_put A F (P_1 _ zj_6) eh_10)
      obtain ⟨c_11, ec_11, hf⟩ := ob_ex hf
      exact fm_tr mh_10 (W_X0_fewestChanges_110 A F _ (fun q0 e0 => P_1 q0 (mh_10.1 ▸ e0)) (fun q0 e0 => P_0 q0 (mh_10.1 ▸ e0)) hf)
    · skip
      obtain ⟨k_13, hf⟩ := gq_ex hf
      obtain ⟨j_14, ej_14, hf⟩ := ob_ex hf
      have zj_14 : h.2 a0 1 = some j_14 := m0.1 ▸ ej_14
      obtain ⟨h_16, eh_16, hf⟩ := ob_ex hf
      have mh_16 := fm_tr m0 (W_X11_put A F (P_1 _ zj_14) eh_16)
      obtain ⟨x5_17, ex5_17, hf⟩ := bd_ex hf
      exact fm_tr mh_16 (ih (fun q0 e0 => P_0 q0 (mh_16.1 ▸ e0)) (fun q0 e0 => P_1 q0 (mh_16.1 ▸ e0)) hf)
theorem W_X0_fewestChanges_8 (A : Nat → Prop) (F : Nat) : ∀ (f : Nat) {h : Hp} {a0 : Nat} {a1 : Nat} {x2 : Int32} {x3 : Int32} {x4 : Int32} {x5 : Int32} {r : Int32} {h1 : Hp} (P_0 : ∀ q0, h.2 a0 0 = some q0 → A q0) (P_1 : ∀ q0, h.2 a0 1 = some q0 → A q0), X0_fewestChanges_8 F f a0 a1 x2 x3 x4 x5 h = some (r, h1) → Fm A h h1 := by
  intro f
  induction f with
  | zero =>
    intro h a0 a1 x2 x3 x4 x5 r h1 P_0 P_1 hf
    exact nomatch (show (none : Option _) = some _ from hf)
  | succ f ih =>
    intro h a0 a1 x2 x3 x4 x5 r h1 P_0 P_1 hf
    rw [X0_fewestChanges_8] at hf
    have m0 := fm_rf (A := A) (h := h)
    rcases ite_ex hf with ⟨q_1, hf⟩ | ⟨q_1, hf⟩
    · skip
      exact fm_tr m0 (W_X0_fewestChanges_49 A F _ (fun q0 e0 => P_0 q0 (m0.1 ▸ e0)) (fun q0 e0 => P_1 q0 (m0.1 ▸ e0)) hf)
    · skip
      obtain ⟨k_2, hf⟩ := gq_ex hf
      obtain ⟨c_3, ec_3, hf⟩ := ob_ex hf
      obtain ⟨x3_5, ex3_5, hf⟩ := bd_ex hf
      obtain ⟨x4_6, ex4_6, hf⟩ := bd_ex hf
      obtain ⟨x5_7, ex5_7, hf⟩ := bd_ex hf
      exact fm_tr m0 (ih (fun q0 e0 => P_0 q0 (m0.1 ▸ e0)) (fun q0 e0 => P_1 q0 (m0.1 ▸ e0)) hf)
theorem W_X0_fewestChanges_0 (A : Nat → Prop) (F : Nat) {h : Hp} {a0 : Nat} {a1 : Nat} {x2 : Int32} {r : Int32} {h1 : Hp} (P_0 : ∀ q0, h.2 a0 0 = some q0 → A q0) (P_1 : ∀ q0, h.2 a0 1 = some q0 → A q0) (hf : X0_fewestChanges F a0 a1 x2 h = some (r, h1)) : Fm A h h1 := by
  unfold X0_fewestChanges at hf
  have m0 := fm_rf (A := A) (h := h)
  exact fm_tr m0 (W_X0_fewestChanges_8 A F _ (fun q0 e0 => P_0 q0 (m0.1 ▸ e0)) (fun q0 e0 => P_1 q0 (m0.1 ▸ e0)) hf)
theorem W_X0_fewestChanges (A : Nat → Prop) (F : Nat) {h : Hp} {a0 : Nat} {a1 : Nat} {x2 : Int32} {r : Int32} {h1 : Hp} (P_0 : ∀ q0, h.2 a0 0 = some q0 → A q0) (P_1 : ∀ q0, h.2 a0 1 = some q0 → A q0) (hf : X0_fewestChanges F a0 a1 x2 h = some (r, h1)) : Fm A h h1 := W_X0_fewestChanges_0 A F P_0 P_1 hf
theorem W_X1_empty_0 (A : Nat → Prop) (F : Nat) {h : Hp} {a0 : Nat} {h1 : Hp} (P_0 : A a0) (hf : X1_empty F a0 h = some h1) : Fm A h h1 := by
  unfold X1_empty at hf
  have m0 := fm_rf (A := A) (h := h)
  obtain ⟨k_1, hf⟩ := gq_ex hf
  obtain ⟨h_2, eh_2, hf⟩ := bd_ex hf
  have mh_2 := fm_tr m0 (fm_up eh_2 (P_0))
  obtain ⟨h_3, eh_3, hf⟩ := bd_ex hf
  have mh_3 := fm_tr mh_2 (fm_up eh_3 (P_0))
  cases hf
  exact mh_3
theorem W_X1_empty (A : Nat → Prop) (F : Nat) {h : Hp} {a0 : Nat} {h1 : Hp} (P_0 : A a0) (hf : X1_empty F a0 h = some h1) : Fm A h h1 := W_X1_empty_0 A F P_0 hf
theorem W_X1_beginRule_0 (A : Nat → Prop) (F : Nat) {h : Hp} {a0 : Nat} {x1 : Int32} {h1 : Hp} (P_0 : ∀ q0, h.2 a0 0 = some q0 → A q0) (P_1 : ∀ q0, h.2 a0 1 = some q0 → A q0) (hf : X1_beginRule F a0 x1 h = some h1) : Fm A h h1 := by
  unfold X1_beginRule at hf
  have m0 := fm_rf (A := A) (h := h)
  obtain ⟨k_1, hf⟩ := gq_ex hf
  obtain ⟨j_2, ej_2, hf⟩ := ob_ex hf
  have zj_2 : h.2 a0 0 = some j_2 := m0.1 ▸ ej_2
  obtain ⟨h_4, eh_4, hf⟩ := ob_ex hf
  have mh_4 := fm_tr m0 (W_X11_put A F (P_0 _ zj_2) eh_4)
  obtain ⟨j_5, ej_5, hf⟩ := ob_ex hf
  have zj_5 : h.2 a0 1 = some j_5 := mh_4.1 ▸ ej_5
  obtain ⟨h_7, eh_7, hf⟩ := ob_ex hf
  have mh_7 := fm_tr mh_4 (W_X11_put A F (P_1 _ zj_5) eh_7)
  cases hf
  exact mh_7
theorem W_X1_beginRule (A : Nat → Prop) (F : Nat) {h : Hp} {a0 : Nat} {x1 : Int32} {h1 : Hp} (P_0 : ∀ q0, h.2 a0 0 = some q0 → A q0) (P_1 : ∀ q0, h.2 a0 1 = some q0 → A q0) (hf : X1_beginRule F a0 x1 h = some h1) : Fm A h h1 := W_X1_beginRule_0 A F P_0 P_1 hf
theorem W_X1_beginTest_0 (A : Nat → Prop) (F : Nat) {h : Hp} {a0 : Nat} {h1 : Hp} (P_0 : ∀ q0, h.2 a0 2 = some q0 → A q0) (hf : X1_beginTest F a0 h = some h1) : Fm A h h1 := by
  unfold X1_beginTest at hf
  have m0 := fm_rf (A := A) (h := h)
  obtain ⟨k_1, hf⟩ := gq_ex hf
  obtain ⟨j_2, ej_2, hf⟩ := ob_ex hf
  have zj_2 : h.2 a0 2 = some j_2 := m0.1 ▸ ej_2
  obtain ⟨h_4, eh_4, hf⟩ := ob_ex hf
  have mh_4 := fm_tr m0 (W_X11_put A F (P_0 _ zj_2) eh_4)
  cases hf
  exact mh_4
theorem W_X1_beginTest (A : Nat → Prop) (F : Nat) {h : Hp} {a0 : Nat} {h1 : Hp} (P_0 : ∀ q0, h.2 a0 2 = some q0 → A q0) (hf : X1_beginTest F a0 h = some h1) : Fm A h h1 := W_X1_beginTest_0 A F P_0 hf
theorem W_X1_endRule_0 (A : Nat → Prop) (F : Nat) {h : Hp} {a0 : Nat} {h1 : Hp} (P_0 : ∀ q0, h.2 a0 3 = some q0 → A q0) (P_1 : A a0) (hf : X1_endRule F a0 h = some h1) : Fm A h h1 := by
  unfold X1_endRule at hf
  have m0 := fm_rf (A := A) (h := h)
  obtain ⟨k_1, hf⟩ := gq_ex hf
  obtain ⟨j_2, ej_2, hf⟩ := ob_ex hf
  have zj_2 : h.2 a0 3 = some j_2 := m0.1 ▸ ej_2
  obtain ⟨h_4, eh_4, hf⟩ := ob_ex hf
  have mh_4 := fm_tr m0 (W_X11_put A F (P_0 _ zj_2) eh_4)
  obtain ⟨h_5, eh_5, hf⟩ := bd_ex hf
  have mh_5 := fm_tr mh_4 (fm_up eh_5 (P_1))
  cases hf
  exact mh_5
theorem W_X1_endRule (A : Nat → Prop) (F : Nat) {h : Hp} {a0 : Nat} {h1 : Hp} (P_0 : ∀ q0, h.2 a0 3 = some q0 → A q0) (P_1 : A a0) (hf : X1_endRule F a0 h = some h1) : Fm A h h1 := W_X1_endRule_0 A F P_0 P_1 hf
theorem W_X1_add_0 (A : Nat → Prop) (F : Nat) {h : Hp} {a0 : Nat} {x1 : Int32} {x2 : Int32} {r : Int32} {h1 : Hp} (P_0 : ∀ q0, h.2 a0 4 = some q0 → A q0) (P_1 : ∀ q0, h.2 a0 5 = some q0 → A q0) (P_2 : A a0) (hf : X1_add F a0 x1 x2 h = some (r, h1)) : Fm A h h1 := by
  unfold X1_add at hf
  have m0 := fm_rf (A := A) (h := h)
  obtain ⟨k_1, hf⟩ := gq_ex hf
  obtain ⟨j_2, ej_2, hf⟩ := ob_ex hf
  have zj_2 : h.2 a0 4 = some j_2 := m0.1 ▸ ej_2
  obtain ⟨h_4, eh_4, hf⟩ := ob_ex hf
  have mh_4 := fm_tr m0 (W_X11_put A F (P_0 _ zj_2) eh_4)
  obtain ⟨j_5, ej_5, hf⟩ := ob_ex hf
  have zj_5 : h.2 a0 5 = some j_5 := mh_4.1 ▸ ej_5
  obtain ⟨h_7, eh_7, hf⟩ := ob_ex hf
  have mh_7 := fm_tr mh_4 (W_X11_put A F (P_1 _ zj_5) eh_7)
  obtain ⟨h_8, eh_8, hf⟩ := bd_ex hf
  have mh_8 := fm_tr mh_7 (fm_up eh_8 (P_2))
  cases hf
  exact mh_8
theorem W_X1_add (A : Nat → Prop) (F : Nat) {h : Hp} {a0 : Nat} {x1 : Int32} {x2 : Int32} {r : Int32} {h1 : Hp} (P_0 : ∀ q0, h.2 a0 4 = some q0 → A q0) (P_1 : ∀ q0, h.2 a0 5 = some q0 → A q0) (P_2 : A a0) (hf : X1_add F a0 x1 x2 h = some (r, h1)) : Fm A h h1 := W_X1_add_0 A F P_0 P_1 P_2 hf
theorem W_X1_aim_0 (A : Nat → Prop) (F : Nat) {h : Hp} {a0 : Nat} {x1 : Int32} {h1 : Hp} (P_0 : ∀ q0, h.2 a0 5 = some q0 → A q0) (hf : X1_aim F a0 x1 h = some h1) : Fm A h h1 := by
  unfold X1_aim at hf
  have m0 := fm_rf (A := A) (h := h)
  obtain ⟨k_1, hf⟩ := gq_ex hf
  obtain ⟨j_2, ej_2, hf⟩ := ob_ex hf
  have zj_2 : h.2 a0 5 = some j_2 := m0.1 ▸ ej_2
  obtain ⟨h_4, eh_4, hf⟩ := ob_ex hf
  have mh_4 := fm_tr m0 (W_X11_put A F (P_0 _ zj_2) eh_4)
  cases hf
  exact mh_4
theorem W_X1_aim (A : Nat → Prop) (F : Nat) {h : Hp} {a0 : Nat} {x1 : Int32} {h1 : Hp} (P_0 : ∀ q0, h.2 a0 5 = some q0 → A q0) (hf : X1_aim F a0 x1 h = some h1) : Fm A h h1 := W_X1_aim_0 A F P_0 hf
theorem W_X1_reckon_278 (A : Nat → Prop) (F : Nat) {h : Hp} {a0 : Nat} {r : Int32} {h1 : Hp} (hf : X1_reckon_278 F a0 h = some (r, h1)) : Fm A h h1 := by
  unfold X1_reckon_278 at hf
  have m0 := fm_rf (A := A) (h := h)
  obtain ⟨k_1, hf⟩ := gq_ex hf
  obtain ⟨j_2, ej_2, hf⟩ := ob_ex hf
  have zj_2 : h.2 a0 6 = some j_2 := m0.1 ▸ ej_2
  obtain ⟨c_3, ec_3, hf⟩ := ob_ex hf
  cases hf
  exact m0
theorem W_X1_reckon_272 (A : Nat → Prop) (F : Nat) {k9 : Nat → Int32 → Nat → Int32 → Int32 → Int32 → Hp → Option (Int32 × Hp)} (hk9 : ∀ {h : Hp} {a0 : Nat} {x2 : Int32} {a3 : Nat} {x4 : Int32} {x5 : Int32} {x6 : Int32} {r : Int32} {h1 : Hp} (_ : ∀ q0, h.2 a0 6 = some q0 → A q0), k9 a0 x2 a3 x4 x5 x6 h = some (r, h1) → Fm A h h1) {h : Hp} {a0 : Nat} {x2 : Int32} {a3 : Nat} {x4 : Int32} {x5 : Int32} {x6 : Int32} {r : Int32} {h1 : Hp} (P_0 : ∀ q0, h.2 a0 6 = some q0 → A q0) (hf : X1_reckon_272 F k9 a0 x2 a3 x4 x5 x6 h = some (r, h1)) : Fm A h h1 := by
  unfold X1_reckon_272 at hf
  have m0 := fm_rf (A := A) (h := h)
  obtain ⟨x6_1, ex6_1, hf⟩ := bd_ex hf
  exact fm_tr m0 (hk9 (fun q0 e0 => P_0 q0 (m0.1 ▸ e0)) hf)
theorem W_X1_reckon_244 (A : Nat → Prop) (F : Nat) {k9 : Nat → Int32 → Nat → Int32 → Int32 → Int32 → Hp → Option (Int32 × Hp)} (hk9 : ∀ {h : Hp} {a0 : Nat} {x2 : Int32} {a3 : Nat} {x4 : Int32} {x5 : Int32} {x6 : Int32} {r : Int32} {h1 : Hp} (_ : ∀ q0, h.2 a0 6 = some q0 → A q0), k9 a0 x2 a3 x4 x5 x6 h = some (r, h1) → Fm A h h1) {h : Hp} {a0 : Nat} {x2 : Int32} {a3 : Nat} {x4 : Int32} {x5 : Int32} {x6 : Int32} {x7 : Int32} {x9 : Int32} {r : Int32} {h1 : Hp} (P_0 : ∀ q0, h.2 a0 6 = some q0 → A q0) (hf : X1_reckon_244 F k9 a0 x2 a3 x4 x5 x6 x7 x9 h = some (r, h1)) : Fm A h h1 := by
  unfold X1_reckon_244 at hf
  have m0 := fm_rf (A := A) (h := h)
  obtain ⟨x4_1, ex4_1, hf⟩ := bd_ex hf
  obtain ⟨k_2, hf⟩ := gq_ex hf
  obtain ⟨j_3, ej_3, hf⟩ := ob_ex hf
  have zj_3 : h.2 a0 6 = some j_3 := m0.1 ▸ ej_3
  obtain ⟨c_4, ec_4, hf⟩ := ob_ex hf
  obtain ⟨c_6, ec_6, hf⟩ := ob_ex hf
  obtain ⟨h_9, eh_9, hf⟩ := ob_ex hf
  have mh_9 := fm_tr m0 (W_X11_put A F (P_0 _ zj_3) eh_9)
  exact fm_tr mh_9 (W_X1_reckon_272 A F hk9 (fun q0 e0 => P_0 q0 (mh_9.1 ▸ e0)) hf)
theorem W_X1_reckon_196 (A : Nat → Prop) (F : Nat) {k9 : Nat → Int32 → Nat → Int32 → Int32 → Int32 → Hp → Option (Int32 × Hp)} (hk9 : ∀ {h : Hp} {a0 : Nat} {x2 : Int32} {a3 : Nat} {x4 : Int32} {x5 : Int32} {x6 : Int32} {r : Int32} {h1 : Hp} (_ : ∀ q0, h.2 a0 6 = some q0 → A q0), k9 a0 x2 a3 x4 x5 x6 h = some (r, h1) → Fm A h h1) {h : Hp} {a0 : Nat} {x2 : Int32} {a3 : Nat} {x4 : Int32} {x5 : Int32} {x6 : Int32} {x8 : Int32} {s0 : Int32} {s1 : Int32} {r : Int32} {h1 : Hp} (P_0 : ∀ q0, h.2 a0 6 = some q0 → A q0) (hf : X1_reckon_196 F k9 a0 x2 a3 x4 x5 x6 x8 s0 s1 h = some (r, h1)) : Fm A h h1 := by
  unfold X1_reckon_196 at hf
  have m0 := fm_rf (A := A) (h := h)
  rcases ite_ex hf with ⟨q_1, hf⟩ | ⟨q_1, hf⟩
  · skip
    exact fm_tr m0 (W_X1_reckon_272 A F hk9 (fun q0 e0 => P_0 q0 (m0.1 ▸ e0)) hf)
  · skip
    obtain ⟨x4_2, ex4_2, hf⟩ := bd_ex hf
    exact fm_tr m0 (W_X1_reckon_272 A F hk9 (fun q0 e0 => P_0 q0 (m0.1 ▸ e0)) hf)
theorem W_X1_reckon_184 (A : Nat → Prop) (F : Nat) {k9 : Nat → Int32 → Nat → Int32 → Int32 → Int32 → Hp → Option (Int32 × Hp)} (hk9 : ∀ {h : Hp} {a0 : Nat} {x2 : Int32} {a3 : Nat} {x4 : Int32} {x5 : Int32} {x6 : Int32} {r : Int32} {h1 : Hp} (_ : ∀ q0, h.2 a0 6 = some q0 → A q0), k9 a0 x2 a3 x4 x5 x6 h = some (r, h1) → Fm A h h1) {h : Hp} {a0 : Nat} {x2 : Int32} {a3 : Nat} {x4 : Int32} {x5 : Int32} {x6 : Int32} {x7 : Int32} {x8 : Int32} {s0 : Int32} {r : Int32} {h1 : Hp} (P_0 : ∀ q0, h.2 a0 6 = some q0 → A q0) (hf : X1_reckon_184 F k9 a0 x2 a3 x4 x5 x6 x7 x8 s0 h = some (r, h1)) : Fm A h h1 := by
  unfold X1_reckon_184 at hf
  have m0 := fm_rf (A := A) (h := h)
  rcases ite_ex hf with ⟨q_1, hf⟩ | ⟨q_1, hf⟩
  · skip
    exact fm_tr m0 (W_X1_reckon_196 A F hk9 (fun q0 e0 => P_0 q0 (m0.1 ▸ e0)) hf)
  · skip
    exact fm_tr m0 (W_X1_reckon_196 A F hk9 (fun q0 e0 => P_0 q0 (m0.1 ▸ e0)) hf)
theorem W_X1_reckon_161 (A : Nat → Prop) (F : Nat) {k9 : Nat → Int32 → Nat → Int32 → Int32 → Int32 → Hp → Option (Int32 × Hp)} (hk9 : ∀ {h : Hp} {a0 : Nat} {x2 : Int32} {a3 : Nat} {x4 : Int32} {x5 : Int32} {x6 : Int32} {r : Int32} {h1 : Hp} (_ : ∀ q0, h.2 a0 6 = some q0 → A q0), k9 a0 x2 a3 x4 x5 x6 h = some (r, h1) → Fm A h h1) {h : Hp} {a0 : Nat} {x2 : Int32} {a3 : Nat} {x4 : Int32} {x5 : Int32} {x6 : Int32} {r0 : Nat} {s1 : Int32} {s2 : Int32} {r : Int32} {h1 : Hp} (P_0 : A r0) (P_1 : ∀ q0, h.2 a0 6 = some q0 → A q0) (hf : X1_reckon_161 F k9 a0 x2 a3 x4 x5 x6 r0 s1 s2 h = some (r, h1)) : Fm A h h1 := by
  unfold X1_reckon_161 at hf
  have m0 := fm_rf (A := A) (h := h)
  obtain ⟨h_2, eh_2, hf⟩ := ob_ex hf
  have mh_2 := fm_tr m0 (W_X11_put A F P_0 eh_2)
  exact fm_tr mh_2 (W_X1_reckon_272 A F hk9 (fun q0 e0 => P_1 q0 (mh_2.1 ▸ e0)) hf)
theorem W_X1_reckon_9 (A : Nat → Prop) (F : Nat) : ∀ (f : Nat) {h : Hp} {a0 : Nat} {x2 : Int32} {a3 : Nat} {x4 : Int32} {x5 : Int32} {x6 : Int32} {r : Int32} {h1 : Hp} (P_0 : ∀ q0, h.2 a0 6 = some q0 → A q0), X1_reckon_9 F f a0 x2 a3 x4 x5 x6 h = some (r, h1) → Fm A h h1 := by
  intro f
  induction f with
  | zero =>
    intro h a0 x2 a3 x4 x5 x6 r h1 P_0 hf
    exact nomatch (show (none : Option _) = some _ from hf)
  | succ f ih =>
    intro h a0 x2 a3 x4 x5 x6 r h1 P_0 hf
    rw [X1_reckon_9] at hf
    have m0 := fm_rf (A := A) (h := h)
    rcases ite_ex hf with ⟨q_1, hf⟩ | ⟨q_1, hf⟩
    · skip
      exact fm_tr m0 (W_X1_reckon_278 A F hf)
    · skip
      rcases ite_ex hf with ⟨q_2, hf⟩ | ⟨q_2, hf⟩
      · skip
        exact fm_tr m0 (W_X1_reckon_278 A F hf)
      · skip
        obtain ⟨k_3, hf⟩ := gq_ex hf
        obtain ⟨j_4, ej_4, hf⟩ := ob_ex hf
        have zj_4 : h.2 a0 4 = some j_4 := m0.1 ▸ ej_4
        obtain ⟨c_5, ec_5, hf⟩ := ob_ex hf
        obtain ⟨j_7, ej_7, hf⟩ := ob_ex hf
        have zj_7 : h.2 a0 5 = some j_7 := m0.1 ▸ ej_7
        obtain ⟨c_8, ec_8, hf⟩ := ob_ex hf
        obtain ⟨x5_10, ex5_10, hf⟩ := bd_ex hf
        obtain ⟨t_11, et_11, hf⟩ := bd_ex hf
        rcases ite_ex hf with ⟨q_12, hf⟩ | ⟨q_12, hf⟩
        · skip
          obtain ⟨j_13, ej_13, hf⟩ := ob_ex hf
          have zj_13 : h.2 a0 6 = some j_13 := m0.1 ▸ ej_13
          obtain ⟨c_14, ec_14, hf⟩ := ob_ex hf
          rcases ite_ex hf with ⟨q_16, hf⟩ | ⟨q_16, hf⟩
          · skip
            exact fm_tr m0 (W_X1_reckon_161 A F (fun p0 q => ih p0 q) (P_0 _ zj_13) (fun q0 e0 => P_0 q0 (m0.1 ▸ e0)) hf)
          · skip
            exact fm_tr m0 (W_X1_reckon_161 A F (fun p0 q => ih p0 q) (P_0 _ zj_13) (fun q0 e0 => P_0 q0 (m0.1 ▸ e0)) hf)
        · skip
          rcases ite_ex hf with ⟨q_17, hf⟩ | ⟨q_17, hf⟩
          · skip
            obtain ⟨j_18, ej_18, hf⟩ := ob_ex hf
            have zj_18 : h.2 a0 6 = some j_18 := m0.1 ▸ ej_18
            obtain ⟨c_19, ec_19, hf⟩ := ob_ex hf
            rcases ite_ex hf with ⟨q_21, hf⟩ | ⟨q_21, hf⟩
            · skip
              exact fm_tr m0 (W_X1_reckon_184 A F (fun p0 q => ih p0 q) (fun q0 e0 => P_0 q0 (m0.1 ▸ e0)) hf)
            · skip
              exact fm_tr m0 (W_X1_reckon_184 A F (fun p0 q => ih p0 q) (fun q0 e0 => P_0 q0 (m0.1 ▸ e0)) hf)
          · skip
            rcases ite_ex hf with ⟨q_22, hf⟩ | ⟨q_22, hf⟩
            · skip
              obtain ⟨x4_23, ex4_23, hf⟩ := bd_ex hf
              obtain ⟨j_24, ej_24, hf⟩ := ob_ex hf
              have zj_24 : h.2 a0 6 = some j_24 := m0.1 ▸ ej_24
              obtain ⟨h_26, eh_26, hf⟩ := ob_ex hf
              have mh_26 := fm_tr m0 (W_X11_put A F (P_0 _ zj_24) eh_26)
              exact fm_tr mh_26 (W_X1_reckon_272 A F (fun p0 q => ih p0 q) (fun q0 e0 => P_0 q0 (mh_26.1 ▸ e0)) hf)
            · skip
              rcases ite_ex hf with ⟨q_27, hf⟩ | ⟨q_27, hf⟩
              · skip
                obtain ⟨x4_28, ex4_28, hf⟩ := bd_ex hf
                obtain ⟨j_29, ej_29, hf⟩ := ob_ex hf
                have zj_29 : h.2 a0 6 = some j_29 := m0.1 ▸ ej_29
                obtain ⟨c_30, ec_30, hf⟩ := ob_ex hf
                obtain ⟨h_33, eh_33, hf⟩ := ob_ex hf
                have mh_33 := fm_tr m0 (W_X11_put A F (P_0 _ zj_29) eh_33)
                exact fm_tr mh_33 (W_X1_reckon_272 A F (fun p0 q => ih p0 q) (fun q0 e0 => P_0 q0 (mh_33.1 ▸ e0)) hf)
              · skip
                rcases ite_ex hf with ⟨q_34, hf⟩ | ⟨q_34, hf⟩
                · skip
                  obtain ⟨j_35, ej_35, hf⟩ := ob_ex hf
                  have zj_35 : h.2 a0 6 = some j_35 := m0.1 ▸ ej_35
                  obtain ⟨c_36, ec_36, hf⟩ := ob_ex hf
                  rcases ite_ex hf with ⟨q_38, hf⟩ | ⟨q_38, hf⟩
                  · skip
                    exact fm_tr m0 (W_X1_reckon_184 A F (fun p0 q => ih p0 q) (fun q0 e0 => P_0 q0 (m0.1 ▸ e0)) hf)
                  · skip
                    exact fm_tr m0 (W_X1_reckon_184 A F (fun p0 q => ih p0 q) (fun q0 e0 => P_0 q0 (m0.1 ▸ e0)) hf)
                · skip
                  obtain ⟨j_39, ej_39, hf⟩ := ob_ex hf
                  have zj_39 : h.2 a0 6 = some j_39 := m0.1 ▸ ej_39
                  obtain ⟨c_40, ec_40, hf⟩ := ob_ex hf
                  rcases ite_ex hf with ⟨q_42, hf⟩ | ⟨q_42, hf⟩
                  · skip
                    rcases ite_ex hf with ⟨q_43, hf⟩ | ⟨q_43, hf⟩
                    · skip
                      cases hf
                      exact m0
                    · skip
                      rcases ite_ex hf with ⟨q_44, hf⟩ | ⟨q_44, hf⟩
                      · skip
                        cases hf
                        exact m0
                      · skip
                        exact fm_tr m0 (W_X1_reckon_244 A F (fun p0 q => ih p0 q) (fun q0 e0 => P_0 q0 (m0.1 ▸ e0)) hf)
                  · skip
                    exact fm_tr m0 (W_X1_reckon_244 A F (fun p0 q => ih p0 q) (fun q0 e0 => P_0 q0 (m0.1 ▸ e0)) hf)
theorem W_X1_reckon_0 (A : Nat → Prop) (F : Nat) {h : Hp} {a0 : Nat} {x1 : Int32} {x2 : Int32} {a3 : Nat} {r : Int32} {h1 : Hp} (P_0 : ∀ q0, h.2 a0 6 = some q0 → A q0) (hf : X1_reckon F a0 x1 x2 a3 h = some (r, h1)) : Fm A h h1 := by
  unfold X1_reckon at hf
  have m0 := fm_rf (A := A) (h := h)
  exact fm_tr m0 (W_X1_reckon_9 A F _ (fun q0 e0 => P_0 q0 (m0.1 ▸ e0)) hf)
theorem W_X1_reckon (A : Nat → Prop) (F : Nat) {h : Hp} {a0 : Nat} {x1 : Int32} {x2 : Int32} {a3 : Nat} {r : Int32} {h1 : Hp} (P_0 : ∀ q0, h.2 a0 6 = some q0 → A q0) (hf : X1_reckon F a0 x1 x2 a3 h = some (r, h1)) : Fm A h h1 := W_X1_reckon_0 A F P_0 hf
theorem W_X1_someHolds_48 (A : Nat → Prop) (F : Nat) {k2 : Nat → Int32 → Nat → Int32 → Hp → Option (Int32 × Hp)} (hk2 : ∀ {h : Hp} {a0 : Nat} {x1 : Int32} {a2 : Nat} {x3 : Int32} {r : Int32} {h1 : Hp} (_ : ∀ q0, h.2 a0 6 = some q0 → A q0), k2 a0 x1 a2 x3 h = some (r, h1) → Fm A h h1) {h : Hp} {a0 : Nat} {x1 : Int32} {a2 : Nat} {x3 : Int32} {r : Int32} {h1 : Hp} (P_0 : ∀ q0, h.2 a0 6 = some q0 → A q0) (hf : X1_someHolds_48 F k2 a0 x1 a2 x3 h = some (r, h1)) : Fm A h h1 := by
  unfold X1_someHolds_48 at hf
  have m0 := fm_rf (A := A) (h := h)
  obtain ⟨x3_1, ex3_1, hf⟩ := bd_ex hf
  exact fm_tr m0 (hk2 (fun q0 e0 => P_0 q0 (m0.1 ▸ e0)) hf)
theorem W_X1_someHolds_2 (A : Nat → Prop) (F : Nat) : ∀ (f : Nat) {h : Hp} {a0 : Nat} {x1 : Int32} {a2 : Nat} {x3 : Int32} {r : Int32} {h1 : Hp} (P_0 : ∀ q0, h.2 a0 6 = some q0 → A q0), X1_someHolds_2 F f a0 x1 a2 x3 h = some (r, h1) → Fm A h h1 := by
  intro f
  induction f with
  | zero =>
    intro h a0 x1 a2 x3 r h1 P_0 hf
    exact nomatch (show (none : Option _) = some _ from hf)
  | succ f ih =>
    intro h a0 x1 a2 x3 r h1 P_0 hf
    rw [X1_someHolds_2] at hf
    have m0 := fm_rf (A := A) (h := h)
    obtain ⟨k_1, hf⟩ := gq_ex hf
    rcases ite_ex hf with ⟨q_2, hf⟩ | ⟨q_2, hf⟩
    · skip
      cases hf
      exact m0
    · skip
      obtain ⟨j_3, ej_3, hf⟩ := ob_ex hf
      have zj_3 : h.2 a0 0 = some j_3 := m0.1 ▸ ej_3
      obtain ⟨c_4, ec_4, hf⟩ := ob_ex hf
      rcases ite_ex hf with ⟨q_6, hf⟩ | ⟨q_6, hf⟩
      · skip
        obtain ⟨j_7, ej_7, hf⟩ := ob_ex hf
        have zj_7 : h.2 a0 2 = some j_7 := m0.1 ▸ ej_7
        obtain ⟨c_8, ec_8, hf⟩ := ob_ex hf
        obtain ⟨j_10, ej_10, hf⟩ := ob_ex hf
        have zj_10 : h.2 a0 3 = some j_10 := m0.1 ▸ ej_10
        obtain ⟨c_11, ec_11, hf⟩ := ob_ex hf
        obtain ⟨c_13, h_14, ec_13, hf⟩ := bq_ex hf
        have mh_14 := fm_tr m0 (W_X1_reckon A F (fun q0 e0 => P_0 q0 (m0.1 ▸ e0)) ec_13)
        rcases ite_ex hf with ⟨q_15, hf⟩ | ⟨q_15, hf⟩
        · skip
          exact fm_tr mh_14 (W_X1_someHolds_48 A F (fun p0 q => ih p0 q) (fun q0 e0 => P_0 q0 (mh_14.1 ▸ e0)) hf)
        · skip
          cases hf
          exact mh_14
      · skip
        exact fm_tr m0 (W_X1_someHolds_48 A F (fun p0 q => ih p0 q) (fun q0 e0 => P_0 q0 (m0.1 ▸ e0)) hf)
theorem W_X1_someHolds_0 (A : Nat → Prop) (F : Nat) {h : Hp} {a0 : Nat} {x1 : Int32} {a2 : Nat} {r : Int32} {h1 : Hp} (P_0 : ∀ q0, h.2 a0 6 = some q0 → A q0) (hf : X1_someHolds F a0 x1 a2 h = some (r, h1)) : Fm A h h1 := by
  unfold X1_someHolds at hf
  have m0 := fm_rf (A := A) (h := h)
  exact fm_tr m0 (W_X1_someHolds_2 A F _ (fun q0 e0 => P_0 q0 (m0.1 ▸ e0)) hf)
theorem W_X1_someHolds (A : Nat → Prop) (F : Nat) {h : Hp} {a0 : Nat} {x1 : Int32} {a2 : Nat} {r : Int32} {h1 : Hp} (P_0 : ∀ q0, h.2 a0 6 = some q0 → A q0) (hf : X1_someHolds F a0 x1 a2 h = some (r, h1)) : Fm A h h1 := W_X1_someHolds_0 A F P_0 hf
theorem W_X1_amount_87 (A : Nat → Prop) (F : Nat) {k3 : Nat → Int32 → Int32 → Nat → Int32 → Hp → Option (Int32 × Hp)} (hk3 : ∀ {h : Hp} {a0 : Nat} {x1 : Int32} {x2 : Int32} {a3 : Nat} {x4 : Int32} {r : Int32} {h1 : Hp} (_ : ∀ q0, h.2 a0 6 = some q0 → A q0), k3 a0 x1 x2 a3 x4 h = some (r, h1) → Fm A h h1) {h : Hp} {a0 : Nat} {x1 : Int32} {x2 : Int32} {a3 : Nat} {x4 : Int32} {r : Int32} {h1 : Hp} (P_0 : ∀ q0, h.2 a0 6 = some q0 → A q0) (hf : X1_amount_87 F k3 a0 x1 x2 a3 x4 h = some (r, h1)) : Fm A h h1 := by
  unfold X1_amount_87 at hf
  have m0 := fm_rf (A := A) (h := h)
  obtain ⟨x4_1, ex4_1, hf⟩ := bd_ex hf
  exact fm_tr m0 (hk3 (fun q0 e0 => P_0 q0 (m0.1 ▸ e0)) hf)
theorem W_X1_amount_3 (A : Nat → Prop) (F : Nat) : ∀ (f : Nat) {h : Hp} {a0 : Nat} {x1 : Int32} {x2 : Int32} {a3 : Nat} {x4 : Int32} {r : Int32} {h1 : Hp} (P_0 : ∀ q0, h.2 a0 6 = some q0 → A q0), X1_amount_3 F f a0 x1 x2 a3 x4 h = some (r, h1) → Fm A h h1 := by
  intro f
  induction f with
  | zero =>
    intro h a0 x1 x2 a3 x4 r h1 P_0 hf
    exact nomatch (show (none : Option _) = some _ from hf)
  | succ f ih =>
    intro h a0 x1 x2 a3 x4 r h1 P_0 hf
    rw [X1_amount_3] at hf
    have m0 := fm_rf (A := A) (h := h)
    obtain ⟨k_1, hf⟩ := gq_ex hf
    rcases ite_ex hf with ⟨q_2, hf⟩ | ⟨q_2, hf⟩
    · skip
      cases hf
      exact m0
    · skip
      obtain ⟨j_3, ej_3, hf⟩ := ob_ex hf
      have zj_3 : h.2 a0 0 = some j_3 := m0.1 ▸ ej_3
      obtain ⟨c_4, ec_4, hf⟩ := ob_ex hf
      rcases ite_ex hf with ⟨q_6, hf⟩ | ⟨q_6, hf⟩
      · skip
        obtain ⟨j_7, ej_7, hf⟩ := ob_ex hf
        have zj_7 : h.2 a0 2 = some j_7 := m0.1 ▸ ej_7
        obtain ⟨c_8, ec_8, hf⟩ := ob_ex hf
        obtain ⟨j_10, ej_10, hf⟩ := ob_ex hf
        have zj_10 : h.2 a0 3 = some j_10 := m0.1 ▸ ej_10
        obtain ⟨c_11, ec_11, hf⟩ := ob_ex hf
        obtain ⟨c_13, h_14, ec_13, hf⟩ := bq_ex hf
        have mh_14 := fm_tr m0 (W_X1_reckon A F (fun q0 e0 => P_0 q0 (m0.1 ▸ e0)) ec_13)
        rcases ite_ex hf with ⟨q_15, hf⟩ | ⟨q_15, hf⟩
        · skip
          exact fm_tr mh_14 (W_X1_amount_87 A F (fun p0 q => ih p0 q) (fun q0 e0 => P_0 q0 (mh_14.1 ▸ e0)) hf)
        · skip
          obtain ⟨j_16, ej_16, hf⟩ := ob_ex hf
          have zj_16 : h.2 a0 1 = some j_16 := mh_14.1 ▸ ej_16
          obtain ⟨c_17, ec_17, hf⟩ := ob_ex hf
          obtain ⟨j_19, ej_19, hf⟩ := ob_ex hf
          have zj_19 : h.2 a0 2 = some j_19 := mh_14.1 ▸ ej_19
          obtain ⟨c_20, ec_20, hf⟩ := ob_ex hf
          obtain ⟨c_22, h_23, ec_22, hf⟩ := bq_ex hf
          have mh_23 := fm_tr mh_14 (W_X1_reckon A F (fun q0 e0 => P_0 q0 (mh_14.1 ▸ e0)) ec_22)
          cases hf
          exact mh_23
      · skip
        exact fm_tr m0 (W_X1_amount_87 A F (fun p0 q => ih p0 q) (fun q0 e0 => P_0 q0 (m0.1 ▸ e0)) hf)
theorem W_X1_amount_0 (A : Nat → Prop) (F : Nat) {h : Hp} {a0 : Nat} {x1 : Int32} {x2 : Int32} {a3 : Nat} {r : Int32} {h1 : Hp} (P_0 : ∀ q0, h.2 a0 6 = some q0 → A q0) (hf : X1_amount F a0 x1 x2 a3 h = some (r, h1)) : Fm A h h1 := by
  unfold X1_amount at hf
  have m0 := fm_rf (A := A) (h := h)
  exact fm_tr m0 (W_X1_amount_3 A F _ (fun q0 e0 => P_0 q0 (m0.1 ▸ e0)) hf)
theorem W_X1_amount (A : Nat → Prop) (F : Nat) {h : Hp} {a0 : Nat} {x1 : Int32} {x2 : Int32} {a3 : Nat} {r : Int32} {h1 : Hp} (P_0 : ∀ q0, h.2 a0 6 = some q0 → A q0) (hf : X1_amount F a0 x1 x2 a3 h = some (r, h1)) : Fm A h h1 := W_X1_amount_0 A F P_0 hf
theorem W_X9_refuse_0 (A : Nat → Prop) (F : Nat) {h : Hp} {a0 : Nat} {x1 : Int32} {x2 : Int32} {h1 : Hp} (P_0 : A a0) (hf : X9_refuse F a0 x1 x2 h = some h1) : Fm A h h1 := by
  unfold X9_refuse at hf
  have m0 := fm_rf (A := A) (h := h)
  obtain ⟨k_1, hf⟩ := gq_ex hf
  rcases ite_ex hf with ⟨q_2, hf⟩ | ⟨q_2, hf⟩
  · skip
    obtain ⟨h_3, eh_3, hf⟩ := bd_ex hf
    have mh_3 := fm_tr m0 (fm_up eh_3 (P_0))
    cases hf
    exact mh_3
  · skip
    cases hf
    exact m0
theorem W_X9_refuse (A : Nat → Prop) (F : Nat) {h : Hp} {a0 : Nat} {x1 : Int32} {x2 : Int32} {h1 : Hp} (P_0 : A a0) (hf : X9_refuse F a0 x1 x2 h = some h1) : Fm A h h1 := W_X9_refuse_0 A F P_0 hf
theorem W_X2_opens_15 (A : Nat → Prop) (F : Nat) {h : Hp} {a0 : Nat} {r : Int32} {h1 : Hp} (P_0 : A a0) (hf : X2_opens_15 F a0 h = some (r, h1)) : Fm A h h1 := by
  unfold X2_opens_15 at hf
  have m0 := fm_rf (A := A) (h := h)
  obtain ⟨k_1, hf⟩ := gq_ex hf
  obtain ⟨c_2, ec_2, hf⟩ := ob_ex hf
  rcases ite_ex hf with ⟨q_4, hf⟩ | ⟨q_4, hf⟩
  · skip
    cases hf
    exact m0
  · skip
    obtain ⟨h_5, eh_5, hf⟩ := bd_ex hf
    have mh_5 := fm_tr m0 (fm_up eh_5 (P_0))
    cases hf
    exact mh_5
theorem W_X2_opens_0 (A : Nat → Prop) (F : Nat) {h : Hp} {a0 : Nat} {x1 : Int32} {r : Int32} {h1 : Hp} (P_0 : A a0) (hf : X2_opens F a0 x1 h = some (r, h1)) : Fm A h h1 := by
  unfold X2_opens at hf
  have m0 := fm_rf (A := A) (h := h)
  rcases ite_ex hf with ⟨q_1, hf⟩ | ⟨q_1, hf⟩
  · skip
    exact fm_tr m0 (W_X2_opens_15 A F P_0 hf)
  · skip
    obtain ⟨k_2, hf⟩ := gq_ex hf
    obtain ⟨h_4, eh_4, hf⟩ := ob_ex hf
    have mh_4 := fm_tr m0 (W_X9_refuse A F P_0 eh_4)
    exact fm_tr mh_4 (W_X2_opens_15 A F P_0 hf)
theorem W_X2_opens (A : Nat → Prop) (F : Nat) {h : Hp} {a0 : Nat} {x1 : Int32} {r : Int32} {h1 : Hp} (P_0 : A a0) (hf : X2_opens F a0 x1 h = some (r, h1)) : Fm A h h1 := W_X2_opens_0 A F P_0 hf
theorem W_X9_pass_28 (A : Nat → Prop) (F : Nat) {h : Hp} {a0 : Nat} {h1 : Hp} (P_0 : A a0) (hf : X9_pass_28 F a0 h = some h1) : Fm A h h1 := by
  unfold X9_pass_28 at hf
  have m0 := fm_rf (A := A) (h := h)
  obtain ⟨k_1, hf⟩ := gq_ex hf
  obtain ⟨h_3, eh_3, hf⟩ := ob_ex hf
  have mh_3 := fm_tr m0 (W_X9_refuse A F P_0 eh_3)
  cases hf
  exact mh_3
theorem W_X9_pass_0 (A : Nat → Prop) (F : Nat) {h : Hp} {a0 : Nat} {x1 : Int32} {h1 : Hp} (P_0 : A a0) (hf : X9_pass F a0 x1 h = some h1) : Fm A h h1 := by
  unfold X9_pass at hf
  have m0 := fm_rf (A := A) (h := h)
  obtain ⟨k_1, hf⟩ := gq_ex hf
  obtain ⟨c_2, ec_2, hf⟩ := ob_ex hf
  rcases ite_ex hf with ⟨q_4, hf⟩ | ⟨q_4, hf⟩
  · skip
    exact fm_tr m0 (W_X9_pass_28 A F P_0 hf)
  · skip
    obtain ⟨c_5, ec_5, hf⟩ := ob_ex hf
    rcases ite_ex hf with ⟨q_7, hf⟩ | ⟨q_7, hf⟩
    · skip
      obtain ⟨h_8, eh_8, hf⟩ := bd_ex hf
      have mh_8 := fm_tr m0 (fm_up eh_8 (P_0))
      cases hf
      exact mh_8
    · skip
      exact fm_tr m0 (W_X9_pass_28 A F P_0 hf)
theorem W_X9_pass (A : Nat → Prop) (F : Nat) {h : Hp} {a0 : Nat} {x1 : Int32} {h1 : Hp} (P_0 : A a0) (hf : X9_pass F a0 x1 h = some h1) : Fm A h h1 := W_X9_pass_0 A F P_0 hf
theorem W_X9_readNumber_67 (A : Nat → Prop) (F : Nat) {h : Hp} {a0 : Nat} {x2 : Int32} {r : Int32} {h1 : Hp} (P_0 : A a0) (hf : X9_readNumber_67 F a0 x2 h = some (r, h1)) : Fm A h h1 := by
  unfold X9_readNumber_67 at hf
  have m0 := fm_rf (A := A) (h := h)
  obtain ⟨k_1, hf⟩ := gq_ex hf
  obtain ⟨c_2, ec_2, hf⟩ := ob_ex hf
  rcases ite_ex hf with ⟨q_4, hf⟩ | ⟨q_4, hf⟩
  · skip
    cases hf
    exact m0
  · skip
    obtain ⟨h_6, eh_6, hf⟩ := ob_ex hf
    have mh_6 := fm_tr m0 (W_X9_refuse A F P_0 eh_6)
    cases hf
    exact mh_6
theorem W_X9_readNumber_22 (A : Nat → Prop) (F : Nat) : ∀ (f : Nat) {h : Hp} {a0 : Nat} {x1 : Int32} {x2 : Int32} {x3 : Int32} {r : Int32} {h1 : Hp} (P_0 : A a0), X9_readNumber_22 F f a0 x1 x2 x3 h = some (r, h1) → Fm A h h1 := by
  intro f
  induction f with
  | zero =>
    intro h a0 x1 x2 x3 r h1 P_0 hf
    exact nomatch (show (none : Option _) = some _ from hf)
  | succ f ih =>
    intro h a0 x1 x2 x3 r h1 P_0 hf
    rw [X9_readNumber_22] at hf
    have m0 := fm_rf (A := A) (h := h)
    rcases ite_ex hf with ⟨q_1, hf⟩ | ⟨q_1, hf⟩
    · skip
      exact fm_tr m0 (W_X9_readNumber_67 A F P_0 hf)
    · skip
      obtain ⟨k_2, hf⟩ := gq_ex hf
      obtain ⟨c_3, ec_3, hf⟩ := ob_ex hf
      rcases ite_ex hf with ⟨q_5, hf⟩ | ⟨q_5, hf⟩
      · skip
        exact fm_tr m0 (W_X9_readNumber_67 A F P_0 hf)
      · skip
        obtain ⟨c_6, ec_6, hf⟩ := ob_ex hf
        obtain ⟨x2_8, ex2_8, hf⟩ := bd_ex hf
        obtain ⟨h_9, eh_9, hf⟩ := bd_ex hf
        have mh_9 := fm_tr m0 (fm_up eh_9 (P_0))
        obtain ⟨x3_10, ex3_10, hf⟩ := bd_ex hf
        exact fm_tr mh_9 (ih P_0 hf)
theorem W_X9_readNumber_0 (A : Nat → Prop) (F : Nat) {h : Hp} {a0 : Nat} {x1 : Int32} {r : Int32} {h1 : Hp} (P_0 : A a0) (hf : X9_readNumber F a0 x1 h = some (r, h1)) : Fm A h h1 := by
  unfold X9_readNumber at hf
  have m0 := fm_rf (A := A) (h := h)
  obtain ⟨k_1, hf⟩ := gq_ex hf
  obtain ⟨c_2, ec_2, hf⟩ := ob_ex hf
  rcases ite_ex hf with ⟨q_4, hf⟩ | ⟨q_4, hf⟩
  · skip
    obtain ⟨h_6, eh_6, hf⟩ := ob_ex hf
    have mh_6 := fm_tr m0 (W_X9_refuse A F P_0 eh_6)
    cases hf
    exact mh_6
  · skip
    exact fm_tr m0 (W_X9_readNumber_22 A F _ P_0 hf)
theorem W_X9_readNumber (A : Nat → Prop) (F : Nat) {h : Hp} {a0 : Nat} {x1 : Int32} {r : Int32} {h1 : Hp} (P_0 : A a0) (hf : X9_readNumber F a0 x1 h = some (r, h1)) : Fm A h h1 := W_X9_readNumber_0 A F P_0 hf
theorem W_X9_either_37 (A : Nat → Prop) (F : Nat) {h : Hp} {a0 : Nat} {x4 : Int32} {r : Int32} {h1 : Hp} (P_0 : A a0) (hf : X9_either_37 F a0 x4 h = some (r, h1)) : Fm A h h1 := by
  unfold X9_either_37 at hf
  have m0 := fm_rf (A := A) (h := h)
  obtain ⟨k_1, hf⟩ := gq_ex hf
  obtain ⟨h_2, eh_2, hf⟩ := bd_ex hf
  have mh_2 := fm_tr m0 (fm_up eh_2 (P_0))
  cases hf
  exact mh_2
theorem W_X9_either_0 (A : Nat → Prop) (F : Nat) {h : Hp} {a0 : Nat} {x1 : Int32} {x2 : Int32} {x3 : Int32} {r : Int32} {h1 : Hp} (P_0 : A a0) (hf : X9_either F a0 x1 x2 x3 h = some (r, h1)) : Fm A h h1 := by
  unfold X9_either at hf
  have m0 := fm_rf (A := A) (h := h)
  obtain ⟨k_1, hf⟩ := gq_ex hf
  obtain ⟨c_2, ec_2, hf⟩ := ob_ex hf
  obtain ⟨c_4, ec_4, hf⟩ := ob_ex hf
  rcases ite_ex hf with ⟨q_6, hf⟩ | ⟨q_6, hf⟩
  · skip
    cases hf
    exact m0
  · skip
    rcases ite_ex hf with ⟨q_7, hf⟩ | ⟨q_7, hf⟩
    · skip
      exact fm_tr m0 (W_X9_either_37 A F P_0 hf)
    · skip
      rcases ite_ex hf with ⟨q_8, hf⟩ | ⟨q_8, hf⟩
      · skip
        exact fm_tr m0 (W_X9_either_37 A F P_0 hf)
      · skip
        rcases ite_ex hf with ⟨q_9, hf⟩ | ⟨q_9, hf⟩
        · skip
          exact fm_tr m0 (W_X9_either_37 A F P_0 hf)
        · skip
          cases hf
          exact m0
theorem W_X9_either (A : Nat → Prop) (F : Nat) {h : Hp} {a0 : Nat} {x1 : Int32} {x2 : Int32} {x3 : Int32} {r : Int32} {h1 : Hp} (P_0 : A a0) (hf : X9_either F a0 x1 x2 x3 h = some (r, h1)) : Fm A h h1 := W_X9_either_0 A F P_0 hf
theorem W_X2_readFactor_0 (A : Nat → Prop) (F : Nat) {rc : Nat → Nat → Nat → Int32 → Hp → Option Hp} (hrw_0 : ∀ {h : Hp} {a0 : Nat} {a1 : Nat} {x2 : Int32} {h1 : Hp} (_ : A a1) (_ : ∀ q0, h.2 a0 0 = some q0 → ∀ q1, h.2 q0 4 = some q1 → A q1) (_ : ∀ q0, h.2 a0 0 = some q0 → ∀ q1, h.2 q0 5 = some q1 → A q1) (_ : ∀ q0, h.2 a0 0 = some q0 → A q0), rc 0 a0 a1 x2 h = some h1 → Fm A h h1) (hrw_1 : ∀ {h : Hp} {a0 : Nat} {a1 : Nat} {x2 : Int32} {h1 : Hp} (_ : A a1) (_ : ∀ q0, h.2 a0 0 = some q0 → ∀ q1, h.2 q0 4 = some q1 → A q1) (_ : ∀ q0, h.2 a0 0 = some q0 → ∀ q1, h.2 q0 5 = some q1 → A q1) (_ : ∀ q0, h.2 a0 0 = some q0 → A q0), rc 1 a0 a1 x2 h = some h1 → Fm A h h1) (hrw_2 : ∀ {h : Hp} {a0 : Nat} {a1 : Nat} {x2 : Int32} {h1 : Hp} (_ : A a1) (_ : ∀ q0, h.2 a0 0 = some q0 → ∀ q1, h.2 q0 4 = some q1 → A q1) (_ : ∀ q0, h.2 a0 0 = some q0 → ∀ q1, h.2 q0 5 = some q1 → A q1) (_ : ∀ q0, h.2 a0 0 = some q0 → A q0), rc 2 a0 a1 x2 h = some h1 → Fm A h h1) {h : Hp} {a0 : Nat} {a1 : Nat} {x2 : Int32} {h1 : Hp} (P_0 : A a1) (P_1 : ∀ q0, h.2 a0 0 = some q0 → ∀ q1, h.2 q0 4 = some q1 → A q1) (P_2 : ∀ q0, h.2 a0 0 = some q0 → ∀ q1, h.2 q0 5 = some q1 → A q1) (P_3 : ∀ q0, h.2 a0 0 = some q0 → A q0) (hf : X2_readFactor F rc a0 a1 x2 h = some h1) : Fm A h h1 := by
  unfold X2_readFactor at hf
  have m0 := fm_rf (A := A) (h := h)
  obtain ⟨k_1, hf⟩ := gq_ex hf
  obtain ⟨c_2, ec_2, hf⟩ := ob_ex hf
  rcases ite_ex hf with ⟨q_4, hf⟩ | ⟨q_4, hf⟩
  · skip
    obtain ⟨c_28, h_29, ec_28, hf⟩ := bq_ex hf
    have mh_29 := fm_tr m0 (W_X2_opens A F P_0 ec_28)
    rcases ite_ex hf with ⟨q_30, hf⟩ | ⟨q_30, hf⟩
    · skip
      cases hf
      exact mh_29
    · skip
      obtain ⟨k_31, hf⟩ := gq_ex hf
      obtain ⟨h_33, eh_33, hf⟩ := ob_ex hf
      have mh_33 := fm_tr mh_29 (hrw_2 P_0 (fun q0 e0 q1 e1 => P_1 q0 (mh_29.1 ▸ e0) q1 (mh_29.1 ▸ e1)) (fun q0 e0 q1 e1 => P_2 q0 (mh_29.1 ▸ e0) q1 (mh_29.1 ▸ e1)) (fun q0 e0 => P_3 q0 (mh_29.1 ▸ e0)) eh_33)
      obtain ⟨h_35, eh_35, hf⟩ := ob_ex hf
      have mh_35 := fm_tr mh_33 (W_X9_pass A F P_0 eh_35)
      cases hf
      exact mh_35
  · skip
    obtain ⟨c_5, ec_5, hf⟩ := ob_ex hf
    rcases ite_ex hf with ⟨q_7, hf⟩ | ⟨q_7, hf⟩
    · skip
      obtain ⟨c_8, ec_8, hf⟩ := ob_ex hf
      obtain ⟨c_10, ec_10, hf⟩ := ob_ex hf
      rcases ite_ex hf with ⟨q_12, hf⟩ | ⟨q_12, hf⟩
      · skip
        obtain ⟨h_13, eh_13, hf⟩ := bd_ex hf
        have mh_13 := fm_tr m0 (fm_up eh_13 (P_0))
        obtain ⟨k_14, hf⟩ := gq_ex hf
        obtain ⟨j_15, ej_15, hf⟩ := ob_ex hf
        have zj_15 : h.2 a0 0 = some j_15 := mh_13.1 ▸ ej_15
        obtain ⟨k_16, hf⟩ := gq_ex hf
        obtain ⟨c_17, h_18, ec_17, hf⟩ := bq_ex hf
        have mh_18 := fm_tr mh_13 (W_X1_add A F (fun q0 e0 => P_1 _ zj_15 q0 (mh_13.1 ▸ e0)) (fun q0 e0 => P_2 _ zj_15 q0 (mh_13.1 ▸ e0)) (P_3 _ zj_15) ec_17)
        cases hf
        exact mh_18
      · skip
        obtain ⟨h_20, eh_20, hf⟩ := ob_ex hf
        have mh_20 := fm_tr m0 (W_X9_refuse A F P_0 eh_20)
        cases hf
        exact mh_20
    · skip
      obtain ⟨k_21, hf⟩ := gq_ex hf
      obtain ⟨j_22, ej_22, hf⟩ := ob_ex hf
      have zj_22 : h.2 a0 0 = some j_22 := m0.1 ▸ ej_22
      obtain ⟨c_23, h_24, ec_23, hf⟩ := bq_ex hf
      have mh_24 := fm_tr m0 (W_X9_readNumber A F P_0 ec_23)
      obtain ⟨k_25, hf⟩ := gq_ex hf
      obtain ⟨c_26, h_27, ec_26, hf⟩ := bq_ex hf
      have mh_27 := fm_tr mh_24 (W_X1_add A F (fun q0 e0 => P_1 _ zj_22 q0 (mh_24.1 ▸ e0)) (fun q0 e0 => P_2 _ zj_22 q0 (mh_24.1 ▸ e0)) (P_3 _ zj_22) ec_26)
      cases hf
      exact mh_27
theorem W_X2_readProduct_20 (A : Nat → Prop) (F : Nat) {rc : Nat → Nat → Nat → Int32 → Hp → Option Hp} (hrw_0 : ∀ {h : Hp} {a0 : Nat} {a1 : Nat} {x2 : Int32} {h1 : Hp} (_ : A a1) (_ : ∀ q0, h.2 a0 0 = some q0 → ∀ q1, h.2 q0 4 = some q1 → A q1) (_ : ∀ q0, h.2 a0 0 = some q0 → ∀ q1, h.2 q0 5 = some q1 → A q1) (_ : ∀ q0, h.2 a0 0 = some q0 → A q0), rc 0 a0 a1 x2 h = some h1 → Fm A h h1) (hrw_1 : ∀ {h : Hp} {a0 : Nat} {a1 : Nat} {x2 : Int32} {h1 : Hp} (_ : A a1) (_ : ∀ q0, h.2 a0 0 = some q0 → ∀ q1, h.2 q0 4 = some q1 → A q1) (_ : ∀ q0, h.2 a0 0 = some q0 → ∀ q1, h.2 q0 5 = some q1 → A q1) (_ : ∀ q0, h.2 a0 0 = some q0 → A q0), rc 1 a0 a1 x2 h = some h1 → Fm A h h1) (hrw_2 : ∀ {h : Hp} {a0 : Nat} {a1 : Nat} {x2 : Int32} {h1 : Hp} (_ : A a1) (_ : ∀ q0, h.2 a0 0 = some q0 → ∀ q1, h.2 q0 4 = some q1 → A q1) (_ : ∀ q0, h.2 a0 0 = some q0 → ∀ q1, h.2 q0 5 = some q1 → A q1) (_ : ∀ q0, h.2 a0 0 = some q0 → A q0), rc 2 a0 a1 x2 h = some h1 → Fm A h h1) : ∀ (f : Nat) {h : Hp} {a0 : Nat} {a1 : Nat} {x2 : Int32} {x3 : Int32} {x4 : Int32} {h1 : Hp} (P_0 : A a1) (P_1 : ∀ q0, h.2 a0 0 = some q0 → ∀ q1, h.2 q0 4 = some q1 → A q1) (P_2 : ∀ q0, h.2 a0 0 = some q0 → ∀ q1, h.2 q0 5 = some q1 → A q1) (P_3 : ∀ q0, h.2 a0 0 = some q0 → A q0), X2_readProduct_20 F rc f a0 a1 x2 x3 x4 h = some h1 → Fm A h h1 := by
  intro f
  induction f with
  | zero =>
    intro h a0 a1 x2 x3 x4 h1 P_0 P_1 P_2 P_3 hf
    exact nomatch (show (none : Option _) = some _ from hf)
  | succ f ih =>
    intro h a0 a1 x2 x3 x4 h1 P_0 P_1 P_2 P_3 hf
    rw [X2_readProduct_20] at hf
    have m0 := fm_rf (A := A) (h := h)
    rcases ite_ex hf with ⟨q_1, hf⟩ | ⟨q_1, hf⟩
    · skip
      cases hf
      exact m0
    · skip
      rcases ite_ex hf with ⟨q_2, hf⟩ | ⟨q_2, hf⟩
      · skip
        cases hf
        exact m0
      · skip
        obtain ⟨k_3, hf⟩ := gq_ex hf
        obtain ⟨h_5, eh_5, hf⟩ := ob_ex hf
        have mh_5 := fm_tr m0 (hrw_0 P_0 (fun q0 e0 q1 e1 => P_1 q0 (m0.1 ▸ e0) q1 (m0.1 ▸ e1)) (fun q0 e0 q1 e1 => P_2 q0 (m0.1 ▸ e0) q1 (m0.1 ▸ e1)) (fun q0 e0 => P_3 q0 (m0.1 ▸ e0)) eh_5)
        obtain ⟨j_6, ej_6, hf⟩ := ob_ex hf
        have zj_6 : h.2 a0 0 = some j_6 := mh_5.1 ▸ ej_6
        obtain ⟨k_7, hf⟩ := gq_ex hf
        obtain ⟨c_8, h_9, ec_8, hf⟩ := bq_ex hf
        have mh_9 := fm_tr mh_5 (W_X1_add A F (fun q0 e0 => P_1 _ zj_6 q0 (mh_5.1 ▸ e0)) (fun q0 e0 => P_2 _ zj_6 q0 (mh_5.1 ▸ e0)) (P_3 _ zj_6) ec_8)
        obtain ⟨k_10, hf⟩ := gq_ex hf
        obtain ⟨c_11, h_12, ec_11, hf⟩ := bq_ex hf
        have mh_12 := fm_tr mh_9 (W_X9_either A F P_0 ec_11)
        obtain ⟨x4_13, ex4_13, hf⟩ := bd_ex hf
        exact fm_tr mh_12 (ih P_0 (fun q0 e0 q1 e1 => P_1 q0 (mh_12.1 ▸ e0) q1 (mh_12.1 ▸ e1)) (fun q0 e0 q1 e1 => P_2 q0 (mh_12.1 ▸ e0) q1 (mh_12.1 ▸ e1)) (fun q0 e0 => P_3 q0 (mh_12.1 ▸ e0)) hf)
theorem W_X2_readProduct_0 (A : Nat → Prop) (F : Nat) {rc : Nat → Nat → Nat → Int32 → Hp → Option Hp} (hrw_0 : ∀ {h : Hp} {a0 : Nat} {a1 : Nat} {x2 : Int32} {h1 : Hp} (_ : A a1) (_ : ∀ q0, h.2 a0 0 = some q0 → ∀ q1, h.2 q0 4 = some q1 → A q1) (_ : ∀ q0, h.2 a0 0 = some q0 → ∀ q1, h.2 q0 5 = some q1 → A q1) (_ : ∀ q0, h.2 a0 0 = some q0 → A q0), rc 0 a0 a1 x2 h = some h1 → Fm A h h1) (hrw_1 : ∀ {h : Hp} {a0 : Nat} {a1 : Nat} {x2 : Int32} {h1 : Hp} (_ : A a1) (_ : ∀ q0, h.2 a0 0 = some q0 → ∀ q1, h.2 q0 4 = some q1 → A q1) (_ : ∀ q0, h.2 a0 0 = some q0 → ∀ q1, h.2 q0 5 = some q1 → A q1) (_ : ∀ q0, h.2 a0 0 = some q0 → A q0), rc 1 a0 a1 x2 h = some h1 → Fm A h h1) (hrw_2 : ∀ {h : Hp} {a0 : Nat} {a1 : Nat} {x2 : Int32} {h1 : Hp} (_ : A a1) (_ : ∀ q0, h.2 a0 0 = some q0 → ∀ q1, h.2 q0 4 = some q1 → A q1) (_ : ∀ q0, h.2 a0 0 = some q0 → ∀ q1, h.2 q0 5 = some q1 → A q1) (_ : ∀ q0, h.2 a0 0 = some q0 → A q0), rc 2 a0 a1 x2 h = some h1 → Fm A h h1) {h : Hp} {a0 : Nat} {a1 : Nat} {x2 : Int32} {h1 : Hp} (P_0 : A a1) (P_1 : ∀ q0, h.2 a0 0 = some q0 → ∀ q1, h.2 q0 4 = some q1 → A q1) (P_2 : ∀ q0, h.2 a0 0 = some q0 → ∀ q1, h.2 q0 5 = some q1 → A q1) (P_3 : ∀ q0, h.2 a0 0 = some q0 → A q0) (hf : X2_readProduct F rc a0 a1 x2 h = some h1) : Fm A h h1 := by
  unfold X2_readProduct at hf
  have m0 := fm_rf (A := A) (h := h)
  obtain ⟨k_1, hf⟩ := gq_ex hf
  obtain ⟨h_3, eh_3, hf⟩ := ob_ex hf
  have mh_3 := fm_tr m0 (hrw_0 P_0 (fun q0 e0 q1 e1 => P_1 q0 (m0.1 ▸ e0) q1 (m0.1 ▸ e1)) (fun q0 e0 q1 e1 => P_2 q0 (m0.1 ▸ e0) q1 (m0.1 ▸ e1)) (fun q0 e0 => P_3 q0 (m0.1 ▸ e0)) eh_3)
  obtain ⟨k_4, hf⟩ := gq_ex hf
  obtain ⟨c_5, h_6, ec_5, hf⟩ := bq_ex hf
  have mh_6 := fm_tr mh_3 (W_X9_either A F P_0 ec_5)
  exact fm_tr mh_6 (W_X2_readProduct_20 A F hrw_0 hrw_1 hrw_2 _ P_0 (fun q0 e0 q1 e1 => P_1 q0 (mh_6.1 ▸ e0) q1 (mh_6.1 ▸ e1)) (fun q0 e0 q1 e1 => P_2 q0 (mh_6.1 ▸ e0) q1 (mh_6.1 ▸ e1)) (fun q0 e0 => P_3 q0 (mh_6.1 ▸ e0)) hf)
theorem W_X2_readSum_20 (A : Nat → Prop) (F : Nat) {rc : Nat → Nat → Nat → Int32 → Hp → Option Hp} (hrw_0 : ∀ {h : Hp} {a0 : Nat} {a1 : Nat} {x2 : Int32} {h1 : Hp} (_ : A a1) (_ : ∀ q0, h.2 a0 0 = some q0 → ∀ q1, h.2 q0 4 = some q1 → A q1) (_ : ∀ q0, h.2 a0 0 = some q0 → ∀ q1, h.2 q0 5 = some q1 → A q1) (_ : ∀ q0, h.2 a0 0 = some q0 → A q0), rc 0 a0 a1 x2 h = some h1 → Fm A h h1) (hrw_1 : ∀ {h : Hp} {a0 : Nat} {a1 : Nat} {x2 : Int32} {h1 : Hp} (_ : A a1) (_ : ∀ q0, h.2 a0 0 = some q0 → ∀ q1, h.2 q0 4 = some q1 → A q1) (_ : ∀ q0, h.2 a0 0 = some q0 → ∀ q1, h.2 q0 5 = some q1 → A q1) (_ : ∀ q0, h.2 a0 0 = some q0 → A q0), rc 1 a0 a1 x2 h = some h1 → Fm A h h1) (hrw_2 : ∀ {h : Hp} {a0 : Nat} {a1 : Nat} {x2 : Int32} {h1 : Hp} (_ : A a1) (_ : ∀ q0, h.2 a0 0 = some q0 → ∀ q1, h.2 q0 4 = some q1 → A q1) (_ : ∀ q0, h.2 a0 0 = some q0 → ∀ q1, h.2 q0 5 = some q1 → A q1) (_ : ∀ q0, h.2 a0 0 = some q0 → A q0), rc 2 a0 a1 x2 h = some h1 → Fm A h h1) : ∀ (f : Nat) {h : Hp} {a0 : Nat} {a1 : Nat} {x2 : Int32} {x3 : Int32} {x4 : Int32} {h1 : Hp} (P_0 : A a1) (P_1 : ∀ q0, h.2 a0 0 = some q0 → ∀ q1, h.2 q0 4 = some q1 → A q1) (P_2 : ∀ q0, h.2 a0 0 = some q0 → ∀ q1, h.2 q0 5 = some q1 → A q1) (P_3 : ∀ q0, h.2 a0 0 = some q0 → A q0), X2_readSum_20 F rc f a0 a1 x2 x3 x4 h = some h1 → Fm A h h1 := by
  intro f
  induction f with
  | zero =>
    intro h a0 a1 x2 x3 x4 h1 P_0 P_1 P_2 P_3 hf
    exact nomatch (show (none : Option _) = some _ from hf)
  | succ f ih =>
    intro h a0 a1 x2 x3 x4 h1 P_0 P_1 P_2 P_3 hf
    rw [X2_readSum_20] at hf
    have m0 := fm_rf (A := A) (h := h)
    rcases ite_ex hf with ⟨q_1, hf⟩ | ⟨q_1, hf⟩
    · skip
      cases hf
      exact m0
    · skip
      rcases ite_ex hf with ⟨q_2, hf⟩ | ⟨q_2, hf⟩
      · skip
        cases hf
        exact m0
      · skip
        obtain ⟨k_3, hf⟩ := gq_ex hf
        obtain ⟨h_5, eh_5, hf⟩ := ob_ex hf
        have mh_5 := fm_tr m0 (hrw_1 P_0 (fun q0 e0 q1 e1 => P_1 q0 (m0.1 ▸ e0) q1 (m0.1 ▸ e1)) (fun q0 e0 q1 e1 => P_2 q0 (m0.1 ▸ e0) q1 (m0.1 ▸ e1)) (fun q0 e0 => P_3 q0 (m0.1 ▸ e0)) eh_5)
        obtain ⟨j_6, ej_6, hf⟩ := ob_ex hf
        have zj_6 : h.2 a0 0 = some j_6 := mh_5.1 ▸ ej_6
        obtain ⟨k_7, hf⟩ := gq_ex hf
        obtain ⟨c_8, h_9, ec_8, hf⟩ := bq_ex hf
        have mh_9 := fm_tr mh_5 (W_X1_add A F (fun q0 e0 => P_1 _ zj_6 q0 (mh_5.1 ▸ e0)) (fun q0 e0 => P_2 _ zj_6 q0 (mh_5.1 ▸ e0)) (P_3 _ zj_6) ec_8)
        obtain ⟨k_10, hf⟩ := gq_ex hf
        obtain ⟨c_11, h_12, ec_11, hf⟩ := bq_ex hf
        have mh_12 := fm_tr mh_9 (W_X9_either A F P_0 ec_11)
        obtain ⟨x4_13, ex4_13, hf⟩ := bd_ex hf
        exact fm_tr mh_12 (ih P_0 (fun q0 e0 q1 e1 => P_1 q0 (mh_12.1 ▸ e0) q1 (mh_12.1 ▸ e1)) (fun q0 e0 q1 e1 => P_2 q0 (mh_12.1 ▸ e0) q1 (mh_12.1 ▸ e1)) (fun q0 e0 => P_3 q0 (mh_12.1 ▸ e0)) hf)
theorem W_X2_readSum_0 (A : Nat → Prop) (F : Nat) {rc : Nat → Nat → Nat → Int32 → Hp → Option Hp} (hrw_0 : ∀ {h : Hp} {a0 : Nat} {a1 : Nat} {x2 : Int32} {h1 : Hp} (_ : A a1) (_ : ∀ q0, h.2 a0 0 = some q0 → ∀ q1, h.2 q0 4 = some q1 → A q1) (_ : ∀ q0, h.2 a0 0 = some q0 → ∀ q1, h.2 q0 5 = some q1 → A q1) (_ : ∀ q0, h.2 a0 0 = some q0 → A q0), rc 0 a0 a1 x2 h = some h1 → Fm A h h1) (hrw_1 : ∀ {h : Hp} {a0 : Nat} {a1 : Nat} {x2 : Int32} {h1 : Hp} (_ : A a1) (_ : ∀ q0, h.2 a0 0 = some q0 → ∀ q1, h.2 q0 4 = some q1 → A q1) (_ : ∀ q0, h.2 a0 0 = some q0 → ∀ q1, h.2 q0 5 = some q1 → A q1) (_ : ∀ q0, h.2 a0 0 = some q0 → A q0), rc 1 a0 a1 x2 h = some h1 → Fm A h h1) (hrw_2 : ∀ {h : Hp} {a0 : Nat} {a1 : Nat} {x2 : Int32} {h1 : Hp} (_ : A a1) (_ : ∀ q0, h.2 a0 0 = some q0 → ∀ q1, h.2 q0 4 = some q1 → A q1) (_ : ∀ q0, h.2 a0 0 = some q0 → ∀ q1, h.2 q0 5 = some q1 → A q1) (_ : ∀ q0, h.2 a0 0 = some q0 → A q0), rc 2 a0 a1 x2 h = some h1 → Fm A h h1) {h : Hp} {a0 : Nat} {a1 : Nat} {x2 : Int32} {h1 : Hp} (P_0 : A a1) (P_1 : ∀ q0, h.2 a0 0 = some q0 → ∀ q1, h.2 q0 4 = some q1 → A q1) (P_2 : ∀ q0, h.2 a0 0 = some q0 → ∀ q1, h.2 q0 5 = some q1 → A q1) (P_3 : ∀ q0, h.2 a0 0 = some q0 → A q0) (hf : X2_readSum F rc a0 a1 x2 h = some h1) : Fm A h h1 := by
  unfold X2_readSum at hf
  have m0 := fm_rf (A := A) (h := h)
  obtain ⟨k_1, hf⟩ := gq_ex hf
  obtain ⟨h_3, eh_3, hf⟩ := ob_ex hf
  have mh_3 := fm_tr m0 (hrw_1 P_0 (fun q0 e0 q1 e1 => P_1 q0 (m0.1 ▸ e0) q1 (m0.1 ▸ e1)) (fun q0 e0 q1 e1 => P_2 q0 (m0.1 ▸ e0) q1 (m0.1 ▸ e1)) (fun q0 e0 => P_3 q0 (m0.1 ▸ e0)) eh_3)
  obtain ⟨k_4, hf⟩ := gq_ex hf
  obtain ⟨c_5, h_6, ec_5, hf⟩ := bq_ex hf
  have mh_6 := fm_tr mh_3 (W_X9_either A F P_0 ec_5)
  exact fm_tr mh_6 (W_X2_readSum_20 A F hrw_0 hrw_1 hrw_2 _ P_0 (fun q0 e0 q1 e1 => P_1 q0 (mh_6.1 ▸ e0) q1 (mh_6.1 ▸ e1)) (fun q0 e0 q1 e1 => P_2 q0 (mh_6.1 ▸ e0) q1 (mh_6.1 ▸ e1)) (fun q0 e0 => P_3 q0 (mh_6.1 ▸ e0)) hf)
theorem W_G0 (A : Nat → Prop) (F : Nat) : ∀ G : Nat, (∀ {h : Hp} {a0 : Nat} {a1 : Nat} {x2 : Int32} {h1 : Hp} (_ : A a1) (_ : ∀ q0, h.2 a0 0 = some q0 → ∀ q1, h.2 q0 4 = some q1 → A q1) (_ : ∀ q0, h.2 a0 0 = some q0 → ∀ q1, h.2 q0 5 = some q1 → A q1) (_ : ∀ q0, h.2 a0 0 = some q0 → A q0), G0 F G 0 a0 a1 x2 h = some h1 → Fm A h h1) ∧ (∀ {h : Hp} {a0 : Nat} {a1 : Nat} {x2 : Int32} {h1 : Hp} (_ : A a1) (_ : ∀ q0, h.2 a0 0 = some q0 → ∀ q1, h.2 q0 4 = some q1 → A q1) (_ : ∀ q0, h.2 a0 0 = some q0 → ∀ q1, h.2 q0 5 = some q1 → A q1) (_ : ∀ q0, h.2 a0 0 = some q0 → A q0), G0 F G 1 a0 a1 x2 h = some h1 → Fm A h h1) ∧ (∀ {h : Hp} {a0 : Nat} {a1 : Nat} {x2 : Int32} {h1 : Hp} (_ : A a1) (_ : ∀ q0, h.2 a0 0 = some q0 → ∀ q1, h.2 q0 4 = some q1 → A q1) (_ : ∀ q0, h.2 a0 0 = some q0 → ∀ q1, h.2 q0 5 = some q1 → A q1) (_ : ∀ q0, h.2 a0 0 = some q0 → A q0), G0 F G 2 a0 a1 x2 h = some h1 → Fm A h h1) := by
  intro G
  induction G with
  | zero => refine ⟨?_, ?_, ?_⟩ <;> (intros; rename_i hf; exact nomatch (show (none : Option _) = some _ from hf))
  | succ G ih =>
    obtain ⟨i0, i1, i2⟩ := ih
    refine ⟨?_, ?_, ?_⟩
    · intro h a0 a1 x2 h1 P_0 P_1 P_2 P_3 hf
      exact W_X2_readFactor_0 A F (rc := G0 F G) (fun p0 p1 p2 p3 q => i0 p0 p1 p2 p3 q) (fun p0 p1 p2 p3 q => i1 p0 p1 p2 p3 q) (fun p0 p1 p2 p3 q => i2 p0 p1 p2 p3 q) P_0 P_1 P_2 P_3 (show X2_readFactor F (G0 F G) a0 a1 x2 h = _ from hf)
    · intro h a0 a1 x2 h1 P_0 P_1 P_2 P_3 hf
      exact W_X2_readProduct_0 A F (rc := G0 F G) (fun p0 p1 p2 p3 q => i0 p0 p1 p2 p3 q) (fun p0 p1 p2 p3 q => i1 p0 p1 p2 p3 q) (fun p0 p1 p2 p3 q => i2 p0 p1 p2 p3 q) P_0 P_1 P_2 P_3 (show X2_readProduct F (G0 F G) a0 a1 x2 h = _ from hf)
    · intro h a0 a1 x2 h1 P_0 P_1 P_2 P_3 hf
      exact W_X2_readSum_0 A F (rc := G0 F G) (fun p0 p1 p2 p3 q => i0 p0 p1 p2 p3 q) (fun p0 p1 p2 p3 q => i1 p0 p1 p2 p3 q) (fun p0 p1 p2 p3 q => i2 p0 p1 p2 p3 q) P_0 P_1 P_2 P_3 (show X2_readSum F (G0 F G) a0 a1 x2 h = _ from hf)

theorem W_X2_readFactor (A : Nat → Prop) (F : Nat) {h : Hp} {a0 : Nat} {a1 : Nat} {x2 : Int32} {h1 : Hp} (P_0 : A a1) (P_1 : ∀ q0, h.2 a0 0 = some q0 → ∀ q1, h.2 q0 4 = some q1 → A q1) (P_2 : ∀ q0, h.2 a0 0 = some q0 → ∀ q1, h.2 q0 5 = some q1 → A q1) (P_3 : ∀ q0, h.2 a0 0 = some q0 → A q0) (hf : G0 F 60 0 a0 a1 x2 h = some h1) : Fm A h h1 := (W_G0 A F 60).1 P_0 P_1 P_2 P_3 hf
theorem W_X2_readProduct (A : Nat → Prop) (F : Nat) {h : Hp} {a0 : Nat} {a1 : Nat} {x2 : Int32} {h1 : Hp} (P_0 : A a1) (P_1 : ∀ q0, h.2 a0 0 = some q0 → ∀ q1, h.2 q0 4 = some q1 → A q1) (P_2 : ∀ q0, h.2 a0 0 = some q0 → ∀ q1, h.2 q0 5 = some q1 → A q1) (P_3 : ∀ q0, h.2 a0 0 = some q0 → A q0) (hf : G0 F 60 1 a0 a1 x2 h = some h1) : Fm A h h1 := (W_G0 A F 60).2.1 P_0 P_1 P_2 P_3 hf
theorem W_X2_readSum (A : Nat → Prop) (F : Nat) {h : Hp} {a0 : Nat} {a1 : Nat} {x2 : Int32} {h1 : Hp} (P_0 : A a1) (P_1 : ∀ q0, h.2 a0 0 = some q0 → ∀ q1, h.2 q0 4 = some q1 → A q1) (P_2 : ∀ q0, h.2 a0 0 = some q0 → ∀ q1, h.2 q0 5 = some q1 → A q1) (P_3 : ∀ q0, h.2 a0 0 = some q0 → A q0) (hf : G0 F 60 2 a0 a1 x2 h = some h1) : Fm A h h1 := (W_G0 A F 60).2.2 P_0 P_1 P_2 P_3 hf
theorem W_X9_goesOn_0 (A : Nat → Prop) (F : Nat) {h : Hp} {a0 : Nat} {x1 : Int32} {r : Int32} {h1 : Hp} (P_0 : A a0) (hf : X9_goesOn F a0 x1 h = some (r, h1)) : Fm A h h1 := by
  unfold X9_goesOn at hf
  have m0 := fm_rf (A := A) (h := h)
  obtain ⟨k_1, hf⟩ := gq_ex hf
  obtain ⟨c_2, h_3, ec_2, hf⟩ := bq_ex hf
  have mh_3 := fm_tr m0 (W_X9_either A F P_0 ec_2)
  rcases ite_ex hf with ⟨q_4, hf⟩ | ⟨q_4, hf⟩
  · skip
    cases hf
    exact mh_3
  · skip
    cases hf
    exact mh_3
theorem W_X9_goesOn (A : Nat → Prop) (F : Nat) {h : Hp} {a0 : Nat} {x1 : Int32} {r : Int32} {h1 : Hp} (P_0 : A a0) (hf : X9_goesOn F a0 x1 h = some (r, h1)) : Fm A h h1 := W_X9_goesOn_0 A F P_0 hf
theorem W_X2_readPart_8 (A : Nat → Prop) (F : Nat) {rc : Nat → Nat → Nat → Int32 → Hp → Option Hp} (hrw_0 : ∀ {h : Hp} {a0 : Nat} {a1 : Nat} {x2 : Int32} {h1 : Hp} (_ : A a1) (_ : ∀ q0, h.2 a0 0 = some q0 → ∀ q1, h.2 q0 4 = some q1 → A q1) (_ : ∀ q0, h.2 a0 0 = some q0 → ∀ q1, h.2 q0 5 = some q1 → A q1) (_ : ∀ q0, h.2 a0 0 = some q0 → A q0), rc 0 a0 a1 x2 h = some h1 → Fm A h h1) (hrw_1 : ∀ {h : Hp} {a0 : Nat} {a1 : Nat} {x2 : Int32} {h1 : Hp} (_ : A a1) (_ : ∀ q0, h.2 a0 0 = some q0 → ∀ q1, h.2 q0 4 = some q1 → A q1) (_ : ∀ q0, h.2 a0 0 = some q0 → ∀ q1, h.2 q0 5 = some q1 → A q1) (_ : ∀ q0, h.2 a0 0 = some q0 → A q0), rc 1 a0 a1 x2 h = some h1 → Fm A h h1) (hrw_2 : ∀ {h : Hp} {a0 : Nat} {a1 : Nat} {x2 : Int32} {h1 : Hp} (_ : A a1) (_ : ∀ q0, h.2 a0 0 = some q0 → ∀ q1, h.2 q0 4 = some q1 → A q1) (_ : ∀ q0, h.2 a0 0 = some q0 → ∀ q1, h.2 q0 5 = some q1 → A q1) (_ : ∀ q0, h.2 a0 0 = some q0 → A q0), rc 2 a0 a1 x2 h = some h1 → Fm A h h1) : ∀ (f : Nat) {h : Hp} {a0 : Nat} {a1 : Nat} {x2 : Int32} {x3 : Int32} {h1 : Hp} (P_0 : ∀ q0, h.2 a0 0 = some q0 → ∀ q1, h.2 q0 4 = some q1 → A q1) (P_1 : ∀ q0, h.2 a0 0 = some q0 → ∀ q1, h.2 q0 5 = some q1 → A q1) (P_2 : ∀ q0, h.2 a0 0 = some q0 → A q0) (P_3 : A a1), X2_readPart_8 F rc f a0 a1 x2 x3 h = some h1 → Fm A h h1 := by
  intro f
  induction f with
  | zero =>
    intro h a0 a1 x2 x3 h1 P_0 P_1 P_2 P_3 hf
    exact nomatch (show (none : Option _) = some _ from hf)
  | succ f ih =>
    intro h a0 a1 x2 x3 h1 P_0 P_1 P_2 P_3 hf
    rw [X2_readPart_8] at hf
    have m0 := fm_rf (A := A) (h := h)
    rcases ite_ex hf with ⟨q_1, hf⟩ | ⟨q_1, hf⟩
    · skip
      cases hf
      exact m0
    · skip
      obtain ⟨k_2, hf⟩ := gq_ex hf
      obtain ⟨c_3, h_4, ec_3, hf⟩ := bq_ex hf
      have mh_4 := fm_tr m0 (W_X9_goesOn A F P_3 ec_3)
      rcases ite_ex hf with ⟨q_5, hf⟩ | ⟨q_5, hf⟩
      · skip
        cases hf
        exact mh_4
      · skip
        obtain ⟨k_6, hf⟩ := gq_ex hf
        obtain ⟨j_7, ej_7, hf⟩ := ob_ex hf
        have zj_7 : h.2 a0 0 = some j_7 := mh_4.1 ▸ ej_7
        obtain ⟨k_8, hf⟩ := gq_ex hf
        obtain ⟨c_9, h_10, ec_9, hf⟩ := bq_ex hf
        have mh_10 := fm_tr mh_4 (W_X1_add A F (fun q0 e0 => P_0 _ zj_7 q0 (mh_4.1 ▸ e0)) (fun q0 e0 => P_1 _ zj_7 q0 (mh_4.1 ▸ e0)) (P_2 _ zj_7) ec_9)
        obtain ⟨h_12, eh_12, hf⟩ := ob_ex hf
        have mh_12 := fm_tr mh_10 (hrw_2 P_3 (fun q0 e0 q1 e1 => P_0 q0 (mh_10.1 ▸ e0) q1 (mh_10.1 ▸ e1)) (fun q0 e0 q1 e1 => P_1 q0 (mh_10.1 ▸ e0) q1 (mh_10.1 ▸ e1)) (fun q0 e0 => P_2 q0 (mh_10.1 ▸ e0)) eh_12)
        obtain ⟨j_13, ej_13, hf⟩ := ob_ex hf
        have zj_13 : h.2 a0 0 = some j_13 := mh_12.1 ▸ ej_13
        obtain ⟨k_14, hf⟩ := gq_ex hf
        obtain ⟨h_16, eh_16, hf⟩ := ob_ex hf
        have mh_16 := fm_tr mh_12 (W_X1_aim A F (fun q0 e0 => P_1 _ zj_13 q0 (mh_12.1 ▸ e0)) eh_16)
        obtain ⟨x3_17, ex3_17, hf⟩ := bd_ex hf
        exact fm_tr mh_16 (ih (fun q0 e0 q1 e1 => P_0 q0 (mh_16.1 ▸ e0) q1 (mh_16.1 ▸ e1)) (fun q0 e0 q1 e1 => P_1 q0 (mh_16.1 ▸ e0) q1 (mh_16.1 ▸ e1)) (fun q0 e0 => P_2 q0 (mh_16.1 ▸ e0)) P_3 hf)
theorem W_X2_readPart_0 (A : Nat → Prop) (F : Nat) {rc : Nat → Nat → Nat → Int32 → Hp → Option Hp} (hrw_0 : ∀ {h : Hp} {a0 : Nat} {a1 : Nat} {x2 : Int32} {h1 : Hp} (_ : A a1) (_ : ∀ q0, h.2 a0 0 = some q0 → ∀ q1, h.2 q0 4 = some q1 → A q1) (_ : ∀ q0, h.2 a0 0 = some q0 → ∀ q1, h.2 q0 5 = some q1 → A q1) (_ : ∀ q0, h.2 a0 0 = some q0 → A q0), rc 0 a0 a1 x2 h = some h1 → Fm A h h1) (hrw_1 : ∀ {h : Hp} {a0 : Nat} {a1 : Nat} {x2 : Int32} {h1 : Hp} (_ : A a1) (_ : ∀ q0, h.2 a0 0 = some q0 → ∀ q1, h.2 q0 4 = some q1 → A q1) (_ : ∀ q0, h.2 a0 0 = some q0 → ∀ q1, h.2 q0 5 = some q1 → A q1) (_ : ∀ q0, h.2 a0 0 = some q0 → A q0), rc 1 a0 a1 x2 h = some h1 → Fm A h h1) (hrw_2 : ∀ {h : Hp} {a0 : Nat} {a1 : Nat} {x2 : Int32} {h1 : Hp} (_ : A a1) (_ : ∀ q0, h.2 a0 0 = some q0 → ∀ q1, h.2 q0 4 = some q1 → A q1) (_ : ∀ q0, h.2 a0 0 = some q0 → ∀ q1, h.2 q0 5 = some q1 → A q1) (_ : ∀ q0, h.2 a0 0 = some q0 → A q0), rc 2 a0 a1 x2 h = some h1 → Fm A h h1) {h : Hp} {a0 : Nat} {a1 : Nat} {x2 : Int32} {h1 : Hp} (P_0 : A a1) (P_1 : ∀ q0, h.2 a0 0 = some q0 → ∀ q1, h.2 q0 4 = some q1 → A q1) (P_2 : ∀ q0, h.2 a0 0 = some q0 → ∀ q1, h.2 q0 5 = some q1 → A q1) (P_3 : ∀ q0, h.2 a0 0 = some q0 → A q0) (hf : X2_readPart F rc a0 a1 x2 h = some h1) : Fm A h h1 := by
  unfold X2_readPart at hf
  have m0 := fm_rf (A := A) (h := h)
  obtain ⟨k_1, hf⟩ := gq_ex hf
  obtain ⟨h_3, eh_3, hf⟩ := ob_ex hf
  have mh_3 := fm_tr m0 (hrw_2 P_0 (fun q0 e0 q1 e1 => P_1 q0 (m0.1 ▸ e0) q1 (m0.1 ▸ e1)) (fun q0 e0 q1 e1 => P_2 q0 (m0.1 ▸ e0) q1 (m0.1 ▸ e1)) (fun q0 e0 => P_3 q0 (m0.1 ▸ e0)) eh_3)
  exact fm_tr mh_3 (W_X2_readPart_8 A F hrw_0 hrw_1 hrw_2 _ (fun q0 e0 q1 e1 => P_1 q0 (mh_3.1 ▸ e0) q1 (mh_3.1 ▸ e1)) (fun q0 e0 q1 e1 => P_2 q0 (mh_3.1 ▸ e0) q1 (mh_3.1 ▸ e1)) (fun q0 e0 => P_3 q0 (mh_3.1 ▸ e0)) P_0 hf)
theorem W_X2_readParts_8 (A : Nat → Prop) (F : Nat) {rc : Nat → Nat → Nat → Int32 → Hp → Option Hp} (hrw_0 : ∀ {h : Hp} {a0 : Nat} {a1 : Nat} {x2 : Int32} {h1 : Hp} (_ : A a1) (_ : ∀ q0, h.2 a0 0 = some q0 → ∀ q1, h.2 q0 4 = some q1 → A q1) (_ : ∀ q0, h.2 a0 0 = some q0 → ∀ q1, h.2 q0 5 = some q1 → A q1) (_ : ∀ q0, h.2 a0 0 = some q0 → A q0), rc 0 a0 a1 x2 h = some h1 → Fm A h h1) (hrw_1 : ∀ {h : Hp} {a0 : Nat} {a1 : Nat} {x2 : Int32} {h1 : Hp} (_ : A a1) (_ : ∀ q0, h.2 a0 0 = some q0 → ∀ q1, h.2 q0 4 = some q1 → A q1) (_ : ∀ q0, h.2 a0 0 = some q0 → ∀ q1, h.2 q0 5 = some q1 → A q1) (_ : ∀ q0, h.2 a0 0 = some q0 → A q0), rc 1 a0 a1 x2 h = some h1 → Fm A h h1) (hrw_2 : ∀ {h : Hp} {a0 : Nat} {a1 : Nat} {x2 : Int32} {h1 : Hp} (_ : A a1) (_ : ∀ q0, h.2 a0 0 = some q0 → ∀ q1, h.2 q0 4 = some q1 → A q1) (_ : ∀ q0, h.2 a0 0 = some q0 → ∀ q1, h.2 q0 5 = some q1 → A q1) (_ : ∀ q0, h.2 a0 0 = some q0 → A q0), rc 2 a0 a1 x2 h = some h1 → Fm A h h1) : ∀ (f : Nat) {h : Hp} {a0 : Nat} {a1 : Nat} {x2 : Int32} {x3 : Int32} {h1 : Hp} (P_0 : ∀ q0, h.2 a0 0 = some q0 → ∀ q1, h.2 q0 4 = some q1 → A q1) (P_1 : ∀ q0, h.2 a0 0 = some q0 → ∀ q1, h.2 q0 5 = some q1 → A q1) (P_2 : ∀ q0, h.2 a0 0 = some q0 → A q0) (P_3 : A a1), X2_readParts_8 F rc f a0 a1 x2 x3 h = some h1 → Fm A h h1 := by
  intro f
  induction f with
  | zero =>
    intro h a0 a1 x2 x3 h1 P_0 P_1 P_2 P_3 hf
    exact nomatch (show (none : Option _) = some _ from hf)
  | succ f ih =>
    intro h a0 a1 x2 x3 h1 P_0 P_1 P_2 P_3 hf
    rw [X2_readParts_8] at hf
    have m0 := fm_rf (A := A) (h := h)
    rcases ite_ex hf with ⟨q_1, hf⟩ | ⟨q_1, hf⟩
    · skip
      cases hf
      exact m0
    · skip
      obtain ⟨k_2, hf⟩ := gq_ex hf
      obtain ⟨c_3, h_4, ec_3, hf⟩ := bq_ex hf
      have mh_4 := fm_tr m0 (W_X9_goesOn A F P_3 ec_3)
      rcases ite_ex hf with ⟨q_5, hf⟩ | ⟨q_5, hf⟩
      · skip
        cases hf
        exact mh_4
      · skip
        obtain ⟨k_6, hf⟩ := gq_ex hf
        obtain ⟨j_7, ej_7, hf⟩ := ob_ex hf
        have zj_7 : h.2 a0 0 = some j_7 := mh_4.1 ▸ ej_7
        obtain ⟨k_8, hf⟩ := gq_ex hf
        obtain ⟨c_9, h_10, ec_9, hf⟩ := bq_ex hf
        have mh_10 := fm_tr mh_4 (W_X1_add A F (fun q0 e0 => P_0 _ zj_7 q0 (mh_4.1 ▸ e0)) (fun q0 e0 => P_1 _ zj_7 q0 (mh_4.1 ▸ e0)) (P_2 _ zj_7) ec_9)
        obtain ⟨h_12, eh_12, hf⟩ := ob_ex hf
        have mh_12 := fm_tr mh_10 (hrw_0 P_3 (fun q0 e0 q1 e1 => P_0 q0 (mh_10.1 ▸ e0) q1 (mh_10.1 ▸ e1)) (fun q0 e0 q1 e1 => P_1 q0 (mh_10.1 ▸ e0) q1 (mh_10.1 ▸ e1)) (fun q0 e0 => P_2 q0 (mh_10.1 ▸ e0)) eh_12)
        obtain ⟨j_13, ej_13, hf⟩ := ob_ex hf
        have zj_13 : h.2 a0 0 = some j_13 := mh_12.1 ▸ ej_13
        obtain ⟨k_14, hf⟩ := gq_ex hf
        obtain ⟨h_16, eh_16, hf⟩ := ob_ex hf
        have mh_16 := fm_tr mh_12 (W_X1_aim A F (fun q0 e0 => P_1 _ zj_13 q0 (mh_12.1 ▸ e0)) eh_16)
        obtain ⟨x3_17, ex3_17, hf⟩ := bd_ex hf
        exact fm_tr mh_16 (ih (fun q0 e0 q1 e1 => P_0 q0 (mh_16.1 ▸ e0) q1 (mh_16.1 ▸ e1)) (fun q0 e0 q1 e1 => P_1 q0 (mh_16.1 ▸ e0) q1 (mh_16.1 ▸ e1)) (fun q0 e0 => P_2 q0 (mh_16.1 ▸ e0)) P_3 hf)
theorem W_X2_readParts_0 (A : Nat → Prop) (F : Nat) {rc : Nat → Nat → Nat → Int32 → Hp → Option Hp} (hrw_0 : ∀ {h : Hp} {a0 : Nat} {a1 : Nat} {x2 : Int32} {h1 : Hp} (_ : A a1) (_ : ∀ q0, h.2 a0 0 = some q0 → ∀ q1, h.2 q0 4 = some q1 → A q1) (_ : ∀ q0, h.2 a0 0 = some q0 → ∀ q1, h.2 q0 5 = some q1 → A q1) (_ : ∀ q0, h.2 a0 0 = some q0 → A q0), rc 0 a0 a1 x2 h = some h1 → Fm A h h1) (hrw_1 : ∀ {h : Hp} {a0 : Nat} {a1 : Nat} {x2 : Int32} {h1 : Hp} (_ : A a1) (_ : ∀ q0, h.2 a0 0 = some q0 → ∀ q1, h.2 q0 4 = some q1 → A q1) (_ : ∀ q0, h.2 a0 0 = some q0 → ∀ q1, h.2 q0 5 = some q1 → A q1) (_ : ∀ q0, h.2 a0 0 = some q0 → A q0), rc 1 a0 a1 x2 h = some h1 → Fm A h h1) (hrw_2 : ∀ {h : Hp} {a0 : Nat} {a1 : Nat} {x2 : Int32} {h1 : Hp} (_ : A a1) (_ : ∀ q0, h.2 a0 0 = some q0 → ∀ q1, h.2 q0 4 = some q1 → A q1) (_ : ∀ q0, h.2 a0 0 = some q0 → ∀ q1, h.2 q0 5 = some q1 → A q1) (_ : ∀ q0, h.2 a0 0 = some q0 → A q0), rc 2 a0 a1 x2 h = some h1 → Fm A h h1) {h : Hp} {a0 : Nat} {a1 : Nat} {x2 : Int32} {h1 : Hp} (P_0 : A a1) (P_1 : ∀ q0, h.2 a0 0 = some q0 → ∀ q1, h.2 q0 4 = some q1 → A q1) (P_2 : ∀ q0, h.2 a0 0 = some q0 → ∀ q1, h.2 q0 5 = some q1 → A q1) (P_3 : ∀ q0, h.2 a0 0 = some q0 → A q0) (hf : X2_readParts F rc a0 a1 x2 h = some h1) : Fm A h h1 := by
  unfold X2_readParts at hf
  have m0 := fm_rf (A := A) (h := h)
  obtain ⟨k_1, hf⟩ := gq_ex hf
  obtain ⟨h_3, eh_3, hf⟩ := ob_ex hf
  have mh_3 := fm_tr m0 (hrw_0 P_0 (fun q0 e0 q1 e1 => P_1 q0 (m0.1 ▸ e0) q1 (m0.1 ▸ e1)) (fun q0 e0 q1 e1 => P_2 q0 (m0.1 ▸ e0) q1 (m0.1 ▸ e1)) (fun q0 e0 => P_3 q0 (m0.1 ▸ e0)) eh_3)
  exact fm_tr mh_3 (W_X2_readParts_8 A F hrw_0 hrw_1 hrw_2 _ (fun q0 e0 q1 e1 => P_1 q0 (mh_3.1 ▸ e0) q1 (mh_3.1 ▸ e1)) (fun q0 e0 q1 e1 => P_2 q0 (mh_3.1 ▸ e0) q1 (mh_3.1 ▸ e1)) (fun q0 e0 => P_3 q0 (mh_3.1 ▸ e0)) P_0 hf)
theorem W_X2_readTest_0 (A : Nat → Prop) (F : Nat) {rc : Nat → Nat → Nat → Int32 → Hp → Option Hp} (hrw_0 : ∀ {h : Hp} {a0 : Nat} {a1 : Nat} {x2 : Int32} {h1 : Hp} (_ : A a1) (_ : ∀ q0, h.2 a0 0 = some q0 → ∀ q1, h.2 q0 4 = some q1 → A q1) (_ : ∀ q0, h.2 a0 0 = some q0 → ∀ q1, h.2 q0 5 = some q1 → A q1) (_ : ∀ q0, h.2 a0 0 = some q0 → A q0), rc 0 a0 a1 x2 h = some h1 → Fm A h h1) (hrw_1 : ∀ {h : Hp} {a0 : Nat} {a1 : Nat} {x2 : Int32} {h1 : Hp} (_ : A a1) (_ : ∀ q0, h.2 a0 0 = some q0 → ∀ q1, h.2 q0 4 = some q1 → A q1) (_ : ∀ q0, h.2 a0 0 = some q0 → ∀ q1, h.2 q0 5 = some q1 → A q1) (_ : ∀ q0, h.2 a0 0 = some q0 → A q0), rc 1 a0 a1 x2 h = some h1 → Fm A h h1) (hrw_2 : ∀ {h : Hp} {a0 : Nat} {a1 : Nat} {x2 : Int32} {h1 : Hp} (_ : A a1) (_ : ∀ q0, h.2 a0 0 = some q0 → ∀ q1, h.2 q0 4 = some q1 → A q1) (_ : ∀ q0, h.2 a0 0 = some q0 → ∀ q1, h.2 q0 5 = some q1 → A q1) (_ : ∀ q0, h.2 a0 0 = some q0 → A q0), rc 2 a0 a1 x2 h = some h1 → Fm A h h1) {h : Hp} {a0 : Nat} {a1 : Nat} {x2 : Int32} {h1 : Hp} (P_0 : A a1) (P_1 : ∀ q0, h.2 a0 0 = some q0 → ∀ q1, h.2 q0 4 = some q1 → A q1) (P_2 : ∀ q0, h.2 a0 0 = some q0 → ∀ q1, h.2 q0 5 = some q1 → A q1) (P_3 : ∀ q0, h.2 a0 0 = some q0 → A q0) (hf : X2_readTest F rc a0 a1 x2 h = some h1) : Fm A h h1 := by
  unfold X2_readTest at hf
  have m0 := fm_rf (A := A) (h := h)
  obtain ⟨k_1, hf⟩ := gq_ex hf
  obtain ⟨c_2, ec_2, hf⟩ := ob_ex hf
  rcases ite_ex hf with ⟨q_4, hf⟩ | ⟨q_4, hf⟩
  · skip
    obtain ⟨c_30, h_31, ec_30, hf⟩ := bq_ex hf
    have mh_31 := fm_tr m0 (W_X2_opens A F P_0 ec_30)
    rcases ite_ex hf with ⟨q_32, hf⟩ | ⟨q_32, hf⟩
    · skip
      cases hf
      exact mh_31
    · skip
      obtain ⟨k_33, hf⟩ := gq_ex hf
      obtain ⟨h_35, eh_35, hf⟩ := ob_ex hf
      have mh_35 := fm_tr mh_31 (hrw_2 P_0 (fun q0 e0 q1 e1 => P_1 q0 (mh_31.1 ▸ e0) q1 (mh_31.1 ▸ e1)) (fun q0 e0 q1 e1 => P_2 q0 (mh_31.1 ▸ e0) q1 (mh_31.1 ▸ e1)) (fun q0 e0 => P_3 q0 (mh_31.1 ▸ e0)) eh_35)
      obtain ⟨j_36, ej_36, hf⟩ := ob_ex hf
      have zj_36 : h.2 a0 0 = some j_36 := mh_35.1 ▸ ej_36
      obtain ⟨k_37, hf⟩ := gq_ex hf
      obtain ⟨c_38, h_39, ec_38, hf⟩ := bq_ex hf
      have mh_39 := fm_tr mh_35 (W_X1_add A F (fun q0 e0 => P_1 _ zj_36 q0 (mh_35.1 ▸ e0)) (fun q0 e0 => P_2 _ zj_36 q0 (mh_35.1 ▸ e0)) (P_3 _ zj_36) ec_38)
      cases hf
      exact mh_39
  · skip
    obtain ⟨c_5, ec_5, hf⟩ := ob_ex hf
    rcases ite_ex hf with ⟨q_7, hf⟩ | ⟨q_7, hf⟩
    · skip
      obtain ⟨c_22, h_23, ec_22, hf⟩ := bq_ex hf
      have mh_23 := fm_tr m0 (W_X2_opens A F P_0 ec_22)
      rcases ite_ex hf with ⟨q_24, hf⟩ | ⟨q_24, hf⟩
      · skip
        cases hf
        exact mh_23
      · skip
        obtain ⟨k_25, hf⟩ := gq_ex hf
        obtain ⟨h_27, eh_27, hf⟩ := ob_ex hf
        have mh_27 := fm_tr mh_23 (hrw_1 P_0 (fun q0 e0 q1 e1 => P_1 q0 (mh_23.1 ▸ e0) q1 (mh_23.1 ▸ e1)) (fun q0 e0 q1 e1 => P_2 q0 (mh_23.1 ▸ e0) q1 (mh_23.1 ▸ e1)) (fun q0 e0 => P_3 q0 (mh_23.1 ▸ e0)) eh_27)
        obtain ⟨h_29, eh_29, hf⟩ := ob_ex hf
        have mh_29 := fm_tr mh_27 (W_X9_pass A F P_0 eh_29)
        cases hf
        exact mh_29
    · skip
      obtain ⟨k_8, hf⟩ := gq_ex hf
      obtain ⟨h_10, eh_10, hf⟩ := ob_ex hf
      have mh_10 := fm_tr m0 (W_X2_readSum A F P_0 (fun q0 e0 q1 e1 => P_1 q0 (m0.1 ▸ e0) q1 (m0.1 ▸ e1)) (fun q0 e0 q1 e1 => P_2 q0 (m0.1 ▸ e0) q1 (m0.1 ▸ e1)) (fun q0 e0 => P_3 q0 (m0.1 ▸ e0)) eh_10)
      obtain ⟨c_11, h_12, ec_11, hf⟩ := bq_ex hf
      have mh_12 := fm_tr mh_10 (W_X9_either A F P_0 ec_11)
      rcases ite_ex hf with ⟨q_13, hf⟩ | ⟨q_13, hf⟩
      · skip
        obtain ⟨h_21, eh_21, hf⟩ := ob_ex hf
        have mh_21 := fm_tr mh_12 (W_X9_refuse A F P_0 eh_21)
        cases hf
        exact mh_21
      · skip
        obtain ⟨h_15, eh_15, hf⟩ := ob_ex hf
        have mh_15 := fm_tr mh_12 (W_X2_readSum A F P_0 (fun q0 e0 q1 e1 => P_1 q0 (mh_12.1 ▸ e0) q1 (mh_12.1 ▸ e1)) (fun q0 e0 q1 e1 => P_2 q0 (mh_12.1 ▸ e0) q1 (mh_12.1 ▸ e1)) (fun q0 e0 => P_3 q0 (mh_12.1 ▸ e0)) eh_15)
        obtain ⟨j_16, ej_16, hf⟩ := ob_ex hf
        have zj_16 : h.2 a0 0 = some j_16 := mh_15.1 ▸ ej_16
        obtain ⟨k_17, hf⟩ := gq_ex hf
        obtain ⟨c_18, h_19, ec_18, hf⟩ := bq_ex hf
        have mh_19 := fm_tr mh_15 (W_X1_add A F (fun q0 e0 => P_1 _ zj_16 q0 (mh_15.1 ▸ e0)) (fun q0 e0 => P_2 _ zj_16 q0 (mh_15.1 ▸ e0)) (P_3 _ zj_16) ec_18)
        cases hf
        exact mh_19
theorem W_G1 (A : Nat → Prop) (F : Nat) : ∀ G : Nat, (∀ {h : Hp} {a0 : Nat} {a1 : Nat} {x2 : Int32} {h1 : Hp} (_ : A a1) (_ : ∀ q0, h.2 a0 0 = some q0 → ∀ q1, h.2 q0 4 = some q1 → A q1) (_ : ∀ q0, h.2 a0 0 = some q0 → ∀ q1, h.2 q0 5 = some q1 → A q1) (_ : ∀ q0, h.2 a0 0 = some q0 → A q0), G1 F G 0 a0 a1 x2 h = some h1 → Fm A h h1) ∧ (∀ {h : Hp} {a0 : Nat} {a1 : Nat} {x2 : Int32} {h1 : Hp} (_ : A a1) (_ : ∀ q0, h.2 a0 0 = some q0 → ∀ q1, h.2 q0 4 = some q1 → A q1) (_ : ∀ q0, h.2 a0 0 = some q0 → ∀ q1, h.2 q0 5 = some q1 → A q1) (_ : ∀ q0, h.2 a0 0 = some q0 → A q0), G1 F G 1 a0 a1 x2 h = some h1 → Fm A h h1) ∧ (∀ {h : Hp} {a0 : Nat} {a1 : Nat} {x2 : Int32} {h1 : Hp} (_ : A a1) (_ : ∀ q0, h.2 a0 0 = some q0 → ∀ q1, h.2 q0 4 = some q1 → A q1) (_ : ∀ q0, h.2 a0 0 = some q0 → ∀ q1, h.2 q0 5 = some q1 → A q1) (_ : ∀ q0, h.2 a0 0 = some q0 → A q0), G1 F G 2 a0 a1 x2 h = some h1 → Fm A h h1) := by
  intro G
  induction G with
  | zero => refine ⟨?_, ?_, ?_⟩ <;> (intros; rename_i hf; exact nomatch (show (none : Option _) = some _ from hf))
  | succ G ih =>
    obtain ⟨i0, i1, i2⟩ := ih
    refine ⟨?_, ?_, ?_⟩
    · intro h a0 a1 x2 h1 P_0 P_1 P_2 P_3 hf
      exact W_X2_readPart_0 A F (rc := G1 F G) (fun p0 p1 p2 p3 q => i0 p0 p1 p2 p3 q) (fun p0 p1 p2 p3 q => i1 p0 p1 p2 p3 q) (fun p0 p1 p2 p3 q => i2 p0 p1 p2 p3 q) P_0 P_1 P_2 P_3 (show X2_readPart F (G1 F G) a0 a1 x2 h = _ from hf)
    · intro h a0 a1 x2 h1 P_0 P_1 P_2 P_3 hf
      exact W_X2_readParts_0 A F (rc := G1 F G) (fun p0 p1 p2 p3 q => i0 p0 p1 p2 p3 q) (fun p0 p1 p2 p3 q => i1 p0 p1 p2 p3 q) (fun p0 p1 p2 p3 q => i2 p0 p1 p2 p3 q) P_0 P_1 P_2 P_3 (show X2_readParts F (G1 F G) a0 a1 x2 h = _ from hf)
    · intro h a0 a1 x2 h1 P_0 P_1 P_2 P_3 hf
      exact W_X2_readTest_0 A F (rc := G1 F G) (fun p0 p1 p2 p3 q => i0 p0 p1 p2 p3 q) (fun p0 p1 p2 p3 q => i1 p0 p1 p2 p3 q) (fun p0 p1 p2 p3 q => i2 p0 p1 p2 p3 q) P_0 P_1 P_2 P_3 (show X2_readTest F (G1 F G) a0 a1 x2 h = _ from hf)

theorem W_X2_readPart (A : Nat → Prop) (F : Nat) {h : Hp} {a0 : Nat} {a1 : Nat} {x2 : Int32} {h1 : Hp} (P_0 : A a1) (P_1 : ∀ q0, h.2 a0 0 = some q0 → ∀ q1, h.2 q0 4 = some q1 → A q1) (P_2 : ∀ q0, h.2 a0 0 = some q0 → ∀ q1, h.2 q0 5 = some q1 → A q1) (P_3 : ∀ q0, h.2 a0 0 = some q0 → A q0) (hf : G1 F 60 0 a0 a1 x2 h = some h1) : Fm A h h1 := (W_G1 A F 60).1 P_0 P_1 P_2 P_3 hf
theorem W_X2_readParts (A : Nat → Prop) (F : Nat) {h : Hp} {a0 : Nat} {a1 : Nat} {x2 : Int32} {h1 : Hp} (P_0 : A a1) (P_1 : ∀ q0, h.2 a0 0 = some q0 → ∀ q1, h.2 q0 4 = some q1 → A q1) (P_2 : ∀ q0, h.2 a0 0 = some q0 → ∀ q1, h.2 q0 5 = some q1 → A q1) (P_3 : ∀ q0, h.2 a0 0 = some q0 → A q0) (hf : G1 F 60 1 a0 a1 x2 h = some h1) : Fm A h h1 := (W_G1 A F 60).2.1 P_0 P_1 P_2 P_3 hf
theorem W_X2_readTest (A : Nat → Prop) (F : Nat) {h : Hp} {a0 : Nat} {a1 : Nat} {x2 : Int32} {h1 : Hp} (P_0 : A a1) (P_1 : ∀ q0, h.2 a0 0 = some q0 → ∀ q1, h.2 q0 4 = some q1 → A q1) (P_2 : ∀ q0, h.2 a0 0 = some q0 → ∀ q1, h.2 q0 5 = some q1 → A q1) (P_3 : ∀ q0, h.2 a0 0 = some q0 → A q0) (hf : G1 F 60 2 a0 a1 x2 h = some h1) : Fm A h h1 := (W_G1 A F 60).2.2 P_0 P_1 P_2 P_3 hf
theorem W_X2_readRule_97 (A : Nat → Prop) (F : Nat) {h : Hp} {a0 : Nat} {a1 : Nat} {h1 : Hp} (P_0 : ∀ q0, h.2 a0 0 = some q0 → ∀ q1, h.2 q0 2 = some q1 → A q1) (P_1 : A a1) (P_2 : ∀ q0, h.2 a0 0 = some q0 → ∀ q1, h.2 q0 3 = some q1 → A q1) (P_3 : ∀ q0, h.2 a0 0 = some q0 → A q0) (P_4 : ∀ q0, h.2 a0 0 = some q0 → ∀ q1, h.2 q0 4 = some q1 → A q1) (P_5 : ∀ q0, h.2 a0 0 = some q0 → ∀ q1, h.2 q0 5 = some q1 → A q1) (hf : X2_readRule_97 F a0 a1 h = some h1) : Fm A h h1 := by
  unfold X2_readRule_97 at hf
  have m0 := fm_rf (A := A) (h := h)
  obtain ⟨k_1, hf⟩ := gq_ex hf
  obtain ⟨j_2, ej_2, hf⟩ := ob_ex hf
  have zj_2 : h.2 a0 0 = some j_2 := m0.1 ▸ ej_2
  obtain ⟨k_3, hf⟩ := gq_ex hf
  obtain ⟨h_5, eh_5, hf⟩ := ob_ex hf
  have mh_5 := fm_tr m0 (W_X1_beginTest A F (fun q0 e0 => P_0 _ zj_2 q0 (m0.1 ▸ e0)) eh_5)
  obtain ⟨k_6, hf⟩ := gq_ex hf
  obtain ⟨h_8, eh_8, hf⟩ := ob_ex hf
  have mh_8 := fm_tr mh_5 (W_X9_pass A F P_1 eh_8)
  obtain ⟨h_10, eh_10, hf⟩ := ob_ex hf
  have mh_10 := fm_tr mh_8 (W_X2_readParts A F P_1 (fun q0 e0 q1 e1 => P_4 q0 (mh_8.1 ▸ e0) q1 (mh_8.1 ▸ e1)) (fun q0 e0 q1 e1 => P_5 q0 (mh_8.1 ▸ e0) q1 (mh_8.1 ▸ e1)) (fun q0 e0 => P_3 q0 (mh_8.1 ▸ e0)) eh_10)
  obtain ⟨h_12, eh_12, hf⟩ := ob_ex hf
  have mh_12 := fm_tr mh_10 (W_X9_pass A F P_1 eh_12)
  obtain ⟨j_13, ej_13, hf⟩ := ob_ex hf
  have zj_13 : h.2 a0 0 = some j_13 := mh_12.1 ▸ ej_13
  obtain ⟨k_14, hf⟩ := gq_ex hf
  obtain ⟨h_16, eh_16, hf⟩ := ob_ex hf
  have mh_16 := fm_tr mh_12 (W_X1_endRule A F (fun q0 e0 => P_2 _ zj_13 q0 (mh_12.1 ▸ e0)) (P_3 _ zj_13) eh_16)
  cases hf
  exact mh_16
theorem W_X2_readRule_45 (A : Nat → Prop) (F : Nat) {h : Hp} {a0 : Nat} {a1 : Nat} {x2 : Int32} {h1 : Hp} (P_0 : A a1) (P_1 : ∀ q0, h.2 a0 0 = some q0 → ∀ q1, h.2 q0 0 = some q1 → A q1) (P_2 : ∀ q0, h.2 a0 0 = some q0 → ∀ q1, h.2 q0 1 = some q1 → A q1) (P_3 : ∀ q0, h.2 a0 0 = some q0 → ∀ q1, h.2 q0 4 = some q1 → A q1) (P_4 : ∀ q0, h.2 a0 0 = some q0 → ∀ q1, h.2 q0 5 = some q1 → A q1) (P_5 : ∀ q0, h.2 a0 0 = some q0 → A q0) (P_6 : ∀ q0, h.2 a0 0 = some q0 → ∀ q1, h.2 q0 2 = some q1 → A q1) (P_7 : ∀ q0, h.2 a0 0 = some q0 → ∀ q1, h.2 q0 3 = some q1 → A q1) (hf : X2_readRule_45 F a0 a1 x2 h = some h1) : Fm A h h1 := by
  unfold X2_readRule_45 at hf
  have m0 := fm_rf (A := A) (h := h)
  obtain ⟨k_1, hf⟩ := gq_ex hf
  obtain ⟨j_2, ej_2, hf⟩ := ob_ex hf
  have zj_2 : h.2 a0 0 = some j_2 := m0.1 ▸ ej_2
  obtain ⟨k_3, hf⟩ := gq_ex hf
  rcases ite_ex hf with ⟨q_4, hf⟩ | ⟨q_4, hf⟩
  · skip
    obtain ⟨k_5, hf⟩ := gq_ex hf
    obtain ⟨h_6, eh_6, hf⟩ := bd_ex hf
    have mh_6 := fm_tr m0 (fm_up eh_6 (P_0))
    obtain ⟨h_8, eh_8, hf⟩ := ob_ex hf
    have mh_8 := fm_tr mh_6 (W_X1_beginRule A F (fun q0 e0 => P_1 _ zj_2 q0 (mh_6.1 ▸ e0)) (fun q0 e0 => P_2 _ zj_2 q0 (mh_6.1 ▸ e0)) eh_8)
    rcases ite_ex hf with ⟨q_9, hf⟩ | ⟨q_9, hf⟩
    · skip
      exact fm_tr mh_8 (W_X2_readRule_97 A F (fun q0 e0 q1 e1 => P_6 q0 (mh_8.1 ▸ e0) q1 (mh_8.1 ▸ e1)) P_0 (fun q0 e0 q1 e1 => P_7 q0 (mh_8.1 ▸ e0) q1 (mh_8.1 ▸ e1)) (fun q0 e0 => P_5 q0 (mh_8.1 ▸ e0)) (fun q0 e0 q1 e1 => P_3 q0 (mh_8.1 ▸ e0) q1 (mh_8.1 ▸ e1)) (fun q0 e0 q1 e1 => P_4 q0 (mh_8.1 ▸ e0) q1 (mh_8.1 ▸ e1)) hf)
    · skip
      obtain ⟨h_11, eh_11, hf⟩ := ob_ex hf
      have mh_11 := fm_tr mh_8 (W_X2_readSum A F P_0 (fun q0 e0 q1 e1 => P_3 q0 (mh_8.1 ▸ e0) q1 (mh_8.1 ▸ e1)) (fun q0 e0 q1 e1 => P_4 q0 (mh_8.1 ▸ e0) q1 (mh_8.1 ▸ e1)) (fun q0 e0 => P_5 q0 (mh_8.1 ▸ e0)) eh_11)
      exact fm_tr mh_11 (W_X2_readRule_97 A F (fun q0 e0 q1 e1 => P_6 q0 (mh_11.1 ▸ e0) q1 (mh_11.1 ▸ e1)) P_0 (fun q0 e0 q1 e1 => P_7 q0 (mh_11.1 ▸ e0) q1 (mh_11.1 ▸ e1)) (fun q0 e0 => P_5 q0 (mh_11.1 ▸ e0)) (fun q0 e0 q1 e1 => P_3 q0 (mh_11.1 ▸ e0) q1 (mh_11.1 ▸ e1)) (fun q0 e0 q1 e1 => P_4 q0 (mh_11.1 ▸ e0) q1 (mh_11.1 ▸ e1)) hf)
  · skip
    obtain ⟨k_12, hf⟩ := gq_ex hf
    obtain ⟨h_14, eh_14, hf⟩ := ob_ex hf
    have mh_14 := fm_tr m0 (W_X9_refuse A F P_0 eh_14)
    cases hf
    exact mh_14
theorem W_X2_readRule_0 (A : Nat → Prop) (F : Nat) {h : Hp} {a0 : Nat} {a1 : Nat} {h1 : Hp} (P_0 : A a1) (P_1 : ∀ q0, h.2 a0 0 = some q0 → ∀ q1, h.2 q0 0 = some q1 → A q1) (P_2 : ∀ q0, h.2 a0 0 = some q0 → ∀ q1, h.2 q0 1 = some q1 → A q1) (P_3 : ∀ q0, h.2 a0 0 = some q0 → ∀ q1, h.2 q0 4 = some q1 → A q1) (P_4 : ∀ q0, h.2 a0 0 = some q0 → ∀ q1, h.2 q0 5 = some q1 → A q1) (P_5 : ∀ q0, h.2 a0 0 = some q0 → A q0) (P_6 : ∀ q0, h.2 a0 0 = some q0 → ∀ q1, h.2 q0 2 = some q1 → A q1) (P_7 : ∀ q0, h.2 a0 0 = some q0 → ∀ q1, h.2 q0 3 = some q1 → A q1) (hf : X2_readRule F a0 a1 h = some h1) : Fm A h h1 := by
  unfold X2_readRule at hf
  have m0 := fm_rf (A := A) (h := h)
  obtain ⟨k_1, hf⟩ := gq_ex hf
  obtain ⟨c_2, ec_2, hf⟩ := ob_ex hf
  rcases ite_ex hf with ⟨q_4, hf⟩ | ⟨q_4, hf⟩
  · skip
    exact fm_tr m0 (W_X2_readRule_45 A F P_0 (fun q0 e0 q1 e1 => P_1 q0 (m0.1 ▸ e0) q1 (m0.1 ▸ e1)) (fun q0 e0 q1 e1 => P_2 q0 (m0.1 ▸ e0) q1 (m0.1 ▸ e1)) (fun q0 e0 q1 e1 => P_3 q0 (m0.1 ▸ e0) q1 (m0.1 ▸ e1)) (fun q0 e0 q1 e1 => P_4 q0 (m0.1 ▸ e0) q1 (m0.1 ▸ e1)) (fun q0 e0 => P_5 q0 (m0.1 ▸ e0)) (fun q0 e0 q1 e1 => P_6 q0 (m0.1 ▸ e0) q1 (m0.1 ▸ e1)) (fun q0 e0 q1 e1 => P_7 q0 (m0.1 ▸ e0) q1 (m0.1 ▸ e1)) hf)
  · skip
    rcases ite_ex hf with ⟨q_5, hf⟩ | ⟨q_5, hf⟩
    · skip
      exact fm_tr m0 (W_X2_readRule_45 A F P_0 (fun q0 e0 q1 e1 => P_1 q0 (m0.1 ▸ e0) q1 (m0.1 ▸ e1)) (fun q0 e0 q1 e1 => P_2 q0 (m0.1 ▸ e0) q1 (m0.1 ▸ e1)) (fun q0 e0 q1 e1 => P_3 q0 (m0.1 ▸ e0) q1 (m0.1 ▸ e1)) (fun q0 e0 q1 e1 => P_4 q0 (m0.1 ▸ e0) q1 (m0.1 ▸ e1)) (fun q0 e0 => P_5 q0 (m0.1 ▸ e0)) (fun q0 e0 q1 e1 => P_6 q0 (m0.1 ▸ e0) q1 (m0.1 ▸ e1)) (fun q0 e0 q1 e1 => P_7 q0 (m0.1 ▸ e0) q1 (m0.1 ▸ e1)) hf)
    · skip
      rcases ite_ex hf with ⟨q_6, hf⟩ | ⟨q_6, hf⟩
      · skip
        exact fm_tr m0 (W_X2_readRule_45 A F P_0 (fun q0 e0 q1 e1 => P_1 q0 (m0.1 ▸ e0) q1 (m0.1 ▸ e1)) (fun q0 e0 q1 e1 => P_2 q0 (m0.1 ▸ e0) q1 (m0.1 ▸ e1)) (fun q0 e0 q1 e1 => P_3 q0 (m0.1 ▸ e0) q1 (m0.1 ▸ e1)) (fun q0 e0 q1 e1 => P_4 q0 (m0.1 ▸ e0) q1 (m0.1 ▸ e1)) (fun q0 e0 => P_5 q0 (m0.1 ▸ e0)) (fun q0 e0 q1 e1 => P_6 q0 (m0.1 ▸ e0) q1 (m0.1 ▸ e1)) (fun q0 e0 q1 e1 => P_7 q0 (m0.1 ▸ e0) q1 (m0.1 ▸ e1)) hf)
      · skip
        rcases ite_ex hf with ⟨q_7, hf⟩ | ⟨q_7, hf⟩
        · skip
          exact fm_tr m0 (W_X2_readRule_45 A F P_0 (fun q0 e0 q1 e1 => P_1 q0 (m0.1 ▸ e0) q1 (m0.1 ▸ e1)) (fun q0 e0 q1 e1 => P_2 q0 (m0.1 ▸ e0) q1 (m0.1 ▸ e1)) (fun q0 e0 q1 e1 => P_3 q0 (m0.1 ▸ e0) q1 (m0.1 ▸ e1)) (fun q0 e0 q1 e1 => P_4 q0 (m0.1 ▸ e0) q1 (m0.1 ▸ e1)) (fun q0 e0 => P_5 q0 (m0.1 ▸ e0)) (fun q0 e0 q1 e1 => P_6 q0 (m0.1 ▸ e0) q1 (m0.1 ▸ e1)) (fun q0 e0 q1 e1 => P_7 q0 (m0.1 ▸ e0) q1 (m0.1 ▸ e1)) hf)
        · skip
          rcases ite_ex hf with ⟨q_8, hf⟩ | ⟨q_8, hf⟩
          · skip
            exact fm_tr m0 (W_X2_readRule_45 A F P_0 (fun q0 e0 q1 e1 => P_1 q0 (m0.1 ▸ e0) q1 (m0.1 ▸ e1)) (fun q0 e0 q1 e1 => P_2 q0 (m0.1 ▸ e0) q1 (m0.1 ▸ e1)) (fun q0 e0 q1 e1 => P_3 q0 (m0.1 ▸ e0) q1 (m0.1 ▸ e1)) (fun q0 e0 q1 e1 => P_4 q0 (m0.1 ▸ e0) q1 (m0.1 ▸ e1)) (fun q0 e0 => P_5 q0 (m0.1 ▸ e0)) (fun q0 e0 q1 e1 => P_6 q0 (m0.1 ▸ e0) q1 (m0.1 ▸ e1)) (fun q0 e0 q1 e1 => P_7 q0 (m0.1 ▸ e0) q1 (m0.1 ▸ e1)) hf)
          · skip
            obtain ⟨h_10, eh_10, hf⟩ := ob_ex hf
            have mh_10 := fm_tr m0 (W_X9_refuse A F P_0 eh_10)
            cases hf
            exact mh_10
theorem W_X2_readRule (A : Nat → Prop) (F : Nat) {h : Hp} {a0 : Nat} {a1 : Nat} {h1 : Hp} (P_0 : A a1) (P_1 : ∀ q0, h.2 a0 0 = some q0 → ∀ q1, h.2 q0 0 = some q1 → A q1) (P_2 : ∀ q0, h.2 a0 0 = some q0 → ∀ q1, h.2 q0 1 = some q1 → A q1) (P_3 : ∀ q0, h.2 a0 0 = some q0 → ∀ q1, h.2 q0 4 = some q1 → A q1) (P_4 : ∀ q0, h.2 a0 0 = some q0 → ∀ q1, h.2 q0 5 = some q1 → A q1) (P_5 : ∀ q0, h.2 a0 0 = some q0 → A q0) (P_6 : ∀ q0, h.2 a0 0 = some q0 → ∀ q1, h.2 q0 2 = some q1 → A q1) (P_7 : ∀ q0, h.2 a0 0 = some q0 → ∀ q1, h.2 q0 3 = some q1 → A q1) (hf : X2_readRule F a0 a1 h = some h1) : Fm A h h1 := W_X2_readRule_0 A F P_0 P_1 P_2 P_3 P_4 P_5 P_6 P_7 hf
theorem W_X9_mustEnd_0 (A : Nat → Prop) (F : Nat) {h : Hp} {a0 : Nat} {h1 : Hp} (P_0 : A a0) (hf : X9_mustEnd F a0 h = some h1) : Fm A h h1 := by
  unfold X9_mustEnd at hf
  have m0 := fm_rf (A := A) (h := h)
  obtain ⟨k_1, hf⟩ := gq_ex hf
  rcases ite_ex hf with ⟨q_2, hf⟩ | ⟨q_2, hf⟩
  · skip
    cases hf
    exact m0
  · skip
    obtain ⟨h_4, eh_4, hf⟩ := ob_ex hf
    have mh_4 := fm_tr m0 (W_X9_refuse A F P_0 eh_4)
    cases hf
    exact mh_4
theorem W_X9_mustEnd (A : Nat → Prop) (F : Nat) {h : Hp} {a0 : Nat} {h1 : Hp} (P_0 : A a0) (hf : X9_mustEnd F a0 h = some h1) : Fm A h h1 := W_X9_mustEnd_0 A F P_0 hf
theorem W_X2_readAll_41 (A : Nat → Prop) (F : Nat) {h : Hp} {a1 : Nat} {h1 : Hp} (P_0 : A a1) (hf : X2_readAll_41 F a1 h = some h1) : Fm A h h1 := by
  unfold X2_readAll_41 at hf
  have m0 := fm_rf (A := A) (h := h)
  obtain ⟨k_1, hf⟩ := gq_ex hf
  obtain ⟨h_3, eh_3, hf⟩ := ob_ex hf
  have mh_3 := fm_tr m0 (W_X9_mustEnd A F P_0 eh_3)
  cases hf
  exact mh_3
theorem W_X2_readAll_14 (A : Nat → Prop) (F : Nat) : ∀ (f : Nat) {h : Hp} {a0 : Nat} {a1 : Nat} {x2 : Int32} {h1 : Hp} (P_0 : A a1) (P_1 : ∀ q0, h.2 a0 0 = some q0 → ∀ q1, h.2 q0 0 = some q1 → A q1) (P_2 : ∀ q0, h.2 a0 0 = some q0 → ∀ q1, h.2 q0 1 = some q1 → A q1) (P_3 : ∀ q0, h.2 a0 0 = some q0 → ∀ q1, h.2 q0 4 = some q1 → A q1) (P_4 : ∀ q0, h.2 a0 0 = some q0 → ∀ q1, h.2 q0 5 = some q1 → A q1) (P_5 : ∀ q0, h.2 a0 0 = some q0 → A q0) (P_6 : ∀ q0, h.2 a0 0 = some q0 → ∀ q1, h.2 q0 2 = some q1 → A q1) (P_7 : ∀ q0, h.2 a0 0 = some q0 → ∀ q1, h.2 q0 3 = some q1 → A q1), X2_readAll_14 F f a0 a1 x2 h = some h1 → Fm A h h1 := by
  intro f
  induction f with
  | zero =>
    intro h a0 a1 x2 h1 P_0 P_1 P_2 P_3 P_4 P_5 P_6 P_7 hf
    exact nomatch (show (none : Option _) = some _ from hf)
  | succ f ih =>
    intro h a0 a1 x2 h1 P_0 P_1 P_2 P_3 P_4 P_5 P_6 P_7 hf
    rw [X2_readAll_14] at hf
    have m0 := fm_rf (A := A) (h := h)
    rcases ite_ex hf with ⟨q_1, hf⟩ | ⟨q_1, hf⟩
    · skip
      exact fm_tr m0 (W_X2_readAll_41 A F P_0 hf)
    · skip
      obtain ⟨k_2, hf⟩ := gq_ex hf
      obtain ⟨c_3, h_4, ec_3, hf⟩ := bq_ex hf
      have mh_4 := fm_tr m0 (W_X9_goesOn A F P_0 ec_3)
      rcases ite_ex hf with ⟨q_5, hf⟩ | ⟨q_5, hf⟩
      · skip
        exact fm_tr mh_4 (W_X2_readAll_41 A F P_0 hf)
      · skip
        obtain ⟨k_6, hf⟩ := gq_ex hf
        obtain ⟨h_8, eh_8, hf⟩ := ob_ex hf
        have mh_8 := fm_tr mh_4 (W_X2_readRule A F P_0 (fun q0 e0 q1 e1 => P_1 q0 (mh_4.1 ▸ e0) q1 (mh_4.1 ▸ e1)) (fun q0 e0 q1 e1 => P_2 q0 (mh_4.1 ▸ e0) q1 (mh_4.1 ▸ e1)) (fun q0 e0 q1 e1 => P_3 q0 (mh_4.1 ▸ e0) q1 (mh_4.1 ▸ e1)) (fun q0 e0 q1 e1 => P_4 q0 (mh_4.1 ▸ e0) q1 (mh_4.1 ▸ e1)) (fun q0 e0 => P_5 q0 (mh_4.1 ▸ e0)) (fun q0 e0 q1 e1 => P_6 q0 (mh_4.1 ▸ e0) q1 (mh_4.1 ▸ e1)) (fun q0 e0 q1 e1 => P_7 q0 (mh_4.1 ▸ e0) q1 (mh_4.1 ▸ e1)) eh_8)
        obtain ⟨x2_9, ex2_9, hf⟩ := bd_ex hf
        exact fm_tr mh_8 (ih P_0 (fun q0 e0 q1 e1 => P_1 q0 (mh_8.1 ▸ e0) q1 (mh_8.1 ▸ e1)) (fun q0 e0 q1 e1 => P_2 q0 (mh_8.1 ▸ e0) q1 (mh_8.1 ▸ e1)) (fun q0 e0 q1 e1 => P_3 q0 (mh_8.1 ▸ e0) q1 (mh_8.1 ▸ e1)) (fun q0 e0 q1 e1 => P_4 q0 (mh_8.1 ▸ e0) q1 (mh_8.1 ▸ e1)) (fun q0 e0 => P_5 q0 (mh_8.1 ▸ e0)) (fun q0 e0 q1 e1 => P_6 q0 (mh_8.1 ▸ e0) q1 (mh_8.1 ▸ e1)) (fun q0 e0 q1 e1 => P_7 q0 (mh_8.1 ▸ e0) q1 (mh_8.1 ▸ e1)) hf)
theorem W_X2_readAll_0 (A : Nat → Prop) (F : Nat) {h : Hp} {a0 : Nat} {a1 : Nat} {h1 : Hp} (P_0 : ∀ q0, h.2 a0 0 = some q0 → A q0) (P_1 : A a1) (P_2 : ∀ q0, h.2 a0 0 = some q0 → ∀ q1, h.2 q0 0 = some q1 → A q1) (P_3 : ∀ q0, h.2 a0 0 = some q0 → ∀ q1, h.2 q0 1 = some q1 → A q1) (P_4 : ∀ q0, h.2 a0 0 = some q0 → ∀ q1, h.2 q0 4 = some q1 → A q1) (P_5 : ∀ q0, h.2 a0 0 = some q0 → ∀ q1, h.2 q0 5 = some q1 → A q1) (P_6 : ∀ q0, h.2 a0 0 = some q0 → ∀ q1, h.2 q0 2 = some q1 → A q1) (P_7 : ∀ q0, h.2 a0 0 = some q0 → ∀ q1, h.2 q0 3 = some q1 → A q1) (hf : X2_readAll F a0 a1 h = some h1) : Fm A h h1 := by
  unfold X2_readAll at hf
  have m0 := fm_rf (A := A) (h := h)
  obtain ⟨k_1, hf⟩ := gq_ex hf
  obtain ⟨j_2, ej_2, hf⟩ := ob_ex hf
  have zj_2 : h.2 a0 0 = some j_2 := m0.1 ▸ ej_2
  obtain ⟨k_3, hf⟩ := gq_ex hf
  obtain ⟨h_5, eh_5, hf⟩ := ob_ex hf
  have mh_5 := fm_tr m0 (W_X1_empty A F (P_0 _ zj_2) eh_5)
  obtain ⟨h_7, eh_7, hf⟩ := ob_ex hf
  have mh_7 := fm_tr mh_5 (W_X2_readRule A F P_1 (fun q0 e0 q1 e1 => P_2 q0 (mh_5.1 ▸ e0) q1 (mh_5.1 ▸ e1)) (fun q0 e0 q1 e1 => P_3 q0 (mh_5.1 ▸ e0) q1 (mh_5.1 ▸ e1)) (fun q0 e0 q1 e1 => P_4 q0 (mh_5.1 ▸ e0) q1 (mh_5.1 ▸ e1)) (fun q0 e0 q1 e1 => P_5 q0 (mh_5.1 ▸ e0) q1 (mh_5.1 ▸ e1)) (fun q0 e0 => P_0 q0 (mh_5.1 ▸ e0)) (fun q0 e0 q1 e1 => P_6 q0 (mh_5.1 ▸ e0) q1 (mh_5.1 ▸ e1)) (fun q0 e0 q1 e1 => P_7 q0 (mh_5.1 ▸ e0) q1 (mh_5.1 ▸ e1)) eh_7)
  exact fm_tr mh_7 (W_X2_readAll_14 A F _ P_1 (fun q0 e0 q1 e1 => P_2 q0 (mh_7.1 ▸ e0) q1 (mh_7.1 ▸ e1)) (fun q0 e0 q1 e1 => P_3 q0 (mh_7.1 ▸ e0) q1 (mh_7.1 ▸ e1)) (fun q0 e0 q1 e1 => P_4 q0 (mh_7.1 ▸ e0) q1 (mh_7.1 ▸ e1)) (fun q0 e0 q1 e1 => P_5 q0 (mh_7.1 ▸ e0) q1 (mh_7.1 ▸ e1)) (fun q0 e0 => P_0 q0 (mh_7.1 ▸ e0)) (fun q0 e0 q1 e1 => P_6 q0 (mh_7.1 ▸ e0) q1 (mh_7.1 ▸ e1)) (fun q0 e0 q1 e1 => P_7 q0 (mh_7.1 ▸ e0) q1 (mh_7.1 ▸ e1)) hf)
theorem W_X2_readAll (A : Nat → Prop) (F : Nat) {h : Hp} {a0 : Nat} {a1 : Nat} {h1 : Hp} (P_0 : ∀ q0, h.2 a0 0 = some q0 → A q0) (P_1 : A a1) (P_2 : ∀ q0, h.2 a0 0 = some q0 → ∀ q1, h.2 q0 0 = some q1 → A q1) (P_3 : ∀ q0, h.2 a0 0 = some q0 → ∀ q1, h.2 q0 1 = some q1 → A q1) (P_4 : ∀ q0, h.2 a0 0 = some q0 → ∀ q1, h.2 q0 4 = some q1 → A q1) (P_5 : ∀ q0, h.2 a0 0 = some q0 → ∀ q1, h.2 q0 5 = some q1 → A q1) (P_6 : ∀ q0, h.2 a0 0 = some q0 → ∀ q1, h.2 q0 2 = some q1 → A q1) (P_7 : ∀ q0, h.2 a0 0 = some q0 → ∀ q1, h.2 q0 3 = some q1 → A q1) (hf : X2_readAll F a0 a1 h = some h1) : Fm A h h1 := W_X2_readAll_0 A F P_0 P_1 P_2 P_3 P_4 P_5 P_6 P_7 hf
theorem W_X9_readBounded_0 (A : Nat → Prop) (F : Nat) {h : Hp} {a0 : Nat} {x1 : Int32} {x2 : Int32} {x3 : Int32} {r : Int32} {h1 : Hp} (P_0 : A a0) (hf : X9_readBounded F a0 x1 x2 x3 h = some (r, h1)) : Fm A h h1 := by
  unfold X9_readBounded at hf
  have m0 := fm_rf (A := A) (h := h)
  obtain ⟨k_1, hf⟩ := gq_ex hf
  obtain ⟨x4_2, ex4_2, hf⟩ := bd_ex hf
  obtain ⟨c_3, h_4, ec_3, hf⟩ := bq_ex hf
  have mh_4 := fm_tr m0 (W_X9_readNumber A F P_0 ec_3)
  obtain ⟨c_5, ec_5, hf⟩ := ob_ex hf
  rcases ite_ex hf with ⟨q_7, hf⟩ | ⟨q_7, hf⟩
  · skip
    obtain ⟨h_9, eh_9, hf⟩ := ob_ex hf
    have mh_9 := fm_tr mh_4 (W_X9_refuse A F P_0 eh_9)
    cases hf
    exact mh_9
  · skip
    cases hf
    exact mh_4
theorem W_X9_readBounded (A : Nat → Prop) (F : Nat) {h : Hp} {a0 : Nat} {x1 : Int32} {x2 : Int32} {x3 : Int32} {r : Int32} {h1 : Hp} (P_0 : A a0) (hf : X9_readBounded F a0 x1 x2 x3 h = some (r, h1)) : Fm A h h1 := W_X9_readBounded_0 A F P_0 hf
theorem W_X4_readDeed_16 (A : Nat → Prop) (F : Nat) {h : Hp} {a0 : Nat} {a1 : Nat} {r0 : Nat} {s1 : Int32} {s2 : Int32} {s3 : Int32} {h1 : Hp} (P_0 : ∀ q0, h.2 a0 1 = some q0 → A q0) (P_1 : A a1) (P_2 : ∀ q0, h.2 a0 2 = some q0 → A q0) (P_3 : ∀ q0, h.2 a0 3 = some q0 → A q0) (P_4 : A r0) (hf : X4_readDeed_16 F a0 a1 r0 s1 s2 s3 h = some h1) : Fm A h h1 := by
  unfold X4_readDeed_16 at hf
  have m0 := fm_rf (A := A) (h := h)
  obtain ⟨k_1, hf⟩ := gq_ex hf
  obtain ⟨c_2, h_3, ec_2, hf⟩ := bq_ex hf
  have mh_3 := fm_tr m0 (W_X9_either A F P_4 ec_2)
  obtain ⟨k_4, hf⟩ := gq_ex hf
  obtain ⟨j_5, ej_5, hf⟩ := ob_ex hf
  have zj_5 : h.2 a0 1 = some j_5 := mh_3.1 ▸ ej_5
  obtain ⟨h_7, eh_7, hf⟩ := ob_ex hf
  have mh_7 := fm_tr mh_3 (W_X11_put A F (P_0 _ zj_5) eh_7)
  rcases ite_ex hf with ⟨q_8, hf⟩ | ⟨q_8, hf⟩
  · skip
    obtain ⟨k_29, hf⟩ := gq_ex hf
    obtain ⟨h_31, eh_31, hf⟩ := ob_ex hf
    have mh_31 := fm_tr mh_7 (W_X9_refuse A F P_1 eh_31)
    cases hf
    exact mh_31
  · skip
    rcases ite_ex hf with ⟨q_9, hf⟩ | ⟨q_9, hf⟩
    · skip
      obtain ⟨j_16, ej_16, hf⟩ := ob_ex hf
      have zj_16 : h.2 a0 2 = some j_16 := mh_7.1 ▸ ej_16
      obtain ⟨k_17, hf⟩ := gq_ex hf
      obtain ⟨c_18, h_19, ec_18, hf⟩ := bq_ex hf
      have mh_19 := fm_tr mh_7 (W_X9_readBounded A F P_1 ec_18)
      obtain ⟨h_21, eh_21, hf⟩ := ob_ex hf
      have mh_21 := fm_tr mh_19 (W_X11_put A F (P_2 _ zj_16) eh_21)
      obtain ⟨h_23, eh_23, hf⟩ := ob_ex hf
      have mh_23 := fm_tr mh_21 (W_X9_pass A F P_1 eh_23)
      obtain ⟨j_24, ej_24, hf⟩ := ob_ex hf
      have zj_24 : h.2 a0 3 = some j_24 := mh_23.1 ▸ ej_24
      obtain ⟨c_25, h_26, ec_25, hf⟩ := bq_ex hf
      have mh_26 := fm_tr mh_23 (W_X9_readBounded A F P_1 ec_25)
      obtain ⟨h_28, eh_28, hf⟩ := ob_ex hf
      have mh_28 := fm_tr mh_26 (W_X11_put A F (P_3 _ zj_24) eh_28)
      cases hf
      exact mh_28
    · skip
      obtain ⟨j_10, ej_10, hf⟩ := ob_ex hf
      have zj_10 : h.2 a0 3 = some j_10 := mh_7.1 ▸ ej_10
      obtain ⟨k_11, hf⟩ := gq_ex hf
      obtain ⟨c_12, h_13, ec_12, hf⟩ := bq_ex hf
      have mh_13 := fm_tr mh_7 (W_X9_readNumber A F P_1 ec_12)
      obtain ⟨h_15, eh_15, hf⟩ := ob_ex hf
      have mh_15 := fm_tr mh_13 (W_X11_put A F (P_3 _ zj_10) eh_15)
      cases hf
      exact mh_15
theorem W_X4_readDeed_0 (A : Nat → Prop) (F : Nat) {h : Hp} {a0 : Nat} {a1 : Nat} {x2 : Int32} {h1 : Hp} (P_0 : ∀ q0, h.2 a0 1 = some q0 → A q0) (P_1 : A a1) (P_2 : ∀ q0, h.2 a0 2 = some q0 → A q0) (P_3 : ∀ q0, h.2 a0 3 = some q0 → A q0) (hf : X4_readDeed F a0 a1 x2 h = some h1) : Fm A h h1 := by
  unfold X4_readDeed at hf
  have m0 := fm_rf (A := A) (h := h)
  rcases ite_ex hf with ⟨q_1, hf⟩ | ⟨q_1, hf⟩
  · skip
    exact fm_tr m0 (W_X4_readDeed_16 A F (fun q0 e0 => P_0 q0 (m0.1 ▸ e0)) P_1 (fun q0 e0 => P_2 q0 (m0.1 ▸ e0)) (fun q0 e0 => P_3 q0 (m0.1 ▸ e0)) P_1 hf)
  · skip
    exact fm_tr m0 (W_X4_readDeed_16 A F (fun q0 e0 => P_0 q0 (m0.1 ▸ e0)) P_1 (fun q0 e0 => P_2 q0 (m0.1 ▸ e0)) (fun q0 e0 => P_3 q0 (m0.1 ▸ e0)) P_1 hf)
theorem W_X4_readDeed (A : Nat → Prop) (F : Nat) {h : Hp} {a0 : Nat} {a1 : Nat} {x2 : Int32} {h1 : Hp} (P_0 : ∀ q0, h.2 a0 1 = some q0 → A q0) (P_1 : A a1) (P_2 : ∀ q0, h.2 a0 2 = some q0 → A q0) (P_3 : ∀ q0, h.2 a0 3 = some q0 → A q0) (hf : X4_readDeed F a0 a1 x2 h = some h1) : Fm A h h1 := W_X4_readDeed_0 A F P_0 P_1 P_2 P_3 hf
theorem W_X4_readLine_49 (A : Nat → Prop) (F : Nat) {h : Hp} {a0 : Nat} {a1 : Nat} {x2 : Int32} {x3 : Int32} {h1 : Hp} (P_0 : A a1) (P_1 : ∀ q0, h.2 a0 0 = some q0 → A q0) (P_2 : A a0) (P_3 : ∀ q0, h.2 a0 1 = some q0 → A q0) (P_4 : ∀ q0, h.2 a0 2 = some q0 → A q0) (P_5 : ∀ q0, h.2 a0 3 = some q0 → A q0) (hf : X4_readLine_49 F a0 a1 x2 x3 h = some h1) : Fm A h h1 := by
  unfold X4_readLine_49 at hf
  have m0 := fm_rf (A := A) (h := h)
  obtain ⟨k_1, hf⟩ := gq_ex hf
  rcases ite_ex hf with ⟨q_2, hf⟩ | ⟨q_2, hf⟩
  · skip
    obtain ⟨k_3, hf⟩ := gq_ex hf
    obtain ⟨h_4, eh_4, hf⟩ := bd_ex hf
    have mh_4 := fm_tr m0 (fm_up eh_4 (P_0))
    obtain ⟨j_5, ej_5, hf⟩ := ob_ex hf
    have zj_5 : h.2 a0 0 = some j_5 := mh_4.1 ▸ ej_5
    obtain ⟨h_7, eh_7, hf⟩ := ob_ex hf
    have mh_7 := fm_tr mh_4 (W_X11_put A F (P_1 _ zj_5) eh_7)
    obtain ⟨h_9, eh_9, hf⟩ := ob_ex hf
    have mh_9 := fm_tr mh_7 (W_X4_readDeed A F (fun q0 e0 => P_3 q0 (mh_7.1 ▸ e0)) P_0 (fun q0 e0 => P_4 q0 (mh_7.1 ▸ e0)) (fun q0 e0 => P_5 q0 (mh_7.1 ▸ e0)) eh_9)
    obtain ⟨h_10, eh_10, hf⟩ := bd_ex hf
    have mh_10 := fm_tr mh_9 (fm_up eh_10 (P_2))
    cases hf
    exact mh_10
  · skip
    obtain ⟨k_11, hf⟩ := gq_ex hf
    obtain ⟨h_13, eh_13, hf⟩ := ob_ex hf
    have mh_13 := fm_tr m0 (W_X9_refuse A F P_0 eh_13)
    cases hf
    exact mh_13
theorem W_X4_readLine_22 (A : Nat → Prop) (F : Nat) {h : Hp} {a0 : Nat} {a1 : Nat} {x2 : Int32} {s0 : Int32} {h1 : Hp} (P_0 : A a1) (P_1 : ∀ q0, h.2 a0 0 = some q0 → A q0) (P_2 : A a0) (P_3 : ∀ q0, h.2 a0 1 = some q0 → A q0) (P_4 : ∀ q0, h.2 a0 2 = some q0 → A q0) (P_5 : ∀ q0, h.2 a0 3 = some q0 → A q0) (hf : X4_readLine_22 F a0 a1 x2 s0 h = some h1) : Fm A h h1 := by
  unfold X4_readLine_22 at hf
  have m0 := fm_rf (A := A) (h := h)
  rcases ite_ex hf with ⟨q_1, hf⟩ | ⟨q_1, hf⟩
  · skip
    rcases ite_ex hf with ⟨q_2, hf⟩ | ⟨q_2, hf⟩
    · skip
      exact fm_tr m0 (W_X4_readLine_49 A F P_0 (fun q0 e0 => P_1 q0 (m0.1 ▸ e0)) P_2 (fun q0 e0 => P_3 q0 (m0.1 ▸ e0)) (fun q0 e0 => P_4 q0 (m0.1 ▸ e0)) (fun q0 e0 => P_5 q0 (m0.1 ▸ e0)) hf)
    · skip
      rcases ite_ex hf with ⟨q_3, hf⟩ | ⟨q_3, hf⟩
      · skip
        exact fm_tr m0 (W_X4_readLine_49 A F P_0 (fun q0 e0 => P_1 q0 (m0.1 ▸ e0)) P_2 (fun q0 e0 => P_3 q0 (m0.1 ▸ e0)) (fun q0 e0 => P_4 q0 (m0.1 ▸ e0)) (fun q0 e0 => P_5 q0 (m0.1 ▸ e0)) hf)
      · skip
        obtain ⟨k_4, hf⟩ := gq_ex hf
        obtain ⟨h_6, eh_6, hf⟩ := ob_ex hf
        have mh_6 := fm_tr m0 (W_X9_refuse A F P_0 eh_6)
        cases hf
        exact mh_6
  · skip
    exact fm_tr m0 (W_X4_readLine_49 A F P_0 (fun q0 e0 => P_1 q0 (m0.1 ▸ e0)) P_2 (fun q0 e0 => P_3 q0 (m0.1 ▸ e0)) (fun q0 e0 => P_4 q0 (m0.1 ▸ e0)) (fun q0 e0 => P_5 q0 (m0.1 ▸ e0)) hf)
theorem W_X4_readLine_17 (A : Nat → Prop) (F : Nat) {h : Hp} {a0 : Nat} {a1 : Nat} {x2 : Int32} {h1 : Hp} (P_0 : A a1) (P_1 : ∀ q0, h.2 a0 0 = some q0 → A q0) (P_2 : A a0) (P_3 : ∀ q0, h.2 a0 1 = some q0 → A q0) (P_4 : ∀ q0, h.2 a0 2 = some q0 → A q0) (P_5 : ∀ q0, h.2 a0 3 = some q0 → A q0) (hf : X4_readLine_17 F a0 a1 x2 h = some h1) : Fm A h h1 := by
  unfold X4_readLine_17 at hf
  have m0 := fm_rf (A := A) (h := h)
  exact fm_tr m0 (W_X4_readLine_22 A F P_0 (fun q0 e0 => P_1 q0 (m0.1 ▸ e0)) P_2 (fun q0 e0 => P_3 q0 (m0.1 ▸ e0)) (fun q0 e0 => P_4 q0 (m0.1 ▸ e0)) (fun q0 e0 => P_5 q0 (m0.1 ▸ e0)) hf)
theorem W_X4_readLine_0 (A : Nat → Prop) (F : Nat) {h : Hp} {a0 : Nat} {a1 : Nat} {h1 : Hp} (P_0 : A a1) (P_1 : ∀ q0, h.2 a0 0 = some q0 → A q0) (P_2 : A a0) (P_3 : ∀ q0, h.2 a0 1 = some q0 → A q0) (P_4 : ∀ q0, h.2 a0 2 = some q0 → A q0) (P_5 : ∀ q0, h.2 a0 3 = some q0 → A q0) (hf : X4_readLine F a0 a1 h = some h1) : Fm A h h1 := by
  unfold X4_readLine at hf
  have m0 := fm_rf (A := A) (h := h)
  obtain ⟨k_1, hf⟩ := gq_ex hf
  obtain ⟨c_2, ec_2, hf⟩ := ob_ex hf
  rcases ite_ex hf with ⟨q_4, hf⟩ | ⟨q_4, hf⟩
  · skip
    exact fm_tr m0 (W_X4_readLine_17 A F P_0 (fun q0 e0 => P_1 q0 (m0.1 ▸ e0)) P_2 (fun q0 e0 => P_3 q0 (m0.1 ▸ e0)) (fun q0 e0 => P_4 q0 (m0.1 ▸ e0)) (fun q0 e0 => P_5 q0 (m0.1 ▸ e0)) hf)
  · skip
    rcases ite_ex hf with ⟨q_5, hf⟩ | ⟨q_5, hf⟩
    · skip
      exact fm_tr m0 (W_X4_readLine_17 A F P_0 (fun q0 e0 => P_1 q0 (m0.1 ▸ e0)) P_2 (fun q0 e0 => P_3 q0 (m0.1 ▸ e0)) (fun q0 e0 => P_4 q0 (m0.1 ▸ e0)) (fun q0 e0 => P_5 q0 (m0.1 ▸ e0)) hf)
    · skip
      exact fm_tr m0 (W_X4_readLine_22 A F P_0 (fun q0 e0 => P_1 q0 (m0.1 ▸ e0)) P_2 (fun q0 e0 => P_3 q0 (m0.1 ▸ e0)) (fun q0 e0 => P_4 q0 (m0.1 ▸ e0)) (fun q0 e0 => P_5 q0 (m0.1 ▸ e0)) hf)
theorem W_X4_readLine (A : Nat → Prop) (F : Nat) {h : Hp} {a0 : Nat} {a1 : Nat} {h1 : Hp} (P_0 : A a1) (P_1 : ∀ q0, h.2 a0 0 = some q0 → A q0) (P_2 : A a0) (P_3 : ∀ q0, h.2 a0 1 = some q0 → A q0) (P_4 : ∀ q0, h.2 a0 2 = some q0 → A q0) (P_5 : ∀ q0, h.2 a0 3 = some q0 → A q0) (hf : X4_readLine F a0 a1 h = some h1) : Fm A h h1 := W_X4_readLine_0 A F P_0 P_1 P_2 P_3 P_4 P_5 hf
theorem W_X4_readAll_38 (A : Nat → Prop) (F : Nat) {h : Hp} {a1 : Nat} {h1 : Hp} (P_0 : A a1) (hf : X4_readAll_38 F a1 h = some h1) : Fm A h h1 := by
  unfold X4_readAll_38 at hf
  have m0 := fm_rf (A := A) (h := h)
  obtain ⟨k_1, hf⟩ := gq_ex hf
  obtain ⟨h_3, eh_3, hf⟩ := ob_ex hf
  have mh_3 := fm_tr m0 (W_X9_mustEnd A F P_0 eh_3)
  cases hf
  exact mh_3
theorem W_X4_readAll_12 (A : Nat → Prop) (F : Nat) : ∀ (f : Nat) {h : Hp} {a0 : Nat} {a1 : Nat} {x2 : Int32} {h1 : Hp} (P_0 : A a1) (P_1 : ∀ q0, h.2 a0 0 = some q0 → A q0) (P_2 : A a0) (P_3 : ∀ q0, h.2 a0 1 = some q0 → A q0) (P_4 : ∀ q0, h.2 a0 2 = some q0 → A q0) (P_5 : ∀ q0, h.2 a0 3 = some q0 → A q0), X4_readAll_12 F f a0 a1 x2 h = some h1 → Fm A h h1 := by
  intro f
  induction f with
  | zero =>
    intro h a0 a1 x2 h1 P_0 P_1 P_2 P_3 P_4 P_5 hf
    exact nomatch (show (none : Option _) = some _ from hf)
  | succ f ih =>
    intro h a0 a1 x2 h1 P_0 P_1 P_2 P_3 P_4 P_5 hf
    rw [X4_readAll_12] at hf
    have m0 := fm_rf (A := A) (h := h)
    rcases ite_ex hf with ⟨q_1, hf⟩ | ⟨q_1, hf⟩
    · skip
      exact fm_tr m0 (W_X4_readAll_38 A F P_0 hf)
    · skip
      obtain ⟨k_2, hf⟩ := gq_ex hf
      obtain ⟨c_3, h_4, ec_3, hf⟩ := bq_ex hf
      have mh_4 := fm_tr m0 (W_X9_goesOn A F P_0 ec_3)
      rcases ite_ex hf with ⟨q_5, hf⟩ | ⟨q_5, hf⟩
      · skip
        exact fm_tr mh_4 (W_X4_readAll_38 A F P_0 hf)
      · skip
        obtain ⟨k_6, hf⟩ := gq_ex hf
        obtain ⟨h_8, eh_8, hf⟩ := ob_ex hf
        have mh_8 := fm_tr mh_4 (W_X4_readLine A F P_0 (fun q0 e0 => P_1 q0 (mh_4.1 ▸ e0)) P_2 (fun q0 e0 => P_3 q0 (mh_4.1 ▸ e0)) (fun q0 e0 => P_4 q0 (mh_4.1 ▸ e0)) (fun q0 e0 => P_5 q0 (mh_4.1 ▸ e0)) eh_8)
        obtain ⟨x2_9, ex2_9, hf⟩ := bd_ex hf
        exact fm_tr mh_8 (ih P_0 (fun q0 e0 => P_1 q0 (mh_8.1 ▸ e0)) P_2 (fun q0 e0 => P_3 q0 (mh_8.1 ▸ e0)) (fun q0 e0 => P_4 q0 (mh_8.1 ▸ e0)) (fun q0 e0 => P_5 q0 (mh_8.1 ▸ e0)) hf)
theorem W_X4_readAll_0 (A : Nat → Prop) (F : Nat) {h : Hp} {a0 : Nat} {a1 : Nat} {h1 : Hp} (P_0 : A a0) (P_1 : A a1) (P_2 : ∀ q0, h.2 a0 0 = some q0 → A q0) (P_3 : ∀ q0, h.2 a0 1 = some q0 → A q0) (P_4 : ∀ q0, h.2 a0 2 = some q0 → A q0) (P_5 : ∀ q0, h.2 a0 3 = some q0 → A q0) (hf : X4_readAll F a0 a1 h = some h1) : Fm A h h1 := by
  unfold X4_readAll at hf
  have m0 := fm_rf (A := A) (h := h)
  obtain ⟨k_1, hf⟩ := gq_ex hf
  obtain ⟨h_2, eh_2, hf⟩ := bd_ex hf
  have mh_2 := fm_tr m0 (fm_up eh_2 (P_0))
  obtain ⟨h_4, eh_4, hf⟩ := ob_ex hf
  have mh_4 := fm_tr mh_2 (W_X4_readLine A F P_1 (fun q0 e0 => P_2 q0 (mh_2.1 ▸ e0)) P_0 (fun q0 e0 => P_3 q0 (mh_2.1 ▸ e0)) (fun q0 e0 => P_4 q0 (mh_2.1 ▸ e0)) (fun q0 e0 => P_5 q0 (mh_2.1 ▸ e0)) eh_4)
  exact fm_tr mh_4 (W_X4_readAll_12 A F _ P_1 (fun q0 e0 => P_2 q0 (mh_4.1 ▸ e0)) P_0 (fun q0 e0 => P_3 q0 (mh_4.1 ▸ e0)) (fun q0 e0 => P_4 q0 (mh_4.1 ▸ e0)) (fun q0 e0 => P_5 q0 (mh_4.1 ▸ e0)) hf)
theorem W_X4_readAll (A : Nat → Prop) (F : Nat) {h : Hp} {a0 : Nat} {a1 : Nat} {h1 : Hp} (P_0 : A a0) (P_1 : A a1) (P_2 : ∀ q0, h.2 a0 0 = some q0 → A q0) (P_3 : ∀ q0, h.2 a0 1 = some q0 → A q0) (P_4 : ∀ q0, h.2 a0 2 = some q0 → A q0) (P_5 : ∀ q0, h.2 a0 3 = some q0 → A q0) (hf : X4_readAll F a0 a1 h = some h1) : Fm A h h1 := W_X4_readAll_0 A F P_0 P_1 P_2 P_3 P_4 P_5 hf
theorem W_X8_putBench_0 (A : Nat → Prop) (F : Nat) {h : Hp} {a0 : Nat} {x1 : Int32} {x2 : Int32} {x3 : Int32} {h1 : Hp} (P_0 : ∀ q0, h.2 a0 2 = some q0 → A q0) (hf : X8_putBench F a0 x1 x2 x3 h = some h1) : Fm A h h1 := by
  unfold X8_putBench at hf
  have m0 := fm_rf (A := A) (h := h)
  obtain ⟨k_1, hf⟩ := gq_ex hf
  obtain ⟨j_2, ej_2, hf⟩ := ob_ex hf
  have zj_2 : h.2 a0 2 = some j_2 := m0.1 ▸ ej_2
  obtain ⟨h_4, eh_4, hf⟩ := ob_ex hf
  have mh_4 := fm_tr m0 (W_X11_put A F (P_0 _ zj_2) eh_4)
  cases hf
  exact mh_4
theorem W_X8_putBench (A : Nat → Prop) (F : Nat) {h : Hp} {a0 : Nat} {x1 : Int32} {x2 : Int32} {x3 : Int32} {h1 : Hp} (P_0 : ∀ q0, h.2 a0 2 = some q0 → A q0) (hf : X8_putBench F a0 x1 x2 x3 h = some h1) : Fm A h h1 := W_X8_putBench_0 A F P_0 hf
theorem W_X8_addStore_0 (A : Nat → Prop) (F : Nat) {h : Hp} {a0 : Nat} {x1 : Int32} {h1 : Hp} (P_0 : A a0) (hf : X8_addStore F a0 x1 h = some h1) : Fm A h h1 := by
  unfold X8_addStore at hf
  have m0 := fm_rf (A := A) (h := h)
  obtain ⟨k_1, hf⟩ := gq_ex hf
  obtain ⟨c_2, ec_2, hf⟩ := ob_ex hf
  obtain ⟨h_4, eh_4, hf⟩ := bd_ex hf
  have mh_4 := fm_tr m0 (fm_up eh_4 (P_0))
  cases hf
  exact mh_4
theorem W_X8_addStore (A : Nat → Prop) (F : Nat) {h : Hp} {a0 : Nat} {x1 : Int32} {h1 : Hp} (P_0 : A a0) (hf : X8_addStore F a0 x1 h = some h1) : Fm A h h1 := W_X8_addStore_0 A F P_0 hf
theorem W_X8_addDebt_0 (A : Nat → Prop) (F : Nat) {h : Hp} {a0 : Nat} {x1 : Int32} {h1 : Hp} (P_0 : A a0) (hf : X8_addDebt F a0 x1 h = some h1) : Fm A h h1 := by
  unfold X8_addDebt at hf
  have m0 := fm_rf (A := A) (h := h)
  obtain ⟨k_1, hf⟩ := gq_ex hf
  obtain ⟨c_2, ec_2, hf⟩ := ob_ex hf
  obtain ⟨h_4, eh_4, hf⟩ := bd_ex hf
  have mh_4 := fm_tr m0 (fm_up eh_4 (P_0))
  cases hf
  exact mh_4
theorem W_X8_addDebt (A : Nat → Prop) (F : Nat) {h : Hp} {a0 : Nat} {x1 : Int32} {h1 : Hp} (P_0 : A a0) (hf : X8_addDebt F a0 x1 h = some h1) : Fm A h h1 := W_X8_addDebt_0 A F P_0 hf
theorem W_X8_setLaid_0 (A : Nat → Prop) (F : Nat) {h : Hp} {a0 : Nat} {x1 : Int32} {x2 : Int32} {h1 : Hp} (P_0 : A a0) (hf : X8_setLaid F a0 x1 x2 h = some h1) : Fm A h h1 := by
  unfold X8_setLaid at hf
  have m0 := fm_rf (A := A) (h := h)
  rcases ite_ex hf with ⟨q_1, hf⟩ | ⟨q_1, hf⟩
  · skip
    obtain ⟨k_4, hf⟩ := gq_ex hf
    obtain ⟨h_5, eh_5, hf⟩ := bd_ex hf
    have mh_5 := fm_tr m0 (fm_up eh_5 (P_0))
    cases hf
    exact mh_5
  · skip
    obtain ⟨k_2, hf⟩ := gq_ex hf
    obtain ⟨h_3, eh_3, hf⟩ := bd_ex hf
    have mh_3 := fm_tr m0 (fm_up eh_3 (P_0))
    cases hf
    exact mh_3
theorem W_X8_setLaid (A : Nat → Prop) (F : Nat) {h : Hp} {a0 : Nat} {x1 : Int32} {x2 : Int32} {h1 : Hp} (P_0 : A a0) (hf : X8_setLaid F a0 x1 x2 h = some h1) : Fm A h h1 := W_X8_setLaid_0 A F P_0 hf
theorem W_X8_lay_0 (A : Nat → Prop) (F : Nat) {h : Hp} {a0 : Nat} {x1 : Int32} {x2 : Int32} {h1 : Hp} (P_0 : A a0) (hf : X8_lay F a0 x1 x2 h = some h1) : Fm A h h1 := by
  unfold X8_lay at hf
  have m0 := fm_rf (A := A) (h := h)
  obtain ⟨k_1, hf⟩ := gq_ex hf
  obtain ⟨c_2, ec_2, hf⟩ := ob_ex hf
  obtain ⟨c_4, ec_4, hf⟩ := ob_ex hf
  obtain ⟨h_7, eh_7, hf⟩ := ob_ex hf
  have mh_7 := fm_tr m0 (W_X8_setLaid A F P_0 eh_7)
  cases hf
  exact mh_7
theorem W_X8_lay (A : Nat → Prop) (F : Nat) {h : Hp} {a0 : Nat} {x1 : Int32} {x2 : Int32} {h1 : Hp} (P_0 : A a0) (hf : X8_lay F a0 x1 x2 h = some h1) : Fm A h h1 := W_X8_lay_0 A F P_0 hf
theorem W_X4_obey_135 (A : Nat → Prop) (F : Nat) {k2 : Nat → Nat → Int32 → Hp → Option Hp} (hk2 : ∀ {h : Hp} {a0 : Nat} {a1 : Nat} {x2 : Int32} {h1 : Hp} (_ : ∀ q0, h.2 a1 2 = some q0 → A q0) (_ : A a1), k2 a0 a1 x2 h = some h1 → Fm A h h1) {h : Hp} {a0 : Nat} {a1 : Nat} {x2 : Int32} {h1 : Hp} (P_0 : ∀ q0, h.2 a1 2 = some q0 → A q0) (P_1 : A a1) (hf : X4_obey_135 F k2 a0 a1 x2 h = some h1) : Fm A h h1 := by
  unfold X4_obey_135 at hf
  have m0 := fm_rf (A := A) (h := h)
  obtain ⟨x2_1, ex2_1, hf⟩ := bd_ex hf
  exact fm_tr m0 (hk2 (fun q0 e0 => P_0 q0 (m0.1 ▸ e0)) P_1 hf)
theorem W_X4_obey_63 (A : Nat → Prop) (F : Nat) {k2 : Nat → Nat → Int32 → Hp → Option Hp} (hk2 : ∀ {h : Hp} {a0 : Nat} {a1 : Nat} {x2 : Int32} {h1 : Hp} (_ : ∀ q0, h.2 a1 2 = some q0 → A q0) (_ : A a1), k2 a0 a1 x2 h = some h1 → Fm A h h1) {h : Hp} {a0 : Nat} {a1 : Nat} {x2 : Int32} {x3 : Int32} {x4 : Int32} {x5 : Int32} {s0 : Int32} {h1 : Hp} (P_0 : ∀ q0, h.2 a1 2 = some q0 → A q0) (P_1 : A a1) (hf : X4_obey_63 F k2 a0 a1 x2 x3 x4 x5 s0 h = some h1) : Fm A h h1 := by
  unfold X4_obey_63 at hf
  have m0 := fm_rf (A := A) (h := h)
  obtain ⟨k_1, hf⟩ := gq_ex hf
  obtain ⟨j_2, ej_2, hf⟩ := ob_ex hf
  have zj_2 : h.2 a0 1 = some j_2 := m0.1 ▸ ej_2
  obtain ⟨c_3, ec_3, hf⟩ := ob_ex hf
  rcases ite_ex hf with ⟨q_5, hf⟩ | ⟨q_5, hf⟩
  · skip
    obtain ⟨j_17, ej_17, hf⟩ := ob_ex hf
    have zj_17 : h.2 a0 2 = some j_17 := m0.1 ▸ ej_17
    obtain ⟨c_18, ec_18, hf⟩ := ob_ex hf
    obtain ⟨k_20, hf⟩ := gq_ex hf
    obtain ⟨h_22, eh_22, hf⟩ := ob_ex hf
    have mh_22 := fm_tr m0 (W_X8_putBench A F (fun q0 e0 => P_0 q0 (m0.1 ▸ e0)) eh_22)
    exact fm_tr mh_22 (W_X4_obey_135 A F hk2 (fun q0 e0 => P_0 q0 (mh_22.1 ▸ e0)) P_1 hf)
  · skip
    rcases ite_ex hf with ⟨q_6, hf⟩ | ⟨q_6, hf⟩
    · skip
      obtain ⟨k_14, hf⟩ := gq_ex hf
      obtain ⟨h_16, eh_16, hf⟩ := ob_ex hf
      have mh_16 := fm_tr m0 (W_X8_addStore A F P_1 eh_16)
      exact fm_tr mh_16 (W_X4_obey_135 A F hk2 (fun q0 e0 => P_0 q0 (mh_16.1 ▸ e0)) P_1 hf)
    · skip
      rcases ite_ex hf with ⟨q_7, hf⟩ | ⟨q_7, hf⟩
      · skip
        obtain ⟨k_11, hf⟩ := gq_ex hf
        obtain ⟨h_13, eh_13, hf⟩ := ob_ex hf
        have mh_13 := fm_tr m0 (W_X8_addDebt A F P_1 eh_13)
        exact fm_tr mh_13 (W_X4_obey_135 A F hk2 (fun q0 e0 => P_0 q0 (mh_13.1 ▸ e0)) P_1 hf)
      · skip
        obtain ⟨k_8, hf⟩ := gq_ex hf
        obtain ⟨h_10, eh_10, hf⟩ := ob_ex hf
        have mh_10 := fm_tr m0 (W_X8_lay A F P_1 eh_10)
        exact fm_tr mh_10 (W_X4_obey_135 A F hk2 (fun q0 e0 => P_0 q0 (mh_10.1 ▸ e0)) P_1 hf)
theorem W_X4_obey_30 (A : Nat → Prop) (F : Nat) {k2 : Nat → Nat → Int32 → Hp → Option Hp} (hk2 : ∀ {h : Hp} {a0 : Nat} {a1 : Nat} {x2 : Int32} {h1 : Hp} (_ : ∀ q0, h.2 a1 2 = some q0 → A q0) (_ : A a1), k2 a0 a1 x2 h = some h1 → Fm A h h1) {h : Hp} {a0 : Nat} {a1 : Nat} {x2 : Int32} {x3 : Int32} {s0 : Int32} {h1 : Hp} (P_0 : ∀ q0, h.2 a1 2 = some q0 → A q0) (P_1 : A a1) (hf : X4_obey_30 F k2 a0 a1 x2 x3 s0 h = some h1) : Fm A h h1 := by
  unfold X4_obey_30 at hf
  have m0 := fm_rf (A := A) (h := h)
  obtain ⟨k_1, hf⟩ := gq_ex hf
  obtain ⟨j_2, ej_2, hf⟩ := ob_ex hf
  have zj_2 : h.2 a0 3 = some j_2 := m0.1 ▸ ej_2
  obtain ⟨c_3, ec_3, hf⟩ := ob_ex hf
  obtain ⟨j_5, ej_5, hf⟩ := ob_ex hf
  have zj_5 : h.2 a0 1 = some j_5 := m0.1 ▸ ej_5
  obtain ⟨c_6, ec_6, hf⟩ := ob_ex hf
  rcases ite_ex hf with ⟨q_8, hf⟩ | ⟨q_8, hf⟩
  · skip
    exact fm_tr m0 (W_X4_obey_63 A F hk2 (fun q0 e0 => P_0 q0 (m0.1 ▸ e0)) P_1 hf)
  · skip
    exact fm_tr m0 (W_X4_obey_63 A F hk2 (fun q0 e0 => P_0 q0 (m0.1 ▸ e0)) P_1 hf)
theorem W_X4_obey_2 (A : Nat → Prop) (F : Nat) : ∀ (f : Nat) {h : Hp} {a0 : Nat} {a1 : Nat} {x2 : Int32} {h1 : Hp} (P_0 : ∀ q0, h.2 a1 2 = some q0 → A q0) (P_1 : A a1), X4_obey_2 F f a0 a1 x2 h = some h1 → Fm A h h1 := by
  intro f
  induction f with
  | zero =>
    intro h a0 a1 x2 h1 P_0 P_1 hf
    exact nomatch (show (none : Option _) = some _ from hf)
  | succ f ih =>
    intro h a0 a1 x2 h1 P_0 P_1 hf
    rw [X4_obey_2] at hf
    have m0 := fm_rf (A := A) (h := h)
    obtain ⟨k_1, hf⟩ := gq_ex hf
    rcases ite_ex hf with ⟨q_2, hf⟩ | ⟨q_2, hf⟩
    · skip
      cases hf
      exact m0
    · skip
      obtain ⟨j_3, ej_3, hf⟩ := ob_ex hf
      have zj_3 : h.2 a0 0 = some j_3 := m0.1 ▸ ej_3
      obtain ⟨c_4, ec_4, hf⟩ := ob_ex hf
      rcases ite_ex hf with ⟨q_6, hf⟩ | ⟨q_6, hf⟩
      · skip
        exact fm_tr m0 (W_X4_obey_30 A F (fun p0 p1 q => ih p0 p1 q) (fun q0 e0 => P_0 q0 (m0.1 ▸ e0)) P_1 hf)
      · skip
        exact fm_tr m0 (W_X4_obey_30 A F (fun p0 p1 q => ih p0 p1 q) (fun q0 e0 => P_0 q0 (m0.1 ▸ e0)) P_1 hf)
theorem W_X4_obey_0 (A : Nat → Prop) (F : Nat) {h : Hp} {a0 : Nat} {a1 : Nat} {h1 : Hp} (P_0 : ∀ q0, h.2 a1 2 = some q0 → A q0) (P_1 : A a1) (hf : X4_obey F a0 a1 h = some h1) : Fm A h h1 := by
  unfold X4_obey at hf
  have m0 := fm_rf (A := A) (h := h)
  exact fm_tr m0 (W_X4_obey_2 A F _ (fun q0 e0 => P_0 q0 (m0.1 ▸ e0)) P_1 hf)
theorem W_X4_obey (A : Nat → Prop) (F : Nat) {h : Hp} {a0 : Nat} {a1 : Nat} {h1 : Hp} (P_0 : ∀ q0, h.2 a1 2 = some q0 → A q0) (P_1 : A a1) (hf : X4_obey F a0 a1 h = some h1) : Fm A h h1 := W_X4_obey_0 A F P_0 P_1 hf
theorem W_X5_renew_16 (A : Nat → Prop) (F : Nat) : ∀ (f : Nat) {h : Hp} {a0 : Nat} {a1 : Nat} {x3 : Int32} {h1 : Hp} (P_0 : ∀ q0, h.2 a0 0 = some q0 → A q0), X5_renew_16 F f a0 a1 x3 h = some h1 → Fm A h h1 := by
  intro f
  induction f with
  | zero =>
    intro h a0 a1 x3 h1 P_0 hf
    exact nomatch (show (none : Option _) = some _ from hf)
  | succ f ih =>
    intro h a0 a1 x3 h1 P_0 hf
    rw [X5_renew_16] at hf
    have m0 := fm_rf (A := A) (h := h)
    obtain ⟨k_1, hf⟩ := gq_ex hf
    rcases ite_ex hf with ⟨q_2, hf⟩ | ⟨q_2, hf⟩
    · skip
      cases hf
      exact m0
    · skip
      obtain ⟨j_3, ej_3, hf⟩ := ob_ex hf
      have zj_3 : h.2 a0 0 = some j_3 := m0.1 ▸ ej_3
      obtain ⟨c_4, ec_4, hf⟩ := ob_ex hf
      obtain ⟨c_6, ec_6, hf⟩ := ob_ex hf
      obtain ⟨h_9, eh_9, hf⟩ := ob_ex hf
      have mh_9 := fm_tr m0 (W_X11_put A F (P_0 _ zj_3) eh_9)
      obtain ⟨x3_10, ex3_10, hf⟩ := bd_ex hf
      exact fm_tr mh_9 (ih (fun q0 e0 => P_0 q0 (mh_9.1 ▸ e0)) hf)
theorem W_X5_renew_0 (A : Nat → Prop) (F : Nat) {h : Hp} {a0 : Nat} {a1 : Nat} {x2 : Int32} {h1 : Hp} (P_0 : A a0) (P_1 : ∀ q0, h.2 a0 0 = some q0 → A q0) (hf : X5_renew F a0 a1 x2 h = some h1) : Fm A h h1 := by
  unfold X5_renew at hf
  have m0 := fm_rf (A := A) (h := h)
  obtain ⟨k_1, hf⟩ := gq_ex hf
  obtain ⟨h_2, eh_2, hf⟩ := bd_ex hf
  have mh_2 := fm_tr m0 (fm_up eh_2 (P_0))
  exact fm_tr mh_2 (W_X5_renew_16 A F _ (fun q0 e0 => P_1 q0 (mh_2.1 ▸ e0)) hf)
theorem W_X5_renew (A : Nat → Prop) (F : Nat) {h : Hp} {a0 : Nat} {a1 : Nat} {x2 : Int32} {h1 : Hp} (P_0 : A a0) (P_1 : ∀ q0, h.2 a0 0 = some q0 → A q0) (hf : X5_renew F a0 a1 x2 h = some h1) : Fm A h h1 := W_X5_renew_0 A F P_0 P_1 hf
theorem W_X6_readTimes_0 (A : Nat → Prop) (F : Nat) {h : Hp} {a0 : Nat} {a1 : Nat} {r : Int32} {h1 : Hp} (P_0 : A a1) (hf : X6_readTimes F a0 a1 h = some (r, h1)) : Fm A h h1 := by
  unfold X6_readTimes at hf
  have m0 := fm_rf (A := A) (h := h)
  obtain ⟨k_1, hf⟩ := gq_ex hf
  obtain ⟨c_2, ec_2, hf⟩ := ob_ex hf
  obtain ⟨c_4, ec_4, hf⟩ := ob_ex hf
  rcases ite_ex hf with ⟨q_6, hf⟩ | ⟨q_6, hf⟩
  · skip
    cases hf
    exact m0
  · skip
    obtain ⟨c_7, ec_7, hf⟩ := ob_ex hf
    rcases ite_ex hf with ⟨q_9, hf⟩ | ⟨q_9, hf⟩
    · skip
      obtain ⟨h_10, eh_10, hf⟩ := bd_ex hf
      have mh_10 := fm_tr m0 (fm_up eh_10 (P_0))
      cases hf
      exact mh_10
    · skip
      cases hf
      exact m0
theorem W_X6_readTimes (A : Nat → Prop) (F : Nat) {h : Hp} {a0 : Nat} {a1 : Nat} {r : Int32} {h1 : Hp} (P_0 : A a1) (hf : X6_readTimes F a0 a1 h = some (r, h1)) : Fm A h h1 := W_X6_readTimes_0 A F P_0 hf
theorem W_X6_addArch_0 (A : Nat → Prop) (F : Nat) {h : Hp} {a0 : Nat} {x1 : Int32} {h1 : Hp} (P_0 : ∀ q0, h.2 a0 0 = some q0 → A q0) (P_1 : A a0) (hf : X6_addArch F a0 x1 h = some h1) : Fm A h h1 := by
  unfold X6_addArch at hf
  have m0 := fm_rf (A := A) (h := h)
  obtain ⟨k_1, hf⟩ := gq_ex hf
  obtain ⟨j_2, ej_2, hf⟩ := ob_ex hf
  have zj_2 : h.2 a0 0 = some j_2 := m0.1 ▸ ej_2
  obtain ⟨h_4, eh_4, hf⟩ := ob_ex hf
  have mh_4 := fm_tr m0 (W_X11_put A F (P_0 _ zj_2) eh_4)
  obtain ⟨h_5, eh_5, hf⟩ := bd_ex hf
  have mh_5 := fm_tr mh_4 (fm_up eh_5 (P_1))
  cases hf
  exact mh_5
theorem W_X6_addArch (A : Nat → Prop) (F : Nat) {h : Hp} {a0 : Nat} {x1 : Int32} {h1 : Hp} (P_0 : ∀ q0, h.2 a0 0 = some q0 → A q0) (P_1 : A a0) (hf : X6_addArch F a0 x1 h = some h1) : Fm A h h1 := W_X6_addArch_0 A F P_0 P_1 hf
theorem W_X6_repeat_17 (A : Nat → Prop) (F : Nat) {k8 : Nat → Int32 → Int32 → Int32 → Int32 → Hp → Option Hp} (hk8 : ∀ {h : Hp} {a0 : Nat} {x1 : Int32} {x2 : Int32} {x3 : Int32} {x4 : Int32} {h1 : Hp} (_ : ∀ q0, h.2 a0 0 = some q0 → A q0) (_ : A a0), k8 a0 x1 x2 x3 x4 h = some h1 → Fm A h h1) : ∀ (f : Nat) {h : Hp} {a0 : Nat} {x1 : Int32} {x2 : Int32} {x3 : Int32} {x4 : Int32} {x5 : Int32} {h1 : Hp} (P_0 : ∀ q0, h.2 a0 0 = some q0 → A q0) (P_1 : A a0), X6_repeat_17 F k8 f a0 x1 x2 x3 x4 x5 h = some h1 → Fm A h h1 := by
  intro f
  induction f with
  | zero =>
    intro h a0 x1 x2 x3 x4 x5 h1 P_0 P_1 hf
    exact nomatch (show (none : Option _) = some _ from hf)
  | succ f ih =>
    intro h a0 x1 x2 x3 x4 x5 h1 P_0 P_1 hf
    rw [X6_repeat_17] at hf
    have m0 := fm_rf (A := A) (h := h)
    rcases ite_ex hf with ⟨q_1, hf⟩ | ⟨q_1, hf⟩
    · skip
      obtain ⟨x4_2, ex4_2, hf⟩ := bd_ex hf
      exact fm_tr m0 (hk8 (fun q0 e0 => P_0 q0 (m0.1 ▸ e0)) P_1 hf)
    · skip
      obtain ⟨k_3, hf⟩ := gq_ex hf
      obtain ⟨j_4, ej_4, hf⟩ := ob_ex hf
      have zj_4 : h.2 a0 0 = some j_4 := m0.1 ▸ ej_4
      obtain ⟨c_5, ec_5, hf⟩ := ob_ex hf
      obtain ⟨h_8, eh_8, hf⟩ := ob_ex hf
      have mh_8 := fm_tr m0 (W_X6_addArch A F (fun q0 e0 => P_0 q0 (m0.1 ▸ e0)) P_1 eh_8)
      obtain ⟨x5_9, ex5_9, hf⟩ := bd_ex hf
      exact fm_tr mh_8 (ih (fun q0 e0 => P_0 q0 (mh_8.1 ▸ e0)) P_1 hf)
theorem W_X6_repeat_8 (A : Nat → Prop) (F : Nat) : ∀ (f : Nat) {h : Hp} {a0 : Nat} {x1 : Int32} {x2 : Int32} {x3 : Int32} {x4 : Int32} {h1 : Hp} (P_0 : ∀ q0, h.2 a0 0 = some q0 → A q0) (P_1 : A a0), X6_repeat_8 F f a0 x1 x2 x3 x4 h = some h1 → Fm A h h1 := by
  intro f
  induction f with
  | zero =>
    intro h a0 x1 x2 x3 x4 h1 P_0 P_1 hf
    exact nomatch (show (none : Option _) = some _ from hf)
  | succ f ih =>
    intro h a0 x1 x2 x3 x4 h1 P_0 P_1 hf
    rw [X6_repeat_8] at hf
    have m0 := fm_rf (A := A) (h := h)
    rcases ite_ex hf with ⟨q_1, hf⟩ | ⟨q_1, hf⟩
    · skip
      cases hf
      exact m0
    · skip
      exact fm_tr m0 (W_X6_repeat_17 A F (fun p0 p1 q => ih p0 p1 q) _ (fun q0 e0 => P_0 q0 (m0.1 ▸ e0)) P_1 hf)
theorem W_X6_repeat_0 (A : Nat → Prop) (F : Nat) {h : Hp} {a0 : Nat} {x1 : Int32} {x2 : Int32} {h1 : Hp} (P_0 : ∀ q0, h.2 a0 0 = some q0 → A q0) (P_1 : A a0) (hf : X6_repeat F a0 x1 x2 h = some h1) : Fm A h h1 := by
  unfold X6_repeat at hf
  have m0 := fm_rf (A := A) (h := h)
  obtain ⟨k_1, hf⟩ := gq_ex hf
  obtain ⟨x3_2, ex3_2, hf⟩ := bd_ex hf
  exact fm_tr m0 (W_X6_repeat_8 A F _ (fun q0 e0 => P_0 q0 (m0.1 ▸ e0)) P_1 hf)
theorem W_X6_repeat (A : Nat → Prop) (F : Nat) {h : Hp} {a0 : Nat} {x1 : Int32} {x2 : Int32} {h1 : Hp} (P_0 : ∀ q0, h.2 a0 0 = some q0 → A q0) (P_1 : A a0) (hf : X6_repeat F a0 x1 x2 h = some h1) : Fm A h h1 := W_X6_repeat_0 A F P_0 P_1 hf
theorem W_X6_readGroup_0 (A : Nat → Prop) (F : Nat) {rc : Nat → Nat → Nat → Int32 → Hp → Option Hp} (hrw_0 : ∀ {h : Hp} {a0 : Nat} {a1 : Nat} {x2 : Int32} {h1 : Hp} (_ : A a1) (_ : ∀ q0, h.2 a0 0 = some q0 → A q0) (_ : A a0), rc 0 a0 a1 x2 h = some h1 → Fm A h h1) (hrw_1 : ∀ {h : Hp} {a0 : Nat} {a1 : Nat} {x2 : Int32} {h1 : Hp} (_ : A a1) (_ : ∀ q0, h.2 a0 0 = some q0 → A q0) (_ : A a0), rc 1 a0 a1 x2 h = some h1 → Fm A h h1) (hrw_2 : ∀ {h : Hp} {a0 : Nat} {a1 : Nat} {x2 : Int32} {h1 : Hp} (_ : A a1) (_ : ∀ q0, h.2 a0 0 = some q0 → A q0) (_ : A a0), rc 2 a0 a1 x2 h = some h1 → Fm A h h1) {h : Hp} {a0 : Nat} {a1 : Nat} {x2 : Int32} {h1 : Hp} (P_0 : A a1) (P_1 : ∀ q0, h.2 a0 0 = some q0 → A q0) (P_2 : A a0) (hf : X6_readGroup F rc a0 a1 x2 h = some h1) : Fm A h h1 := by
  unfold X6_readGroup at hf
  have m0 := fm_rf (A := A) (h := h)
  rcases ite_ex hf with ⟨q_1, hf⟩ | ⟨q_1, hf⟩
  · skip
    obtain ⟨k_2, hf⟩ := gq_ex hf
    obtain ⟨h_4, eh_4, hf⟩ := ob_ex hf
    have mh_4 := fm_tr m0 (W_X9_pass A F P_0 eh_4)
    obtain ⟨k_5, hf⟩ := gq_ex hf
    obtain ⟨h_7, eh_7, hf⟩ := ob_ex hf
    have mh_7 := fm_tr mh_4 (hrw_2 P_0 (fun q0 e0 => P_1 q0 (mh_4.1 ▸ e0)) P_2 eh_7)
    obtain ⟨h_9, eh_9, hf⟩ := ob_ex hf
    have mh_9 := fm_tr mh_7 (W_X9_pass A F P_0 eh_9)
    cases hf
    exact mh_9
  · skip
    obtain ⟨k_10, hf⟩ := gq_ex hf
    obtain ⟨h_12, eh_12, hf⟩ := ob_ex hf
    have mh_12 := fm_tr m0 (W_X9_refuse A F P_0 eh_12)
    cases hf
    exact mh_12
theorem W_X6_readItem_64 (A : Nat → Prop) (F : Nat) {rc : Nat → Nat → Nat → Int32 → Hp → Option Hp} (hrw_0 : ∀ {h : Hp} {a0 : Nat} {a1 : Nat} {x2 : Int32} {h1 : Hp} (_ : A a1) (_ : ∀ q0, h.2 a0 0 = some q0 → A q0) (_ : A a0), rc 0 a0 a1 x2 h = some h1 → Fm A h h1) (hrw_1 : ∀ {h : Hp} {a0 : Nat} {a1 : Nat} {x2 : Int32} {h1 : Hp} (_ : A a1) (_ : ∀ q0, h.2 a0 0 = some q0 → A q0) (_ : A a0), rc 1 a0 a1 x2 h = some h1 → Fm A h h1) (hrw_2 : ∀ {h : Hp} {a0 : Nat} {a1 : Nat} {x2 : Int32} {h1 : Hp} (_ : A a1) (_ : ∀ q0, h.2 a0 0 = some q0 → A q0) (_ : A a0), rc 2 a0 a1 x2 h = some h1 → Fm A h h1) {h : Hp} {a0 : Nat} {a1 : Nat} {x3 : Int32} {h1 : Hp} (P_0 : A a1) (hf : X6_readItem_64 F rc a0 a1 x3 h = some h1) : Fm A h h1 := by
  unfold X6_readItem_64 at hf
  have m0 := fm_rf (A := A) (h := h)
  obtain ⟨k_1, hf⟩ := gq_ex hf
  rcases ite_ex hf with ⟨q_2, hf⟩ | ⟨q_2, hf⟩
  · skip
    cases hf
    exact m0
  · skip
    obtain ⟨k_3, hf⟩ := gq_ex hf
    obtain ⟨h_5, eh_5, hf⟩ := ob_ex hf
    have mh_5 := fm_tr m0 (W_X9_refuse A F P_0 eh_5)
    cases hf
    exact mh_5
theorem W_X6_readItem_49 (A : Nat → Prop) (F : Nat) {rc : Nat → Nat → Nat → Int32 → Hp → Option Hp} (hrw_0 : ∀ {h : Hp} {a0 : Nat} {a1 : Nat} {x2 : Int32} {h1 : Hp} (_ : A a1) (_ : ∀ q0, h.2 a0 0 = some q0 → A q0) (_ : A a0), rc 0 a0 a1 x2 h = some h1 → Fm A h h1) (hrw_1 : ∀ {h : Hp} {a0 : Nat} {a1 : Nat} {x2 : Int32} {h1 : Hp} (_ : A a1) (_ : ∀ q0, h.2 a0 0 = some q0 → A q0) (_ : A a0), rc 1 a0 a1 x2 h = some h1 → Fm A h h1) (hrw_2 : ∀ {h : Hp} {a0 : Nat} {a1 : Nat} {x2 : Int32} {h1 : Hp} (_ : A a1) (_ : ∀ q0, h.2 a0 0 = some q0 → A q0) (_ : A a0), rc 2 a0 a1 x2 h = some h1 → Fm A h h1) {h : Hp} {a0 : Nat} {a1 : Nat} {x3 : Int32} {x4 : Int32} {x5 : Int32} {h1 : Hp} (P_0 : A a1) (P_1 : ∀ q0, h.2 a0 0 = some q0 → A q0) (P_2 : A a0) (hf : X6_readItem_49 F rc a0 a1 x3 x4 x5 h = some h1) : Fm A h h1 := by
  unfold X6_readItem_49 at hf
  have m0 := fm_rf (A := A) (h := h)
  obtain ⟨k_1, hf⟩ := gq_ex hf
  obtain ⟨c_2, ec_2, hf⟩ := ob_ex hf
  rcases ite_ex hf with ⟨q_4, hf⟩ | ⟨q_4, hf⟩
  · skip
    exact fm_tr m0 (W_X6_readItem_64 A F hrw_0 hrw_1 hrw_2 P_0 hf)
  · skip
    obtain ⟨k_5, hf⟩ := gq_ex hf
    obtain ⟨h_7, eh_7, hf⟩ := ob_ex hf
    have mh_7 := fm_tr m0 (W_X6_repeat A F (fun q0 e0 => P_1 q0 (m0.1 ▸ e0)) P_2 eh_7)
    exact fm_tr mh_7 (W_X6_readItem_64 A F hrw_0 hrw_1 hrw_2 P_0 hf)
theorem W_X6_readItem_0 (A : Nat → Prop) (F : Nat) {rc : Nat → Nat → Nat → Int32 → Hp → Option Hp} (hrw_0 : ∀ {h : Hp} {a0 : Nat} {a1 : Nat} {x2 : Int32} {h1 : Hp} (_ : A a1) (_ : ∀ q0, h.2 a0 0 = some q0 → A q0) (_ : A a0), rc 0 a0 a1 x2 h = some h1 → Fm A h h1) (hrw_1 : ∀ {h : Hp} {a0 : Nat} {a1 : Nat} {x2 : Int32} {h1 : Hp} (_ : A a1) (_ : ∀ q0, h.2 a0 0 = some q0 → A q0) (_ : A a0), rc 1 a0 a1 x2 h = some h1 → Fm A h h1) (hrw_2 : ∀ {h : Hp} {a0 : Nat} {a1 : Nat} {x2 : Int32} {h1 : Hp} (_ : A a1) (_ : ∀ q0, h.2 a0 0 = some q0 → A q0) (_ : A a0), rc 2 a0 a1 x2 h = some h1 → Fm A h h1) {h : Hp} {a0 : Nat} {a1 : Nat} {x2 : Int32} {h1 : Hp} (P_0 : A a1) (P_1 : ∀ q0, h.2 a0 0 = some q0 → A q0) (P_2 : A a0) (hf : X6_readItem F rc a0 a1 x2 h = some h1) : Fm A h h1 := by
  unfold X6_readItem at hf
  have m0 := fm_rf (A := A) (h := h)
  obtain ⟨k_1, hf⟩ := gq_ex hf
  obtain ⟨x3_2, ex3_2, hf⟩ := bd_ex hf
  obtain ⟨k_3, hf⟩ := gq_ex hf
  obtain ⟨x4_4, ex4_4, hf⟩ := bd_ex hf
  obtain ⟨c_5, h_6, ec_5, hf⟩ := bq_ex hf
  have mh_6 := fm_tr m0 (W_X6_readTimes A F P_0 ec_5)
  obtain ⟨c_7, ec_7, hf⟩ := ob_ex hf
  rcases ite_ex hf with ⟨q_9, hf⟩ | ⟨q_9, hf⟩
  · skip
    obtain ⟨h_15, eh_15, hf⟩ := ob_ex hf
    have mh_15 := fm_tr mh_6 (hrw_0 P_0 (fun q0 e0 => P_1 q0 (mh_6.1 ▸ e0)) P_2 eh_15)
    exact fm_tr mh_15 (W_X6_readItem_49 A F hrw_0 hrw_1 hrw_2 P_0 (fun q0 e0 => P_1 q0 (mh_15.1 ▸ e0)) P_2 hf)
  · skip
    obtain ⟨c_10, h_11, ec_10, hf⟩ := bq_ex hf
    have mh_11 := fm_tr mh_6 (W_X9_readBounded A F P_0 ec_10)
    obtain ⟨h_13, eh_13, hf⟩ := ob_ex hf
    have mh_13 := fm_tr mh_11 (W_X6_addArch A F (fun q0 e0 => P_1 q0 (mh_11.1 ▸ e0)) P_2 eh_13)
    exact fm_tr mh_13 (W_X6_readItem_49 A F hrw_0 hrw_1 hrw_2 P_0 (fun q0 e0 => P_1 q0 (mh_13.1 ▸ e0)) P_2 hf)
theorem W_X6_readItems_8 (A : Nat → Prop) (F : Nat) {rc : Nat → Nat → Nat → Int32 → Hp → Option Hp} (hrw_0 : ∀ {h : Hp} {a0 : Nat} {a1 : Nat} {x2 : Int32} {h1 : Hp} (_ : A a1) (_ : ∀ q0, h.2 a0 0 = some q0 → A q0) (_ : A a0), rc 0 a0 a1 x2 h = some h1 → Fm A h h1) (hrw_1 : ∀ {h : Hp} {a0 : Nat} {a1 : Nat} {x2 : Int32} {h1 : Hp} (_ : A a1) (_ : ∀ q0, h.2 a0 0 = some q0 → A q0) (_ : A a0), rc 1 a0 a1 x2 h = some h1 → Fm A h h1) (hrw_2 : ∀ {h : Hp} {a0 : Nat} {a1 : Nat} {x2 : Int32} {h1 : Hp} (_ : A a1) (_ : ∀ q0, h.2 a0 0 = some q0 → A q0) (_ : A a0), rc 2 a0 a1 x2 h = some h1 → Fm A h h1) : ∀ (f : Nat) {h : Hp} {a0 : Nat} {a1 : Nat} {x2 : Int32} {x3 : Int32} {h1 : Hp} (P_0 : A a1) (P_1 : ∀ q0, h.2 a0 0 = some q0 → A q0) (P_2 : A a0), X6_readItems_8 F rc f a0 a1 x2 x3 h = some h1 → Fm A h h1 := by
  intro f
  induction f with
  | zero =>
    intro h a0 a1 x2 x3 h1 P_0 P_1 P_2 hf
    exact nomatch (show (none : Option _) = some _ from hf)
  | succ f ih =>
    intro h a0 a1 x2 x3 h1 P_0 P_1 P_2 hf
    rw [X6_readItems_8] at hf
    have m0 := fm_rf (A := A) (h := h)
    rcases ite_ex hf with ⟨q_1, hf⟩ | ⟨q_1, hf⟩
    · skip
      cases hf
      exact m0
    · skip
      obtain ⟨k_2, hf⟩ := gq_ex hf
      obtain ⟨c_3, h_4, ec_3, hf⟩ := bq_ex hf
      have mh_4 := fm_tr m0 (W_X9_goesOn A F P_0 ec_3)
      rcases ite_ex hf with ⟨q_5, hf⟩ | ⟨q_5, hf⟩
      · skip
        cases hf
        exact mh_4
      · skip
        obtain ⟨k_6, hf⟩ := gq_ex hf
        obtain ⟨h_8, eh_8, hf⟩ := ob_ex hf
        have mh_8 := fm_tr mh_4 (hrw_1 P_0 (fun q0 e0 => P_1 q0 (mh_4.1 ▸ e0)) P_2 eh_8)
        obtain ⟨x3_9, ex3_9, hf⟩ := bd_ex hf
        exact fm_tr mh_8 (ih P_0 (fun q0 e0 => P_1 q0 (mh_8.1 ▸ e0)) P_2 hf)
theorem W_X6_readItems_0 (A : Nat → Prop) (F : Nat) {rc : Nat → Nat → Nat → Int32 → Hp → Option Hp} (hrw_0 : ∀ {h : Hp} {a0 : Nat} {a1 : Nat} {x2 : Int32} {h1 : Hp} (_ : A a1) (_ : ∀ q0, h.2 a0 0 = some q0 → A q0) (_ : A a0), rc 0 a0 a1 x2 h = some h1 → Fm A h h1) (hrw_1 : ∀ {h : Hp} {a0 : Nat} {a1 : Nat} {x2 : Int32} {h1 : Hp} (_ : A a1) (_ : ∀ q0, h.2 a0 0 = some q0 → A q0) (_ : A a0), rc 1 a0 a1 x2 h = some h1 → Fm A h h1) (hrw_2 : ∀ {h : Hp} {a0 : Nat} {a1 : Nat} {x2 : Int32} {h1 : Hp} (_ : A a1) (_ : ∀ q0, h.2 a0 0 = some q0 → A q0) (_ : A a0), rc 2 a0 a1 x2 h = some h1 → Fm A h h1) {h : Hp} {a0 : Nat} {a1 : Nat} {x2 : Int32} {h1 : Hp} (P_0 : A a1) (P_1 : ∀ q0, h.2 a0 0 = some q0 → A q0) (P_2 : A a0) (hf : X6_readItems F rc a0 a1 x2 h = some h1) : Fm A h h1 := by
  unfold X6_readItems at hf
  have m0 := fm_rf (A := A) (h := h)
  obtain ⟨k_1, hf⟩ := gq_ex hf
  obtain ⟨h_3, eh_3, hf⟩ := ob_ex hf
  have mh_3 := fm_tr m0 (hrw_1 P_0 (fun q0 e0 => P_1 q0 (m0.1 ▸ e0)) P_2 eh_3)
  exact fm_tr mh_3 (W_X6_readItems_8 A F hrw_0 hrw_1 hrw_2 _ P_0 (fun q0 e0 => P_1 q0 (mh_3.1 ▸ e0)) P_2 hf)
theorem W_G2 (A : Nat → Prop) (F : Nat) : ∀ G : Nat, (∀ {h : Hp} {a0 : Nat} {a1 : Nat} {x2 : Int32} {h1 : Hp} (_ : A a1) (_ : ∀ q0, h.2 a0 0 = some q0 → A q0) (_ : A a0), G2 F G 0 a0 a1 x2 h = some h1 → Fm A h h1) ∧ (∀ {h : Hp} {a0 : Nat} {a1 : Nat} {x2 : Int32} {h1 : Hp} (_ : A a1) (_ : ∀ q0, h.2 a0 0 = some q0 → A q0) (_ : A a0), G2 F G 1 a0 a1 x2 h = some h1 → Fm A h h1) ∧ (∀ {h : Hp} {a0 : Nat} {a1 : Nat} {x2 : Int32} {h1 : Hp} (_ : A a1) (_ : ∀ q0, h.2 a0 0 = some q0 → A q0) (_ : A a0), G2 F G 2 a0 a1 x2 h = some h1 → Fm A h h1) := by
  intro G
  induction G with
  | zero => refine ⟨?_, ?_, ?_⟩ <;> (intros; rename_i hf; exact nomatch (show (none : Option _) = some _ from hf))
  | succ G ih =>
    obtain ⟨i0, i1, i2⟩ := ih
    refine ⟨?_, ?_, ?_⟩
    · intro h a0 a1 x2 h1 P_0 P_1 P_2 hf
      exact W_X6_readGroup_0 A F (rc := G2 F G) (fun p0 p1 p2 q => i0 p0 p1 p2 q) (fun p0 p1 p2 q => i1 p0 p1 p2 q) (fun p0 p1 p2 q => i2 p0 p1 p2 q) P_0 P_1 P_2 (show X6_readGroup F (G2 F G) a0 a1 x2 h = _ from hf)
    · intro h a0 a1 x2 h1 P_0 P_1 P_2 hf
      exact W_X6_readItem_0 A F (rc := G2 F G) (fun p0 p1 p2 q => i0 p0 p1 p2 q) (fun p0 p1 p2 q => i1 p0 p1 p2 q) (fun p0 p1 p2 q => i2 p0 p1 p2 q) P_0 P_1 P_2 (show X6_readItem F (G2 F G) a0 a1 x2 h = _ from hf)
    · intro h a0 a1 x2 h1 P_0 P_1 P_2 hf
      exact W_X6_readItems_0 A F (rc := G2 F G) (fun p0 p1 p2 q => i0 p0 p1 p2 q) (fun p0 p1 p2 q => i1 p0 p1 p2 q) (fun p0 p1 p2 q => i2 p0 p1 p2 q) P_0 P_1 P_2 (show X6_readItems F (G2 F G) a0 a1 x2 h = _ from hf)

theorem W_X6_readGroup (A : Nat → Prop) (F : Nat) {h : Hp} {a0 : Nat} {a1 : Nat} {x2 : Int32} {h1 : Hp} (P_0 : A a1) (P_1 : ∀ q0, h.2 a0 0 = some q0 → A q0) (P_2 : A a0) (hf : G2 F 60 0 a0 a1 x2 h = some h1) : Fm A h h1 := (W_G2 A F 60).1 P_0 P_1 P_2 hf
theorem W_X6_readItem (A : Nat → Prop) (F : Nat) {h : Hp} {a0 : Nat} {a1 : Nat} {x2 : Int32} {h1 : Hp} (P_0 : A a1) (P_1 : ∀ q0, h.2 a0 0 = some q0 → A q0) (P_2 : A a0) (hf : G2 F 60 1 a0 a1 x2 h = some h1) : Fm A h h1 := (W_G2 A F 60).2.1 P_0 P_1 P_2 hf
theorem W_X6_readItems (A : Nat → Prop) (F : Nat) {h : Hp} {a0 : Nat} {a1 : Nat} {x2 : Int32} {h1 : Hp} (P_0 : A a1) (P_1 : ∀ q0, h.2 a0 0 = some q0 → A q0) (P_2 : A a0) (hf : G2 F 60 2 a0 a1 x2 h = some h1) : Fm A h h1 := (W_G2 A F 60).2.2 P_0 P_1 P_2 hf
theorem W_X6_readAll_0 (A : Nat → Prop) (F : Nat) {h : Hp} {a0 : Nat} {a1 : Nat} {h1 : Hp} (P_0 : A a0) (P_1 : A a1) (P_2 : ∀ q0, h.2 a0 0 = some q0 → A q0) (hf : X6_readAll F a0 a1 h = some h1) : Fm A h h1 := by
  unfold X6_readAll at hf
  have m0 := fm_rf (A := A) (h := h)
  obtain ⟨k_1, hf⟩ := gq_ex hf
  obtain ⟨h_2, eh_2, hf⟩ := bd_ex hf
  have mh_2 := fm_tr m0 (fm_up eh_2 (P_0))
  obtain ⟨h_4, eh_4, hf⟩ := ob_ex hf
  have mh_4 := fm_tr mh_2 (W_X6_readItems A F P_1 (fun q0 e0 => P_2 q0 (mh_2.1 ▸ e0)) P_0 eh_4)
  obtain ⟨k_5, hf⟩ := gq_ex hf
  obtain ⟨h_7, eh_7, hf⟩ := ob_ex hf
  have mh_7 := fm_tr mh_4 (W_X9_mustEnd A F P_1 eh_7)
  cases hf
  exact mh_7
theorem W_X6_readAll (A : Nat → Prop) (F : Nat) {h : Hp} {a0 : Nat} {a1 : Nat} {h1 : Hp} (P_0 : A a0) (P_1 : A a1) (P_2 : ∀ q0, h.2 a0 0 = some q0 → A q0) (hf : X6_readAll F a0 a1 h = some h1) : Fm A h h1 := W_X6_readAll_0 A F P_0 P_1 P_2 hf
theorem W_X7_ordersOfBuilding_204 (A : Nat → Prop) (F : Nat) {h : Hp} {a0 : Nat} {x5 : Int32} {r : Int32} {h1 : Hp} (hf : X7_ordersOfBuilding_204 F a0 x5 h = some (r, h1)) : Fm A h h1 := by
  unfold X7_ordersOfBuilding_204 at hf
  have m0 := fm_rf (A := A) (h := h)
  obtain ⟨k_1, hf⟩ := gq_ex hf
  obtain ⟨j_2, ej_2, hf⟩ := ob_ex hf
  have zj_2 : h.2 a0 0 = some j_2 := m0.1 ▸ ej_2
  obtain ⟨c_3, ec_3, hf⟩ := ob_ex hf
  cases hf
  exact m0
theorem W_X7_ordersOfBuilding_198 (A : Nat → Prop) (F : Nat) {k59 : Nat → Int32 → Int32 → Int32 → Int32 → Int32 → Hp → Option (Int32 × Hp)} (hk59 : ∀ {h : Hp} {a0 : Nat} {x2 : Int32} {x3 : Int32} {x4 : Int32} {x5 : Int32} {x6 : Int32} {r : Int32} {h1 : Hp} (_ : ∀ q0, h.2 a0 0 = some q0 → A q0), k59 a0 x2 x3 x4 x5 x6 h = some (r, h1) → Fm A h h1) {h : Hp} {a0 : Nat} {x2 : Int32} {x3 : Int32} {x4 : Int32} {x5 : Int32} {x6 : Int32} {r : Int32} {h1 : Hp} (P_0 : ∀ q0, h.2 a0 0 = some q0 → A q0) (hf : X7_ordersOfBuilding_198 F k59 a0 x2 x3 x4 x5 x6 h = some (r, h1)) : Fm A h h1 := by
  unfold X7_ordersOfBuilding_198 at hf
  have m0 := fm_rf (A := A) (h := h)
  obtain ⟨x6_1, ex6_1, hf⟩ := bd_ex hf
  exact fm_tr m0 (hk59 (fun q0 e0 => P_0 q0 (m0.1 ▸ e0)) hf)
theorem W_X7_ordersOfBuilding_176 (A : Nat → Prop) (F : Nat) {k59 : Nat → Int32 → Int32 → Int32 → Int32 → Int32 → Hp → Option (Int32 × Hp)} {k76 : Nat → Int32 → Int32 → Int32 → Int32 → Int32 → Int32 → Hp → Option (Int32 × Hp)} (hk59 : ∀ {h : Hp} {a0 : Nat} {x2 : Int32} {x3 : Int32} {x4 : Int32} {x5 : Int32} {x6 : Int32} {r : Int32} {h1 : Hp} (_ : ∀ q0, h.2 a0 0 = some q0 → A q0), k59 a0 x2 x3 x4 x5 x6 h = some (r, h1) → Fm A h h1) (hk76 : ∀ {h : Hp} {a0 : Nat} {x2 : Int32} {x3 : Int32} {x4 : Int32} {x5 : Int32} {x6 : Int32} {x7 : Int32} {r : Int32} {h1 : Hp} (_ : ∀ q0, h.2 a0 0 = some q0 → A q0), k76 a0 x2 x3 x4 x5 x6 x7 h = some (r, h1) → Fm A h h1) {h : Hp} {a0 : Nat} {x2 : Int32} {x3 : Int32} {x4 : Int32} {x5 : Int32} {x6 : Int32} {x7 : Int32} {x8 : Int32} {r : Int32} {h1 : Hp} (P_0 : ∀ q0, h.2 a0 0 = some q0 → A q0) (hf : X7_ordersOfBuilding_176 F k59 k76 a0 x2 x3 x4 x5 x6 x7 x8 h = some (r, h1)) : Fm A h h1 := by
  unfold X7_ordersOfBuilding_176 at hf
  have m0 := fm_rf (A := A) (h := h)
  obtain ⟨k_1, hf⟩ := gq_ex hf
  obtain ⟨j_2, ej_2, hf⟩ := ob_ex hf
  have zj_2 : h.2 a0 0 = some j_2 := m0.1 ▸ ej_2
  obtain ⟨h_4, eh_4, hf⟩ := ob_ex hf
  have mh_4 := fm_tr m0 (W_X11_put A F (P_0 _ zj_2) eh_4)
  obtain ⟨x7_5, ex7_5, hf⟩ := bd_ex hf
  exact fm_tr mh_4 (hk76 (fun q0 e0 => P_0 q0 (mh_4.1 ▸ e0)) hf)
theorem W_X7_ordersOfBuilding_173 (A : Nat → Prop) (F : Nat) {k59 : Nat → Int32 → Int32 → Int32 → Int32 → Int32 → Hp → Option (Int32 × Hp)} {k76 : Nat → Int32 → Int32 → Int32 → Int32 → Int32 → Int32 → Hp → Option (Int32 × Hp)} (hk59 : ∀ {h : Hp} {a0 : Nat} {x2 : Int32} {x3 : Int32} {x4 : Int32} {x5 : Int32} {x6 : Int32} {r : Int32} {h1 : Hp} (_ : ∀ q0, h.2 a0 0 = some q0 → A q0), k59 a0 x2 x3 x4 x5 x6 h = some (r, h1) → Fm A h h1) (hk76 : ∀ {h : Hp} {a0 : Nat} {x2 : Int32} {x3 : Int32} {x4 : Int32} {x5 : Int32} {x6 : Int32} {x7 : Int32} {r : Int32} {h1 : Hp} (_ : ∀ q0, h.2 a0 0 = some q0 → A q0), k76 a0 x2 x3 x4 x5 x6 x7 h = some (r, h1) → Fm A h h1) {h : Hp} {a0 : Nat} {x2 : Int32} {x3 : Int32} {x4 : Int32} {x5 : Int32} {x6 : Int32} {x7 : Int32} {r : Int32} {h1 : Hp} (P_0 : ∀ q0, h.2 a0 0 = some q0 → A q0) (hf : X7_ordersOfBuilding_173 F k59 k76 a0 x2 x3 x4 x5 x6 x7 h = some (r, h1)) : Fm A h h1 := by
  unfold X7_ordersOfBuilding_173 at hf
  have m0 := fm_rf (A := A) (h := h)
  exact fm_tr m0 (W_X7_ordersOfBuilding_176 A F hk59 hk76 (fun q0 e0 => P_0 q0 (m0.1 ▸ e0)) hf)
theorem W_X7_ordersOfBuilding_157 (A : Nat → Prop) (F : Nat) {k59 : Nat → Int32 → Int32 → Int32 → Int32 → Int32 → Hp → Option (Int32 × Hp)} {k76 : Nat → Int32 → Int32 → Int32 → Int32 → Int32 → Int32 → Hp → Option (Int32 × Hp)} (hk59 : ∀ {h : Hp} {a0 : Nat} {x2 : Int32} {x3 : Int32} {x4 : Int32} {x5 : Int32} {x6 : Int32} {r : Int32} {h1 : Hp} (_ : ∀ q0, h.2 a0 0 = some q0 → A q0), k59 a0 x2 x3 x4 x5 x6 h = some (r, h1) → Fm A h h1) (hk76 : ∀ {h : Hp} {a0 : Nat} {x2 : Int32} {x3 : Int32} {x4 : Int32} {x5 : Int32} {x6 : Int32} {x7 : Int32} {r : Int32} {h1 : Hp} (_ : ∀ q0, h.2 a0 0 = some q0 → A q0), k76 a0 x2 x3 x4 x5 x6 x7 h = some (r, h1) → Fm A h h1) {h : Hp} {a0 : Nat} {x2 : Int32} {x3 : Int32} {x4 : Int32} {x5 : Int32} {x6 : Int32} {x7 : Int32} {x8 : Int32} {r : Int32} {h1 : Hp} (P_0 : ∀ q0, h.2 a0 0 = some q0 → A q0) (hf : X7_ordersOfBuilding_157 F k59 k76 a0 x2 x3 x4 x5 x6 x7 x8 h = some (r, h1)) : Fm A h h1 := by
  unfold X7_ordersOfBuilding_157 at hf
  have m0 := fm_rf (A := A) (h := h)
  rcases ite_ex hf with ⟨q_1, hf⟩ | ⟨q_1, hf⟩
  · skip
    exact fm_tr m0 (W_X7_ordersOfBuilding_176 A F hk59 hk76 (fun q0 e0 => P_0 q0 (m0.1 ▸ e0)) hf)
  · skip
    rcases ite_ex hf with ⟨q_2, hf⟩ | ⟨q_2, hf⟩
    · skip
      exact fm_tr m0 (W_X7_ordersOfBuilding_176 A F hk59 hk76 (fun q0 e0 => P_0 q0 (m0.1 ▸ e0)) hf)
    · skip
      exact fm_tr m0 (W_X7_ordersOfBuilding_173 A F hk59 hk76 (fun q0 e0 => P_0 q0 (m0.1 ▸ e0)) hf)
theorem W_X7_ordersOfBuilding_141 (A : Nat → Prop) (F : Nat) {k59 : Nat → Int32 → Int32 → Int32 → Int32 → Int32 → Hp → Option (Int32 × Hp)} {k76 : Nat → Int32 → Int32 → Int32 → Int32 → Int32 → Int32 → Hp → Option (Int32 × Hp)} (hk59 : ∀ {h : Hp} {a0 : Nat} {x2 : Int32} {x3 : Int32} {x4 : Int32} {x5 : Int32} {x6 : Int32} {r : Int32} {h1 : Hp} (_ : ∀ q0, h.2 a0 0 = some q0 → A q0), k59 a0 x2 x3 x4 x5 x6 h = some (r, h1) → Fm A h h1) (hk76 : ∀ {h : Hp} {a0 : Nat} {x2 : Int32} {x3 : Int32} {x4 : Int32} {x5 : Int32} {x6 : Int32} {x7 : Int32} {r : Int32} {h1 : Hp} (_ : ∀ q0, h.2 a0 0 = some q0 → A q0), k76 a0 x2 x3 x4 x5 x6 x7 h = some (r, h1) → Fm A h h1) {h : Hp} {a0 : Nat} {x2 : Int32} {x3 : Int32} {x4 : Int32} {x5 : Int32} {x6 : Int32} {x7 : Int32} {x8 : Int32} {r : Int32} {h1 : Hp} (P_0 : ∀ q0, h.2 a0 0 = some q0 → A q0) (hf : X7_ordersOfBuilding_141 F k59 k76 a0 x2 x3 x4 x5 x6 x7 x8 h = some (r, h1)) : Fm A h h1 := by
  unfold X7_ordersOfBuilding_141 at hf
  have m0 := fm_rf (A := A) (h := h)
  rcases ite_ex hf with ⟨q_1, hf⟩ | ⟨q_1, hf⟩
  · skip
    exact fm_tr m0 (W_X7_ordersOfBuilding_157 A F hk59 hk76 (fun q0 e0 => P_0 q0 (m0.1 ▸ e0)) hf)
  · skip
    rcases ite_ex hf with ⟨q_2, hf⟩ | ⟨q_2, hf⟩
    · skip
      exact fm_tr m0 (W_X7_ordersOfBuilding_173 A F hk59 hk76 (fun q0 e0 => P_0 q0 (m0.1 ▸ e0)) hf)
    · skip
      exact fm_tr m0 (W_X7_ordersOfBuilding_157 A F hk59 hk76 (fun q0 e0 => P_0 q0 (m0.1 ▸ e0)) hf)
theorem W_X7_ordersOfBuilding_120 (A : Nat → Prop) (F : Nat) {k59 : Nat → Int32 → Int32 → Int32 → Int32 → Int32 → Hp → Option (Int32 × Hp)} {k76 : Nat → Int32 → Int32 → Int32 → Int32 → Int32 → Int32 → Hp → Option (Int32 × Hp)} (hk59 : ∀ {h : Hp} {a0 : Nat} {x2 : Int32} {x3 : Int32} {x4 : Int32} {x5 : Int32} {x6 : Int32} {r : Int32} {h1 : Hp} (_ : ∀ q0, h.2 a0 0 = some q0 → A q0), k59 a0 x2 x3 x4 x5 x6 h = some (r, h1) → Fm A h h1) (hk76 : ∀ {h : Hp} {a0 : Nat} {x2 : Int32} {x3 : Int32} {x4 : Int32} {x5 : Int32} {x6 : Int32} {x7 : Int32} {r : Int32} {h1 : Hp} (_ : ∀ q0, h.2 a0 0 = some q0 → A q0), k76 a0 x2 x3 x4 x5 x6 x7 h = some (r, h1) → Fm A h h1) {h : Hp} {a0 : Nat} {x2 : Int32} {x3 : Int32} {x4 : Int32} {x5 : Int32} {x6 : Int32} {x7 : Int32} {s0 : Int32} {s1 : Int32} {r : Int32} {h1 : Hp} (P_0 : ∀ q0, h.2 a0 0 = some q0 → A q0) (hf : X7_ordersOfBuilding_120 F k59 k76 a0 x2 x3 x4 x5 x6 x7 s0 s1 h = some (r, h1)) : Fm A h h1 := by
  unfold X7_ordersOfBuilding_120 at hf
  have m0 := fm_rf (A := A) (h := h)
  obtain ⟨x8_1, ex8_1, hf⟩ := bd_ex hf
  rcases ite_ex hf with ⟨q_2, hf⟩ | ⟨q_2, hf⟩
  · skip
    rcases ite_ex hf with ⟨q_3, hf⟩ | ⟨q_3, hf⟩
    · skip
      exact fm_tr m0 (W_X7_ordersOfBuilding_176 A F hk59 hk76 (fun q0 e0 => P_0 q0 (m0.1 ▸ e0)) hf)
    · skip
      exact fm_tr m0 (W_X7_ordersOfBuilding_141 A F hk59 hk76 (fun q0 e0 => P_0 q0 (m0.1 ▸ e0)) hf)
  · skip
    exact fm_tr m0 (W_X7_ordersOfBuilding_141 A F hk59 hk76 (fun q0 e0 => P_0 q0 (m0.1 ▸ e0)) hf)
theorem W_X7_ordersOfBuilding_76 (A : Nat → Prop) (F : Nat) {k59 : Nat → Int32 → Int32 → Int32 → Int32 → Int32 → Hp → Option (Int32 × Hp)} (hk59 : ∀ {h : Hp} {a0 : Nat} {x2 : Int32} {x3 : Int32} {x4 : Int32} {x5 : Int32} {x6 : Int32} {r : Int32} {h1 : Hp} (_ : ∀ q0, h.2 a0 0 = some q0 → A q0), k59 a0 x2 x3 x4 x5 x6 h = some (r, h1) → Fm A h h1) : ∀ (f : Nat) {h : Hp} {a0 : Nat} {x2 : Int32} {x3 : Int32} {x4 : Int32} {x5 : Int32} {x6 : Int32} {x7 : Int32} {r : Int32} {h1 : Hp} (P_0 : ∀ q0, h.2 a0 0 = some q0 → A q0), X7_ordersOfBuilding_76 F k59 f a0 x2 x3 x4 x5 x6 x7 h = some (r, h1) → Fm A h h1 := by
  intro f
  induction f with
  | zero =>
    intro h a0 x2 x3 x4 x5 x6 x7 r h1 P_0 hf
    exact nomatch (show (none : Option _) = some _ from hf)
  | succ f ih =>
    intro h a0 x2 x3 x4 x5 x6 x7 r h1 P_0 hf
    rw [X7_ordersOfBuilding_76] at hf
    have m0 := fm_rf (A := A) (h := h)
    rcases ite_ex hf with ⟨q_1, hf⟩ | ⟨q_1, hf⟩
    · skip
      exact fm_tr m0 (W_X7_ordersOfBuilding_198 A F hk59 (fun q0 e0 => P_0 q0 (m0.1 ▸ e0)) hf)
    · skip
      rcases ite_ex hf with ⟨q_2, hf⟩ | ⟨q_2, hf⟩
      · skip
        exact fm_tr m0 (W_X7_ordersOfBuilding_198 A F hk59 (fun q0 e0 => P_0 q0 (m0.1 ▸ e0)) hf)
      · skip
        obtain ⟨k_3, hf⟩ := gq_ex hf
        obtain ⟨j_4, ej_4, hf⟩ := ob_ex hf
        have zj_4 : h.2 a0 0 = some j_4 := m0.1 ▸ ej_4
        obtain ⟨c_5, ec_5, hf⟩ := ob_ex hf
        rcases ite_ex hf with ⟨q_7, hf⟩ | ⟨q_7, hf⟩
        · skip
          exact fm_tr m0 (W_X7_ordersOfBuilding_120 A F hk59 (fun p0 q => ih p0 q) (fun q0 e0 => P_0 q0 (m0.1 ▸ e0)) hf)
        · skip
          obtain ⟨c_8, ec_8, hf⟩ := ob_ex hf
          exact fm_tr m0 (W_X7_ordersOfBuilding_120 A F hk59 (fun p0 q => ih p0 q) (fun q0 e0 => P_0 q0 (m0.1 ▸ e0)) hf)
theorem W_X7_ordersOfBuilding_59 (A : Nat → Prop) (F : Nat) : ∀ (f : Nat) {h : Hp} {a0 : Nat} {x2 : Int32} {x3 : Int32} {x4 : Int32} {x5 : Int32} {x6 : Int32} {r : Int32} {h1 : Hp} (P_0 : ∀ q0, h.2 a0 0 = some q0 → A q0), X7_ordersOfBuilding_59 F f a0 x2 x3 x4 x5 x6 h = some (r, h1) → Fm A h h1 := by
  intro f
  induction f with
  | zero =>
    intro h a0 x2 x3 x4 x5 x6 r h1 P_0 hf
    exact nomatch (show (none : Option _) = some _ from hf)
  | succ f ih =>
    intro h a0 x2 x3 x4 x5 x6 r h1 P_0 hf
    rw [X7_ordersOfBuilding_59] at hf
    have m0 := fm_rf (A := A) (h := h)
    rcases ite_ex hf with ⟨q_1, hf⟩ | ⟨q_1, hf⟩
    · skip
      exact fm_tr m0 (W_X7_ordersOfBuilding_204 A F hf)
    · skip
      rcases ite_ex hf with ⟨q_2, hf⟩ | ⟨q_2, hf⟩
      · skip
        exact fm_tr m0 (W_X7_ordersOfBuilding_204 A F hf)
      · skip
        exact fm_tr m0 (W_X7_ordersOfBuilding_76 A F (fun p0 q => ih p0 q) _ (fun q0 e0 => P_0 q0 (m0.1 ▸ e0)) hf)
theorem W_X7_ordersOfBuilding_33 (A : Nat → Prop) (F : Nat) : ∀ (f : Nat) {h : Hp} {a0 : Nat} {x2 : Int32} {x3 : Int32} {x4 : Int32} {x5 : Int32} {x6 : Int32} {r : Int32} {h1 : Hp} (P_0 : ∀ q0, h.2 a0 0 = some q0 → A q0), X7_ordersOfBuilding_33 F f a0 x2 x3 x4 x5 x6 h = some (r, h1) → Fm A h h1 := by
  intro f
  induction f with
  | zero =>
    intro h a0 x2 x3 x4 x5 x6 r h1 P_0 hf
    exact nomatch (show (none : Option _) = some _ from hf)
  | succ f ih =>
    intro h a0 x2 x3 x4 x5 x6 r h1 P_0 hf
    rw [X7_ordersOfBuilding_33] at hf
    have m0 := fm_rf (A := A) (h := h)
    rcases ite_ex hf with ⟨q_1, hf⟩ | ⟨q_1, hf⟩
    · skip
      exact fm_tr m0 (W_X7_ordersOfBuilding_59 A F _ (fun q0 e0 => P_0 q0 (m0.1 ▸ e0)) hf)
    · skip
      obtain ⟨k_2, hf⟩ := gq_ex hf
      obtain ⟨j_3, ej_3, hf⟩ := ob_ex hf
      have zj_3 : h.2 a0 0 = some j_3 := m0.1 ▸ ej_3
      obtain ⟨h_5, eh_5, hf⟩ := ob_ex hf
      have mh_5 := fm_tr m0 (W_X11_put A F (P_0 _ zj_3) eh_5)
      obtain ⟨x6_6, ex6_6, hf⟩ := bd_ex hf
      exact fm_tr mh_5 (ih (fun q0 e0 => P_0 q0 (mh_5.1 ▸ e0)) hf)
theorem W_X7_ordersOfBuilding_0 (A : Nat → Prop) (F : Nat) {h : Hp} {a0 : Nat} {a1 : Nat} {r : Int32} {h1 : Hp} (P_0 : ∀ q0, h.2 a0 0 = some q0 → A q0) (hf : X7_ordersOfBuilding F a0 a1 h = some (r, h1)) : Fm A h h1 := by
  unfold X7_ordersOfBuilding at hf
  have m0 := fm_rf (A := A) (h := h)
  obtain ⟨k_1, hf⟩ := gq_ex hf
  obtain ⟨c_2, ec_2, hf⟩ := ob_ex hf
  obtain ⟨c_4, ec_4, hf⟩ := ob_ex hf
  obtain ⟨j_6, ej_6, hf⟩ := ob_ex hf
  have zj_6 : h.2 a1 0 = some j_6 := m0.1 ▸ ej_6
  obtain ⟨k_7, hf⟩ := gq_ex hf
  obtain ⟨x4_8, ex4_8, hf⟩ := bd_ex hf
  obtain ⟨j_9, ej_9, hf⟩ := ob_ex hf
  have zj_9 : h.2 a1 1 = some j_9 := m0.1 ▸ ej_9
  obtain ⟨k_10, hf⟩ := gq_ex hf
  obtain ⟨x5_11, ex5_11, hf⟩ := bd_ex hf
  exact fm_tr m0 (W_X7_ordersOfBuilding_33 A F _ (fun q0 e0 => P_0 q0 (m0.1 ▸ e0)) hf)
theorem W_X7_ordersOfBuilding (A : Nat → Prop) (F : Nat) {h : Hp} {a0 : Nat} {a1 : Nat} {r : Int32} {h1 : Hp} (P_0 : ∀ q0, h.2 a0 0 = some q0 → A q0) (hf : X7_ordersOfBuilding F a0 a1 h = some (r, h1)) : Fm A h h1 := W_X7_ordersOfBuilding_0 A F P_0 hf
theorem W_X7_lastPile_87 (A : Nat → Prop) (F : Nat) {k21 : Nat → Nat → Int32 → Int32 → Int32 → Int32 → Int32 → Hp → Option (Int32 × Hp)} (hk21 : ∀ {h : Hp} {a0 : Nat} {a1 : Nat} {x2 : Int32} {x3 : Int32} {x4 : Int32} {x5 : Int32} {x6 : Int32} {r : Int32} {h1 : Hp} (_ : ∀ q0, h.2 a0 1 = some q0 → A q0), k21 a0 a1 x2 x3 x4 x5 x6 h = some (r, h1) → Fm A h h1) {h : Hp} {a0 : Nat} {a1 : Nat} {x2 : Int32} {x3 : Int32} {x4 : Int32} {x5 : Int32} {x6 : Int32} {r : Int32} {h1 : Hp} (P_0 : ∀ q0, h.2 a0 1 = some q0 → A q0) (hf : X7_lastPile_87 F k21 a0 a1 x2 x3 x4 x5 x6 h = some (r, h1)) : Fm A h h1 := by
  unfold X7_lastPile_87 at hf
  have m0 := fm_rf (A := A) (h := h)
  obtain ⟨x6_1, ex6_1, hf⟩ := bd_ex hf
  exact fm_tr m0 (hk21 (fun q0 e0 => P_0 q0 (m0.1 ▸ e0)) hf)
theorem W_X7_lastPile_56 (A : Nat → Prop) (F : Nat) {k21 : Nat → Nat → Int32 → Int32 → Int32 → Int32 → Int32 → Hp → Option (Int32 × Hp)} (hk21 : ∀ {h : Hp} {a0 : Nat} {a1 : Nat} {x2 : Int32} {x3 : Int32} {x4 : Int32} {x5 : Int32} {x6 : Int32} {r : Int32} {h1 : Hp} (_ : ∀ q0, h.2 a0 1 = some q0 → A q0), k21 a0 a1 x2 x3 x4 x5 x6 h = some (r, h1) → Fm A h h1) {h : Hp} {a0 : Nat} {a1 : Nat} {x2 : Int32} {x3 : Int32} {x4 : Int32} {x5 : Int32} {x6 : Int32} {r : Int32} {h1 : Hp} (P_0 : ∀ q0, h.2 a0 1 = some q0 → A q0) (hf : X7_lastPile_56 F k21 a0 a1 x2 x3 x4 x5 x6 h = some (r, h1)) : Fm A h h1 := by
  unfold X7_lastPile_56 at hf
  have m0 := fm_rf (A := A) (h := h)
  rcases ite_ex hf with ⟨q_1, hf⟩ | ⟨q_1, hf⟩
  · skip
    exact fm_tr m0 (W_X7_lastPile_87 A F hk21 (fun q0 e0 => P_0 q0 (m0.1 ▸ e0)) hf)
  · skip
    obtain ⟨k_2, hf⟩ := gq_ex hf
    obtain ⟨c_3, ec_3, hf⟩ := ob_ex hf
    rcases ite_ex hf with ⟨q_5, hf⟩ | ⟨q_5, hf⟩
    · skip
      exact fm_tr m0 (W_X7_lastPile_87 A F hk21 (fun q0 e0 => P_0 q0 (m0.1 ▸ e0)) hf)
    · skip
      obtain ⟨c_6, ec_6, hf⟩ := ob_ex hf
      exact fm_tr m0 (W_X7_lastPile_87 A F hk21 (fun q0 e0 => P_0 q0 (m0.1 ▸ e0)) hf)
theorem W_X7_lastPile_21 (A : Nat → Prop) (F : Nat) : ∀ (f : Nat) {h : Hp} {a0 : Nat} {a1 : Nat} {x2 : Int32} {x3 : Int32} {x4 : Int32} {x5 : Int32} {x6 : Int32} {r : Int32} {h1 : Hp} (P_0 : ∀ q0, h.2 a0 1 = some q0 → A q0), X7_lastPile_21 F f a0 a1 x2 x3 x4 x5 x6 h = some (r, h1) → Fm A h h1 := by
  intro f
  induction f with
  | zero =>
    intro h a0 a1 x2 x3 x4 x5 x6 r h1 P_0 hf
    exact nomatch (show (none : Option _) = some _ from hf)
  | succ f ih =>
    intro h a0 a1 x2 x3 x4 x5 x6 r h1 P_0 hf
    rw [X7_lastPile_21] at hf
    have m0 := fm_rf (A := A) (h := h)
    rcases ite_ex hf with ⟨q_1, hf⟩ | ⟨q_1, hf⟩
    · skip
      cases hf
      exact m0
    · skip
      rcases ite_ex hf with ⟨q_2, hf⟩ | ⟨q_2, hf⟩
      · skip
        cases hf
        exact m0
      · skip
        rcases ite_ex hf with ⟨q_3, hf⟩ | ⟨q_3, hf⟩
        · skip
          exact fm_tr m0 (W_X7_lastPile_56 A F (fun p0 q => ih p0 q) (fun q0 e0 => P_0 q0 (m0.1 ▸ e0)) hf)
        · skip
          obtain ⟨k_4, hf⟩ := gq_ex hf
          obtain ⟨j_5, ej_5, hf⟩ := ob_ex hf
          have zj_5 : h.2 a0 1 = some j_5 := m0.1 ▸ ej_5
          obtain ⟨c_6, ec_6, hf⟩ := ob_ex hf
          obtain ⟨h_9, eh_9, hf⟩ := ob_ex hf
          have mh_9 := fm_tr m0 (W_X11_put A F (P_0 _ zj_5) eh_9)
          exact fm_tr mh_9 (W_X7_lastPile_56 A F (fun p0 q => ih p0 q) (fun q0 e0 => P_0 q0 (mh_9.1 ▸ e0)) hf)
theorem W_X7_lastPile_0 (A : Nat → Prop) (F : Nat) {h : Hp} {a0 : Nat} {a1 : Nat} {x2 : Int32} {x3 : Int32} {r : Int32} {h1 : Hp} (P_0 : ∀ q0, h.2 a0 1 = some q0 → A q0) (hf : X7_lastPile F a0 a1 x2 x3 h = some (r, h1)) : Fm A h h1 := by
  unfold X7_lastPile at hf
  have m0 := fm_rf (A := A) (h := h)
  obtain ⟨k_1, hf⟩ := gq_ex hf
  obtain ⟨j_2, ej_2, hf⟩ := ob_ex hf
  have zj_2 : h.2 a0 1 = some j_2 := m0.1 ▸ ej_2
  obtain ⟨h_4, eh_4, hf⟩ := ob_ex hf
  have mh_4 := fm_tr m0 (W_X11_put A F (P_0 _ zj_2) eh_4)
  exact fm_tr mh_4 (W_X7_lastPile_21 A F _ (fun q0 e0 => P_0 q0 (mh_4.1 ▸ e0)) hf)
theorem W_X7_lastPile (A : Nat → Prop) (F : Nat) {h : Hp} {a0 : Nat} {a1 : Nat} {x2 : Int32} {x3 : Int32} {r : Int32} {h1 : Hp} (P_0 : ∀ q0, h.2 a0 1 = some q0 → A q0) (hf : X7_lastPile F a0 a1 x2 x3 h = some (r, h1)) : Fm A h h1 := W_X7_lastPile_0 A F P_0 hf
theorem W_X7_sortMinutes_71 (A : Nat → Prop) (F : Nat) {k2 : Nat → Nat → Int32 → Int32 → Hp → Option Hp} (hk2 : ∀ {h : Hp} {a0 : Nat} {a1 : Nat} {x2 : Int32} {x3 : Int32} {h1 : Hp} (_ : ∀ q0, h.2 a0 2 = some q0 → A q0), k2 a0 a1 x2 x3 h = some h1 → Fm A h h1) {h : Hp} {a0 : Nat} {a1 : Nat} {x2 : Int32} {x3 : Int32} {x4 : Int32} {x5 : Int32} {h1 : Hp} (P_0 : ∀ q0, h.2 a0 2 = some q0 → A q0) (hf : X7_sortMinutes_71 F k2 a0 a1 x2 x3 x4 x5 h = some h1) : Fm A h h1 := by
  unfold X7_sortMinutes_71 at hf
  have m0 := fm_rf (A := A) (h := h)
  obtain ⟨k_1, hf⟩ := gq_ex hf
  obtain ⟨j_2, ej_2, hf⟩ := ob_ex hf
  have zj_2 : h.2 a0 2 = some j_2 := m0.1 ▸ ej_2
  obtain ⟨h_4, eh_4, hf⟩ := ob_ex hf
  have mh_4 := fm_tr m0 (W_X11_put A F (P_0 _ zj_2) eh_4)
  obtain ⟨x3_5, ex3_5, hf⟩ := bd_ex hf
  exact fm_tr mh_4 (hk2 (fun q0 e0 => P_0 q0 (mh_4.1 ▸ e0)) hf)
theorem W_X7_sortMinutes_22 (A : Nat → Prop) (F : Nat) {k2 : Nat → Nat → Int32 → Int32 → Hp → Option Hp} (hk2 : ∀ {h : Hp} {a0 : Nat} {a1 : Nat} {x2 : Int32} {x3 : Int32} {h1 : Hp} (_ : ∀ q0, h.2 a0 2 = some q0 → A q0), k2 a0 a1 x2 x3 h = some h1 → Fm A h h1) : ∀ (f : Nat) {h : Hp} {a0 : Nat} {a1 : Nat} {x2 : Int32} {x3 : Int32} {x4 : Int32} {x5 : Int32} {x6 : Int32} {h1 : Hp} (P_0 : ∀ q0, h.2 a0 2 = some q0 → A q0), X7_sortMinutes_22 F k2 f a0 a1 x2 x3 x4 x5 x6 h = some h1 → Fm A h h1 := by
  intro f
  induction f with
  | zero =>
    intro h a0 a1 x2 x3 x4 x5 x6 h1 P_0 hf
    exact nomatch (show (none : Option _) = some _ from hf)
  | succ f ih =>
    intro h a0 a1 x2 x3 x4 x5 x6 h1 P_0 hf
    rw [X7_sortMinutes_22] at hf
    have m0 := fm_rf (A := A) (h := h)
    rcases ite_ex hf with ⟨q_1, hf⟩ | ⟨q_1, hf⟩
    · skip
      exact fm_tr m0 (W_X7_sortMinutes_71 A F hk2 (fun q0 e0 => P_0 q0 (m0.1 ▸ e0)) hf)
    · skip
      obtain ⟨k_2, hf⟩ := gq_ex hf
      obtain ⟨j_3, ej_3, hf⟩ := ob_ex hf
      have zj_3 : h.2 a0 2 = some j_3 := m0.1 ▸ ej_3
      obtain ⟨c_4, ec_4, hf⟩ := ob_ex hf
      rcases ite_ex hf with ⟨q_6, hf⟩ | ⟨q_6, hf⟩
      · skip
        exact fm_tr m0 (W_X7_sortMinutes_71 A F hk2 (fun q0 e0 => P_0 q0 (m0.1 ▸ e0)) hf)
      · skip
        obtain ⟨c_7, ec_7, hf⟩ := ob_ex hf
        obtain ⟨h_10, eh_10, hf⟩ := ob_ex hf
        have mh_10 := fm_tr m0 (W_X11_put A F (P_0 _ zj_3) eh_10)
        obtain ⟨x6_11, ex6_11, hf⟩ := bd_ex hf
        exact fm_tr mh_10 (ih (fun q0 e0 => P_0 q0 (mh_10.1 ▸ e0)) hf)
theorem W_X7_sortMinutes_2 (A : Nat → Prop) (F : Nat) : ∀ (f : Nat) {h : Hp} {a0 : Nat} {a1 : Nat} {x2 : Int32} {x3 : Int32} {h1 : Hp} (P_0 : ∀ q0, h.2 a0 2 = some q0 → A q0), X7_sortMinutes_2 F f a0 a1 x2 x3 h = some h1 → Fm A h h1 := by
  intro f
  induction f with
  | zero =>
    intro h a0 a1 x2 x3 h1 P_0 hf
    exact nomatch (show (none : Option _) = some _ from hf)
  | succ f ih =>
    intro h a0 a1 x2 x3 h1 P_0 hf
    rw [X7_sortMinutes_2] at hf
    have m0 := fm_rf (A := A) (h := h)
    rcases ite_ex hf with ⟨q_1, hf⟩ | ⟨q_1, hf⟩
    · skip
      cases hf
      exact m0
    · skip
      obtain ⟨k_2, hf⟩ := gq_ex hf
      obtain ⟨c_3, ec_3, hf⟩ := ob_ex hf
      obtain ⟨x6_5, ex6_5, hf⟩ := bd_ex hf
      exact fm_tr m0 (W_X7_sortMinutes_22 A F (fun p0 q => ih p0 q) _ (fun q0 e0 => P_0 q0 (m0.1 ▸ e0)) hf)
theorem W_X7_sortMinutes_0 (A : Nat → Prop) (F : Nat) {h : Hp} {a0 : Nat} {a1 : Nat} {x2 : Int32} {h1 : Hp} (P_0 : ∀ q0, h.2 a0 2 = some q0 → A q0) (hf : X7_sortMinutes F a0 a1 x2 h = some h1) : Fm A h h1 := by
  unfold X7_sortMinutes at hf
  have m0 := fm_rf (A := A) (h := h)
  exact fm_tr m0 (W_X7_sortMinutes_2 A F _ (fun q0 e0 => P_0 q0 (m0.1 ▸ e0)) hf)
theorem W_X7_sortMinutes (A : Nat → Prop) (F : Nat) {h : Hp} {a0 : Nat} {a1 : Nat} {x2 : Int32} {h1 : Hp} (P_0 : ∀ q0, h.2 a0 2 = some q0 → A q0) (hf : X7_sortMinutes F a0 a1 x2 h = some h1) : Fm A h h1 := W_X7_sortMinutes_0 A F P_0 hf
theorem W_X7_leastMinutes_145 (A : Nat → Prop) (F : Nat) {h : Hp} {s0 : Int32} {s1 : Int32} {r : Int32} {h1 : Hp} (hf : X7_leastMinutes_145 F s0 s1 h = some (r, h1)) : Fm A h h1 := by
  unfold X7_leastMinutes_145 at hf
  have m0 := fm_rf (A := A) (h := h)
  cases hf
  exact m0
theorem W_X7_leastMinutes_108 (A : Nat → Prop) (F : Nat) {h : Hp} {a0 : Nat} {x3 : Int32} {x4 : Int32} {x5 : Int32} {x6 : Int32} {r : Int32} {h1 : Hp} (hf : X7_leastMinutes_108 F a0 x3 x4 x5 x6 h = some (r, h1)) : Fm A h h1 := by
  unfold X7_leastMinutes_108 at hf
  have m0 := fm_rf (A := A) (h := h)
  rcases ite_ex hf with ⟨q_1, hf⟩ | ⟨q_1, hf⟩
  · skip
    obtain ⟨k_3, hf⟩ := gq_ex hf
    obtain ⟨j_4, ej_4, hf⟩ := ob_ex hf
    have zj_4 : h.2 a0 2 = some j_4 := m0.1 ▸ ej_4
    obtain ⟨c_5, ec_5, hf⟩ := ob_ex hf
    cases hf
    exact m0
  · skip
    rcases ite_ex hf with ⟨q_2, hf⟩ | ⟨q_2, hf⟩
    · skip
      exact fm_tr m0 (W_X7_leastMinutes_145 A F hf)
    · skip
      exact fm_tr m0 (W_X7_leastMinutes_145 A F hf)
theorem W_X7_leastMinutes_34 (A : Nat → Prop) (F : Nat) : ∀ (f : Nat) {h : Hp} {a0 : Nat} {x3 : Int32} {x4 : Int32} {x5 : Int32} {x6 : Int32} {x7 : Int32} {r : Int32} {h1 : Hp}, X7_leastMinutes_34 F f a0 x3 x4 x5 x6 x7 h = some (r, h1) → Fm A h h1 := by
  intro f
  induction f with
  | zero =>
    intro h a0 x3 x4 x5 x6 x7 r h1 hf
    exact nomatch (show (none : Option _) = some _ from hf)
  | succ f ih =>
    intro h a0 x3 x4 x5 x6 x7 r h1 hf
    rw [X7_leastMinutes_34] at hf
    have m0 := fm_rf (A := A) (h := h)
    rcases ite_ex hf with ⟨q_1, hf⟩ | ⟨q_1, hf⟩
    · skip
      exact fm_tr m0 (W_X7_leastMinutes_108 A F hf)
    · skip
      rcases ite_ex hf with ⟨q_2, hf⟩ | ⟨q_2, hf⟩
      · skip
        exact fm_tr m0 (W_X7_leastMinutes_108 A F hf)
      · skip
        obtain ⟨k_3, hf⟩ := gq_ex hf
        obtain ⟨j_4, ej_4, hf⟩ := ob_ex hf
        have zj_4 : h.2 a0 2 = some j_4 := m0.1 ▸ ej_4
        obtain ⟨c_5, ec_5, hf⟩ := ob_ex hf
        obtain ⟨c_7, ec_7, hf⟩ := ob_ex hf
        obtain ⟨x5_9, ex5_9, hf⟩ := bd_ex hf
        obtain ⟨x6_10, ex6_10, hf⟩ := bd_ex hf
        obtain ⟨x7_11, ex7_11, hf⟩ := bd_ex hf
        exact fm_tr m0 (ih hf)
theorem W_X7_leastMinutes_0 (A : Nat → Prop) (F : Nat) {h : Hp} {a0 : Nat} {a1 : Nat} {x2 : Int32} {r : Int32} {h1 : Hp} (P_0 : ∀ q0, h.2 a0 2 = some q0 → A q0) (hf : X7_leastMinutes F a0 a1 x2 h = some (r, h1)) : Fm A h h1 := by
  unfold X7_leastMinutes at hf
  have m0 := fm_rf (A := A) (h := h)
  obtain ⟨k_1, hf⟩ := gq_ex hf
  obtain ⟨h_3, eh_3, hf⟩ := ob_ex hf
  have mh_3 := fm_tr m0 (W_X7_sortMinutes A F (fun q0 e0 => P_0 q0 (m0.1 ▸ e0)) eh_3)
  obtain ⟨j_4, ej_4, hf⟩ := ob_ex hf
  have zj_4 : h.2 a0 2 = some j_4 := mh_3.1 ▸ ej_4
  obtain ⟨c_5, ec_5, hf⟩ := ob_ex hf
  obtain ⟨c_7, ec_7, hf⟩ := ob_ex hf
  exact fm_tr mh_3 (W_X7_leastMinutes_34 A F _ hf)
theorem W_X7_leastMinutes (A : Nat → Prop) (F : Nat) {h : Hp} {a0 : Nat} {a1 : Nat} {x2 : Int32} {r : Int32} {h1 : Hp} (P_0 : ∀ q0, h.2 a0 2 = some q0 → A q0) (hf : X7_leastMinutes F a0 a1 x2 h = some (r, h1)) : Fm A h h1 := W_X7_leastMinutes_0 A F P_0 hf
theorem W_X7_weds_154 (A : Nat → Prop) (F : Nat) : ∀ (f : Nat) {h : Hp} {a0 : Nat} {x2 : Int32} {x3 : Int32} {x5 : Int32} {r : Int32} {h1 : Hp}, X7_weds_154 F f a0 x2 x3 x5 h = some (r, h1) → Fm A h h1 := by
  intro f
  induction f with
  | zero =>
    intro h a0 x2 x3 x5 r h1 hf
    exact nomatch (show (none : Option _) = some _ from hf)
  | succ f ih =>
    intro h a0 x2 x3 x5 r h1 hf
    rw [X7_weds_154] at hf
    have m0 := fm_rf (A := A) (h := h)
    rcases ite_ex hf with ⟨q_1, hf⟩ | ⟨q_1, hf⟩
    · skip
      cases hf
      exact m0
    · skip
      obtain ⟨k_2, hf⟩ := gq_ex hf
      obtain ⟨j_3, ej_3, hf⟩ := ob_ex hf
      have zj_3 : h.2 a0 4 = some j_3 := m0.1 ▸ ej_3
      obtain ⟨c_4, ec_4, hf⟩ := ob_ex hf
      rcases ite_ex hf with ⟨q_6, hf⟩ | ⟨q_6, hf⟩
      · skip
        cases hf
        exact m0
      · skip
        obtain ⟨x5_7, ex5_7, hf⟩ := bd_ex hf
        exact fm_tr m0 (ih hf)
theorem W_X7_weds_151 (A : Nat → Prop) (F : Nat) {h : Hp} {a0 : Nat} {x2 : Int32} {x3 : Int32} {r : Int32} {h1 : Hp} (hf : X7_weds_151 F a0 x2 x3 h = some (r, h1)) : Fm A h h1 := by
  unfold X7_weds_151 at hf
  have m0 := fm_rf (A := A) (h := h)
  exact fm_tr m0 (W_X7_weds_154 A F _ hf)
theorem W_X7_weds_138 (A : Nat → Prop) (F : Nat) {k41 : Nat → Nat → Int32 → Int32 → Int32 → Int32 → Hp → Option (Int32 × Hp)} (hk41 : ∀ {h : Hp} {a0 : Nat} {a1 : Nat} {x2 : Int32} {x3 : Int32} {x4 : Int32} {x5 : Int32} {r : Int32} {h1 : Hp} (_ : ∀ q0, h.2 a0 3 = some q0 → A q0) (_ : ∀ q0, h.2 a0 4 = some q0 → A q0), k41 a0 a1 x2 x3 x4 x5 h = some (r, h1) → Fm A h h1) {h : Hp} {a0 : Nat} {a1 : Nat} {x2 : Int32} {x3 : Int32} {x5 : Int32} {r : Int32} {h1 : Hp} (P_0 : ∀ q0, h.2 a0 3 = some q0 → A q0) (P_1 : ∀ q0, h.2 a0 4 = some q0 → A q0) (hf : X7_weds_138 F k41 a0 a1 x2 x3 x5 h = some (r, h1)) : Fm A h h1 := by
  unfold X7_weds_138 at hf
  have m0 := fm_rf (A := A) (h := h)
  obtain ⟨k_1, hf⟩ := gq_ex hf
  obtain ⟨c_2, ec_2, hf⟩ := ob_ex hf
  obtain ⟨x5_4, ex5_4, hf⟩ := bd_ex hf
  exact fm_tr m0 (hk41 (fun q0 e0 => P_0 q0 (m0.1 ▸ e0)) (fun q0 e0 => P_1 q0 (m0.1 ▸ e0)) hf)
theorem W_X7_weds_127 (A : Nat → Prop) (F : Nat) {k41 : Nat → Nat → Int32 → Int32 → Int32 → Int32 → Hp → Option (Int32 × Hp)} (hk41 : ∀ {h : Hp} {a0 : Nat} {a1 : Nat} {x2 : Int32} {x3 : Int32} {x4 : Int32} {x5 : Int32} {r : Int32} {h1 : Hp} (_ : ∀ q0, h.2 a0 3 = some q0 → A q0) (_ : ∀ q0, h.2 a0 4 = some q0 → A q0), k41 a0 a1 x2 x3 x4 x5 h = some (r, h1) → Fm A h h1) {h : Hp} {a0 : Nat} {a1 : Nat} {x2 : Int32} {x3 : Int32} {x4 : Int32} {x5 : Int32} {x6 : Int32} {r : Int32} {h1 : Hp} (P_0 : ∀ q0, h.2 a0 4 = some q0 → A q0) (P_1 : ∀ q0, h.2 a0 3 = some q0 → A q0) (hf : X7_weds_127 F k41 a0 a1 x2 x3 x4 x5 x6 h = some (r, h1)) : Fm A h h1 := by
  unfold X7_weds_127 at hf
  have m0 := fm_rf (A := A) (h := h)
  obtain ⟨k_1, hf⟩ := gq_ex hf
  obtain ⟨j_2, ej_2, hf⟩ := ob_ex hf
  have zj_2 : h.2 a0 4 = some j_2 := m0.1 ▸ ej_2
  obtain ⟨h_4, eh_4, hf⟩ := ob_ex hf
  have mh_4 := fm_tr m0 (W_X11_put A F (P_0 _ zj_2) eh_4)
  exact fm_tr mh_4 (W_X7_weds_138 A F hk41 (fun q0 e0 => P_1 q0 (mh_4.1 ▸ e0)) (fun q0 e0 => P_0 q0 (mh_4.1 ▸ e0)) hf)
theorem W_X7_weds_41 (A : Nat → Prop) (F : Nat) : ∀ (f : Nat) {h : Hp} {a0 : Nat} {a1 : Nat} {x2 : Int32} {x3 : Int32} {x4 : Int32} {x5 : Int32} {r : Int32} {h1 : Hp} (P_0 : ∀ q0, h.2 a0 3 = some q0 → A q0) (P_1 : ∀ q0, h.2 a0 4 = some q0 → A q0), X7_weds_41 F f a0 a1 x2 x3 x4 x5 h = some (r, h1) → Fm A h h1 := by
  intro f
  induction f with
  | zero =>
    intro h a0 a1 x2 x3 x4 x5 r h1 P_0 P_1 hf
    exact nomatch (show (none : Option _) = some _ from hf)
  | succ f ih =>
    intro h a0 a1 x2 x3 x4 x5 r h1 P_0 P_1 hf
    rw [X7_weds_41] at hf
    have m0 := fm_rf (A := A) (h := h)
    rcases ite_ex hf with ⟨q_1, hf⟩ | ⟨q_1, hf⟩
    · skip
      exact fm_tr m0 (W_X7_weds_151 A F hf)
    · skip
      rcases ite_ex hf with ⟨q_2, hf⟩ | ⟨q_2, hf⟩
      · skip
        exact fm_tr m0 (W_X7_weds_151 A F hf)
      · skip
        obtain ⟨k_3, hf⟩ := gq_ex hf
        obtain ⟨j_4, ej_4, hf⟩ := ob_ex hf
        have zj_4 : h.2 a0 3 = some j_4 := m0.1 ▸ ej_4
        obtain ⟨c_5, ec_5, hf⟩ := ob_ex hf
        obtain ⟨k_7, hf⟩ := gq_ex hf
        obtain ⟨c_8, ec_8, hf⟩ := ob_ex hf
        obtain ⟨c_10, ec_10, hf⟩ := ob_ex hf
        obtain ⟨h_13, eh_13, hf⟩ := ob_ex hf
        have mh_13 := fm_tr m0 (W_X11_put A F (P_0 _ zj_4) eh_13)
        obtain ⟨j_14, ej_14, hf⟩ := ob_ex hf
        have zj_14 : h.2 a0 4 = some j_14 := mh_13.1 ▸ ej_14
        obtain ⟨c_15, ec_15, hf⟩ := ob_ex hf
        rcases ite_ex hf with ⟨q_17, hf⟩ | ⟨q_17, hf⟩
        · skip
          exact fm_tr mh_13 (W_X7_weds_127 A F (fun p0 p1 q => ih p0 p1 q) (fun q0 e0 => P_1 q0 (mh_13.1 ▸ e0)) (fun q0 e0 => P_0 q0 (mh_13.1 ▸ e0)) hf)
        · skip
          obtain ⟨c_18, ec_18, hf⟩ := ob_ex hf
          rcases ite_ex hf with ⟨q_20, hf⟩ | ⟨q_20, hf⟩
          · skip
            exact fm_tr mh_13 (W_X7_weds_138 A F (fun p0 p1 q => ih p0 p1 q) (fun q0 e0 => P_0 q0 (mh_13.1 ▸ e0)) (fun q0 e0 => P_1 q0 (mh_13.1 ▸ e0)) hf)
          · skip
            exact fm_tr mh_13 (W_X7_weds_127 A F (fun p0 p1 q => ih p0 p1 q) (fun q0 e0 => P_1 q0 (mh_13.1 ▸ e0)) (fun q0 e0 => P_0 q0 (mh_13.1 ▸ e0)) hf)
theorem W_X7_weds_3 (A : Nat → Prop) (F : Nat) : ∀ (f : Nat) {h : Hp} {a0 : Nat} {a1 : Nat} {x2 : Int32} {x3 : Int32} {x4 : Int32} {r : Int32} {h1 : Hp} (P_0 : ∀ q0, h.2 a0 3 = some q0 → A q0) (P_1 : ∀ q0, h.2 a0 4 = some q0 → A q0), X7_weds_3 F f a0 a1 x2 x3 x4 h = some (r, h1) → Fm A h h1 := by
  intro f
  induction f with
  | zero =>
    intro h a0 a1 x2 x3 x4 r h1 P_0 P_1 hf
    exact nomatch (show (none : Option _) = some _ from hf)
  | succ f ih =>
    intro h a0 a1 x2 x3 x4 r h1 P_0 P_1 hf
    rw [X7_weds_3] at hf
    have m0 := fm_rf (A := A) (h := h)
    rcases ite_ex hf with ⟨q_1, hf⟩ | ⟨q_1, hf⟩
    · skip
      exact fm_tr m0 (W_X7_weds_41 A F _ (fun q0 e0 => P_0 q0 (m0.1 ▸ e0)) (fun q0 e0 => P_1 q0 (m0.1 ▸ e0)) hf)
    · skip
      obtain ⟨k_2, hf⟩ := gq_ex hf
      obtain ⟨j_3, ej_3, hf⟩ := ob_ex hf
      have zj_3 : h.2 a0 3 = some j_3 := m0.1 ▸ ej_3
      obtain ⟨h_5, eh_5, hf⟩ := ob_ex hf
      have mh_5 := fm_tr m0 (W_X11_put A F (P_0 _ zj_3) eh_5)
      obtain ⟨j_6, ej_6, hf⟩ := ob_ex hf
      have zj_6 : h.2 a0 4 = some j_6 := mh_5.1 ▸ ej_6
      obtain ⟨h_8, eh_8, hf⟩ := ob_ex hf
      have mh_8 := fm_tr mh_5 (W_X11_put A F (P_1 _ zj_6) eh_8)
      obtain ⟨x4_9, ex4_9, hf⟩ := bd_ex hf
      exact fm_tr mh_8 (ih (fun q0 e0 => P_0 q0 (mh_8.1 ▸ e0)) (fun q0 e0 => P_1 q0 (mh_8.1 ▸ e0)) hf)
theorem W_X7_weds_0 (A : Nat → Prop) (F : Nat) {h : Hp} {a0 : Nat} {a1 : Nat} {x2 : Int32} {x3 : Int32} {r : Int32} {h1 : Hp} (P_0 : ∀ q0, h.2 a0 3 = some q0 → A q0) (P_1 : ∀ q0, h.2 a0 4 = some q0 → A q0) (hf : X7_weds F a0 a1 x2 x3 h = some (r, h1)) : Fm A h h1 := by
  unfold X7_weds at hf
  have m0 := fm_rf (A := A) (h := h)
  exact fm_tr m0 (W_X7_weds_3 A F _ (fun q0 e0 => P_0 q0 (m0.1 ▸ e0)) (fun q0 e0 => P_1 q0 (m0.1 ▸ e0)) hf)
theorem W_X7_weds (A : Nat → Prop) (F : Nat) {h : Hp} {a0 : Nat} {a1 : Nat} {x2 : Int32} {x3 : Int32} {r : Int32} {h1 : Hp} (P_0 : ∀ q0, h.2 a0 3 = some q0 → A q0) (P_1 : ∀ q0, h.2 a0 4 = some q0 → A q0) (hf : X7_weds F a0 a1 x2 x3 h = some (r, h1)) : Fm A h h1 := W_X7_weds_0 A F P_0 P_1 hf
theorem W_X8_copy_0 (A : Nat → Prop) (F : Nat) {h : Hp} {a0 : Nat} {a1 : Nat} {h1 : Hp} (P_0 : A a0) (P_1 : ∀ q0, h.2 a0 2 = some q0 → A q0) (hf : X8_copy F a0 a1 h = some h1) : Fm A h h1 := by
  unfold X8_copy at hf
  have m0 := fm_rf (A := A) (h := h)
  obtain ⟨k_1, hf⟩ := gq_ex hf
  obtain ⟨k_2, hf⟩ := gq_ex hf
  obtain ⟨h_3, eh_3, hf⟩ := bd_ex hf
  have mh_3 := fm_tr m0 (fm_up eh_3 (P_0))
  obtain ⟨h_4, eh_4, hf⟩ := bd_ex hf
  have mh_4 := fm_tr mh_3 (fm_up eh_4 (P_0))
  obtain ⟨j_5, ej_5, hf⟩ := ob_ex hf
  have zj_5 : h.2 a1 2 = some j_5 := mh_4.1 ▸ ej_5
  obtain ⟨j_6, ej_6, hf⟩ := ob_ex hf
  have zj_6 : h.2 a0 2 = some j_6 := mh_4.1 ▸ ej_6
  obtain ⟨k_7, hf⟩ := gq_ex hf
  obtain ⟨k_8, hf⟩ := gq_ex hf
  obtain ⟨n_10, hf⟩ := gq_ex hf
  obtain ⟨h_9, eh_9, hf⟩ := bd_ex hf
  have mh_9 := fm_tr mh_4 (fm_uc eh_9 (P_1 _ zj_6))
  obtain ⟨h_11, eh_11, hf⟩ := bd_ex hf
  have mh_11 := fm_tr mh_9 (fm_up eh_11 (P_0))
  obtain ⟨h_12, eh_12, hf⟩ := bd_ex hf
  have mh_12 := fm_tr mh_11 (fm_up eh_12 (P_0))
  obtain ⟨h_13, eh_13, hf⟩ := bd_ex hf
  have mh_13 := fm_tr mh_12 (fm_up eh_13 (P_0))
  obtain ⟨h_14, eh_14, hf⟩ := bd_ex hf
  have mh_14 := fm_tr mh_13 (fm_up eh_14 (P_0))
  obtain ⟨h_15, eh_15, hf⟩ := bd_ex hf
  have mh_15 := fm_tr mh_14 (fm_up eh_15 (P_0))
  cases hf
  exact mh_15
theorem W_X8_copy (A : Nat → Prop) (F : Nat) {h : Hp} {a0 : Nat} {a1 : Nat} {h1 : Hp} (P_0 : A a0) (P_1 : ∀ q0, h.2 a0 2 = some q0 → A q0) (hf : X8_copy F a0 a1 h = some h1) : Fm A h h1 := W_X8_copy_0 A F P_0 P_1 hf
theorem W_X8_nextDraw_0 (A : Nat → Prop) (F : Nat) {h : Hp} {a0 : Nat} {r : Int32} {h1 : Hp} (P_0 : A a0) (hf : X8_nextDraw F a0 h = some (r, h1)) : Fm A h h1 := by
  unfold X8_nextDraw at hf
  have m0 := fm_rf (A := A) (h := h)
  obtain ⟨k_1, hf⟩ := gq_ex hf
  obtain ⟨h_2, eh_2, hf⟩ := bd_ex hf
  have mh_2 := fm_tr m0 (fm_up eh_2 (P_0))
  cases hf
  exact mh_2
theorem W_X8_nextDraw (A : Nat → Prop) (F : Nat) {h : Hp} {a0 : Nat} {r : Int32} {h1 : Hp} (P_0 : A a0) (hf : X8_nextDraw F a0 h = some (r, h1)) : Fm A h h1 := W_X8_nextDraw_0 A F P_0 hf
theorem W_X9_begin_0 (A : Nat → Prop) (F : Nat) {h : Hp} {a0 : Nat} {a1 : Nat} {x2 : Int32} {h1 : Hp} (P_0 : A a0) (P_1 : ∀ q0, h.2 a0 0 = some q0 → A q0) (hf : X9_begin F a0 a1 x2 h = some h1) : Fm A h h1 := by
  unfold X9_begin at hf
  have m0 := fm_rf (A := A) (h := h)
  obtain ⟨k_1, hf⟩ := gq_ex hf
  obtain ⟨k_2, hf⟩ := gq_ex hf
  obtain ⟨j_3, ej_3, hf⟩ := ob_ex hf
  have zj_3 : h.2 a0 0 = some j_3 := m0.1 ▸ ej_3
  obtain ⟨k_4, hf⟩ := gq_ex hf
  obtain ⟨h_5, eh_5, hf⟩ := bd_ex hf
  have mh_5 := fm_tr m0 (fm_up eh_5 (P_0))
  obtain ⟨n_7, hf⟩ := gq_ex hf
  obtain ⟨h_6, eh_6, hf⟩ := bd_ex hf
  have mh_6 := fm_tr mh_5 (fm_uc eh_6 (P_1 _ zj_3))
  obtain ⟨h_8, eh_8, hf⟩ := bd_ex hf
  have mh_8 := fm_tr mh_6 (fm_up eh_8 (P_0))
  obtain ⟨h_9, eh_9, hf⟩ := bd_ex hf
  have mh_9 := fm_tr mh_8 (fm_up eh_9 (P_0))
  cases hf
  exact mh_9
theorem W_X9_begin (A : Nat → Prop) (F : Nat) {h : Hp} {a0 : Nat} {a1 : Nat} {x2 : Int32} {h1 : Hp} (P_0 : A a0) (P_1 : ∀ q0, h.2 a0 0 = some q0 → A q0) (hf : X9_begin F a0 a1 x2 h = some h1) : Fm A h h1 := W_X9_begin_0 A F P_0 P_1 hf
theorem W_X10_tellAll_0 (A : Nat → Prop) (F : Nat) {h : Hp} {a0 : Nat} {x1 : Int32} {h1 : Hp} (P_0 : ∀ q0, h.2 a0 3 = some q0 → A q0) (hf : X10_tellAll F a0 x1 h = some h1) : Fm A h h1 := by
  unfold X10_tellAll at hf
  have m0 := fm_rf (A := A) (h := h)
  obtain ⟨k_1, hf⟩ := gq_ex hf
  obtain ⟨j_2, ej_2, hf⟩ := ob_ex hf
  have zj_2 : h.2 a0 3 = some j_2 := m0.1 ▸ ej_2
  obtain ⟨j_3, ej_3, hf⟩ := ob_ex hf
  have zj_3 : h.2 a0 2 = some j_3 := m0.1 ▸ ej_3
  obtain ⟨k_4, hf⟩ := gq_ex hf
  obtain ⟨h_6, eh_6, hf⟩ := ob_ex hf
  have mh_6 := fm_tr m0 (W_X11_put A F (P_0 _ zj_2) eh_6)
  obtain ⟨j_7, ej_7, hf⟩ := ob_ex hf
  have zj_7 : h.2 a0 3 = some j_7 := mh_6.1 ▸ ej_7
  obtain ⟨j_8, ej_8, hf⟩ := ob_ex hf
  have zj_8 : h.2 a0 2 = some j_8 := mh_6.1 ▸ ej_8
  obtain ⟨k_9, hf⟩ := gq_ex hf
  obtain ⟨h_11, eh_11, hf⟩ := ob_ex hf
  have mh_11 := fm_tr mh_6 (W_X11_put A F (P_0 _ zj_7) eh_11)
  obtain ⟨j_12, ej_12, hf⟩ := ob_ex hf
  have zj_12 : h.2 a0 3 = some j_12 := mh_11.1 ▸ ej_12
  obtain ⟨j_13, ej_13, hf⟩ := ob_ex hf
  have zj_13 : h.2 a0 2 = some j_13 := mh_11.1 ▸ ej_13
  obtain ⟨k_14, hf⟩ := gq_ex hf
  obtain ⟨h_16, eh_16, hf⟩ := ob_ex hf
  have mh_16 := fm_tr mh_11 (W_X11_put A F (P_0 _ zj_12) eh_16)
  obtain ⟨j_17, ej_17, hf⟩ := ob_ex hf
  have zj_17 : h.2 a0 3 = some j_17 := mh_16.1 ▸ ej_17
  obtain ⟨h_19, eh_19, hf⟩ := ob_ex hf
  have mh_19 := fm_tr mh_16 (W_X11_put A F (P_0 _ zj_17) eh_19)
  cases hf
  exact mh_19
theorem W_X10_tellAll (A : Nat → Prop) (F : Nat) {h : Hp} {a0 : Nat} {x1 : Int32} {h1 : Hp} (P_0 : ∀ q0, h.2 a0 3 = some q0 → A q0) (hf : X10_tellAll F a0 x1 h = some h1) : Fm A h h1 := W_X10_tellAll_0 A F P_0 hf
theorem W_X10_deliver_0 (A : Nat → Prop) (F : Nat) {h : Hp} {a0 : Nat} {h1 : Hp} (P_0 : ∀ q0, h.2 a0 2 = some q0 → A q0) (P_1 : ∀ q0, h.2 a0 3 = some q0 → A q0) (P_2 : ∀ q0, h.2 a0 4 = some q0 → ∀ q1, h.2 q0 6 = some q1 → A q1) (hf : X10_deliver F a0 h = some h1) : Fm A h h1 := by
  unfold X10_deliver at hf
  have m0 := fm_rf (A := A) (h := h)
  obtain ⟨k_1, hf⟩ := gq_ex hf
  obtain ⟨j_2, ej_2, hf⟩ := ob_ex hf
  have zj_2 : h.2 a0 2 = some j_2 := m0.1 ▸ ej_2
  obtain ⟨k_3, hf⟩ := gq_ex hf
  obtain ⟨c_4, h_5, ec_4, hf⟩ := bq_ex hf
  have mh_5 := fm_tr m0 (W_X8_nextDraw A F (P_0 _ zj_2) ec_4)
  obtain ⟨h_7, eh_7, hf⟩ := ob_ex hf
  have mh_7 := fm_tr mh_5 (W_X10_tellAll A F (fun q0 e0 => P_1 q0 (mh_5.1 ▸ e0)) eh_7)
  obtain ⟨j_8, ej_8, hf⟩ := ob_ex hf
  have zj_8 : h.2 a0 3 = some j_8 := mh_7.1 ▸ ej_8
  obtain ⟨h_10, eh_10, hf⟩ := ob_ex hf
  have mh_10 := fm_tr mh_7 (W_X11_put A F (P_1 _ zj_8) eh_10)
  obtain ⟨j_11, ej_11, hf⟩ := ob_ex hf
  have zj_11 : h.2 a0 3 = some j_11 := mh_10.1 ▸ ej_11
  obtain ⟨h_13, eh_13, hf⟩ := ob_ex hf
  have mh_13 := fm_tr mh_10 (W_X11_put A F (P_1 _ zj_11) eh_13)
  obtain ⟨j_14, ej_14, hf⟩ := ob_ex hf
  have zj_14 : h.2 a0 3 = some j_14 := mh_13.1 ▸ ej_14
  obtain ⟨h_16, eh_16, hf⟩ := ob_ex hf
  have mh_16 := fm_tr mh_13 (W_X11_put A F (P_1 _ zj_14) eh_16)
  obtain ⟨j_17, ej_17, hf⟩ := ob_ex hf
  have zj_17 : h.2 a0 3 = some j_17 := mh_16.1 ▸ ej_17
  obtain ⟨h_19, eh_19, hf⟩ := ob_ex hf
  have mh_19 := fm_tr mh_16 (W_X11_put A F (P_1 _ zj_17) eh_19)
  obtain ⟨j_20, ej_20, hf⟩ := ob_ex hf
  have zj_20 : h.2 a0 3 = some j_20 := mh_19.1 ▸ ej_20
  obtain ⟨h_22, eh_22, hf⟩ := ob_ex hf
  have mh_22 := fm_tr mh_19 (W_X11_put A F (P_1 _ zj_20) eh_22)
  obtain ⟨j_23, ej_23, hf⟩ := ob_ex hf
  have zj_23 : h.2 a0 4 = some j_23 := mh_22.1 ▸ ej_23
  obtain ⟨j_24, ej_24, hf⟩ := ob_ex hf
  have zj_24 : h.2 a0 3 = some j_24 := mh_22.1 ▸ ej_24
  obtain ⟨k_25, hf⟩ := gq_ex hf
  obtain ⟨c_26, h_27, ec_26, hf⟩ := bq_ex hf
  have mh_27 := fm_tr mh_22 (W_X1_amount A F (fun q0 e0 => P_2 _ zj_23 q0 (mh_22.1 ▸ e0)) ec_26)
  obtain ⟨j_28, ej_28, hf⟩ := ob_ex hf
  have zj_28 : h.2 a0 4 = some j_28 := mh_27.1 ▸ ej_28
  obtain ⟨j_29, ej_29, hf⟩ := ob_ex hf
  have zj_29 : h.2 a0 3 = some j_29 := mh_27.1 ▸ ej_29
  obtain ⟨k_30, hf⟩ := gq_ex hf
  obtain ⟨c_31, h_32, ec_31, hf⟩ := bq_ex hf
  have mh_32 := fm_tr mh_27 (W_X1_amount A F (fun q0 e0 => P_2 _ zj_28 q0 (mh_27.1 ▸ e0)) ec_31)
  obtain ⟨j_33, ej_33, hf⟩ := ob_ex hf
  have zj_33 : h.2 a0 2 = some j_33 := mh_32.1 ▸ ej_33
  obtain ⟨k_34, hf⟩ := gq_ex hf
  obtain ⟨h_36, eh_36, hf⟩ := ob_ex hf
  have mh_36 := fm_tr mh_32 (W_X8_addStore A F (P_0 _ zj_33) eh_36)
  obtain ⟨j_37, ej_37, hf⟩ := ob_ex hf
  have zj_37 : h.2 a0 2 = some j_37 := mh_36.1 ▸ ej_37
  obtain ⟨k_38, hf⟩ := gq_ex hf
  obtain ⟨h_40, eh_40, hf⟩ := ob_ex hf
  have mh_40 := fm_tr mh_36 (W_X8_addDebt A F (P_0 _ zj_37) eh_40)
  cases hf
  exact mh_40
theorem W_X10_deliver (A : Nat → Prop) (F : Nat) {h : Hp} {a0 : Nat} {h1 : Hp} (P_0 : ∀ q0, h.2 a0 2 = some q0 → A q0) (P_1 : ∀ q0, h.2 a0 3 = some q0 → A q0) (P_2 : ∀ q0, h.2 a0 4 = some q0 → ∀ q1, h.2 q0 6 = some q1 → A q1) (hf : X10_deliver F a0 h = some h1) : Fm A h h1 := W_X10_deliver_0 A F P_0 P_1 P_2 hf
theorem W_X10_tellSide_0 (A : Nat → Prop) (F : Nat) {h : Hp} {a0 : Nat} {x1 : Int32} {h1 : Hp} (P_0 : ∀ q0, h.2 a0 3 = some q0 → A q0) (hf : X10_tellSide F a0 x1 h = some h1) : Fm A h h1 := by
  unfold X10_tellSide at hf
  have m0 := fm_rf (A := A) (h := h)
  obtain ⟨k_1, hf⟩ := gq_ex hf
  obtain ⟨j_2, ej_2, hf⟩ := ob_ex hf
  have zj_2 : h.2 a0 3 = some j_2 := m0.1 ▸ ej_2
  obtain ⟨h_4, eh_4, hf⟩ := ob_ex hf
  have mh_4 := fm_tr m0 (W_X11_put A F (P_0 _ zj_2) eh_4)
  obtain ⟨j_5, ej_5, hf⟩ := ob_ex hf
  have zj_5 : h.2 a0 3 = some j_5 := mh_4.1 ▸ ej_5
  obtain ⟨c_6, ec_6, hf⟩ := ob_ex hf
  obtain ⟨h_9, eh_9, hf⟩ := ob_ex hf
  have mh_9 := fm_tr mh_4 (W_X11_put A F (P_0 _ zj_5) eh_9)
  obtain ⟨j_10, ej_10, hf⟩ := ob_ex hf
  have zj_10 : h.2 a0 3 = some j_10 := mh_9.1 ▸ ej_10
  obtain ⟨c_11, ec_11, hf⟩ := ob_ex hf
  obtain ⟨h_14, eh_14, hf⟩ := ob_ex hf
  have mh_14 := fm_tr mh_9 (W_X11_put A F (P_0 _ zj_10) eh_14)
  obtain ⟨j_15, ej_15, hf⟩ := ob_ex hf
  have zj_15 : h.2 a0 3 = some j_15 := mh_14.1 ▸ ej_15
  obtain ⟨c_16, ec_16, hf⟩ := ob_ex hf
  obtain ⟨h_19, eh_19, hf⟩ := ob_ex hf
  have mh_19 := fm_tr mh_14 (W_X11_put A F (P_0 _ zj_15) eh_19)
  obtain ⟨j_20, ej_20, hf⟩ := ob_ex hf
  have zj_20 : h.2 a0 3 = some j_20 := mh_19.1 ▸ ej_20
  obtain ⟨c_21, ec_21, hf⟩ := ob_ex hf
  obtain ⟨h_24, eh_24, hf⟩ := ob_ex hf
  have mh_24 := fm_tr mh_19 (W_X11_put A F (P_0 _ zj_20) eh_24)
  cases hf
  exact mh_24
theorem W_X10_tellSide (A : Nat → Prop) (F : Nat) {h : Hp} {a0 : Nat} {x1 : Int32} {h1 : Hp} (P_0 : ∀ q0, h.2 a0 3 = some q0 → A q0) (hf : X10_tellSide F a0 x1 h = some h1) : Fm A h h1 := W_X10_tellSide_0 A F P_0 hf
theorem W_X10_work_0 (A : Nat → Prop) (F : Nat) {h : Hp} {a0 : Nat} {x1 : Int32} {r : Int32} {h1 : Hp} (P_0 : ∀ q0, h.2 a0 2 = some q0 → A q0) (P_1 : ∀ q0, h.2 a0 3 = some q0 → A q0) (P_2 : ∀ q0, h.2 a0 4 = some q0 → ∀ q1, h.2 q0 6 = some q1 → A q1) (hf : X10_work F a0 x1 h = some (r, h1)) : Fm A h h1 := by
  unfold X10_work at hf
  have m0 := fm_rf (A := A) (h := h)
  obtain ⟨k_1, hf⟩ := gq_ex hf
  obtain ⟨c_2, ec_2, hf⟩ := ob_ex hf
  rcases ite_ex hf with ⟨q_4, hf⟩ | ⟨q_4, hf⟩
  · skip
    obtain ⟨j_5, ej_5, hf⟩ := ob_ex hf
    have zj_5 : h.2 a0 2 = some j_5 := m0.1 ▸ ej_5
    obtain ⟨k_6, hf⟩ := gq_ex hf
    obtain ⟨c_7, h_8, ec_7, hf⟩ := bq_ex hf
    have mh_8 := fm_tr m0 (W_X8_nextDraw A F (P_0 _ zj_5) ec_7)
    obtain ⟨h_10, eh_10, hf⟩ := ob_ex hf
    have mh_10 := fm_tr mh_8 (W_X10_tellAll A F (fun q0 e0 => P_1 q0 (mh_8.1 ▸ e0)) eh_10)
    obtain ⟨h_12, eh_12, hf⟩ := ob_ex hf
    have mh_12 := fm_tr mh_10 (W_X10_tellSide A F (fun q0 e0 => P_1 q0 (mh_10.1 ▸ e0)) eh_12)
    obtain ⟨j_13, ej_13, hf⟩ := ob_ex hf
    have zj_13 : h.2 a0 4 = some j_13 := mh_12.1 ▸ ej_13
    obtain ⟨j_14, ej_14, hf⟩ := ob_ex hf
    have zj_14 : h.2 a0 3 = some j_14 := mh_12.1 ▸ ej_14
    obtain ⟨k_15, hf⟩ := gq_ex hf
    obtain ⟨c_16, h_17, ec_16, hf⟩ := bq_ex hf
    have mh_17 := fm_tr mh_12 (W_X1_someHolds A F (fun q0 e0 => P_2 _ zj_13 q0 (mh_12.1 ▸ e0)) ec_16)
    rcases ite_ex hf with ⟨q_18, hf⟩ | ⟨q_18, hf⟩
    · skip
      obtain ⟨j_19, ej_19, hf⟩ := ob_ex hf
      have zj_19 : h.2 a0 4 = some j_19 := mh_17.1 ▸ ej_19
      obtain ⟨j_20, ej_20, hf⟩ := ob_ex hf
      have zj_20 : h.2 a0 3 = some j_20 := mh_17.1 ▸ ej_20
      obtain ⟨k_21, hf⟩ := gq_ex hf
      obtain ⟨c_22, h_23, ec_22, hf⟩ := bq_ex hf
      have mh_23 := fm_tr mh_17 (W_X1_amount A F (fun q0 e0 => P_2 _ zj_19 q0 (mh_17.1 ▸ e0)) ec_22)
      obtain ⟨j_24, ej_24, hf⟩ := ob_ex hf
      have zj_24 : h.2 a0 4 = some j_24 := mh_23.1 ▸ ej_24
      obtain ⟨j_25, ej_25, hf⟩ := ob_ex hf
      have zj_25 : h.2 a0 3 = some j_25 := mh_23.1 ▸ ej_25
      obtain ⟨k_26, hf⟩ := gq_ex hf
      obtain ⟨c_27, h_28, ec_27, hf⟩ := bq_ex hf
      have mh_28 := fm_tr mh_23 (W_X1_amount A F (fun q0 e0 => P_2 _ zj_24 q0 (mh_23.1 ▸ e0)) ec_27)
      obtain ⟨j_29, ej_29, hf⟩ := ob_ex hf
      have zj_29 : h.2 a0 2 = some j_29 := mh_28.1 ▸ ej_29
      obtain ⟨k_30, hf⟩ := gq_ex hf
      obtain ⟨c_31, ec_31, hf⟩ := ob_ex hf
      obtain ⟨x4_33, ex4_33, hf⟩ := bd_ex hf
      obtain ⟨h_35, eh_35, hf⟩ := ob_ex hf
      have mh_35 := fm_tr mh_28 (W_X8_lay A F (P_0 _ zj_29) eh_35)
      obtain ⟨j_36, ej_36, hf⟩ := ob_ex hf
      have zj_36 : h.2 a0 2 = some j_36 := mh_35.1 ▸ ej_36
      obtain ⟨k_37, hf⟩ := gq_ex hf
      obtain ⟨h_39, eh_39, hf⟩ := ob_ex hf
      have mh_39 := fm_tr mh_35 (W_X8_addStore A F (P_0 _ zj_36) eh_39)
      obtain ⟨j_40, ej_40, hf⟩ := ob_ex hf
      have zj_40 : h.2 a0 2 = some j_40 := mh_39.1 ▸ ej_40
      obtain ⟨k_41, hf⟩ := gq_ex hf
      obtain ⟨h_43, eh_43, hf⟩ := ob_ex hf
      have mh_43 := fm_tr mh_39 (W_X8_addDebt A F (P_0 _ zj_40) eh_43)
      cases hf
      exact mh_43
    · skip
      cases hf
      exact mh_17
  · skip
    cases hf
    exact m0
theorem W_X10_work (A : Nat → Prop) (F : Nat) {h : Hp} {a0 : Nat} {x1 : Int32} {r : Int32} {h1 : Hp} (P_0 : ∀ q0, h.2 a0 2 = some q0 → A q0) (P_1 : ∀ q0, h.2 a0 3 = some q0 → A q0) (P_2 : ∀ q0, h.2 a0 4 = some q0 → ∀ q1, h.2 q0 6 = some q1 → A q1) (hf : X10_work F a0 x1 h = some (r, h1)) : Fm A h h1 := W_X10_work_0 A F P_0 P_1 P_2 hf
theorem W_X10_fall_33 (A : Nat → Prop) (F : Nat) {h : Hp} {a0 : Nat} {s0 : Int32} {h1 : Hp} (P_0 : ∀ q0, h.2 a0 2 = some q0 → A q0) (hf : X10_fall_33 F a0 s0 h = some h1) : Fm A h h1 := by
  unfold X10_fall_33 at hf
  have m0 := fm_rf (A := A) (h := h)
  obtain ⟨k_1, hf⟩ := gq_ex hf
  obtain ⟨c_2, ec_2, hf⟩ := ob_ex hf
  rcases ite_ex hf with ⟨q_4, hf⟩ | ⟨q_4, hf⟩
  · skip
    cases hf
    exact m0
  · skip
    obtain ⟨j_5, ej_5, hf⟩ := ob_ex hf
    have zj_5 : h.2 a0 2 = some j_5 := m0.1 ▸ ej_5
    obtain ⟨j_6, ej_6, hf⟩ := ob_ex hf
    obtain ⟨k_8, hf⟩ := gq_ex hf
    obtain ⟨c_9, ec_9, hf⟩ := ob_ex hf
    obtain ⟨k_11, hf⟩ := gq_ex hf
    obtain ⟨h_13, eh_13, hf⟩ := ob_ex hf
    have mh_13 := fm_tr m0 (W_X8_setLaid A F (P_0 _ zj_5) eh_13)
    obtain ⟨j_14, ej_14, hf⟩ := ob_ex hf
    have zj_14 : h.2 a0 2 = some j_14 := mh_13.1 ▸ ej_14
    obtain ⟨k_15, hf⟩ := gq_ex hf
    obtain ⟨h_16, eh_16, hf⟩ := bd_ex hf
    have mh_16 := fm_tr mh_13 (fm_up eh_16 (P_0 _ zj_14))
    cases hf
    exact mh_16
theorem W_X10_fall_0 (A : Nat → Prop) (F : Nat) {h : Hp} {a0 : Nat} {h1 : Hp} (P_0 : ∀ q0, h.2 a0 2 = some q0 → A q0) (hf : X10_fall F a0 h = some h1) : Fm A h h1 := by
  unfold X10_fall at hf
  have m0 := fm_rf (A := A) (h := h)
  obtain ⟨k_1, hf⟩ := gq_ex hf
  obtain ⟨c_2, ec_2, hf⟩ := ob_ex hf
  obtain ⟨c_4, ec_4, hf⟩ := ob_ex hf
  obtain ⟨x1_6, ex1_6, hf⟩ := bd_ex hf
  rcases ite_ex hf with ⟨q_7, hf⟩ | ⟨q_7, hf⟩
  · skip
    rcases ite_ex hf with ⟨q_8, hf⟩ | ⟨q_8, hf⟩
    · skip
      exact fm_tr m0 (W_X10_fall_33 A F (fun q0 e0 => P_0 q0 (m0.1 ▸ e0)) hf)
    · skip
      exact fm_tr m0 (W_X10_fall_33 A F (fun q0 e0 => P_0 q0 (m0.1 ▸ e0)) hf)
  · skip
    cases hf
    exact m0
theorem W_X10_fall (A : Nat → Prop) (F : Nat) {h : Hp} {a0 : Nat} {h1 : Hp} (P_0 : ∀ q0, h.2 a0 2 = some q0 → A q0) (hf : X10_fall F a0 h = some h1) : Fm A h h1 := W_X10_fall_0 A F P_0 hf
theorem W_X10_passDay_0 (A : Nat → Prop) (F : Nat) {h : Hp} {a0 : Nat} {r : Int32} {h1 : Hp} (P_0 : ∀ q0, h.2 a0 2 = some q0 → A q0) (P_1 : ∀ q0, h.2 a0 3 = some q0 → A q0) (P_2 : ∀ q0, h.2 a0 4 = some q0 → ∀ q1, h.2 q0 6 = some q1 → A q1) (hf : X10_passDay F a0 h = some (r, h1)) : Fm A h h1 := by
  unfold X10_passDay at hf
  have m0 := fm_rf (A := A) (h := h)
  obtain ⟨k_1, hf⟩ := gq_ex hf
  obtain ⟨j_2, ej_2, hf⟩ := ob_ex hf
  have zj_2 : h.2 a0 2 = some j_2 := m0.1 ▸ ej_2
  obtain ⟨k_3, hf⟩ := gq_ex hf
  rcases ite_ex hf with ⟨q_4, hf⟩ | ⟨q_4, hf⟩
  · skip
    obtain ⟨h_6, eh_6, hf⟩ := ob_ex hf
    have mh_6 := fm_tr m0 (W_X10_deliver A F (fun q0 e0 => P_0 q0 (m0.1 ▸ e0)) (fun q0 e0 => P_1 q0 (m0.1 ▸ e0)) (fun q0 e0 q1 e1 => P_2 q0 (m0.1 ▸ e0) q1 (m0.1 ▸ e1)) eh_6)
    obtain ⟨c_7, h_8, ec_7, hf⟩ := bq_ex hf
    have mh_8 := fm_tr mh_6 (W_X10_work A F (fun q0 e0 => P_0 q0 (mh_6.1 ▸ e0)) (fun q0 e0 => P_1 q0 (mh_6.1 ▸ e0)) (fun q0 e0 q1 e1 => P_2 q0 (mh_6.1 ▸ e0) q1 (mh_6.1 ▸ e1)) ec_7)
    obtain ⟨c_9, h_10, ec_9, hf⟩ := bq_ex hf
    have mh_10 := fm_tr mh_8 (W_X10_work A F (fun q0 e0 => P_0 q0 (mh_8.1 ▸ e0)) (fun q0 e0 => P_1 q0 (mh_8.1 ▸ e0)) (fun q0 e0 q1 e1 => P_2 q0 (mh_8.1 ▸ e0) q1 (mh_8.1 ▸ e1)) ec_9)
    obtain ⟨x1_11, ex1_11, hf⟩ := bd_ex hf
    obtain ⟨h_13, eh_13, hf⟩ := ob_ex hf
    have mh_13 := fm_tr mh_10 (W_X10_fall A F (fun q0 e0 => P_0 q0 (mh_10.1 ▸ e0)) eh_13)
    obtain ⟨j_14, ej_14, hf⟩ := ob_ex hf
    have zj_14 : h.2 a0 2 = some j_14 := mh_13.1 ▸ ej_14
    obtain ⟨k_15, hf⟩ := gq_ex hf
    obtain ⟨h_16, eh_16, hf⟩ := bd_ex hf
    have mh_16 := fm_tr mh_13 (fm_up eh_16 (P_0 _ zj_14))
    cases hf
    exact mh_16
  · skip
    cases hf
    exact m0
theorem W_X10_passDay (A : Nat → Prop) (F : Nat) {h : Hp} {a0 : Nat} {r : Int32} {h1 : Hp} (P_0 : ∀ q0, h.2 a0 2 = some q0 → A q0) (P_1 : ∀ q0, h.2 a0 3 = some q0 → A q0) (P_2 : ∀ q0, h.2 a0 4 = some q0 → ∀ q1, h.2 q0 6 = some q1 → A q1) (hf : X10_passDay F a0 h = some (r, h1)) : Fm A h h1 := W_X10_passDay_0 A F P_0 P_1 P_2 hf
theorem W_X10_passDays_4 (A : Nat → Prop) (F : Nat) : ∀ (f : Nat) {h : Hp} {a0 : Nat} {x1 : Int32} {x2 : Int32} {x3 : Int32} {r : Int32} {h1 : Hp} (P_0 : ∀ q0, h.2 a0 2 = some q0 → A q0) (P_1 : ∀ q0, h.2 a0 3 = some q0 → A q0) (P_2 : ∀ q0, h.2 a0 4 = some q0 → ∀ q1, h.2 q0 6 = some q1 → A q1), X10_passDays_4 F f a0 x1 x2 x3 h = some (r, h1) → Fm A h h1 := by
  intro f
  induction f with
  | zero =>
    intro h a0 x1 x2 x3 r h1 P_0 P_1 P_2 hf
    exact nomatch (show (none : Option _) = some _ from hf)
  | succ f ih =>
    intro h a0 x1 x2 x3 r h1 P_0 P_1 P_2 hf
    rw [X10_passDays_4] at hf
    have m0 := fm_rf (A := A) (h := h)
    rcases ite_ex hf with ⟨q_1, hf⟩ | ⟨q_1, hf⟩
    · skip
      cases hf
      exact m0
    · skip
      rcases ite_ex hf with ⟨q_2, hf⟩ | ⟨q_2, hf⟩
      · skip
        cases hf
        exact m0
      · skip
        obtain ⟨k_3, hf⟩ := gq_ex hf
        obtain ⟨c_4, h_5, ec_4, hf⟩ := bq_ex hf
        have mh_5 := fm_tr m0 (W_X10_passDay A F (fun q0 e0 => P_0 q0 (m0.1 ▸ e0)) (fun q0 e0 => P_1 q0 (m0.1 ▸ e0)) (fun q0 e0 q1 e1 => P_2 q0 (m0.1 ▸ e0) q1 (m0.1 ▸ e1)) ec_4)
        obtain ⟨x2_6, ex2_6, hf⟩ := bd_ex hf
        obtain ⟨x3_7, ex3_7, hf⟩ := bd_ex hf
        exact fm_tr mh_5 (ih (fun q0 e0 => P_0 q0 (mh_5.1 ▸ e0)) (fun q0 e0 => P_1 q0 (mh_5.1 ▸ e0)) (fun q0 e0 q1 e1 => P_2 q0 (mh_5.1 ▸ e0) q1 (mh_5.1 ▸ e1)) hf)
theorem W_X10_passDays_0 (A : Nat → Prop) (F : Nat) {h : Hp} {a0 : Nat} {x1 : Int32} {r : Int32} {h1 : Hp} (P_0 : ∀ q0, h.2 a0 2 = some q0 → A q0) (P_1 : ∀ q0, h.2 a0 3 = some q0 → A q0) (P_2 : ∀ q0, h.2 a0 4 = some q0 → ∀ q1, h.2 q0 6 = some q1 → A q1) (hf : X10_passDays F a0 x1 h = some (r, h1)) : Fm A h h1 := by
  unfold X10_passDays at hf
  have m0 := fm_rf (A := A) (h := h)
  exact fm_tr m0 (W_X10_passDays_4 A F _ (fun q0 e0 => P_0 q0 (m0.1 ▸ e0)) (fun q0 e0 => P_1 q0 (m0.1 ▸ e0)) (fun q0 e0 q1 e1 => P_2 q0 (m0.1 ▸ e0) q1 (m0.1 ▸ e1)) hf)
theorem W_X10_passDays (A : Nat → Prop) (F : Nat) {h : Hp} {a0 : Nat} {x1 : Int32} {r : Int32} {h1 : Hp} (P_0 : ∀ q0, h.2 a0 2 = some q0 → A q0) (P_1 : ∀ q0, h.2 a0 3 = some q0 → A q0) (P_2 : ∀ q0, h.2 a0 4 = some q0 → ∀ q1, h.2 q0 6 = some q1 → A q1) (hf : X10_passDays F a0 x1 h = some (r, h1)) : Fm A h h1 := W_X10_passDays_0 A F P_0 P_1 P_2 hf
theorem W_X10_daysTillBank_2 (A : Nat → Prop) (F : Nat) : ∀ (f : Nat) {h : Hp} {a0 : Nat} {x1 : Int32} {x2 : Int32} {r : Int32} {h1 : Hp} (P_0 : ∀ q0, h.2 a0 2 = some q0 → A q0) (P_1 : ∀ q0, h.2 a0 3 = some q0 → A q0) (P_2 : ∀ q0, h.2 a0 4 = some q0 → ∀ q1, h.2 q0 6 = some q1 → A q1), X10_daysTillBank_2 F f a0 x1 x2 h = some (r, h1) → Fm A h h1 := by
  intro f
  induction f with
  | zero =>
    intro h a0 x1 x2 r h1 P_0 P_1 P_2 hf
    exact nomatch (show (none : Option _) = some _ from hf)
  | succ f ih =>
    intro h a0 x1 x2 r h1 P_0 P_1 P_2 hf
    rw [X10_daysTillBank_2] at hf
    have m0 := fm_rf (A := A) (h := h)
    rcases ite_ex hf with ⟨q_1, hf⟩ | ⟨q_1, hf⟩
    · skip
      cases hf
      exact m0
    · skip
      rcases ite_ex hf with ⟨q_2, hf⟩ | ⟨q_2, hf⟩
      · skip
        cases hf
        exact m0
      · skip
        obtain ⟨k_3, hf⟩ := gq_ex hf
        obtain ⟨c_4, ec_4, hf⟩ := ob_ex hf
        rcases ite_ex hf with ⟨q_6, hf⟩ | ⟨q_6, hf⟩
        · skip
          obtain ⟨c_7, ec_7, hf⟩ := ob_ex hf
          rcases ite_ex hf with ⟨q_9, hf⟩ | ⟨q_9, hf⟩
          · skip
            obtain ⟨c_10, h_11, ec_10, hf⟩ := bq_ex hf
            have mh_11 := fm_tr m0 (W_X10_passDay A F (fun q0 e0 => P_0 q0 (m0.1 ▸ e0)) (fun q0 e0 => P_1 q0 (m0.1 ▸ e0)) (fun q0 e0 q1 e1 => P_2 q0 (m0.1 ▸ e0) q1 (m0.1 ▸ e1)) ec_10)
            obtain ⟨x2_12, ex2_12, hf⟩ := bd_ex hf
            exact fm_tr mh_11 (ih (fun q0 e0 => P_0 q0 (mh_11.1 ▸ e0)) (fun q0 e0 => P_1 q0 (mh_11.1 ▸ e0)) (fun q0 e0 q1 e1 => P_2 q0 (mh_11.1 ▸ e0) q1 (mh_11.1 ▸ e1)) hf)
          · skip
            cases hf
            exact m0
        · skip
          cases hf
          exact m0
theorem W_X10_daysTillBank_0 (A : Nat → Prop) (F : Nat) {h : Hp} {a0 : Nat} {x1 : Int32} {r : Int32} {h1 : Hp} (P_0 : ∀ q0, h.2 a0 2 = some q0 → A q0) (P_1 : ∀ q0, h.2 a0 3 = some q0 → A q0) (P_2 : ∀ q0, h.2 a0 4 = some q0 → ∀ q1, h.2 q0 6 = some q1 → A q1) (hf : X10_daysTillBank F a0 x1 h = some (r, h1)) : Fm A h h1 := by
  unfold X10_daysTillBank at hf
  have m0 := fm_rf (A := A) (h := h)
  exact fm_tr m0 (W_X10_daysTillBank_2 A F _ (fun q0 e0 => P_0 q0 (m0.1 ▸ e0)) (fun q0 e0 => P_1 q0 (m0.1 ▸ e0)) (fun q0 e0 q1 e1 => P_2 q0 (m0.1 ▸ e0) q1 (m0.1 ▸ e1)) hf)
theorem W_X10_daysTillBank (A : Nat → Prop) (F : Nat) {h : Hp} {a0 : Nat} {x1 : Int32} {r : Int32} {h1 : Hp} (P_0 : ∀ q0, h.2 a0 2 = some q0 → A q0) (P_1 : ∀ q0, h.2 a0 3 = some q0 → A q0) (P_2 : ∀ q0, h.2 a0 4 = some q0 → ∀ q1, h.2 q0 6 = some q1 → A q1) (hf : X10_daysTillBank F a0 x1 h = some (r, h1)) : Fm A h h1 := W_X10_daysTillBank_0 A F P_0 P_1 P_2 hf
theorem W_X10_mostAhead_4 (A : Nat → Prop) (F : Nat) : ∀ (f : Nat) {h : Hp} {a0 : Nat} {x1 : Int32} {x2 : Int32} {x3 : Int32} {r : Int32} {h1 : Hp} (P_0 : ∀ q0, h.2 a0 2 = some q0 → A q0) (P_1 : ∀ q0, h.2 a0 3 = some q0 → A q0) (P_2 : ∀ q0, h.2 a0 4 = some q0 → ∀ q1, h.2 q0 6 = some q1 → A q1), X10_mostAhead_4 F f a0 x1 x2 x3 h = some (r, h1) → Fm A h h1 := by
  intro f
  induction f with
  | zero =>
    intro h a0 x1 x2 x3 r h1 P_0 P_1 P_2 hf
    exact nomatch (show (none : Option _) = some _ from hf)
  | succ f ih =>
    intro h a0 x1 x2 x3 r h1 P_0 P_1 P_2 hf
    rw [X10_mostAhead_4] at hf
    have m0 := fm_rf (A := A) (h := h)
    rcases ite_ex hf with ⟨q_1, hf⟩ | ⟨q_1, hf⟩
    · skip
      cases hf
      exact m0
    · skip
      rcases ite_ex hf with ⟨q_2, hf⟩ | ⟨q_2, hf⟩
      · skip
        cases hf
        exact m0
      · skip
        obtain ⟨k_3, hf⟩ := gq_ex hf
        obtain ⟨c_4, ec_4, hf⟩ := ob_ex hf
        obtain ⟨c_6, ec_6, hf⟩ := ob_ex hf
        obtain ⟨x2_8, ex2_8, hf⟩ := bd_ex hf
        obtain ⟨c_9, h_10, ec_9, hf⟩ := bq_ex hf
        have mh_10 := fm_tr m0 (W_X10_passDay A F (fun q0 e0 => P_0 q0 (m0.1 ▸ e0)) (fun q0 e0 => P_1 q0 (m0.1 ▸ e0)) (fun q0 e0 q1 e1 => P_2 q0 (m0.1 ▸ e0) q1 (m0.1 ▸ e1)) ec_9)
        obtain ⟨x3_11, ex3_11, hf⟩ := bd_ex hf
        exact fm_tr mh_10 (ih (fun q0 e0 => P_0 q0 (mh_10.1 ▸ e0)) (fun q0 e0 => P_1 q0 (mh_10.1 ▸ e0)) (fun q0 e0 q1 e1 => P_2 q0 (mh_10.1 ▸ e0) q1 (mh_10.1 ▸ e1)) hf)
theorem W_X10_mostAhead_0 (A : Nat → Prop) (F : Nat) {h : Hp} {a0 : Nat} {x1 : Int32} {r : Int32} {h1 : Hp} (P_0 : ∀ q0, h.2 a0 2 = some q0 → A q0) (P_1 : ∀ q0, h.2 a0 3 = some q0 → A q0) (P_2 : ∀ q0, h.2 a0 4 = some q0 → ∀ q1, h.2 q0 6 = some q1 → A q1) (hf : X10_mostAhead F a0 x1 h = some (r, h1)) : Fm A h h1 := by
  unfold X10_mostAhead at hf
  have m0 := fm_rf (A := A) (h := h)
  exact fm_tr m0 (W_X10_mostAhead_4 A F _ (fun q0 e0 => P_0 q0 (m0.1 ▸ e0)) (fun q0 e0 => P_1 q0 (m0.1 ▸ e0)) (fun q0 e0 q1 e1 => P_2 q0 (m0.1 ▸ e0) q1 (m0.1 ▸ e1)) hf)
theorem W_X10_mostAhead (A : Nat → Prop) (F : Nat) {h : Hp} {a0 : Nat} {x1 : Int32} {r : Int32} {h1 : Hp} (P_0 : ∀ q0, h.2 a0 2 = some q0 → A q0) (P_1 : ∀ q0, h.2 a0 3 = some q0 → A q0) (P_2 : ∀ q0, h.2 a0 4 = some q0 → ∀ q1, h.2 q0 6 = some q1 → A q1) (hf : X10_mostAhead F a0 x1 h = some (r, h1)) : Fm A h h1 := W_X10_mostAhead_0 A F P_0 P_1 P_2 hf
theorem W_X10_daysTillDebt_2 (A : Nat → Prop) (F : Nat) : ∀ (f : Nat) {h : Hp} {a0 : Nat} {x1 : Int32} {x2 : Int32} {x3 : Int32} {r : Int32} {h1 : Hp} (P_0 : ∀ q0, h.2 a0 2 = some q0 → A q0) (P_1 : ∀ q0, h.2 a0 3 = some q0 → A q0) (P_2 : ∀ q0, h.2 a0 4 = some q0 → ∀ q1, h.2 q0 6 = some q1 → A q1), X10_daysTillDebt_2 F f a0 x1 x2 x3 h = some (r, h1) → Fm A h h1 := by
  intro f
  induction f with
  | zero =>
    intro h a0 x1 x2 x3 r h1 P_0 P_1 P_2 hf
    exact nomatch (show (none : Option _) = some _ from hf)
  | succ f ih =>
    intro h a0 x1 x2 x3 r h1 P_0 P_1 P_2 hf
    rw [X10_daysTillDebt_2] at hf
    have m0 := fm_rf (A := A) (h := h)
    rcases ite_ex hf with ⟨q_1, hf⟩ | ⟨q_1, hf⟩
    · skip
      cases hf
      exact m0
    · skip
      rcases ite_ex hf with ⟨q_2, hf⟩ | ⟨q_2, hf⟩
      · skip
        cases hf
        exact m0
      · skip
        obtain ⟨k_3, hf⟩ := gq_ex hf
        obtain ⟨j_4, ej_4, hf⟩ := ob_ex hf
        have zj_4 : h.2 a0 2 = some j_4 := m0.1 ▸ ej_4
        obtain ⟨k_5, hf⟩ := gq_ex hf
        rcases ite_ex hf with ⟨q_6, hf⟩ | ⟨q_6, hf⟩
        · skip
          obtain ⟨c_7, h_8, ec_7, hf⟩ := bq_ex hf
          have mh_8 := fm_tr m0 (W_X10_passDay A F (fun q0 e0 => P_0 q0 (m0.1 ▸ e0)) (fun q0 e0 => P_1 q0 (m0.1 ▸ e0)) (fun q0 e0 q1 e1 => P_2 q0 (m0.1 ▸ e0) q1 (m0.1 ▸ e1)) ec_7)
          obtain ⟨x3_9, ex3_9, hf⟩ := bd_ex hf
          exact fm_tr mh_8 (ih (fun q0 e0 => P_0 q0 (mh_8.1 ▸ e0)) (fun q0 e0 => P_1 q0 (mh_8.1 ▸ e0)) (fun q0 e0 q1 e1 => P_2 q0 (mh_8.1 ▸ e0) q1 (mh_8.1 ▸ e1)) hf)
        · skip
          cases hf
          exact m0
theorem W_X10_daysTillDebt_0 (A : Nat → Prop) (F : Nat) {h : Hp} {a0 : Nat} {x1 : Int32} {x2 : Int32} {r : Int32} {h1 : Hp} (P_0 : ∀ q0, h.2 a0 2 = some q0 → A q0) (P_1 : ∀ q0, h.2 a0 3 = some q0 → A q0) (P_2 : ∀ q0, h.2 a0 4 = some q0 → ∀ q1, h.2 q0 6 = some q1 → A q1) (hf : X10_daysTillDebt F a0 x1 x2 h = some (r, h1)) : Fm A h h1 := by
  unfold X10_daysTillDebt at hf
  have m0 := fm_rf (A := A) (h := h)
  exact fm_tr m0 (W_X10_daysTillDebt_2 A F _ (fun q0 e0 => P_0 q0 (m0.1 ▸ e0)) (fun q0 e0 => P_1 q0 (m0.1 ▸ e0)) (fun q0 e0 q1 e1 => P_2 q0 (m0.1 ▸ e0) q1 (m0.1 ▸ e1)) hf)
theorem W_X10_daysTillDebt (A : Nat → Prop) (F : Nat) {h : Hp} {a0 : Nat} {x1 : Int32} {x2 : Int32} {r : Int32} {h1 : Hp} (P_0 : ∀ q0, h.2 a0 2 = some q0 → A q0) (P_1 : ∀ q0, h.2 a0 3 = some q0 → A q0) (P_2 : ∀ q0, h.2 a0 4 = some q0 → ∀ q1, h.2 q0 6 = some q1 → A q1) (hf : X10_daysTillDebt F a0 x1 x2 h = some (r, h1)) : Fm A h h1 := W_X10_daysTillDebt_0 A F P_0 P_1 P_2 hf
theorem W_X11_tilt_0 (A : Nat → Prop) (F : Nat) {h : Hp} {a0 : Nat} {x1 : Int32} {r : Int32} {h1 : Hp} (P_0 : ∀ q0, h.2 a0 6 = some q0 → A q0) (hf : X11_tilt F a0 x1 h = some (r, h1)) : Fm A h h1 := by
  unfold X11_tilt at hf
  have m0 := fm_rf (A := A) (h := h)
  obtain ⟨c_1, ec_1, hf⟩ := ob_ex hf
  rcases ite_ex hf with ⟨q_3, hf⟩ | ⟨q_3, hf⟩
  · skip
    cases hf
    exact m0
  · skip
    obtain ⟨k_4, hf⟩ := gq_ex hf
    obtain ⟨j_5, ej_5, hf⟩ := ob_ex hf
    have zj_5 : h.2 a0 6 = some j_5 := m0.1 ▸ ej_5
    obtain ⟨k_6, hf⟩ := gq_ex hf
    obtain ⟨h_7, eh_7, hf⟩ := bd_ex hf
    have mh_7 := fm_tr m0 (fm_up eh_7 (P_0 _ zj_5))
    cases hf
    exact mh_7
theorem W_X11_tilt (A : Nat → Prop) (F : Nat) {h : Hp} {a0 : Nat} {x1 : Int32} {r : Int32} {h1 : Hp} (P_0 : ∀ q0, h.2 a0 6 = some q0 → A q0) (hf : X11_tilt F a0 x1 h = some (r, h1)) : Fm A h h1 := W_X11_tilt_0 A F P_0 hf
theorem W_X11_addBytes_3 (A : Nat → Prop) (F : Nat) : ∀ (f : Nat) {h : Hp} {a0 : Nat} {x1 : Int32} {x2 : Int32} {h1 : Hp} (P_0 : ∀ q0, h.2 a0 0 = some q0 → A q0) (P_1 : A a0), X11_addBytes_3 F f a0 x1 x2 h = some h1 → Fm A h h1 := by
  intro f
  induction f with
  | zero =>
    intro h a0 x1 x2 h1 P_0 P_1 hf
    exact nomatch (show (none : Option _) = some _ from hf)
  | succ f ih =>
    intro h a0 x1 x2 h1 P_0 P_1 hf
    rw [X11_addBytes_3] at hf
    have m0 := fm_rf (A := A) (h := h)
    rcases ite_ex hf with ⟨q_1, hf⟩ | ⟨q_1, hf⟩
    · skip
      cases hf
      exact m0
    · skip
      obtain ⟨k_2, hf⟩ := gq_ex hf
      obtain ⟨j_3, ej_3, hf⟩ := ob_ex hf
      have zj_3 : h.2 a0 0 = some j_3 := m0.1 ▸ ej_3
      obtain ⟨h_5, eh_5, hf⟩ := ob_ex hf
      have mh_5 := fm_tr m0 (W_X11_put A F (P_0 _ zj_3) eh_5)
      obtain ⟨h_6, eh_6, hf⟩ := bd_ex hf
      have mh_6 := fm_tr mh_5 (fm_up eh_6 (P_1))
      obtain ⟨x2_7, ex2_7, hf⟩ := bd_ex hf
      exact fm_tr mh_6 (ih (fun q0 e0 => P_0 q0 (mh_6.1 ▸ e0)) P_1 hf)
theorem W_X11_addBytes_0 (A : Nat → Prop) (F : Nat) {h : Hp} {a0 : Nat} {x1 : Int32} {h1 : Hp} (P_0 : ∀ q0, h.2 a0 0 = some q0 → A q0) (P_1 : A a0) (hf : X11_addBytes F a0 x1 h = some h1) : Fm A h h1 := by
  unfold X11_addBytes at hf
  have m0 := fm_rf (A := A) (h := h)
  exact fm_tr m0 (W_X11_addBytes_3 A F _ (fun q0 e0 => P_0 q0 (m0.1 ▸ e0)) P_1 hf)
theorem W_X11_addBytes (A : Nat → Prop) (F : Nat) {h : Hp} {a0 : Nat} {x1 : Int32} {h1 : Hp} (P_0 : ∀ q0, h.2 a0 0 = some q0 → A q0) (P_1 : A a0) (hf : X11_addBytes F a0 x1 h = some h1) : Fm A h h1 := W_X11_addBytes_0 A F P_0 P_1 hf
theorem W_X11_feed_0 (A : Nat → Prop) (F : Nat) {h : Hp} {a0 : Nat} {x1 : Int32} {x2 : Int32} {x3 : Int32} {x4 : Int32} {x5 : Int32} {r : Int32} {h1 : Hp} (P_0 : ∀ q0, h.2 a0 0 = some q0 → A q0) (P_1 : A a0) (hf : X11_feed F a0 x1 x2 x3 x4 x5 h = some (r, h1)) : Fm A h h1 := by
  unfold X11_feed at hf
  have m0 := fm_rf (A := A) (h := h)
  obtain ⟨k_1, hf⟩ := gq_ex hf
  rcases ite_ex hf with ⟨q_2, hf⟩ | ⟨q_2, hf⟩
  · skip
    obtain ⟨h_4, eh_4, hf⟩ := ob_ex hf
    have mh_4 := fm_tr m0 (W_X11_addBytes A F (fun q0 e0 => P_0 q0 (m0.1 ▸ e0)) P_1 eh_4)
    obtain ⟨h_6, eh_6, hf⟩ := ob_ex hf
    have mh_6 := fm_tr mh_4 (W_X11_addBytes A F (fun q0 e0 => P_0 q0 (mh_4.1 ▸ e0)) P_1 eh_6)
    obtain ⟨h_8, eh_8, hf⟩ := ob_ex hf
    have mh_8 := fm_tr mh_6 (W_X11_addBytes A F (fun q0 e0 => P_0 q0 (mh_6.1 ▸ e0)) P_1 eh_8)
    obtain ⟨h_10, eh_10, hf⟩ := ob_ex hf
    have mh_10 := fm_tr mh_8 (W_X11_addBytes A F (fun q0 e0 => P_0 q0 (mh_8.1 ▸ e0)) P_1 eh_10)
    obtain ⟨h_12, eh_12, hf⟩ := ob_ex hf
    have mh_12 := fm_tr mh_10 (W_X11_addBytes A F (fun q0 e0 => P_0 q0 (mh_10.1 ▸ e0)) P_1 eh_12)
    cases hf
    exact mh_12
  · skip
    cases hf
    exact m0
theorem W_X11_feed (A : Nat → Prop) (F : Nat) {h : Hp} {a0 : Nat} {x1 : Int32} {x2 : Int32} {x3 : Int32} {x4 : Int32} {x5 : Int32} {r : Int32} {h1 : Hp} (P_0 : ∀ q0, h.2 a0 0 = some q0 → A q0) (P_1 : A a0) (hf : X11_feed F a0 x1 x2 x3 x4 x5 h = some (r, h1)) : Fm A h h1 := W_X11_feed_0 A F P_0 P_1 hf
theorem W_X11_take_0 (A : Nat → Prop) (F : Nat) {h : Hp} {a0 : Nat} {x1 : Int32} {x2 : Int32} {r : Int32} {h1 : Hp} (P_0 : ∀ q0, h.2 a0 2 = some q0 → A q0) (P_1 : ∀ q0, h.2 a0 2 = some q0 → ∀ q1, h.2 q0 0 = some q1 → A q1) (P_2 : A a0) (hf : X11_take F a0 x1 x2 h = some (r, h1)) : Fm A h h1 := by
  unfold X11_take at hf
  have m0 := fm_rf (A := A) (h := h)
  obtain ⟨c_1, ec_1, hf⟩ := ob_ex hf
  rcases ite_ex hf with ⟨q_3, hf⟩ | ⟨q_3, hf⟩
  · skip
    cases hf
    exact m0
  · skip
    obtain ⟨k_4, hf⟩ := gq_ex hf
    rcases ite_ex hf with ⟨q_5, hf⟩ | ⟨q_5, hf⟩
    · skip
      obtain ⟨j_6, ej_6, hf⟩ := ob_ex hf
      have zj_6 : h.2 a0 2 = some j_6 := m0.1 ▸ ej_6
      obtain ⟨j_7, ej_7, hf⟩ := ob_ex hf
      have zj_7 : h.2 a0 0 = some j_7 := m0.1 ▸ ej_7
      obtain ⟨k_8, hf⟩ := gq_ex hf
      obtain ⟨h_10, eh_10, hf⟩ := ob_ex hf
      have mh_10 := fm_tr m0 (W_X9_begin A F (P_0 _ zj_6) (fun q0 e0 => P_1 _ zj_6 q0 (m0.1 ▸ e0)) eh_10)
      obtain ⟨h_11, eh_11, hf⟩ := bd_ex hf
      have mh_11 := fm_tr mh_10 (fm_up eh_11 (P_2))
      cases hf
      exact mh_11
    · skip
      cases hf
      exact m0
theorem W_X11_take (A : Nat → Prop) (F : Nat) {h : Hp} {a0 : Nat} {x1 : Int32} {x2 : Int32} {r : Int32} {h1 : Hp} (P_0 : ∀ q0, h.2 a0 2 = some q0 → A q0) (P_1 : ∀ q0, h.2 a0 2 = some q0 → ∀ q1, h.2 q0 0 = some q1 → A q1) (P_2 : A a0) (hf : X11_take F a0 x1 x2 h = some (r, h1)) : Fm A h h1 := W_X11_take_0 A F P_0 P_1 P_2 hf
theorem W_X11_orders_0 (A : Nat → Prop) (F : Nat) {h : Hp} {a0 : Nat} {x1 : Int32} {r : Int32} {h1 : Hp} (P_0 : ∀ q0, h.2 a0 2 = some q0 → A q0) (P_1 : ∀ q0, h.2 a0 2 = some q0 → ∀ q1, h.2 q0 0 = some q1 → A q1) (P_2 : A a0) (P_3 : ∀ q0, h.2 a0 4 = some q0 → A q0) (P_4 : ∀ q0, h.2 a0 4 = some q0 → ∀ q1, h.2 q0 0 = some q1 → A q1) (P_5 : ∀ q0, h.2 a0 4 = some q0 → ∀ q1, h.2 q0 1 = some q1 → A q1) (P_6 : ∀ q0, h.2 a0 4 = some q0 → ∀ q1, h.2 q0 2 = some q1 → A q1) (P_7 : ∀ q0, h.2 a0 4 = some q0 → ∀ q1, h.2 q0 3 = some q1 → A q1) (P_8 : ∀ q0, h.2 a0 6 = some q0 → ∀ q1, h.2 q0 2 = some q1 → ∀ q2, h.2 q1 2 = some q2 → A q2) (P_9 : ∀ q0, h.2 a0 6 = some q0 → ∀ q1, h.2 q0 2 = some q1 → A q1) (hf : X11_orders F a0 x1 h = some (r, h1)) : Fm A h h1 := by
  unfold X11_orders at hf
  have m0 := fm_rf (A := A) (h := h)
  obtain ⟨k_1, hf⟩ := gq_ex hf
  obtain ⟨c_2, h_3, ec_2, hf⟩ := bq_ex hf
  have mh_3 := fm_tr m0 (W_X11_take A F (fun q0 e0 => P_0 q0 (m0.1 ▸ e0)) (fun q0 e0 q1 e1 => P_1 q0 (m0.1 ▸ e0) q1 (m0.1 ▸ e1)) P_2 ec_2)
  rcases ite_ex hf with ⟨q_4, hf⟩ | ⟨q_4, hf⟩
  · skip
    cases hf
    exact mh_3
  · skip
    obtain ⟨j_5, ej_5, hf⟩ := ob_ex hf
    have zj_5 : h.2 a0 4 = some j_5 := mh_3.1 ▸ ej_5
    obtain ⟨j_6, ej_6, hf⟩ := ob_ex hf
    have zj_6 : h.2 a0 2 = some j_6 := mh_3.1 ▸ ej_6
    obtain ⟨k_7, hf⟩ := gq_ex hf
    obtain ⟨h_9, eh_9, hf⟩ := ob_ex hf
    have mh_9 := fm_tr mh_3 (W_X4_readAll A F (P_3 _ zj_5) (P_0 _ zj_6) (fun q0 e0 => P_4 _ zj_5 q0 (mh_3.1 ▸ e0)) (fun q0 e0 => P_5 _ zj_5 q0 (mh_3.1 ▸ e0)) (fun q0 e0 => P_6 _ zj_5 q0 (mh_3.1 ▸ e0)) (fun q0 e0 => P_7 _ zj_5 q0 (mh_3.1 ▸ e0)) eh_9)
    obtain ⟨j_10, ej_10, hf⟩ := ob_ex hf
    have zj_10 : h.2 a0 2 = some j_10 := mh_9.1 ▸ ej_10
    obtain ⟨k_11, hf⟩ := gq_ex hf
    obtain ⟨c_12, ec_12, hf⟩ := ob_ex hf
    rcases ite_ex hf with ⟨q_14, hf⟩ | ⟨q_14, hf⟩
    · skip
      cases hf
      exact mh_9
    · skip
      obtain ⟨j_15, ej_15, hf⟩ := ob_ex hf
      have zj_15 : h.2 a0 4 = some j_15 := mh_9.1 ▸ ej_15
      obtain ⟨j_16, ej_16, hf⟩ := ob_ex hf
      have zj_16 : h.2 a0 6 = some j_16 := mh_9.1 ▸ ej_16
      obtain ⟨k_17, hf⟩ := gq_ex hf
      obtain ⟨j_18, ej_18, hf⟩ := ob_ex hf
      have zj_18 : h.2 j_16 2 = some j_18 := mh_9.1 ▸ ej_18
      obtain ⟨k_19, hf⟩ := gq_ex hf
      obtain ⟨h_21, eh_21, hf⟩ := ob_ex hf
      have mh_21 := fm_tr mh_9 (W_X4_obey A F (fun q0 e0 => P_8 _ zj_16 _ zj_18 q0 (mh_9.1 ▸ e0)) (P_9 _ zj_16 _ zj_18) eh_21)
      obtain ⟨j_22, ej_22, hf⟩ := ob_ex hf
      have zj_22 : h.2 a0 4 = some j_22 := mh_21.1 ▸ ej_22
      obtain ⟨k_23, hf⟩ := gq_ex hf
      cases hf
      exact mh_21
theorem W_X11_orders (A : Nat → Prop) (F : Nat) {h : Hp} {a0 : Nat} {x1 : Int32} {r : Int32} {h1 : Hp} (P_0 : ∀ q0, h.2 a0 2 = some q0 → A q0) (P_1 : ∀ q0, h.2 a0 2 = some q0 → ∀ q1, h.2 q0 0 = some q1 → A q1) (P_2 : A a0) (P_3 : ∀ q0, h.2 a0 4 = some q0 → A q0) (P_4 : ∀ q0, h.2 a0 4 = some q0 → ∀ q1, h.2 q0 0 = some q1 → A q1) (P_5 : ∀ q0, h.2 a0 4 = some q0 → ∀ q1, h.2 q0 1 = some q1 → A q1) (P_6 : ∀ q0, h.2 a0 4 = some q0 → ∀ q1, h.2 q0 2 = some q1 → A q1) (P_7 : ∀ q0, h.2 a0 4 = some q0 → ∀ q1, h.2 q0 3 = some q1 → A q1) (P_8 : ∀ q0, h.2 a0 6 = some q0 → ∀ q1, h.2 q0 2 = some q1 → ∀ q2, h.2 q1 2 = some q2 → A q2) (P_9 : ∀ q0, h.2 a0 6 = some q0 → ∀ q1, h.2 q0 2 = some q1 → A q1) (hf : X11_orders F a0 x1 h = some (r, h1)) : Fm A h h1 := W_X11_orders_0 A F P_0 P_1 P_2 P_3 P_4 P_5 P_6 P_7 P_8 P_9 hf
theorem W_X11_days_0 (A : Nat → Prop) (F : Nat) {h : Hp} {a0 : Nat} {x1 : Int32} {r : Int32} {h1 : Hp} (P_0 : ∀ q0, h.2 a0 6 = some q0 → ∀ q1, h.2 q0 2 = some q1 → A q1) (P_1 : ∀ q0, h.2 a0 6 = some q0 → ∀ q1, h.2 q0 3 = some q1 → A q1) (P_2 : ∀ q0, h.2 a0 6 = some q0 → ∀ q1, h.2 q0 4 = some q1 → ∀ q2, h.2 q1 6 = some q2 → A q2) (hf : X11_days F a0 x1 h = some (r, h1)) : Fm A h h1 := by
  unfold X11_days at hf
  have m0 := fm_rf (A := A) (h := h)
  obtain ⟨c_1, ec_1, hf⟩ := ob_ex hf
  rcases ite_ex hf with ⟨q_3, hf⟩ | ⟨q_3, hf⟩
  · skip
    cases hf
    exact m0
  · skip
    obtain ⟨k_4, hf⟩ := gq_ex hf
    obtain ⟨j_5, ej_5, hf⟩ := ob_ex hf
    have zj_5 : h.2 a0 6 = some j_5 := m0.1 ▸ ej_5
    obtain ⟨k_6, hf⟩ := gq_ex hf
    obtain ⟨c_7, h_8, ec_7, hf⟩ := bq_ex hf
    have mh_8 := fm_tr m0 (W_X10_passDays A F (fun q0 e0 => P_0 _ zj_5 q0 (m0.1 ▸ e0)) (fun q0 e0 => P_1 _ zj_5 q0 (m0.1 ▸ e0)) (fun q0 e0 q1 e1 => P_2 _ zj_5 q0 (m0.1 ▸ e0) q1 (m0.1 ▸ e1)) ec_7)
    cases hf
    exact mh_8
theorem W_X11_days (A : Nat → Prop) (F : Nat) {h : Hp} {a0 : Nat} {x1 : Int32} {r : Int32} {h1 : Hp} (P_0 : ∀ q0, h.2 a0 6 = some q0 → ∀ q1, h.2 q0 2 = some q1 → A q1) (P_1 : ∀ q0, h.2 a0 6 = some q0 → ∀ q1, h.2 q0 3 = some q1 → A q1) (P_2 : ∀ q0, h.2 a0 6 = some q0 → ∀ q1, h.2 q0 4 = some q1 → ∀ q2, h.2 q1 6 = some q2 → A q2) (hf : X11_days F a0 x1 h = some (r, h1)) : Fm A h h1 := W_X11_days_0 A F P_0 P_1 P_2 hf
theorem W_X11_tried_33 (A : Nat → Prop) (F : Nat) {h : Hp} {a0 : Nat} {x1 : Int32} {x2 : Int32} {r : Int32} {h1 : Hp} (P_0 : ∀ q0, h.2 a0 8 = some q0 → A q0) (P_1 : ∀ q0, h.2 a0 8 = some q0 → ∀ q1, h.2 q0 2 = some q1 → A q1) (P_2 : ∀ q0, h.2 a0 6 = some q0 → ∀ q1, h.2 q0 2 = some q1 → A q1) (P_3 : ∀ q0, h.2 a0 6 = some q0 → ∀ q1, h.2 q0 2 = some q1 → ∀ q2, h.2 q1 2 = some q2 → A q2) (P_4 : ∀ q0, h.2 a0 6 = some q0 → ∀ q1, h.2 q0 3 = some q1 → A q1) (P_5 : ∀ q0, h.2 a0 6 = some q0 → ∀ q1, h.2 q0 4 = some q1 → ∀ q2, h.2 q1 6 = some q2 → A q2) (hf : X11_tried_33 F a0 x1 x2 h = some (r, h1)) : Fm A h h1 := by
  unfold X11_tried_33 at hf
  have m0 := fm_rf (A := A) (h := h)
  obtain ⟨k_1, hf⟩ := gq_ex hf
  obtain ⟨j_2, ej_2, hf⟩ := ob_ex hf
  have zj_2 : h.2 a0 8 = some j_2 := m0.1 ▸ ej_2
  obtain ⟨j_3, ej_3, hf⟩ := ob_ex hf
  have zj_3 : h.2 a0 6 = some j_3 := m0.1 ▸ ej_3
  obtain ⟨k_4, hf⟩ := gq_ex hf
  obtain ⟨j_5, ej_5, hf⟩ := ob_ex hf
  have zj_5 : h.2 j_3 2 = some j_5 := m0.1 ▸ ej_5
  obtain ⟨k_6, hf⟩ := gq_ex hf
  obtain ⟨h_8, eh_8, hf⟩ := ob_ex hf
  have mh_8 := fm_tr m0 (W_X8_copy A F (P_0 _ zj_2) (fun q0 e0 => P_1 _ zj_2 q0 (m0.1 ▸ e0)) eh_8)
  obtain ⟨j_9, ej_9, hf⟩ := ob_ex hf
  have zj_9 : h.2 a0 6 = some j_9 := mh_8.1 ▸ ej_9
  obtain ⟨k_10, hf⟩ := gq_ex hf
  obtain ⟨c_11, h_12, ec_11, hf⟩ := bq_ex hf
  have mh_12 := fm_tr mh_8 (W_X10_passDays A F (fun q0 e0 => P_2 _ zj_9 q0 (mh_8.1 ▸ e0)) (fun q0 e0 => P_4 _ zj_9 q0 (mh_8.1 ▸ e0)) (fun q0 e0 q1 e1 => P_5 _ zj_9 q0 (mh_8.1 ▸ e0) q1 (mh_8.1 ▸ e1)) ec_11)
  obtain ⟨c_13, ec_13, hf⟩ := ob_ex hf
  obtain ⟨j_15, ej_15, hf⟩ := ob_ex hf
  have zj_15 : h.2 a0 6 = some j_15 := mh_12.1 ▸ ej_15
  obtain ⟨k_16, hf⟩ := gq_ex hf
  obtain ⟨j_17, ej_17, hf⟩ := ob_ex hf
  have zj_17 : h.2 j_15 2 = some j_17 := mh_12.1 ▸ ej_17
  obtain ⟨j_18, ej_18, hf⟩ := ob_ex hf
  have zj_18 : h.2 a0 8 = some j_18 := mh_12.1 ▸ ej_18
  obtain ⟨k_19, hf⟩ := gq_ex hf
  obtain ⟨h_21, eh_21, hf⟩ := ob_ex hf
  have mh_21 := fm_tr mh_12 (W_X8_copy A F (P_2 _ zj_15 _ zj_17) (fun q0 e0 => P_3 _ zj_15 _ zj_17 q0 (mh_12.1 ▸ e0)) eh_21)
  cases hf
  exact mh_21
theorem W_X11_tried_0 (A : Nat → Prop) (F : Nat) {h : Hp} {a0 : Nat} {x1 : Int32} {x2 : Int32} {r : Int32} {h1 : Hp} (P_0 : ∀ q0, h.2 a0 8 = some q0 → A q0) (P_1 : ∀ q0, h.2 a0 8 = some q0 → ∀ q1, h.2 q0 2 = some q1 → A q1) (P_2 : ∀ q0, h.2 a0 6 = some q0 → ∀ q1, h.2 q0 2 = some q1 → A q1) (P_3 : ∀ q0, h.2 a0 6 = some q0 → ∀ q1, h.2 q0 2 = some q1 → ∀ q2, h.2 q1 2 = some q2 → A q2) (P_4 : ∀ q0, h.2 a0 6 = some q0 → ∀ q1, h.2 q0 3 = some q1 → A q1) (P_5 : ∀ q0, h.2 a0 6 = some q0 → ∀ q1, h.2 q0 4 = some q1 → ∀ q2, h.2 q1 6 = some q2 → A q2) (hf : X11_tried F a0 x1 x2 h = some (r, h1)) : Fm A h h1 := by
  unfold X11_tried at hf
  have m0 := fm_rf (A := A) (h := h)
  obtain ⟨c_1, ec_1, hf⟩ := ob_ex hf
  rcases ite_ex hf with ⟨q_3, hf⟩ | ⟨q_3, hf⟩
  · skip
    cases hf
    exact m0
  · skip
    obtain ⟨c_4, ec_4, hf⟩ := ob_ex hf
    rcases ite_ex hf with ⟨q_6, hf⟩ | ⟨q_6, hf⟩
    · skip
      obtain ⟨c_7, ec_7, hf⟩ := ob_ex hf
      rcases ite_ex hf with ⟨q_9, hf⟩ | ⟨q_9, hf⟩
      · skip
        cases hf
        exact m0
      · skip
        exact fm_tr m0 (W_X11_tried_33 A F (fun q0 e0 => P_0 q0 (m0.1 ▸ e0)) (fun q0 e0 q1 e1 => P_1 q0 (m0.1 ▸ e0) q1 (m0.1 ▸ e1)) (fun q0 e0 q1 e1 => P_2 q0 (m0.1 ▸ e0) q1 (m0.1 ▸ e1)) (fun q0 e0 q1 e1 q2 e2 => P_3 q0 (m0.1 ▸ e0) q1 (m0.1 ▸ e1) q2 (m0.1 ▸ e2)) (fun q0 e0 q1 e1 => P_4 q0 (m0.1 ▸ e0) q1 (m0.1 ▸ e1)) (fun q0 e0 q1 e1 q2 e2 => P_5 q0 (m0.1 ▸ e0) q1 (m0.1 ▸ e1) q2 (m0.1 ▸ e2)) hf)
    · skip
      exact fm_tr m0 (W_X11_tried_33 A F (fun q0 e0 => P_0 q0 (m0.1 ▸ e0)) (fun q0 e0 q1 e1 => P_1 q0 (m0.1 ▸ e0) q1 (m0.1 ▸ e1)) (fun q0 e0 q1 e1 => P_2 q0 (m0.1 ▸ e0) q1 (m0.1 ▸ e1)) (fun q0 e0 q1 e1 q2 e2 => P_3 q0 (m0.1 ▸ e0) q1 (m0.1 ▸ e1) q2 (m0.1 ▸ e2)) (fun q0 e0 q1 e1 => P_4 q0 (m0.1 ▸ e0) q1 (m0.1 ▸ e1)) (fun q0 e0 q1 e1 q2 e2 => P_5 q0 (m0.1 ▸ e0) q1 (m0.1 ▸ e1) q2 (m0.1 ▸ e2)) hf)
theorem W_X11_tried (A : Nat → Prop) (F : Nat) {h : Hp} {a0 : Nat} {x1 : Int32} {x2 : Int32} {r : Int32} {h1 : Hp} (P_0 : ∀ q0, h.2 a0 8 = some q0 → A q0) (P_1 : ∀ q0, h.2 a0 8 = some q0 → ∀ q1, h.2 q0 2 = some q1 → A q1) (P_2 : ∀ q0, h.2 a0 6 = some q0 → ∀ q1, h.2 q0 2 = some q1 → A q1) (P_3 : ∀ q0, h.2 a0 6 = some q0 → ∀ q1, h.2 q0 2 = some q1 → ∀ q2, h.2 q1 2 = some q2 → A q2) (P_4 : ∀ q0, h.2 a0 6 = some q0 → ∀ q1, h.2 q0 3 = some q1 → A q1) (P_5 : ∀ q0, h.2 a0 6 = some q0 → ∀ q1, h.2 q0 4 = some q1 → ∀ q2, h.2 q1 6 = some q2 → A q2) (hf : X11_tried F a0 x1 x2 h = some (r, h1)) : Fm A h h1 := W_X11_tried_0 A F P_0 P_1 P_2 P_3 P_4 P_5 hf
theorem W_X11_touches_64 (A : Nat → Prop) (F : Nat) {h : Hp} {a0 : Nat} {s0 : Int32} {r : Int32} {h1 : Hp} (P_0 : ∀ q0, h.2 a0 6 = some q0 → ∀ q1, h.2 q0 2 = some q1 → A q1) (P_1 : ∀ q0, h.2 a0 6 = some q0 → ∀ q1, h.2 q0 2 = some q1 → ∀ q2, h.2 q1 2 = some q2 → A q2) (hf : X11_touches_64 F a0 s0 h = some (r, h1)) : Fm A h h1 := by
  unfold X11_touches_64 at hf
  have m0 := fm_rf (A := A) (h := h)
  obtain ⟨k_1, hf⟩ := gq_ex hf
  obtain ⟨j_2, ej_2, hf⟩ := ob_ex hf
  have zj_2 : h.2 a0 6 = some j_2 := m0.1 ▸ ej_2
  obtain ⟨k_3, hf⟩ := gq_ex hf
  obtain ⟨j_4, ej_4, hf⟩ := ob_ex hf
  have zj_4 : h.2 j_2 2 = some j_4 := m0.1 ▸ ej_4
  obtain ⟨j_5, ej_5, hf⟩ := ob_ex hf
  have zj_5 : h.2 a0 8 = some j_5 := m0.1 ▸ ej_5
  obtain ⟨k_6, hf⟩ := gq_ex hf
  obtain ⟨h_8, eh_8, hf⟩ := ob_ex hf
  have mh_8 := fm_tr m0 (W_X8_copy A F (P_0 _ zj_2 _ zj_4) (fun q0 e0 => P_1 _ zj_2 _ zj_4 q0 (m0.1 ▸ e0)) eh_8)
  cases hf
  exact mh_8
theorem W_X11_touches_53 (A : Nat → Prop) (F : Nat) {h : Hp} {a0 : Nat} {x3 : Int32} {r : Int32} {h1 : Hp} (P_0 : ∀ q0, h.2 a0 6 = some q0 → ∀ q1, h.2 q0 2 = some q1 → A q1) (P_1 : ∀ q0, h.2 a0 6 = some q0 → ∀ q1, h.2 q0 2 = some q1 → ∀ q2, h.2 q1 2 = some q2 → A q2) (hf : X11_touches_53 F a0 x3 h = some (r, h1)) : Fm A h h1 := by
  unfold X11_touches_53 at hf
  have m0 := fm_rf (A := A) (h := h)
  exact fm_tr m0 (W_X11_touches_64 A F (fun q0 e0 q1 e1 => P_0 q0 (m0.1 ▸ e0) q1 (m0.1 ▸ e1)) (fun q0 e0 q1 e1 q2 e2 => P_1 q0 (m0.1 ▸ e0) q1 (m0.1 ▸ e1) q2 (m0.1 ▸ e2)) hf)
theorem W_X11_touches_0 (A : Nat → Prop) (F : Nat) {h : Hp} {a0 : Nat} {x1 : Int32} {x2 : Int32} {r : Int32} {h1 : Hp} (P_0 : ∀ q0, h.2 a0 8 = some q0 → A q0) (P_1 : ∀ q0, h.2 a0 8 = some q0 → ∀ q1, h.2 q0 2 = some q1 → A q1) (P_2 : ∀ q0, h.2 a0 6 = some q0 → ∀ q1, h.2 q0 2 = some q1 → A q1) (P_3 : ∀ q0, h.2 a0 6 = some q0 → ∀ q1, h.2 q0 3 = some q1 → A q1) (P_4 : ∀ q0, h.2 a0 6 = some q0 → ∀ q1, h.2 q0 2 = some q1 → ∀ q2, h.2 q1 2 = some q2 → A q2) (P_5 : ∀ q0, h.2 a0 6 = some q0 → ∀ q1, h.2 q0 4 = some q1 → ∀ q2, h.2 q1 6 = some q2 → A q2) (hf : X11_touches F a0 x1 x2 h = some (r, h1)) : Fm A h h1 := by
  unfold X11_touches at hf
  have m0 := fm_rf (A := A) (h := h)
  obtain ⟨c_1, ec_1, hf⟩ := ob_ex hf
  rcases ite_ex hf with ⟨q_3, hf⟩ | ⟨q_3, hf⟩
  · skip
    cases hf
    exact m0
  · skip
    obtain ⟨c_4, ec_4, hf⟩ := ob_ex hf
    rcases ite_ex hf with ⟨q_6, hf⟩ | ⟨q_6, hf⟩
    · skip
      cases hf
      exact m0
    · skip
      obtain ⟨k_7, hf⟩ := gq_ex hf
      obtain ⟨j_8, ej_8, hf⟩ := ob_ex hf
      have zj_8 : h.2 a0 8 = some j_8 := m0.1 ▸ ej_8
      obtain ⟨j_9, ej_9, hf⟩ := ob_ex hf
      have zj_9 : h.2 a0 6 = some j_9 := m0.1 ▸ ej_9
      obtain ⟨k_10, hf⟩ := gq_ex hf
      obtain ⟨j_11, ej_11, hf⟩ := ob_ex hf
      have zj_11 : h.2 j_9 2 = some j_11 := m0.1 ▸ ej_11
      obtain ⟨k_12, hf⟩ := gq_ex hf
      obtain ⟨h_14, eh_14, hf⟩ := ob_ex hf
      have mh_14 := fm_tr m0 (W_X8_copy A F (P_0 _ zj_8) (fun q0 e0 => P_1 _ zj_8 q0 (m0.1 ▸ e0)) eh_14)
      obtain ⟨j_15, ej_15, hf⟩ := ob_ex hf
      have zj_15 : h.2 a0 6 = some j_15 := mh_14.1 ▸ ej_15
      obtain ⟨k_16, hf⟩ := gq_ex hf
      obtain ⟨c_17, h_18, ec_17, hf⟩ := bq_ex hf
      have mh_18 := fm_tr mh_14 (W_X10_daysTillBank A F (fun q0 e0 => P_2 _ zj_15 q0 (mh_14.1 ▸ e0)) (fun q0 e0 => P_3 _ zj_15 q0 (mh_14.1 ▸ e0)) (fun q0 e0 q1 e1 => P_5 _ zj_15 q0 (mh_14.1 ▸ e0) q1 (mh_14.1 ▸ e1)) ec_17)
      rcases ite_ex hf with ⟨q_19, hf⟩ | ⟨q_19, hf⟩
      · skip
        exact fm_tr mh_18 (W_X11_touches_53 A F (fun q0 e0 q1 e1 => P_2 q0 (mh_18.1 ▸ e0) q1 (mh_18.1 ▸ e1)) (fun q0 e0 q1 e1 q2 e2 => P_4 q0 (mh_18.1 ▸ e0) q1 (mh_18.1 ▸ e1) q2 (mh_18.1 ▸ e2)) hf)
      · skip
        rcases ite_ex hf with ⟨q_20, hf⟩ | ⟨q_20, hf⟩
        · skip
          obtain ⟨j_21, ej_21, hf⟩ := ob_ex hf
          have zj_21 : h.2 a0 6 = some j_21 := mh_18.1 ▸ ej_21
          obtain ⟨k_22, hf⟩ := gq_ex hf
          obtain ⟨c_23, ec_23, hf⟩ := ob_ex hf
          exact fm_tr mh_18 (W_X11_touches_64 A F (fun q0 e0 q1 e1 => P_2 q0 (mh_18.1 ▸ e0) q1 (mh_18.1 ▸ e1)) (fun q0 e0 q1 e1 q2 e2 => P_4 q0 (mh_18.1 ▸ e0) q1 (mh_18.1 ▸ e1) q2 (mh_18.1 ▸ e2)) hf)
        · skip
          exact fm_tr mh_18 (W_X11_touches_53 A F (fun q0 e0 q1 e1 => P_2 q0 (mh_18.1 ▸ e0) q1 (mh_18.1 ▸ e1)) (fun q0 e0 q1 e1 q2 e2 => P_4 q0 (mh_18.1 ▸ e0) q1 (mh_18.1 ▸ e1) q2 (mh_18.1 ▸ e2)) hf)
theorem W_X11_touches (A : Nat → Prop) (F : Nat) {h : Hp} {a0 : Nat} {x1 : Int32} {x2 : Int32} {r : Int32} {h1 : Hp} (P_0 : ∀ q0, h.2 a0 8 = some q0 → A q0) (P_1 : ∀ q0, h.2 a0 8 = some q0 → ∀ q1, h.2 q0 2 = some q1 → A q1) (P_2 : ∀ q0, h.2 a0 6 = some q0 → ∀ q1, h.2 q0 2 = some q1 → A q1) (P_3 : ∀ q0, h.2 a0 6 = some q0 → ∀ q1, h.2 q0 3 = some q1 → A q1) (P_4 : ∀ q0, h.2 a0 6 = some q0 → ∀ q1, h.2 q0 2 = some q1 → ∀ q2, h.2 q1 2 = some q2 → A q2) (P_5 : ∀ q0, h.2 a0 6 = some q0 → ∀ q1, h.2 q0 4 = some q1 → ∀ q2, h.2 q1 6 = some q2 → A q2) (hf : X11_touches F a0 x1 x2 h = some (r, h1)) : Fm A h h1 := W_X11_touches_0 A F P_0 P_1 P_2 P_3 P_4 P_5 hf
theorem W_X11_ahead_0 (A : Nat → Prop) (F : Nat) {h : Hp} {a0 : Nat} {x1 : Int32} {r : Int32} {h1 : Hp} (P_0 : ∀ q0, h.2 a0 8 = some q0 → A q0) (P_1 : ∀ q0, h.2 a0 8 = some q0 → ∀ q1, h.2 q0 2 = some q1 → A q1) (P_2 : ∀ q0, h.2 a0 6 = some q0 → ∀ q1, h.2 q0 2 = some q1 → A q1) (P_3 : ∀ q0, h.2 a0 6 = some q0 → ∀ q1, h.2 q0 2 = some q1 → ∀ q2, h.2 q1 2 = some q2 → A q2) (P_4 : ∀ q0, h.2 a0 6 = some q0 → ∀ q1, h.2 q0 3 = some q1 → A q1) (P_5 : ∀ q0, h.2 a0 6 = some q0 → ∀ q1, h.2 q0 4 = some q1 → ∀ q2, h.2 q1 6 = some q2 → A q2) (hf : X11_ahead F a0 x1 h = some (r, h1)) : Fm A h h1 := by
  unfold X11_ahead at hf
  have m0 := fm_rf (A := A) (h := h)
  obtain ⟨c_1, ec_1, hf⟩ := ob_ex hf
  rcases ite_ex hf with ⟨q_3, hf⟩ | ⟨q_3, hf⟩
  · skip
    cases hf
    exact m0
  · skip
    obtain ⟨k_4, hf⟩ := gq_ex hf
    obtain ⟨j_5, ej_5, hf⟩ := ob_ex hf
    have zj_5 : h.2 a0 8 = some j_5 := m0.1 ▸ ej_5
    obtain ⟨j_6, ej_6, hf⟩ := ob_ex hf
    have zj_6 : h.2 a0 6 = some j_6 := m0.1 ▸ ej_6
    obtain ⟨k_7, hf⟩ := gq_ex hf
    obtain ⟨j_8, ej_8, hf⟩ := ob_ex hf
    have zj_8 : h.2 j_6 2 = some j_8 := m0.1 ▸ ej_8
    obtain ⟨k_9, hf⟩ := gq_ex hf
    obtain ⟨h_11, eh_11, hf⟩ := ob_ex hf
    have mh_11 := fm_tr m0 (W_X8_copy A F (P_0 _ zj_5) (fun q0 e0 => P_1 _ zj_5 q0 (m0.1 ▸ e0)) eh_11)
    obtain ⟨j_12, ej_12, hf⟩ := ob_ex hf
    have zj_12 : h.2 a0 6 = some j_12 := mh_11.1 ▸ ej_12
    obtain ⟨k_13, hf⟩ := gq_ex hf
    obtain ⟨c_14, h_15, ec_14, hf⟩ := bq_ex hf
    have mh_15 := fm_tr mh_11 (W_X10_mostAhead A F (fun q0 e0 => P_2 _ zj_12 q0 (mh_11.1 ▸ e0)) (fun q0 e0 => P_4 _ zj_12 q0 (mh_11.1 ▸ e0)) (fun q0 e0 q1 e1 => P_5 _ zj_12 q0 (mh_11.1 ▸ e0) q1 (mh_11.1 ▸ e1)) ec_14)
    obtain ⟨j_16, ej_16, hf⟩ := ob_ex hf
    have zj_16 : h.2 a0 6 = some j_16 := mh_15.1 ▸ ej_16
    obtain ⟨k_17, hf⟩ := gq_ex hf
    obtain ⟨j_18, ej_18, hf⟩ := ob_ex hf
    have zj_18 : h.2 j_16 2 = some j_18 := mh_15.1 ▸ ej_18
    obtain ⟨j_19, ej_19, hf⟩ := ob_ex hf
    have zj_19 : h.2 a0 8 = some j_19 := mh_15.1 ▸ ej_19
    obtain ⟨k_20, hf⟩ := gq_ex hf
    obtain ⟨h_22, eh_22, hf⟩ := ob_ex hf
    have mh_22 := fm_tr mh_15 (W_X8_copy A F (P_2 _ zj_16 _ zj_18) (fun q0 e0 => P_3 _ zj_16 _ zj_18 q0 (mh_15.1 ▸ e0)) eh_22)
    cases hf
    exact mh_22
theorem W_X11_ahead (A : Nat → Prop) (F : Nat) {h : Hp} {a0 : Nat} {x1 : Int32} {r : Int32} {h1 : Hp} (P_0 : ∀ q0, h.2 a0 8 = some q0 → A q0) (P_1 : ∀ q0, h.2 a0 8 = some q0 → ∀ q1, h.2 q0 2 = some q1 → A q1) (P_2 : ∀ q0, h.2 a0 6 = some q0 → ∀ q1, h.2 q0 2 = some q1 → A q1) (P_3 : ∀ q0, h.2 a0 6 = some q0 → ∀ q1, h.2 q0 2 = some q1 → ∀ q2, h.2 q1 2 = some q2 → A q2) (P_4 : ∀ q0, h.2 a0 6 = some q0 → ∀ q1, h.2 q0 3 = some q1 → A q1) (P_5 : ∀ q0, h.2 a0 6 = some q0 → ∀ q1, h.2 q0 4 = some q1 → ∀ q2, h.2 q1 6 = some q2 → A q2) (hf : X11_ahead F a0 x1 h = some (r, h1)) : Fm A h h1 := W_X11_ahead_0 A F P_0 P_1 P_2 P_3 P_4 P_5 hf
theorem W_X11_beyond_0 (A : Nat → Prop) (F : Nat) {h : Hp} {a0 : Nat} {x1 : Int32} {x2 : Int32} {r : Int32} {h1 : Hp} (P_0 : ∀ q0, h.2 a0 8 = some q0 → A q0) (P_1 : ∀ q0, h.2 a0 8 = some q0 → ∀ q1, h.2 q0 2 = some q1 → A q1) (P_2 : ∀ q0, h.2 a0 6 = some q0 → ∀ q1, h.2 q0 2 = some q1 → A q1) (P_3 : ∀ q0, h.2 a0 6 = some q0 → ∀ q1, h.2 q0 2 = some q1 → ∀ q2, h.2 q1 2 = some q2 → A q2) (P_4 : ∀ q0, h.2 a0 6 = some q0 → ∀ q1, h.2 q0 3 = some q1 → A q1) (P_5 : ∀ q0, h.2 a0 6 = some q0 → ∀ q1, h.2 q0 4 = some q1 → ∀ q2, h.2 q1 6 = some q2 → A q2) (hf : X11_beyond F a0 x1 x2 h = some (r, h1)) : Fm A h h1 := by
  unfold X11_beyond at hf
  have m0 := fm_rf (A := A) (h := h)
  obtain ⟨c_1, ec_1, hf⟩ := ob_ex hf
  rcases ite_ex hf with ⟨q_3, hf⟩ | ⟨q_3, hf⟩
  · skip
    cases hf
    exact m0
  · skip
    obtain ⟨c_4, ec_4, hf⟩ := ob_ex hf
    rcases ite_ex hf with ⟨q_6, hf⟩ | ⟨q_6, hf⟩
    · skip
      cases hf
      exact m0
    · skip
      obtain ⟨k_7, hf⟩ := gq_ex hf
      obtain ⟨j_8, ej_8, hf⟩ := ob_ex hf
      have zj_8 : h.2 a0 8 = some j_8 := m0.1 ▸ ej_8
      obtain ⟨j_9, ej_9, hf⟩ := ob_ex hf
      have zj_9 : h.2 a0 6 = some j_9 := m0.1 ▸ ej_9
      obtain ⟨k_10, hf⟩ := gq_ex hf
      obtain ⟨j_11, ej_11, hf⟩ := ob_ex hf
      have zj_11 : h.2 j_9 2 = some j_11 := m0.1 ▸ ej_11
      obtain ⟨k_12, hf⟩ := gq_ex hf
      obtain ⟨h_14, eh_14, hf⟩ := ob_ex hf
      have mh_14 := fm_tr m0 (W_X8_copy A F (P_0 _ zj_8) (fun q0 e0 => P_1 _ zj_8 q0 (m0.1 ▸ e0)) eh_14)
      obtain ⟨j_15, ej_15, hf⟩ := ob_ex hf
      have zj_15 : h.2 a0 6 = some j_15 := mh_14.1 ▸ ej_15
      obtain ⟨k_16, hf⟩ := gq_ex hf
      obtain ⟨c_17, h_18, ec_17, hf⟩ := bq_ex hf
      have mh_18 := fm_tr mh_14 (W_X10_daysTillDebt A F (fun q0 e0 => P_2 _ zj_15 q0 (mh_14.1 ▸ e0)) (fun q0 e0 => P_4 _ zj_15 q0 (mh_14.1 ▸ e0)) (fun q0 e0 q1 e1 => P_5 _ zj_15 q0 (mh_14.1 ▸ e0) q1 (mh_14.1 ▸ e1)) ec_17)
      obtain ⟨j_19, ej_19, hf⟩ := ob_ex hf
      have zj_19 : h.2 a0 6 = some j_19 := mh_18.1 ▸ ej_19
      obtain ⟨k_20, hf⟩ := gq_ex hf
      obtain ⟨j_21, ej_21, hf⟩ := ob_ex hf
      have zj_21 : h.2 j_19 2 = some j_21 := mh_18.1 ▸ ej_21
      obtain ⟨j_22, ej_22, hf⟩ := ob_ex hf
      have zj_22 : h.2 a0 8 = some j_22 := mh_18.1 ▸ ej_22
      obtain ⟨k_23, hf⟩ := gq_ex hf
      obtain ⟨h_25, eh_25, hf⟩ := ob_ex hf
      have mh_25 := fm_tr mh_18 (W_X8_copy A F (P_2 _ zj_19 _ zj_21) (fun q0 e0 => P_3 _ zj_19 _ zj_21 q0 (mh_18.1 ▸ e0)) eh_25)
      cases hf
      exact mh_25
theorem W_X11_beyond (A : Nat → Prop) (F : Nat) {h : Hp} {a0 : Nat} {x1 : Int32} {x2 : Int32} {r : Int32} {h1 : Hp} (P_0 : ∀ q0, h.2 a0 8 = some q0 → A q0) (P_1 : ∀ q0, h.2 a0 8 = some q0 → ∀ q1, h.2 q0 2 = some q1 → A q1) (P_2 : ∀ q0, h.2 a0 6 = some q0 → ∀ q1, h.2 q0 2 = some q1 → A q1) (P_3 : ∀ q0, h.2 a0 6 = some q0 → ∀ q1, h.2 q0 2 = some q1 → ∀ q2, h.2 q1 2 = some q2 → A q2) (P_4 : ∀ q0, h.2 a0 6 = some q0 → ∀ q1, h.2 q0 3 = some q1 → A q1) (P_5 : ∀ q0, h.2 a0 6 = some q0 → ∀ q1, h.2 q0 4 = some q1 → ∀ q2, h.2 q1 6 = some q2 → A q2) (hf : X11_beyond F a0 x1 x2 h = some (r, h1)) : Fm A h h1 := W_X11_beyond_0 A F P_0 P_1 P_2 P_3 P_4 P_5 hf
theorem W_X11_even_55 (A : Nat → Prop) (F : Nat) : ∀ (f : Nat) {h : Hp} {a0 : Nat} {x1 : Int32} {x2 : Int32} {x3 : Int32} {x4 : Int32} {x5 : Int32} {r : Int32} {h1 : Hp}, X11_even_55 F f a0 x1 x2 x3 x4 x5 h = some (r, h1) → Fm A h h1 := by
  intro f
  induction f with
  | zero =>
    intro h a0 x1 x2 x3 x4 x5 r h1 hf
    exact nomatch (show (none : Option _) = some _ from hf)
  | succ f ih =>
    intro h a0 x1 x2 x3 x4 x5 r h1 hf
    rw [X11_even_55] at hf
    have m0 := fm_rf (A := A) (h := h)
    rcases ite_ex hf with ⟨q_1, hf⟩ | ⟨q_1, hf⟩
    · skip
      obtain ⟨k_2, hf⟩ := gq_ex hf
      obtain ⟨j_3, ej_3, hf⟩ := ob_ex hf
      have zj_3 : h.2 a0 6 = some j_3 := m0.1 ▸ ej_3
      obtain ⟨k_4, hf⟩ := gq_ex hf
      obtain ⟨c_5, ec_5, hf⟩ := ob_ex hf
      obtain ⟨c_7, ec_7, hf⟩ := ob_ex hf
      obtain ⟨x5_9, ex5_9, hf⟩ := bd_ex hf
      obtain ⟨j_10, ej_10, hf⟩ := ob_ex hf
      have zj_10 : h.2 a0 2 = some j_10 := m0.1 ▸ ej_10
      obtain ⟨c_11, ec_11, hf⟩ := ob_ex hf
      rcases ite_ex hf with ⟨q_13, hf⟩ | ⟨q_13, hf⟩
      · skip
        cases hf
        exact m0
      · skip
        cases hf
        exact m0
    · skip
      obtain ⟨k_14, hf⟩ := gq_ex hf
      obtain ⟨j_15, ej_15, hf⟩ := ob_ex hf
      have zj_15 : h.2 a0 2 = some j_15 := m0.1 ▸ ej_15
      obtain ⟨k_16, hf⟩ := gq_ex hf
      obtain ⟨c_17, ec_17, hf⟩ := ob_ex hf
      rcases ite_ex hf with ⟨q_19, hf⟩ | ⟨q_19, hf⟩
      · skip
        cases hf
        exact m0
      · skip
        obtain ⟨x5_20, ex5_20, hf⟩ := bd_ex hf
        exact fm_tr m0 (ih hf)
theorem W_X11_even_0 (A : Nat → Prop) (F : Nat) {h : Hp} {a0 : Nat} {x1 : Int32} {x2 : Int32} {r : Int32} {h1 : Hp} (P_0 : ∀ q0, h.2 a0 2 = some q0 → A q0) (P_1 : ∀ q0, h.2 a0 2 = some q0 → ∀ q1, h.2 q0 0 = some q1 → A q1) (P_2 : A a0) (hf : X11_even F a0 x1 x2 h = some (r, h1)) : Fm A h h1 := by
  unfold X11_even at hf
  have m0 := fm_rf (A := A) (h := h)
  obtain ⟨c_1, ec_1, hf⟩ := ob_ex hf
  rcases ite_ex hf with ⟨q_3, hf⟩ | ⟨q_3, hf⟩
  · skip
    cases hf
    exact m0
  · skip
    obtain ⟨k_4, hf⟩ := gq_ex hf
    obtain ⟨c_5, h_6, ec_5, hf⟩ := bq_ex hf
    have mh_6 := fm_tr m0 (W_X11_take A F (fun q0 e0 => P_0 q0 (m0.1 ▸ e0)) (fun q0 e0 q1 e1 => P_1 q0 (m0.1 ▸ e0) q1 (m0.1 ▸ e1)) P_2 ec_5)
    rcases ite_ex hf with ⟨q_7, hf⟩ | ⟨q_7, hf⟩
    · skip
      cases hf
      exact mh_6
    · skip
      obtain ⟨j_8, ej_8, hf⟩ := ob_ex hf
      have zj_8 : h.2 a0 6 = some j_8 := mh_6.1 ▸ ej_8
      obtain ⟨k_9, hf⟩ := gq_ex hf
      obtain ⟨c_10, ec_10, hf⟩ := ob_ex hf
      obtain ⟨c_12, ec_12, hf⟩ := ob_ex hf
      rcases ite_ex hf with ⟨q_14, hf⟩ | ⟨q_14, hf⟩
      · skip
        cases hf
        exact mh_6
      · skip
        rcases ite_ex hf with ⟨q_15, hf⟩ | ⟨q_15, hf⟩
        · skip
          cases hf
          exact mh_6
        · skip
          exact fm_tr mh_6 (W_X11_even_55 A F _ hf)
theorem W_X11_even (A : Nat → Prop) (F : Nat) {h : Hp} {a0 : Nat} {x1 : Int32} {x2 : Int32} {r : Int32} {h1 : Hp} (P_0 : ∀ q0, h.2 a0 2 = some q0 → A q0) (P_1 : ∀ q0, h.2 a0 2 = some q0 → ∀ q1, h.2 q0 0 = some q1 → A q1) (P_2 : A a0) (hf : X11_even F a0 x1 x2 h = some (r, h1)) : Fm A h h1 := W_X11_even_0 A F P_0 P_1 P_2 hf
theorem W_X11_inARow_0 (A : Nat → Prop) (F : Nat) {h : Hp} {a0 : Nat} {r : Int32} {h1 : Hp} (P_0 : ∀ q0, h.2 a0 10 = some q0 → ∀ q1, h.2 q0 0 = some q1 → A q1) (hf : X11_inARow F a0 h = some (r, h1)) : Fm A h h1 := by
  unfold X11_inARow at hf
  have m0 := fm_rf (A := A) (h := h)
  obtain ⟨k_1, hf⟩ := gq_ex hf
  obtain ⟨j_2, ej_2, hf⟩ := ob_ex hf
  have zj_2 : h.2 a0 10 = some j_2 := m0.1 ▸ ej_2
  obtain ⟨j_3, ej_3, hf⟩ := ob_ex hf
  have zj_3 : h.2 a0 6 = some j_3 := m0.1 ▸ ej_3
  obtain ⟨k_4, hf⟩ := gq_ex hf
  obtain ⟨c_5, h_6, ec_5, hf⟩ := bq_ex hf
  have mh_6 := fm_tr m0 (W_X7_ordersOfBuilding A F (fun q0 e0 => P_0 _ zj_2 q0 (m0.1 ▸ e0)) ec_5)
  cases hf
  exact mh_6
theorem W_X11_inARow (A : Nat → Prop) (F : Nat) {h : Hp} {a0 : Nat} {r : Int32} {h1 : Hp} (P_0 : ∀ q0, h.2 a0 10 = some q0 → ∀ q1, h.2 q0 0 = some q1 → A q1) (hf : X11_inARow F a0 h = some (r, h1)) : Fm A h h1 := W_X11_inARow_0 A F P_0 hf
theorem W_X11_piles_0 (A : Nat → Prop) (F : Nat) {h : Hp} {a0 : Nat} {x1 : Int32} {x2 : Int32} {x3 : Int32} {r : Int32} {h1 : Hp} (P_0 : ∀ q0, h.2 a0 2 = some q0 → A q0) (P_1 : ∀ q0, h.2 a0 2 = some q0 → ∀ q1, h.2 q0 0 = some q1 → A q1) (P_2 : A a0) (P_3 : ∀ q0, h.2 a0 10 = some q0 → ∀ q1, h.2 q0 1 = some q1 → A q1) (hf : X11_piles F a0 x1 x2 x3 h = some (r, h1)) : Fm A h h1 := by
  unfold X11_piles at hf
  have m0 := fm_rf (A := A) (h := h)
  obtain ⟨c_1, ec_1, hf⟩ := ob_ex hf
  rcases ite_ex hf with ⟨q_3, hf⟩ | ⟨q_3, hf⟩
  · skip
    cases hf
    exact m0
  · skip
    obtain ⟨c_4, ec_4, hf⟩ := ob_ex hf
    rcases ite_ex hf with ⟨q_6, hf⟩ | ⟨q_6, hf⟩
    · skip
      cases hf
      exact m0
    · skip
      obtain ⟨c_7, ec_7, hf⟩ := ob_ex hf
      rcases ite_ex hf with ⟨q_9, hf⟩ | ⟨q_9, hf⟩
      · skip
        cases hf
        exact m0
      · skip
        obtain ⟨k_10, hf⟩ := gq_ex hf
        obtain ⟨c_11, h_12, ec_11, hf⟩ := bq_ex hf
        have mh_12 := fm_tr m0 (W_X11_take A F (fun q0 e0 => P_0 q0 (m0.1 ▸ e0)) (fun q0 e0 q1 e1 => P_1 q0 (m0.1 ▸ e0) q1 (m0.1 ▸ e1)) P_2 ec_11)
        rcases ite_ex hf with ⟨q_13, hf⟩ | ⟨q_13, hf⟩
        · skip
          cases hf
          exact mh_12
        · skip
          obtain ⟨j_14, ej_14, hf⟩ := ob_ex hf
          have zj_14 : h.2 a0 10 = some j_14 := mh_12.1 ▸ ej_14
          obtain ⟨j_15, ej_15, hf⟩ := ob_ex hf
          have zj_15 : h.2 a0 2 = some j_15 := mh_12.1 ▸ ej_15
          obtain ⟨k_16, hf⟩ := gq_ex hf
          obtain ⟨c_17, h_18, ec_17, hf⟩ := bq_ex hf
          have mh_18 := fm_tr mh_12 (W_X7_lastPile A F (fun q0 e0 => P_3 _ zj_14 q0 (mh_12.1 ▸ e0)) ec_17)
          rcases ite_ex hf with ⟨q_19, hf⟩ | ⟨q_19, hf⟩
          · skip
            rcases ite_ex hf with ⟨q_20, hf⟩ | ⟨q_20, hf⟩
            · skip
              obtain ⟨j_21, ej_21, hf⟩ := ob_ex hf
              have zj_21 : h.2 a0 10 = some j_21 := mh_18.1 ▸ ej_21
              obtain ⟨k_22, hf⟩ := gq_ex hf
              obtain ⟨c_23, ec_23, hf⟩ := ob_ex hf
              cases hf
              exact mh_18
            · skip
              cases hf
              exact mh_18
          · skip
            cases hf
            exact mh_18
theorem W_X11_piles (A : Nat → Prop) (F : Nat) {h : Hp} {a0 : Nat} {x1 : Int32} {x2 : Int32} {x3 : Int32} {r : Int32} {h1 : Hp} (P_0 : ∀ q0, h.2 a0 2 = some q0 → A q0) (P_1 : ∀ q0, h.2 a0 2 = some q0 → ∀ q1, h.2 q0 0 = some q1 → A q1) (P_2 : A a0) (P_3 : ∀ q0, h.2 a0 10 = some q0 → ∀ q1, h.2 q0 1 = some q1 → A q1) (hf : X11_piles F a0 x1 x2 x3 h = some (r, h1)) : Fm A h h1 := W_X11_piles_0 A F P_0 P_1 P_2 P_3 hf
theorem W_X11_lamps_0 (A : Nat → Prop) (F : Nat) {h : Hp} {a0 : Nat} {x1 : Int32} {x2 : Int32} {x3 : Int32} {r : Int32} {h1 : Hp} (P_0 : ∀ q0, h.2 a0 2 = some q0 → A q0) (P_1 : ∀ q0, h.2 a0 2 = some q0 → ∀ q1, h.2 q0 0 = some q1 → A q1) (P_2 : A a0) (hf : X11_lamps F a0 x1 x2 x3 h = some (r, h1)) : Fm A h h1 := by
  unfold X11_lamps at hf
  have m0 := fm_rf (A := A) (h := h)
  obtain ⟨c_1, ec_1, hf⟩ := ob_ex hf
  rcases ite_ex hf with ⟨q_3, hf⟩ | ⟨q_3, hf⟩
  · skip
    cases hf
    exact m0
  · skip
    obtain ⟨c_4, ec_4, hf⟩ := ob_ex hf
    rcases ite_ex hf with ⟨q_6, hf⟩ | ⟨q_6, hf⟩
    · skip
      cases hf
      exact m0
    · skip
      obtain ⟨k_7, hf⟩ := gq_ex hf
      obtain ⟨c_8, h_9, ec_8, hf⟩ := bq_ex hf
      have mh_9 := fm_tr m0 (W_X11_take A F (fun q0 e0 => P_0 q0 (m0.1 ▸ e0)) (fun q0 e0 q1 e1 => P_1 q0 (m0.1 ▸ e0) q1 (m0.1 ▸ e1)) P_2 ec_8)
      rcases ite_ex hf with ⟨q_10, hf⟩ | ⟨q_10, hf⟩
      · skip
        cases hf
        exact mh_9
      · skip
        obtain ⟨j_11, ej_11, hf⟩ := ob_ex hf
        have zj_11 : h.2 a0 2 = some j_11 := mh_9.1 ▸ ej_11
        obtain ⟨c_12, ec_12, hf⟩ := ob_ex hf
        rcases ite_ex hf with ⟨q_14, hf⟩ | ⟨q_14, hf⟩
        · skip
          rcases ite_ex hf with ⟨q_15, hf⟩ | ⟨q_15, hf⟩
          · skip
            obtain ⟨c_16, ec_16, hf⟩ := ob_ex hf
            cases hf
            exact mh_9
          · skip
            cases hf
            exact mh_9
        · skip
          cases hf
          exact mh_9
theorem W_X11_lamps (A : Nat → Prop) (F : Nat) {h : Hp} {a0 : Nat} {x1 : Int32} {x2 : Int32} {x3 : Int32} {r : Int32} {h1 : Hp} (P_0 : ∀ q0, h.2 a0 2 = some q0 → A q0) (P_1 : ∀ q0, h.2 a0 2 = some q0 → ∀ q1, h.2 q0 0 = some q1 → A q1) (P_2 : A a0) (hf : X11_lamps F a0 x1 x2 x3 h = some (r, h1)) : Fm A h h1 := W_X11_lamps_0 A F P_0 P_1 P_2 hf
theorem W_X11_claims_35 (A : Nat → Prop) (F : Nat) : ∀ (f : Nat) {h : Hp} {a0 : Nat} {x1 : Int32} {x2 : Int32} {x3 : Int32} {r : Int32} {h1 : Hp}, X11_claims_35 F f a0 x1 x2 x3 h = some (r, h1) → Fm A h h1 := by
  intro f
  induction f with
  | zero =>
    intro h a0 x1 x2 x3 r h1 hf
    exact nomatch (show (none : Option _) = some _ from hf)
  | succ f ih =>
    intro h a0 x1 x2 x3 r h1 hf
    rw [X11_claims_35] at hf
    have m0 := fm_rf (A := A) (h := h)
    rcases ite_ex hf with ⟨q_1, hf⟩ | ⟨q_1, hf⟩
    · skip
      obtain ⟨k_2, hf⟩ := gq_ex hf
      obtain ⟨j_3, ej_3, hf⟩ := ob_ex hf
      have zj_3 : h.2 a0 2 = some j_3 := m0.1 ▸ ej_3
      obtain ⟨c_4, ec_4, hf⟩ := ob_ex hf
      cases hf
      exact m0
    · skip
      obtain ⟨k_6, hf⟩ := gq_ex hf
      obtain ⟨j_7, ej_7, hf⟩ := ob_ex hf
      have zj_7 : h.2 a0 2 = some j_7 := m0.1 ▸ ej_7
      obtain ⟨k_8, hf⟩ := gq_ex hf
      obtain ⟨c_9, ec_9, hf⟩ := ob_ex hf
      obtain ⟨c_11, ec_11, hf⟩ := ob_ex hf
      rcases ite_ex hf with ⟨q_13, hf⟩ | ⟨q_13, hf⟩
      · skip
        obtain ⟨x3_14, ex3_14, hf⟩ := bd_ex hf
        exact fm_tr m0 (ih hf)
      · skip
        cases hf
        exact m0
theorem W_X11_claims_0 (A : Nat → Prop) (F : Nat) {h : Hp} {a0 : Nat} {x1 : Int32} {x2 : Int32} {r : Int32} {h1 : Hp} (P_0 : ∀ q0, h.2 a0 2 = some q0 → A q0) (P_1 : ∀ q0, h.2 a0 2 = some q0 → ∀ q1, h.2 q0 0 = some q1 → A q1) (P_2 : A a0) (hf : X11_claims F a0 x1 x2 h = some (r, h1)) : Fm A h h1 := by
  unfold X11_claims at hf
  have m0 := fm_rf (A := A) (h := h)
  obtain ⟨c_1, ec_1, hf⟩ := ob_ex hf
  rcases ite_ex hf with ⟨q_3, hf⟩ | ⟨q_3, hf⟩
  · skip
    cases hf
    exact m0
  · skip
    obtain ⟨c_4, ec_4, hf⟩ := ob_ex hf
    rcases ite_ex hf with ⟨q_6, hf⟩ | ⟨q_6, hf⟩
    · skip
      cases hf
      exact m0
    · skip
      obtain ⟨k_7, hf⟩ := gq_ex hf
      obtain ⟨c_8, h_9, ec_8, hf⟩ := bq_ex hf
      have mh_9 := fm_tr m0 (W_X11_take A F (fun q0 e0 => P_0 q0 (m0.1 ▸ e0)) (fun q0 e0 q1 e1 => P_1 q0 (m0.1 ▸ e0) q1 (m0.1 ▸ e1)) P_2 ec_8)
      rcases ite_ex hf with ⟨q_10, hf⟩ | ⟨q_10, hf⟩
      · skip
        cases hf
        exact mh_9
      · skip
        exact fm_tr mh_9 (W_X11_claims_35 A F _ hf)
theorem W_X11_claims (A : Nat → Prop) (F : Nat) {h : Hp} {a0 : Nat} {x1 : Int32} {x2 : Int32} {r : Int32} {h1 : Hp} (P_0 : ∀ q0, h.2 a0 2 = some q0 → A q0) (P_1 : ∀ q0, h.2 a0 2 = some q0 → ∀ q1, h.2 q0 0 = some q1 → A q1) (P_2 : A a0) (hf : X11_claims F a0 x1 x2 h = some (r, h1)) : Fm A h h1 := W_X11_claims_0 A F P_0 P_1 P_2 hf
theorem W_X11_rowed_0 (A : Nat → Prop) (F : Nat) {h : Hp} {a0 : Nat} {x1 : Int32} {r : Int32} {h1 : Hp} (P_0 : ∀ q0, h.2 a0 2 = some q0 → A q0) (P_1 : ∀ q0, h.2 a0 2 = some q0 → ∀ q1, h.2 q0 0 = some q1 → A q1) (P_2 : A a0) (P_3 : ∀ q0, h.2 a0 10 = some q0 → ∀ q1, h.2 q0 2 = some q1 → A q1) (hf : X11_rowed F a0 x1 h = some (r, h1)) : Fm A h h1 := by
  unfold X11_rowed at hf
  have m0 := fm_rf (A := A) (h := h)
  obtain ⟨k_1, hf⟩ := gq_ex hf
  obtain ⟨c_2, h_3, ec_2, hf⟩ := bq_ex hf
  have mh_3 := fm_tr m0 (W_X11_take A F (fun q0 e0 => P_0 q0 (m0.1 ▸ e0)) (fun q0 e0 q1 e1 => P_1 q0 (m0.1 ▸ e0) q1 (m0.1 ▸ e1)) P_2 ec_2)
  rcases ite_ex hf with ⟨q_4, hf⟩ | ⟨q_4, hf⟩
  · skip
    cases hf
    exact mh_3
  · skip
    obtain ⟨j_5, ej_5, hf⟩ := ob_ex hf
    have zj_5 : h.2 a0 10 = some j_5 := mh_3.1 ▸ ej_5
    obtain ⟨j_6, ej_6, hf⟩ := ob_ex hf
    have zj_6 : h.2 a0 2 = some j_6 := mh_3.1 ▸ ej_6
    obtain ⟨k_7, hf⟩ := gq_ex hf
    obtain ⟨c_8, h_9, ec_8, hf⟩ := bq_ex hf
    have mh_9 := fm_tr mh_3 (W_X7_leastMinutes A F (fun q0 e0 => P_3 _ zj_5 q0 (mh_3.1 ▸ e0)) ec_8)
    cases hf
    exact mh_9
theorem W_X11_rowed (A : Nat → Prop) (F : Nat) {h : Hp} {a0 : Nat} {x1 : Int32} {r : Int32} {h1 : Hp} (P_0 : ∀ q0, h.2 a0 2 = some q0 → A q0) (P_1 : ∀ q0, h.2 a0 2 = some q0 → ∀ q1, h.2 q0 0 = some q1 → A q1) (P_2 : A a0) (P_3 : ∀ q0, h.2 a0 10 = some q0 → ∀ q1, h.2 q0 2 = some q1 → A q1) (hf : X11_rowed F a0 x1 h = some (r, h1)) : Fm A h h1 := W_X11_rowed_0 A F P_0 P_1 P_2 P_3 hf
theorem W_X11_wed_38 (A : Nat → Prop) (F : Nat) : ∀ (f : Nat) {h : Hp} {a0 : Nat} {x1 : Int32} {x2 : Int32} {x3 : Int32} {r : Int32} {h1 : Hp} (P_0 : ∀ q0, h.2 a0 10 = some q0 → ∀ q1, h.2 q0 3 = some q1 → A q1) (P_1 : ∀ q0, h.2 a0 10 = some q0 → ∀ q1, h.2 q0 4 = some q1 → A q1), X11_wed_38 F f a0 x1 x2 x3 h = some (r, h1) → Fm A h h1 := by
  intro f
  induction f with
  | zero =>
    intro h a0 x1 x2 x3 r h1 P_0 P_1 hf
    exact nomatch (show (none : Option _) = some _ from hf)
  | succ f ih =>
    intro h a0 x1 x2 x3 r h1 P_0 P_1 hf
    rw [X11_wed_38] at hf
    have m0 := fm_rf (A := A) (h := h)
    rcases ite_ex hf with ⟨q_1, hf⟩ | ⟨q_1, hf⟩
    · skip
      obtain ⟨k_2, hf⟩ := gq_ex hf
      obtain ⟨j_3, ej_3, hf⟩ := ob_ex hf
      have zj_3 : h.2 a0 10 = some j_3 := m0.1 ▸ ej_3
      obtain ⟨j_4, ej_4, hf⟩ := ob_ex hf
      have zj_4 : h.2 a0 2 = some j_4 := m0.1 ▸ ej_4
      obtain ⟨k_5, hf⟩ := gq_ex hf
      obtain ⟨c_6, h_7, ec_6, hf⟩ := bq_ex hf
      have mh_7 := fm_tr m0 (W_X7_weds A F (fun q0 e0 => P_0 _ zj_3 q0 (m0.1 ▸ e0)) (fun q0 e0 => P_1 _ zj_3 q0 (m0.1 ▸ e0)) ec_6)
      cases hf
      exact mh_7
    · skip
      obtain ⟨k_8, hf⟩ := gq_ex hf
      obtain ⟨j_9, ej_9, hf⟩ := ob_ex hf
      have zj_9 : h.2 a0 2 = some j_9 := m0.1 ▸ ej_9
      obtain ⟨k_10, hf⟩ := gq_ex hf
      obtain ⟨c_11, ec_11, hf⟩ := ob_ex hf
      rcases ite_ex hf with ⟨q_13, hf⟩ | ⟨q_13, hf⟩
      · skip
        cases hf
        exact m0
      · skip
        obtain ⟨x3_14, ex3_14, hf⟩ := bd_ex hf
        exact fm_tr m0 (ih (fun q0 e0 q1 e1 => P_0 q0 (m0.1 ▸ e0) q1 (m0.1 ▸ e1)) (fun q0 e0 q1 e1 => P_1 q0 (m0.1 ▸ e0) q1 (m0.1 ▸ e1)) hf)
theorem W_X11_wed_0 (A : Nat → Prop) (F : Nat) {h : Hp} {a0 : Nat} {x1 : Int32} {x2 : Int32} {r : Int32} {h1 : Hp} (P_0 : ∀ q0, h.2 a0 2 = some q0 → A q0) (P_1 : ∀ q0, h.2 a0 2 = some q0 → ∀ q1, h.2 q0 0 = some q1 → A q1) (P_2 : A a0) (P_3 : ∀ q0, h.2 a0 10 = some q0 → ∀ q1, h.2 q0 3 = some q1 → A q1) (P_4 : ∀ q0, h.2 a0 10 = some q0 → ∀ q1, h.2 q0 4 = some q1 → A q1) (hf : X11_wed F a0 x1 x2 h = some (r, h1)) : Fm A h h1 := by
  unfold X11_wed at hf
  have m0 := fm_rf (A := A) (h := h)
  obtain ⟨c_1, ec_1, hf⟩ := ob_ex hf
  rcases ite_ex hf with ⟨q_3, hf⟩ | ⟨q_3, hf⟩
  · skip
    cases hf
    exact m0
  · skip
    obtain ⟨c_4, ec_4, hf⟩ := ob_ex hf
    rcases ite_ex hf with ⟨q_6, hf⟩ | ⟨q_6, hf⟩
    · skip
      cases hf
      exact m0
    · skip
      obtain ⟨k_7, hf⟩ := gq_ex hf
      obtain ⟨c_8, h_9, ec_8, hf⟩ := bq_ex hf
      have mh_9 := fm_tr m0 (W_X11_take A F (fun q0 e0 => P_0 q0 (m0.1 ▸ e0)) (fun q0 e0 q1 e1 => P_1 q0 (m0.1 ▸ e0) q1 (m0.1 ▸ e1)) P_2 ec_8)
      rcases ite_ex hf with ⟨q_10, hf⟩ | ⟨q_10, hf⟩
      · skip
        cases hf
        exact mh_9
      · skip
        exact fm_tr mh_9 (W_X11_wed_38 A F _ (fun q0 e0 q1 e1 => P_3 q0 (mh_9.1 ▸ e0) q1 (mh_9.1 ▸ e1)) (fun q0 e0 q1 e1 => P_4 q0 (mh_9.1 ▸ e0) q1 (mh_9.1 ▸ e1)) hf)
theorem W_X11_wed (A : Nat → Prop) (F : Nat) {h : Hp} {a0 : Nat} {x1 : Int32} {x2 : Int32} {r : Int32} {h1 : Hp} (P_0 : ∀ q0, h.2 a0 2 = some q0 → A q0) (P_1 : ∀ q0, h.2 a0 2 = some q0 → ∀ q1, h.2 q0 0 = some q1 → A q1) (P_2 : A a0) (P_3 : ∀ q0, h.2 a0 10 = some q0 → ∀ q1, h.2 q0 3 = some q1 → A q1) (P_4 : ∀ q0, h.2 a0 10 = some q0 → ∀ q1, h.2 q0 4 = some q1 → A q1) (hf : X11_wed F a0 x1 x2 h = some (r, h1)) : Fm A h h1 := W_X11_wed_0 A F P_0 P_1 P_2 P_3 P_4 hf
theorem W_X11_changes_0 (A : Nat → Prop) (F : Nat) {h : Hp} {a0 : Nat} {x1 : Int32} {r : Int32} {h1 : Hp} (P_0 : ∀ q0, h.2 a0 2 = some q0 → A q0) (P_1 : ∀ q0, h.2 a0 2 = some q0 → ∀ q1, h.2 q0 0 = some q1 → A q1) (P_2 : A a0) (P_3 : ∀ q0, h.2 a0 9 = some q0 → ∀ q1, h.2 q0 0 = some q1 → A q1) (P_4 : ∀ q0, h.2 a0 9 = some q0 → ∀ q1, h.2 q0 1 = some q1 → A q1) (hf : X11_changes F a0 x1 h = some (r, h1)) : Fm A h h1 := by
  unfold X11_changes at hf
  have m0 := fm_rf (A := A) (h := h)
  obtain ⟨c_1, ec_1, hf⟩ := ob_ex hf
  rcases ite_ex hf with ⟨q_3, hf⟩ | ⟨q_3, hf⟩
  · skip
    cases hf
    exact m0
  · skip
    obtain ⟨k_4, hf⟩ := gq_ex hf
    obtain ⟨c_5, h_6, ec_5, hf⟩ := bq_ex hf
    have mh_6 := fm_tr m0 (W_X11_take A F (fun q0 e0 => P_0 q0 (m0.1 ▸ e0)) (fun q0 e0 q1 e1 => P_1 q0 (m0.1 ▸ e0) q1 (m0.1 ▸ e1)) P_2 ec_5)
    rcases ite_ex hf with ⟨q_7, hf⟩ | ⟨q_7, hf⟩
    · skip
      cases hf
      exact mh_6
    · skip
      obtain ⟨j_8, ej_8, hf⟩ := ob_ex hf
      have zj_8 : h.2 a0 2 = some j_8 := mh_6.1 ▸ ej_8
      obtain ⟨k_9, hf⟩ := gq_ex hf
      obtain ⟨c_10, ec_10, hf⟩ := ob_ex hf
      rcases ite_ex hf with ⟨q_12, hf⟩ | ⟨q_12, hf⟩
      · skip
        cases hf
        exact mh_6
      · skip
        obtain ⟨j_13, ej_13, hf⟩ := ob_ex hf
        have zj_13 : h.2 a0 9 = some j_13 := mh_6.1 ▸ ej_13
        obtain ⟨k_14, hf⟩ := gq_ex hf
        obtain ⟨c_15, h_16, ec_15, hf⟩ := bq_ex hf
        have mh_16 := fm_tr mh_6 (W_X0_fewestChanges A F (fun q0 e0 => P_3 _ zj_13 q0 (mh_6.1 ▸ e0)) (fun q0 e0 => P_4 _ zj_13 q0 (mh_6.1 ▸ e0)) ec_15)
        cases hf
        exact mh_16
theorem W_X11_changes (A : Nat → Prop) (F : Nat) {h : Hp} {a0 : Nat} {x1 : Int32} {r : Int32} {h1 : Hp} (P_0 : ∀ q0, h.2 a0 2 = some q0 → A q0) (P_1 : ∀ q0, h.2 a0 2 = some q0 → ∀ q1, h.2 q0 0 = some q1 → A q1) (P_2 : A a0) (P_3 : ∀ q0, h.2 a0 9 = some q0 → ∀ q1, h.2 q0 0 = some q1 → A q1) (P_4 : ∀ q0, h.2 a0 9 = some q0 → ∀ q1, h.2 q0 1 = some q1 → A q1) (hf : X11_changes F a0 x1 h = some (r, h1)) : Fm A h h1 := W_X11_changes_0 A F P_0 P_1 P_2 P_3 P_4 hf
theorem W_X11_seed_0 (A : Nat → Prop) (F : Nat) {h : Hp} {a0 : Nat} {x1 : Int32} {r : Int32} {h1 : Hp} (P_0 : ∀ q0, h.2 a0 6 = some q0 → ∀ q1, h.2 q0 2 = some q1 → A q1) (hf : X11_seed F a0 x1 h = some (r, h1)) : Fm A h h1 := by
  unfold X11_seed at hf
  have m0 := fm_rf (A := A) (h := h)
  obtain ⟨c_1, ec_1, hf⟩ := ob_ex hf
  rcases ite_ex hf with ⟨q_3, hf⟩ | ⟨q_3, hf⟩
  · skip
    cases hf
    exact m0
  · skip
    obtain ⟨k_4, hf⟩ := gq_ex hf
    obtain ⟨j_5, ej_5, hf⟩ := ob_ex hf
    have zj_5 : h.2 a0 6 = some j_5 := m0.1 ▸ ej_5
    obtain ⟨k_6, hf⟩ := gq_ex hf
    obtain ⟨j_7, ej_7, hf⟩ := ob_ex hf
    have zj_7 : h.2 j_5 2 = some j_7 := m0.1 ▸ ej_7
    obtain ⟨k_8, hf⟩ := gq_ex hf
    obtain ⟨h_9, eh_9, hf⟩ := bd_ex hf
    have mh_9 := fm_tr m0 (fm_up eh_9 (P_0 _ zj_5 _ zj_7))
    cases hf
    exact mh_9
theorem W_X11_seed (A : Nat → Prop) (F : Nat) {h : Hp} {a0 : Nat} {x1 : Int32} {r : Int32} {h1 : Hp} (P_0 : ∀ q0, h.2 a0 6 = some q0 → ∀ q1, h.2 q0 2 = some q1 → A q1) (hf : X11_seed F a0 x1 h = some (r, h1)) : Fm A h h1 := W_X11_seed_0 A F P_0 hf
theorem W_X11_keep_0 (A : Nat → Prop) (F : Nat) {h : Hp} {a0 : Nat} {r : Int32} {h1 : Hp} (P_0 : ∀ q0, h.2 a0 7 = some q0 → A q0) (P_1 : ∀ q0, h.2 a0 7 = some q0 → ∀ q1, h.2 q0 2 = some q1 → A q1) (P_2 : A a0) (hf : X11_keep F a0 h = some (r, h1)) : Fm A h h1 := by
  unfold X11_keep at hf
  have m0 := fm_rf (A := A) (h := h)
  obtain ⟨k_1, hf⟩ := gq_ex hf
  obtain ⟨j_2, ej_2, hf⟩ := ob_ex hf
  have zj_2 : h.2 a0 7 = some j_2 := m0.1 ▸ ej_2
  obtain ⟨j_3, ej_3, hf⟩ := ob_ex hf
  have zj_3 : h.2 a0 6 = some j_3 := m0.1 ▸ ej_3
  obtain ⟨k_4, hf⟩ := gq_ex hf
  obtain ⟨j_5, ej_5, hf⟩ := ob_ex hf
  have zj_5 : h.2 j_3 2 = some j_5 := m0.1 ▸ ej_5
  obtain ⟨k_6, hf⟩ := gq_ex hf
  obtain ⟨h_8, eh_8, hf⟩ := ob_ex hf
  have mh_8 := fm_tr m0 (W_X8_copy A F (P_0 _ zj_2) (fun q0 e0 => P_1 _ zj_2 q0 (m0.1 ▸ e0)) eh_8)
  obtain ⟨h_9, eh_9, hf⟩ := bd_ex hf
  have mh_9 := fm_tr mh_8 (fm_up eh_9 (P_2))
  obtain ⟨j_10, ej_10, hf⟩ := ob_ex hf
  have zj_10 : h.2 a0 6 = some j_10 := mh_9.1 ▸ ej_10
  obtain ⟨k_11, hf⟩ := gq_ex hf
  obtain ⟨j_12, ej_12, hf⟩ := ob_ex hf
  have zj_12 : h.2 j_10 2 = some j_12 := mh_9.1 ▸ ej_12
  obtain ⟨k_13, hf⟩ := gq_ex hf
  cases hf
  exact mh_9
theorem W_X11_keep (A : Nat → Prop) (F : Nat) {h : Hp} {a0 : Nat} {r : Int32} {h1 : Hp} (P_0 : ∀ q0, h.2 a0 7 = some q0 → A q0) (P_1 : ∀ q0, h.2 a0 7 = some q0 → ∀ q1, h.2 q0 2 = some q1 → A q1) (P_2 : A a0) (hf : X11_keep F a0 h = some (r, h1)) : Fm A h h1 := W_X11_keep_0 A F P_0 P_1 P_2 hf
theorem W_X11_undo_0 (A : Nat → Prop) (F : Nat) {h : Hp} {a0 : Nat} {r : Int32} {h1 : Hp} (P_0 : ∀ q0, h.2 a0 6 = some q0 → ∀ q1, h.2 q0 2 = some q1 → A q1) (P_1 : ∀ q0, h.2 a0 6 = some q0 → ∀ q1, h.2 q0 2 = some q1 → ∀ q2, h.2 q1 2 = some q2 → A q2) (hf : X11_undo F a0 h = some (r, h1)) : Fm A h h1 := by
  unfold X11_undo at hf
  have m0 := fm_rf (A := A) (h := h)
  obtain ⟨k_1, hf⟩ := gq_ex hf
  rcases ite_ex hf with ⟨q_2, hf⟩ | ⟨q_2, hf⟩
  · skip
    cases hf
    exact m0
  · skip
    obtain ⟨j_3, ej_3, hf⟩ := ob_ex hf
    have zj_3 : h.2 a0 6 = some j_3 := m0.1 ▸ ej_3
    obtain ⟨k_4, hf⟩ := gq_ex hf
    obtain ⟨j_5, ej_5, hf⟩ := ob_ex hf
    have zj_5 : h.2 j_3 2 = some j_5 := m0.1 ▸ ej_5
    obtain ⟨j_6, ej_6, hf⟩ := ob_ex hf
    have zj_6 : h.2 a0 7 = some j_6 := m0.1 ▸ ej_6
    obtain ⟨k_7, hf⟩ := gq_ex hf
    obtain ⟨h_9, eh_9, hf⟩ := ob_ex hf
    have mh_9 := fm_tr m0 (W_X8_copy A F (P_0 _ zj_3 _ zj_5) (fun q0 e0 => P_1 _ zj_3 _ zj_5 q0 (m0.1 ▸ e0)) eh_9)
    cases hf
    exact mh_9
theorem W_X11_undo (A : Nat → Prop) (F : Nat) {h : Hp} {a0 : Nat} {r : Int32} {h1 : Hp} (P_0 : ∀ q0, h.2 a0 6 = some q0 → ∀ q1, h.2 q0 2 = some q1 → A q1) (P_1 : ∀ q0, h.2 a0 6 = some q0 → ∀ q1, h.2 q0 2 = some q1 → ∀ q2, h.2 q1 2 = some q2 → A q2) (hf : X11_undo F a0 h = some (r, h1)) : Fm A h h1 := W_X11_undo_0 A F P_0 P_1 hf
theorem W_X11_check_14 (A : Nat → Prop) (F : Nat) : ∀ (f : Nat) {h : Hp} {a0 : Nat} {x1 : Int32} {r : Int32} {h1 : Hp}, X11_check_14 F f a0 x1 h = some (r, h1) → Fm A h h1 := by
  intro f
  induction f with
  | zero =>
    intro h a0 x1 r h1 hf
    exact nomatch (show (none : Option _) = some _ from hf)
  | succ f ih =>
    intro h a0 x1 r h1 hf
    rw [X11_check_14] at hf
    have m0 := fm_rf (A := A) (h := h)
    rcases ite_ex hf with ⟨q_1, hf⟩ | ⟨q_1, hf⟩
    · skip
      cases hf
      exact m0
    · skip
      obtain ⟨k_2, hf⟩ := gq_ex hf
      obtain ⟨j_3, ej_3, hf⟩ := ob_ex hf
      have zj_3 : h.2 a0 2 = some j_3 := m0.1 ▸ ej_3
      obtain ⟨k_4, hf⟩ := gq_ex hf
      obtain ⟨c_5, ec_5, hf⟩ := ob_ex hf
      obtain ⟨c_7, ec_7, hf⟩ := ob_ex hf
      rcases ite_ex hf with ⟨q_9, hf⟩ | ⟨q_9, hf⟩
      · skip
        obtain ⟨x1_10, ex1_10, hf⟩ := bd_ex hf
        exact fm_tr m0 (ih hf)
      · skip
        cases hf
        exact m0
theorem W_X11_check_0 (A : Nat → Prop) (F : Nat) {h : Hp} {a0 : Nat} {r : Int32} {h1 : Hp} (P_0 : ∀ q0, h.2 a0 2 = some q0 → A q0) (P_1 : ∀ q0, h.2 a0 2 = some q0 → ∀ q1, h.2 q0 0 = some q1 → A q1) (P_2 : A a0) (hf : X11_check F a0 h = some (r, h1)) : Fm A h h1 := by
  unfold X11_check at hf
  have m0 := fm_rf (A := A) (h := h)
  obtain ⟨k_1, hf⟩ := gq_ex hf
  obtain ⟨c_2, h_3, ec_2, hf⟩ := bq_ex hf
  have mh_3 := fm_tr m0 (W_X11_take A F (fun q0 e0 => P_0 q0 (m0.1 ▸ e0)) (fun q0 e0 q1 e1 => P_1 q0 (m0.1 ▸ e0) q1 (m0.1 ▸ e1)) P_2 ec_2)
  rcases ite_ex hf with ⟨q_4, hf⟩ | ⟨q_4, hf⟩
  · skip
    cases hf
    exact mh_3
  · skip
    exact fm_tr mh_3 (W_X11_check_14 A F _ hf)
theorem W_X11_check (A : Nat → Prop) (F : Nat) {h : Hp} {a0 : Nat} {r : Int32} {h1 : Hp} (P_0 : ∀ q0, h.2 a0 2 = some q0 → A q0) (P_1 : ∀ q0, h.2 a0 2 = some q0 → ∀ q1, h.2 q0 0 = some q1 → A q1) (P_2 : A a0) (hf : X11_check F a0 h = some (r, h1)) : Fm A h h1 := W_X11_check_0 A F P_0 P_1 P_2 hf
theorem W_X12_copies_2 (A : Nat → Prop) (F : Nat) : ∀ (f : Nat) {h : Hp} {a0 : Nat} {a1 : Nat} {x2 : Int32} {h1 : Hp} (P_0 : A a1), X12_copies_2 F f a0 a1 x2 h = some h1 → Fm A h h1 := by
  intro f
  induction f with
  | zero =>
    intro h a0 a1 x2 h1 P_0 hf
    exact nomatch (show (none : Option _) = some _ from hf)
  | succ f ih =>
    intro h a0 a1 x2 h1 P_0 hf
    rw [X12_copies_2] at hf
    have m0 := fm_rf (A := A) (h := h)
    rcases ite_ex hf with ⟨q_1, hf⟩ | ⟨q_1, hf⟩
    · skip
      cases hf
      exact m0
    · skip
      obtain ⟨k_2, hf⟩ := gq_ex hf
      obtain ⟨b_3, hf⟩ := gq_ex hf
      obtain ⟨k_4, hf⟩ := gq_ex hf
      obtain ⟨b_5, hf⟩ := gq_ex hf
      obtain ⟨h_6, eh_6, hf⟩ := bd_ex hf
      have mh_6 := fm_tr m0 (fm_up eh_6 (P_0))
      obtain ⟨x2_7, ex2_7, hf⟩ := bd_ex hf
      exact fm_tr mh_6 (ih P_0 hf)
theorem W_X12_copies_0 (A : Nat → Prop) (F : Nat) {h : Hp} {a0 : Nat} {a1 : Nat} {h1 : Hp} (P_0 : A a1) (hf : X12_copies F a0 a1 h = some h1) : Fm A h h1 := by
  unfold X12_copies at hf
  have m0 := fm_rf (A := A) (h := h)
  exact fm_tr m0 (W_X12_copies_2 A F _ P_0 hf)
theorem W_X12_copies (A : Nat → Prop) (F : Nat) {h : Hp} {a0 : Nat} {a1 : Nat} {h1 : Hp} (P_0 : A a1) (hf : X12_copies F a0 a1 h = some h1) : Fm A h h1 := W_X12_copies_0 A F P_0 hf
theorem W_X12_tilt_0 (A : Nat → Prop) (F : Nat) {h : Hp} {a0 : Nat} {x1 : Int32} {r : Int32} {h1 : Hp} (P_0 : A a0) (hf : X12_tilt F a0 x1 h = some (r, h1)) : Fm A h h1 := by
  unfold X12_tilt at hf
  have m0 := fm_rf (A := A) (h := h)
  obtain ⟨c_1, ec_1, hf⟩ := ob_ex hf
  rcases ite_ex hf with ⟨q_3, hf⟩ | ⟨q_3, hf⟩
  · skip
    cases hf
    exact m0
  · skip
    obtain ⟨k_4, hf⟩ := gq_ex hf
    obtain ⟨h_5, eh_5, hf⟩ := bd_ex hf
    have mh_5 := fm_tr m0 (fm_up eh_5 (P_0))
    cases hf
    exact mh_5
theorem W_X12_tilt (A : Nat → Prop) (F : Nat) {h : Hp} {a0 : Nat} {x1 : Int32} {r : Int32} {h1 : Hp} (P_0 : A a0) (hf : X12_tilt F a0 x1 h = some (r, h1)) : Fm A h h1 := W_X12_tilt_0 A F P_0 hf
theorem W_X12_types_2 (A : Nat → Prop) (F : Nat) : ∀ (f : Nat) {h : Hp} {a0 : Nat} {x1 : Int32} {x2 : Int32} {h1 : Hp} (P_0 : ∀ q0, h.2 a0 6 = some q0 → A q0) (P_1 : A a0), X12_types_2 F f a0 x1 x2 h = some h1 → Fm A h h1 := by
  intro f
  induction f with
  | zero =>
    intro h a0 x1 x2 h1 P_0 P_1 hf
    exact nomatch (show (none : Option _) = some _ from hf)
  | succ f ih =>
    intro h a0 x1 x2 h1 P_0 P_1 hf
    rw [X12_types_2] at hf
    have m0 := fm_rf (A := A) (h := h)
    rcases ite_ex hf with ⟨q_1, hf⟩ | ⟨q_1, hf⟩
    · skip
      cases hf
      exact m0
    · skip
      obtain ⟨k_2, hf⟩ := gq_ex hf
      obtain ⟨j_3, ej_3, hf⟩ := ob_ex hf
      have zj_3 : h.2 a0 6 = some j_3 := m0.1 ▸ ej_3
      obtain ⟨k_4, hf⟩ := gq_ex hf
      obtain ⟨b_5, hf⟩ := gq_ex hf
      obtain ⟨h_6, eh_6, hf⟩ := bd_ex hf
      have mh_6 := fm_tr m0 (fm_up eh_6 (P_0 _ zj_3))
      obtain ⟨h_7, eh_7, hf⟩ := bd_ex hf
      have mh_7 := fm_tr mh_6 (fm_up eh_7 (P_1))
      obtain ⟨x2_8, ex2_8, hf⟩ := bd_ex hf
      exact fm_tr mh_7 (ih (fun q0 e0 => P_0 q0 (mh_7.1 ▸ e0)) P_1 hf)
theorem W_X12_types_0 (A : Nat → Prop) (F : Nat) {h : Hp} {a0 : Nat} {x1 : Int32} {h1 : Hp} (P_0 : ∀ q0, h.2 a0 6 = some q0 → A q0) (P_1 : A a0) (hf : X12_types F a0 x1 h = some h1) : Fm A h h1 := by
  unfold X12_types at hf
  have m0 := fm_rf (A := A) (h := h)
  exact fm_tr m0 (W_X12_types_2 A F _ (fun q0 e0 => P_0 q0 (m0.1 ▸ e0)) P_1 hf)
theorem W_X12_types (A : Nat → Prop) (F : Nat) {h : Hp} {a0 : Nat} {x1 : Int32} {h1 : Hp} (P_0 : ∀ q0, h.2 a0 6 = some q0 → A q0) (P_1 : A a0) (hf : X12_types F a0 x1 h = some h1) : Fm A h h1 := W_X12_types_0 A F P_0 P_1 hf
theorem W_X12_feed_0 (A : Nat → Prop) (F : Nat) {h : Hp} {a0 : Nat} {x1 : Int32} {x2 : Int32} {x3 : Int32} {x4 : Int32} {x5 : Int32} {r : Int32} {h1 : Hp} (P_0 : ∀ q0, h.2 a0 6 = some q0 → A q0) (P_1 : A a0) (hf : X12_feed F a0 x1 x2 x3 x4 x5 h = some (r, h1)) : Fm A h h1 := by
  unfold X12_feed at hf
  have m0 := fm_rf (A := A) (h := h)
  obtain ⟨k_1, hf⟩ := gq_ex hf
  rcases ite_ex hf with ⟨q_2, hf⟩ | ⟨q_2, hf⟩
  · skip
    obtain ⟨h_4, eh_4, hf⟩ := ob_ex hf
    have mh_4 := fm_tr m0 (W_X12_types A F (fun q0 e0 => P_0 q0 (m0.1 ▸ e0)) P_1 eh_4)
    obtain ⟨h_6, eh_6, hf⟩ := ob_ex hf
    have mh_6 := fm_tr mh_4 (W_X12_types A F (fun q0 e0 => P_0 q0 (mh_4.1 ▸ e0)) P_1 eh_6)
    obtain ⟨h_8, eh_8, hf⟩ := ob_ex hf
    have mh_8 := fm_tr mh_6 (W_X12_types A F (fun q0 e0 => P_0 q0 (mh_6.1 ▸ e0)) P_1 eh_8)
    obtain ⟨h_10, eh_10, hf⟩ := ob_ex hf
    have mh_10 := fm_tr mh_8 (W_X12_types A F (fun q0 e0 => P_0 q0 (mh_8.1 ▸ e0)) P_1 eh_10)
    obtain ⟨h_12, eh_12, hf⟩ := ob_ex hf
    have mh_12 := fm_tr mh_10 (W_X12_types A F (fun q0 e0 => P_0 q0 (mh_10.1 ▸ e0)) P_1 eh_12)
    cases hf
    exact mh_12
  · skip
    cases hf
    exact m0
theorem W_X12_feed (A : Nat → Prop) (F : Nat) {h : Hp} {a0 : Nat} {x1 : Int32} {x2 : Int32} {x3 : Int32} {x4 : Int32} {x5 : Int32} {r : Int32} {h1 : Hp} (P_0 : ∀ q0, h.2 a0 6 = some q0 → A q0) (P_1 : A a0) (hf : X12_feed F a0 x1 x2 x3 x4 x5 h = some (r, h1)) : Fm A h h1 := W_X12_feed_0 A F P_0 P_1 hf
theorem W_X12_wrongAt_0 (A : Nat → Prop) (F : Nat) {h : Hp} {a0 : Nat} {x1 : Int32} {x2 : Int32} {r : Int32} {h1 : Hp} (P_0 : A a0) (hf : X12_wrongAt F a0 x1 x2 h = some (r, h1)) : Fm A h h1 := by
  unfold X12_wrongAt at hf
  have m0 := fm_rf (A := A) (h := h)
  obtain ⟨k_1, hf⟩ := gq_ex hf
  obtain ⟨h_2, eh_2, hf⟩ := bd_ex hf
  have mh_2 := fm_tr m0 (fm_up eh_2 (P_0))
  cases hf
  exact mh_2
theorem W_X12_wrongAt (A : Nat → Prop) (F : Nat) {h : Hp} {a0 : Nat} {x1 : Int32} {x2 : Int32} {r : Int32} {h1 : Hp} (P_0 : A a0) (hf : X12_wrongAt F a0 x1 x2 h = some (r, h1)) : Fm A h h1 := W_X12_wrongAt_0 A F P_0 hf
theorem W_X12_takes_0 (A : Nat → Prop) (F : Nat) {h : Hp} {a0 : Nat} {x1 : Int32} {r : Int32} {h1 : Hp} (P_0 : A a0) (hf : X12_takes F a0 x1 h = some (r, h1)) : Fm A h h1 := by
  unfold X12_takes at hf
  have m0 := fm_rf (A := A) (h := h)
  obtain ⟨k_1, hf⟩ := gq_ex hf
  obtain ⟨c_2, ec_2, hf⟩ := ob_ex hf
  rcases ite_ex hf with ⟨q_4, hf⟩ | ⟨q_4, hf⟩
  · skip
    obtain ⟨h_5, eh_5, hf⟩ := bd_ex hf
    have mh_5 := fm_tr m0 (fm_up eh_5 (P_0))
    cases hf
    exact mh_5
  · skip
    obtain ⟨c_6, h_7, ec_6, hf⟩ := bq_ex hf
    have mh_7 := fm_tr m0 (W_X12_wrongAt A F P_0 ec_6)
    obtain ⟨n_8, hf⟩ := gq_ex hf
    cases hf
    exact mh_7
theorem W_X12_takes (A : Nat → Prop) (F : Nat) {h : Hp} {a0 : Nat} {x1 : Int32} {r : Int32} {h1 : Hp} (P_0 : A a0) (hf : X12_takes F a0 x1 h = some (r, h1)) : Fm A h h1 := W_X12_takes_0 A F P_0 hf
theorem W_X12_readsNumber_10 (A : Nat → Prop) (F : Nat) : ∀ (f : Nat) {h : Hp} {a0 : Nat} {x1 : Int32} {r : Int32} {h1 : Hp} (P_0 : A a0), X12_readsNumber_10 F f a0 x1 h = some (r, h1) → Fm A h h1 := by
  intro f
  induction f with
  | zero =>
    intro h a0 x1 r h1 P_0 hf
    exact nomatch (show (none : Option _) = some _ from hf)
  | succ f ih =>
    intro h a0 x1 r h1 P_0 hf
    rw [X12_readsNumber_10] at hf
    have m0 := fm_rf (A := A) (h := h)
    obtain ⟨k_1, hf⟩ := gq_ex hf
    obtain ⟨c_2, ec_2, hf⟩ := ob_ex hf
    rcases ite_ex hf with ⟨q_4, hf⟩ | ⟨q_4, hf⟩
    · skip
      cases hf
      exact m0
    · skip
      rcases ite_ex hf with ⟨q_5, hf⟩ | ⟨q_5, hf⟩
      · skip
        obtain ⟨c_10, h_11, ec_10, hf⟩ := bq_ex hf
        have mh_11 := fm_tr m0 (W_X12_wrongAt A F P_0 ec_10)
        obtain ⟨n_12, hf⟩ := gq_ex hf
        cases hf
        exact mh_11
      · skip
        obtain ⟨c_6, ec_6, hf⟩ := ob_ex hf
        obtain ⟨h_8, eh_8, hf⟩ := bd_ex hf
        have mh_8 := fm_tr m0 (fm_up eh_8 (P_0))
        obtain ⟨h_9, eh_9, hf⟩ := bd_ex hf
        have mh_9 := fm_tr mh_8 (fm_up eh_9 (P_0))
        exact fm_tr mh_9 (ih P_0 hf)
theorem W_X12_readsNumber_0 (A : Nat → Prop) (F : Nat) {h : Hp} {a0 : Nat} {r : Int32} {h1 : Hp} (P_0 : A a0) (hf : X12_readsNumber F a0 h = some (r, h1)) : Fm A h h1 := by
  unfold X12_readsNumber at hf
  have m0 := fm_rf (A := A) (h := h)
  obtain ⟨k_1, hf⟩ := gq_ex hf
  obtain ⟨x1_2, ex1_2, hf⟩ := bd_ex hf
  obtain ⟨h_3, eh_3, hf⟩ := bd_ex hf
  have mh_3 := fm_tr m0 (fm_up eh_3 (P_0))
  exact fm_tr mh_3 (W_X12_readsNumber_10 A F _ P_0 hf)
theorem W_X12_readsNumber (A : Nat → Prop) (F : Nat) {h : Hp} {a0 : Nat} {r : Int32} {h1 : Hp} (P_0 : A a0) (hf : X12_readsNumber F a0 h = some (r, h1)) : Fm A h h1 := W_X12_readsNumber_0 A F P_0 hf
theorem W_X12_notes_0 (A : Nat → Prop) (F : Nat) {h : Hp} {a0 : Nat} {x1 : Int32} {x2 : Int32} {h1 : Hp} (P_0 : ∀ q0, h.2 a0 17 = some q0 → A q0) (P_1 : A a0) (hf : X12_notes F a0 x1 x2 h = some h1) : Fm A h h1 := by
  unfold X12_notes at hf
  have m0 := fm_rf (A := A) (h := h)
  obtain ⟨k_1, hf⟩ := gq_ex hf
  obtain ⟨j_2, ej_2, hf⟩ := ob_ex hf
  have zj_2 : h.2 a0 17 = some j_2 := m0.1 ▸ ej_2
  obtain ⟨k_3, hf⟩ := gq_ex hf
  obtain ⟨b_4, hf⟩ := gq_ex hf
  obtain ⟨h_5, eh_5, hf⟩ := bd_ex hf
  have mh_5 := fm_tr m0 (fm_up eh_5 (P_0 _ zj_2))
  obtain ⟨h_6, eh_6, hf⟩ := bd_ex hf
  have mh_6 := fm_tr mh_5 (fm_up eh_6 (P_1))
  cases hf
  exact mh_6
theorem W_X12_notes (A : Nat → Prop) (F : Nat) {h : Hp} {a0 : Nat} {x1 : Int32} {x2 : Int32} {h1 : Hp} (P_0 : ∀ q0, h.2 a0 17 = some q0 → A q0) (P_1 : A a0) (hf : X12_notes F a0 x1 x2 h = some h1) : Fm A h h1 := W_X12_notes_0 A F P_0 P_1 hf
theorem W_X12_opens_0 (A : Nat → Prop) (F : Nat) {h : Hp} {a0 : Nat} {x1 : Int32} {r : Int32} {h1 : Hp} (P_0 : A a0) (P_1 : ∀ q0, h.2 a0 18 = some q0 → A q0) (hf : X12_opens F a0 x1 h = some (r, h1)) : Fm A h h1 := by
  unfold X12_opens at hf
  have m0 := fm_rf (A := A) (h := h)
  obtain ⟨k_1, hf⟩ := gq_ex hf
  rcases ite_ex hf with ⟨q_2, hf⟩ | ⟨q_2, hf⟩
  · skip
    obtain ⟨c_10, h_11, ec_10, hf⟩ := bq_ex hf
    have mh_11 := fm_tr m0 (W_X12_wrongAt A F P_0 ec_10)
    obtain ⟨n_12, hf⟩ := gq_ex hf
    cases hf
    exact mh_11
  · skip
    obtain ⟨h_3, eh_3, hf⟩ := bd_ex hf
    have mh_3 := fm_tr m0 (fm_up eh_3 (P_0))
    obtain ⟨j_4, ej_4, hf⟩ := ob_ex hf
    have zj_4 : h.2 a0 18 = some j_4 := mh_3.1 ▸ ej_4
    obtain ⟨k_5, hf⟩ := gq_ex hf
    obtain ⟨b_6, hf⟩ := gq_ex hf
    obtain ⟨h_7, eh_7, hf⟩ := bd_ex hf
    have mh_7 := fm_tr mh_3 (fm_up eh_7 (P_1 _ zj_4))
    obtain ⟨h_8, eh_8, hf⟩ := bd_ex hf
    have mh_8 := fm_tr mh_7 (fm_up eh_8 (P_0))
    obtain ⟨h_9, eh_9, hf⟩ := bd_ex hf
    have mh_9 := fm_tr mh_8 (fm_up eh_9 (P_0))
    cases hf
    exact mh_9
theorem W_X12_opens (A : Nat → Prop) (F : Nat) {h : Hp} {a0 : Nat} {x1 : Int32} {r : Int32} {h1 : Hp} (P_0 : A a0) (P_1 : ∀ q0, h.2 a0 18 = some q0 → A q0) (hf : X12_opens F a0 x1 h = some (r, h1)) : Fm A h h1 := W_X12_opens_0 A F P_0 P_1 hf
theorem W_X12_closesSums_37 (A : Nat → Prop) (F : Nat) {k0 : Nat → Int32 → Hp → Option Hp} (hk0 : ∀ {h : Hp} {a0 : Nat} {x1 : Int32} {h1 : Hp} (_ : ∀ q0, h.2 a0 17 = some q0 → A q0) (_ : A a0), k0 a0 x1 h = some h1 → Fm A h h1) {h : Hp} {a0 : Nat} {x1 : Int32} {h1 : Hp} (P_0 : ∀ q0, h.2 a0 17 = some q0 → A q0) (P_1 : A a0) (hf : X12_closesSums_37 F k0 a0 x1 h = some h1) : Fm A h h1 := by
  unfold X12_closesSums_37 at hf
  have m0 := fm_rf (A := A) (h := h)
  obtain ⟨k_1, hf⟩ := gq_ex hf
  obtain ⟨c_2, ec_2, hf⟩ := ob_ex hf
  obtain ⟨h_5, eh_5, hf⟩ := ob_ex hf
  have mh_5 := fm_tr m0 (W_X12_notes A F (fun q0 e0 => P_0 q0 (m0.1 ▸ e0)) P_1 eh_5)
  obtain ⟨h_6, eh_6, hf⟩ := bd_ex hf
  have mh_6 := fm_tr mh_5 (fm_up eh_6 (P_1))
  exact fm_tr mh_6 (hk0 (fun q0 e0 => P_0 q0 (mh_6.1 ▸ e0)) P_1 hf)
theorem W_X12_closesSums_17 (A : Nat → Prop) (F : Nat) {k0 : Nat → Int32 → Hp → Option Hp} (hk0 : ∀ {h : Hp} {a0 : Nat} {x1 : Int32} {h1 : Hp} (_ : ∀ q0, h.2 a0 17 = some q0 → A q0) (_ : A a0), k0 a0 x1 h = some h1 → Fm A h h1) {h : Hp} {a0 : Nat} {x1 : Int32} {h1 : Hp} (P_0 : ∀ q0, h.2 a0 17 = some q0 → A q0) (P_1 : A a0) (hf : X12_closesSums_17 F k0 a0 x1 h = some h1) : Fm A h h1 := by
  unfold X12_closesSums_17 at hf
  have m0 := fm_rf (A := A) (h := h)
  rcases ite_ex hf with ⟨q_1, hf⟩ | ⟨q_1, hf⟩
  · skip
    cases hf
    exact m0
  · skip
    obtain ⟨k_2, hf⟩ := gq_ex hf
    obtain ⟨c_3, ec_3, hf⟩ := ob_ex hf
    rcases ite_ex hf with ⟨q_5, hf⟩ | ⟨q_5, hf⟩
    · skip
      exact fm_tr m0 (W_X12_closesSums_37 A F hk0 (fun q0 e0 => P_0 q0 (m0.1 ▸ e0)) P_1 hf)
    · skip
      obtain ⟨c_6, ec_6, hf⟩ := ob_ex hf
      rcases ite_ex hf with ⟨q_8, hf⟩ | ⟨q_8, hf⟩
      · skip
        exact fm_tr m0 (W_X12_closesSums_37 A F hk0 (fun q0 e0 => P_0 q0 (m0.1 ▸ e0)) P_1 hf)
      · skip
        cases hf
        exact m0
theorem W_X12_closesSums_0 (A : Nat → Prop) (F : Nat) : ∀ (f : Nat) {h : Hp} {a0 : Nat} {x1 : Int32} {h1 : Hp} (P_0 : ∀ q0, h.2 a0 17 = some q0 → A q0) (P_1 : A a0), X12_closesSums_0 F f a0 x1 h = some h1 → Fm A h h1 := by
  intro f
  induction f with
  | zero =>
    intro h a0 x1 h1 P_0 P_1 hf
    exact nomatch (show (none : Option _) = some _ from hf)
  | succ f ih =>
    intro h a0 x1 h1 P_0 P_1 hf
    rw [X12_closesSums_0] at hf
    have m0 := fm_rf (A := A) (h := h)
    obtain ⟨k_1, hf⟩ := gq_ex hf
    obtain ⟨c_2, ec_2, hf⟩ := ob_ex hf
    rcases ite_ex hf with ⟨q_4, hf⟩ | ⟨q_4, hf⟩
    · skip
      exact fm_tr m0 (W_X12_closesSums_17 A F (fun p0 p1 q => ih p0 p1 q) (fun q0 e0 => P_0 q0 (m0.1 ▸ e0)) P_1 hf)
    · skip
      obtain ⟨c_5, ec_5, hf⟩ := ob_ex hf
      rcases ite_ex hf with ⟨q_7, hf⟩ | ⟨q_7, hf⟩
      · skip
        exact fm_tr m0 (W_X12_closesSums_37 A F (fun p0 p1 q => ih p0 p1 q) (fun q0 e0 => P_0 q0 (m0.1 ▸ e0)) P_1 hf)
      · skip
        exact fm_tr m0 (W_X12_closesSums_17 A F (fun p0 p1 q => ih p0 p1 q) (fun q0 e0 => P_0 q0 (m0.1 ▸ e0)) P_1 hf)
theorem W_X12_closesSums (A : Nat → Prop) (F : Nat) {h : Hp} {a0 : Nat} {x1 : Int32} {h1 : Hp} (P_0 : ∀ q0, h.2 a0 17 = some q0 → A q0) (P_1 : A a0) (hf : X12_closesSums F a0 x1 h = some h1) : Fm A h h1 := W_X12_closesSums_0 A F _ P_0 P_1 hf
theorem W_X12_readsFactor_0 (A : Nat → Prop) (F : Nat) : ∀ (f : Nat) {h : Hp} {a0 : Nat} {r : Int32} {h1 : Hp} (P_0 : A a0) (P_1 : ∀ q0, h.2 a0 18 = some q0 → A q0) (P_2 : ∀ q0, h.2 a0 17 = some q0 → A q0), X12_readsFactor_0 F f a0 h = some (r, h1) → Fm A h h1 := by
  intro f
  induction f with
  | zero =>
    intro h a0 r h1 P_0 P_1 P_2 hf
    exact nomatch (show (none : Option _) = some _ from hf)
  | succ f ih =>
    intro h a0 r h1 P_0 P_1 P_2 hf
    rw [X12_readsFactor_0] at hf
    have m0 := fm_rf (A := A) (h := h)
    obtain ⟨k_1, hf⟩ := gq_ex hf
    obtain ⟨c_2, ec_2, hf⟩ := ob_ex hf
    rcases ite_ex hf with ⟨q_4, hf⟩ | ⟨q_4, hf⟩
    · skip
      obtain ⟨c_24, h_25, ec_24, hf⟩ := bq_ex hf
      have mh_25 := fm_tr m0 (W_X12_opens A F P_0 (fun q0 e0 => P_1 q0 (m0.1 ▸ e0)) ec_24)
      rcases ite_ex hf with ⟨q_26, hf⟩ | ⟨q_26, hf⟩
      · skip
        cases hf
        exact mh_25
      · skip
        exact fm_tr mh_25 (ih P_0 (fun q0 e0 => P_1 q0 (mh_25.1 ▸ e0)) (fun q0 e0 => P_2 q0 (mh_25.1 ▸ e0)) hf)
    · skip
      obtain ⟨c_5, ec_5, hf⟩ := ob_ex hf
      rcases ite_ex hf with ⟨q_7, hf⟩ | ⟨q_7, hf⟩
      · skip
        obtain ⟨c_8, ec_8, hf⟩ := ob_ex hf
        obtain ⟨c_10, ec_10, hf⟩ := ob_ex hf
        rcases ite_ex hf with ⟨q_12, hf⟩ | ⟨q_12, hf⟩
        · skip
          obtain ⟨c_16, h_17, ec_16, hf⟩ := bq_ex hf
          have mh_17 := fm_tr m0 (W_X12_wrongAt A F P_0 ec_16)
          obtain ⟨n_18, hf⟩ := gq_ex hf
          cases hf
          exact mh_17
        · skip
          obtain ⟨h_14, eh_14, hf⟩ := ob_ex hf
          have mh_14 := fm_tr m0 (W_X12_notes A F (fun q0 e0 => P_2 q0 (m0.1 ▸ e0)) P_0 eh_14)
          obtain ⟨h_15, eh_15, hf⟩ := bd_ex hf
          have mh_15 := fm_tr mh_14 (fm_up eh_15 (P_0))
          cases hf
          exact mh_15
      · skip
        obtain ⟨c_19, h_20, ec_19, hf⟩ := bq_ex hf
        have mh_20 := fm_tr m0 (W_X12_readsNumber A F P_0 ec_19)
        rcases ite_ex hf with ⟨q_21, hf⟩ | ⟨q_21, hf⟩
        · skip
          cases hf
          exact mh_20
        · skip
          obtain ⟨h_23, eh_23, hf⟩ := ob_ex hf
          have mh_23 := fm_tr mh_20 (W_X12_notes A F (fun q0 e0 => P_2 q0 (mh_20.1 ▸ e0)) P_0 eh_23)
          cases hf
          exact mh_23
theorem W_X12_readsFactor (A : Nat → Prop) (F : Nat) {h : Hp} {a0 : Nat} {r : Int32} {h1 : Hp} (P_0 : A a0) (P_1 : ∀ q0, h.2 a0 18 = some q0 → A q0) (P_2 : ∀ q0, h.2 a0 17 = some q0 → A q0) (hf : X12_readsFactor F a0 h = some (r, h1)) : Fm A h h1 := W_X12_readsFactor_0 A F _ P_0 P_1 P_2 hf
theorem W_X12_readsSum_163 (A : Nat → Prop) (F : Nat) {k14 : Nat → Int32 → Hp → Option (Int32 × Hp)} (hk14 : ∀ {h : Hp} {a0 : Nat} {x1 : Int32} {r : Int32} {h1 : Hp} (_ : A a0) (_ : ∀ q0, h.2 a0 17 = some q0 → A q0) (_ : ∀ q0, h.2 a0 18 = some q0 → A q0), k14 a0 x1 h = some (r, h1) → Fm A h h1) {h : Hp} {a0 : Nat} {x1 : Int32} {r : Int32} {h1 : Hp} (P_0 : A a0) (P_1 : ∀ q0, h.2 a0 17 = some q0 → A q0) (P_2 : ∀ q0, h.2 a0 18 = some q0 → A q0) (hf : X12_readsSum_163 F k14 a0 x1 h = some (r, h1)) : Fm A h h1 := by
  unfold X12_readsSum_163 at hf
  have m0 := fm_rf (A := A) (h := h)
  exact fm_tr m0 (hk14 P_0 (fun q0 e0 => P_1 q0 (m0.1 ▸ e0)) (fun q0 e0 => P_2 q0 (m0.1 ▸ e0)) hf)
theorem W_X12_readsSum_138 (A : Nat → Prop) (F : Nat) {h : Hp} {a0 : Nat} {x1 : Int32} {r : Int32} {h1 : Hp} (P_0 : A a0) (P_1 : ∀ q0, h.2 a0 17 = some q0 → A q0) (hf : X12_readsSum_138 F a0 x1 h = some (r, h1)) : Fm A h h1 := by
  unfold X12_readsSum_138 at hf
  have m0 := fm_rf (A := A) (h := h)
  obtain ⟨k_1, hf⟩ := gq_ex hf
  obtain ⟨c_2, ec_2, hf⟩ := ob_ex hf
  rcases ite_ex hf with ⟨q_4, hf⟩ | ⟨q_4, hf⟩
  · skip
    obtain ⟨h_6, eh_6, hf⟩ := ob_ex hf
    have mh_6 := fm_tr m0 (W_X12_closesSums A F (fun q0 e0 => P_1 q0 (m0.1 ▸ e0)) P_0 eh_6)
    cases hf
    exact mh_6
  · skip
    obtain ⟨c_7, h_8, ec_7, hf⟩ := bq_ex hf
    have mh_8 := fm_tr m0 (W_X12_wrongAt A F P_0 ec_7)
    obtain ⟨n_9, hf⟩ := gq_ex hf
    cases hf
    exact mh_8
theorem W_X12_readsSum_38 (A : Nat → Prop) (F : Nat) {k14 : Nat → Int32 → Hp → Option (Int32 × Hp)} (hk14 : ∀ {h : Hp} {a0 : Nat} {x1 : Int32} {r : Int32} {h1 : Hp} (_ : A a0) (_ : ∀ q0, h.2 a0 17 = some q0 → A q0) (_ : ∀ q0, h.2 a0 18 = some q0 → A q0), k14 a0 x1 h = some (r, h1) → Fm A h h1) {h : Hp} {a0 : Nat} {x1 : Int32} {x2 : Int32} {r0 : Nat} {s1 : Int32} {r : Int32} {h1 : Hp} (P_0 : ∀ q0, h.2 a0 18 = some q0 → A q0) (P_1 : A a0) (P_2 : ∀ q0, h.2 a0 17 = some q0 → A q0) (P_3 : ∀ q0, h.2 r0 17 = some q0 → A q0) (P_4 : A r0) (hf : X12_readsSum_38 F k14 a0 x1 x2 r0 s1 h = some (r, h1)) : Fm A h h1 := by
  unfold X12_readsSum_38 at hf
  have m0 := fm_rf (A := A) (h := h)
  obtain ⟨k_1, hf⟩ := gq_ex hf
  obtain ⟨h_3, eh_3, hf⟩ := ob_ex hf
  have mh_3 := fm_tr m0 (W_X12_closesSums A F (fun q0 e0 => P_3 q0 (m0.1 ▸ e0)) P_4 eh_3)
  obtain ⟨k_4, hf⟩ := gq_ex hf
  obtain ⟨j_5, ej_5, hf⟩ := ob_ex hf
  have zj_5 : h.2 a0 18 = some j_5 := mh_3.1 ▸ ej_5
  obtain ⟨k_6, hf⟩ := gq_ex hf
  obtain ⟨b_7, hf⟩ := gq_ex hf
  obtain ⟨h_8, eh_8, hf⟩ := bd_ex hf
  have mh_8 := fm_tr mh_3 (fm_up eh_8 (P_0 _ zj_5))
  obtain ⟨h_9, eh_9, hf⟩ := bd_ex hf
  have mh_9 := fm_tr mh_8 (fm_up eh_9 (P_1))
  obtain ⟨h_10, eh_10, hf⟩ := bd_ex hf
  have mh_10 := fm_tr mh_9 (fm_up eh_10 (P_1))
  obtain ⟨c_11, h_12, ec_11, hf⟩ := bq_ex hf
  have mh_12 := fm_tr mh_10 (W_X12_readsFactor A F P_1 (fun q0 e0 => P_0 q0 (mh_10.1 ▸ e0)) (fun q0 e0 => P_2 q0 (mh_10.1 ▸ e0)) ec_11)
  rcases ite_ex hf with ⟨q_13, hf⟩ | ⟨q_13, hf⟩
  · skip
    cases hf
    exact mh_12
  · skip
    exact fm_tr mh_12 (W_X12_readsSum_163 A F hk14 P_1 (fun q0 e0 => P_2 q0 (mh_12.1 ▸ e0)) (fun q0 e0 => P_0 q0 (mh_12.1 ▸ e0)) hf)
theorem W_X12_readsSum_14 (A : Nat → Prop) (F : Nat) : ∀ (f : Nat) {h : Hp} {a0 : Nat} {x1 : Int32} {r : Int32} {h1 : Hp} (P_0 : A a0) (P_1 : ∀ q0, h.2 a0 17 = some q0 → A q0) (P_2 : ∀ q0, h.2 a0 18 = some q0 → A q0), X12_readsSum_14 F f a0 x1 h = some (r, h1) → Fm A h h1 := by
  intro f
  induction f with
  | zero =>
    intro h a0 x1 r h1 P_0 P_1 P_2 hf
    exact nomatch (show (none : Option _) = some _ from hf)
  | succ f ih =>
    intro h a0 x1 r h1 P_0 P_1 P_2 hf
    rw [X12_readsSum_14] at hf
    have m0 := fm_rf (A := A) (h := h)
    obtain ⟨k_1, hf⟩ := gq_ex hf
    obtain ⟨c_2, ec_2, hf⟩ := ob_ex hf
    obtain ⟨c_4, ec_4, hf⟩ := ob_ex hf
    rcases ite_ex hf with ⟨q_6, hf⟩ | ⟨q_6, hf⟩
    · skip
      obtain ⟨c_7, ec_7, hf⟩ := ob_ex hf
      rcases ite_ex hf with ⟨q_9, hf⟩ | ⟨q_9, hf⟩
      · skip
        obtain ⟨c_10, ec_10, hf⟩ := ob_ex hf
        rcases ite_ex hf with ⟨q_12, hf⟩ | ⟨q_12, hf⟩
        · skip
          exact fm_tr m0 (W_X12_readsSum_138 A F P_0 (fun q0 e0 => P_1 q0 (m0.1 ▸ e0)) hf)
        · skip
          obtain ⟨h_14, eh_14, hf⟩ := ob_ex hf
          have mh_14 := fm_tr m0 (W_X12_closesSums A F (fun q0 e0 => P_1 q0 (m0.1 ▸ e0)) P_0 eh_14)
          obtain ⟨h_15, eh_15, hf⟩ := bd_ex hf
          have mh_15 := fm_tr mh_14 (fm_up eh_15 (P_0))
          obtain ⟨h_16, eh_16, hf⟩ := bd_ex hf
          have mh_16 := fm_tr mh_15 (fm_up eh_16 (P_0))
          obtain ⟨h_17, eh_17, hf⟩ := bd_ex hf
          have mh_17 := fm_tr mh_16 (fm_up eh_17 (P_0))
          exact fm_tr mh_17 (W_X12_readsSum_163 A F (fun p0 p1 p2 q => ih p0 p1 p2 q) P_0 (fun q0 e0 => P_1 q0 (mh_17.1 ▸ e0)) (fun q0 e0 => P_2 q0 (mh_17.1 ▸ e0)) hf)
      · skip
        exact fm_tr m0 (W_X12_readsSum_138 A F P_0 (fun q0 e0 => P_1 q0 (m0.1 ▸ e0)) hf)
    · skip
      rcases ite_ex hf with ⟨q_18, hf⟩ | ⟨q_18, hf⟩
      · skip
        exact fm_tr m0 (W_X12_readsSum_38 A F (fun p0 p1 p2 q => ih p0 p1 p2 q) (fun q0 e0 => P_2 q0 (m0.1 ▸ e0)) P_0 (fun q0 e0 => P_1 q0 (m0.1 ▸ e0)) (fun q0 e0 => P_1 q0 (m0.1 ▸ e0)) P_0 hf)
      · skip
        exact fm_tr m0 (W_X12_readsSum_38 A F (fun p0 p1 p2 q => ih p0 p1 p2 q) (fun q0 e0 => P_2 q0 (m0.1 ▸ e0)) P_0 (fun q0 e0 => P_1 q0 (m0.1 ▸ e0)) (fun q0 e0 => P_1 q0 (m0.1 ▸ e0)) P_0 hf)
theorem W_X12_readsSum_0 (A : Nat → Prop) (F : Nat) {h : Hp} {a0 : Nat} {r : Int32} {h1 : Hp} (P_0 : A a0) (P_1 : ∀ q0, h.2 a0 18 = some q0 → A q0) (P_2 : ∀ q0, h.2 a0 17 = some q0 → A q0) (hf : X12_readsSum F a0 h = some (r, h1)) : Fm A h h1 := by
  unfold X12_readsSum at hf
  have m0 := fm_rf (A := A) (h := h)
  obtain ⟨k_1, hf⟩ := gq_ex hf
  obtain ⟨x1_2, ex1_2, hf⟩ := bd_ex hf
  obtain ⟨c_3, h_4, ec_3, hf⟩ := bq_ex hf
  have mh_4 := fm_tr m0 (W_X12_readsFactor A F P_0 (fun q0 e0 => P_1 q0 (m0.1 ▸ e0)) (fun q0 e0 => P_2 q0 (m0.1 ▸ e0)) ec_3)
  rcases ite_ex hf with ⟨q_5, hf⟩ | ⟨q_5, hf⟩
  · skip
    cases hf
    exact mh_4
  · skip
    exact fm_tr mh_4 (W_X12_readsSum_14 A F _ P_0 (fun q0 e0 => P_2 q0 (mh_4.1 ▸ e0)) (fun q0 e0 => P_1 q0 (mh_4.1 ▸ e0)) hf)
theorem W_X12_readsSum (A : Nat → Prop) (F : Nat) {h : Hp} {a0 : Nat} {r : Int32} {h1 : Hp} (P_0 : A a0) (P_1 : ∀ q0, h.2 a0 18 = some q0 → A q0) (P_2 : ∀ q0, h.2 a0 17 = some q0 → A q0) (hf : X12_readsSum F a0 h = some (r, h1)) : Fm A h h1 := W_X12_readsSum_0 A F P_0 P_1 P_2 hf
theorem W_X12_endsPiece_0 (A : Nat → Prop) (F : Nat) : ∀ (f : Nat) {h : Hp} {a0 : Nat} {h1 : Hp} (P_0 : ∀ q0, h.2 a0 17 = some q0 → A q0) (P_1 : A a0), X12_endsPiece_0 F f a0 h = some h1 → Fm A h h1 := by
  intro f
  induction f with
  | zero =>
    intro h a0 h1 P_0 P_1 hf
    exact nomatch (show (none : Option _) = some _ from hf)
  | succ f ih =>
    intro h a0 h1 P_0 P_1 hf
    rw [X12_endsPiece_0] at hf
    have m0 := fm_rf (A := A) (h := h)
    obtain ⟨k_1, hf⟩ := gq_ex hf
    obtain ⟨c_2, ec_2, hf⟩ := ob_ex hf
    rcases ite_ex hf with ⟨q_4, hf⟩ | ⟨q_4, hf⟩
    · skip
      obtain ⟨h_6, eh_6, hf⟩ := ob_ex hf
      have mh_6 := fm_tr m0 (W_X12_notes A F (fun q0 e0 => P_0 q0 (m0.1 ▸ e0)) P_1 eh_6)
      obtain ⟨h_7, eh_7, hf⟩ := bd_ex hf
      have mh_7 := fm_tr mh_6 (fm_up eh_7 (P_1))
      obtain ⟨h_8, eh_8, hf⟩ := bd_ex hf
      have mh_8 := fm_tr mh_7 (fm_up eh_8 (P_1))
      exact fm_tr mh_8 (ih (fun q0 e0 => P_0 q0 (mh_8.1 ▸ e0)) P_1 hf)
    · skip
      cases hf
      exact m0
theorem W_X12_endsPiece (A : Nat → Prop) (F : Nat) {h : Hp} {a0 : Nat} {h1 : Hp} (P_0 : ∀ q0, h.2 a0 17 = some q0 → A q0) (P_1 : A a0) (hf : X12_endsPiece F a0 h = some h1) : Fm A h h1 := W_X12_endsPiece_0 A F _ P_0 P_1 hf
theorem W_X12_lands_22 (A : Nat → Prop) (F : Nat) {k0 : Nat → Int32 → Hp → Option Hp} (hk0 : ∀ {h : Hp} {a0 : Nat} {x1 : Int32} {h1 : Hp} (_ : ∀ q0, h.2 a0 17 = some q0 → A q0) (_ : A a0), k0 a0 x1 h = some h1 → Fm A h h1) {h : Hp} {a0 : Nat} {x1 : Int32} {h1 : Hp} (P_0 : ∀ q0, h.2 a0 17 = some q0 → A q0) (P_1 : A a0) (hf : X12_lands_22 F k0 a0 x1 h = some h1) : Fm A h h1 := by
  unfold X12_lands_22 at hf
  have m0 := fm_rf (A := A) (h := h)
  obtain ⟨k_1, hf⟩ := gq_ex hf
  obtain ⟨j_2, ej_2, hf⟩ := ob_ex hf
  have zj_2 : h.2 a0 18 = some j_2 := m0.1 ▸ ej_2
  obtain ⟨k_3, hf⟩ := gq_ex hf
  obtain ⟨b_4, hf⟩ := gq_ex hf
  obtain ⟨x2_5, ex2_5, hf⟩ := bd_ex hf
  obtain ⟨j_6, ej_6, hf⟩ := ob_ex hf
  have zj_6 : h.2 a0 17 = some j_6 := m0.1 ▸ ej_6
  obtain ⟨k_7, hf⟩ := gq_ex hf
  obtain ⟨b_8, hf⟩ := gq_ex hf
  obtain ⟨b_9, hf⟩ := gq_ex hf
  obtain ⟨h_10, eh_10, hf⟩ := bd_ex hf
  have mh_10 := fm_tr m0 (fm_up eh_10 (P_0 _ zj_6))
  obtain ⟨h_11, eh_11, hf⟩ := bd_ex hf
  have mh_11 := fm_tr mh_10 (fm_up eh_11 (P_1))
  exact fm_tr mh_11 (hk0 (fun q0 e0 => P_0 q0 (mh_11.1 ▸ e0)) P_1 hf)
theorem W_X12_lands_0 (A : Nat → Prop) (F : Nat) : ∀ (f : Nat) {h : Hp} {a0 : Nat} {x1 : Int32} {h1 : Hp} (P_0 : ∀ q0, h.2 a0 17 = some q0 → A q0) (P_1 : A a0), X12_lands_0 F f a0 x1 h = some h1 → Fm A h h1 := by
  intro f
  induction f with
  | zero =>
    intro h a0 x1 h1 P_0 P_1 hf
    exact nomatch (show (none : Option _) = some _ from hf)
  | succ f ih =>
    intro h a0 x1 h1 P_0 P_1 hf
    rw [X12_lands_0] at hf
    have m0 := fm_rf (A := A) (h := h)
    obtain ⟨k_1, hf⟩ := gq_ex hf
    obtain ⟨c_2, ec_2, hf⟩ := ob_ex hf
    rcases ite_ex hf with ⟨q_4, hf⟩ | ⟨q_4, hf⟩
    · skip
      exact fm_tr m0 (W_X12_lands_22 A F (fun p0 p1 q => ih p0 p1 q) (fun q0 e0 => P_0 q0 (m0.1 ▸ e0)) P_1 hf)
    · skip
      rcases ite_ex hf with ⟨q_5, hf⟩ | ⟨q_5, hf⟩
      · skip
        cases hf
        exact m0
      · skip
        obtain ⟨c_6, ec_6, hf⟩ := ob_ex hf
        rcases ite_ex hf with ⟨q_8, hf⟩ | ⟨q_8, hf⟩
        · skip
          exact fm_tr m0 (W_X12_lands_22 A F (fun p0 p1 q => ih p0 p1 q) (fun q0 e0 => P_0 q0 (m0.1 ▸ e0)) P_1 hf)
        · skip
          cases hf
          exact m0
theorem W_X12_lands (A : Nat → Prop) (F : Nat) {h : Hp} {a0 : Nat} {x1 : Int32} {h1 : Hp} (P_0 : ∀ q0, h.2 a0 17 = some q0 → A q0) (P_1 : A a0) (hf : X12_lands F a0 x1 h = some h1) : Fm A h h1 := W_X12_lands_0 A F _ P_0 P_1 hf
theorem W_X12_jumps_0 (A : Nat → Prop) (F : Nat) {h : Hp} {a0 : Nat} {x1 : Int32} {h1 : Hp} (P_0 : ∀ q0, h.2 a0 18 = some q0 → A q0) (P_1 : A a0) (P_2 : ∀ q0, h.2 a0 17 = some q0 → A q0) (hf : X12_jumps F a0 x1 h = some h1) : Fm A h h1 := by
  unfold X12_jumps at hf
  have m0 := fm_rf (A := A) (h := h)
  obtain ⟨k_1, hf⟩ := gq_ex hf
  obtain ⟨j_2, ej_2, hf⟩ := ob_ex hf
  have zj_2 : h.2 a0 18 = some j_2 := m0.1 ▸ ej_2
  obtain ⟨k_3, hf⟩ := gq_ex hf
  obtain ⟨b_4, hf⟩ := gq_ex hf
  obtain ⟨h_5, eh_5, hf⟩ := bd_ex hf
  have mh_5 := fm_tr m0 (fm_up eh_5 (P_0 _ zj_2))
  obtain ⟨h_6, eh_6, hf⟩ := bd_ex hf
  have mh_6 := fm_tr mh_5 (fm_up eh_6 (P_1))
  obtain ⟨h_8, eh_8, hf⟩ := ob_ex hf
  have mh_8 := fm_tr mh_6 (W_X12_notes A F (fun q0 e0 => P_2 q0 (mh_6.1 ▸ e0)) P_1 eh_8)
  obtain ⟨h_9, eh_9, hf⟩ := bd_ex hf
  have mh_9 := fm_tr mh_8 (fm_up eh_9 (P_1))
  cases hf
  exact mh_9
theorem W_X12_jumps (A : Nat → Prop) (F : Nat) {h : Hp} {a0 : Nat} {x1 : Int32} {h1 : Hp} (P_0 : ∀ q0, h.2 a0 18 = some q0 → A q0) (P_1 : A a0) (P_2 : ∀ q0, h.2 a0 17 = some q0 → A q0) (hf : X12_jumps F a0 x1 h = some h1) : Fm A h h1 := W_X12_jumps_0 A F P_0 P_1 P_2 hf
theorem W_X12_readsCompared_52 (A : Nat → Prop) (F : Nat) {h : Hp} {a0 : Nat} {s0 : Int32} {r : Int32} {h1 : Hp} (P_0 : A a0) (P_1 : ∀ q0, h.2 a0 18 = some q0 → A q0) (P_2 : ∀ q0, h.2 a0 17 = some q0 → A q0) (hf : X12_readsCompared_52 F a0 s0 h = some (r, h1)) : Fm A h h1 := by
  unfold X12_readsCompared_52 at hf
  have m0 := fm_rf (A := A) (h := h)
  rcases ite_ex hf with ⟨q_1, hf⟩ | ⟨q_1, hf⟩
  · skip
    obtain ⟨k_11, hf⟩ := gq_ex hf
    obtain ⟨c_12, h_13, ec_12, hf⟩ := bq_ex hf
    have mh_13 := fm_tr m0 (W_X12_wrongAt A F P_0 ec_12)
    obtain ⟨n_14, hf⟩ := gq_ex hf
    cases hf
    exact mh_13
  · skip
    obtain ⟨k_2, hf⟩ := gq_ex hf
    obtain ⟨h_3, eh_3, hf⟩ := bd_ex hf
    have mh_3 := fm_tr m0 (fm_up eh_3 (P_0))
    obtain ⟨c_4, h_5, ec_4, hf⟩ := bq_ex hf
    have mh_5 := fm_tr mh_3 (W_X12_readsSum A F P_0 (fun q0 e0 => P_1 q0 (mh_3.1 ▸ e0)) (fun q0 e0 => P_2 q0 (mh_3.1 ▸ e0)) ec_4)
    rcases ite_ex hf with ⟨q_6, hf⟩ | ⟨q_6, hf⟩
    · skip
      cases hf
      exact mh_5
    · skip
      obtain ⟨h_8, eh_8, hf⟩ := ob_ex hf
      have mh_8 := fm_tr mh_5 (W_X12_notes A F (fun q0 e0 => P_2 q0 (mh_5.1 ▸ e0)) P_0 eh_8)
      obtain ⟨h_10, eh_10, hf⟩ := ob_ex hf
      have mh_10 := fm_tr mh_8 (W_X12_endsPiece A F (fun q0 e0 => P_2 q0 (mh_8.1 ▸ e0)) P_0 eh_10)
      cases hf
      exact mh_10
theorem W_X12_readsCompared_0 (A : Nat → Prop) (F : Nat) {h : Hp} {a0 : Nat} {r : Int32} {h1 : Hp} (P_0 : A a0) (P_1 : ∀ q0, h.2 a0 18 = some q0 → A q0) (P_2 : ∀ q0, h.2 a0 17 = some q0 → A q0) (hf : X12_readsCompared F a0 h = some (r, h1)) : Fm A h h1 := by
  unfold X12_readsCompared at hf
  have m0 := fm_rf (A := A) (h := h)
  obtain ⟨k_1, hf⟩ := gq_ex hf
  obtain ⟨c_2, h_3, ec_2, hf⟩ := bq_ex hf
  have mh_3 := fm_tr m0 (W_X12_readsSum A F P_0 (fun q0 e0 => P_1 q0 (m0.1 ▸ e0)) (fun q0 e0 => P_2 q0 (m0.1 ▸ e0)) ec_2)
  rcases ite_ex hf with ⟨q_4, hf⟩ | ⟨q_4, hf⟩
  · skip
    cases hf
    exact mh_3
  · skip
    obtain ⟨c_5, ec_5, hf⟩ := ob_ex hf
    rcases ite_ex hf with ⟨q_7, hf⟩ | ⟨q_7, hf⟩
    · skip
      exact fm_tr mh_3 (W_X12_readsCompared_52 A F P_0 (fun q0 e0 => P_1 q0 (mh_3.1 ▸ e0)) (fun q0 e0 => P_2 q0 (mh_3.1 ▸ e0)) hf)
    · skip
      obtain ⟨c_8, ec_8, hf⟩ := ob_ex hf
      rcases ite_ex hf with ⟨q_10, hf⟩ | ⟨q_10, hf⟩
      · skip
        exact fm_tr mh_3 (W_X12_readsCompared_52 A F P_0 (fun q0 e0 => P_1 q0 (mh_3.1 ▸ e0)) (fun q0 e0 => P_2 q0 (mh_3.1 ▸ e0)) hf)
      · skip
        obtain ⟨c_11, ec_11, hf⟩ := ob_ex hf
        rcases ite_ex hf with ⟨q_13, hf⟩ | ⟨q_13, hf⟩
        · skip
          exact fm_tr mh_3 (W_X12_readsCompared_52 A F P_0 (fun q0 e0 => P_1 q0 (mh_3.1 ▸ e0)) (fun q0 e0 => P_2 q0 (mh_3.1 ▸ e0)) hf)
        · skip
          exact fm_tr mh_3 (W_X12_readsCompared_52 A F P_0 (fun q0 e0 => P_1 q0 (mh_3.1 ▸ e0)) (fun q0 e0 => P_2 q0 (mh_3.1 ▸ e0)) hf)
theorem W_X12_readsCompared (A : Nat → Prop) (F : Nat) {h : Hp} {a0 : Nat} {r : Int32} {h1 : Hp} (P_0 : A a0) (P_1 : ∀ q0, h.2 a0 18 = some q0 → A q0) (P_2 : ∀ q0, h.2 a0 17 = some q0 → A q0) (hf : X12_readsCompared F a0 h = some (r, h1)) : Fm A h h1 := W_X12_readsCompared_0 A F P_0 P_1 P_2 hf
theorem W_X12_readsCondition_215 (A : Nat → Prop) (F : Nat) {k40 : Nat → Hp → Option (Int32 × Hp)} (hk40 : ∀ {h : Hp} {a0 : Nat} {r : Int32} {h1 : Hp} (_ : A a0) (_ : ∀ q0, h.2 a0 18 = some q0 → A q0) (_ : ∀ q0, h.2 a0 17 = some q0 → A q0), k40 a0 h = some (r, h1) → Fm A h h1) {h : Hp} {a0 : Nat} {r0 : Nat} {s1 : Int32} {r : Int32} {h1 : Hp} (P_0 : ∀ q0, h.2 r0 18 = some q0 → A q0) (P_1 : A r0) (P_2 : ∀ q0, h.2 r0 17 = some q0 → A q0) (P_3 : A a0) (P_4 : ∀ q0, h.2 a0 18 = some q0 → A q0) (P_5 : ∀ q0, h.2 a0 17 = some q0 → A q0) (hf : X12_readsCondition_215 F k40 a0 r0 s1 h = some (r, h1)) : Fm A h h1 := by
  unfold X12_readsCondition_215 at hf
  have m0 := fm_rf (A := A) (h := h)
  obtain ⟨k_1, hf⟩ := gq_ex hf
  obtain ⟨h_3, eh_3, hf⟩ := ob_ex hf
  have mh_3 := fm_tr m0 (W_X12_jumps A F (fun q0 e0 => P_0 q0 (m0.1 ▸ e0)) P_1 (fun q0 e0 => P_2 q0 (m0.1 ▸ e0)) eh_3)
  exact fm_tr mh_3 (hk40 P_3 (fun q0 e0 => P_4 q0 (mh_3.1 ▸ e0)) (fun q0 e0 => P_5 q0 (mh_3.1 ▸ e0)) hf)
theorem W_X12_readsCondition_195 (A : Nat → Prop) (F : Nat) {k40 : Nat → Hp → Option (Int32 × Hp)} (hk40 : ∀ {h : Hp} {a0 : Nat} {r : Int32} {h1 : Hp} (_ : A a0) (_ : ∀ q0, h.2 a0 18 = some q0 → A q0) (_ : ∀ q0, h.2 a0 17 = some q0 → A q0), k40 a0 h = some (r, h1) → Fm A h h1) {h : Hp} {a0 : Nat} {r0 : Nat} {s1 : Int32} {r : Int32} {h1 : Hp} (P_0 : ∀ q0, h.2 r0 17 = some q0 → A q0) (P_1 : A r0) (P_2 : ∀ q0, h.2 a0 18 = some q0 → A q0) (P_3 : A a0) (P_4 : ∀ q0, h.2 a0 17 = some q0 → A q0) (hf : X12_readsCondition_195 F k40 a0 r0 s1 h = some (r, h1)) : Fm A h h1 := by
  unfold X12_readsCondition_195 at hf
  have m0 := fm_rf (A := A) (h := h)
  obtain ⟨k_1, hf⟩ := gq_ex hf
  obtain ⟨h_3, eh_3, hf⟩ := ob_ex hf
  have mh_3 := fm_tr m0 (W_X12_lands A F (fun q0 e0 => P_0 q0 (m0.1 ▸ e0)) P_1 eh_3)
  obtain ⟨k_4, hf⟩ := gq_ex hf
  obtain ⟨c_5, ec_5, hf⟩ := ob_ex hf
  rcases ite_ex hf with ⟨q_7, hf⟩ | ⟨q_7, hf⟩
  · skip
    exact fm_tr mh_3 (W_X12_readsCondition_215 A F hk40 (fun q0 e0 => P_2 q0 (mh_3.1 ▸ e0)) P_3 (fun q0 e0 => P_4 q0 (mh_3.1 ▸ e0)) P_3 (fun q0 e0 => P_2 q0 (mh_3.1 ▸ e0)) (fun q0 e0 => P_4 q0 (mh_3.1 ▸ e0)) hf)
  · skip
    exact fm_tr mh_3 (W_X12_readsCondition_215 A F hk40 (fun q0 e0 => P_2 q0 (mh_3.1 ▸ e0)) P_3 (fun q0 e0 => P_4 q0 (mh_3.1 ▸ e0)) P_3 (fun q0 e0 => P_2 q0 (mh_3.1 ▸ e0)) (fun q0 e0 => P_4 q0 (mh_3.1 ▸ e0)) hf)
theorem W_X12_readsCondition_180 (A : Nat → Prop) (F : Nat) {k40 : Nat → Hp → Option (Int32 × Hp)} (hk40 : ∀ {h : Hp} {a0 : Nat} {r : Int32} {h1 : Hp} (_ : A a0) (_ : ∀ q0, h.2 a0 18 = some q0 → A q0) (_ : ∀ q0, h.2 a0 17 = some q0 → A q0), k40 a0 h = some (r, h1) → Fm A h h1) {h : Hp} {a0 : Nat} {r : Int32} {h1 : Hp} (P_0 : ∀ q0, h.2 a0 17 = some q0 → A q0) (P_1 : A a0) (P_2 : ∀ q0, h.2 a0 18 = some q0 → A q0) (hf : X12_readsCondition_180 F k40 a0 h = some (r, h1)) : Fm A h h1 := by
  unfold X12_readsCondition_180 at hf
  have m0 := fm_rf (A := A) (h := h)
  obtain ⟨k_1, hf⟩ := gq_ex hf
  obtain ⟨c_2, ec_2, hf⟩ := ob_ex hf
  rcases ite_ex hf with ⟨q_4, hf⟩ | ⟨q_4, hf⟩
  · skip
    exact fm_tr m0 (W_X12_readsCondition_195 A F hk40 (fun q0 e0 => P_0 q0 (m0.1 ▸ e0)) P_1 (fun q0 e0 => P_2 q0 (m0.1 ▸ e0)) P_1 (fun q0 e0 => P_0 q0 (m0.1 ▸ e0)) hf)
  · skip
    exact fm_tr m0 (W_X12_readsCondition_195 A F hk40 (fun q0 e0 => P_0 q0 (m0.1 ▸ e0)) P_1 (fun q0 e0 => P_2 q0 (m0.1 ▸ e0)) P_1 (fun q0 e0 => P_0 q0 (m0.1 ▸ e0)) hf)
theorem W_X12_readsCondition_92 (A : Nat → Prop) (F : Nat) {k40 : Nat → Hp → Option (Int32 × Hp)} (hk40 : ∀ {h : Hp} {a0 : Nat} {r : Int32} {h1 : Hp} (_ : A a0) (_ : ∀ q0, h.2 a0 18 = some q0 → A q0) (_ : ∀ q0, h.2 a0 17 = some q0 → A q0), k40 a0 h = some (r, h1) → Fm A h h1) : ∀ (f : Nat) {h : Hp} {a0 : Nat} {r : Int32} {h1 : Hp} (P_0 : A a0) (P_1 : ∀ q0, h.2 a0 17 = some q0 → A q0) (P_2 : ∀ q0, h.2 a0 18 = some q0 → A q0), X12_readsCondition_92 F k40 f a0 h = some (r, h1) → Fm A h h1 := by
  intro f
  induction f with
  | zero =>
    intro h a0 r h1 P_0 P_1 P_2 hf
    exact nomatch (show (none : Option _) = some _ from hf)
  | succ f ih =>
    intro h a0 r h1 P_0 P_1 P_2 hf
    rw [X12_readsCondition_92] at hf
    have m0 := fm_rf (A := A) (h := h)
    obtain ⟨k_1, hf⟩ := gq_ex hf
    obtain ⟨c_2, ec_2, hf⟩ := ob_ex hf
    rcases ite_ex hf with ⟨q_4, hf⟩ | ⟨q_4, hf⟩
    · skip
      obtain ⟨h_15, eh_15, hf⟩ := ob_ex hf
      have mh_15 := fm_tr m0 (W_X12_lands A F (fun q0 e0 => P_1 q0 (m0.1 ▸ e0)) P_0 eh_15)
      obtain ⟨h_16, eh_16, hf⟩ := bd_ex hf
      have mh_16 := fm_tr mh_15 (fm_up eh_16 (P_0))
      obtain ⟨h_17, eh_17, hf⟩ := bd_ex hf
      have mh_17 := fm_tr mh_16 (fm_up eh_17 (P_0))
      obtain ⟨h_18, eh_18, hf⟩ := bd_ex hf
      have mh_18 := fm_tr mh_17 (fm_up eh_18 (P_0))
      rcases ite_ex hf with ⟨q_19, hf⟩ | ⟨q_19, hf⟩
      · skip
        cases hf
        exact mh_18
      · skip
        obtain ⟨h_21, eh_21, hf⟩ := ob_ex hf
        have mh_21 := fm_tr mh_18 (W_X12_endsPiece A F (fun q0 e0 => P_1 q0 (mh_18.1 ▸ e0)) P_0 eh_21)
        exact fm_tr mh_21 (ih P_0 (fun q0 e0 => P_1 q0 (mh_21.1 ▸ e0)) (fun q0 e0 => P_2 q0 (mh_21.1 ▸ e0)) hf)
    · skip
      obtain ⟨c_5, ec_5, hf⟩ := ob_ex hf
      rcases ite_ex hf with ⟨q_7, hf⟩ | ⟨q_7, hf⟩
      · skip
        exact fm_tr m0 (W_X12_readsCondition_180 A F hk40 (fun q0 e0 => P_1 q0 (m0.1 ▸ e0)) P_0 (fun q0 e0 => P_2 q0 (m0.1 ▸ e0)) hf)
      · skip
        obtain ⟨c_8, ec_8, hf⟩ := ob_ex hf
        rcases ite_ex hf with ⟨q_10, hf⟩ | ⟨q_10, hf⟩
        · skip
          exact fm_tr m0 (W_X12_readsCondition_180 A F hk40 (fun q0 e0 => P_1 q0 (m0.1 ▸ e0)) P_0 (fun q0 e0 => P_2 q0 (m0.1 ▸ e0)) hf)
        · skip
          obtain ⟨c_11, h_12, ec_11, hf⟩ := bq_ex hf
          have mh_12 := fm_tr m0 (W_X12_wrongAt A F P_0 ec_11)
          obtain ⟨n_13, hf⟩ := gq_ex hf
          cases hf
          exact mh_12
theorem W_X12_readsCondition_75 (A : Nat → Prop) (F : Nat) {k40 : Nat → Hp → Option (Int32 × Hp)} (hk40 : ∀ {h : Hp} {a0 : Nat} {r : Int32} {h1 : Hp} (_ : A a0) (_ : ∀ q0, h.2 a0 18 = some q0 → A q0) (_ : ∀ q0, h.2 a0 17 = some q0 → A q0), k40 a0 h = some (r, h1) → Fm A h h1) {h : Hp} {a0 : Nat} {r0 : Nat} {s1 : Int32} {r : Int32} {h1 : Hp} (P_0 : A r0) (P_1 : ∀ q0, h.2 r0 18 = some q0 → A q0) (P_2 : A a0) (P_3 : ∀ q0, h.2 a0 18 = some q0 → A q0) (P_4 : ∀ q0, h.2 a0 17 = some q0 → A q0) (hf : X12_readsCondition_75 F k40 a0 r0 s1 h = some (r, h1)) : Fm A h h1 := by
  unfold X12_readsCondition_75 at hf
  have m0 := fm_rf (A := A) (h := h)
  obtain ⟨k_1, hf⟩ := gq_ex hf
  obtain ⟨c_2, h_3, ec_2, hf⟩ := bq_ex hf
  have mh_3 := fm_tr m0 (W_X12_opens A F P_0 (fun q0 e0 => P_1 q0 (m0.1 ▸ e0)) ec_2)
  rcases ite_ex hf with ⟨q_4, hf⟩ | ⟨q_4, hf⟩
  · skip
    cases hf
    exact mh_3
  · skip
    exact fm_tr mh_3 (hk40 P_2 (fun q0 e0 => P_3 q0 (mh_3.1 ▸ e0)) (fun q0 e0 => P_4 q0 (mh_3.1 ▸ e0)) hf)
theorem W_X12_readsCondition_58 (A : Nat → Prop) (F : Nat) {k40 : Nat → Hp → Option (Int32 × Hp)} (hk40 : ∀ {h : Hp} {a0 : Nat} {r : Int32} {h1 : Hp} (_ : A a0) (_ : ∀ q0, h.2 a0 18 = some q0 → A q0) (_ : ∀ q0, h.2 a0 17 = some q0 → A q0), k40 a0 h = some (r, h1) → Fm A h h1) {h : Hp} {a0 : Nat} {r : Int32} {h1 : Hp} (P_0 : A a0) (P_1 : ∀ q0, h.2 a0 18 = some q0 → A q0) (P_2 : ∀ q0, h.2 a0 17 = some q0 → A q0) (hf : X12_readsCondition_58 F k40 a0 h = some (r, h1)) : Fm A h h1 := by
  unfold X12_readsCondition_58 at hf
  have m0 := fm_rf (A := A) (h := h)
  obtain ⟨k_1, hf⟩ := gq_ex hf
  obtain ⟨c_2, ec_2, hf⟩ := ob_ex hf
  rcases ite_ex hf with ⟨q_4, hf⟩ | ⟨q_4, hf⟩
  · skip
    exact fm_tr m0 (W_X12_readsCondition_75 A F hk40 P_0 (fun q0 e0 => P_1 q0 (m0.1 ▸ e0)) P_0 (fun q0 e0 => P_1 q0 (m0.1 ▸ e0)) (fun q0 e0 => P_2 q0 (m0.1 ▸ e0)) hf)
  · skip
    exact fm_tr m0 (W_X12_readsCondition_75 A F hk40 P_0 (fun q0 e0 => P_1 q0 (m0.1 ▸ e0)) P_0 (fun q0 e0 => P_1 q0 (m0.1 ▸ e0)) (fun q0 e0 => P_2 q0 (m0.1 ▸ e0)) hf)
theorem W_X12_readsCondition_40 (A : Nat → Prop) (F : Nat) : ∀ (f : Nat) {h : Hp} {a0 : Nat} {r : Int32} {h1 : Hp} (P_0 : A a0) (P_1 : ∀ q0, h.2 a0 18 = some q0 → A q0) (P_2 : ∀ q0, h.2 a0 17 = some q0 → A q0), X12_readsCondition_40 F f a0 h = some (r, h1) → Fm A h h1 := by
  intro f
  induction f with
  | zero =>
    intro h a0 r h1 P_0 P_1 P_2 hf
    exact nomatch (show (none : Option _) = some _ from hf)
  | succ f ih =>
    intro h a0 r h1 P_0 P_1 P_2 hf
    rw [X12_readsCondition_40] at hf
    have m0 := fm_rf (A := A) (h := h)
    obtain ⟨k_1, hf⟩ := gq_ex hf
    obtain ⟨c_2, ec_2, hf⟩ := ob_ex hf
    rcases ite_ex hf with ⟨q_4, hf⟩ | ⟨q_4, hf⟩
    · skip
      exact fm_tr m0 (W_X12_readsCondition_58 A F (fun p0 p1 p2 q => ih p0 p1 p2 q) P_0 (fun q0 e0 => P_1 q0 (m0.1 ▸ e0)) (fun q0 e0 => P_2 q0 (m0.1 ▸ e0)) hf)
    · skip
      obtain ⟨c_5, ec_5, hf⟩ := ob_ex hf
      rcases ite_ex hf with ⟨q_7, hf⟩ | ⟨q_7, hf⟩
      · skip
        exact fm_tr m0 (W_X12_readsCondition_58 A F (fun p0 p1 p2 q => ih p0 p1 p2 q) P_0 (fun q0 e0 => P_1 q0 (m0.1 ▸ e0)) (fun q0 e0 => P_2 q0 (m0.1 ▸ e0)) hf)
      · skip
        obtain ⟨c_8, h_9, ec_8, hf⟩ := bq_ex hf
        have mh_9 := fm_tr m0 (W_X12_readsCompared A F P_0 (fun q0 e0 => P_1 q0 (m0.1 ▸ e0)) (fun q0 e0 => P_2 q0 (m0.1 ▸ e0)) ec_8)
        rcases ite_ex hf with ⟨q_10, hf⟩ | ⟨q_10, hf⟩
        · skip
          cases hf
          exact mh_9
        · skip
          exact fm_tr mh_9 (W_X12_readsCondition_92 A F (fun p0 p1 p2 q => ih p0 p1 p2 q) _ P_0 (fun q0 e0 => P_2 q0 (mh_9.1 ▸ e0)) (fun q0 e0 => P_1 q0 (mh_9.1 ▸ e0)) hf)
theorem W_X12_readsCondition_0 (A : Nat → Prop) (F : Nat) {h : Hp} {a0 : Nat} {r : Int32} {h1 : Hp} (P_0 : A a0) (P_1 : ∀ q0, h.2 a0 18 = some q0 → A q0) (P_2 : ∀ q0, h.2 a0 17 = some q0 → A q0) (hf : X12_readsCondition F a0 h = some (r, h1)) : Fm A h h1 := by
  unfold X12_readsCondition at hf
  have m0 := fm_rf (A := A) (h := h)
  obtain ⟨k_1, hf⟩ := gq_ex hf
  obtain ⟨c_2, ec_2, hf⟩ := ob_ex hf
  rcases ite_ex hf with ⟨q_4, hf⟩ | ⟨q_4, hf⟩
  · skip
    obtain ⟨h_5, eh_5, hf⟩ := bd_ex hf
    have mh_5 := fm_tr m0 (fm_up eh_5 (P_0))
    obtain ⟨h_6, eh_6, hf⟩ := bd_ex hf
    have mh_6 := fm_tr mh_5 (fm_up eh_6 (P_0))
    obtain ⟨c_7, h_8, ec_7, hf⟩ := bq_ex hf
    have mh_8 := fm_tr mh_6 (W_X12_opens A F P_0 (fun q0 e0 => P_1 q0 (mh_6.1 ▸ e0)) ec_7)
    rcases ite_ex hf with ⟨q_9, hf⟩ | ⟨q_9, hf⟩
    · skip
      cases hf
      exact mh_8
    · skip
      exact fm_tr mh_8 (W_X12_readsCondition_40 A F _ P_0 (fun q0 e0 => P_1 q0 (mh_8.1 ▸ e0)) (fun q0 e0 => P_2 q0 (mh_8.1 ▸ e0)) hf)
  · skip
    obtain ⟨c_10, h_11, ec_10, hf⟩ := bq_ex hf
    have mh_11 := fm_tr m0 (W_X12_wrongAt A F P_0 ec_10)
    obtain ⟨n_12, hf⟩ := gq_ex hf
    cases hf
    exact mh_11
theorem W_X12_readsCondition (A : Nat → Prop) (F : Nat) {h : Hp} {a0 : Nat} {r : Int32} {h1 : Hp} (P_0 : A a0) (P_1 : ∀ q0, h.2 a0 18 = some q0 → A q0) (P_2 : ∀ q0, h.2 a0 17 = some q0 → A q0) (hf : X12_readsCondition F a0 h = some (r, h1)) : Fm A h h1 := W_X12_readsCondition_0 A F P_0 P_1 P_2 hf
theorem W_X12_readsRule_122 (A : Nat → Prop) (F : Nat) {h : Hp} {a0 : Nat} {r : Int32} {h1 : Hp} (P_0 : ∀ q0, h.2 a0 21 = some q0 → A q0) (P_1 : A a0) (P_2 : ∀ q0, h.2 a0 18 = some q0 → A q0) (P_3 : ∀ q0, h.2 a0 22 = some q0 → A q0) (P_4 : ∀ q0, h.2 a0 17 = some q0 → A q0) (hf : X12_readsRule_122 F a0 h = some (r, h1)) : Fm A h h1 := by
  unfold X12_readsRule_122 at hf
  have m0 := fm_rf (A := A) (h := h)
  obtain ⟨k_1, hf⟩ := gq_ex hf
  obtain ⟨j_2, ej_2, hf⟩ := ob_ex hf
  have zj_2 : h.2 a0 21 = some j_2 := m0.1 ▸ ej_2
  obtain ⟨k_3, hf⟩ := gq_ex hf
  obtain ⟨b_4, hf⟩ := gq_ex hf
  obtain ⟨h_5, eh_5, hf⟩ := bd_ex hf
  have mh_5 := fm_tr m0 (fm_up eh_5 (P_0 _ zj_2))
  obtain ⟨c_6, h_7, ec_6, hf⟩ := bq_ex hf
  have mh_7 := fm_tr mh_5 (W_X12_readsCondition A F P_1 (fun q0 e0 => P_2 q0 (mh_5.1 ▸ e0)) (fun q0 e0 => P_4 q0 (mh_5.1 ▸ e0)) ec_6)
  rcases ite_ex hf with ⟨q_8, hf⟩ | ⟨q_8, hf⟩
  · skip
    cases hf
    exact mh_7
  · skip
    obtain ⟨j_9, ej_9, hf⟩ := ob_ex hf
    have zj_9 : h.2 a0 22 = some j_9 := mh_7.1 ▸ ej_9
    obtain ⟨k_10, hf⟩ := gq_ex hf
    obtain ⟨b_11, hf⟩ := gq_ex hf
    obtain ⟨h_12, eh_12, hf⟩ := bd_ex hf
    have mh_12 := fm_tr mh_7 (fm_up eh_12 (P_3 _ zj_9))
    obtain ⟨h_13, eh_13, hf⟩ := bd_ex hf
    have mh_13 := fm_tr mh_12 (fm_up eh_13 (P_1))
    cases hf
    exact mh_13
theorem W_X12_readsRule_45 (A : Nat → Prop) (F : Nat) {h : Hp} {a0 : Nat} {x1 : Int32} {r : Int32} {h1 : Hp} (P_0 : A a0) (P_1 : ∀ q0, h.2 a0 19 = some q0 → A q0) (P_2 : ∀ q0, h.2 a0 20 = some q0 → A q0) (P_3 : ∀ q0, h.2 a0 18 = some q0 → A q0) (P_4 : ∀ q0, h.2 a0 17 = some q0 → A q0) (P_5 : ∀ q0, h.2 a0 21 = some q0 → A q0) (P_6 : ∀ q0, h.2 a0 22 = some q0 → A q0) (hf : X12_readsRule_45 F a0 x1 h = some (r, h1)) : Fm A h h1 := by
  unfold X12_readsRule_45 at hf
  have m0 := fm_rf (A := A) (h := h)
  obtain ⟨k_1, hf⟩ := gq_ex hf
  rcases ite_ex hf with ⟨q_2, hf⟩ | ⟨q_2, hf⟩
  · skip
    obtain ⟨c_18, h_19, ec_18, hf⟩ := bq_ex hf
    have mh_19 := fm_tr m0 (W_X12_wrongAt A F P_0 ec_18)
    obtain ⟨n_20, hf⟩ := gq_ex hf
    cases hf
    exact mh_19
  · skip
    obtain ⟨j_3, ej_3, hf⟩ := ob_ex hf
    have zj_3 : h.2 a0 19 = some j_3 := m0.1 ▸ ej_3
    obtain ⟨k_4, hf⟩ := gq_ex hf
    obtain ⟨b_5, hf⟩ := gq_ex hf
    obtain ⟨h_6, eh_6, hf⟩ := bd_ex hf
    have mh_6 := fm_tr m0 (fm_up eh_6 (P_1 _ zj_3))
    obtain ⟨h_7, eh_7, hf⟩ := bd_ex hf
    have mh_7 := fm_tr mh_6 (fm_up eh_7 (P_0))
    obtain ⟨j_8, ej_8, hf⟩ := ob_ex hf
    have zj_8 : h.2 a0 20 = some j_8 := mh_7.1 ▸ ej_8
    obtain ⟨k_9, hf⟩ := gq_ex hf
    obtain ⟨b_10, hf⟩ := gq_ex hf
    obtain ⟨h_11, eh_11, hf⟩ := bd_ex hf
    have mh_11 := fm_tr mh_7 (fm_up eh_11 (P_2 _ zj_8))
    obtain ⟨h_12, eh_12, hf⟩ := bd_ex hf
    have mh_12 := fm_tr mh_11 (fm_up eh_12 (P_0))
    obtain ⟨h_13, eh_13, hf⟩ := bd_ex hf
    have mh_13 := fm_tr mh_12 (fm_up eh_13 (P_0))
    rcases ite_ex hf with ⟨q_14, hf⟩ | ⟨q_14, hf⟩
    · skip
      exact fm_tr mh_13 (W_X12_readsRule_122 A F (fun q0 e0 => P_5 q0 (mh_13.1 ▸ e0)) P_0 (fun q0 e0 => P_3 q0 (mh_13.1 ▸ e0)) (fun q0 e0 => P_6 q0 (mh_13.1 ▸ e0)) (fun q0 e0 => P_4 q0 (mh_13.1 ▸ e0)) hf)
    · skip
      obtain ⟨c_15, h_16, ec_15, hf⟩ := bq_ex hf
      have mh_16 := fm_tr mh_13 (W_X12_readsSum A F P_0 (fun q0 e0 => P_3 q0 (mh_13.1 ▸ e0)) (fun q0 e0 => P_4 q0 (mh_13.1 ▸ e0)) ec_15)
      rcases ite_ex hf with ⟨q_17, hf⟩ | ⟨q_17, hf⟩
      · skip
        cases hf
        exact mh_16
      · skip
        exact fm_tr mh_16 (W_X12_readsRule_122 A F (fun q0 e0 => P_5 q0 (mh_16.1 ▸ e0)) P_0 (fun q0 e0 => P_3 q0 (mh_16.1 ▸ e0)) (fun q0 e0 => P_6 q0 (mh_16.1 ▸ e0)) (fun q0 e0 => P_4 q0 (mh_16.1 ▸ e0)) hf)
theorem W_X12_readsRule_0 (A : Nat → Prop) (F : Nat) {h : Hp} {a0 : Nat} {r : Int32} {h1 : Hp} (P_0 : A a0) (P_1 : ∀ q0, h.2 a0 19 = some q0 → A q0) (P_2 : ∀ q0, h.2 a0 20 = some q0 → A q0) (P_3 : ∀ q0, h.2 a0 18 = some q0 → A q0) (P_4 : ∀ q0, h.2 a0 17 = some q0 → A q0) (P_5 : ∀ q0, h.2 a0 21 = some q0 → A q0) (P_6 : ∀ q0, h.2 a0 22 = some q0 → A q0) (hf : X12_readsRule F a0 h = some (r, h1)) : Fm A h h1 := by
  unfold X12_readsRule at hf
  have m0 := fm_rf (A := A) (h := h)
  obtain ⟨k_1, hf⟩ := gq_ex hf
  obtain ⟨c_2, ec_2, hf⟩ := ob_ex hf
  rcases ite_ex hf with ⟨q_4, hf⟩ | ⟨q_4, hf⟩
  · skip
    exact fm_tr m0 (W_X12_readsRule_45 A F P_0 (fun q0 e0 => P_1 q0 (m0.1 ▸ e0)) (fun q0 e0 => P_2 q0 (m0.1 ▸ e0)) (fun q0 e0 => P_3 q0 (m0.1 ▸ e0)) (fun q0 e0 => P_4 q0 (m0.1 ▸ e0)) (fun q0 e0 => P_5 q0 (m0.1 ▸ e0)) (fun q0 e0 => P_6 q0 (m0.1 ▸ e0)) hf)
  · skip
    rcases ite_ex hf with ⟨q_5, hf⟩ | ⟨q_5, hf⟩
    · skip
      exact fm_tr m0 (W_X12_readsRule_45 A F P_0 (fun q0 e0 => P_1 q0 (m0.1 ▸ e0)) (fun q0 e0 => P_2 q0 (m0.1 ▸ e0)) (fun q0 e0 => P_3 q0 (m0.1 ▸ e0)) (fun q0 e0 => P_4 q0 (m0.1 ▸ e0)) (fun q0 e0 => P_5 q0 (m0.1 ▸ e0)) (fun q0 e0 => P_6 q0 (m0.1 ▸ e0)) hf)
    · skip
      rcases ite_ex hf with ⟨q_6, hf⟩ | ⟨q_6, hf⟩
      · skip
        exact fm_tr m0 (W_X12_readsRule_45 A F P_0 (fun q0 e0 => P_1 q0 (m0.1 ▸ e0)) (fun q0 e0 => P_2 q0 (m0.1 ▸ e0)) (fun q0 e0 => P_3 q0 (m0.1 ▸ e0)) (fun q0 e0 => P_4 q0 (m0.1 ▸ e0)) (fun q0 e0 => P_5 q0 (m0.1 ▸ e0)) (fun q0 e0 => P_6 q0 (m0.1 ▸ e0)) hf)
      · skip
        rcases ite_ex hf with ⟨q_7, hf⟩ | ⟨q_7, hf⟩
        · skip
          exact fm_tr m0 (W_X12_readsRule_45 A F P_0 (fun q0 e0 => P_1 q0 (m0.1 ▸ e0)) (fun q0 e0 => P_2 q0 (m0.1 ▸ e0)) (fun q0 e0 => P_3 q0 (m0.1 ▸ e0)) (fun q0 e0 => P_4 q0 (m0.1 ▸ e0)) (fun q0 e0 => P_5 q0 (m0.1 ▸ e0)) (fun q0 e0 => P_6 q0 (m0.1 ▸ e0)) hf)
        · skip
          rcases ite_ex hf with ⟨q_8, hf⟩ | ⟨q_8, hf⟩
          · skip
            exact fm_tr m0 (W_X12_readsRule_45 A F P_0 (fun q0 e0 => P_1 q0 (m0.1 ▸ e0)) (fun q0 e0 => P_2 q0 (m0.1 ▸ e0)) (fun q0 e0 => P_3 q0 (m0.1 ▸ e0)) (fun q0 e0 => P_4 q0 (m0.1 ▸ e0)) (fun q0 e0 => P_5 q0 (m0.1 ▸ e0)) (fun q0 e0 => P_6 q0 (m0.1 ▸ e0)) hf)
          · skip
            obtain ⟨c_9, h_10, ec_9, hf⟩ := bq_ex hf
            have mh_10 := fm_tr m0 (W_X12_wrongAt A F P_0 ec_9)
            obtain ⟨n_11, hf⟩ := gq_ex hf
            cases hf
            exact mh_10
theorem W_X12_readsRule (A : Nat → Prop) (F : Nat) {h : Hp} {a0 : Nat} {r : Int32} {h1 : Hp} (P_0 : A a0) (P_1 : ∀ q0, h.2 a0 19 = some q0 → A q0) (P_2 : ∀ q0, h.2 a0 20 = some q0 → A q0) (P_3 : ∀ q0, h.2 a0 18 = some q0 → A q0) (P_4 : ∀ q0, h.2 a0 17 = some q0 → A q0) (P_5 : ∀ q0, h.2 a0 21 = some q0 → A q0) (P_6 : ∀ q0, h.2 a0 22 = some q0 → A q0) (hf : X12_readsRule F a0 h = some (r, h1)) : Fm A h h1 := W_X12_readsRule_0 A F P_0 P_1 P_2 P_3 P_4 P_5 P_6 hf
theorem W_X12_beginsText_0 (A : Nat → Prop) (F : Nat) {h : Hp} {a0 : Nat} {x1 : Int32} {h1 : Hp} (P_0 : A a0) (hf : X12_beginsText F a0 x1 h = some h1) : Fm A h h1 := by
  unfold X12_beginsText at hf
  have m0 := fm_rf (A := A) (h := h)
  obtain ⟨k_1, hf⟩ := gq_ex hf
  obtain ⟨h_2, eh_2, hf⟩ := bd_ex hf
  have mh_2 := fm_tr m0 (fm_up eh_2 (P_0))
  obtain ⟨h_3, eh_3, hf⟩ := bd_ex hf
  have mh_3 := fm_tr mh_2 (fm_up eh_3 (P_0))
  obtain ⟨h_4, eh_4, hf⟩ := bd_ex hf
  have mh_4 := fm_tr mh_3 (fm_up eh_4 (P_0))
  obtain ⟨h_5, eh_5, hf⟩ := bd_ex hf
  have mh_5 := fm_tr mh_4 (fm_up eh_5 (P_0))
  cases hf
  exact mh_5
theorem W_X12_beginsText (A : Nat → Prop) (F : Nat) {h : Hp} {a0 : Nat} {x1 : Int32} {h1 : Hp} (P_0 : A a0) (hf : X12_beginsText F a0 x1 h = some h1) : Fm A h h1 := W_X12_beginsText_0 A F P_0 hf
theorem W_X12_law_123 (A : Nat → Prop) (F : Nat) : ∀ (f : Nat) {h : Hp} {a0 : Nat} {x3 : Int32} {r : Int32} {h1 : Hp} (P_0 : ∀ q0, h.2 a0 24 = some q0 → A q0) (P_1 : ∀ q0, h.2 a0 25 = some q0 → A q0) (P_2 : ∀ q0, h.2 a0 26 = some q0 → A q0) (P_3 : ∀ q0, h.2 a0 27 = some q0 → A q0), X12_law_123 F f a0 x3 h = some (r, h1) → Fm A h h1 := by
  intro f
  induction f with
  | zero =>
    intro h a0 x3 r h1 P_0 P_1 P_2 P_3 hf
    exact nomatch (show (none : Option _) = some _ from hf)
  | succ f ih =>
    intro h a0 x3 r h1 P_0 P_1 P_2 P_3 hf
    rw [X12_law_123] at hf
    have m0 := fm_rf (A := A) (h := h)
    obtain ⟨k_1, hf⟩ := gq_ex hf
    rcases ite_ex hf with ⟨q_2, hf⟩ | ⟨q_2, hf⟩
    · skip
      cases hf
      exact m0
    · skip
      obtain ⟨j_3, ej_3, hf⟩ := ob_ex hf
      have zj_3 : h.2 a0 24 = some j_3 := m0.1 ▸ ej_3
      obtain ⟨j_4, ej_4, hf⟩ := ob_ex hf
      have zj_4 : h.2 a0 19 = some j_4 := m0.1 ▸ ej_4
      obtain ⟨k_5, hf⟩ := gq_ex hf
      obtain ⟨b_6, hf⟩ := gq_ex hf
      obtain ⟨k_7, hf⟩ := gq_ex hf
      obtain ⟨b_8, hf⟩ := gq_ex hf
      obtain ⟨h_9, eh_9, hf⟩ := bd_ex hf
      have mh_9 := fm_tr m0 (fm_up eh_9 (P_0 _ zj_3))
      obtain ⟨j_10, ej_10, hf⟩ := ob_ex hf
      have zj_10 : h.2 a0 25 = some j_10 := mh_9.1 ▸ ej_10
      obtain ⟨j_11, ej_11, hf⟩ := ob_ex hf
      have zj_11 : h.2 a0 20 = some j_11 := mh_9.1 ▸ ej_11
      obtain ⟨k_12, hf⟩ := gq_ex hf
      obtain ⟨b_13, hf⟩ := gq_ex hf
      obtain ⟨k_14, hf⟩ := gq_ex hf
      obtain ⟨b_15, hf⟩ := gq_ex hf
      obtain ⟨h_16, eh_16, hf⟩ := bd_ex hf
      have mh_16 := fm_tr mh_9 (fm_up eh_16 (P_1 _ zj_10))
      obtain ⟨j_17, ej_17, hf⟩ := ob_ex hf
      have zj_17 : h.2 a0 26 = some j_17 := mh_16.1 ▸ ej_17
      obtain ⟨j_18, ej_18, hf⟩ := ob_ex hf
      have zj_18 : h.2 a0 21 = some j_18 := mh_16.1 ▸ ej_18
      obtain ⟨k_19, hf⟩ := gq_ex hf
      obtain ⟨b_20, hf⟩ := gq_ex hf
      obtain ⟨k_21, hf⟩ := gq_ex hf
      obtain ⟨b_22, hf⟩ := gq_ex hf
      obtain ⟨h_23, eh_23, hf⟩ := bd_ex hf
      have mh_23 := fm_tr mh_16 (fm_up eh_23 (P_2 _ zj_17))
      obtain ⟨j_24, ej_24, hf⟩ := ob_ex hf
      have zj_24 : h.2 a0 27 = some j_24 := mh_23.1 ▸ ej_24
      obtain ⟨j_25, ej_25, hf⟩ := ob_ex hf
      have zj_25 : h.2 a0 22 = some j_25 := mh_23.1 ▸ ej_25
      obtain ⟨k_26, hf⟩ := gq_ex hf
      obtain ⟨b_27, hf⟩ := gq_ex hf
      obtain ⟨k_28, hf⟩ := gq_ex hf
      obtain ⟨b_29, hf⟩ := gq_ex hf
      obtain ⟨h_30, eh_30, hf⟩ := bd_ex hf
      have mh_30 := fm_tr mh_23 (fm_up eh_30 (P_3 _ zj_24))
      obtain ⟨x3_31, ex3_31, hf⟩ := bd_ex hf
      exact fm_tr mh_30 (ih (fun q0 e0 => P_0 q0 (mh_30.1 ▸ e0)) (fun q0 e0 => P_1 q0 (mh_30.1 ▸ e0)) (fun q0 e0 => P_2 q0 (mh_30.1 ▸ e0)) (fun q0 e0 => P_3 q0 (mh_30.1 ▸ e0)) hf)
theorem W_X12_law_95 (A : Nat → Prop) (F : Nat) : ∀ (f : Nat) {h : Hp} {a0 : Nat} {x3 : Int32} {r : Int32} {h1 : Hp} (P_0 : ∀ q0, h.2 a0 23 = some q0 → A q0) (P_1 : ∀ q0, h.2 a0 24 = some q0 → A q0) (P_2 : ∀ q0, h.2 a0 25 = some q0 → A q0) (P_3 : ∀ q0, h.2 a0 26 = some q0 → A q0) (P_4 : ∀ q0, h.2 a0 27 = some q0 → A q0), X12_law_95 F f a0 x3 h = some (r, h1) → Fm A h h1 := by
  intro f
  induction f with
  | zero =>
    intro h a0 x3 r h1 P_0 P_1 P_2 P_3 P_4 hf
    exact nomatch (show (none : Option _) = some _ from hf)
  | succ f ih =>
    intro h a0 x3 r h1 P_0 P_1 P_2 P_3 P_4 hf
    rw [X12_law_95] at hf
    have m0 := fm_rf (A := A) (h := h)
    obtain ⟨k_1, hf⟩ := gq_ex hf
    rcases ite_ex hf with ⟨q_2, hf⟩ | ⟨q_2, hf⟩
    · skip
      exact fm_tr m0 (W_X12_law_123 A F _ (fun q0 e0 => P_1 q0 (m0.1 ▸ e0)) (fun q0 e0 => P_2 q0 (m0.1 ▸ e0)) (fun q0 e0 => P_3 q0 (m0.1 ▸ e0)) (fun q0 e0 => P_4 q0 (m0.1 ▸ e0)) hf)
    · skip
      obtain ⟨j_3, ej_3, hf⟩ := ob_ex hf
      have zj_3 : h.2 a0 23 = some j_3 := m0.1 ▸ ej_3
      obtain ⟨j_4, ej_4, hf⟩ := ob_ex hf
      have zj_4 : h.2 a0 17 = some j_4 := m0.1 ▸ ej_4
      obtain ⟨k_5, hf⟩ := gq_ex hf
      obtain ⟨b_6, hf⟩ := gq_ex hf
      obtain ⟨k_7, hf⟩ := gq_ex hf
      obtain ⟨b_8, hf⟩ := gq_ex hf
      obtain ⟨h_9, eh_9, hf⟩ := bd_ex hf
      have mh_9 := fm_tr m0 (fm_up eh_9 (P_0 _ zj_3))
      obtain ⟨x3_10, ex3_10, hf⟩ := bd_ex hf
      exact fm_tr mh_9 (ih (fun q0 e0 => P_0 q0 (mh_9.1 ▸ e0)) (fun q0 e0 => P_1 q0 (mh_9.1 ▸ e0)) (fun q0 e0 => P_2 q0 (mh_9.1 ▸ e0)) (fun q0 e0 => P_3 q0 (mh_9.1 ▸ e0)) (fun q0 e0 => P_4 q0 (mh_9.1 ▸ e0)) hf)
theorem W_X12_law_71 (A : Nat → Prop) (F : Nat) {h : Hp} {a0 : Nat} {x2 : Int32} {r : Int32} {h1 : Hp} (P_0 : A a0) (P_1 : ∀ q0, h.2 a0 23 = some q0 → A q0) (P_2 : ∀ q0, h.2 a0 24 = some q0 → A q0) (P_3 : ∀ q0, h.2 a0 25 = some q0 → A q0) (P_4 : ∀ q0, h.2 a0 26 = some q0 → A q0) (P_5 : ∀ q0, h.2 a0 27 = some q0 → A q0) (hf : X12_law_71 F a0 x2 h = some (r, h1)) : Fm A h h1 := by
  unfold X12_law_71 at hf
  have m0 := fm_rf (A := A) (h := h)
  obtain ⟨k_1, hf⟩ := gq_ex hf
  obtain ⟨h_2, eh_2, hf⟩ := bd_ex hf
  have mh_2 := fm_tr m0 (fm_up eh_2 (P_0))
  rcases ite_ex hf with ⟨q_3, hf⟩ | ⟨q_3, hf⟩
  · skip
    cases hf
    exact mh_2
  · skip
    obtain ⟨h_4, eh_4, hf⟩ := bd_ex hf
    have mh_4 := fm_tr mh_2 (fm_up eh_4 (P_0))
    exact fm_tr mh_4 (W_X12_law_95 A F _ (fun q0 e0 => P_1 q0 (mh_4.1 ▸ e0)) (fun q0 e0 => P_2 q0 (mh_4.1 ▸ e0)) (fun q0 e0 => P_3 q0 (mh_4.1 ▸ e0)) (fun q0 e0 => P_4 q0 (mh_4.1 ▸ e0)) (fun q0 e0 => P_5 q0 (mh_4.1 ▸ e0)) hf)
theorem W_X12_law_67 (A : Nat → Prop) (F : Nat) {k31 : Nat → Int32 → Hp → Option (Int32 × Hp)} (hk31 : ∀ {h : Hp} {a0 : Nat} {x2 : Int32} {r : Int32} {h1 : Hp} (_ : A a0) (_ : ∀ q0, h.2 a0 19 = some q0 → A q0) (_ : ∀ q0, h.2 a0 20 = some q0 → A q0) (_ : ∀ q0, h.2 a0 18 = some q0 → A q0) (_ : ∀ q0, h.2 a0 17 = some q0 → A q0) (_ : ∀ q0, h.2 a0 23 = some q0 → A q0) (_ : ∀ q0, h.2 a0 21 = some q0 → A q0) (_ : ∀ q0, h.2 a0 22 = some q0 → A q0) (_ : ∀ q0, h.2 a0 24 = some q0 → A q0) (_ : ∀ q0, h.2 a0 25 = some q0 → A q0) (_ : ∀ q0, h.2 a0 26 = some q0 → A q0) (_ : ∀ q0, h.2 a0 27 = some q0 → A q0), k31 a0 x2 h = some (r, h1) → Fm A h h1) {h : Hp} {a0 : Nat} {s0 : Int32} {r : Int32} {h1 : Hp} (P_0 : A a0) (P_1 : ∀ q0, h.2 a0 19 = some q0 → A q0) (P_2 : ∀ q0, h.2 a0 20 = some q0 → A q0) (P_3 : ∀ q0, h.2 a0 18 = some q0 → A q0) (P_4 : ∀ q0, h.2 a0 17 = some q0 → A q0) (P_5 : ∀ q0, h.2 a0 23 = some q0 → A q0) (P_6 : ∀ q0, h.2 a0 21 = some q0 → A q0) (P_7 : ∀ q0, h.2 a0 22 = some q0 → A q0) (P_8 : ∀ q0, h.2 a0 24 = some q0 → A q0) (P_9 : ∀ q0, h.2 a0 25 = some q0 → A q0) (P_10 : ∀ q0, h.2 a0 26 = some q0 → A q0) (P_11 : ∀ q0, h.2 a0 27 = some q0 → A q0) (hf : X12_law_67 F k31 a0 s0 h = some (r, h1)) : Fm A h h1 := by
  unfold X12_law_67 at hf
  have m0 := fm_rf (A := A) (h := h)
  exact fm_tr m0 (hk31 P_0 (fun q0 e0 => P_1 q0 (m0.1 ▸ e0)) (fun q0 e0 => P_2 q0 (m0.1 ▸ e0)) (fun q0 e0 => P_3 q0 (m0.1 ▸ e0)) (fun q0 e0 => P_4 q0 (m0.1 ▸ e0)) (fun q0 e0 => P_5 q0 (m0.1 ▸ e0)) (fun q0 e0 => P_6 q0 (m0.1 ▸ e0)) (fun q0 e0 => P_7 q0 (m0.1 ▸ e0)) (fun q0 e0 => P_8 q0 (m0.1 ▸ e0)) (fun q0 e0 => P_9 q0 (m0.1 ▸ e0)) (fun q0 e0 => P_10 q0 (m0.1 ▸ e0)) (fun q0 e0 => P_11 q0 (m0.1 ▸ e0)) hf)
theorem W_X12_law_66 (A : Nat → Prop) (F : Nat) {k31 : Nat → Int32 → Hp → Option (Int32 × Hp)} (hk31 : ∀ {h : Hp} {a0 : Nat} {x2 : Int32} {r : Int32} {h1 : Hp} (_ : A a0) (_ : ∀ q0, h.2 a0 19 = some q0 → A q0) (_ : ∀ q0, h.2 a0 20 = some q0 → A q0) (_ : ∀ q0, h.2 a0 18 = some q0 → A q0) (_ : ∀ q0, h.2 a0 17 = some q0 → A q0) (_ : ∀ q0, h.2 a0 23 = some q0 → A q0) (_ : ∀ q0, h.2 a0 21 = some q0 → A q0) (_ : ∀ q0, h.2 a0 22 = some q0 → A q0) (_ : ∀ q0, h.2 a0 24 = some q0 → A q0) (_ : ∀ q0, h.2 a0 25 = some q0 → A q0) (_ : ∀ q0, h.2 a0 26 = some q0 → A q0) (_ : ∀ q0, h.2 a0 27 = some q0 → A q0), k31 a0 x2 h = some (r, h1) → Fm A h h1) {h : Hp} {a0 : Nat} {r : Int32} {h1 : Hp} (P_0 : A a0) (P_1 : ∀ q0, h.2 a0 19 = some q0 → A q0) (P_2 : ∀ q0, h.2 a0 20 = some q0 → A q0) (P_3 : ∀ q0, h.2 a0 18 = some q0 → A q0) (P_4 : ∀ q0, h.2 a0 17 = some q0 → A q0) (P_5 : ∀ q0, h.2 a0 23 = some q0 → A q0) (P_6 : ∀ q0, h.2 a0 21 = some q0 → A q0) (P_7 : ∀ q0, h.2 a0 22 = some q0 → A q0) (P_8 : ∀ q0, h.2 a0 24 = some q0 → A q0) (P_9 : ∀ q0, h.2 a0 25 = some q0 → A q0) (P_10 : ∀ q0, h.2 a0 26 = some q0 → A q0) (P_11 : ∀ q0, h.2 a0 27 = some q0 → A q0) (hf : X12_law_66 F k31 a0 h = some (r, h1)) : Fm A h h1 := by
  unfold X12_law_66 at hf
  have m0 := fm_rf (A := A) (h := h)
  exact fm_tr m0 (W_X12_law_67 A F hk31 P_0 (fun q0 e0 => P_1 q0 (m0.1 ▸ e0)) (fun q0 e0 => P_2 q0 (m0.1 ▸ e0)) (fun q0 e0 => P_3 q0 (m0.1 ▸ e0)) (fun q0 e0 => P_4 q0 (m0.1 ▸ e0)) (fun q0 e0 => P_5 q0 (m0.1 ▸ e0)) (fun q0 e0 => P_6 q0 (m0.1 ▸ e0)) (fun q0 e0 => P_7 q0 (m0.1 ▸ e0)) (fun q0 e0 => P_8 q0 (m0.1 ▸ e0)) (fun q0 e0 => P_9 q0 (m0.1 ▸ e0)) (fun q0 e0 => P_10 q0 (m0.1 ▸ e0)) (fun q0 e0 => P_11 q0 (m0.1 ▸ e0)) hf)
theorem W_X12_law_31 (A : Nat → Prop) (F : Nat) : ∀ (f : Nat) {h : Hp} {a0 : Nat} {x2 : Int32} {r : Int32} {h1 : Hp} (P_0 : A a0) (P_1 : ∀ q0, h.2 a0 19 = some q0 → A q0) (P_2 : ∀ q0, h.2 a0 20 = some q0 → A q0) (P_3 : ∀ q0, h.2 a0 18 = some q0 → A q0) (P_4 : ∀ q0, h.2 a0 17 = some q0 → A q0) (P_5 : ∀ q0, h.2 a0 23 = some q0 → A q0) (P_6 : ∀ q0, h.2 a0 21 = some q0 → A q0) (P_7 : ∀ q0, h.2 a0 22 = some q0 → A q0) (P_8 : ∀ q0, h.2 a0 24 = some q0 → A q0) (P_9 : ∀ q0, h.2 a0 25 = some q0 → A q0) (P_10 : ∀ q0, h.2 a0 26 = some q0 → A q0) (P_11 : ∀ q0, h.2 a0 27 = some q0 → A q0), X12_law_31 F f a0 x2 h = some (r, h1) → Fm A h h1 := by
  intro f
  induction f with
  | zero =>
    intro h a0 x2 r h1 P_0 P_1 P_2 P_3 P_4 P_5 P_6 P_7 P_8 P_9 P_10 P_11 hf
    exact nomatch (show (none : Option _) = some _ from hf)
  | succ f ih =>
    intro h a0 x2 r h1 P_0 P_1 P_2 P_3 P_4 P_5 P_6 P_7 P_8 P_9 P_10 P_11 hf
    rw [X12_law_31] at hf
    have m0 := fm_rf (A := A) (h := h)
    rcases ite_ex hf with ⟨q_1, hf⟩ | ⟨q_1, hf⟩
    · skip
      exact fm_tr m0 (W_X12_law_71 A F P_0 (fun q0 e0 => P_5 q0 (m0.1 ▸ e0)) (fun q0 e0 => P_8 q0 (m0.1 ▸ e0)) (fun q0 e0 => P_9 q0 (m0.1 ▸ e0)) (fun q0 e0 => P_10 q0 (m0.1 ▸ e0)) (fun q0 e0 => P_11 q0 (m0.1 ▸ e0)) hf)
    · skip
      obtain ⟨k_2, hf⟩ := gq_ex hf
      rcases ite_ex hf with ⟨q_3, hf⟩ | ⟨q_3, hf⟩
      · skip
        exact fm_tr m0 (W_X12_law_71 A F P_0 (fun q0 e0 => P_5 q0 (m0.1 ▸ e0)) (fun q0 e0 => P_8 q0 (m0.1 ▸ e0)) (fun q0 e0 => P_9 q0 (m0.1 ▸ e0)) (fun q0 e0 => P_10 q0 (m0.1 ▸ e0)) (fun q0 e0 => P_11 q0 (m0.1 ▸ e0)) hf)
      · skip
        obtain ⟨c_4, h_5, ec_4, hf⟩ := bq_ex hf
        have mh_5 := fm_tr m0 (W_X12_takes A F P_0 ec_4)
        rcases ite_ex hf with ⟨q_6, hf⟩ | ⟨q_6, hf⟩
        · skip
          exact fm_tr mh_5 (W_X12_law_66 A F (fun p0 p1 p2 p3 p4 p5 p6 p7 p8 p9 p10 p11 q => ih p0 p1 p2 p3 p4 p5 p6 p7 p8 p9 p10 p11 q) P_0 (fun q0 e0 => P_1 q0 (mh_5.1 ▸ e0)) (fun q0 e0 => P_2 q0 (mh_5.1 ▸ e0)) (fun q0 e0 => P_3 q0 (mh_5.1 ▸ e0)) (fun q0 e0 => P_4 q0 (mh_5.1 ▸ e0)) (fun q0 e0 => P_5 q0 (mh_5.1 ▸ e0)) (fun q0 e0 => P_6 q0 (mh_5.1 ▸ e0)) (fun q0 e0 => P_7 q0 (mh_5.1 ▸ e0)) (fun q0 e0 => P_8 q0 (mh_5.1 ▸ e0)) (fun q0 e0 => P_9 q0 (mh_5.1 ▸ e0)) (fun q0 e0 => P_10 q0 (mh_5.1 ▸ e0)) (fun q0 e0 => P_11 q0 (mh_5.1 ▸ e0)) hf)
        · skip
          obtain ⟨c_7, h_8, ec_7, hf⟩ := bq_ex hf
          have mh_8 := fm_tr mh_5 (W_X12_readsRule A F P_0 (fun q0 e0 => P_1 q0 (mh_5.1 ▸ e0)) (fun q0 e0 => P_2 q0 (mh_5.1 ▸ e0)) (fun q0 e0 => P_3 q0 (mh_5.1 ▸ e0)) (fun q0 e0 => P_4 q0 (mh_5.1 ▸ e0)) (fun q0 e0 => P_6 q0 (mh_5.1 ▸ e0)) (fun q0 e0 => P_7 q0 (mh_5.1 ▸ e0)) ec_7)
          rcases ite_ex hf with ⟨q_9, hf⟩ | ⟨q_9, hf⟩
          · skip
            exact fm_tr mh_8 (W_X12_law_66 A F (fun p0 p1 p2 p3 p4 p5 p6 p7 p8 p9 p10 p11 q => ih p0 p1 p2 p3 p4 p5 p6 p7 p8 p9 p10 p11 q) P_0 (fun q0 e0 => P_1 q0 (mh_8.1 ▸ e0)) (fun q0 e0 => P_2 q0 (mh_8.1 ▸ e0)) (fun q0 e0 => P_3 q0 (mh_8.1 ▸ e0)) (fun q0 e0 => P_4 q0 (mh_8.1 ▸ e0)) (fun q0 e0 => P_5 q0 (mh_8.1 ▸ e0)) (fun q0 e0 => P_6 q0 (mh_8.1 ▸ e0)) (fun q0 e0 => P_7 q0 (mh_8.1 ▸ e0)) (fun q0 e0 => P_8 q0 (mh_8.1 ▸ e0)) (fun q0 e0 => P_9 q0 (mh_8.1 ▸ e0)) (fun q0 e0 => P_10 q0 (mh_8.1 ▸ e0)) (fun q0 e0 => P_11 q0 (mh_8.1 ▸ e0)) hf)
          · skip
            exact fm_tr mh_8 (W_X12_law_67 A F (fun p0 p1 p2 p3 p4 p5 p6 p7 p8 p9 p10 p11 q => ih p0 p1 p2 p3 p4 p5 p6 p7 p8 p9 p10 p11 q) P_0 (fun q0 e0 => P_1 q0 (mh_8.1 ▸ e0)) (fun q0 e0 => P_2 q0 (mh_8.1 ▸ e0)) (fun q0 e0 => P_3 q0 (mh_8.1 ▸ e0)) (fun q0 e0 => P_4 q0 (mh_8.1 ▸ e0)) (fun q0 e0 => P_5 q0 (mh_8.1 ▸ e0)) (fun q0 e0 => P_6 q0 (mh_8.1 ▸ e0)) (fun q0 e0 => P_7 q0 (mh_8.1 ▸ e0)) (fun q0 e0 => P_8 q0 (mh_8.1 ▸ e0)) (fun q0 e0 => P_9 q0 (mh_8.1 ▸ e0)) (fun q0 e0 => P_10 q0 (mh_8.1 ▸ e0)) (fun q0 e0 => P_11 q0 (mh_8.1 ▸ e0)) hf)
theorem W_X12_law_0 (A : Nat → Prop) (F : Nat) {h : Hp} {a0 : Nat} {x1 : Int32} {r : Int32} {h1 : Hp} (P_0 : A a0) (P_1 : ∀ q0, h.2 a0 19 = some q0 → A q0) (P_2 : ∀ q0, h.2 a0 20 = some q0 → A q0) (P_3 : ∀ q0, h.2 a0 18 = some q0 → A q0) (P_4 : ∀ q0, h.2 a0 17 = some q0 → A q0) (P_5 : ∀ q0, h.2 a0 21 = some q0 → A q0) (P_6 : ∀ q0, h.2 a0 22 = some q0 → A q0) (P_7 : ∀ q0, h.2 a0 23 = some q0 → A q0) (P_8 : ∀ q0, h.2 a0 24 = some q0 → A q0) (P_9 : ∀ q0, h.2 a0 25 = some q0 → A q0) (P_10 : ∀ q0, h.2 a0 26 = some q0 → A q0) (P_11 : ∀ q0, h.2 a0 27 = some q0 → A q0) (hf : X12_law F a0 x1 h = some (r, h1)) : Fm A h h1 := by
  unfold X12_law at hf
  have m0 := fm_rf (A := A) (h := h)
  obtain ⟨c_1, ec_1, hf⟩ := ob_ex hf
  rcases ite_ex hf with ⟨q_3, hf⟩ | ⟨q_3, hf⟩
  · skip
    cases hf
    exact m0
  · skip
    obtain ⟨k_4, hf⟩ := gq_ex hf
    rcases ite_ex hf with ⟨q_5, hf⟩ | ⟨q_5, hf⟩
    · skip
      obtain ⟨h_7, eh_7, hf⟩ := ob_ex hf
      have mh_7 := fm_tr m0 (W_X12_beginsText A F P_0 eh_7)
      obtain ⟨c_8, h_9, ec_8, hf⟩ := bq_ex hf
      have mh_9 := fm_tr mh_7 (W_X12_readsRule A F P_0 (fun q0 e0 => P_1 q0 (mh_7.1 ▸ e0)) (fun q0 e0 => P_2 q0 (mh_7.1 ▸ e0)) (fun q0 e0 => P_3 q0 (mh_7.1 ▸ e0)) (fun q0 e0 => P_4 q0 (mh_7.1 ▸ e0)) (fun q0 e0 => P_5 q0 (mh_7.1 ▸ e0)) (fun q0 e0 => P_6 q0 (mh_7.1 ▸ e0)) ec_8)
      exact fm_tr mh_9 (W_X12_law_31 A F _ P_0 (fun q0 e0 => P_1 q0 (mh_9.1 ▸ e0)) (fun q0 e0 => P_2 q0 (mh_9.1 ▸ e0)) (fun q0 e0 => P_3 q0 (mh_9.1 ▸ e0)) (fun q0 e0 => P_4 q0 (mh_9.1 ▸ e0)) (fun q0 e0 => P_7 q0 (mh_9.1 ▸ e0)) (fun q0 e0 => P_5 q0 (mh_9.1 ▸ e0)) (fun q0 e0 => P_6 q0 (mh_9.1 ▸ e0)) (fun q0 e0 => P_8 q0 (mh_9.1 ▸ e0)) (fun q0 e0 => P_9 q0 (mh_9.1 ▸ e0)) (fun q0 e0 => P_10 q0 (mh_9.1 ▸ e0)) (fun q0 e0 => P_11 q0 (mh_9.1 ▸ e0)) hf)
    · skip
      cases hf
      exact m0
theorem W_X12_law (A : Nat → Prop) (F : Nat) {h : Hp} {a0 : Nat} {x1 : Int32} {r : Int32} {h1 : Hp} (P_0 : A a0) (P_1 : ∀ q0, h.2 a0 19 = some q0 → A q0) (P_2 : ∀ q0, h.2 a0 20 = some q0 → A q0) (P_3 : ∀ q0, h.2 a0 18 = some q0 → A q0) (P_4 : ∀ q0, h.2 a0 17 = some q0 → A q0) (P_5 : ∀ q0, h.2 a0 21 = some q0 → A q0) (P_6 : ∀ q0, h.2 a0 22 = some q0 → A q0) (P_7 : ∀ q0, h.2 a0 23 = some q0 → A q0) (P_8 : ∀ q0, h.2 a0 24 = some q0 → A q0) (P_9 : ∀ q0, h.2 a0 25 = some q0 → A q0) (P_10 : ∀ q0, h.2 a0 26 = some q0 → A q0) (P_11 : ∀ q0, h.2 a0 27 = some q0 → A q0) (hf : X12_law F a0 x1 h = some (r, h1)) : Fm A h h1 := W_X12_law_0 A F P_0 P_1 P_2 P_3 P_4 P_5 P_6 P_7 P_8 P_9 P_10 P_11 hf
theorem W_X12_comesTo_230 (A : Nat → Prop) (F : Nat) {k16 : Nat → Int32 → Int32 → Int32 → Int32 → Hp → Option (Int32 × Hp)} (hk16 : ∀ {h : Hp} {a0 : Nat} {x2 : Int32} {x3 : Int32} {x4 : Int32} {x5 : Int32} {r : Int32} {h1 : Hp} (_ : ∀ q0, h.2 a0 28 = some q0 → A q0), k16 a0 x2 x3 x4 x5 h = some (r, h1) → Fm A h h1) {h : Hp} {a0 : Nat} {x2 : Int32} {x3 : Int32} {x4 : Int32} {x5 : Int32} {r : Int32} {h1 : Hp} (P_0 : ∀ q0, h.2 a0 28 = some q0 → A q0) (hf : X12_comesTo_230 F k16 a0 x2 x3 x4 x5 h = some (r, h1)) : Fm A h h1 := by
  unfold X12_comesTo_230 at hf
  have m0 := fm_rf (A := A) (h := h)
  exact fm_tr m0 (hk16 (fun q0 e0 => P_0 q0 (m0.1 ▸ e0)) hf)
theorem W_X12_comesTo_203 (A : Nat → Prop) (F : Nat) {k16 : Nat → Int32 → Int32 → Int32 → Int32 → Hp → Option (Int32 × Hp)} (hk16 : ∀ {h : Hp} {a0 : Nat} {x2 : Int32} {x3 : Int32} {x4 : Int32} {x5 : Int32} {r : Int32} {h1 : Hp} (_ : ∀ q0, h.2 a0 28 = some q0 → A q0), k16 a0 x2 x3 x4 x5 h = some (r, h1) → Fm A h h1) {h : Hp} {a0 : Nat} {x2 : Int32} {x3 : Int32} {x4 : Int32} {x5 : Int32} {x6 : Int32} {r : Int32} {h1 : Hp} (P_0 : ∀ q0, h.2 a0 28 = some q0 → A q0) (hf : X12_comesTo_203 F k16 a0 x2 x3 x4 x5 x6 h = some (r, h1)) : Fm A h h1 := by
  unfold X12_comesTo_203 at hf
  have m0 := fm_rf (A := A) (h := h)
  obtain ⟨k_1, hf⟩ := gq_ex hf
  obtain ⟨j_2, ej_2, hf⟩ := ob_ex hf
  have zj_2 : h.2 a0 28 = some j_2 := m0.1 ▸ ej_2
  obtain ⟨k_3, hf⟩ := gq_ex hf
  obtain ⟨b_4, hf⟩ := gq_ex hf
  obtain ⟨b_5, hf⟩ := gq_ex hf
  obtain ⟨c_6, ec_6, hf⟩ := ob_ex hf
  obtain ⟨b_8, hf⟩ := gq_ex hf
  obtain ⟨h_9, eh_9, hf⟩ := bd_ex hf
  have mh_9 := fm_tr m0 (fm_up eh_9 (P_0 _ zj_2))
  exact fm_tr mh_9 (W_X12_comesTo_230 A F hk16 (fun q0 e0 => P_0 q0 (mh_9.1 ▸ e0)) hf)
theorem W_X12_comesTo_192 (A : Nat → Prop) (F : Nat) {k16 : Nat → Int32 → Int32 → Int32 → Int32 → Hp → Option (Int32 × Hp)} (hk16 : ∀ {h : Hp} {a0 : Nat} {x2 : Int32} {x3 : Int32} {x4 : Int32} {x5 : Int32} {r : Int32} {h1 : Hp} (_ : ∀ q0, h.2 a0 28 = some q0 → A q0), k16 a0 x2 x3 x4 x5 h = some (r, h1) → Fm A h h1) {h : Hp} {a0 : Nat} {x2 : Int32} {x3 : Int32} {x4 : Int32} {x5 : Int32} {x6 : Int32} {r : Int32} {h1 : Hp} (P_0 : ∀ q0, h.2 a0 28 = some q0 → A q0) (hf : X12_comesTo_192 F k16 a0 x2 x3 x4 x5 x6 h = some (r, h1)) : Fm A h h1 := by
  unfold X12_comesTo_192 at hf
  have m0 := fm_rf (A := A) (h := h)
  obtain ⟨k_1, hf⟩ := gq_ex hf
  obtain ⟨j_2, ej_2, hf⟩ := ob_ex hf
  have zj_2 : h.2 a0 28 = some j_2 := m0.1 ▸ ej_2
  obtain ⟨k_3, hf⟩ := gq_ex hf
  obtain ⟨b_4, hf⟩ := gq_ex hf
  rcases ite_ex hf with ⟨q_5, hf⟩ | ⟨q_5, hf⟩
  · skip
    cases hf
    exact m0
  · skip
    exact fm_tr m0 (W_X12_comesTo_203 A F hk16 (fun q0 e0 => P_0 q0 (m0.1 ▸ e0)) hf)
theorem W_X12_comesTo_155 (A : Nat → Prop) (F : Nat) {k16 : Nat → Int32 → Int32 → Int32 → Int32 → Hp → Option (Int32 × Hp)} (hk16 : ∀ {h : Hp} {a0 : Nat} {x2 : Int32} {x3 : Int32} {x4 : Int32} {x5 : Int32} {r : Int32} {h1 : Hp} (_ : ∀ q0, h.2 a0 28 = some q0 → A q0), k16 a0 x2 x3 x4 x5 h = some (r, h1) → Fm A h h1) {h : Hp} {a0 : Nat} {x2 : Int32} {x3 : Int32} {x4 : Int32} {x5 : Int32} {x7 : Int32} {s0 : Int32} {s1 : Int32} {r : Int32} {h1 : Hp} (P_0 : ∀ q0, h.2 a0 28 = some q0 → A q0) (hf : X12_comesTo_155 F k16 a0 x2 x3 x4 x5 x7 s0 s1 h = some (r, h1)) : Fm A h h1 := by
  unfold X12_comesTo_155 at hf
  have m0 := fm_rf (A := A) (h := h)
  rcases ite_ex hf with ⟨q_1, hf⟩ | ⟨q_1, hf⟩
  · skip
    obtain ⟨x5_3, ex5_3, hf⟩ := bd_ex hf
    exact fm_tr m0 (W_X12_comesTo_230 A F hk16 (fun q0 e0 => P_0 q0 (m0.1 ▸ e0)) hf)
  · skip
    obtain ⟨x3_2, ex3_2, hf⟩ := bd_ex hf
    exact fm_tr m0 (W_X12_comesTo_230 A F hk16 (fun q0 e0 => P_0 q0 (m0.1 ▸ e0)) hf)
theorem W_X12_comesTo_135 (A : Nat → Prop) (F : Nat) {k16 : Nat → Int32 → Int32 → Int32 → Int32 → Hp → Option (Int32 × Hp)} (hk16 : ∀ {h : Hp} {a0 : Nat} {x2 : Int32} {x3 : Int32} {x4 : Int32} {x5 : Int32} {r : Int32} {h1 : Hp} (_ : ∀ q0, h.2 a0 28 = some q0 → A q0), k16 a0 x2 x3 x4 x5 h = some (r, h1) → Fm A h h1) {h : Hp} {a0 : Nat} {x2 : Int32} {x3 : Int32} {x4 : Int32} {x5 : Int32} {x6 : Int32} {x7 : Int32} {r : Int32} {h1 : Hp} (P_0 : ∀ q0, h.2 a0 28 = some q0 → A q0) (hf : X12_comesTo_135 F k16 a0 x2 x3 x4 x5 x6 x7 h = some (r, h1)) : Fm A h h1 := by
  unfold X12_comesTo_135 at hf
  have m0 := fm_rf (A := A) (h := h)
  obtain ⟨k_1, hf⟩ := gq_ex hf
  obtain ⟨j_2, ej_2, hf⟩ := ob_ex hf
  have zj_2 : h.2 a0 28 = some j_2 := m0.1 ▸ ej_2
  obtain ⟨k_3, hf⟩ := gq_ex hf
  obtain ⟨b_4, hf⟩ := gq_ex hf
  rcases ite_ex hf with ⟨q_5, hf⟩ | ⟨q_5, hf⟩
  · skip
    exact fm_tr m0 (W_X12_comesTo_155 A F hk16 (fun q0 e0 => P_0 q0 (m0.1 ▸ e0)) hf)
  · skip
    exact fm_tr m0 (W_X12_comesTo_155 A F hk16 (fun q0 e0 => P_0 q0 (m0.1 ▸ e0)) hf)
theorem W_X12_comesTo_85 (A : Nat → Prop) (F : Nat) {k16 : Nat → Int32 → Int32 → Int32 → Int32 → Hp → Option (Int32 × Hp)} (hk16 : ∀ {h : Hp} {a0 : Nat} {x2 : Int32} {x3 : Int32} {x4 : Int32} {x5 : Int32} {r : Int32} {h1 : Hp} (_ : ∀ q0, h.2 a0 28 = some q0 → A q0), k16 a0 x2 x3 x4 x5 h = some (r, h1) → Fm A h h1) {h : Hp} {a0 : Nat} {x2 : Int32} {x3 : Int32} {x4 : Int32} {x5 : Int32} {r0 : Nat} {s1 : Int32} {s2 : Int32} {r : Int32} {h1 : Hp} (P_0 : A r0) (P_1 : ∀ q0, h.2 a0 28 = some q0 → A q0) (hf : X12_comesTo_85 F k16 a0 x2 x3 x4 x5 r0 s1 s2 h = some (r, h1)) : Fm A h h1 := by
  unfold X12_comesTo_85 at hf
  have m0 := fm_rf (A := A) (h := h)
  obtain ⟨k_1, hf⟩ := gq_ex hf
  obtain ⟨b_2, hf⟩ := gq_ex hf
  obtain ⟨h_3, eh_3, hf⟩ := bd_ex hf
  have mh_3 := fm_tr m0 (fm_up eh_3 (P_0))
  obtain ⟨x3_4, ex3_4, hf⟩ := bd_ex hf
  exact fm_tr mh_3 (W_X12_comesTo_230 A F hk16 (fun q0 e0 => P_1 q0 (mh_3.1 ▸ e0)) hf)
theorem W_X12_comesTo_63 (A : Nat → Prop) (F : Nat) {k16 : Nat → Int32 → Int32 → Int32 → Int32 → Hp → Option (Int32 × Hp)} (hk16 : ∀ {h : Hp} {a0 : Nat} {x2 : Int32} {x3 : Int32} {x4 : Int32} {x5 : Int32} {r : Int32} {h1 : Hp} (_ : ∀ q0, h.2 a0 28 = some q0 → A q0), k16 a0 x2 x3 x4 x5 h = some (r, h1) → Fm A h h1) {h : Hp} {a0 : Nat} {x2 : Int32} {x3 : Int32} {x4 : Int32} {x5 : Int32} {x6 : Int32} {x7 : Int32} {r : Int32} {h1 : Hp} (P_0 : ∀ q0, h.2 a0 28 = some q0 → A q0) (hf : X12_comesTo_63 F k16 a0 x2 x3 x4 x5 x6 x7 h = some (r, h1)) : Fm A h h1 := by
  unfold X12_comesTo_63 at hf
  have m0 := fm_rf (A := A) (h := h)
  obtain ⟨k_1, hf⟩ := gq_ex hf
  obtain ⟨j_2, ej_2, hf⟩ := ob_ex hf
  have zj_2 : h.2 a0 28 = some j_2 := m0.1 ▸ ej_2
  rcases ite_ex hf with ⟨q_3, hf⟩ | ⟨q_3, hf⟩
  · skip
    exact fm_tr m0 (W_X12_comesTo_85 A F hk16 (P_0 _ zj_2) (fun q0 e0 => P_0 q0 (m0.1 ▸ e0)) hf)
  · skip
    obtain ⟨j_4, ej_4, hf⟩ := ob_ex hf
    have zj_4 : h.2 a0 29 = some j_4 := m0.1 ▸ ej_4
    obtain ⟨k_5, hf⟩ := gq_ex hf
    obtain ⟨b_6, hf⟩ := gq_ex hf
    exact fm_tr m0 (W_X12_comesTo_85 A F hk16 (P_0 _ zj_2) (fun q0 e0 => P_0 q0 (m0.1 ▸ e0)) hf)
theorem W_X12_comesTo_16 (A : Nat → Prop) (F : Nat) : ∀ (f : Nat) {h : Hp} {a0 : Nat} {x2 : Int32} {x3 : Int32} {x4 : Int32} {x5 : Int32} {r : Int32} {h1 : Hp} (P_0 : ∀ q0, h.2 a0 28 = some q0 → A q0), X12_comesTo_16 F f a0 x2 x3 x4 x5 h = some (r, h1) → Fm A h h1 := by
  intro f
  induction f with
  | zero =>
    intro h a0 x2 x3 x4 x5 r h1 P_0 hf
    exact nomatch (show (none : Option _) = some _ from hf)
  | succ f ih =>
    intro h a0 x2 x3 x4 x5 r h1 P_0 hf
    rw [X12_comesTo_16] at hf
    have m0 := fm_rf (A := A) (h := h)
    rcases ite_ex hf with ⟨q_1, hf⟩ | ⟨q_1, hf⟩
    · skip
      obtain ⟨k_2, hf⟩ := gq_ex hf
      obtain ⟨j_3, ej_3, hf⟩ := ob_ex hf
      have zj_3 : h.2 a0 28 = some j_3 := m0.1 ▸ ej_3
      obtain ⟨k_4, hf⟩ := gq_ex hf
      obtain ⟨b_5, hf⟩ := gq_ex hf
      cases hf
      exact m0
    · skip
      obtain ⟨k_6, hf⟩ := gq_ex hf
      obtain ⟨j_7, ej_7, hf⟩ := ob_ex hf
      have zj_7 : h.2 a0 23 = some j_7 := m0.1 ▸ ej_7
      obtain ⟨k_8, hf⟩ := gq_ex hf
      obtain ⟨b_9, hf⟩ := gq_ex hf
      obtain ⟨x6_10, ex6_10, hf⟩ := bd_ex hf
      obtain ⟨b_11, hf⟩ := gq_ex hf
      obtain ⟨x7_12, ex7_12, hf⟩ := bd_ex hf
      obtain ⟨x5_13, ex5_13, hf⟩ := bd_ex hf
      rcases ite_ex hf with ⟨q_14, hf⟩ | ⟨q_14, hf⟩
      · skip
        exact fm_tr m0 (W_X12_comesTo_63 A F (fun p0 q => ih p0 q) (fun q0 e0 => P_0 q0 (m0.1 ▸ e0)) hf)
      · skip
        rcases ite_ex hf with ⟨q_15, hf⟩ | ⟨q_15, hf⟩
        · skip
          exact fm_tr m0 (W_X12_comesTo_63 A F (fun p0 q => ih p0 q) (fun q0 e0 => P_0 q0 (m0.1 ▸ e0)) hf)
        · skip
          rcases ite_ex hf with ⟨q_16, hf⟩ | ⟨q_16, hf⟩
          · skip
            obtain ⟨j_22, ej_22, hf⟩ := ob_ex hf
            have zj_22 : h.2 a0 28 = some j_22 := m0.1 ▸ ej_22
            obtain ⟨k_23, hf⟩ := gq_ex hf
            obtain ⟨b_24, hf⟩ := gq_ex hf
            obtain ⟨b_25, hf⟩ := gq_ex hf
            obtain ⟨h_26, eh_26, hf⟩ := bd_ex hf
            have mh_26 := fm_tr m0 (fm_up eh_26 (P_0 _ zj_22))
            exact fm_tr mh_26 (W_X12_comesTo_230 A F (fun p0 q => ih p0 q) (fun q0 e0 => P_0 q0 (mh_26.1 ▸ e0)) hf)
          · skip
            rcases ite_ex hf with ⟨q_17, hf⟩ | ⟨q_17, hf⟩
            · skip
              exact fm_tr m0 (W_X12_comesTo_135 A F (fun p0 q => ih p0 q) (fun q0 e0 => P_0 q0 (m0.1 ▸ e0)) hf)
            · skip
              rcases ite_ex hf with ⟨q_18, hf⟩ | ⟨q_18, hf⟩
              · skip
                exact fm_tr m0 (W_X12_comesTo_135 A F (fun p0 q => ih p0 q) (fun q0 e0 => P_0 q0 (m0.1 ▸ e0)) hf)
              · skip
                obtain ⟨x3_19, ex3_19, hf⟩ := bd_ex hf
                rcases ite_ex hf with ⟨q_20, hf⟩ | ⟨q_20, hf⟩
                · skip
                  exact fm_tr m0 (W_X12_comesTo_192 A F (fun p0 q => ih p0 q) (fun q0 e0 => P_0 q0 (m0.1 ▸ e0)) hf)
                · skip
                  rcases ite_ex hf with ⟨q_21, hf⟩ | ⟨q_21, hf⟩
                  · skip
                    exact fm_tr m0 (W_X12_comesTo_192 A F (fun p0 q => ih p0 q) (fun q0 e0 => P_0 q0 (m0.1 ▸ e0)) hf)
                  · skip
                    exact fm_tr m0 (W_X12_comesTo_203 A F (fun p0 q => ih p0 q) (fun q0 e0 => P_0 q0 (m0.1 ▸ e0)) hf)
theorem W_X12_comesTo_0 (A : Nat → Prop) (F : Nat) {h : Hp} {a0 : Nat} {x1 : Int32} {x2 : Int32} {r : Int32} {h1 : Hp} (P_0 : ∀ q0, h.2 a0 28 = some q0 → A q0) (hf : X12_comesTo F a0 x1 x2 h = some (r, h1)) : Fm A h h1 := by
  unfold X12_comesTo at hf
  have m0 := fm_rf (A := A) (h := h)
  obtain ⟨x4_1, ex4_1, hf⟩ := bd_ex hf
  exact fm_tr m0 (W_X12_comesTo_16 A F _ (fun q0 e0 => P_0 q0 (m0.1 ▸ e0)) hf)
theorem W_X12_comesTo (A : Nat → Prop) (F : Nat) {h : Hp} {a0 : Nat} {x1 : Int32} {x2 : Int32} {r : Int32} {h1 : Hp} (P_0 : ∀ q0, h.2 a0 28 = some q0 → A q0) (hf : X12_comesTo F a0 x1 x2 h = some (r, h1)) : Fm A h h1 := W_X12_comesTo_0 A F P_0 hf
theorem W_X12_byLaw_83 (A : Nat → Prop) (F : Nat) {k2 : Nat → Int32 → Int32 → Int32 → Hp → Option (Int32 × Hp)} (hk2 : ∀ {h : Hp} {a0 : Nat} {x1 : Int32} {x2 : Int32} {x3 : Int32} {r : Int32} {h1 : Hp} (_ : ∀ q0, h.2 a0 28 = some q0 → A q0), k2 a0 x1 x2 x3 h = some (r, h1) → Fm A h h1) {h : Hp} {a0 : Nat} {x1 : Int32} {x2 : Int32} {x3 : Int32} {r : Int32} {h1 : Hp} (P_0 : ∀ q0, h.2 a0 28 = some q0 → A q0) (hf : X12_byLaw_83 F k2 a0 x1 x2 x3 h = some (r, h1)) : Fm A h h1 := by
  unfold X12_byLaw_83 at hf
  have m0 := fm_rf (A := A) (h := h)
  obtain ⟨x3_1, ex3_1, hf⟩ := bd_ex hf
  exact fm_tr m0 (hk2 (fun q0 e0 => P_0 q0 (m0.1 ▸ e0)) hf)
theorem W_X12_byLaw_2 (A : Nat → Prop) (F : Nat) : ∀ (f : Nat) {h : Hp} {a0 : Nat} {x1 : Int32} {x2 : Int32} {x3 : Int32} {r : Int32} {h1 : Hp} (P_0 : ∀ q0, h.2 a0 28 = some q0 → A q0), X12_byLaw_2 F f a0 x1 x2 x3 h = some (r, h1) → Fm A h h1 := by
  intro f
  induction f with
  | zero =>
    intro h a0 x1 x2 x3 r h1 P_0 hf
    exact nomatch (show (none : Option _) = some _ from hf)
  | succ f ih =>
    intro h a0 x1 x2 x3 r h1 P_0 hf
    rw [X12_byLaw_2] at hf
    have m0 := fm_rf (A := A) (h := h)
    obtain ⟨k_1, hf⟩ := gq_ex hf
    rcases ite_ex hf with ⟨q_2, hf⟩ | ⟨q_2, hf⟩
    · skip
      cases hf
      exact m0
    · skip
      obtain ⟨j_3, ej_3, hf⟩ := ob_ex hf
      have zj_3 : h.2 a0 24 = some j_3 := m0.1 ▸ ej_3
      obtain ⟨k_4, hf⟩ := gq_ex hf
      obtain ⟨b_5, hf⟩ := gq_ex hf
      rcases ite_ex hf with ⟨q_6, hf⟩ | ⟨q_6, hf⟩
      · skip
        obtain ⟨j_7, ej_7, hf⟩ := ob_ex hf
        have zj_7 : h.2 a0 26 = some j_7 := m0.1 ▸ ej_7
        obtain ⟨k_8, hf⟩ := gq_ex hf
        obtain ⟨b_9, hf⟩ := gq_ex hf
        obtain ⟨j_10, ej_10, hf⟩ := ob_ex hf
        have zj_10 : h.2 a0 27 = some j_10 := m0.1 ▸ ej_10
        obtain ⟨k_11, hf⟩ := gq_ex hf
        obtain ⟨b_12, hf⟩ := gq_ex hf
        obtain ⟨c_13, h_14, ec_13, hf⟩ := bq_ex hf
        have mh_14 := fm_tr m0 (W_X12_comesTo A F (fun q0 e0 => P_0 q0 (m0.1 ▸ e0)) ec_13)
        rcases ite_ex hf with ⟨q_15, hf⟩ | ⟨q_15, hf⟩
        · skip
          obtain ⟨j_16, ej_16, hf⟩ := ob_ex hf
          have zj_16 : h.2 a0 25 = some j_16 := mh_14.1 ▸ ej_16
          obtain ⟨k_17, hf⟩ := gq_ex hf
          obtain ⟨b_18, hf⟩ := gq_ex hf
          obtain ⟨j_19, ej_19, hf⟩ := ob_ex hf
          have zj_19 : h.2 a0 26 = some j_19 := mh_14.1 ▸ ej_19
          obtain ⟨k_20, hf⟩ := gq_ex hf
          obtain ⟨b_21, hf⟩ := gq_ex hf
          obtain ⟨c_22, h_23, ec_22, hf⟩ := bq_ex hf
          have mh_23 := fm_tr mh_14 (W_X12_comesTo A F (fun q0 e0 => P_0 q0 (mh_14.1 ▸ e0)) ec_22)
          rcases ite_ex hf with ⟨q_24, hf⟩ | ⟨q_24, hf⟩
          · skip
            rcases ite_ex hf with ⟨q_25, hf⟩ | ⟨q_25, hf⟩
            · skip
              cases hf
              exact mh_23
            · skip
              cases hf
              exact mh_23
          · skip
            cases hf
            exact mh_23
        · skip
          exact fm_tr mh_14 (W_X12_byLaw_83 A F (fun p0 q => ih p0 q) (fun q0 e0 => P_0 q0 (mh_14.1 ▸ e0)) hf)
      · skip
        exact fm_tr m0 (W_X12_byLaw_83 A F (fun p0 q => ih p0 q) (fun q0 e0 => P_0 q0 (m0.1 ▸ e0)) hf)
theorem W_X12_byLaw_0 (A : Nat → Prop) (F : Nat) {h : Hp} {a0 : Nat} {x1 : Int32} {x2 : Int32} {r : Int32} {h1 : Hp} (P_0 : ∀ q0, h.2 a0 28 = some q0 → A q0) (hf : X12_byLaw F a0 x1 x2 h = some (r, h1)) : Fm A h h1 := by
  unfold X12_byLaw at hf
  have m0 := fm_rf (A := A) (h := h)
  exact fm_tr m0 (W_X12_byLaw_2 A F _ (fun q0 e0 => P_0 q0 (m0.1 ▸ e0)) hf)
theorem W_X12_byLaw (A : Nat → Prop) (F : Nat) {h : Hp} {a0 : Nat} {x1 : Int32} {x2 : Int32} {r : Int32} {h1 : Hp} (P_0 : ∀ q0, h.2 a0 28 = some q0 → A q0) (hf : X12_byLaw F a0 x1 x2 h = some (r, h1)) : Fm A h h1 := W_X12_byLaw_0 A F P_0 hf
theorem W_X12_holdsAny_42 (A : Nat → Prop) (F : Nat) {k2 : Nat → Int32 → Int32 → Hp → Option (Int32 × Hp)} (hk2 : ∀ {h : Hp} {a0 : Nat} {x1 : Int32} {x2 : Int32} {r : Int32} {h1 : Hp} (_ : ∀ q0, h.2 a0 28 = some q0 → A q0), k2 a0 x1 x2 h = some (r, h1) → Fm A h h1) {h : Hp} {a0 : Nat} {x1 : Int32} {x2 : Int32} {r : Int32} {h1 : Hp} (P_0 : ∀ q0, h.2 a0 28 = some q0 → A q0) (hf : X12_holdsAny_42 F k2 a0 x1 x2 h = some (r, h1)) : Fm A h h1 := by
  unfold X12_holdsAny_42 at hf
  have m0 := fm_rf (A := A) (h := h)
  obtain ⟨x2_1, ex2_1, hf⟩ := bd_ex hf
  exact fm_tr m0 (hk2 (fun q0 e0 => P_0 q0 (m0.1 ▸ e0)) hf)
theorem W_X12_holdsAny_2 (A : Nat → Prop) (F : Nat) : ∀ (f : Nat) {h : Hp} {a0 : Nat} {x1 : Int32} {x2 : Int32} {r : Int32} {h1 : Hp} (P_0 : ∀ q0, h.2 a0 28 = some q0 → A q0), X12_holdsAny_2 F f a0 x1 x2 h = some (r, h1) → Fm A h h1 := by
  intro f
  induction f with
  | zero =>
    intro h a0 x1 x2 r h1 P_0 hf
    exact nomatch (show (none : Option _) = some _ from hf)
  | succ f ih =>
    intro h a0 x1 x2 r h1 P_0 hf
    rw [X12_holdsAny_2] at hf
    have m0 := fm_rf (A := A) (h := h)
    obtain ⟨k_1, hf⟩ := gq_ex hf
    rcases ite_ex hf with ⟨q_2, hf⟩ | ⟨q_2, hf⟩
    · skip
      cases hf
      exact m0
    · skip
      obtain ⟨j_3, ej_3, hf⟩ := ob_ex hf
      have zj_3 : h.2 a0 24 = some j_3 := m0.1 ▸ ej_3
      obtain ⟨k_4, hf⟩ := gq_ex hf
      obtain ⟨b_5, hf⟩ := gq_ex hf
      rcases ite_ex hf with ⟨q_6, hf⟩ | ⟨q_6, hf⟩
      · skip
        obtain ⟨j_7, ej_7, hf⟩ := ob_ex hf
        have zj_7 : h.2 a0 26 = some j_7 := m0.1 ▸ ej_7
        obtain ⟨k_8, hf⟩ := gq_ex hf
        obtain ⟨b_9, hf⟩ := gq_ex hf
        obtain ⟨j_10, ej_10, hf⟩ := ob_ex hf
        have zj_10 : h.2 a0 27 = some j_10 := m0.1 ▸ ej_10
        obtain ⟨k_11, hf⟩ := gq_ex hf
        obtain ⟨b_12, hf⟩ := gq_ex hf
        obtain ⟨c_13, h_14, ec_13, hf⟩ := bq_ex hf
        have mh_14 := fm_tr m0 (W_X12_comesTo A F (fun q0 e0 => P_0 q0 (m0.1 ▸ e0)) ec_13)
        rcases ite_ex hf with ⟨q_15, hf⟩ | ⟨q_15, hf⟩
        · skip
          cases hf
          exact mh_14
        · skip
          exact fm_tr mh_14 (W_X12_holdsAny_42 A F (fun p0 q => ih p0 q) (fun q0 e0 => P_0 q0 (mh_14.1 ▸ e0)) hf)
      · skip
        exact fm_tr m0 (W_X12_holdsAny_42 A F (fun p0 q => ih p0 q) (fun q0 e0 => P_0 q0 (m0.1 ▸ e0)) hf)
theorem W_X12_holdsAny_0 (A : Nat → Prop) (F : Nat) {h : Hp} {a0 : Nat} {x1 : Int32} {r : Int32} {h1 : Hp} (P_0 : ∀ q0, h.2 a0 28 = some q0 → A q0) (hf : X12_holdsAny F a0 x1 h = some (r, h1)) : Fm A h h1 := by
  unfold X12_holdsAny at hf
  have m0 := fm_rf (A := A) (h := h)
  exact fm_tr m0 (W_X12_holdsAny_2 A F _ (fun q0 e0 => P_0 q0 (m0.1 ▸ e0)) hf)
theorem W_X12_holdsAny (A : Nat → Prop) (F : Nat) {h : Hp} {a0 : Nat} {x1 : Int32} {r : Int32} {h1 : Hp} (P_0 : ∀ q0, h.2 a0 28 = some q0 → A q0) (hf : X12_holdsAny F a0 x1 h = some (r, h1)) : Fm A h h1 := W_X12_holdsAny_0 A F P_0 hf
theorem W_X12_readsTimes_0 (A : Nat → Prop) (F : Nat) {h : Hp} {a0 : Nat} {h1 : Hp} (P_0 : A a0) (hf : X12_readsTimes F a0 h = some h1) : Fm A h h1 := by
  unfold X12_readsTimes at hf
  have m0 := fm_rf (A := A) (h := h)
  obtain ⟨k_1, hf⟩ := gq_ex hf
  obtain ⟨h_2, eh_2, hf⟩ := bd_ex hf
  have mh_2 := fm_tr m0 (fm_up eh_2 (P_0))
  obtain ⟨h_3, eh_3, hf⟩ := bd_ex hf
  have mh_3 := fm_tr mh_2 (fm_up eh_3 (P_0))
  obtain ⟨c_4, ec_4, hf⟩ := ob_ex hf
  obtain ⟨c_6, ec_6, hf⟩ := ob_ex hf
  rcases ite_ex hf with ⟨q_8, hf⟩ | ⟨q_8, hf⟩
  · skip
    cases hf
    exact mh_3
  · skip
    rcases ite_ex hf with ⟨q_9, hf⟩ | ⟨q_9, hf⟩
    · skip
      cases hf
      exact mh_3
    · skip
      obtain ⟨c_10, ec_10, hf⟩ := ob_ex hf
      rcases ite_ex hf with ⟨q_12, hf⟩ | ⟨q_12, hf⟩
      · skip
        obtain ⟨c_13, ec_13, hf⟩ := ob_ex hf
        obtain ⟨h_15, eh_15, hf⟩ := bd_ex hf
        have mh_15 := fm_tr mh_3 (fm_up eh_15 (P_0))
        obtain ⟨h_16, eh_16, hf⟩ := bd_ex hf
        have mh_16 := fm_tr mh_15 (fm_up eh_16 (P_0))
        cases hf
        exact mh_16
      · skip
        cases hf
        exact mh_3
theorem W_X12_readsTimes (A : Nat → Prop) (F : Nat) {h : Hp} {a0 : Nat} {h1 : Hp} (P_0 : A a0) (hf : X12_readsTimes F a0 h = some h1) : Fm A h h1 := W_X12_readsTimes_0 A F P_0 hf
theorem W_X12_repeats_31 (A : Nat → Prop) (F : Nat) : ∀ (f : Nat) {h : Hp} {a0 : Nat} {x1 : Int32} {x2 : Int32} {x4 : Int32} {x5 : Int32} {r : Int32} {h1 : Hp} (P_0 : A a0) (P_1 : ∀ q0, h.2 a0 30 = some q0 → A q0), X12_repeats_31 F f a0 x1 x2 x4 x5 h = some (r, h1) → Fm A h h1 := by
  intro f
  induction f with
  | zero =>
    intro h a0 x1 x2 x4 x5 r h1 P_0 P_1 hf
    exact nomatch (show (none : Option _) = some _ from hf)
  | succ f ih =>
    intro h a0 x1 x2 x4 x5 r h1 P_0 P_1 hf
    rw [X12_repeats_31] at hf
    have m0 := fm_rf (A := A) (h := h)
    rcases ite_ex hf with ⟨q_1, hf⟩ | ⟨q_1, hf⟩
    · skip
      obtain ⟨k_2, hf⟩ := gq_ex hf
      obtain ⟨h_3, eh_3, hf⟩ := bd_ex hf
      have mh_3 := fm_tr m0 (fm_up eh_3 (P_0))
      cases hf
      exact mh_3
    · skip
      obtain ⟨k_4, hf⟩ := gq_ex hf
      obtain ⟨j_5, ej_5, hf⟩ := ob_ex hf
      have zj_5 : h.2 a0 30 = some j_5 := m0.1 ▸ ej_5
      obtain ⟨k_6, hf⟩ := gq_ex hf
      obtain ⟨b_7, hf⟩ := gq_ex hf
      obtain ⟨b_8, hf⟩ := gq_ex hf
      obtain ⟨h_9, eh_9, hf⟩ := bd_ex hf
      have mh_9 := fm_tr m0 (fm_up eh_9 (P_1 _ zj_5))
      obtain ⟨x5_10, ex5_10, hf⟩ := bd_ex hf
      exact fm_tr mh_9 (ih P_0 (fun q0 e0 => P_1 q0 (mh_9.1 ▸ e0)) hf)
theorem W_X12_repeats_0 (A : Nat → Prop) (F : Nat) {h : Hp} {a0 : Nat} {x1 : Int32} {x2 : Int32} {x3 : Int32} {r : Int32} {h1 : Hp} (P_0 : A a0) (P_1 : ∀ q0, h.2 a0 30 = some q0 → A q0) (hf : X12_repeats F a0 x1 x2 x3 h = some (r, h1)) : Fm A h h1 := by
  unfold X12_repeats at hf
  have m0 := fm_rf (A := A) (h := h)
  obtain ⟨k_1, hf⟩ := gq_ex hf
  obtain ⟨x4_2, ex4_2, hf⟩ := bd_ex hf
  rcases ite_ex hf with ⟨q_3, hf⟩ | ⟨q_3, hf⟩
  · skip
    exact fm_tr m0 (W_X12_repeats_31 A F _ P_0 (fun q0 e0 => P_1 q0 (m0.1 ▸ e0)) hf)
  · skip
    obtain ⟨c_4, h_5, ec_4, hf⟩ := bq_ex hf
    have mh_5 := fm_tr m0 (W_X12_wrongAt A F P_0 ec_4)
    obtain ⟨n_6, hf⟩ := gq_ex hf
    cases hf
    exact mh_5
theorem W_X12_repeats (A : Nat → Prop) (F : Nat) {h : Hp} {a0 : Nat} {x1 : Int32} {x2 : Int32} {x3 : Int32} {r : Int32} {h1 : Hp} (P_0 : A a0) (P_1 : ∀ q0, h.2 a0 30 = some q0 → A q0) (hf : X12_repeats F a0 x1 x2 x3 h = some (r, h1)) : Fm A h h1 := W_X12_repeats_0 A F P_0 P_1 hf
theorem W_X12_readsAmount_27 (A : Nat → Prop) (F : Nat) : ∀ (f : Nat) {h : Hp} {a0 : Nat} {x1 : Int32} {x2 : Int32} {r : Int32} {h1 : Hp} (P_0 : A a0), X12_readsAmount_27 F f a0 x1 x2 h = some (r, h1) → Fm A h h1 := by
  intro f
  induction f with
  | zero =>
    intro h a0 x1 x2 r h1 P_0 hf
    exact nomatch (show (none : Option _) = some _ from hf)
  | succ f ih =>
    intro h a0 x1 x2 r h1 P_0 hf
    rw [X12_readsAmount_27] at hf
    have m0 := fm_rf (A := A) (h := h)
    obtain ⟨k_1, hf⟩ := gq_ex hf
    obtain ⟨c_2, ec_2, hf⟩ := ob_ex hf
    rcases ite_ex hf with ⟨q_4, hf⟩ | ⟨q_4, hf⟩
    · skip
      cases hf
      exact m0
    · skip
      rcases ite_ex hf with ⟨q_5, hf⟩ | ⟨q_5, hf⟩
      · skip
        obtain ⟨c_10, h_11, ec_10, hf⟩ := bq_ex hf
        have mh_11 := fm_tr m0 (W_X12_wrongAt A F P_0 ec_10)
        obtain ⟨n_12, hf⟩ := gq_ex hf
        cases hf
        exact mh_11
      · skip
        obtain ⟨c_6, ec_6, hf⟩ := ob_ex hf
        obtain ⟨h_8, eh_8, hf⟩ := bd_ex hf
        have mh_8 := fm_tr m0 (fm_up eh_8 (P_0))
        obtain ⟨h_9, eh_9, hf⟩ := bd_ex hf
        have mh_9 := fm_tr mh_8 (fm_up eh_9 (P_0))
        exact fm_tr mh_9 (ih P_0 hf)
theorem W_X12_readsAmount_0 (A : Nat → Prop) (F : Nat) {h : Hp} {a0 : Nat} {x1 : Int32} {r : Int32} {h1 : Hp} (P_0 : A a0) (hf : X12_readsAmount F a0 x1 h = some (r, h1)) : Fm A h h1 := by
  unfold X12_readsAmount at hf
  have m0 := fm_rf (A := A) (h := h)
  obtain ⟨k_1, hf⟩ := gq_ex hf
  obtain ⟨x2_2, ex2_2, hf⟩ := bd_ex hf
  obtain ⟨c_3, ec_3, hf⟩ := ob_ex hf
  rcases ite_ex hf with ⟨q_5, hf⟩ | ⟨q_5, hf⟩
  · skip
    obtain ⟨c_7, h_8, ec_7, hf⟩ := bq_ex hf
    have mh_8 := fm_tr m0 (W_X12_wrongAt A F P_0 ec_7)
    obtain ⟨n_9, hf⟩ := gq_ex hf
    cases hf
    exact mh_8
  · skip
    obtain ⟨h_6, eh_6, hf⟩ := bd_ex hf
    have mh_6 := fm_tr m0 (fm_up eh_6 (P_0))
    exact fm_tr mh_6 (W_X12_readsAmount_27 A F _ P_0 hf)
theorem W_X12_readsAmount (A : Nat → Prop) (F : Nat) {h : Hp} {a0 : Nat} {x1 : Int32} {r : Int32} {h1 : Hp} (P_0 : A a0) (hf : X12_readsAmount F a0 x1 h = some (r, h1)) : Fm A h h1 := W_X12_readsAmount_0 A F P_0 hf
theorem W_X12_readsItem_202 (A : Nat → Prop) (F : Nat) : ∀ (f : Nat) {h : Hp} {a0 : Nat} {r : Int32} {h1 : Hp} (P_0 : A a0) (P_1 : ∀ q0, h.2 a0 30 = some q0 → A q0), X12_readsItem_202 F f a0 h = some (r, h1) → Fm A h h1 := by
  intro f
  induction f with
  | zero =>
    intro h a0 r h1 P_0 P_1 hf
    exact nomatch (show (none : Option _) = some _ from hf)
  | succ f ih =>
    intro h a0 r h1 P_0 P_1 hf
    rw [X12_readsItem_202] at hf
    have m0 := fm_rf (A := A) (h := h)
    obtain ⟨k_1, hf⟩ := gq_ex hf
    obtain ⟨c_2, ec_2, hf⟩ := ob_ex hf
    rcases ite_ex hf with ⟨q_4, hf⟩ | ⟨q_4, hf⟩
    · skip
      rcases ite_ex hf with ⟨q_5, hf⟩ | ⟨q_5, hf⟩
      · skip
        cases hf
        exact m0
      · skip
        obtain ⟨h_6, eh_6, hf⟩ := bd_ex hf
        have mh_6 := fm_tr m0 (fm_up eh_6 (P_0))
        obtain ⟨h_7, eh_7, hf⟩ := bd_ex hf
        have mh_7 := fm_tr mh_6 (fm_up eh_7 (P_0))
        obtain ⟨j_8, ej_8, hf⟩ := ob_ex hf
        have zj_8 : h.2 a0 32 = some j_8 := mh_7.1 ▸ ej_8
        obtain ⟨k_9, hf⟩ := gq_ex hf
        obtain ⟨b_10, hf⟩ := gq_ex hf
        obtain ⟨j_11, ej_11, hf⟩ := ob_ex hf
        have zj_11 : h.2 a0 33 = some j_11 := mh_7.1 ▸ ej_11
        obtain ⟨k_12, hf⟩ := gq_ex hf
        obtain ⟨b_13, hf⟩ := gq_ex hf
        obtain ⟨j_14, ej_14, hf⟩ := ob_ex hf
        have zj_14 : h.2 a0 31 = some j_14 := mh_7.1 ▸ ej_14
        obtain ⟨k_15, hf⟩ := gq_ex hf
        obtain ⟨b_16, hf⟩ := gq_ex hf
        obtain ⟨c_17, h_18, ec_17, hf⟩ := bq_ex hf
        have mh_18 := fm_tr mh_7 (W_X12_repeats A F P_0 (fun q0 e0 => P_1 q0 (mh_7.1 ▸ e0)) ec_17)
        rcases ite_ex hf with ⟨q_19, hf⟩ | ⟨q_19, hf⟩
        · skip
          cases hf
          exact mh_18
        · skip
          exact fm_tr mh_18 (ih P_0 (fun q0 e0 => P_1 q0 (mh_18.1 ▸ e0)) hf)
    · skip
      cases hf
      exact m0
theorem W_X12_readsItem_4 (A : Nat → Prop) (F : Nat) : ∀ (f : Nat) {h : Hp} {a0 : Nat} {r : Int32} {h1 : Hp} (P_0 : A a0) (P_1 : ∀ q0, h.2 a0 31 = some q0 → A q0) (P_2 : ∀ q0, h.2 a0 32 = some q0 → A q0) (P_3 : ∀ q0, h.2 a0 33 = some q0 → A q0) (P_4 : ∀ q0, h.2 a0 30 = some q0 → A q0), X12_readsItem_4 F f a0 h = some (r, h1) → Fm A h h1 := by
  intro f
  induction f with
  | zero =>
    intro h a0 r h1 P_0 P_1 P_2 P_3 P_4 hf
    exact nomatch (show (none : Option _) = some _ from hf)
  | succ f ih =>
    intro h a0 r h1 P_0 P_1 P_2 P_3 P_4 hf
    rw [X12_readsItem_4] at hf
    have m0 := fm_rf (A := A) (h := h)
    obtain ⟨k_1, hf⟩ := gq_ex hf
    obtain ⟨c_2, ec_2, hf⟩ := ob_ex hf
    rcases ite_ex hf with ⟨q_4, hf⟩ | ⟨q_4, hf⟩
    · skip
      rcases ite_ex hf with ⟨q_29, hf⟩ | ⟨q_29, hf⟩
      · skip
        obtain ⟨c_46, h_47, ec_46, hf⟩ := bq_ex hf
        have mh_47 := fm_tr m0 (W_X12_wrongAt A F P_0 ec_46)
        obtain ⟨n_48, hf⟩ := gq_ex hf
        cases hf
        exact mh_47
      · skip
        obtain ⟨j_30, ej_30, hf⟩ := ob_ex hf
        have zj_30 : h.2 a0 31 = some j_30 := m0.1 ▸ ej_30
        obtain ⟨k_31, hf⟩ := gq_ex hf
        obtain ⟨b_32, hf⟩ := gq_ex hf
        obtain ⟨h_33, eh_33, hf⟩ := bd_ex hf
        have mh_33 := fm_tr m0 (fm_up eh_33 (P_1 _ zj_30))
        obtain ⟨j_34, ej_34, hf⟩ := ob_ex hf
        have zj_34 : h.2 a0 32 = some j_34 := mh_33.1 ▸ ej_34
        obtain ⟨k_35, hf⟩ := gq_ex hf
        obtain ⟨b_36, hf⟩ := gq_ex hf
        obtain ⟨h_37, eh_37, hf⟩ := bd_ex hf
        have mh_37 := fm_tr mh_33 (fm_up eh_37 (P_2 _ zj_34))
        obtain ⟨j_38, ej_38, hf⟩ := ob_ex hf
        have zj_38 : h.2 a0 33 = some j_38 := mh_37.1 ▸ ej_38
        obtain ⟨k_39, hf⟩ := gq_ex hf
        obtain ⟨b_40, hf⟩ := gq_ex hf
        obtain ⟨h_41, eh_41, hf⟩ := bd_ex hf
        have mh_41 := fm_tr mh_37 (fm_up eh_41 (P_3 _ zj_38))
        obtain ⟨h_42, eh_42, hf⟩ := bd_ex hf
        have mh_42 := fm_tr mh_41 (fm_up eh_42 (P_0))
        obtain ⟨h_43, eh_43, hf⟩ := bd_ex hf
        have mh_43 := fm_tr mh_42 (fm_up eh_43 (P_0))
        obtain ⟨h_45, eh_45, hf⟩ := ob_ex hf
        have mh_45 := fm_tr mh_43 (W_X12_readsTimes A F P_0 eh_45)
        exact fm_tr mh_45 (ih P_0 (fun q0 e0 => P_1 q0 (mh_45.1 ▸ e0)) (fun q0 e0 => P_2 q0 (mh_45.1 ▸ e0)) (fun q0 e0 => P_3 q0 (mh_45.1 ▸ e0)) (fun q0 e0 => P_4 q0 (mh_45.1 ▸ e0)) hf)
    · skip
      obtain ⟨x1_5, ex1_5, hf⟩ := bd_ex hf
      obtain ⟨x2_6, ex2_6, hf⟩ := bd_ex hf
      obtain ⟨x3_7, ex3_7, hf⟩ := bd_ex hf
      obtain ⟨c_8, h_9, ec_8, hf⟩ := bq_ex hf
      have mh_9 := fm_tr m0 (W_X12_readsAmount A F P_0 ec_8)
      rcases ite_ex hf with ⟨q_10, hf⟩ | ⟨q_10, hf⟩
      · skip
        cases hf
        exact mh_9
      · skip
        obtain ⟨c_11, ec_11, hf⟩ := ob_ex hf
        rcases ite_ex hf with ⟨q_13, hf⟩ | ⟨q_13, hf⟩
        · skip
          obtain ⟨c_26, h_27, ec_26, hf⟩ := bq_ex hf
          have mh_27 := fm_tr mh_9 (W_X12_wrongAt A F P_0 ec_26)
          obtain ⟨n_28, hf⟩ := gq_ex hf
          cases hf
          exact mh_27
        · skip
          rcases ite_ex hf with ⟨q_14, hf⟩ | ⟨q_14, hf⟩
          · skip
            obtain ⟨j_15, ej_15, hf⟩ := ob_ex hf
            have zj_15 : h.2 a0 30 = some j_15 := mh_9.1 ▸ ej_15
            obtain ⟨k_16, hf⟩ := gq_ex hf
            obtain ⟨b_17, hf⟩ := gq_ex hf
            obtain ⟨h_18, eh_18, hf⟩ := bd_ex hf
            have mh_18 := fm_tr mh_9 (fm_up eh_18 (P_4 _ zj_15))
            obtain ⟨h_19, eh_19, hf⟩ := bd_ex hf
            have mh_19 := fm_tr mh_18 (fm_up eh_19 (P_0))
            obtain ⟨c_20, h_21, ec_20, hf⟩ := bq_ex hf
            have mh_21 := fm_tr mh_19 (W_X12_repeats A F P_0 (fun q0 e0 => P_4 q0 (mh_19.1 ▸ e0)) ec_20)
            rcases ite_ex hf with ⟨q_22, hf⟩ | ⟨q_22, hf⟩
            · skip
              cases hf
              exact mh_21
            · skip
              exact fm_tr mh_21 (W_X12_readsItem_202 A F _ P_0 (fun q0 e0 => P_4 q0 (mh_21.1 ▸ e0)) hf)
          · skip
            obtain ⟨c_23, h_24, ec_23, hf⟩ := bq_ex hf
            have mh_24 := fm_tr mh_9 (W_X12_wrongAt A F P_0 ec_23)
            obtain ⟨n_25, hf⟩ := gq_ex hf
            cases hf
            exact mh_24
theorem W_X12_readsItem_0 (A : Nat → Prop) (F : Nat) {h : Hp} {a0 : Nat} {r : Int32} {h1 : Hp} (P_0 : A a0) (P_1 : ∀ q0, h.2 a0 31 = some q0 → A q0) (P_2 : ∀ q0, h.2 a0 32 = some q0 → A q0) (P_3 : ∀ q0, h.2 a0 33 = some q0 → A q0) (P_4 : ∀ q0, h.2 a0 30 = some q0 → A q0) (hf : X12_readsItem F a0 h = some (r, h1)) : Fm A h h1 := by
  unfold X12_readsItem at hf
  have m0 := fm_rf (A := A) (h := h)
  obtain ⟨k_1, hf⟩ := gq_ex hf
  obtain ⟨h_3, eh_3, hf⟩ := ob_ex hf
  have mh_3 := fm_tr m0 (W_X12_readsTimes A F P_0 eh_3)
  exact fm_tr mh_3 (W_X12_readsItem_4 A F _ P_0 (fun q0 e0 => P_1 q0 (mh_3.1 ▸ e0)) (fun q0 e0 => P_2 q0 (mh_3.1 ▸ e0)) (fun q0 e0 => P_3 q0 (mh_3.1 ▸ e0)) (fun q0 e0 => P_4 q0 (mh_3.1 ▸ e0)) hf)
theorem W_X12_readsItem (A : Nat → Prop) (F : Nat) {h : Hp} {a0 : Nat} {r : Int32} {h1 : Hp} (P_0 : A a0) (P_1 : ∀ q0, h.2 a0 31 = some q0 → A q0) (P_2 : ∀ q0, h.2 a0 32 = some q0 → A q0) (P_3 : ∀ q0, h.2 a0 33 = some q0 → A q0) (P_4 : ∀ q0, h.2 a0 30 = some q0 → A q0) (hf : X12_readsItem F a0 h = some (r, h1)) : Fm A h h1 := W_X12_readsItem_0 A F P_0 P_1 P_2 P_3 P_4 hf
theorem W_X12_plan_121 (A : Nat → Prop) (F : Nat) : ∀ (f : Nat) {h : Hp} {a0 : Nat} {x1 : Int32} {x4 : Int32} {r : Int32} {h1 : Hp} (P_0 : ∀ q0, h.2 a0 4 = some q0 → A q0), X12_plan_121 F f a0 x1 x4 h = some (r, h1) → Fm A h h1 := by
  intro f
  induction f with
  | zero =>
    intro h a0 x1 x4 r h1 P_0 hf
    exact nomatch (show (none : Option _) = some _ from hf)
  | succ f ih =>
    intro h a0 x1 x4 r h1 P_0 hf
    rw [X12_plan_121] at hf
    have m0 := fm_rf (A := A) (h := h)
    obtain ⟨k_1, hf⟩ := gq_ex hf
    rcases ite_ex hf with ⟨q_2, hf⟩ | ⟨q_2, hf⟩
    · skip
      cases hf
      exact m0
    · skip
      obtain ⟨j_3, ej_3, hf⟩ := ob_ex hf
      have zj_3 : h.2 a0 4 = some j_3 := m0.1 ▸ ej_3
      obtain ⟨j_4, ej_4, hf⟩ := ob_ex hf
      have zj_4 : h.2 a0 30 = some j_4 := m0.1 ▸ ej_4
      obtain ⟨k_5, hf⟩ := gq_ex hf
      obtain ⟨b_6, hf⟩ := gq_ex hf
      obtain ⟨k_7, hf⟩ := gq_ex hf
      obtain ⟨b_8, hf⟩ := gq_ex hf
      obtain ⟨h_9, eh_9, hf⟩ := bd_ex hf
      have mh_9 := fm_tr m0 (fm_up eh_9 (P_0 _ zj_3))
      obtain ⟨x4_10, ex4_10, hf⟩ := bd_ex hf
      exact fm_tr mh_9 (ih (fun q0 e0 => P_0 q0 (mh_9.1 ▸ e0)) hf)
theorem W_X12_plan_94 (A : Nat → Prop) (F : Nat) {h : Hp} {a0 : Nat} {x1 : Int32} {x3 : Int32} {r : Int32} {h1 : Hp} (P_0 : A a0) (P_1 : ∀ q0, h.2 a0 3 = some q0 → A q0) (P_2 : ∀ q0, h.2 a0 4 = some q0 → A q0) (hf : X12_plan_94 F a0 x1 x3 h = some (r, h1)) : Fm A h h1 := by
  unfold X12_plan_94 at hf
  have m0 := fm_rf (A := A) (h := h)
  obtain ⟨k_1, hf⟩ := gq_ex hf
  obtain ⟨h_2, eh_2, hf⟩ := bd_ex hf
  have mh_2 := fm_tr m0 (fm_up eh_2 (P_0))
  rcases ite_ex hf with ⟨q_3, hf⟩ | ⟨q_3, hf⟩
  · skip
    cases hf
    exact mh_2
  · skip
    obtain ⟨j_4, ej_4, hf⟩ := ob_ex hf
    have zj_4 : h.2 a0 3 = some j_4 := mh_2.1 ▸ ej_4
    obtain ⟨k_5, hf⟩ := gq_ex hf
    obtain ⟨b_6, hf⟩ := gq_ex hf
    obtain ⟨h_7, eh_7, hf⟩ := bd_ex hf
    have mh_7 := fm_tr mh_2 (fm_up eh_7 (P_1 _ zj_4))
    exact fm_tr mh_7 (W_X12_plan_121 A F _ (fun q0 e0 => P_2 q0 (mh_7.1 ▸ e0)) hf)
theorem W_X12_plan_90 (A : Nat → Prop) (F : Nat) {k47 : Nat → Int32 → Int32 → Hp → Option (Int32 × Hp)} (hk47 : ∀ {h : Hp} {a0 : Nat} {x1 : Int32} {x3 : Int32} {r : Int32} {h1 : Hp} (_ : A a0) (_ : ∀ q0, h.2 a0 3 = some q0 → A q0) (_ : ∀ q0, h.2 a0 4 = some q0 → A q0) (_ : ∀ q0, h.2 a0 31 = some q0 → A q0) (_ : ∀ q0, h.2 a0 32 = some q0 → A q0) (_ : ∀ q0, h.2 a0 33 = some q0 → A q0) (_ : ∀ q0, h.2 a0 30 = some q0 → A q0), k47 a0 x1 x3 h = some (r, h1) → Fm A h h1) {h : Hp} {a0 : Nat} {x1 : Int32} {s0 : Int32} {r : Int32} {h1 : Hp} (P_0 : A a0) (P_1 : ∀ q0, h.2 a0 3 = some q0 → A q0) (P_2 : ∀ q0, h.2 a0 4 = some q0 → A q0) (P_3 : ∀ q0, h.2 a0 31 = some q0 → A q0) (P_4 : ∀ q0, h.2 a0 32 = some q0 → A q0) (P_5 : ∀ q0, h.2 a0 33 = some q0 → A q0) (P_6 : ∀ q0, h.2 a0 30 = some q0 → A q0) (hf : X12_plan_90 F k47 a0 x1 s0 h = some (r, h1)) : Fm A h h1 := by
  unfold X12_plan_90 at hf
  have m0 := fm_rf (A := A) (h := h)
  exact fm_tr m0 (hk47 P_0 (fun q0 e0 => P_1 q0 (m0.1 ▸ e0)) (fun q0 e0 => P_2 q0 (m0.1 ▸ e0)) (fun q0 e0 => P_3 q0 (m0.1 ▸ e0)) (fun q0 e0 => P_4 q0 (m0.1 ▸ e0)) (fun q0 e0 => P_5 q0 (m0.1 ▸ e0)) (fun q0 e0 => P_6 q0 (m0.1 ▸ e0)) hf)
theorem W_X12_plan_89 (A : Nat → Prop) (F : Nat) {k47 : Nat → Int32 → Int32 → Hp → Option (Int32 × Hp)} (hk47 : ∀ {h : Hp} {a0 : Nat} {x1 : Int32} {x3 : Int32} {r : Int32} {h1 : Hp} (_ : A a0) (_ : ∀ q0, h.2 a0 3 = some q0 → A q0) (_ : ∀ q0, h.2 a0 4 = some q0 → A q0) (_ : ∀ q0, h.2 a0 31 = some q0 → A q0) (_ : ∀ q0, h.2 a0 32 = some q0 → A q0) (_ : ∀ q0, h.2 a0 33 = some q0 → A q0) (_ : ∀ q0, h.2 a0 30 = some q0 → A q0), k47 a0 x1 x3 h = some (r, h1) → Fm A h h1) {h : Hp} {a0 : Nat} {x1 : Int32} {r : Int32} {h1 : Hp} (P_0 : A a0) (P_1 : ∀ q0, h.2 a0 3 = some q0 → A q0) (P_2 : ∀ q0, h.2 a0 4 = some q0 → A q0) (P_3 : ∀ q0, h.2 a0 31 = some q0 → A q0) (P_4 : ∀ q0, h.2 a0 32 = some q0 → A q0) (P_5 : ∀ q0, h.2 a0 33 = some q0 → A q0) (P_6 : ∀ q0, h.2 a0 30 = some q0 → A q0) (hf : X12_plan_89 F k47 a0 x1 h = some (r, h1)) : Fm A h h1 := by
  unfold X12_plan_89 at hf
  have m0 := fm_rf (A := A) (h := h)
  exact fm_tr m0 (W_X12_plan_90 A F hk47 P_0 (fun q0 e0 => P_1 q0 (m0.1 ▸ e0)) (fun q0 e0 => P_2 q0 (m0.1 ▸ e0)) (fun q0 e0 => P_3 q0 (m0.1 ▸ e0)) (fun q0 e0 => P_4 q0 (m0.1 ▸ e0)) (fun q0 e0 => P_5 q0 (m0.1 ▸ e0)) (fun q0 e0 => P_6 q0 (m0.1 ▸ e0)) hf)
theorem W_X12_plan_69 (A : Nat → Prop) (F : Nat) {k47 : Nat → Int32 → Int32 → Hp → Option (Int32 × Hp)} (hk47 : ∀ {h : Hp} {a0 : Nat} {x1 : Int32} {x3 : Int32} {r : Int32} {h1 : Hp} (_ : A a0) (_ : ∀ q0, h.2 a0 3 = some q0 → A q0) (_ : ∀ q0, h.2 a0 4 = some q0 → A q0) (_ : ∀ q0, h.2 a0 31 = some q0 → A q0) (_ : ∀ q0, h.2 a0 32 = some q0 → A q0) (_ : ∀ q0, h.2 a0 33 = some q0 → A q0) (_ : ∀ q0, h.2 a0 30 = some q0 → A q0), k47 a0 x1 x3 h = some (r, h1) → Fm A h h1) {h : Hp} {a0 : Nat} {x1 : Int32} {r : Int32} {h1 : Hp} (P_0 : A a0) (P_1 : ∀ q0, h.2 a0 31 = some q0 → A q0) (P_2 : ∀ q0, h.2 a0 32 = some q0 → A q0) (P_3 : ∀ q0, h.2 a0 33 = some q0 → A q0) (P_4 : ∀ q0, h.2 a0 30 = some q0 → A q0) (P_5 : ∀ q0, h.2 a0 3 = some q0 → A q0) (P_6 : ∀ q0, h.2 a0 4 = some q0 → A q0) (hf : X12_plan_69 F k47 a0 x1 h = some (r, h1)) : Fm A h h1 := by
  unfold X12_plan_69 at hf
  have m0 := fm_rf (A := A) (h := h)
  obtain ⟨k_1, hf⟩ := gq_ex hf
  obtain ⟨c_2, h_3, ec_2, hf⟩ := bq_ex hf
  have mh_3 := fm_tr m0 (W_X12_takes A F P_0 ec_2)
  rcases ite_ex hf with ⟨q_4, hf⟩ | ⟨q_4, hf⟩
  · skip
    exact fm_tr mh_3 (W_X12_plan_89 A F hk47 P_0 (fun q0 e0 => P_5 q0 (mh_3.1 ▸ e0)) (fun q0 e0 => P_6 q0 (mh_3.1 ▸ e0)) (fun q0 e0 => P_1 q0 (mh_3.1 ▸ e0)) (fun q0 e0 => P_2 q0 (mh_3.1 ▸ e0)) (fun q0 e0 => P_3 q0 (mh_3.1 ▸ e0)) (fun q0 e0 => P_4 q0 (mh_3.1 ▸ e0)) hf)
  · skip
    obtain ⟨c_5, h_6, ec_5, hf⟩ := bq_ex hf
    have mh_6 := fm_tr mh_3 (W_X12_readsItem A F P_0 (fun q0 e0 => P_1 q0 (mh_3.1 ▸ e0)) (fun q0 e0 => P_2 q0 (mh_3.1 ▸ e0)) (fun q0 e0 => P_3 q0 (mh_3.1 ▸ e0)) (fun q0 e0 => P_4 q0 (mh_3.1 ▸ e0)) ec_5)
    rcases ite_ex hf with ⟨q_7, hf⟩ | ⟨q_7, hf⟩
    · skip
      exact fm_tr mh_6 (W_X12_plan_89 A F hk47 P_0 (fun q0 e0 => P_5 q0 (mh_6.1 ▸ e0)) (fun q0 e0 => P_6 q0 (mh_6.1 ▸ e0)) (fun q0 e0 => P_1 q0 (mh_6.1 ▸ e0)) (fun q0 e0 => P_2 q0 (mh_6.1 ▸ e0)) (fun q0 e0 => P_3 q0 (mh_6.1 ▸ e0)) (fun q0 e0 => P_4 q0 (mh_6.1 ▸ e0)) hf)
    · skip
      exact fm_tr mh_6 (W_X12_plan_90 A F hk47 P_0 (fun q0 e0 => P_5 q0 (mh_6.1 ▸ e0)) (fun q0 e0 => P_6 q0 (mh_6.1 ▸ e0)) (fun q0 e0 => P_1 q0 (mh_6.1 ▸ e0)) (fun q0 e0 => P_2 q0 (mh_6.1 ▸ e0)) (fun q0 e0 => P_3 q0 (mh_6.1 ▸ e0)) (fun q0 e0 => P_4 q0 (mh_6.1 ▸ e0)) hf)
theorem W_X12_plan_47 (A : Nat → Prop) (F : Nat) : ∀ (f : Nat) {h : Hp} {a0 : Nat} {x1 : Int32} {x3 : Int32} {r : Int32} {h1 : Hp} (P_0 : A a0) (P_1 : ∀ q0, h.2 a0 3 = some q0 → A q0) (P_2 : ∀ q0, h.2 a0 4 = some q0 → A q0) (P_3 : ∀ q0, h.2 a0 31 = some q0 → A q0) (P_4 : ∀ q0, h.2 a0 32 = some q0 → A q0) (P_5 : ∀ q0, h.2 a0 33 = some q0 → A q0) (P_6 : ∀ q0, h.2 a0 30 = some q0 → A q0), X12_plan_47 F f a0 x1 x3 h = some (r, h1) → Fm A h h1 := by
  intro f
  induction f with
  | zero =>
    intro h a0 x1 x3 r h1 P_0 P_1 P_2 P_3 P_4 P_5 P_6 hf
    exact nomatch (show (none : Option _) = some _ from hf)
  | succ f ih =>
    intro h a0 x1 x3 r h1 P_0 P_1 P_2 P_3 P_4 P_5 P_6 hf
    rw [X12_plan_47] at hf
    have m0 := fm_rf (A := A) (h := h)
    rcases ite_ex hf with ⟨q_1, hf⟩ | ⟨q_1, hf⟩
    · skip
      exact fm_tr m0 (W_X12_plan_94 A F P_0 (fun q0 e0 => P_1 q0 (m0.1 ▸ e0)) (fun q0 e0 => P_2 q0 (m0.1 ▸ e0)) hf)
    · skip
      obtain ⟨k_2, hf⟩ := gq_ex hf
      rcases ite_ex hf with ⟨q_3, hf⟩ | ⟨q_3, hf⟩
      · skip
        exact fm_tr m0 (W_X12_plan_69 A F (fun p0 p1 p2 p3 p4 p5 p6 q => ih p0 p1 p2 p3 p4 p5 p6 q) P_0 (fun q0 e0 => P_3 q0 (m0.1 ▸ e0)) (fun q0 e0 => P_4 q0 (m0.1 ▸ e0)) (fun q0 e0 => P_5 q0 (m0.1 ▸ e0)) (fun q0 e0 => P_6 q0 (m0.1 ▸ e0)) (fun q0 e0 => P_1 q0 (m0.1 ▸ e0)) (fun q0 e0 => P_2 q0 (m0.1 ▸ e0)) hf)
      · skip
        rcases ite_ex hf with ⟨q_4, hf⟩ | ⟨q_4, hf⟩
        · skip
          exact fm_tr m0 (W_X12_plan_94 A F P_0 (fun q0 e0 => P_1 q0 (m0.1 ▸ e0)) (fun q0 e0 => P_2 q0 (m0.1 ▸ e0)) hf)
        · skip
          exact fm_tr m0 (W_X12_plan_69 A F (fun p0 p1 p2 p3 p4 p5 p6 q => ih p0 p1 p2 p3 p4 p5 p6 q) P_0 (fun q0 e0 => P_3 q0 (m0.1 ▸ e0)) (fun q0 e0 => P_4 q0 (m0.1 ▸ e0)) (fun q0 e0 => P_5 q0 (m0.1 ▸ e0)) (fun q0 e0 => P_6 q0 (m0.1 ▸ e0)) (fun q0 e0 => P_1 q0 (m0.1 ▸ e0)) (fun q0 e0 => P_2 q0 (m0.1 ▸ e0)) hf)
theorem W_X12_plan_0 (A : Nat → Prop) (F : Nat) {h : Hp} {a0 : Nat} {x1 : Int32} {x2 : Int32} {r : Int32} {h1 : Hp} (P_0 : A a0) (P_1 : ∀ q0, h.2 a0 31 = some q0 → A q0) (P_2 : ∀ q0, h.2 a0 32 = some q0 → A q0) (P_3 : ∀ q0, h.2 a0 33 = some q0 → A q0) (P_4 : ∀ q0, h.2 a0 30 = some q0 → A q0) (P_5 : ∀ q0, h.2 a0 3 = some q0 → A q0) (P_6 : ∀ q0, h.2 a0 4 = some q0 → A q0) (hf : X12_plan F a0 x1 x2 h = some (r, h1)) : Fm A h h1 := by
  unfold X12_plan at hf
  have m0 := fm_rf (A := A) (h := h)
  obtain ⟨c_1, ec_1, hf⟩ := ob_ex hf
  rcases ite_ex hf with ⟨q_3, hf⟩ | ⟨q_3, hf⟩
  · skip
    cases hf
    exact m0
  · skip
    obtain ⟨c_4, ec_4, hf⟩ := ob_ex hf
    rcases ite_ex hf with ⟨q_6, hf⟩ | ⟨q_6, hf⟩
    · skip
      cases hf
      exact m0
    · skip
      obtain ⟨k_7, hf⟩ := gq_ex hf
      rcases ite_ex hf with ⟨q_8, hf⟩ | ⟨q_8, hf⟩
      · skip
        obtain ⟨h_10, eh_10, hf⟩ := ob_ex hf
        have mh_10 := fm_tr m0 (W_X12_beginsText A F P_0 eh_10)
        obtain ⟨h_11, eh_11, hf⟩ := bd_ex hf
        have mh_11 := fm_tr mh_10 (fm_up eh_11 (P_0))
        obtain ⟨h_12, eh_12, hf⟩ := bd_ex hf
        have mh_12 := fm_tr mh_11 (fm_up eh_12 (P_0))
        obtain ⟨c_13, h_14, ec_13, hf⟩ := bq_ex hf
        have mh_14 := fm_tr mh_12 (W_X12_readsItem A F P_0 (fun q0 e0 => P_1 q0 (mh_12.1 ▸ e0)) (fun q0 e0 => P_2 q0 (mh_12.1 ▸ e0)) (fun q0 e0 => P_3 q0 (mh_12.1 ▸ e0)) (fun q0 e0 => P_4 q0 (mh_12.1 ▸ e0)) ec_13)
        exact fm_tr mh_14 (W_X12_plan_47 A F _ P_0 (fun q0 e0 => P_5 q0 (mh_14.1 ▸ e0)) (fun q0 e0 => P_6 q0 (mh_14.1 ▸ e0)) (fun q0 e0 => P_1 q0 (mh_14.1 ▸ e0)) (fun q0 e0 => P_2 q0 (mh_14.1 ▸ e0)) (fun q0 e0 => P_3 q0 (mh_14.1 ▸ e0)) (fun q0 e0 => P_4 q0 (mh_14.1 ▸ e0)) hf)
      · skip
        cases hf
        exact m0
theorem W_X12_plan (A : Nat → Prop) (F : Nat) {h : Hp} {a0 : Nat} {x1 : Int32} {x2 : Int32} {r : Int32} {h1 : Hp} (P_0 : A a0) (P_1 : ∀ q0, h.2 a0 31 = some q0 → A q0) (P_2 : ∀ q0, h.2 a0 32 = some q0 → A q0) (P_3 : ∀ q0, h.2 a0 33 = some q0 → A q0) (P_4 : ∀ q0, h.2 a0 30 = some q0 → A q0) (P_5 : ∀ q0, h.2 a0 3 = some q0 → A q0) (P_6 : ∀ q0, h.2 a0 4 = some q0 → A q0) (hf : X12_plan F a0 x1 x2 h = some (r, h1)) : Fm A h h1 := W_X12_plan_0 A F P_0 P_1 P_2 P_3 P_4 P_5 P_6 hf
theorem W_X12_readsMore_78 (A : Nat → Prop) (F : Nat) {h : Hp} {r0 : Nat} {s1 : Int32} {s2 : Int32} {s3 : Int32} {s4 : Int32} {s5 : Int32} {r : Int32} {h1 : Hp} (P_0 : A r0) (hf : X12_readsMore_78 F r0 s1 s2 s3 s4 s5 h = some (r, h1)) : Fm A h h1 := by
  unfold X12_readsMore_78 at hf
  have m0 := fm_rf (A := A) (h := h)
  obtain ⟨c_1, ec_1, hf⟩ := ob_ex hf
  obtain ⟨c_3, ec_3, hf⟩ := ob_ex hf
  obtain ⟨k_5, hf⟩ := gq_ex hf
  obtain ⟨b_6, hf⟩ := gq_ex hf
  obtain ⟨h_7, eh_7, hf⟩ := bd_ex hf
  have mh_7 := fm_tr m0 (fm_up eh_7 (P_0))
  cases hf
  exact mh_7
theorem W_X12_readsMore_27 (A : Nat → Prop) (F : Nat) {h : Hp} {a0 : Nat} {x1 : Int32} {x2 : Int32} {x3 : Int32} {r : Int32} {h1 : Hp} (P_0 : A a0) (P_1 : ∀ q0, h.2 a0 0 = some q0 → A q0) (hf : X12_readsMore_27 F a0 x1 x2 x3 h = some (r, h1)) : Fm A h h1 := by
  unfold X12_readsMore_27 at hf
  have m0 := fm_rf (A := A) (h := h)
  obtain ⟨k_1, hf⟩ := gq_ex hf
  obtain ⟨h_2, eh_2, hf⟩ := bd_ex hf
  have mh_2 := fm_tr m0 (fm_up eh_2 (P_0))
  obtain ⟨c_3, h_4, ec_3, hf⟩ := bq_ex hf
  have mh_4 := fm_tr mh_2 (W_X12_readsAmount A F P_0 ec_3)
  rcases ite_ex hf with ⟨q_5, hf⟩ | ⟨q_5, hf⟩
  · skip
    cases hf
    exact mh_4
  · skip
    obtain ⟨j_6, ej_6, hf⟩ := ob_ex hf
    have zj_6 : h.2 a0 0 = some j_6 := mh_4.1 ▸ ej_6
    obtain ⟨k_7, hf⟩ := gq_ex hf
    obtain ⟨b_8, hf⟩ := gq_ex hf
    rcases ite_ex hf with ⟨q_9, hf⟩ | ⟨q_9, hf⟩
    · skip
      exact fm_tr mh_4 (W_X12_readsMore_78 A F (P_1 _ zj_6) hf)
    · skip
      exact fm_tr mh_4 (W_X12_readsMore_78 A F (P_1 _ zj_6) hf)
theorem W_X12_readsMore_0 (A : Nat → Prop) (F : Nat) {h : Hp} {a0 : Nat} {x1 : Int32} {x2 : Int32} {r : Int32} {h1 : Hp} (P_0 : A a0) (P_1 : ∀ q0, h.2 a0 0 = some q0 → A q0) (hf : X12_readsMore F a0 x1 x2 h = some (r, h1)) : Fm A h h1 := by
  unfold X12_readsMore at hf
  have m0 := fm_rf (A := A) (h := h)
  obtain ⟨k_1, hf⟩ := gq_ex hf
  obtain ⟨c_2, ec_2, hf⟩ := ob_ex hf
  rcases ite_ex hf with ⟨q_4, hf⟩ | ⟨q_4, hf⟩
  · skip
    exact fm_tr m0 (W_X12_readsMore_27 A F P_0 (fun q0 e0 => P_1 q0 (m0.1 ▸ e0)) hf)
  · skip
    rcases ite_ex hf with ⟨q_5, hf⟩ | ⟨q_5, hf⟩
    · skip
      exact fm_tr m0 (W_X12_readsMore_27 A F P_0 (fun q0 e0 => P_1 q0 (m0.1 ▸ e0)) hf)
    · skip
      obtain ⟨c_6, h_7, ec_6, hf⟩ := bq_ex hf
      have mh_7 := fm_tr m0 (W_X12_wrongAt A F P_0 ec_6)
      obtain ⟨n_8, hf⟩ := gq_ex hf
      cases hf
      exact mh_7
theorem W_X12_readsMore (A : Nat → Prop) (F : Nat) {h : Hp} {a0 : Nat} {x1 : Int32} {x2 : Int32} {r : Int32} {h1 : Hp} (P_0 : A a0) (P_1 : ∀ q0, h.2 a0 0 = some q0 → A q0) (hf : X12_readsMore F a0 x1 x2 h = some (r, h1)) : Fm A h h1 := W_X12_readsMore_0 A F P_0 P_1 hf
theorem W_X12_readsBench_0 (A : Nat → Prop) (F : Nat) {h : Hp} {a0 : Nat} {x1 : Int32} {r : Int32} {h1 : Hp} (P_0 : A a0) (P_1 : ∀ q0, h.2 a0 0 = some q0 → A q0) (hf : X12_readsBench F a0 x1 h = some (r, h1)) : Fm A h h1 := by
  unfold X12_readsBench at hf
  have m0 := fm_rf (A := A) (h := h)
  obtain ⟨k_1, hf⟩ := gq_ex hf
  obtain ⟨h_2, eh_2, hf⟩ := bd_ex hf
  have mh_2 := fm_tr m0 (fm_up eh_2 (P_0))
  obtain ⟨x2_3, ex2_3, hf⟩ := bd_ex hf
  obtain ⟨c_4, h_5, ec_4, hf⟩ := bq_ex hf
  have mh_5 := fm_tr mh_2 (W_X12_readsAmount A F P_0 ec_4)
  rcases ite_ex hf with ⟨q_6, hf⟩ | ⟨q_6, hf⟩
  · skip
    cases hf
    exact mh_5
  · skip
    obtain ⟨x3_7, ex3_7, hf⟩ := bd_ex hf
    obtain ⟨c_8, ec_8, hf⟩ := ob_ex hf
    rcases ite_ex hf with ⟨q_10, hf⟩ | ⟨q_10, hf⟩
    · skip
      obtain ⟨c_26, h_27, ec_26, hf⟩ := bq_ex hf
      have mh_27 := fm_tr mh_5 (W_X12_wrongAt A F P_0 ec_26)
      obtain ⟨n_28, hf⟩ := gq_ex hf
      cases hf
      exact mh_27
    · skip
      obtain ⟨c_11, h_12, ec_11, hf⟩ := bq_ex hf
      have mh_12 := fm_tr mh_5 (W_X12_takes A F P_0 ec_11)
      rcases ite_ex hf with ⟨q_13, hf⟩ | ⟨q_13, hf⟩
      · skip
        cases hf
        exact mh_12
      · skip
        obtain ⟨x2_14, ex2_14, hf⟩ := bd_ex hf
        obtain ⟨c_15, h_16, ec_15, hf⟩ := bq_ex hf
        have mh_16 := fm_tr mh_12 (W_X12_readsAmount A F P_0 ec_15)
        rcases ite_ex hf with ⟨q_17, hf⟩ | ⟨q_17, hf⟩
        · skip
          cases hf
          exact mh_16
        · skip
          rcases ite_ex hf with ⟨q_18, hf⟩ | ⟨q_18, hf⟩
          · skip
            obtain ⟨j_19, ej_19, hf⟩ := ob_ex hf
            have zj_19 : h.2 a0 0 = some j_19 := mh_16.1 ▸ ej_19
            obtain ⟨k_20, hf⟩ := gq_ex hf
            obtain ⟨b_21, hf⟩ := gq_ex hf
            obtain ⟨h_22, eh_22, hf⟩ := bd_ex hf
            have mh_22 := fm_tr mh_16 (fm_up eh_22 (P_1 _ zj_19))
            cases hf
            exact mh_22
          · skip
            obtain ⟨c_23, h_24, ec_23, hf⟩ := bq_ex hf
            have mh_24 := fm_tr mh_16 (W_X12_wrongAt A F P_0 ec_23)
            obtain ⟨n_25, hf⟩ := gq_ex hf
            cases hf
            exact mh_24
theorem W_X12_readsBench (A : Nat → Prop) (F : Nat) {h : Hp} {a0 : Nat} {x1 : Int32} {r : Int32} {h1 : Hp} (P_0 : A a0) (P_1 : ∀ q0, h.2 a0 0 = some q0 → A q0) (hf : X12_readsBench F a0 x1 h = some (r, h1)) : Fm A h h1 := W_X12_readsBench_0 A F P_0 P_1 hf
theorem W_X12_readsLine_120 (A : Nat → Prop) (F : Nat) {h : Hp} {a0 : Nat} {s0 : Int32} {r : Int32} {h1 : Hp} (P_0 : A a0) (P_1 : ∀ q0, h.2 a0 0 = some q0 → A q0) (hf : X12_readsLine_120 F a0 s0 h = some (r, h1)) : Fm A h h1 := by
  unfold X12_readsLine_120 at hf
  have m0 := fm_rf (A := A) (h := h)
  obtain ⟨k_1, hf⟩ := gq_ex hf
  obtain ⟨c_2, ec_2, hf⟩ := ob_ex hf
  rcases ite_ex hf with ⟨q_4, hf⟩ | ⟨q_4, hf⟩
  · skip
    obtain ⟨c_8, h_9, ec_8, hf⟩ := bq_ex hf
    have mh_9 := fm_tr m0 (W_X12_readsBench A F P_0 (fun q0 e0 => P_1 q0 (m0.1 ▸ e0)) ec_8)
    obtain ⟨n_10, hf⟩ := gq_ex hf
    cases hf
    exact mh_9
  · skip
    obtain ⟨c_5, h_6, ec_5, hf⟩ := bq_ex hf
    have mh_6 := fm_tr m0 (W_X12_readsMore A F P_0 (fun q0 e0 => P_1 q0 (m0.1 ▸ e0)) ec_5)
    obtain ⟨n_7, hf⟩ := gq_ex hf
    cases hf
    exact mh_6
theorem W_X12_readsLine_39 (A : Nat → Prop) (F : Nat) {h : Hp} {a0 : Nat} {x1 : Int32} {r : Int32} {h1 : Hp} (P_0 : A a0) (P_1 : ∀ q0, h.2 a0 0 = some q0 → A q0) (hf : X12_readsLine_39 F a0 x1 h = some (r, h1)) : Fm A h h1 := by
  unfold X12_readsLine_39 at hf
  have m0 := fm_rf (A := A) (h := h)
  obtain ⟨k_1, hf⟩ := gq_ex hf
  rcases ite_ex hf with ⟨q_2, hf⟩ | ⟨q_2, hf⟩
  · skip
    obtain ⟨c_14, h_15, ec_14, hf⟩ := bq_ex hf
    have mh_15 := fm_tr m0 (W_X12_wrongAt A F P_0 ec_14)
    obtain ⟨n_16, hf⟩ := gq_ex hf
    cases hf
    exact mh_15
  · skip
    obtain ⟨h_3, eh_3, hf⟩ := bd_ex hf
    have mh_3 := fm_tr m0 (fm_up eh_3 (P_0))
    obtain ⟨h_4, eh_4, hf⟩ := bd_ex hf
    have mh_4 := fm_tr mh_3 (fm_up eh_4 (P_0))
    rcases ite_ex hf with ⟨q_5, hf⟩ | ⟨q_5, hf⟩
    · skip
      obtain ⟨c_11, h_12, ec_11, hf⟩ := bq_ex hf
      have mh_12 := fm_tr mh_4 (W_X12_readsMore A F P_0 (fun q0 e0 => P_1 q0 (mh_4.1 ▸ e0)) ec_11)
      obtain ⟨n_13, hf⟩ := gq_ex hf
      cases hf
      exact mh_12
    · skip
      rcases ite_ex hf with ⟨q_6, hf⟩ | ⟨q_6, hf⟩
      · skip
        obtain ⟨c_8, h_9, ec_8, hf⟩ := bq_ex hf
        have mh_9 := fm_tr mh_4 (W_X12_readsMore A F P_0 (fun q0 e0 => P_1 q0 (mh_4.1 ▸ e0)) ec_8)
        obtain ⟨n_10, hf⟩ := gq_ex hf
        cases hf
        exact mh_9
      · skip
        rcases ite_ex hf with ⟨q_7, hf⟩ | ⟨q_7, hf⟩
        · skip
          exact fm_tr mh_4 (W_X12_readsLine_120 A F P_0 (fun q0 e0 => P_1 q0 (mh_4.1 ▸ e0)) hf)
        · skip
          exact fm_tr mh_4 (W_X12_readsLine_120 A F P_0 (fun q0 e0 => P_1 q0 (mh_4.1 ▸ e0)) hf)
theorem W_X12_readsLine_0 (A : Nat → Prop) (F : Nat) {h : Hp} {a0 : Nat} {r : Int32} {h1 : Hp} (P_0 : A a0) (P_1 : ∀ q0, h.2 a0 0 = some q0 → A q0) (hf : X12_readsLine F a0 h = some (r, h1)) : Fm A h h1 := by
  unfold X12_readsLine at hf
  have m0 := fm_rf (A := A) (h := h)
  obtain ⟨k_1, hf⟩ := gq_ex hf
  obtain ⟨c_2, ec_2, hf⟩ := ob_ex hf
  rcases ite_ex hf with ⟨q_4, hf⟩ | ⟨q_4, hf⟩
  · skip
    exact fm_tr m0 (W_X12_readsLine_39 A F P_0 (fun q0 e0 => P_1 q0 (m0.1 ▸ e0)) hf)
  · skip
    rcases ite_ex hf with ⟨q_5, hf⟩ | ⟨q_5, hf⟩
    · skip
      exact fm_tr m0 (W_X12_readsLine_39 A F P_0 (fun q0 e0 => P_1 q0 (m0.1 ▸ e0)) hf)
    · skip
      rcases ite_ex hf with ⟨q_6, hf⟩ | ⟨q_6, hf⟩
      · skip
        exact fm_tr m0 (W_X12_readsLine_39 A F P_0 (fun q0 e0 => P_1 q0 (m0.1 ▸ e0)) hf)
      · skip
        rcases ite_ex hf with ⟨q_7, hf⟩ | ⟨q_7, hf⟩
        · skip
          exact fm_tr m0 (W_X12_readsLine_39 A F P_0 (fun q0 e0 => P_1 q0 (m0.1 ▸ e0)) hf)
        · skip
          obtain ⟨c_8, h_9, ec_8, hf⟩ := bq_ex hf
          have mh_9 := fm_tr m0 (W_X12_wrongAt A F P_0 ec_8)
          obtain ⟨n_10, hf⟩ := gq_ex hf
          cases hf
          exact mh_9
theorem W_X12_readsLine (A : Nat → Prop) (F : Nat) {h : Hp} {a0 : Nat} {r : Int32} {h1 : Hp} (P_0 : A a0) (P_1 : ∀ q0, h.2 a0 0 = some q0 → A q0) (hf : X12_readsLine F a0 h = some (r, h1)) : Fm A h h1 := W_X12_readsLine_0 A F P_0 P_1 hf
theorem W_X12_orders_86 (A : Nat → Prop) (F : Nat) {h : Hp} {a0 : Nat} {x2 : Int32} {r : Int32} {h1 : Hp} (P_0 : A a0) (P_1 : ∀ q0, h.2 a0 0 = some q0 → A q0) (hf : X12_orders_86 F a0 x2 h = some (r, h1)) : Fm A h h1 := by
  unfold X12_orders_86 at hf
  have m0 := fm_rf (A := A) (h := h)
  obtain ⟨k_1, hf⟩ := gq_ex hf
  obtain ⟨h_2, eh_2, hf⟩ := bd_ex hf
  have mh_2 := fm_tr m0 (fm_up eh_2 (P_0))
  rcases ite_ex hf with ⟨q_3, hf⟩ | ⟨q_3, hf⟩
  · skip
    obtain ⟨j_4, ej_4, hf⟩ := ob_ex hf
    have zj_4 : h.2 a0 1 = some j_4 := mh_2.1 ▸ ej_4
    obtain ⟨j_5, ej_5, hf⟩ := ob_ex hf
    have zj_5 : h.2 a0 0 = some j_5 := mh_2.1 ▸ ej_5
    obtain ⟨h_7, eh_7, hf⟩ := ob_ex hf
    have mh_7 := fm_tr mh_2 (W_X12_copies A F (P_1 _ zj_5) eh_7)
    cases hf
    exact mh_7
  · skip
    cases hf
    exact mh_2
theorem W_X12_orders_82 (A : Nat → Prop) (F : Nat) {k46 : Nat → Int32 → Hp → Option (Int32 × Hp)} (hk46 : ∀ {h : Hp} {a0 : Nat} {x2 : Int32} {r : Int32} {h1 : Hp} (_ : A a0) (_ : ∀ q0, h.2 a0 0 = some q0 → A q0), k46 a0 x2 h = some (r, h1) → Fm A h h1) {h : Hp} {a0 : Nat} {s0 : Int32} {r : Int32} {h1 : Hp} (P_0 : A a0) (P_1 : ∀ q0, h.2 a0 0 = some q0 → A q0) (hf : X12_orders_82 F k46 a0 s0 h = some (r, h1)) : Fm A h h1 := by
  unfold X12_orders_82 at hf
  have m0 := fm_rf (A := A) (h := h)
  exact fm_tr m0 (hk46 P_0 (fun q0 e0 => P_1 q0 (m0.1 ▸ e0)) hf)
theorem W_X12_orders_81 (A : Nat → Prop) (F : Nat) {k46 : Nat → Int32 → Hp → Option (Int32 × Hp)} (hk46 : ∀ {h : Hp} {a0 : Nat} {x2 : Int32} {r : Int32} {h1 : Hp} (_ : A a0) (_ : ∀ q0, h.2 a0 0 = some q0 → A q0), k46 a0 x2 h = some (r, h1) → Fm A h h1) {h : Hp} {a0 : Nat} {r : Int32} {h1 : Hp} (P_0 : A a0) (P_1 : ∀ q0, h.2 a0 0 = some q0 → A q0) (hf : X12_orders_81 F k46 a0 h = some (r, h1)) : Fm A h h1 := by
  unfold X12_orders_81 at hf
  have m0 := fm_rf (A := A) (h := h)
  exact fm_tr m0 (W_X12_orders_82 A F hk46 P_0 (fun q0 e0 => P_1 q0 (m0.1 ▸ e0)) hf)
theorem W_X12_orders_46 (A : Nat → Prop) (F : Nat) : ∀ (f : Nat) {h : Hp} {a0 : Nat} {x2 : Int32} {r : Int32} {h1 : Hp} (P_0 : A a0) (P_1 : ∀ q0, h.2 a0 0 = some q0 → A q0), X12_orders_46 F f a0 x2 h = some (r, h1) → Fm A h h1 := by
  intro f
  induction f with
  | zero =>
    intro h a0 x2 r h1 P_0 P_1 hf
    exact nomatch (show (none : Option _) = some _ from hf)
  | succ f ih =>
    intro h a0 x2 r h1 P_0 P_1 hf
    rw [X12_orders_46] at hf
    have m0 := fm_rf (A := A) (h := h)
    rcases ite_ex hf with ⟨q_1, hf⟩ | ⟨q_1, hf⟩
    · skip
      exact fm_tr m0 (W_X12_orders_86 A F P_0 (fun q0 e0 => P_1 q0 (m0.1 ▸ e0)) hf)
    · skip
      obtain ⟨k_2, hf⟩ := gq_ex hf
      rcases ite_ex hf with ⟨q_3, hf⟩ | ⟨q_3, hf⟩
      · skip
        exact fm_tr m0 (W_X12_orders_86 A F P_0 (fun q0 e0 => P_1 q0 (m0.1 ▸ e0)) hf)
      · skip
        obtain ⟨c_4, h_5, ec_4, hf⟩ := bq_ex hf
        have mh_5 := fm_tr m0 (W_X12_takes A F P_0 ec_4)
        rcases ite_ex hf with ⟨q_6, hf⟩ | ⟨q_6, hf⟩
        · skip
          exact fm_tr mh_5 (W_X12_orders_81 A F (fun p0 p1 q => ih p0 p1 q) P_0 (fun q0 e0 => P_1 q0 (mh_5.1 ▸ e0)) hf)
        · skip
          obtain ⟨c_7, h_8, ec_7, hf⟩ := bq_ex hf
          have mh_8 := fm_tr mh_5 (W_X12_readsLine A F P_0 (fun q0 e0 => P_1 q0 (mh_5.1 ▸ e0)) ec_7)
          rcases ite_ex hf with ⟨q_9, hf⟩ | ⟨q_9, hf⟩
          · skip
            exact fm_tr mh_8 (W_X12_orders_81 A F (fun p0 p1 q => ih p0 p1 q) P_0 (fun q0 e0 => P_1 q0 (mh_8.1 ▸ e0)) hf)
          · skip
            exact fm_tr mh_8 (W_X12_orders_82 A F (fun p0 p1 q => ih p0 p1 q) P_0 (fun q0 e0 => P_1 q0 (mh_8.1 ▸ e0)) hf)
theorem W_X12_orders_0 (A : Nat → Prop) (F : Nat) {h : Hp} {a0 : Nat} {x1 : Int32} {r : Int32} {h1 : Hp} (P_0 : A a0) (P_1 : ∀ q0, h.2 a0 1 = some q0 → A q0) (P_2 : ∀ q0, h.2 a0 0 = some q0 → A q0) (hf : X12_orders F a0 x1 h = some (r, h1)) : Fm A h h1 := by
  unfold X12_orders at hf
  have m0 := fm_rf (A := A) (h := h)
  obtain ⟨c_1, ec_1, hf⟩ := ob_ex hf
  rcases ite_ex hf with ⟨q_3, hf⟩ | ⟨q_3, hf⟩
  · skip
    cases hf
    exact m0
  · skip
    obtain ⟨k_4, hf⟩ := gq_ex hf
    rcases ite_ex hf with ⟨q_5, hf⟩ | ⟨q_5, hf⟩
    · skip
      obtain ⟨h_7, eh_7, hf⟩ := ob_ex hf
      have mh_7 := fm_tr m0 (W_X12_beginsText A F P_0 eh_7)
      obtain ⟨h_8, eh_8, hf⟩ := bd_ex hf
      have mh_8 := fm_tr mh_7 (fm_up eh_8 (P_0))
      obtain ⟨j_9, ej_9, hf⟩ := ob_ex hf
      have zj_9 : h.2 a0 0 = some j_9 := mh_8.1 ▸ ej_9
      obtain ⟨j_10, ej_10, hf⟩ := ob_ex hf
      have zj_10 : h.2 a0 1 = some j_10 := mh_8.1 ▸ ej_10
      obtain ⟨h_12, eh_12, hf⟩ := ob_ex hf
      have mh_12 := fm_tr mh_8 (W_X12_copies A F (P_1 _ zj_10) eh_12)
      obtain ⟨c_13, h_14, ec_13, hf⟩ := bq_ex hf
      have mh_14 := fm_tr mh_12 (W_X12_readsLine A F P_0 (fun q0 e0 => P_2 q0 (mh_12.1 ▸ e0)) ec_13)
      exact fm_tr mh_14 (W_X12_orders_46 A F _ P_0 (fun q0 e0 => P_2 q0 (mh_14.1 ▸ e0)) hf)
    · skip
      cases hf
      exact m0
theorem W_X12_orders (A : Nat → Prop) (F : Nat) {h : Hp} {a0 : Nat} {x1 : Int32} {r : Int32} {h1 : Hp} (P_0 : A a0) (P_1 : ∀ q0, h.2 a0 1 = some q0 → A q0) (P_2 : ∀ q0, h.2 a0 0 = some q0 → A q0) (hf : X12_orders F a0 x1 h = some (r, h1)) : Fm A h h1 := W_X12_orders_0 A F P_0 P_1 P_2 hf
theorem W_X12_draws_0 (A : Nat → Prop) (F : Nat) {h : Hp} {a0 : Nat} {r : Int32} {h1 : Hp} (P_0 : ∀ q0, h.2 a0 0 = some q0 → A q0) (hf : X12_draws F a0 h = some (r, h1)) : Fm A h h1 := by
  unfold X12_draws at hf
  have m0 := fm_rf (A := A) (h := h)
  obtain ⟨k_1, hf⟩ := gq_ex hf
  obtain ⟨j_2, ej_2, hf⟩ := ob_ex hf
  have zj_2 : h.2 a0 0 = some j_2 := m0.1 ▸ ej_2
  obtain ⟨k_3, hf⟩ := gq_ex hf
  obtain ⟨b_4, hf⟩ := gq_ex hf
  obtain ⟨b_5, hf⟩ := gq_ex hf
  obtain ⟨h_6, eh_6, hf⟩ := bd_ex hf
  have mh_6 := fm_tr m0 (fm_up eh_6 (P_0 _ zj_2))
  obtain ⟨b_7, hf⟩ := gq_ex hf
  cases hf
  exact mh_6
theorem W_X12_draws (A : Nat → Prop) (F : Nat) {h : Hp} {a0 : Nat} {r : Int32} {h1 : Hp} (P_0 : ∀ q0, h.2 a0 0 = some q0 → A q0) (hf : X12_draws F a0 h = some (r, h1)) : Fm A h h1 := W_X12_draws_0 A F P_0 hf
theorem W_X12_feels_2 (A : Nat → Prop) (F : Nat) : ∀ (f : Nat) {h : Hp} {a0 : Nat} {x1 : Int32} {x2 : Int32} {h1 : Hp} (P_0 : ∀ q0, h.2 a0 29 = some q0 → A q0), X12_feels_2 F f a0 x1 x2 h = some h1 → Fm A h h1 := by
  intro f
  induction f with
  | zero =>
    intro h a0 x1 x2 h1 P_0 hf
    exact nomatch (show (none : Option _) = some _ from hf)
  | succ f ih =>
    intro h a0 x1 x2 h1 P_0 hf
    rw [X12_feels_2] at hf
    have m0 := fm_rf (A := A) (h := h)
    rcases ite_ex hf with ⟨q_1, hf⟩ | ⟨q_1, hf⟩
    · skip
      obtain ⟨k_2, hf⟩ := gq_ex hf
      obtain ⟨j_3, ej_3, hf⟩ := ob_ex hf
      have zj_3 : h.2 a0 29 = some j_3 := m0.1 ▸ ej_3
      obtain ⟨j_4, ej_4, hf⟩ := ob_ex hf
      have zj_4 : h.2 a0 0 = some j_4 := m0.1 ▸ ej_4
      obtain ⟨k_5, hf⟩ := gq_ex hf
      obtain ⟨b_6, hf⟩ := gq_ex hf
      obtain ⟨k_7, hf⟩ := gq_ex hf
      obtain ⟨b_8, hf⟩ := gq_ex hf
      obtain ⟨h_9, eh_9, hf⟩ := bd_ex hf
      have mh_9 := fm_tr m0 (fm_up eh_9 (P_0 _ zj_3))
      obtain ⟨b_10, hf⟩ := gq_ex hf
      obtain ⟨b_11, hf⟩ := gq_ex hf
      obtain ⟨h_12, eh_12, hf⟩ := bd_ex hf
      have mh_12 := fm_tr mh_9 (fm_up eh_12 (P_0 _ zj_3))
      obtain ⟨b_13, hf⟩ := gq_ex hf
      obtain ⟨b_14, hf⟩ := gq_ex hf
      obtain ⟨h_15, eh_15, hf⟩ := bd_ex hf
      have mh_15 := fm_tr mh_12 (fm_up eh_15 (P_0 _ zj_3))
      obtain ⟨b_16, hf⟩ := gq_ex hf
      obtain ⟨h_17, eh_17, hf⟩ := bd_ex hf
      have mh_17 := fm_tr mh_15 (fm_up eh_17 (P_0 _ zj_3))
      cases hf
      exact mh_17
    · skip
      obtain ⟨k_18, hf⟩ := gq_ex hf
      obtain ⟨j_19, ej_19, hf⟩ := ob_ex hf
      have zj_19 : h.2 a0 29 = some j_19 := m0.1 ▸ ej_19
      obtain ⟨k_20, hf⟩ := gq_ex hf
      obtain ⟨b_21, hf⟩ := gq_ex hf
      obtain ⟨h_22, eh_22, hf⟩ := bd_ex hf
      have mh_22 := fm_tr m0 (fm_up eh_22 (P_0 _ zj_19))
      obtain ⟨x2_23, ex2_23, hf⟩ := bd_ex hf
      exact fm_tr mh_22 (ih (fun q0 e0 => P_0 q0 (mh_22.1 ▸ e0)) hf)
theorem W_X12_feels_0 (A : Nat → Prop) (F : Nat) {h : Hp} {a0 : Nat} {x1 : Int32} {h1 : Hp} (P_0 : ∀ q0, h.2 a0 29 = some q0 → A q0) (hf : X12_feels F a0 x1 h = some h1) : Fm A h h1 := by
  unfold X12_feels at hf
  have m0 := fm_rf (A := A) (h := h)
  exact fm_tr m0 (W_X12_feels_2 A F _ (fun q0 e0 => P_0 q0 (m0.1 ▸ e0)) hf)
theorem W_X12_feels (A : Nat → Prop) (F : Nat) {h : Hp} {a0 : Nat} {x1 : Int32} {h1 : Hp} (P_0 : ∀ q0, h.2 a0 29 = some q0 → A q0) (hf : X12_feels F a0 x1 h = some h1) : Fm A h h1 := W_X12_feels_0 A F P_0 hf
theorem W_X12_works_0 (A : Nat → Prop) (F : Nat) {h : Hp} {a0 : Nat} {x1 : Int32} {h1 : Hp} (P_0 : ∀ q0, h.2 a0 0 = some q0 → A q0) (P_1 : ∀ q0, h.2 a0 29 = some q0 → A q0) (P_2 : A a0) (P_3 : ∀ q0, h.2 a0 28 = some q0 → A q0) (hf : X12_works F a0 x1 h = some h1) : Fm A h h1 := by
  unfold X12_works at hf
  have m0 := fm_rf (A := A) (h := h)
  obtain ⟨k_1, hf⟩ := gq_ex hf
  obtain ⟨c_2, h_3, ec_2, hf⟩ := bq_ex hf
  have mh_3 := fm_tr m0 (W_X12_draws A F (fun q0 e0 => P_0 q0 (m0.1 ▸ e0)) ec_2)
  obtain ⟨h_5, eh_5, hf⟩ := ob_ex hf
  have mh_5 := fm_tr mh_3 (W_X12_feels A F (fun q0 e0 => P_1 q0 (mh_3.1 ▸ e0)) eh_5)
  obtain ⟨j_6, ej_6, hf⟩ := ob_ex hf
  have zj_6 : h.2 a0 29 = some j_6 := mh_5.1 ▸ ej_6
  obtain ⟨k_7, hf⟩ := gq_ex hf
  obtain ⟨b_8, hf⟩ := gq_ex hf
  obtain ⟨h_9, eh_9, hf⟩ := bd_ex hf
  have mh_9 := fm_tr mh_5 (fm_up eh_9 (P_1 _ zj_6))
  obtain ⟨c_10, ec_10, hf⟩ := ob_ex hf
  obtain ⟨b_12, hf⟩ := gq_ex hf
  obtain ⟨h_13, eh_13, hf⟩ := bd_ex hf
  have mh_13 := fm_tr mh_9 (fm_up eh_13 (P_1 _ zj_6))
  obtain ⟨c_14, ec_14, hf⟩ := ob_ex hf
  obtain ⟨b_16, hf⟩ := gq_ex hf
  obtain ⟨h_17, eh_17, hf⟩ := bd_ex hf
  have mh_17 := fm_tr mh_13 (fm_up eh_17 (P_1 _ zj_6))
  obtain ⟨c_18, ec_18, hf⟩ := ob_ex hf
  obtain ⟨b_20, hf⟩ := gq_ex hf
  obtain ⟨h_21, eh_21, hf⟩ := bd_ex hf
  have mh_21 := fm_tr mh_17 (fm_up eh_21 (P_1 _ zj_6))
  obtain ⟨c_22, ec_22, hf⟩ := ob_ex hf
  obtain ⟨b_24, hf⟩ := gq_ex hf
  obtain ⟨h_25, eh_25, hf⟩ := bd_ex hf
  have mh_25 := fm_tr mh_21 (fm_up eh_25 (P_1 _ zj_6))
  obtain ⟨c_26, h_27, ec_26, hf⟩ := bq_ex hf
  have mh_27 := fm_tr mh_25 (W_X12_holdsAny A F (fun q0 e0 => P_3 q0 (mh_25.1 ▸ e0)) ec_26)
  obtain ⟨c_28, h_29, ec_28, hf⟩ := bq_ex hf
  have mh_29 := fm_tr mh_27 (W_X12_byLaw A F (fun q0 e0 => P_3 q0 (mh_27.1 ▸ e0)) ec_28)
  obtain ⟨c_30, h_31, ec_30, hf⟩ := bq_ex hf
  have mh_31 := fm_tr mh_29 (W_X12_byLaw A F (fun q0 e0 => P_3 q0 (mh_29.1 ▸ e0)) ec_30)
  rcases ite_ex hf with ⟨q_32, hf⟩ | ⟨q_32, hf⟩
  · skip
    obtain ⟨j_33, ej_33, hf⟩ := ob_ex hf
    have zj_33 : h.2 a0 0 = some j_33 := mh_31.1 ▸ ej_33
    obtain ⟨k_34, hf⟩ := gq_ex hf
    obtain ⟨b_35, hf⟩ := gq_ex hf
    obtain ⟨c_36, ec_36, hf⟩ := ob_ex hf
    obtain ⟨c_38, ec_38, hf⟩ := ob_ex hf
    obtain ⟨b_40, hf⟩ := gq_ex hf
    obtain ⟨c_41, ec_41, hf⟩ := ob_ex hf
    obtain ⟨c_43, ec_43, hf⟩ := ob_ex hf
    obtain ⟨b_45, hf⟩ := gq_ex hf
    obtain ⟨b_46, hf⟩ := gq_ex hf
    obtain ⟨h_47, eh_47, hf⟩ := bd_ex hf
    have mh_47 := fm_tr mh_31 (fm_up eh_47 (P_0 _ zj_33))
    obtain ⟨b_48, hf⟩ := gq_ex hf
    obtain ⟨b_49, hf⟩ := gq_ex hf
    obtain ⟨h_50, eh_50, hf⟩ := bd_ex hf
    have mh_50 := fm_tr mh_47 (fm_up eh_50 (P_0 _ zj_33))
    obtain ⟨b_51, hf⟩ := gq_ex hf
    obtain ⟨c_52, ec_52, hf⟩ := ob_ex hf
    obtain ⟨b_54, hf⟩ := gq_ex hf
    obtain ⟨h_55, eh_55, hf⟩ := bd_ex hf
    have mh_55 := fm_tr mh_50 (fm_up eh_55 (P_0 _ zj_33))
    obtain ⟨h_56, eh_56, hf⟩ := bd_ex hf
    have mh_56 := fm_tr mh_55 (fm_up eh_56 (P_2))
    cases hf
    exact mh_56
  · skip
    cases hf
    exact mh_31
theorem W_X12_works (A : Nat → Prop) (F : Nat) {h : Hp} {a0 : Nat} {x1 : Int32} {h1 : Hp} (P_0 : ∀ q0, h.2 a0 0 = some q0 → A q0) (P_1 : ∀ q0, h.2 a0 29 = some q0 → A q0) (P_2 : A a0) (P_3 : ∀ q0, h.2 a0 28 = some q0 → A q0) (hf : X12_works F a0 x1 h = some h1) : Fm A h h1 := W_X12_works_0 A F P_0 P_1 P_2 P_3 hf
theorem W_X12_dayGoes_173 (A : Nat → Prop) (F : Nat) {h : Hp} {a0 : Nat} {h1 : Hp} (P_0 : ∀ q0, h.2 a0 0 = some q0 → A q0) (hf : X12_dayGoes_173 F a0 h = some h1) : Fm A h h1 := by
  unfold X12_dayGoes_173 at hf
  have m0 := fm_rf (A := A) (h := h)
  obtain ⟨k_1, hf⟩ := gq_ex hf
  obtain ⟨j_2, ej_2, hf⟩ := ob_ex hf
  have zj_2 : h.2 a0 0 = some j_2 := m0.1 ▸ ej_2
  obtain ⟨k_3, hf⟩ := gq_ex hf
  obtain ⟨b_4, hf⟩ := gq_ex hf
  obtain ⟨b_5, hf⟩ := gq_ex hf
  obtain ⟨h_6, eh_6, hf⟩ := bd_ex hf
  have mh_6 := fm_tr m0 (fm_up eh_6 (P_0 _ zj_2))
  cases hf
  exact mh_6
theorem W_X12_dayGoes_126 (A : Nat → Prop) (F : Nat) {h : Hp} {a0 : Nat} {s0 : Int32} {h1 : Hp} (P_0 : ∀ q0, h.2 a0 0 = some q0 → A q0) (P_1 : A a0) (hf : X12_dayGoes_126 F a0 s0 h = some h1) : Fm A h h1 := by
  unfold X12_dayGoes_126 at hf
  have m0 := fm_rf (A := A) (h := h)
  obtain ⟨k_1, hf⟩ := gq_ex hf
  obtain ⟨j_2, ej_2, hf⟩ := ob_ex hf
  have zj_2 : h.2 a0 0 = some j_2 := m0.1 ▸ ej_2
  obtain ⟨c_3, ec_3, hf⟩ := ob_ex hf
  obtain ⟨c_5, ec_5, hf⟩ := ob_ex hf
  obtain ⟨k_7, hf⟩ := gq_ex hf
  obtain ⟨b_8, hf⟩ := gq_ex hf
  obtain ⟨h_9, eh_9, hf⟩ := bd_ex hf
  have mh_9 := fm_tr m0 (fm_up eh_9 (P_0 _ zj_2))
  obtain ⟨b_10, hf⟩ := gq_ex hf
  obtain ⟨b_11, hf⟩ := gq_ex hf
  obtain ⟨h_12, eh_12, hf⟩ := bd_ex hf
  have mh_12 := fm_tr mh_9 (fm_up eh_12 (P_0 _ zj_2))
  obtain ⟨h_13, eh_13, hf⟩ := bd_ex hf
  have mh_13 := fm_tr mh_12 (fm_up eh_13 (P_1))
  exact fm_tr mh_13 (W_X12_dayGoes_173 A F (fun q0 e0 => P_0 q0 (mh_13.1 ▸ e0)) hf)
theorem W_X12_dayGoes_91 (A : Nat → Prop) (F : Nat) {k73 : Nat → Int32 → Hp → Option Hp} (hk73 : ∀ {h : Hp} {a0 : Nat} {x3 : Int32} {h1 : Hp} (_ : ∀ q0, h.2 a0 0 = some q0 → A q0) (_ : ∀ q0, h.2 a0 29 = some q0 → A q0) (_ : A a0) (_ : ∀ q0, h.2 a0 28 = some q0 → A q0), k73 a0 x3 h = some h1 → Fm A h h1) {h : Hp} {a0 : Nat} {x3 : Int32} {h1 : Hp} (P_0 : ∀ q0, h.2 a0 0 = some q0 → A q0) (P_1 : ∀ q0, h.2 a0 29 = some q0 → A q0) (P_2 : A a0) (P_3 : ∀ q0, h.2 a0 28 = some q0 → A q0) (hf : X12_dayGoes_91 F k73 a0 x3 h = some h1) : Fm A h h1 := by
  unfold X12_dayGoes_91 at hf
  have m0 := fm_rf (A := A) (h := h)
  obtain ⟨x3_1, ex3_1, hf⟩ := bd_ex hf
  exact fm_tr m0 (hk73 (fun q0 e0 => P_0 q0 (m0.1 ▸ e0)) (fun q0 e0 => P_1 q0 (m0.1 ▸ e0)) P_2 (fun q0 e0 => P_3 q0 (m0.1 ▸ e0)) hf)
theorem W_X12_dayGoes_73 (A : Nat → Prop) (F : Nat) : ∀ (f : Nat) {h : Hp} {a0 : Nat} {x3 : Int32} {h1 : Hp} (P_0 : ∀ q0, h.2 a0 0 = some q0 → A q0) (P_1 : ∀ q0, h.2 a0 29 = some q0 → A q0) (P_2 : A a0) (P_3 : ∀ q0, h.2 a0 28 = some q0 → A q0), X12_dayGoes_73 F f a0 x3 h = some h1 → Fm A h h1 := by
  intro f
  induction f with
  | zero =>
    intro h a0 x3 h1 P_0 P_1 P_2 P_3 hf
    exact nomatch (show (none : Option _) = some _ from hf)
  | succ f ih =>
    intro h a0 x3 h1 P_0 P_1 P_2 P_3 hf
    rw [X12_dayGoes_73] at hf
    have m0 := fm_rf (A := A) (h := h)
    rcases ite_ex hf with ⟨q_1, hf⟩ | ⟨q_1, hf⟩
    · skip
      obtain ⟨k_2, hf⟩ := gq_ex hf
      obtain ⟨c_3, ec_3, hf⟩ := ob_ex hf
      rcases ite_ex hf with ⟨q_5, hf⟩ | ⟨q_5, hf⟩
      · skip
        exact fm_tr m0 (W_X12_dayGoes_173 A F (fun q0 e0 => P_0 q0 (m0.1 ▸ e0)) hf)
      · skip
        obtain ⟨c_6, ec_6, hf⟩ := ob_ex hf
        obtain ⟨c_8, ec_8, hf⟩ := ob_ex hf
        rcases ite_ex hf with ⟨q_10, hf⟩ | ⟨q_10, hf⟩
        · skip
          exact fm_tr m0 (W_X12_dayGoes_126 A F (fun q0 e0 => P_0 q0 (m0.1 ▸ e0)) P_2 hf)
        · skip
          exact fm_tr m0 (W_X12_dayGoes_126 A F (fun q0 e0 => P_0 q0 (m0.1 ▸ e0)) P_2 hf)
    · skip
      obtain ⟨k_11, hf⟩ := gq_ex hf
      obtain ⟨c_12, ec_12, hf⟩ := ob_ex hf
      rcases ite_ex hf with ⟨q_14, hf⟩ | ⟨q_14, hf⟩
      · skip
        obtain ⟨h_16, eh_16, hf⟩ := ob_ex hf
        have mh_16 := fm_tr m0 (W_X12_works A F (fun q0 e0 => P_0 q0 (m0.1 ▸ e0)) (fun q0 e0 => P_1 q0 (m0.1 ▸ e0)) P_2 (fun q0 e0 => P_3 q0 (m0.1 ▸ e0)) eh_16)
        exact fm_tr mh_16 (W_X12_dayGoes_91 A F (fun p0 p1 p2 p3 q => ih p0 p1 p2 p3 q) (fun q0 e0 => P_0 q0 (mh_16.1 ▸ e0)) (fun q0 e0 => P_1 q0 (mh_16.1 ▸ e0)) P_2 (fun q0 e0 => P_3 q0 (mh_16.1 ▸ e0)) hf)
      · skip
        exact fm_tr m0 (W_X12_dayGoes_91 A F (fun p0 p1 p2 p3 q => ih p0 p1 p2 p3 q) (fun q0 e0 => P_0 q0 (m0.1 ▸ e0)) (fun q0 e0 => P_1 q0 (m0.1 ▸ e0)) P_2 (fun q0 e0 => P_3 q0 (m0.1 ▸ e0)) hf)
theorem W_X12_dayGoes_0 (A : Nat → Prop) (F : Nat) {h : Hp} {a0 : Nat} {h1 : Hp} (P_0 : ∀ q0, h.2 a0 0 = some q0 → A q0) (P_1 : ∀ q0, h.2 a0 29 = some q0 → A q0) (P_2 : A a0) (P_3 : ∀ q0, h.2 a0 28 = some q0 → A q0) (hf : X12_dayGoes F a0 h = some h1) : Fm A h h1 := by
  unfold X12_dayGoes at hf
  have m0 := fm_rf (A := A) (h := h)
  obtain ⟨k_1, hf⟩ := gq_ex hf
  obtain ⟨c_2, h_3, ec_2, hf⟩ := bq_ex hf
  have mh_3 := fm_tr m0 (W_X12_draws A F (fun q0 e0 => P_0 q0 (m0.1 ▸ e0)) ec_2)
  obtain ⟨h_5, eh_5, hf⟩ := ob_ex hf
  have mh_5 := fm_tr mh_3 (W_X12_feels A F (fun q0 e0 => P_1 q0 (mh_3.1 ▸ e0)) eh_5)
  obtain ⟨c_6, h_7, ec_6, hf⟩ := bq_ex hf
  have mh_7 := fm_tr mh_5 (W_X12_byLaw A F (fun q0 e0 => P_3 q0 (mh_5.1 ▸ e0)) ec_6)
  obtain ⟨c_8, h_9, ec_8, hf⟩ := bq_ex hf
  have mh_9 := fm_tr mh_7 (W_X12_byLaw A F (fun q0 e0 => P_3 q0 (mh_7.1 ▸ e0)) ec_8)
  obtain ⟨j_10, ej_10, hf⟩ := ob_ex hf
  have zj_10 : h.2 a0 0 = some j_10 := mh_9.1 ▸ ej_10
  obtain ⟨k_11, hf⟩ := gq_ex hf
  obtain ⟨b_12, hf⟩ := gq_ex hf
  obtain ⟨c_13, ec_13, hf⟩ := ob_ex hf
  obtain ⟨b_15, hf⟩ := gq_ex hf
  obtain ⟨h_16, eh_16, hf⟩ := bd_ex hf
  have mh_16 := fm_tr mh_9 (fm_up eh_16 (P_0 _ zj_10))
  obtain ⟨b_17, hf⟩ := gq_ex hf
  obtain ⟨c_18, ec_18, hf⟩ := ob_ex hf
  obtain ⟨b_20, hf⟩ := gq_ex hf
  obtain ⟨h_21, eh_21, hf⟩ := bd_ex hf
  have mh_21 := fm_tr mh_16 (fm_up eh_21 (P_0 _ zj_10))
  exact fm_tr mh_21 (W_X12_dayGoes_73 A F _ (fun q0 e0 => P_0 q0 (mh_21.1 ▸ e0)) (fun q0 e0 => P_1 q0 (mh_21.1 ▸ e0)) P_2 (fun q0 e0 => P_3 q0 (mh_21.1 ▸ e0)) hf)
theorem W_X12_dayGoes (A : Nat → Prop) (F : Nat) {h : Hp} {a0 : Nat} {h1 : Hp} (P_0 : ∀ q0, h.2 a0 0 = some q0 → A q0) (P_1 : ∀ q0, h.2 a0 29 = some q0 → A q0) (P_2 : A a0) (P_3 : ∀ q0, h.2 a0 28 = some q0 → A q0) (hf : X12_dayGoes F a0 h = some h1) : Fm A h h1 := W_X12_dayGoes_0 A F P_0 P_1 P_2 P_3 hf
theorem W_X12_beginsDays_0 (A : Nat → Prop) (F : Nat) {h : Hp} {a0 : Nat} {h1 : Hp} (P_0 : A a0) (hf : X12_beginsDays F a0 h = some h1) : Fm A h h1 := by
  unfold X12_beginsDays at hf
  have m0 := fm_rf (A := A) (h := h)
  obtain ⟨k_1, hf⟩ := gq_ex hf
  obtain ⟨h_2, eh_2, hf⟩ := bd_ex hf
  have mh_2 := fm_tr m0 (fm_up eh_2 (P_0))
  obtain ⟨h_3, eh_3, hf⟩ := bd_ex hf
  have mh_3 := fm_tr mh_2 (fm_up eh_3 (P_0))
  cases hf
  exact mh_3
theorem W_X12_beginsDays (A : Nat → Prop) (F : Nat) {h : Hp} {a0 : Nat} {h1 : Hp} (P_0 : A a0) (hf : X12_beginsDays F a0 h = some h1) : Fm A h h1 := W_X12_beginsDays_0 A F P_0 hf
theorem W_X12_daysGo_6 (A : Nat → Prop) (F : Nat) : ∀ (f : Nat) {h : Hp} {a0 : Nat} {x1 : Int32} {x2 : Int32} {h1 : Hp} (P_0 : ∀ q0, h.2 a0 0 = some q0 → A q0) (P_1 : ∀ q0, h.2 a0 29 = some q0 → A q0) (P_2 : A a0) (P_3 : ∀ q0, h.2 a0 28 = some q0 → A q0), X12_daysGo_6 F f a0 x1 x2 h = some h1 → Fm A h h1 := by
  intro f
  induction f with
  | zero =>
    intro h a0 x1 x2 h1 P_0 P_1 P_2 P_3 hf
    exact nomatch (show (none : Option _) = some _ from hf)
  | succ f ih =>
    intro h a0 x1 x2 h1 P_0 P_1 P_2 P_3 hf
    rw [X12_daysGo_6] at hf
    have m0 := fm_rf (A := A) (h := h)
    rcases ite_ex hf with ⟨q_1, hf⟩ | ⟨q_1, hf⟩
    · skip
      cases hf
      exact m0
    · skip
      obtain ⟨k_2, hf⟩ := gq_ex hf
      obtain ⟨j_3, ej_3, hf⟩ := ob_ex hf
      have zj_3 : h.2 a0 0 = some j_3 := m0.1 ▸ ej_3
      obtain ⟨k_4, hf⟩ := gq_ex hf
      obtain ⟨b_5, hf⟩ := gq_ex hf
      rcases ite_ex hf with ⟨q_6, hf⟩ | ⟨q_6, hf⟩
      · skip
        cases hf
        exact m0
      · skip
        obtain ⟨h_8, eh_8, hf⟩ := ob_ex hf
        have mh_8 := fm_tr m0 (W_X12_dayGoes A F (fun q0 e0 => P_0 q0 (m0.1 ▸ e0)) (fun q0 e0 => P_1 q0 (m0.1 ▸ e0)) P_2 (fun q0 e0 => P_3 q0 (m0.1 ▸ e0)) eh_8)
        obtain ⟨x2_9, ex2_9, hf⟩ := bd_ex hf
        exact fm_tr mh_8 (ih (fun q0 e0 => P_0 q0 (mh_8.1 ▸ e0)) (fun q0 e0 => P_1 q0 (mh_8.1 ▸ e0)) P_2 (fun q0 e0 => P_3 q0 (mh_8.1 ▸ e0)) hf)
theorem W_X12_daysGo_0 (A : Nat → Prop) (F : Nat) {h : Hp} {a0 : Nat} {x1 : Int32} {h1 : Hp} (P_0 : A a0) (P_1 : ∀ q0, h.2 a0 0 = some q0 → A q0) (P_2 : ∀ q0, h.2 a0 29 = some q0 → A q0) (P_3 : ∀ q0, h.2 a0 28 = some q0 → A q0) (hf : X12_daysGo F a0 x1 h = some h1) : Fm A h h1 := by
  unfold X12_daysGo at hf
  have m0 := fm_rf (A := A) (h := h)
  obtain ⟨k_1, hf⟩ := gq_ex hf
  obtain ⟨h_3, eh_3, hf⟩ := ob_ex hf
  have mh_3 := fm_tr m0 (W_X12_beginsDays A F P_0 eh_3)
  exact fm_tr mh_3 (W_X12_daysGo_6 A F _ (fun q0 e0 => P_1 q0 (mh_3.1 ▸ e0)) (fun q0 e0 => P_2 q0 (mh_3.1 ▸ e0)) P_0 (fun q0 e0 => P_3 q0 (mh_3.1 ▸ e0)) hf)
theorem W_X12_daysGo (A : Nat → Prop) (F : Nat) {h : Hp} {a0 : Nat} {x1 : Int32} {h1 : Hp} (P_0 : A a0) (P_1 : ∀ q0, h.2 a0 0 = some q0 → A q0) (P_2 : ∀ q0, h.2 a0 29 = some q0 → A q0) (P_3 : ∀ q0, h.2 a0 28 = some q0 → A q0) (hf : X12_daysGo F a0 x1 h = some h1) : Fm A h h1 := W_X12_daysGo_0 A F P_0 P_1 P_2 P_3 hf
theorem W_X12_days_0 (A : Nat → Prop) (F : Nat) {h : Hp} {a0 : Nat} {x1 : Int32} {r : Int32} {h1 : Hp} (P_0 : A a0) (P_1 : ∀ q0, h.2 a0 0 = some q0 → A q0) (P_2 : ∀ q0, h.2 a0 29 = some q0 → A q0) (P_3 : ∀ q0, h.2 a0 28 = some q0 → A q0) (hf : X12_days F a0 x1 h = some (r, h1)) : Fm A h h1 := by
  unfold X12_days at hf
  have m0 := fm_rf (A := A) (h := h)
  obtain ⟨c_1, ec_1, hf⟩ := ob_ex hf
  rcases ite_ex hf with ⟨q_3, hf⟩ | ⟨q_3, hf⟩
  · skip
    cases hf
    exact m0
  · skip
    obtain ⟨k_4, hf⟩ := gq_ex hf
    obtain ⟨h_6, eh_6, hf⟩ := ob_ex hf
    have mh_6 := fm_tr m0 (W_X12_daysGo A F P_0 (fun q0 e0 => P_1 q0 (m0.1 ▸ e0)) (fun q0 e0 => P_2 q0 (m0.1 ▸ e0)) (fun q0 e0 => P_3 q0 (m0.1 ▸ e0)) eh_6)
    cases hf
    exact mh_6
theorem W_X12_days (A : Nat → Prop) (F : Nat) {h : Hp} {a0 : Nat} {x1 : Int32} {r : Int32} {h1 : Hp} (P_0 : A a0) (P_1 : ∀ q0, h.2 a0 0 = some q0 → A q0) (P_2 : ∀ q0, h.2 a0 29 = some q0 → A q0) (P_3 : ∀ q0, h.2 a0 28 = some q0 → A q0) (hf : X12_days F a0 x1 h = some (r, h1)) : Fm A h h1 := W_X12_days_0 A F P_0 P_1 P_2 P_3 hf
theorem W_X12_tried_127 (A : Nat → Prop) (F : Nat) {h : Hp} {a0 : Nat} {x3 : Int32} {r : Int32} {h1 : Hp} (P_0 : ∀ q0, h.2 a0 0 = some q0 → A q0) (hf : X12_tried_127 F a0 x3 h = some (r, h1)) : Fm A h h1 := by
  unfold X12_tried_127 at hf
  have m0 := fm_rf (A := A) (h := h)
  obtain ⟨k_1, hf⟩ := gq_ex hf
  obtain ⟨j_2, ej_2, hf⟩ := ob_ex hf
  have zj_2 : h.2 a0 1 = some j_2 := m0.1 ▸ ej_2
  obtain ⟨j_3, ej_3, hf⟩ := ob_ex hf
  have zj_3 : h.2 a0 0 = some j_3 := m0.1 ▸ ej_3
  obtain ⟨h_5, eh_5, hf⟩ := ob_ex hf
  have mh_5 := fm_tr m0 (W_X12_copies A F (P_0 _ zj_3) eh_5)
  cases hf
  exact mh_5
theorem W_X12_tried_33 (A : Nat → Prop) (F : Nat) {h : Hp} {a0 : Nat} {x1 : Int32} {x2 : Int32} {r : Int32} {h1 : Hp} (P_0 : A a0) (P_1 : ∀ q0, h.2 a0 1 = some q0 → A q0) (P_2 : ∀ q0, h.2 a0 0 = some q0 → A q0) (P_3 : ∀ q0, h.2 a0 29 = some q0 → A q0) (P_4 : ∀ q0, h.2 a0 28 = some q0 → A q0) (hf : X12_tried_33 F a0 x1 x2 h = some (r, h1)) : Fm A h h1 := by
  unfold X12_tried_33 at hf
  have m0 := fm_rf (A := A) (h := h)
  obtain ⟨k_1, hf⟩ := gq_ex hf
  obtain ⟨j_2, ej_2, hf⟩ := ob_ex hf
  have zj_2 : h.2 a0 0 = some j_2 := m0.1 ▸ ej_2
  obtain ⟨j_3, ej_3, hf⟩ := ob_ex hf
  have zj_3 : h.2 a0 1 = some j_3 := m0.1 ▸ ej_3
  obtain ⟨h_5, eh_5, hf⟩ := ob_ex hf
  have mh_5 := fm_tr m0 (W_X12_copies A F (P_1 _ zj_3) eh_5)
  obtain ⟨h_7, eh_7, hf⟩ := ob_ex hf
  have mh_7 := fm_tr mh_5 (W_X12_daysGo A F P_0 (fun q0 e0 => P_2 q0 (mh_5.1 ▸ e0)) (fun q0 e0 => P_3 q0 (mh_5.1 ▸ e0)) (fun q0 e0 => P_4 q0 (mh_5.1 ▸ e0)) eh_7)
  obtain ⟨t_8, et_8, hf⟩ := bd_ex hf
  rcases ite_ex hf with ⟨q_9, hf⟩ | ⟨q_9, hf⟩
  · skip
    obtain ⟨x3_10, ex3_10, hf⟩ := bd_ex hf
    exact fm_tr mh_7 (W_X12_tried_127 A F (fun q0 e0 => P_2 q0 (mh_7.1 ▸ e0)) hf)
  · skip
    rcases ite_ex hf with ⟨q_11, hf⟩ | ⟨q_11, hf⟩
    · skip
      obtain ⟨x3_12, ex3_12, hf⟩ := bd_ex hf
      exact fm_tr mh_7 (W_X12_tried_127 A F (fun q0 e0 => P_2 q0 (mh_7.1 ▸ e0)) hf)
    · skip
      rcases ite_ex hf with ⟨q_13, hf⟩ | ⟨q_13, hf⟩
      · skip
        obtain ⟨j_14, ej_14, hf⟩ := ob_ex hf
        have zj_14 : h.2 a0 0 = some j_14 := mh_7.1 ▸ ej_14
        obtain ⟨k_15, hf⟩ := gq_ex hf
        obtain ⟨b_16, hf⟩ := gq_ex hf
        obtain ⟨x3_17, ex3_17, hf⟩ := bd_ex hf
        exact fm_tr mh_7 (W_X12_tried_127 A F (fun q0 e0 => P_2 q0 (mh_7.1 ▸ e0)) hf)
      · skip
        rcases ite_ex hf with ⟨q_18, hf⟩ | ⟨q_18, hf⟩
        · skip
          obtain ⟨j_19, ej_19, hf⟩ := ob_ex hf
          have zj_19 : h.2 a0 0 = some j_19 := mh_7.1 ▸ ej_19
          obtain ⟨k_20, hf⟩ := gq_ex hf
          obtain ⟨b_21, hf⟩ := gq_ex hf
          obtain ⟨x3_22, ex3_22, hf⟩ := bd_ex hf
          exact fm_tr mh_7 (W_X12_tried_127 A F (fun q0 e0 => P_2 q0 (mh_7.1 ▸ e0)) hf)
        · skip
          obtain ⟨c_23, ec_23, hf⟩ := ob_ex hf
          exact fm_tr mh_7 (W_X12_tried_127 A F (fun q0 e0 => P_2 q0 (mh_7.1 ▸ e0)) hf)
theorem W_X12_tried_0 (A : Nat → Prop) (F : Nat) {h : Hp} {a0 : Nat} {x1 : Int32} {x2 : Int32} {r : Int32} {h1 : Hp} (P_0 : A a0) (P_1 : ∀ q0, h.2 a0 1 = some q0 → A q0) (P_2 : ∀ q0, h.2 a0 0 = some q0 → A q0) (P_3 : ∀ q0, h.2 a0 29 = some q0 → A q0) (P_4 : ∀ q0, h.2 a0 28 = some q0 → A q0) (hf : X12_tried F a0 x1 x2 h = some (r, h1)) : Fm A h h1 := by
  unfold X12_tried at hf
  have m0 := fm_rf (A := A) (h := h)
  obtain ⟨c_1, ec_1, hf⟩ := ob_ex hf
  rcases ite_ex hf with ⟨q_3, hf⟩ | ⟨q_3, hf⟩
  · skip
    cases hf
    exact m0
  · skip
    obtain ⟨c_4, ec_4, hf⟩ := ob_ex hf
    rcases ite_ex hf with ⟨q_6, hf⟩ | ⟨q_6, hf⟩
    · skip
      obtain ⟨c_7, ec_7, hf⟩ := ob_ex hf
      rcases ite_ex hf with ⟨q_9, hf⟩ | ⟨q_9, hf⟩
      · skip
        cases hf
        exact m0
      · skip
        exact fm_tr m0 (W_X12_tried_33 A F P_0 (fun q0 e0 => P_1 q0 (m0.1 ▸ e0)) (fun q0 e0 => P_2 q0 (m0.1 ▸ e0)) (fun q0 e0 => P_3 q0 (m0.1 ▸ e0)) (fun q0 e0 => P_4 q0 (m0.1 ▸ e0)) hf)
    · skip
      exact fm_tr m0 (W_X12_tried_33 A F P_0 (fun q0 e0 => P_1 q0 (m0.1 ▸ e0)) (fun q0 e0 => P_2 q0 (m0.1 ▸ e0)) (fun q0 e0 => P_3 q0 (m0.1 ▸ e0)) (fun q0 e0 => P_4 q0 (m0.1 ▸ e0)) hf)
theorem W_X12_tried (A : Nat → Prop) (F : Nat) {h : Hp} {a0 : Nat} {x1 : Int32} {x2 : Int32} {r : Int32} {h1 : Hp} (P_0 : A a0) (P_1 : ∀ q0, h.2 a0 1 = some q0 → A q0) (P_2 : ∀ q0, h.2 a0 0 = some q0 → A q0) (P_3 : ∀ q0, h.2 a0 29 = some q0 → A q0) (P_4 : ∀ q0, h.2 a0 28 = some q0 → A q0) (hf : X12_tried F a0 x1 x2 h = some (r, h1)) : Fm A h h1 := W_X12_tried_0 A F P_0 P_1 P_2 P_3 P_4 hf
theorem W_X12_touches_76 (A : Nat → Prop) (F : Nat) {h : Hp} {a0 : Nat} {x2 : Int32} {x3 : Int32} {r : Int32} {h1 : Hp} (P_0 : ∀ q0, h.2 a0 0 = some q0 → A q0) (hf : X12_touches_76 F a0 x2 x3 h = some (r, h1)) : Fm A h h1 := by
  unfold X12_touches_76 at hf
  have m0 := fm_rf (A := A) (h := h)
  obtain ⟨k_1, hf⟩ := gq_ex hf
  obtain ⟨c_2, ec_2, hf⟩ := ob_ex hf
  obtain ⟨j_4, ej_4, hf⟩ := ob_ex hf
  have zj_4 : h.2 a0 1 = some j_4 := m0.1 ▸ ej_4
  obtain ⟨j_5, ej_5, hf⟩ := ob_ex hf
  have zj_5 : h.2 a0 0 = some j_5 := m0.1 ▸ ej_5
  obtain ⟨h_7, eh_7, hf⟩ := ob_ex hf
  have mh_7 := fm_tr m0 (W_X12_copies A F (P_0 _ zj_5) eh_7)
  rcases ite_ex hf with ⟨q_8, hf⟩ | ⟨q_8, hf⟩
  · skip
    cases hf
    exact mh_7
  · skip
    rcases ite_ex hf with ⟨q_9, hf⟩ | ⟨q_9, hf⟩
    · skip
      cases hf
      exact mh_7
    · skip
      cases hf
      exact mh_7
theorem W_X12_touches_39 (A : Nat → Prop) (F : Nat) : ∀ (f : Nat) {h : Hp} {a0 : Nat} {x1 : Int32} {x2 : Int32} {x3 : Int32} {r : Int32} {h1 : Hp} (P_0 : ∀ q0, h.2 a0 0 = some q0 → A q0) (P_1 : ∀ q0, h.2 a0 29 = some q0 → A q0) (P_2 : A a0) (P_3 : ∀ q0, h.2 a0 28 = some q0 → A q0), X12_touches_39 F f a0 x1 x2 x3 h = some (r, h1) → Fm A h h1 := by
  intro f
  induction f with
  | zero =>
    intro h a0 x1 x2 x3 r h1 P_0 P_1 P_2 P_3 hf
    exact nomatch (show (none : Option _) = some _ from hf)
  | succ f ih =>
    intro h a0 x1 x2 x3 r h1 P_0 P_1 P_2 P_3 hf
    rw [X12_touches_39] at hf
    have m0 := fm_rf (A := A) (h := h)
    rcases ite_ex hf with ⟨q_1, hf⟩ | ⟨q_1, hf⟩
    · skip
      exact fm_tr m0 (W_X12_touches_76 A F (fun q0 e0 => P_0 q0 (m0.1 ▸ e0)) hf)
    · skip
      obtain ⟨k_2, hf⟩ := gq_ex hf
      obtain ⟨c_3, ec_3, hf⟩ := ob_ex hf
      rcases ite_ex hf with ⟨q_5, hf⟩ | ⟨q_5, hf⟩
      · skip
        obtain ⟨j_6, ej_6, hf⟩ := ob_ex hf
        have zj_6 : h.2 a0 0 = some j_6 := m0.1 ▸ ej_6
        obtain ⟨k_7, hf⟩ := gq_ex hf
        obtain ⟨b_8, hf⟩ := gq_ex hf
        rcases ite_ex hf with ⟨q_9, hf⟩ | ⟨q_9, hf⟩
        · skip
          exact fm_tr m0 (W_X12_touches_76 A F (fun q0 e0 => P_0 q0 (m0.1 ▸ e0)) hf)
        · skip
          obtain ⟨h_11, eh_11, hf⟩ := ob_ex hf
          have mh_11 := fm_tr m0 (W_X12_dayGoes A F (fun q0 e0 => P_0 q0 (m0.1 ▸ e0)) (fun q0 e0 => P_1 q0 (m0.1 ▸ e0)) P_2 (fun q0 e0 => P_3 q0 (m0.1 ▸ e0)) eh_11)
          obtain ⟨x3_12, ex3_12, hf⟩ := bd_ex hf
          exact fm_tr mh_11 (ih (fun q0 e0 => P_0 q0 (mh_11.1 ▸ e0)) (fun q0 e0 => P_1 q0 (mh_11.1 ▸ e0)) P_2 (fun q0 e0 => P_3 q0 (mh_11.1 ▸ e0)) hf)
      · skip
        exact fm_tr m0 (W_X12_touches_76 A F (fun q0 e0 => P_0 q0 (m0.1 ▸ e0)) hf)
theorem W_X12_touches_0 (A : Nat → Prop) (F : Nat) {h : Hp} {a0 : Nat} {x1 : Int32} {x2 : Int32} {r : Int32} {h1 : Hp} (P_0 : A a0) (P_1 : ∀ q0, h.2 a0 1 = some q0 → A q0) (P_2 : ∀ q0, h.2 a0 0 = some q0 → A q0) (P_3 : ∀ q0, h.2 a0 29 = some q0 → A q0) (P_4 : ∀ q0, h.2 a0 28 = some q0 → A q0) (hf : X12_touches F a0 x1 x2 h = some (r, h1)) : Fm A h h1 := by
  unfold X12_touches at hf
  have m0 := fm_rf (A := A) (h := h)
  obtain ⟨c_1, ec_1, hf⟩ := ob_ex hf
  rcases ite_ex hf with ⟨q_3, hf⟩ | ⟨q_3, hf⟩
  · skip
    cases hf
    exact m0
  · skip
    obtain ⟨c_4, ec_4, hf⟩ := ob_ex hf
    rcases ite_ex hf with ⟨q_6, hf⟩ | ⟨q_6, hf⟩
    · skip
      cases hf
      exact m0
    · skip
      obtain ⟨k_7, hf⟩ := gq_ex hf
      obtain ⟨j_8, ej_8, hf⟩ := ob_ex hf
      have zj_8 : h.2 a0 0 = some j_8 := m0.1 ▸ ej_8
      obtain ⟨j_9, ej_9, hf⟩ := ob_ex hf
      have zj_9 : h.2 a0 1 = some j_9 := m0.1 ▸ ej_9
      obtain ⟨h_11, eh_11, hf⟩ := ob_ex hf
      have mh_11 := fm_tr m0 (W_X12_copies A F (P_1 _ zj_9) eh_11)
      obtain ⟨h_13, eh_13, hf⟩ := ob_ex hf
      have mh_13 := fm_tr mh_11 (W_X12_beginsDays A F P_0 eh_13)
      exact fm_tr mh_13 (W_X12_touches_39 A F _ (fun q0 e0 => P_2 q0 (mh_13.1 ▸ e0)) (fun q0 e0 => P_3 q0 (mh_13.1 ▸ e0)) P_0 (fun q0 e0 => P_4 q0 (mh_13.1 ▸ e0)) hf)
theorem W_X12_touches (A : Nat → Prop) (F : Nat) {h : Hp} {a0 : Nat} {x1 : Int32} {x2 : Int32} {r : Int32} {h1 : Hp} (P_0 : A a0) (P_1 : ∀ q0, h.2 a0 1 = some q0 → A q0) (P_2 : ∀ q0, h.2 a0 0 = some q0 → A q0) (P_3 : ∀ q0, h.2 a0 29 = some q0 → A q0) (P_4 : ∀ q0, h.2 a0 28 = some q0 → A q0) (hf : X12_touches F a0 x1 x2 h = some (r, h1)) : Fm A h h1 := W_X12_touches_0 A F P_0 P_1 P_2 P_3 P_4 hf
theorem W_X12_ahead_92 (A : Nat → Prop) (F : Nat) {h : Hp} {a0 : Nat} {x2 : Int32} {r : Int32} {h1 : Hp} (P_0 : ∀ q0, h.2 a0 0 = some q0 → A q0) (hf : X12_ahead_92 F a0 x2 h = some (r, h1)) : Fm A h h1 := by
  unfold X12_ahead_92 at hf
  have m0 := fm_rf (A := A) (h := h)
  obtain ⟨k_1, hf⟩ := gq_ex hf
  obtain ⟨j_2, ej_2, hf⟩ := ob_ex hf
  have zj_2 : h.2 a0 1 = some j_2 := m0.1 ▸ ej_2
  obtain ⟨j_3, ej_3, hf⟩ := ob_ex hf
  have zj_3 : h.2 a0 0 = some j_3 := m0.1 ▸ ej_3
  obtain ⟨h_5, eh_5, hf⟩ := ob_ex hf
  have mh_5 := fm_tr m0 (W_X12_copies A F (P_0 _ zj_3) eh_5)
  cases hf
  exact mh_5
theorem W_X12_ahead_45 (A : Nat → Prop) (F : Nat) : ∀ (f : Nat) {h : Hp} {a0 : Nat} {x1 : Int32} {x2 : Int32} {x3 : Int32} {r : Int32} {h1 : Hp} (P_0 : ∀ q0, h.2 a0 0 = some q0 → A q0) (P_1 : ∀ q0, h.2 a0 29 = some q0 → A q0) (P_2 : A a0) (P_3 : ∀ q0, h.2 a0 28 = some q0 → A q0), X12_ahead_45 F f a0 x1 x2 x3 h = some (r, h1) → Fm A h h1 := by
  intro f
  induction f with
  | zero =>
    intro h a0 x1 x2 x3 r h1 P_0 P_1 P_2 P_3 hf
    exact nomatch (show (none : Option _) = some _ from hf)
  | succ f ih =>
    intro h a0 x1 x2 x3 r h1 P_0 P_1 P_2 P_3 hf
    rw [X12_ahead_45] at hf
    have m0 := fm_rf (A := A) (h := h)
    rcases ite_ex hf with ⟨q_1, hf⟩ | ⟨q_1, hf⟩
    · skip
      exact fm_tr m0 (W_X12_ahead_92 A F (fun q0 e0 => P_0 q0 (m0.1 ▸ e0)) hf)
    · skip
      obtain ⟨k_2, hf⟩ := gq_ex hf
      obtain ⟨j_3, ej_3, hf⟩ := ob_ex hf
      have zj_3 : h.2 a0 0 = some j_3 := m0.1 ▸ ej_3
      obtain ⟨k_4, hf⟩ := gq_ex hf
      obtain ⟨b_5, hf⟩ := gq_ex hf
      rcases ite_ex hf with ⟨q_6, hf⟩ | ⟨q_6, hf⟩
      · skip
        exact fm_tr m0 (W_X12_ahead_92 A F (fun q0 e0 => P_0 q0 (m0.1 ▸ e0)) hf)
      · skip
        obtain ⟨h_8, eh_8, hf⟩ := ob_ex hf
        have mh_8 := fm_tr m0 (W_X12_dayGoes A F (fun q0 e0 => P_0 q0 (m0.1 ▸ e0)) (fun q0 e0 => P_1 q0 (m0.1 ▸ e0)) P_2 (fun q0 e0 => P_3 q0 (m0.1 ▸ e0)) eh_8)
        obtain ⟨c_9, ec_9, hf⟩ := ob_ex hf
        obtain ⟨c_11, ec_11, hf⟩ := ob_ex hf
        obtain ⟨c_13, ec_13, hf⟩ := ob_ex hf
        obtain ⟨c_15, ec_15, hf⟩ := ob_ex hf
        obtain ⟨x3_17, ex3_17, hf⟩ := bd_ex hf
        exact fm_tr mh_8 (ih (fun q0 e0 => P_0 q0 (mh_8.1 ▸ e0)) (fun q0 e0 => P_1 q0 (mh_8.1 ▸ e0)) P_2 (fun q0 e0 => P_3 q0 (mh_8.1 ▸ e0)) hf)
theorem W_X12_ahead_0 (A : Nat → Prop) (F : Nat) {h : Hp} {a0 : Nat} {x1 : Int32} {r : Int32} {h1 : Hp} (P_0 : A a0) (P_1 : ∀ q0, h.2 a0 1 = some q0 → A q0) (P_2 : ∀ q0, h.2 a0 0 = some q0 → A q0) (P_3 : ∀ q0, h.2 a0 29 = some q0 → A q0) (P_4 : ∀ q0, h.2 a0 28 = some q0 → A q0) (hf : X12_ahead F a0 x1 h = some (r, h1)) : Fm A h h1 := by
  unfold X12_ahead at hf
  have m0 := fm_rf (A := A) (h := h)
  obtain ⟨c_1, ec_1, hf⟩ := ob_ex hf
  rcases ite_ex hf with ⟨q_3, hf⟩ | ⟨q_3, hf⟩
  · skip
    cases hf
    exact m0
  · skip
    obtain ⟨k_4, hf⟩ := gq_ex hf
    obtain ⟨j_5, ej_5, hf⟩ := ob_ex hf
    have zj_5 : h.2 a0 0 = some j_5 := m0.1 ▸ ej_5
    obtain ⟨j_6, ej_6, hf⟩ := ob_ex hf
    have zj_6 : h.2 a0 1 = some j_6 := m0.1 ▸ ej_6
    obtain ⟨h_8, eh_8, hf⟩ := ob_ex hf
    have mh_8 := fm_tr m0 (W_X12_copies A F (P_1 _ zj_6) eh_8)
    obtain ⟨h_10, eh_10, hf⟩ := ob_ex hf
    have mh_10 := fm_tr mh_8 (W_X12_beginsDays A F P_0 eh_10)
    obtain ⟨c_11, ec_11, hf⟩ := ob_ex hf
    obtain ⟨c_13, ec_13, hf⟩ := ob_ex hf
    obtain ⟨c_15, ec_15, hf⟩ := ob_ex hf
    exact fm_tr mh_10 (W_X12_ahead_45 A F _ (fun q0 e0 => P_2 q0 (mh_10.1 ▸ e0)) (fun q0 e0 => P_3 q0 (mh_10.1 ▸ e0)) P_0 (fun q0 e0 => P_4 q0 (mh_10.1 ▸ e0)) hf)
theorem W_X12_ahead (A : Nat → Prop) (F : Nat) {h : Hp} {a0 : Nat} {x1 : Int32} {r : Int32} {h1 : Hp} (P_0 : A a0) (P_1 : ∀ q0, h.2 a0 1 = some q0 → A q0) (P_2 : ∀ q0, h.2 a0 0 = some q0 → A q0) (P_3 : ∀ q0, h.2 a0 29 = some q0 → A q0) (P_4 : ∀ q0, h.2 a0 28 = some q0 → A q0) (hf : X12_ahead F a0 x1 h = some (r, h1)) : Fm A h h1 := W_X12_ahead_0 A F P_0 P_1 P_2 P_3 P_4 hf
theorem W_X12_beyond_97 (A : Nat → Prop) (F : Nat) {h : Hp} {a0 : Nat} {x3 : Int32} {s0 : Int32} {r : Int32} {h1 : Hp} (P_0 : ∀ q0, h.2 a0 0 = some q0 → A q0) (hf : X12_beyond_97 F a0 x3 s0 h = some (r, h1)) : Fm A h h1 := by
  unfold X12_beyond_97 at hf
  have m0 := fm_rf (A := A) (h := h)
  obtain ⟨k_1, hf⟩ := gq_ex hf
  obtain ⟨j_2, ej_2, hf⟩ := ob_ex hf
  have zj_2 : h.2 a0 1 = some j_2 := m0.1 ▸ ej_2
  obtain ⟨j_3, ej_3, hf⟩ := ob_ex hf
  have zj_3 : h.2 a0 0 = some j_3 := m0.1 ▸ ej_3
  obtain ⟨h_5, eh_5, hf⟩ := ob_ex hf
  have mh_5 := fm_tr m0 (W_X12_copies A F (P_0 _ zj_3) eh_5)
  rcases ite_ex hf with ⟨q_6, hf⟩ | ⟨q_6, hf⟩
  · skip
    cases hf
    exact mh_5
  · skip
    cases hf
    exact mh_5
theorem W_X12_beyond_81 (A : Nat → Prop) (F : Nat) {h : Hp} {a0 : Nat} {x2 : Int32} {x3 : Int32} {r : Int32} {h1 : Hp} (P_0 : ∀ q0, h.2 a0 0 = some q0 → A q0) (hf : X12_beyond_81 F a0 x2 x3 h = some (r, h1)) : Fm A h h1 := by
  unfold X12_beyond_81 at hf
  have m0 := fm_rf (A := A) (h := h)
  obtain ⟨k_1, hf⟩ := gq_ex hf
  obtain ⟨j_2, ej_2, hf⟩ := ob_ex hf
  have zj_2 : h.2 a0 0 = some j_2 := m0.1 ▸ ej_2
  obtain ⟨k_3, hf⟩ := gq_ex hf
  obtain ⟨b_4, hf⟩ := gq_ex hf
  rcases ite_ex hf with ⟨q_5, hf⟩ | ⟨q_5, hf⟩
  · skip
    exact fm_tr m0 (W_X12_beyond_97 A F (fun q0 e0 => P_0 q0 (m0.1 ▸ e0)) hf)
  · skip
    exact fm_tr m0 (W_X12_beyond_97 A F (fun q0 e0 => P_0 q0 (m0.1 ▸ e0)) hf)
theorem W_X12_beyond_41 (A : Nat → Prop) (F : Nat) : ∀ (f : Nat) {h : Hp} {a0 : Nat} {x1 : Int32} {x2 : Int32} {x3 : Int32} {r : Int32} {h1 : Hp} (P_0 : ∀ q0, h.2 a0 0 = some q0 → A q0) (P_1 : ∀ q0, h.2 a0 29 = some q0 → A q0) (P_2 : A a0) (P_3 : ∀ q0, h.2 a0 28 = some q0 → A q0), X12_beyond_41 F f a0 x1 x2 x3 h = some (r, h1) → Fm A h h1 := by
  intro f
  induction f with
  | zero =>
    intro h a0 x1 x2 x3 r h1 P_0 P_1 P_2 P_3 hf
    exact nomatch (show (none : Option _) = some _ from hf)
  | succ f ih =>
    intro h a0 x1 x2 x3 r h1 P_0 P_1 P_2 P_3 hf
    rw [X12_beyond_41] at hf
    have m0 := fm_rf (A := A) (h := h)
    rcases ite_ex hf with ⟨q_1, hf⟩ | ⟨q_1, hf⟩
    · skip
      exact fm_tr m0 (W_X12_beyond_81 A F (fun q0 e0 => P_0 q0 (m0.1 ▸ e0)) hf)
    · skip
      obtain ⟨k_2, hf⟩ := gq_ex hf
      obtain ⟨j_3, ej_3, hf⟩ := ob_ex hf
      have zj_3 : h.2 a0 0 = some j_3 := m0.1 ▸ ej_3
      obtain ⟨k_4, hf⟩ := gq_ex hf
      obtain ⟨b_5, hf⟩ := gq_ex hf
      rcases ite_ex hf with ⟨q_6, hf⟩ | ⟨q_6, hf⟩
      · skip
        exact fm_tr m0 (W_X12_beyond_81 A F (fun q0 e0 => P_0 q0 (m0.1 ▸ e0)) hf)
      · skip
        obtain ⟨b_7, hf⟩ := gq_ex hf
        rcases ite_ex hf with ⟨q_8, hf⟩ | ⟨q_8, hf⟩
        · skip
          exact fm_tr m0 (W_X12_beyond_81 A F (fun q0 e0 => P_0 q0 (m0.1 ▸ e0)) hf)
        · skip
          obtain ⟨h_10, eh_10, hf⟩ := ob_ex hf
          have mh_10 := fm_tr m0 (W_X12_dayGoes A F (fun q0 e0 => P_0 q0 (m0.1 ▸ e0)) (fun q0 e0 => P_1 q0 (m0.1 ▸ e0)) P_2 (fun q0 e0 => P_3 q0 (m0.1 ▸ e0)) eh_10)
          obtain ⟨x3_11, ex3_11, hf⟩ := bd_ex hf
          exact fm_tr mh_10 (ih (fun q0 e0 => P_0 q0 (mh_10.1 ▸ e0)) (fun q0 e0 => P_1 q0 (mh_10.1 ▸ e0)) P_2 (fun q0 e0 => P_3 q0 (mh_10.1 ▸ e0)) hf)
theorem W_X12_beyond_0 (A : Nat → Prop) (F : Nat) {h : Hp} {a0 : Nat} {x1 : Int32} {x2 : Int32} {r : Int32} {h1 : Hp} (P_0 : A a0) (P_1 : ∀ q0, h.2 a0 1 = some q0 → A q0) (P_2 : ∀ q0, h.2 a0 0 = some q0 → A q0) (P_3 : ∀ q0, h.2 a0 29 = some q0 → A q0) (P_4 : ∀ q0, h.2 a0 28 = some q0 → A q0) (hf : X12_beyond F a0 x1 x2 h = some (r, h1)) : Fm A h h1 := by
  unfold X12_beyond at hf
  have m0 := fm_rf (A := A) (h := h)
  obtain ⟨c_1, ec_1, hf⟩ := ob_ex hf
  rcases ite_ex hf with ⟨q_3, hf⟩ | ⟨q_3, hf⟩
  · skip
    cases hf
    exact m0
  · skip
    obtain ⟨c_4, ec_4, hf⟩ := ob_ex hf
    rcases ite_ex hf with ⟨q_6, hf⟩ | ⟨q_6, hf⟩
    · skip
      cases hf
      exact m0
    · skip
      obtain ⟨k_7, hf⟩ := gq_ex hf
      obtain ⟨j_8, ej_8, hf⟩ := ob_ex hf
      have zj_8 : h.2 a0 0 = some j_8 := m0.1 ▸ ej_8
      obtain ⟨j_9, ej_9, hf⟩ := ob_ex hf
      have zj_9 : h.2 a0 1 = some j_9 := m0.1 ▸ ej_9
      obtain ⟨h_11, eh_11, hf⟩ := ob_ex hf
      have mh_11 := fm_tr m0 (W_X12_copies A F (P_1 _ zj_9) eh_11)
      obtain ⟨h_13, eh_13, hf⟩ := ob_ex hf
      have mh_13 := fm_tr mh_11 (W_X12_beginsDays A F P_0 eh_13)
      exact fm_tr mh_13 (W_X12_beyond_41 A F _ (fun q0 e0 => P_2 q0 (mh_13.1 ▸ e0)) (fun q0 e0 => P_3 q0 (mh_13.1 ▸ e0)) P_0 (fun q0 e0 => P_4 q0 (mh_13.1 ▸ e0)) hf)
theorem W_X12_beyond (A : Nat → Prop) (F : Nat) {h : Hp} {a0 : Nat} {x1 : Int32} {x2 : Int32} {r : Int32} {h1 : Hp} (P_0 : A a0) (P_1 : ∀ q0, h.2 a0 1 = some q0 → A q0) (P_2 : ∀ q0, h.2 a0 0 = some q0 → A q0) (P_3 : ∀ q0, h.2 a0 29 = some q0 → A q0) (P_4 : ∀ q0, h.2 a0 28 = some q0 → A q0) (hf : X12_beyond F a0 x1 x2 h = some (r, h1)) : Fm A h h1 := W_X12_beyond_0 A F P_0 P_1 P_2 P_3 P_4 hf
theorem W_X12_even_182 (A : Nat → Prop) (F : Nat) {k97 : Nat → Int32 → Int32 → Int32 → Int32 → Int32 → Hp → Option (Int32 × Hp)} {k108 : Nat → Int32 → Int32 → Int32 → Int32 → Int32 → Int32 → Hp → Option (Int32 × Hp)} (hk97 : ∀ {h : Hp} {a0 : Nat} {x1 : Int32} {x2 : Int32} {x3 : Int32} {x4 : Int32} {x5 : Int32} {r : Int32} {h1 : Hp}, k97 a0 x1 x2 x3 x4 x5 h = some (r, h1) → Fm A h h1) (hk108 : ∀ {h : Hp} {a0 : Nat} {x1 : Int32} {x2 : Int32} {x3 : Int32} {x4 : Int32} {x5 : Int32} {x6 : Int32} {r : Int32} {h1 : Hp}, k108 a0 x1 x2 x3 x4 x5 x6 h = some (r, h1) → Fm A h h1) {h : Hp} {a0 : Nat} {x1 : Int32} {x2 : Int32} {x3 : Int32} {x4 : Int32} {x5 : Int32} {x6 : Int32} {r : Int32} {h1 : Hp} (hf : X12_even_182 F k97 k108 a0 x1 x2 x3 x4 x5 x6 h = some (r, h1)) : Fm A h h1 := by
  unfold X12_even_182 at hf
  have m0 := fm_rf (A := A) (h := h)
  obtain ⟨x6_1, ex6_1, hf⟩ := bd_ex hf
  exact fm_tr m0 (hk108 hf)
theorem W_X12_even_108 (A : Nat → Prop) (F : Nat) {k97 : Nat → Int32 → Int32 → Int32 → Int32 → Int32 → Hp → Option (Int32 × Hp)} (hk97 : ∀ {h : Hp} {a0 : Nat} {x1 : Int32} {x2 : Int32} {x3 : Int32} {x4 : Int32} {x5 : Int32} {r : Int32} {h1 : Hp}, k97 a0 x1 x2 x3 x4 x5 h = some (r, h1) → Fm A h h1) : ∀ (f : Nat) {h : Hp} {a0 : Nat} {x1 : Int32} {x2 : Int32} {x3 : Int32} {x4 : Int32} {x5 : Int32} {x6 : Int32} {r : Int32} {h1 : Hp}, X12_even_108 F k97 f a0 x1 x2 x3 x4 x5 x6 h = some (r, h1) → Fm A h h1 := by
  intro f
  induction f with
  | zero =>
    intro h a0 x1 x2 x3 x4 x5 x6 r h1 hf
    exact nomatch (show (none : Option _) = some _ from hf)
  | succ f ih =>
    intro h a0 x1 x2 x3 x4 x5 x6 r h1 hf
    rw [X12_even_108] at hf
    have m0 := fm_rf (A := A) (h := h)
    rcases ite_ex hf with ⟨q_1, hf⟩ | ⟨q_1, hf⟩
    · skip
      obtain ⟨x5_2, ex5_2, hf⟩ := bd_ex hf
      exact fm_tr m0 (hk97 hf)
    · skip
      rcases ite_ex hf with ⟨q_3, hf⟩ | ⟨q_3, hf⟩
      · skip
        obtain ⟨k_4, hf⟩ := gq_ex hf
        obtain ⟨c_5, ec_5, hf⟩ := ob_ex hf
        obtain ⟨c_7, ec_7, hf⟩ := ob_ex hf
        obtain ⟨c_9, ec_9, hf⟩ := ob_ex hf
        obtain ⟨c_11, ec_11, hf⟩ := ob_ex hf
        obtain ⟨c_13, ec_13, hf⟩ := ob_ex hf
        obtain ⟨c_15, ec_15, hf⟩ := ob_ex hf
        obtain ⟨c_17, ec_17, hf⟩ := ob_ex hf
        exact fm_tr m0 (W_X12_even_182 A F hk97 (fun  q => ih  q) hf)
      · skip
        exact fm_tr m0 (W_X12_even_182 A F hk97 (fun  q => ih  q) hf)
theorem W_X12_even_97 (A : Nat → Prop) (F : Nat) : ∀ (f : Nat) {h : Hp} {a0 : Nat} {x1 : Int32} {x2 : Int32} {x3 : Int32} {x4 : Int32} {x5 : Int32} {r : Int32} {h1 : Hp}, X12_even_97 F f a0 x1 x2 x3 x4 x5 h = some (r, h1) → Fm A h h1 := by
  intro f
  induction f with
  | zero =>
    intro h a0 x1 x2 x3 x4 x5 r h1 hf
    exact nomatch (show (none : Option _) = some _ from hf)
  | succ f ih =>
    intro h a0 x1 x2 x3 x4 x5 r h1 hf
    rw [X12_even_97] at hf
    have m0 := fm_rf (A := A) (h := h)
    rcases ite_ex hf with ⟨q_1, hf⟩ | ⟨q_1, hf⟩
    · skip
      rcases ite_ex hf with ⟨q_2, hf⟩ | ⟨q_2, hf⟩
      · skip
        cases hf
        exact m0
      · skip
        cases hf
        exact m0
    · skip
      exact fm_tr m0 (W_X12_even_108 A F (fun  q => ih  q) _ hf)
theorem W_X12_even_55 (A : Nat → Prop) (F : Nat) : ∀ (f : Nat) {h : Hp} {a0 : Nat} {x1 : Int32} {x2 : Int32} {x3 : Int32} {r : Int32} {h1 : Hp}, X12_even_55 F f a0 x1 x2 x3 h = some (r, h1) → Fm A h h1 := by
  intro f
  induction f with
  | zero =>
    intro h a0 x1 x2 x3 r h1 hf
    exact nomatch (show (none : Option _) = some _ from hf)
  | succ f ih =>
    intro h a0 x1 x2 x3 r h1 hf
    rw [X12_even_55] at hf
    have m0 := fm_rf (A := A) (h := h)
    rcases ite_ex hf with ⟨q_1, hf⟩ | ⟨q_1, hf⟩
    · skip
      obtain ⟨k_2, hf⟩ := gq_ex hf
      obtain ⟨c_3, ec_3, hf⟩ := ob_ex hf
      obtain ⟨c_5, ec_5, hf⟩ := ob_ex hf
      obtain ⟨x3_7, ex3_7, hf⟩ := bd_ex hf
      exact fm_tr m0 (W_X12_even_97 A F _ hf)
    · skip
      obtain ⟨k_8, hf⟩ := gq_ex hf
      obtain ⟨c_9, ec_9, hf⟩ := ob_ex hf
      rcases ite_ex hf with ⟨q_11, hf⟩ | ⟨q_11, hf⟩
      · skip
        cases hf
        exact m0
      · skip
        obtain ⟨x3_12, ex3_12, hf⟩ := bd_ex hf
        exact fm_tr m0 (ih hf)
theorem W_X12_even_0 (A : Nat → Prop) (F : Nat) {h : Hp} {a0 : Nat} {x1 : Int32} {x2 : Int32} {r : Int32} {h1 : Hp} (P_0 : A a0) (hf : X12_even F a0 x1 x2 h = some (r, h1)) : Fm A h h1 := by
  unfold X12_even at hf
  have m0 := fm_rf (A := A) (h := h)
  obtain ⟨c_1, ec_1, hf⟩ := ob_ex hf
  rcases ite_ex hf with ⟨q_3, hf⟩ | ⟨q_3, hf⟩
  · skip
    cases hf
    exact m0
  · skip
    obtain ⟨c_4, ec_4, hf⟩ := ob_ex hf
    rcases ite_ex hf with ⟨q_6, hf⟩ | ⟨q_6, hf⟩
    · skip
      cases hf
      exact m0
    · skip
      obtain ⟨k_7, hf⟩ := gq_ex hf
      rcases ite_ex hf with ⟨q_8, hf⟩ | ⟨q_8, hf⟩
      · skip
        obtain ⟨h_9, eh_9, hf⟩ := bd_ex hf
        have mh_9 := fm_tr m0 (fm_up eh_9 (P_0))
        obtain ⟨c_10, ec_10, hf⟩ := ob_ex hf
        rcases ite_ex hf with ⟨q_12, hf⟩ | ⟨q_12, hf⟩
        · skip
          cases hf
          exact mh_9
        · skip
          obtain ⟨c_13, ec_13, hf⟩ := ob_ex hf
          rcases ite_ex hf with ⟨q_15, hf⟩ | ⟨q_15, hf⟩
          · skip
            cases hf
            exact mh_9
          · skip
            exact fm_tr mh_9 (W_X12_even_55 A F _ hf)
      · skip
        cases hf
        exact m0
theorem W_X12_even (A : Nat → Prop) (F : Nat) {h : Hp} {a0 : Nat} {x1 : Int32} {x2 : Int32} {r : Int32} {h1 : Hp} (P_0 : A a0) (hf : X12_even F a0 x1 x2 h = some (r, h1)) : Fm A h h1 := W_X12_even_0 A F P_0 hf
theorem W_X12_inARow_132 (A : Nat → Prop) (F : Nat) {k7 : Nat → Int32 → Hp → Option (Int32 × Hp)} {k23 : Nat → Int32 → Int32 → Hp → Option (Int32 × Hp)} (hk7 : ∀ {h : Hp} {a0 : Nat} {x1 : Int32} {r : Int32} {h1 : Hp} (_ : ∀ q0, h.2 a0 41 = some q0 → A q0), k7 a0 x1 h = some (r, h1) → Fm A h h1) (hk23 : ∀ {h : Hp} {a0 : Nat} {x1 : Int32} {x2 : Int32} {r : Int32} {h1 : Hp} (_ : ∀ q0, h.2 a0 41 = some q0 → A q0), k23 a0 x1 x2 h = some (r, h1) → Fm A h h1) {h : Hp} {a0 : Nat} {x1 : Int32} {x2 : Int32} {x3 : Int32} {r : Int32} {h1 : Hp} (P_0 : ∀ q0, h.2 a0 41 = some q0 → A q0) (hf : X12_inARow_132 F k7 k23 a0 x1 x2 x3 h = some (r, h1)) : Fm A h h1 := by
  unfold X12_inARow_132 at hf
  have m0 := fm_rf (A := A) (h := h)
  obtain ⟨k_1, hf⟩ := gq_ex hf
  obtain ⟨j_2, ej_2, hf⟩ := ob_ex hf
  have zj_2 : h.2 a0 41 = some j_2 := m0.1 ▸ ej_2
  obtain ⟨c_3, ec_3, hf⟩ := ob_ex hf
  obtain ⟨k_5, hf⟩ := gq_ex hf
  obtain ⟨b_6, hf⟩ := gq_ex hf
  obtain ⟨h_7, eh_7, hf⟩ := bd_ex hf
  have mh_7 := fm_tr m0 (fm_up eh_7 (P_0 _ zj_2))
  obtain ⟨x2_8, ex2_8, hf⟩ := bd_ex hf
  exact fm_tr mh_7 (hk23 (fun q0 e0 => P_0 q0 (mh_7.1 ▸ e0)) hf)
theorem W_X12_inARow_95 (A : Nat → Prop) (F : Nat) {k7 : Nat → Int32 → Hp → Option (Int32 × Hp)} {k23 : Nat → Int32 → Int32 → Hp → Option (Int32 × Hp)} (hk7 : ∀ {h : Hp} {a0 : Nat} {x1 : Int32} {r : Int32} {h1 : Hp} (_ : ∀ q0, h.2 a0 41 = some q0 → A q0), k7 a0 x1 h = some (r, h1) → Fm A h h1) (hk23 : ∀ {h : Hp} {a0 : Nat} {x1 : Int32} {x2 : Int32} {r : Int32} {h1 : Hp} (_ : ∀ q0, h.2 a0 41 = some q0 → A q0), k23 a0 x1 x2 h = some (r, h1) → Fm A h h1) {h : Hp} {a0 : Nat} {x1 : Int32} {x2 : Int32} {x3 : Int32} {r : Int32} {h1 : Hp} (P_0 : ∀ q0, h.2 a0 41 = some q0 → A q0) (hf : X12_inARow_95 F k7 k23 a0 x1 x2 x3 h = some (r, h1)) : Fm A h h1 := by
  unfold X12_inARow_95 at hf
  have m0 := fm_rf (A := A) (h := h)
  obtain ⟨k_1, hf⟩ := gq_ex hf
  obtain ⟨j_2, ej_2, hf⟩ := ob_ex hf
  have zj_2 : h.2 a0 3 = some j_2 := m0.1 ▸ ej_2
  obtain ⟨k_3, hf⟩ := gq_ex hf
  obtain ⟨b_4, hf⟩ := gq_ex hf
  rcases ite_ex hf with ⟨q_5, hf⟩ | ⟨q_5, hf⟩
  · skip
    exact fm_tr m0 (W_X12_inARow_132 A F hk7 hk23 (fun q0 e0 => P_0 q0 (m0.1 ▸ e0)) hf)
  · skip
    obtain ⟨c_6, ec_6, hf⟩ := ob_ex hf
    rcases ite_ex hf with ⟨q_8, hf⟩ | ⟨q_8, hf⟩
    · skip
      exact fm_tr m0 (W_X12_inARow_132 A F hk7 hk23 (fun q0 e0 => P_0 q0 (m0.1 ▸ e0)) hf)
    · skip
      obtain ⟨j_9, ej_9, hf⟩ := ob_ex hf
      have zj_9 : h.2 a0 41 = some j_9 := m0.1 ▸ ej_9
      obtain ⟨k_10, hf⟩ := gq_ex hf
      obtain ⟨b_11, hf⟩ := gq_ex hf
      obtain ⟨x3_12, ex3_12, hf⟩ := bd_ex hf
      exact fm_tr m0 (W_X12_inARow_132 A F hk7 hk23 (fun q0 e0 => P_0 q0 (m0.1 ▸ e0)) hf)
theorem W_X12_inARow_57 (A : Nat → Prop) (F : Nat) {k7 : Nat → Int32 → Hp → Option (Int32 × Hp)} {k23 : Nat → Int32 → Int32 → Hp → Option (Int32 × Hp)} (hk7 : ∀ {h : Hp} {a0 : Nat} {x1 : Int32} {r : Int32} {h1 : Hp} (_ : ∀ q0, h.2 a0 41 = some q0 → A q0), k7 a0 x1 h = some (r, h1) → Fm A h h1) (hk23 : ∀ {h : Hp} {a0 : Nat} {x1 : Int32} {x2 : Int32} {r : Int32} {h1 : Hp} (_ : ∀ q0, h.2 a0 41 = some q0 → A q0), k23 a0 x1 x2 h = some (r, h1) → Fm A h h1) {h : Hp} {a0 : Nat} {x1 : Int32} {x2 : Int32} {s0 : Int32} {r : Int32} {h1 : Hp} (P_0 : ∀ q0, h.2 a0 41 = some q0 → A q0) (hf : X12_inARow_57 F k7 k23 a0 x1 x2 s0 h = some (r, h1)) : Fm A h h1 := by
  unfold X12_inARow_57 at hf
  have m0 := fm_rf (A := A) (h := h)
  obtain ⟨k_1, hf⟩ := gq_ex hf
  obtain ⟨j_2, ej_2, hf⟩ := ob_ex hf
  have zj_2 : h.2 a0 3 = some j_2 := m0.1 ▸ ej_2
  obtain ⟨k_3, hf⟩ := gq_ex hf
  obtain ⟨b_4, hf⟩ := gq_ex hf
  rcases ite_ex hf with ⟨q_5, hf⟩ | ⟨q_5, hf⟩
  · skip
    exact fm_tr m0 (W_X12_inARow_95 A F hk7 hk23 (fun q0 e0 => P_0 q0 (m0.1 ▸ e0)) hf)
  · skip
    obtain ⟨c_6, ec_6, hf⟩ := ob_ex hf
    rcases ite_ex hf with ⟨q_8, hf⟩ | ⟨q_8, hf⟩
    · skip
      exact fm_tr m0 (W_X12_inARow_95 A F hk7 hk23 (fun q0 e0 => P_0 q0 (m0.1 ▸ e0)) hf)
    · skip
      obtain ⟨j_9, ej_9, hf⟩ := ob_ex hf
      have zj_9 : h.2 a0 41 = some j_9 := m0.1 ▸ ej_9
      obtain ⟨k_10, hf⟩ := gq_ex hf
      obtain ⟨b_11, hf⟩ := gq_ex hf
      obtain ⟨x3_12, ex3_12, hf⟩ := bd_ex hf
      exact fm_tr m0 (W_X12_inARow_95 A F hk7 hk23 (fun q0 e0 => P_0 q0 (m0.1 ▸ e0)) hf)
theorem W_X12_inARow_56 (A : Nat → Prop) (F : Nat) {k7 : Nat → Int32 → Hp → Option (Int32 × Hp)} {k23 : Nat → Int32 → Int32 → Hp → Option (Int32 × Hp)} (hk7 : ∀ {h : Hp} {a0 : Nat} {x1 : Int32} {r : Int32} {h1 : Hp} (_ : ∀ q0, h.2 a0 41 = some q0 → A q0), k7 a0 x1 h = some (r, h1) → Fm A h h1) (hk23 : ∀ {h : Hp} {a0 : Nat} {x1 : Int32} {x2 : Int32} {r : Int32} {h1 : Hp} (_ : ∀ q0, h.2 a0 41 = some q0 → A q0), k23 a0 x1 x2 h = some (r, h1) → Fm A h h1) {h : Hp} {a0 : Nat} {x1 : Int32} {x2 : Int32} {r : Int32} {h1 : Hp} (P_0 : ∀ q0, h.2 a0 41 = some q0 → A q0) (hf : X12_inARow_56 F k7 k23 a0 x1 x2 h = some (r, h1)) : Fm A h h1 := by
  unfold X12_inARow_56 at hf
  have m0 := fm_rf (A := A) (h := h)
  exact fm_tr m0 (W_X12_inARow_57 A F hk7 hk23 (fun q0 e0 => P_0 q0 (m0.1 ▸ e0)) hf)
theorem W_X12_inARow_23 (A : Nat → Prop) (F : Nat) {k7 : Nat → Int32 → Hp → Option (Int32 × Hp)} (hk7 : ∀ {h : Hp} {a0 : Nat} {x1 : Int32} {r : Int32} {h1 : Hp} (_ : ∀ q0, h.2 a0 41 = some q0 → A q0), k7 a0 x1 h = some (r, h1) → Fm A h h1) : ∀ (f : Nat) {h : Hp} {a0 : Nat} {x1 : Int32} {x2 : Int32} {r : Int32} {h1 : Hp} (P_0 : ∀ q0, h.2 a0 41 = some q0 → A q0), X12_inARow_23 F k7 f a0 x1 x2 h = some (r, h1) → Fm A h h1 := by
  intro f
  induction f with
  | zero =>
    intro h a0 x1 x2 r h1 P_0 hf
    exact nomatch (show (none : Option _) = some _ from hf)
  | succ f ih =>
    intro h a0 x1 x2 r h1 P_0 hf
    rw [X12_inARow_23] at hf
    have m0 := fm_rf (A := A) (h := h)
    obtain ⟨k_1, hf⟩ := gq_ex hf
    obtain ⟨c_2, ec_2, hf⟩ := ob_ex hf
    rcases ite_ex hf with ⟨q_4, hf⟩ | ⟨q_4, hf⟩
    · skip
      obtain ⟨x1_5, ex1_5, hf⟩ := bd_ex hf
      exact fm_tr m0 (hk7 (fun q0 e0 => P_0 q0 (m0.1 ▸ e0)) hf)
    · skip
      obtain ⟨j_6, ej_6, hf⟩ := ob_ex hf
      have zj_6 : h.2 a0 3 = some j_6 := m0.1 ▸ ej_6
      obtain ⟨k_7, hf⟩ := gq_ex hf
      obtain ⟨b_8, hf⟩ := gq_ex hf
      rcases ite_ex hf with ⟨q_9, hf⟩ | ⟨q_9, hf⟩
      · skip
        obtain ⟨b_10, hf⟩ := gq_ex hf
        rcases ite_ex hf with ⟨q_11, hf⟩ | ⟨q_11, hf⟩
        · skip
          exact fm_tr m0 (W_X12_inARow_57 A F hk7 (fun p0 q => ih p0 q) (fun q0 e0 => P_0 q0 (m0.1 ▸ e0)) hf)
        · skip
          exact fm_tr m0 (W_X12_inARow_56 A F hk7 (fun p0 q => ih p0 q) (fun q0 e0 => P_0 q0 (m0.1 ▸ e0)) hf)
      · skip
        exact fm_tr m0 (W_X12_inARow_56 A F hk7 (fun p0 q => ih p0 q) (fun q0 e0 => P_0 q0 (m0.1 ▸ e0)) hf)
theorem W_X12_inARow_7 (A : Nat → Prop) (F : Nat) : ∀ (f : Nat) {h : Hp} {a0 : Nat} {x1 : Int32} {r : Int32} {h1 : Hp} (P_0 : ∀ q0, h.2 a0 41 = some q0 → A q0), X12_inARow_7 F f a0 x1 h = some (r, h1) → Fm A h h1 := by
  intro f
  induction f with
  | zero =>
    intro h a0 x1 r h1 P_0 hf
    exact nomatch (show (none : Option _) = some _ from hf)
  | succ f ih =>
    intro h a0 x1 r h1 P_0 hf
    rw [X12_inARow_7] at hf
    have m0 := fm_rf (A := A) (h := h)
    obtain ⟨k_1, hf⟩ := gq_ex hf
    obtain ⟨c_2, ec_2, hf⟩ := ob_ex hf
    rcases ite_ex hf with ⟨q_4, hf⟩ | ⟨q_4, hf⟩
    · skip
      obtain ⟨j_5, ej_5, hf⟩ := ob_ex hf
      have zj_5 : h.2 a0 41 = some j_5 := m0.1 ▸ ej_5
      obtain ⟨c_6, ec_6, hf⟩ := ob_ex hf
      obtain ⟨c_8, ec_8, hf⟩ := ob_ex hf
      obtain ⟨k_10, hf⟩ := gq_ex hf
      obtain ⟨b_11, hf⟩ := gq_ex hf
      cases hf
      exact m0
    · skip
      obtain ⟨j_12, ej_12, hf⟩ := ob_ex hf
      have zj_12 : h.2 a0 3 = some j_12 := m0.1 ▸ ej_12
      obtain ⟨k_13, hf⟩ := gq_ex hf
      obtain ⟨b_14, hf⟩ := gq_ex hf
      obtain ⟨x2_15, ex2_15, hf⟩ := bd_ex hf
      exact fm_tr m0 (W_X12_inARow_23 A F (fun p0 q => ih p0 q) _ (fun q0 e0 => P_0 q0 (m0.1 ▸ e0)) hf)
theorem W_X12_inARow_0 (A : Nat → Prop) (F : Nat) {h : Hp} {a0 : Nat} {r : Int32} {h1 : Hp} (P_0 : ∀ q0, h.2 a0 41 = some q0 → A q0) (hf : X12_inARow F a0 h = some (r, h1)) : Fm A h h1 := by
  unfold X12_inARow at hf
  have m0 := fm_rf (A := A) (h := h)
  obtain ⟨k_1, hf⟩ := gq_ex hf
  obtain ⟨j_2, ej_2, hf⟩ := ob_ex hf
  have zj_2 : h.2 a0 3 = some j_2 := m0.1 ▸ ej_2
  obtain ⟨k_3, hf⟩ := gq_ex hf
  obtain ⟨b_4, hf⟩ := gq_ex hf
  obtain ⟨x1_5, ex1_5, hf⟩ := bd_ex hf
  exact fm_tr m0 (W_X12_inARow_7 A F _ (fun q0 e0 => P_0 q0 (m0.1 ▸ e0)) hf)
theorem W_X12_inARow (A : Nat → Prop) (F : Nat) {h : Hp} {a0 : Nat} {r : Int32} {h1 : Hp} (P_0 : ∀ q0, h.2 a0 41 = some q0 → A q0) (hf : X12_inARow F a0 h = some (r, h1)) : Fm A h h1 := W_X12_inARow_0 A F P_0 hf
theorem W_X12_piles_213 (A : Nat → Prop) (F : Nat) {k58 : Nat → Int32 → Int32 → Int32 → Int32 → Int32 → Hp → Option (Int32 × Hp)} (hk58 : ∀ {h : Hp} {a0 : Nat} {x1 : Int32} {x2 : Int32} {x3 : Int32} {x4 : Int32} {x5 : Int32} {r : Int32} {h1 : Hp} (_ : ∀ q0, h.2 a0 42 = some q0 → A q0), k58 a0 x1 x2 x3 x4 x5 h = some (r, h1) → Fm A h h1) {h : Hp} {a0 : Nat} {x1 : Int32} {x2 : Int32} {x3 : Int32} {x4 : Int32} {x5 : Int32} {r : Int32} {h1 : Hp} (P_0 : ∀ q0, h.2 a0 42 = some q0 → A q0) (hf : X12_piles_213 F k58 a0 x1 x2 x3 x4 x5 h = some (r, h1)) : Fm A h h1 := by
  unfold X12_piles_213 at hf
  have m0 := fm_rf (A := A) (h := h)
  obtain ⟨x5_1, ex5_1, hf⟩ := bd_ex hf
  exact fm_tr m0 (hk58 (fun q0 e0 => P_0 q0 (m0.1 ▸ e0)) hf)
theorem W_X12_piles_209 (A : Nat → Prop) (F : Nat) {k58 : Nat → Int32 → Int32 → Int32 → Int32 → Int32 → Hp → Option (Int32 × Hp)} (hk58 : ∀ {h : Hp} {a0 : Nat} {x1 : Int32} {x2 : Int32} {x3 : Int32} {x4 : Int32} {x5 : Int32} {r : Int32} {h1 : Hp} (_ : ∀ q0, h.2 a0 42 = some q0 → A q0), k58 a0 x1 x2 x3 x4 x5 h = some (r, h1) → Fm A h h1) {h : Hp} {a0 : Nat} {x1 : Int32} {x2 : Int32} {x3 : Int32} {x5 : Int32} {r : Int32} {h1 : Hp} (P_0 : ∀ q0, h.2 a0 42 = some q0 → A q0) (hf : X12_piles_209 F k58 a0 x1 x2 x3 x5 h = some (r, h1)) : Fm A h h1 := by
  unfold X12_piles_209 at hf
  have m0 := fm_rf (A := A) (h := h)
  exact fm_tr m0 (W_X12_piles_213 A F hk58 (fun q0 e0 => P_0 q0 (m0.1 ▸ e0)) hf)
theorem W_X12_piles_159 (A : Nat → Prop) (F : Nat) {k58 : Nat → Int32 → Int32 → Int32 → Int32 → Int32 → Hp → Option (Int32 × Hp)} {k121 : Nat → Int32 → Int32 → Int32 → Int32 → Int32 → Int32 → Int32 → Hp → Option (Int32 × Hp)} (hk58 : ∀ {h : Hp} {a0 : Nat} {x1 : Int32} {x2 : Int32} {x3 : Int32} {x4 : Int32} {x5 : Int32} {r : Int32} {h1 : Hp} (_ : ∀ q0, h.2 a0 42 = some q0 → A q0), k58 a0 x1 x2 x3 x4 x5 h = some (r, h1) → Fm A h h1) (hk121 : ∀ {h : Hp} {a0 : Nat} {x1 : Int32} {x2 : Int32} {x3 : Int32} {x4 : Int32} {x5 : Int32} {x6 : Int32} {x7 : Int32} {r : Int32} {h1 : Hp} (_ : ∀ q0, h.2 a0 42 = some q0 → A q0), k121 a0 x1 x2 x3 x4 x5 x6 x7 h = some (r, h1) → Fm A h h1) {h : Hp} {a0 : Nat} {x1 : Int32} {x2 : Int32} {x3 : Int32} {x4 : Int32} {x5 : Int32} {x6 : Int32} {x7 : Int32} {r : Int32} {h1 : Hp} (P_0 : ∀ q0, h.2 a0 42 = some q0 → A q0) (hf : X12_piles_159 F k58 k121 a0 x1 x2 x3 x4 x5 x6 x7 h = some (r, h1)) : Fm A h h1 := by
  unfold X12_piles_159 at hf
  have m0 := fm_rf (A := A) (h := h)
  obtain ⟨x7_1, ex7_1, hf⟩ := bd_ex hf
  exact fm_tr m0 (hk121 (fun q0 e0 => P_0 q0 (m0.1 ▸ e0)) hf)
theorem W_X12_piles_121 (A : Nat → Prop) (F : Nat) {k58 : Nat → Int32 → Int32 → Int32 → Int32 → Int32 → Hp → Option (Int32 × Hp)} (hk58 : ∀ {h : Hp} {a0 : Nat} {x1 : Int32} {x2 : Int32} {x3 : Int32} {x4 : Int32} {x5 : Int32} {r : Int32} {h1 : Hp} (_ : ∀ q0, h.2 a0 42 = some q0 → A q0), k58 a0 x1 x2 x3 x4 x5 h = some (r, h1) → Fm A h h1) : ∀ (f : Nat) {h : Hp} {a0 : Nat} {x1 : Int32} {x2 : Int32} {x3 : Int32} {x4 : Int32} {x5 : Int32} {x6 : Int32} {x7 : Int32} {r : Int32} {h1 : Hp} (P_0 : ∀ q0, h.2 a0 42 = some q0 → A q0), X12_piles_121 F k58 f a0 x1 x2 x3 x4 x5 x6 x7 h = some (r, h1) → Fm A h h1 := by
  intro f
  induction f with
  | zero =>
    intro h a0 x1 x2 x3 x4 x5 x6 x7 r h1 P_0 hf
    exact nomatch (show (none : Option _) = some _ from hf)
  | succ f ih =>
    intro h a0 x1 x2 x3 x4 x5 x6 x7 r h1 P_0 hf
    rw [X12_piles_121] at hf
    have m0 := fm_rf (A := A) (h := h)
    rcases ite_ex hf with ⟨q_1, hf⟩ | ⟨q_1, hf⟩
    · skip
      obtain ⟨k_2, hf⟩ := gq_ex hf
      obtain ⟨j_3, ej_3, hf⟩ := ob_ex hf
      have zj_3 : h.2 a0 42 = some j_3 := m0.1 ▸ ej_3
      obtain ⟨k_4, hf⟩ := gq_ex hf
      obtain ⟨b_5, hf⟩ := gq_ex hf
      rcases ite_ex hf with ⟨q_6, hf⟩ | ⟨q_6, hf⟩
      · skip
        exact fm_tr m0 (W_X12_piles_213 A F hk58 (fun q0 e0 => P_0 q0 (m0.1 ▸ e0)) hf)
      · skip
        rcases ite_ex hf with ⟨q_7, hf⟩ | ⟨q_7, hf⟩
        · skip
          exact fm_tr m0 (W_X12_piles_213 A F hk58 (fun q0 e0 => P_0 q0 (m0.1 ▸ e0)) hf)
        · skip
          rcases ite_ex hf with ⟨q_8, hf⟩ | ⟨q_8, hf⟩
          · skip
            exact fm_tr m0 (W_X12_piles_209 A F hk58 (fun q0 e0 => P_0 q0 (m0.1 ▸ e0)) hf)
          · skip
            obtain ⟨b_9, hf⟩ := gq_ex hf
            obtain ⟨b_10, hf⟩ := gq_ex hf
            rcases ite_ex hf with ⟨q_11, hf⟩ | ⟨q_11, hf⟩
            · skip
              exact fm_tr m0 (W_X12_piles_213 A F hk58 (fun q0 e0 => P_0 q0 (m0.1 ▸ e0)) hf)
            · skip
              exact fm_tr m0 (W_X12_piles_209 A F hk58 (fun q0 e0 => P_0 q0 (m0.1 ▸ e0)) hf)
    · skip
      rcases ite_ex hf with ⟨q_12, hf⟩ | ⟨q_12, hf⟩
      · skip
        exact fm_tr m0 (W_X12_piles_159 A F hk58 (fun p0 q => ih p0 q) (fun q0 e0 => P_0 q0 (m0.1 ▸ e0)) hf)
      · skip
        obtain ⟨k_13, hf⟩ := gq_ex hf
        obtain ⟨j_14, ej_14, hf⟩ := ob_ex hf
        have zj_14 : h.2 a0 42 = some j_14 := m0.1 ▸ ej_14
        obtain ⟨k_15, hf⟩ := gq_ex hf
        obtain ⟨b_16, hf⟩ := gq_ex hf
        obtain ⟨b_17, hf⟩ := gq_ex hf
        obtain ⟨c_18, ec_18, hf⟩ := ob_ex hf
        obtain ⟨b_20, hf⟩ := gq_ex hf
        obtain ⟨h_21, eh_21, hf⟩ := bd_ex hf
        have mh_21 := fm_tr m0 (fm_up eh_21 (P_0 _ zj_14))
        exact fm_tr mh_21 (W_X12_piles_159 A F hk58 (fun p0 q => ih p0 q) (fun q0 e0 => P_0 q0 (mh_21.1 ▸ e0)) hf)
theorem W_X12_piles_109 (A : Nat → Prop) (F : Nat) {k58 : Nat → Int32 → Int32 → Int32 → Int32 → Int32 → Hp → Option (Int32 × Hp)} (hk58 : ∀ {h : Hp} {a0 : Nat} {x1 : Int32} {x2 : Int32} {x3 : Int32} {x4 : Int32} {x5 : Int32} {r : Int32} {h1 : Hp} (_ : ∀ q0, h.2 a0 42 = some q0 → A q0), k58 a0 x1 x2 x3 x4 x5 h = some (r, h1) → Fm A h h1) {h : Hp} {a0 : Nat} {x1 : Int32} {x2 : Int32} {x3 : Int32} {x4 : Int32} {x5 : Int32} {s0 : Int32} {r : Int32} {h1 : Hp} (P_0 : ∀ q0, h.2 a0 42 = some q0 → A q0) (hf : X12_piles_109 F k58 a0 x1 x2 x3 x4 x5 s0 h = some (r, h1)) : Fm A h h1 := by
  unfold X12_piles_109 at hf
  have m0 := fm_rf (A := A) (h := h)
  obtain ⟨c_1, ec_1, hf⟩ := ob_ex hf
  exact fm_tr m0 (W_X12_piles_121 A F hk58 _ (fun q0 e0 => P_0 q0 (m0.1 ▸ e0)) hf)
theorem W_X12_piles_108 (A : Nat → Prop) (F : Nat) {k58 : Nat → Int32 → Int32 → Int32 → Int32 → Int32 → Hp → Option (Int32 × Hp)} (hk58 : ∀ {h : Hp} {a0 : Nat} {x1 : Int32} {x2 : Int32} {x3 : Int32} {x4 : Int32} {x5 : Int32} {r : Int32} {h1 : Hp} (_ : ∀ q0, h.2 a0 42 = some q0 → A q0), k58 a0 x1 x2 x3 x4 x5 h = some (r, h1) → Fm A h h1) {h : Hp} {a0 : Nat} {x1 : Int32} {x2 : Int32} {x3 : Int32} {x4 : Int32} {x5 : Int32} {r : Int32} {h1 : Hp} (P_0 : ∀ q0, h.2 a0 42 = some q0 → A q0) (hf : X12_piles_108 F k58 a0 x1 x2 x3 x4 x5 h = some (r, h1)) : Fm A h h1 := by
  unfold X12_piles_108 at hf
  have m0 := fm_rf (A := A) (h := h)
  exact fm_tr m0 (W_X12_piles_109 A F hk58 (fun q0 e0 => P_0 q0 (m0.1 ▸ e0)) hf)
theorem W_X12_piles_79 (A : Nat → Prop) (F : Nat) {k58 : Nat → Int32 → Int32 → Int32 → Int32 → Int32 → Hp → Option (Int32 × Hp)} (hk58 : ∀ {h : Hp} {a0 : Nat} {x1 : Int32} {x2 : Int32} {x3 : Int32} {x4 : Int32} {x5 : Int32} {r : Int32} {h1 : Hp} (_ : ∀ q0, h.2 a0 42 = some q0 → A q0), k58 a0 x1 x2 x3 x4 x5 h = some (r, h1) → Fm A h h1) {h : Hp} {a0 : Nat} {x1 : Int32} {x2 : Int32} {x3 : Int32} {x4 : Int32} {x5 : Int32} {r : Int32} {h1 : Hp} (P_0 : ∀ q0, h.2 a0 42 = some q0 → A q0) (hf : X12_piles_79 F k58 a0 x1 x2 x3 x4 x5 h = some (r, h1)) : Fm A h h1 := by
  unfold X12_piles_79 at hf
  have m0 := fm_rf (A := A) (h := h)
  rcases ite_ex hf with ⟨q_1, hf⟩ | ⟨q_1, hf⟩
  · skip
    exact fm_tr m0 (W_X12_piles_108 A F hk58 (fun q0 e0 => P_0 q0 (m0.1 ▸ e0)) hf)
  · skip
    obtain ⟨k_2, hf⟩ := gq_ex hf
    obtain ⟨c_3, ec_3, hf⟩ := ob_ex hf
    obtain ⟨c_5, ec_5, hf⟩ := ob_ex hf
    rcases ite_ex hf with ⟨q_7, hf⟩ | ⟨q_7, hf⟩
    · skip
      exact fm_tr m0 (W_X12_piles_108 A F hk58 (fun q0 e0 => P_0 q0 (m0.1 ▸ e0)) hf)
    · skip
      exact fm_tr m0 (W_X12_piles_109 A F hk58 (fun q0 e0 => P_0 q0 (m0.1 ▸ e0)) hf)
theorem W_X12_piles_58 (A : Nat → Prop) (F : Nat) : ∀ (f : Nat) {h : Hp} {a0 : Nat} {x1 : Int32} {x2 : Int32} {x3 : Int32} {x4 : Int32} {x5 : Int32} {r : Int32} {h1 : Hp} (P_0 : ∀ q0, h.2 a0 42 = some q0 → A q0), X12_piles_58 F f a0 x1 x2 x3 x4 x5 h = some (r, h1) → Fm A h h1 := by
  intro f
  induction f with
  | zero =>
    intro h a0 x1 x2 x3 x4 x5 r h1 P_0 hf
    exact nomatch (show (none : Option _) = some _ from hf)
  | succ f ih =>
    intro h a0 x1 x2 x3 x4 x5 r h1 P_0 hf
    rw [X12_piles_58] at hf
    have m0 := fm_rf (A := A) (h := h)
    rcases ite_ex hf with ⟨q_1, hf⟩ | ⟨q_1, hf⟩
    · skip
      rcases ite_ex hf with ⟨q_2, hf⟩ | ⟨q_2, hf⟩
      · skip
        cases hf
        exact m0
      · skip
        rcases ite_ex hf with ⟨q_3, hf⟩ | ⟨q_3, hf⟩
        · skip
          obtain ⟨k_4, hf⟩ := gq_ex hf
          obtain ⟨j_5, ej_5, hf⟩ := ob_ex hf
          have zj_5 : h.2 a0 42 = some j_5 := m0.1 ▸ ej_5
          obtain ⟨k_6, hf⟩ := gq_ex hf
          obtain ⟨b_7, hf⟩ := gq_ex hf
          cases hf
          exact m0
        · skip
          cases hf
          exact m0
    · skip
      rcases ite_ex hf with ⟨q_8, hf⟩ | ⟨q_8, hf⟩
      · skip
        exact fm_tr m0 (W_X12_piles_79 A F (fun p0 q => ih p0 q) (fun q0 e0 => P_0 q0 (m0.1 ▸ e0)) hf)
      · skip
        obtain ⟨k_9, hf⟩ := gq_ex hf
        obtain ⟨j_10, ej_10, hf⟩ := ob_ex hf
        have zj_10 : h.2 a0 42 = some j_10 := m0.1 ▸ ej_10
        obtain ⟨k_11, hf⟩ := gq_ex hf
        obtain ⟨b_12, hf⟩ := gq_ex hf
        obtain ⟨h_13, eh_13, hf⟩ := bd_ex hf
        have mh_13 := fm_tr m0 (fm_up eh_13 (P_0 _ zj_10))
        exact fm_tr mh_13 (W_X12_piles_79 A F (fun p0 q => ih p0 q) (fun q0 e0 => P_0 q0 (mh_13.1 ▸ e0)) hf)
theorem W_X12_piles_0 (A : Nat → Prop) (F : Nat) {h : Hp} {a0 : Nat} {x1 : Int32} {x2 : Int32} {x3 : Int32} {r : Int32} {h1 : Hp} (P_0 : A a0) (P_1 : ∀ q0, h.2 a0 42 = some q0 → A q0) (hf : X12_piles F a0 x1 x2 x3 h = some (r, h1)) : Fm A h h1 := by
  unfold X12_piles at hf
  have m0 := fm_rf (A := A) (h := h)
  obtain ⟨c_1, ec_1, hf⟩ := ob_ex hf
  rcases ite_ex hf with ⟨q_3, hf⟩ | ⟨q_3, hf⟩
  · skip
    cases hf
    exact m0
  · skip
    obtain ⟨c_4, ec_4, hf⟩ := ob_ex hf
    rcases ite_ex hf with ⟨q_6, hf⟩ | ⟨q_6, hf⟩
    · skip
      cases hf
      exact m0
    · skip
      obtain ⟨c_7, ec_7, hf⟩ := ob_ex hf
      rcases ite_ex hf with ⟨q_9, hf⟩ | ⟨q_9, hf⟩
      · skip
        cases hf
        exact m0
      · skip
        obtain ⟨k_10, hf⟩ := gq_ex hf
        rcases ite_ex hf with ⟨q_11, hf⟩ | ⟨q_11, hf⟩
        · skip
          obtain ⟨h_12, eh_12, hf⟩ := bd_ex hf
          have mh_12 := fm_tr m0 (fm_up eh_12 (P_0))
          obtain ⟨j_13, ej_13, hf⟩ := ob_ex hf
          have zj_13 : h.2 a0 42 = some j_13 := mh_12.1 ▸ ej_13
          obtain ⟨k_14, hf⟩ := gq_ex hf
          obtain ⟨b_15, hf⟩ := gq_ex hf
          obtain ⟨h_16, eh_16, hf⟩ := bd_ex hf
          have mh_16 := fm_tr mh_12 (fm_up eh_16 (P_1 _ zj_13))
          exact fm_tr mh_16 (W_X12_piles_58 A F _ (fun q0 e0 => P_1 q0 (mh_16.1 ▸ e0)) hf)
        · skip
          cases hf
          exact m0
theorem W_X12_piles (A : Nat → Prop) (F : Nat) {h : Hp} {a0 : Nat} {x1 : Int32} {x2 : Int32} {x3 : Int32} {r : Int32} {h1 : Hp} (P_0 : A a0) (P_1 : ∀ q0, h.2 a0 42 = some q0 → A q0) (hf : X12_piles F a0 x1 x2 x3 h = some (r, h1)) : Fm A h h1 := W_X12_piles_0 A F P_0 P_1 hf
theorem W_X12_lamps_140 (A : Nat → Prop) (F : Nat) {k85 : Nat → Int32 → Int32 → Int32 → Int32 → Int32 → Int32 → Hp → Option (Int32 × Hp)} (hk85 : ∀ {h : Hp} {a0 : Nat} {x1 : Int32} {x2 : Int32} {x3 : Int32} {x4 : Int32} {x5 : Int32} {x6 : Int32} {r : Int32} {h1 : Hp}, k85 a0 x1 x2 x3 x4 x5 x6 h = some (r, h1) → Fm A h h1) {h : Hp} {a0 : Nat} {x1 : Int32} {x2 : Int32} {x3 : Int32} {x4 : Int32} {x5 : Int32} {x6 : Int32} {r : Int32} {h1 : Hp} (hf : X12_lamps_140 F k85 a0 x1 x2 x3 x4 x5 x6 h = some (r, h1)) : Fm A h h1 := by
  unfold X12_lamps_140 at hf
  have m0 := fm_rf (A := A) (h := h)
  obtain ⟨x6_1, ex6_1, hf⟩ := bd_ex hf
  exact fm_tr m0 (hk85 hf)
theorem W_X12_lamps_122 (A : Nat → Prop) (F : Nat) {k85 : Nat → Int32 → Int32 → Int32 → Int32 → Int32 → Int32 → Hp → Option (Int32 × Hp)} (hk85 : ∀ {h : Hp} {a0 : Nat} {x1 : Int32} {x2 : Int32} {x3 : Int32} {x4 : Int32} {x5 : Int32} {x6 : Int32} {r : Int32} {h1 : Hp}, k85 a0 x1 x2 x3 x4 x5 x6 h = some (r, h1) → Fm A h h1) {h : Hp} {a0 : Nat} {x1 : Int32} {x2 : Int32} {x3 : Int32} {x4 : Int32} {x5 : Int32} {x6 : Int32} {r : Int32} {h1 : Hp} (hf : X12_lamps_122 F k85 a0 x1 x2 x3 x4 x5 x6 h = some (r, h1)) : Fm A h h1 := by
  unfold X12_lamps_122 at hf
  have m0 := fm_rf (A := A) (h := h)
  obtain ⟨k_1, hf⟩ := gq_ex hf
  obtain ⟨c_2, ec_2, hf⟩ := ob_ex hf
  rcases ite_ex hf with ⟨q_4, hf⟩ | ⟨q_4, hf⟩
  · skip
    exact fm_tr m0 (W_X12_lamps_140 A F hk85 hf)
  · skip
    exact fm_tr m0 (W_X12_lamps_140 A F hk85 hf)
theorem W_X12_lamps_85 (A : Nat → Prop) (F : Nat) : ∀ (f : Nat) {h : Hp} {a0 : Nat} {x1 : Int32} {x2 : Int32} {x3 : Int32} {x4 : Int32} {x5 : Int32} {x6 : Int32} {r : Int32} {h1 : Hp}, X12_lamps_85 F f a0 x1 x2 x3 x4 x5 x6 h = some (r, h1) → Fm A h h1 := by
  intro f
  induction f with
  | zero =>
    intro h a0 x1 x2 x3 x4 x5 x6 r h1 hf
    exact nomatch (show (none : Option _) = some _ from hf)
  | succ f ih =>
    intro h a0 x1 x2 x3 x4 x5 x6 r h1 hf
    rw [X12_lamps_85] at hf
    have m0 := fm_rf (A := A) (h := h)
    rcases ite_ex hf with ⟨q_1, hf⟩ | ⟨q_1, hf⟩
    · skip
      rcases ite_ex hf with ⟨q_2, hf⟩ | ⟨q_2, hf⟩
      · skip
        cases hf
        exact m0
      · skip
        rcases ite_ex hf with ⟨q_3, hf⟩ | ⟨q_3, hf⟩
        · skip
          obtain ⟨c_4, ec_4, hf⟩ := ob_ex hf
          cases hf
          exact m0
        · skip
          cases hf
          exact m0
    · skip
      rcases ite_ex hf with ⟨q_6, hf⟩ | ⟨q_6, hf⟩
      · skip
        rcases ite_ex hf with ⟨q_7, hf⟩ | ⟨q_7, hf⟩
        · skip
          exact fm_tr m0 (W_X12_lamps_122 A F (fun  q => ih  q) hf)
        · skip
          obtain ⟨c_8, ec_8, hf⟩ := ob_ex hf
          obtain ⟨c_10, ec_10, hf⟩ := ob_ex hf
          rcases ite_ex hf with ⟨q_12, hf⟩ | ⟨q_12, hf⟩
          · skip
            exact fm_tr m0 (W_X12_lamps_140 A F (fun  q => ih  q) hf)
          · skip
            exact fm_tr m0 (W_X12_lamps_122 A F (fun  q => ih  q) hf)
      · skip
        exact fm_tr m0 (W_X12_lamps_140 A F (fun  q => ih  q) hf)
theorem W_X12_lamps_73 (A : Nat → Prop) (F : Nat) {k49 : Nat → Int32 → Int32 → Int32 → Int32 → Int32 → Hp → Option (Int32 × Hp)} (hk49 : ∀ {h : Hp} {a0 : Nat} {x1 : Int32} {x2 : Int32} {x3 : Int32} {x4 : Int32} {x5 : Int32} {r : Int32} {h1 : Hp}, k49 a0 x1 x2 x3 x4 x5 h = some (r, h1) → Fm A h h1) {h : Hp} {a0 : Nat} {x1 : Int32} {x2 : Int32} {x3 : Int32} {x4 : Int32} {x5 : Int32} {r : Int32} {h1 : Hp} (hf : X12_lamps_73 F k49 a0 x1 x2 x3 x4 x5 h = some (r, h1)) : Fm A h h1 := by
  unfold X12_lamps_73 at hf
  have m0 := fm_rf (A := A) (h := h)
  obtain ⟨x5_1, ex5_1, hf⟩ := bd_ex hf
  exact fm_tr m0 (hk49 hf)
theorem W_X12_lamps_49 (A : Nat → Prop) (F : Nat) : ∀ (f : Nat) {h : Hp} {a0 : Nat} {x1 : Int32} {x2 : Int32} {x3 : Int32} {x4 : Int32} {x5 : Int32} {r : Int32} {h1 : Hp}, X12_lamps_49 F f a0 x1 x2 x3 x4 x5 h = some (r, h1) → Fm A h h1 := by
  intro f
  induction f with
  | zero =>
    intro h a0 x1 x2 x3 x4 x5 r h1 hf
    exact nomatch (show (none : Option _) = some _ from hf)
  | succ f ih =>
    intro h a0 x1 x2 x3 x4 x5 r h1 hf
    rw [X12_lamps_49] at hf
    have m0 := fm_rf (A := A) (h := h)
    rcases ite_ex hf with ⟨q_1, hf⟩ | ⟨q_1, hf⟩
    · skip
      exact fm_tr m0 (W_X12_lamps_85 A F _ hf)
    · skip
      obtain ⟨k_2, hf⟩ := gq_ex hf
      obtain ⟨c_3, ec_3, hf⟩ := ob_ex hf
      rcases ite_ex hf with ⟨q_5, hf⟩ | ⟨q_5, hf⟩
      · skip
        exact fm_tr m0 (W_X12_lamps_73 A F (fun  q => ih  q) hf)
      · skip
        obtain ⟨x4_6, ex4_6, hf⟩ := bd_ex hf
        exact fm_tr m0 (W_X12_lamps_73 A F (fun  q => ih  q) hf)
theorem W_X12_lamps_0 (A : Nat → Prop) (F : Nat) {h : Hp} {a0 : Nat} {x1 : Int32} {x2 : Int32} {x3 : Int32} {r : Int32} {h1 : Hp} (P_0 : A a0) (hf : X12_lamps F a0 x1 x2 x3 h = some (r, h1)) : Fm A h h1 := by
  unfold X12_lamps at hf
  have m0 := fm_rf (A := A) (h := h)
  obtain ⟨c_1, ec_1, hf⟩ := ob_ex hf
  rcases ite_ex hf with ⟨q_3, hf⟩ | ⟨q_3, hf⟩
  · skip
    cases hf
    exact m0
  · skip
    obtain ⟨c_4, ec_4, hf⟩ := ob_ex hf
    rcases ite_ex hf with ⟨q_6, hf⟩ | ⟨q_6, hf⟩
    · skip
      cases hf
      exact m0
    · skip
      obtain ⟨c_7, ec_7, hf⟩ := ob_ex hf
      rcases ite_ex hf with ⟨q_9, hf⟩ | ⟨q_9, hf⟩
      · skip
        cases hf
        exact m0
      · skip
        obtain ⟨k_10, hf⟩ := gq_ex hf
        rcases ite_ex hf with ⟨q_11, hf⟩ | ⟨q_11, hf⟩
        · skip
          obtain ⟨h_12, eh_12, hf⟩ := bd_ex hf
          have mh_12 := fm_tr m0 (fm_up eh_12 (P_0))
          exact fm_tr mh_12 (W_X12_lamps_49 A F _ hf)
        · skip
          cases hf
          exact m0
theorem W_X12_lamps (A : Nat → Prop) (F : Nat) {h : Hp} {a0 : Nat} {x1 : Int32} {x2 : Int32} {x3 : Int32} {r : Int32} {h1 : Hp} (P_0 : A a0) (hf : X12_lamps F a0 x1 x2 x3 h = some (r, h1)) : Fm A h h1 := W_X12_lamps_0 A F P_0 hf
theorem W_X12_claims_235 (A : Nat → Prop) (F : Nat) {k124 : Nat → Int32 → Int32 → Int32 → Int32 → Int32 → Int32 → Int32 → Hp → Option (Int32 × Hp)} (hk124 : ∀ {h : Hp} {a0 : Nat} {x1 : Int32} {x2 : Int32} {x4 : Int32} {x5 : Int32} {x6 : Int32} {x7 : Int32} {x8 : Int32} {r : Int32} {h1 : Hp}, k124 a0 x1 x2 x4 x5 x6 x7 x8 h = some (r, h1) → Fm A h h1) {h : Hp} {a0 : Nat} {x1 : Int32} {x2 : Int32} {x4 : Int32} {x5 : Int32} {x6 : Int32} {x7 : Int32} {x8 : Int32} {x9 : Int32} {x10 : Int32} {r : Int32} {h1 : Hp} (hf : X12_claims_235 F k124 a0 x1 x2 x4 x5 x6 x7 x8 x9 x10 h = some (r, h1)) : Fm A h h1 := by
  unfold X12_claims_235 at hf
  have m0 := fm_rf (A := A) (h := h)
  obtain ⟨c_1, ec_1, hf⟩ := ob_ex hf
  obtain ⟨x8_3, ex8_3, hf⟩ := bd_ex hf
  exact fm_tr m0 (hk124 hf)
theorem W_X12_claims_221 (A : Nat → Prop) (F : Nat) {k124 : Nat → Int32 → Int32 → Int32 → Int32 → Int32 → Int32 → Int32 → Hp → Option (Int32 × Hp)} (hk124 : ∀ {h : Hp} {a0 : Nat} {x1 : Int32} {x2 : Int32} {x4 : Int32} {x5 : Int32} {x6 : Int32} {x7 : Int32} {x8 : Int32} {r : Int32} {h1 : Hp}, k124 a0 x1 x2 x4 x5 x6 x7 x8 h = some (r, h1) → Fm A h h1) {h : Hp} {a0 : Nat} {x1 : Int32} {x2 : Int32} {x4 : Int32} {x5 : Int32} {x6 : Int32} {x7 : Int32} {x8 : Int32} {x9 : Int32} {x10 : Int32} {r : Int32} {h1 : Hp} (hf : X12_claims_221 F k124 a0 x1 x2 x4 x5 x6 x7 x8 x9 x10 h = some (r, h1)) : Fm A h h1 := by
  unfold X12_claims_221 at hf
  have m0 := fm_rf (A := A) (h := h)
  rcases ite_ex hf with ⟨q_1, hf⟩ | ⟨q_1, hf⟩
  · skip
    obtain ⟨x6_2, ex6_2, hf⟩ := bd_ex hf
    exact fm_tr m0 (W_X12_claims_235 A F hk124 hf)
  · skip
    exact fm_tr m0 (W_X12_claims_235 A F hk124 hf)
theorem W_X12_claims_199 (A : Nat → Prop) (F : Nat) {k124 : Nat → Int32 → Int32 → Int32 → Int32 → Int32 → Int32 → Int32 → Hp → Option (Int32 × Hp)} {k140 : Nat → Int32 → Int32 → Int32 → Int32 → Int32 → Int32 → Int32 → Int32 → Int32 → Int32 → Hp → Option (Int32 × Hp)} (hk124 : ∀ {h : Hp} {a0 : Nat} {x1 : Int32} {x2 : Int32} {x4 : Int32} {x5 : Int32} {x6 : Int32} {x7 : Int32} {x8 : Int32} {r : Int32} {h1 : Hp}, k124 a0 x1 x2 x4 x5 x6 x7 x8 h = some (r, h1) → Fm A h h1) (hk140 : ∀ {h : Hp} {a0 : Nat} {x1 : Int32} {x2 : Int32} {x4 : Int32} {x5 : Int32} {x6 : Int32} {x7 : Int32} {x8 : Int32} {x9 : Int32} {x10 : Int32} {x11 : Int32} {r : Int32} {h1 : Hp}, k140 a0 x1 x2 x4 x5 x6 x7 x8 x9 x10 x11 h = some (r, h1) → Fm A h h1) {h : Hp} {a0 : Nat} {x1 : Int32} {x2 : Int32} {x4 : Int32} {x5 : Int32} {x6 : Int32} {x7 : Int32} {x8 : Int32} {x9 : Int32} {x10 : Int32} {x11 : Int32} {r : Int32} {h1 : Hp} (hf : X12_claims_199 F k124 k140 a0 x1 x2 x4 x5 x6 x7 x8 x9 x10 x11 h = some (r, h1)) : Fm A h h1 := by
  unfold X12_claims_199 at hf
  have m0 := fm_rf (A := A) (h := h)
  obtain ⟨x11_1, ex11_1, hf⟩ := bd_ex hf
  exact fm_tr m0 (hk140 hf)
theorem W_X12_claims_140 (A : Nat → Prop) (F : Nat) {k124 : Nat → Int32 → Int32 → Int32 → Int32 → Int32 → Int32 → Int32 → Hp → Option (Int32 × Hp)} (hk124 : ∀ {h : Hp} {a0 : Nat} {x1 : Int32} {x2 : Int32} {x4 : Int32} {x5 : Int32} {x6 : Int32} {x7 : Int32} {x8 : Int32} {r : Int32} {h1 : Hp}, k124 a0 x1 x2 x4 x5 x6 x7 x8 h = some (r, h1) → Fm A h h1) : ∀ (f : Nat) {h : Hp} {a0 : Nat} {x1 : Int32} {x2 : Int32} {x4 : Int32} {x5 : Int32} {x6 : Int32} {x7 : Int32} {x8 : Int32} {x9 : Int32} {x10 : Int32} {x11 : Int32} {r : Int32} {h1 : Hp}, X12_claims_140 F k124 f a0 x1 x2 x4 x5 x6 x7 x8 x9 x10 x11 h = some (r, h1) → Fm A h h1 := by
  intro f
  induction f with
  | zero =>
    intro h a0 x1 x2 x4 x5 x6 x7 x8 x9 x10 x11 r h1 hf
    exact nomatch (show (none : Option _) = some _ from hf)
  | succ f ih =>
    intro h a0 x1 x2 x4 x5 x6 x7 x8 x9 x10 x11 r h1 hf
    rw [X12_claims_140] at hf
    have m0 := fm_rf (A := A) (h := h)
    rcases ite_ex hf with ⟨q_1, hf⟩ | ⟨q_1, hf⟩
    · skip
      rcases ite_ex hf with ⟨q_2, hf⟩ | ⟨q_2, hf⟩
      · skip
        exact fm_tr m0 (W_X12_claims_221 A F hk124 hf)
      · skip
        rcases ite_ex hf with ⟨q_3, hf⟩ | ⟨q_3, hf⟩
        · skip
          exact fm_tr m0 (W_X12_claims_221 A F hk124 hf)
        · skip
          obtain ⟨x5_4, ex5_4, hf⟩ := bd_ex hf
          exact fm_tr m0 (W_X12_claims_221 A F hk124 hf)
    · skip
      obtain ⟨k_5, hf⟩ := gq_ex hf
      obtain ⟨c_6, ec_6, hf⟩ := ob_ex hf
      rcases ite_ex hf with ⟨q_8, hf⟩ | ⟨q_8, hf⟩
      · skip
        exact fm_tr m0 (W_X12_claims_199 A F hk124 (fun  q => ih  q) hf)
      · skip
        obtain ⟨c_9, ec_9, hf⟩ := ob_ex hf
        rcases ite_ex hf with ⟨q_11, hf⟩ | ⟨q_11, hf⟩
        · skip
          rcases ite_ex hf with ⟨q_12, hf⟩ | ⟨q_12, hf⟩
          · skip
            obtain ⟨x9_14, ex9_14, hf⟩ := bd_ex hf
            exact fm_tr m0 (W_X12_claims_199 A F hk124 (fun  q => ih  q) hf)
          · skip
            obtain ⟨x10_13, ex10_13, hf⟩ := bd_ex hf
            exact fm_tr m0 (W_X12_claims_199 A F hk124 (fun  q => ih  q) hf)
        · skip
          exact fm_tr m0 (W_X12_claims_199 A F hk124 (fun  q => ih  q) hf)
theorem W_X12_claims_124 (A : Nat → Prop) (F : Nat) : ∀ (f : Nat) {h : Hp} {a0 : Nat} {x1 : Int32} {x2 : Int32} {x4 : Int32} {x5 : Int32} {x6 : Int32} {x7 : Int32} {x8 : Int32} {r : Int32} {h1 : Hp}, X12_claims_124 F f a0 x1 x2 x4 x5 x6 x7 x8 h = some (r, h1) → Fm A h h1 := by
  intro f
  induction f with
  | zero =>
    intro h a0 x1 x2 x4 x5 x6 x7 x8 r h1 hf
    exact nomatch (show (none : Option _) = some _ from hf)
  | succ f ih =>
    intro h a0 x1 x2 x4 x5 x6 x7 x8 r h1 hf
    rw [X12_claims_124] at hf
    have m0 := fm_rf (A := A) (h := h)
    rcases ite_ex hf with ⟨q_1, hf⟩ | ⟨q_1, hf⟩
    · skip
      rcases ite_ex hf with ⟨q_2, hf⟩ | ⟨q_2, hf⟩
      · skip
        cases hf
        exact m0
      · skip
        rcases ite_ex hf with ⟨q_3, hf⟩ | ⟨q_3, hf⟩
        · skip
          cases hf
          exact m0
        · skip
          cases hf
          exact m0
    · skip
      exact fm_tr m0 (W_X12_claims_140 A F (fun  q => ih  q) _ hf)
theorem W_X12_claims_46 (A : Nat → Prop) (F : Nat) : ∀ (f : Nat) {h : Hp} {a0 : Nat} {x1 : Int32} {x2 : Int32} {x3 : Int32} {x4 : Int32} {x5 : Int32} {r : Int32} {h1 : Hp}, X12_claims_46 F f a0 x1 x2 x3 x4 x5 h = some (r, h1) → Fm A h h1 := by
  intro f
  induction f with
  | zero =>
    intro h a0 x1 x2 x3 x4 x5 r h1 hf
    exact nomatch (show (none : Option _) = some _ from hf)
  | succ f ih =>
    intro h a0 x1 x2 x3 x4 x5 r h1 hf
    rw [X12_claims_46] at hf
    have m0 := fm_rf (A := A) (h := h)
    rcases ite_ex hf with ⟨q_1, hf⟩ | ⟨q_1, hf⟩
    · skip
      exact fm_tr m0 (W_X12_claims_124 A F _ hf)
    · skip
      obtain ⟨k_2, hf⟩ := gq_ex hf
      obtain ⟨c_3, ec_3, hf⟩ := ob_ex hf
      obtain ⟨c_5, ec_5, hf⟩ := ob_ex hf
      rcases ite_ex hf with ⟨q_7, hf⟩ | ⟨q_7, hf⟩
      · skip
        obtain ⟨c_8, ec_8, hf⟩ := ob_ex hf
        obtain ⟨c_10, ec_10, hf⟩ := ob_ex hf
        obtain ⟨c_12, ec_12, hf⟩ := ob_ex hf
        obtain ⟨c_14, ec_14, hf⟩ := ob_ex hf
        obtain ⟨x5_16, ex5_16, hf⟩ := bd_ex hf
        exact fm_tr m0 (ih hf)
      · skip
        cases hf
        exact m0
theorem W_X12_claims_0 (A : Nat → Prop) (F : Nat) {h : Hp} {a0 : Nat} {x1 : Int32} {x2 : Int32} {r : Int32} {h1 : Hp} (P_0 : A a0) (hf : X12_claims F a0 x1 x2 h = some (r, h1)) : Fm A h h1 := by
  unfold X12_claims at hf
  have m0 := fm_rf (A := A) (h := h)
  obtain ⟨c_1, ec_1, hf⟩ := ob_ex hf
  rcases ite_ex hf with ⟨q_3, hf⟩ | ⟨q_3, hf⟩
  · skip
    cases hf
    exact m0
  · skip
    obtain ⟨c_4, ec_4, hf⟩ := ob_ex hf
    rcases ite_ex hf with ⟨q_6, hf⟩ | ⟨q_6, hf⟩
    · skip
      cases hf
      exact m0
    · skip
      obtain ⟨k_7, hf⟩ := gq_ex hf
      rcases ite_ex hf with ⟨q_8, hf⟩ | ⟨q_8, hf⟩
      · skip
        obtain ⟨h_9, eh_9, hf⟩ := bd_ex hf
        have mh_9 := fm_tr m0 (fm_up eh_9 (P_0))
        exact fm_tr mh_9 (W_X12_claims_46 A F _ hf)
      · skip
        cases hf
        exact m0
theorem W_X12_claims (A : Nat → Prop) (F : Nat) {h : Hp} {a0 : Nat} {x1 : Int32} {x2 : Int32} {r : Int32} {h1 : Hp} (P_0 : A a0) (hf : X12_claims F a0 x1 x2 h = some (r, h1)) : Fm A h h1 := W_X12_claims_0 A F P_0 hf
theorem W_X12_sorts_50 (A : Nat → Prop) (F : Nat) {k2 : Nat → Int32 → Int32 → Hp → Option Hp} (hk2 : ∀ {h : Hp} {a0 : Nat} {x1 : Int32} {x2 : Int32} {h1 : Hp} (_ : ∀ q0, h.2 a0 43 = some q0 → A q0), k2 a0 x1 x2 h = some h1 → Fm A h h1) {h : Hp} {a0 : Nat} {x1 : Int32} {x2 : Int32} {x3 : Int32} {h1 : Hp} (P_0 : ∀ q0, h.2 a0 43 = some q0 → A q0) (hf : X12_sorts_50 F k2 a0 x1 x2 x3 h = some h1) : Fm A h h1 := by
  unfold X12_sorts_50 at hf
  have m0 := fm_rf (A := A) (h := h)
  obtain ⟨k_1, hf⟩ := gq_ex hf
  obtain ⟨j_2, ej_2, hf⟩ := ob_ex hf
  have zj_2 : h.2 a0 43 = some j_2 := m0.1 ▸ ej_2
  obtain ⟨c_3, ec_3, hf⟩ := ob_ex hf
  obtain ⟨k_5, hf⟩ := gq_ex hf
  obtain ⟨b_6, hf⟩ := gq_ex hf
  obtain ⟨h_7, eh_7, hf⟩ := bd_ex hf
  have mh_7 := fm_tr m0 (fm_up eh_7 (P_0 _ zj_2))
  obtain ⟨x2_8, ex2_8, hf⟩ := bd_ex hf
  exact fm_tr mh_7 (hk2 (fun q0 e0 => P_0 q0 (mh_7.1 ▸ e0)) hf)
theorem W_X12_sorts_9 (A : Nat → Prop) (F : Nat) {k2 : Nat → Int32 → Int32 → Hp → Option Hp} (hk2 : ∀ {h : Hp} {a0 : Nat} {x1 : Int32} {x2 : Int32} {h1 : Hp} (_ : ∀ q0, h.2 a0 43 = some q0 → A q0), k2 a0 x1 x2 h = some h1 → Fm A h h1) : ∀ (f : Nat) {h : Hp} {a0 : Nat} {x1 : Int32} {x2 : Int32} {x3 : Int32} {h1 : Hp} (P_0 : ∀ q0, h.2 a0 43 = some q0 → A q0), X12_sorts_9 F k2 f a0 x1 x2 x3 h = some h1 → Fm A h h1 := by
  intro f
  induction f with
  | zero =>
    intro h a0 x1 x2 x3 h1 P_0 hf
    exact nomatch (show (none : Option _) = some _ from hf)
  | succ f ih =>
    intro h a0 x1 x2 x3 h1 P_0 hf
    rw [X12_sorts_9] at hf
    have m0 := fm_rf (A := A) (h := h)
    rcases ite_ex hf with ⟨q_1, hf⟩ | ⟨q_1, hf⟩
    · skip
      exact fm_tr m0 (W_X12_sorts_50 A F hk2 (fun q0 e0 => P_0 q0 (m0.1 ▸ e0)) hf)
    · skip
      obtain ⟨k_2, hf⟩ := gq_ex hf
      obtain ⟨j_3, ej_3, hf⟩ := ob_ex hf
      have zj_3 : h.2 a0 43 = some j_3 := m0.1 ▸ ej_3
      obtain ⟨k_4, hf⟩ := gq_ex hf
      obtain ⟨b_5, hf⟩ := gq_ex hf
      obtain ⟨c_6, ec_6, hf⟩ := ob_ex hf
      rcases ite_ex hf with ⟨q_8, hf⟩ | ⟨q_8, hf⟩
      · skip
        exact fm_tr m0 (W_X12_sorts_50 A F hk2 (fun q0 e0 => P_0 q0 (m0.1 ▸ e0)) hf)
      · skip
        obtain ⟨b_9, hf⟩ := gq_ex hf
        obtain ⟨b_10, hf⟩ := gq_ex hf
        obtain ⟨h_11, eh_11, hf⟩ := bd_ex hf
        have mh_11 := fm_tr m0 (fm_up eh_11 (P_0 _ zj_3))
        obtain ⟨x3_12, ex3_12, hf⟩ := bd_ex hf
        exact fm_tr mh_11 (ih (fun q0 e0 => P_0 q0 (mh_11.1 ▸ e0)) hf)
theorem W_X12_sorts_2 (A : Nat → Prop) (F : Nat) : ∀ (f : Nat) {h : Hp} {a0 : Nat} {x1 : Int32} {x2 : Int32} {h1 : Hp} (P_0 : ∀ q0, h.2 a0 43 = some q0 → A q0), X12_sorts_2 F f a0 x1 x2 h = some h1 → Fm A h h1 := by
  intro f
  induction f with
  | zero =>
    intro h a0 x1 x2 h1 P_0 hf
    exact nomatch (show (none : Option _) = some _ from hf)
  | succ f ih =>
    intro h a0 x1 x2 h1 P_0 hf
    rw [X12_sorts_2] at hf
    have m0 := fm_rf (A := A) (h := h)
    rcases ite_ex hf with ⟨q_1, hf⟩ | ⟨q_1, hf⟩
    · skip
      cases hf
      exact m0
    · skip
      exact fm_tr m0 (W_X12_sorts_9 A F (fun p0 q => ih p0 q) _ (fun q0 e0 => P_0 q0 (m0.1 ▸ e0)) hf)
theorem W_X12_sorts_0 (A : Nat → Prop) (F : Nat) {h : Hp} {a0 : Nat} {x1 : Int32} {h1 : Hp} (P_0 : ∀ q0, h.2 a0 43 = some q0 → A q0) (hf : X12_sorts F a0 x1 h = some h1) : Fm A h h1 := by
  unfold X12_sorts at hf
  have m0 := fm_rf (A := A) (h := h)
  exact fm_tr m0 (W_X12_sorts_2 A F _ (fun q0 e0 => P_0 q0 (m0.1 ▸ e0)) hf)
theorem W_X12_sorts (A : Nat → Prop) (F : Nat) {h : Hp} {a0 : Nat} {x1 : Int32} {h1 : Hp} (P_0 : ∀ q0, h.2 a0 43 = some q0 → A q0) (hf : X12_sorts F a0 x1 h = some h1) : Fm A h h1 := W_X12_sorts_0 A F P_0 hf
theorem W_X12_rowed_34 (A : Nat → Prop) (F : Nat) : ∀ (f : Nat) {h : Hp} {a0 : Nat} {x2 : Int32} {x3 : Int32} {r : Int32} {h1 : Hp}, X12_rowed_34 F f a0 x2 x3 h = some (r, h1) → Fm A h h1 := by
  intro f
  induction f with
  | zero =>
    intro h a0 x2 x3 r h1 hf
    exact nomatch (show (none : Option _) = some _ from hf)
  | succ f ih =>
    intro h a0 x2 x3 r h1 hf
    rw [X12_rowed_34] at hf
    have m0 := fm_rf (A := A) (h := h)
    rcases ite_ex hf with ⟨q_1, hf⟩ | ⟨q_1, hf⟩
    · skip
      rcases ite_ex hf with ⟨q_2, hf⟩ | ⟨q_2, hf⟩
      · skip
        obtain ⟨k_7, hf⟩ := gq_ex hf
        obtain ⟨j_8, ej_8, hf⟩ := ob_ex hf
        have zj_8 : h.2 a0 43 = some j_8 := m0.1 ▸ ej_8
        obtain ⟨k_9, hf⟩ := gq_ex hf
        obtain ⟨b_10, hf⟩ := gq_ex hf
        obtain ⟨b_11, hf⟩ := gq_ex hf
        obtain ⟨b_12, hf⟩ := gq_ex hf
        cases hf
        exact m0
      · skip
        obtain ⟨k_3, hf⟩ := gq_ex hf
        obtain ⟨j_4, ej_4, hf⟩ := ob_ex hf
        have zj_4 : h.2 a0 43 = some j_4 := m0.1 ▸ ej_4
        obtain ⟨k_5, hf⟩ := gq_ex hf
        obtain ⟨b_6, hf⟩ := gq_ex hf
        cases hf
        exact m0
    · skip
      obtain ⟨k_13, hf⟩ := gq_ex hf
      obtain ⟨j_14, ej_14, hf⟩ := ob_ex hf
      have zj_14 : h.2 a0 43 = some j_14 := m0.1 ▸ ej_14
      obtain ⟨k_15, hf⟩ := gq_ex hf
      obtain ⟨b_16, hf⟩ := gq_ex hf
      obtain ⟨b_17, hf⟩ := gq_ex hf
      obtain ⟨b_18, hf⟩ := gq_ex hf
      obtain ⟨x4_19, ex4_19, hf⟩ := bd_ex hf
      obtain ⟨b_20, hf⟩ := gq_ex hf
      obtain ⟨b_21, hf⟩ := gq_ex hf
      obtain ⟨b_22, hf⟩ := gq_ex hf
      obtain ⟨x5_23, ex5_23, hf⟩ := bd_ex hf
      obtain ⟨c_24, ec_24, hf⟩ := ob_ex hf
      obtain ⟨x3_26, ex3_26, hf⟩ := bd_ex hf
      obtain ⟨x2_27, ex2_27, hf⟩ := bd_ex hf
      exact fm_tr m0 (ih hf)
theorem W_X12_rowed_0 (A : Nat → Prop) (F : Nat) {h : Hp} {a0 : Nat} {x1 : Int32} {r : Int32} {h1 : Hp} (P_0 : A a0) (P_1 : ∀ q0, h.2 a0 43 = some q0 → A q0) (hf : X12_rowed F a0 x1 h = some (r, h1)) : Fm A h h1 := by
  unfold X12_rowed at hf
  have m0 := fm_rf (A := A) (h := h)
  obtain ⟨c_1, ec_1, hf⟩ := ob_ex hf
  rcases ite_ex hf with ⟨q_3, hf⟩ | ⟨q_3, hf⟩
  · skip
    cases hf
    exact m0
  · skip
    obtain ⟨k_4, hf⟩ := gq_ex hf
    rcases ite_ex hf with ⟨q_5, hf⟩ | ⟨q_5, hf⟩
    · skip
      obtain ⟨h_6, eh_6, hf⟩ := bd_ex hf
      have mh_6 := fm_tr m0 (fm_up eh_6 (P_0))
      obtain ⟨h_8, eh_8, hf⟩ := ob_ex hf
      have mh_8 := fm_tr mh_6 (W_X12_sorts A F (fun q0 e0 => P_1 q0 (mh_6.1 ▸ e0)) eh_8)
      exact fm_tr mh_8 (W_X12_rowed_34 A F _ hf)
    · skip
      cases hf
      exact m0
theorem W_X12_rowed (A : Nat → Prop) (F : Nat) {h : Hp} {a0 : Nat} {x1 : Int32} {r : Int32} {h1 : Hp} (P_0 : A a0) (P_1 : ∀ q0, h.2 a0 43 = some q0 → A q0) (hf : X12_rowed F a0 x1 h = some (r, h1)) : Fm A h h1 := W_X12_rowed_0 A F P_0 P_1 hf
theorem W_X12_wed_192 (A : Nat → Prop) (F : Nat) : ∀ (f : Nat) {h : Hp} {a0 : Nat} {x2 : Int32} {x4 : Int32} {r : Int32} {h1 : Hp}, X12_wed_192 F f a0 x2 x4 h = some (r, h1) → Fm A h h1 := by
  intro f
  induction f with
  | zero =>
    intro h a0 x2 x4 r h1 hf
    exact nomatch (show (none : Option _) = some _ from hf)
  | succ f ih =>
    intro h a0 x2 x4 r h1 hf
    rw [X12_wed_192] at hf
    have m0 := fm_rf (A := A) (h := h)
    obtain ⟨k_1, hf⟩ := gq_ex hf
    obtain ⟨j_2, ej_2, hf⟩ := ob_ex hf
    have zj_2 : h.2 a0 44 = some j_2 := m0.1 ▸ ej_2
    obtain ⟨k_3, hf⟩ := gq_ex hf
    obtain ⟨b_4, hf⟩ := gq_ex hf
    rcases ite_ex hf with ⟨q_5, hf⟩ | ⟨q_5, hf⟩
    · skip
      cases hf
      exact m0
    · skip
      obtain ⟨x4_6, ex4_6, hf⟩ := bd_ex hf
      exact fm_tr m0 (ih hf)
theorem W_X12_wed_180 (A : Nat → Prop) (F : Nat) {k101 : Nat → Int32 → Int32 → Int32 → Hp → Option (Int32 × Hp)} (hk101 : ∀ {h : Hp} {a0 : Nat} {x1 : Int32} {x2 : Int32} {x3 : Int32} {r : Int32} {h1 : Hp} (_ : ∀ q0, h.2 a0 45 = some q0 → A q0) (_ : ∀ q0, h.2 a0 44 = some q0 → A q0), k101 a0 x1 x2 x3 h = some (r, h1) → Fm A h h1) {h : Hp} {a0 : Nat} {x1 : Int32} {x2 : Int32} {r : Int32} {h1 : Hp} (P_0 : ∀ q0, h.2 a0 45 = some q0 → A q0) (P_1 : ∀ q0, h.2 a0 44 = some q0 → A q0) (hf : X12_wed_180 F k101 a0 x1 x2 h = some (r, h1)) : Fm A h h1 := by
  unfold X12_wed_180 at hf
  have m0 := fm_rf (A := A) (h := h)
  obtain ⟨k_1, hf⟩ := gq_ex hf
  obtain ⟨c_2, ec_2, hf⟩ := ob_ex hf
  exact fm_tr m0 (hk101 (fun q0 e0 => P_0 q0 (m0.1 ▸ e0)) (fun q0 e0 => P_1 q0 (m0.1 ▸ e0)) hf)
theorem W_X12_wed_172 (A : Nat → Prop) (F : Nat) {k101 : Nat → Int32 → Int32 → Int32 → Hp → Option (Int32 × Hp)} (hk101 : ∀ {h : Hp} {a0 : Nat} {x1 : Int32} {x2 : Int32} {x3 : Int32} {r : Int32} {h1 : Hp} (_ : ∀ q0, h.2 a0 45 = some q0 → A q0) (_ : ∀ q0, h.2 a0 44 = some q0 → A q0), k101 a0 x1 x2 x3 h = some (r, h1) → Fm A h h1) {h : Hp} {a0 : Nat} {x1 : Int32} {x2 : Int32} {x3 : Int32} {x4 : Int32} {r : Int32} {h1 : Hp} (P_0 : ∀ q0, h.2 a0 44 = some q0 → A q0) (P_1 : ∀ q0, h.2 a0 45 = some q0 → A q0) (hf : X12_wed_172 F k101 a0 x1 x2 x3 x4 h = some (r, h1)) : Fm A h h1 := by
  unfold X12_wed_172 at hf
  have m0 := fm_rf (A := A) (h := h)
  obtain ⟨k_1, hf⟩ := gq_ex hf
  obtain ⟨j_2, ej_2, hf⟩ := ob_ex hf
  have zj_2 : h.2 a0 44 = some j_2 := m0.1 ▸ ej_2
  obtain ⟨k_3, hf⟩ := gq_ex hf
  obtain ⟨b_4, hf⟩ := gq_ex hf
  obtain ⟨h_5, eh_5, hf⟩ := bd_ex hf
  have mh_5 := fm_tr m0 (fm_up eh_5 (P_0 _ zj_2))
  exact fm_tr mh_5 (W_X12_wed_180 A F hk101 (fun q0 e0 => P_1 q0 (mh_5.1 ▸ e0)) (fun q0 e0 => P_0 q0 (mh_5.1 ▸ e0)) hf)
theorem W_X12_wed_101 (A : Nat → Prop) (F : Nat) : ∀ (f : Nat) {h : Hp} {a0 : Nat} {x1 : Int32} {x2 : Int32} {x3 : Int32} {r : Int32} {h1 : Hp} (P_0 : ∀ q0, h.2 a0 45 = some q0 → A q0) (P_1 : ∀ q0, h.2 a0 44 = some q0 → A q0), X12_wed_101 F f a0 x1 x2 x3 h = some (r, h1) → Fm A h h1 := by
  intro f
  induction f with
  | zero =>
    intro h a0 x1 x2 x3 r h1 P_0 P_1 hf
    exact nomatch (show (none : Option _) = some _ from hf)
  | succ f ih =>
    intro h a0 x1 x2 x3 r h1 P_0 P_1 hf
    rw [X12_wed_101] at hf
    have m0 := fm_rf (A := A) (h := h)
    rcases ite_ex hf with ⟨q_1, hf⟩ | ⟨q_1, hf⟩
    · skip
      exact fm_tr m0 (W_X12_wed_192 A F _ hf)
    · skip
      obtain ⟨k_2, hf⟩ := gq_ex hf
      obtain ⟨j_3, ej_3, hf⟩ := ob_ex hf
      have zj_3 : h.2 a0 45 = some j_3 := m0.1 ▸ ej_3
      obtain ⟨k_4, hf⟩ := gq_ex hf
      obtain ⟨b_5, hf⟩ := gq_ex hf
      obtain ⟨c_6, ec_6, hf⟩ := ob_ex hf
      obtain ⟨b_8, hf⟩ := gq_ex hf
      obtain ⟨b_9, hf⟩ := gq_ex hf
      obtain ⟨h_10, eh_10, hf⟩ := bd_ex hf
      have mh_10 := fm_tr m0 (fm_up eh_10 (P_0 _ zj_3))
      obtain ⟨j_11, ej_11, hf⟩ := ob_ex hf
      have zj_11 : h.2 a0 44 = some j_11 := mh_10.1 ▸ ej_11
      obtain ⟨k_12, hf⟩ := gq_ex hf
      obtain ⟨b_13, hf⟩ := gq_ex hf
      rcases ite_ex hf with ⟨q_14, hf⟩ | ⟨q_14, hf⟩
      · skip
        exact fm_tr mh_10 (W_X12_wed_172 A F (fun p0 p1 q => ih p0 p1 q) (fun q0 e0 => P_1 q0 (mh_10.1 ▸ e0)) (fun q0 e0 => P_0 q0 (mh_10.1 ▸ e0)) hf)
      · skip
        obtain ⟨c_15, ec_15, hf⟩ := ob_ex hf
        obtain ⟨b_17, hf⟩ := gq_ex hf
        obtain ⟨c_18, ec_18, hf⟩ := ob_ex hf
        rcases ite_ex hf with ⟨q_20, hf⟩ | ⟨q_20, hf⟩
        · skip
          exact fm_tr mh_10 (W_X12_wed_180 A F (fun p0 p1 q => ih p0 p1 q) (fun q0 e0 => P_0 q0 (mh_10.1 ▸ e0)) (fun q0 e0 => P_1 q0 (mh_10.1 ▸ e0)) hf)
        · skip
          exact fm_tr mh_10 (W_X12_wed_172 A F (fun p0 p1 q => ih p0 p1 q) (fun q0 e0 => P_1 q0 (mh_10.1 ▸ e0)) (fun q0 e0 => P_0 q0 (mh_10.1 ▸ e0)) hf)
theorem W_X12_wed_70 (A : Nat → Prop) (F : Nat) : ∀ (f : Nat) {h : Hp} {a0 : Nat} {x1 : Int32} {x2 : Int32} {x3 : Int32} {r : Int32} {h1 : Hp} (P_0 : ∀ q0, h.2 a0 44 = some q0 → A q0) (P_1 : ∀ q0, h.2 a0 45 = some q0 → A q0), X12_wed_70 F f a0 x1 x2 x3 h = some (r, h1) → Fm A h h1 := by
  intro f
  induction f with
  | zero =>
    intro h a0 x1 x2 x3 r h1 P_0 P_1 hf
    exact nomatch (show (none : Option _) = some _ from hf)
  | succ f ih =>
    intro h a0 x1 x2 x3 r h1 P_0 P_1 hf
    rw [X12_wed_70] at hf
    have m0 := fm_rf (A := A) (h := h)
    rcases ite_ex hf with ⟨q_1, hf⟩ | ⟨q_1, hf⟩
    · skip
      obtain ⟨k_2, hf⟩ := gq_ex hf
      obtain ⟨c_3, ec_3, hf⟩ := ob_ex hf
      exact fm_tr m0 (W_X12_wed_101 A F _ (fun q0 e0 => P_1 q0 (m0.1 ▸ e0)) (fun q0 e0 => P_0 q0 (m0.1 ▸ e0)) hf)
    · skip
      obtain ⟨k_5, hf⟩ := gq_ex hf
      obtain ⟨j_6, ej_6, hf⟩ := ob_ex hf
      have zj_6 : h.2 a0 44 = some j_6 := m0.1 ▸ ej_6
      obtain ⟨k_7, hf⟩ := gq_ex hf
      obtain ⟨b_8, hf⟩ := gq_ex hf
      obtain ⟨h_9, eh_9, hf⟩ := bd_ex hf
      have mh_9 := fm_tr m0 (fm_up eh_9 (P_0 _ zj_6))
      obtain ⟨j_10, ej_10, hf⟩ := ob_ex hf
      have zj_10 : h.2 a0 45 = some j_10 := mh_9.1 ▸ ej_10
      obtain ⟨k_11, hf⟩ := gq_ex hf
      obtain ⟨b_12, hf⟩ := gq_ex hf
      obtain ⟨h_13, eh_13, hf⟩ := bd_ex hf
      have mh_13 := fm_tr mh_9 (fm_up eh_13 (P_1 _ zj_10))
      obtain ⟨x3_14, ex3_14, hf⟩ := bd_ex hf
      exact fm_tr mh_13 (ih (fun q0 e0 => P_0 q0 (mh_13.1 ▸ e0)) (fun q0 e0 => P_1 q0 (mh_13.1 ▸ e0)) hf)
theorem W_X12_wed_41 (A : Nat → Prop) (F : Nat) : ∀ (f : Nat) {h : Hp} {a0 : Nat} {x1 : Int32} {x2 : Int32} {x3 : Int32} {r : Int32} {h1 : Hp} (P_0 : ∀ q0, h.2 a0 44 = some q0 → A q0) (P_1 : ∀ q0, h.2 a0 45 = some q0 → A q0), X12_wed_41 F f a0 x1 x2 x3 h = some (r, h1) → Fm A h h1 := by
  intro f
  induction f with
  | zero =>
    intro h a0 x1 x2 x3 r h1 P_0 P_1 hf
    exact nomatch (show (none : Option _) = some _ from hf)
  | succ f ih =>
    intro h a0 x1 x2 x3 r h1 P_0 P_1 hf
    rw [X12_wed_41] at hf
    have m0 := fm_rf (A := A) (h := h)
    rcases ite_ex hf with ⟨q_1, hf⟩ | ⟨q_1, hf⟩
    · skip
      exact fm_tr m0 (W_X12_wed_70 A F _ (fun q0 e0 => P_0 q0 (m0.1 ▸ e0)) (fun q0 e0 => P_1 q0 (m0.1 ▸ e0)) hf)
    · skip
      obtain ⟨k_2, hf⟩ := gq_ex hf
      obtain ⟨c_3, ec_3, hf⟩ := ob_ex hf
      rcases ite_ex hf with ⟨q_5, hf⟩ | ⟨q_5, hf⟩
      · skip
        cases hf
        exact m0
      · skip
        obtain ⟨x3_6, ex3_6, hf⟩ := bd_ex hf
        exact fm_tr m0 (ih (fun q0 e0 => P_0 q0 (m0.1 ▸ e0)) (fun q0 e0 => P_1 q0 (m0.1 ▸ e0)) hf)
theorem W_X12_wed_0 (A : Nat → Prop) (F : Nat) {h : Hp} {a0 : Nat} {x1 : Int32} {x2 : Int32} {r : Int32} {h1 : Hp} (P_0 : A a0) (P_1 : ∀ q0, h.2 a0 44 = some q0 → A q0) (P_2 : ∀ q0, h.2 a0 45 = some q0 → A q0) (hf : X12_wed F a0 x1 x2 h = some (r, h1)) : Fm A h h1 := by
  unfold X12_wed at hf
  have m0 := fm_rf (A := A) (h := h)
  obtain ⟨c_1, ec_1, hf⟩ := ob_ex hf
  rcases ite_ex hf with ⟨q_3, hf⟩ | ⟨q_3, hf⟩
  · skip
    cases hf
    exact m0
  · skip
    obtain ⟨c_4, ec_4, hf⟩ := ob_ex hf
    rcases ite_ex hf with ⟨q_6, hf⟩ | ⟨q_6, hf⟩
    · skip
      cases hf
      exact m0
    · skip
      obtain ⟨k_7, hf⟩ := gq_ex hf
      rcases ite_ex hf with ⟨q_8, hf⟩ | ⟨q_8, hf⟩
      · skip
        obtain ⟨h_9, eh_9, hf⟩ := bd_ex hf
        have mh_9 := fm_tr m0 (fm_up eh_9 (P_0))
        exact fm_tr mh_9 (W_X12_wed_41 A F _ (fun q0 e0 => P_1 q0 (mh_9.1 ▸ e0)) (fun q0 e0 => P_2 q0 (mh_9.1 ▸ e0)) hf)
      · skip
        cases hf
        exact m0
theorem W_X12_wed (A : Nat → Prop) (F : Nat) {h : Hp} {a0 : Nat} {x1 : Int32} {x2 : Int32} {r : Int32} {h1 : Hp} (P_0 : A a0) (P_1 : ∀ q0, h.2 a0 44 = some q0 → A q0) (P_2 : ∀ q0, h.2 a0 45 = some q0 → A q0) (hf : X12_wed F a0 x1 x2 h = some (r, h1)) : Fm A h h1 := W_X12_wed_0 A F P_0 P_1 P_2 hf
theorem W_X12_unfolds_5 (A : Nat → Prop) (F : Nat) : ∀ (f : Nat) {h : Hp} {a0 : Nat} {x2 : Int32} {x3 : Int32} {x4 : Int32} {h1 : Hp} (P_0 : ∀ q0, h.2 a0 48 = some q0 → A q0), X12_unfolds_5 F f a0 x2 x3 x4 h = some h1 → Fm A h h1 := by
  intro f
  induction f with
  | zero =>
    intro h a0 x2 x3 x4 h1 P_0 hf
    exact nomatch (show (none : Option _) = some _ from hf)
  | succ f ih =>
    intro h a0 x2 x3 x4 h1 P_0 hf
    rw [X12_unfolds_5] at hf
    have m0 := fm_rf (A := A) (h := h)
    rcases ite_ex hf with ⟨q_1, hf⟩ | ⟨q_1, hf⟩
    · skip
      cases hf
      exact m0
    · skip
      obtain ⟨k_2, hf⟩ := gq_ex hf
      obtain ⟨j_3, ej_3, hf⟩ := ob_ex hf
      have zj_3 : h.2 a0 48 = some j_3 := m0.1 ▸ ej_3
      obtain ⟨k_4, hf⟩ := gq_ex hf
      obtain ⟨b_5, hf⟩ := gq_ex hf
      obtain ⟨h_6, eh_6, hf⟩ := bd_ex hf
      have mh_6 := fm_tr m0 (fm_up eh_6 (P_0 _ zj_3))
      obtain ⟨x3_7, ex3_7, hf⟩ := bd_ex hf
      obtain ⟨x4_8, ex4_8, hf⟩ := bd_ex hf
      exact fm_tr mh_6 (ih (fun q0 e0 => P_0 q0 (mh_6.1 ▸ e0)) hf)
theorem W_X12_unfolds_0 (A : Nat → Prop) (F : Nat) {h : Hp} {a0 : Nat} {x1 : Int32} {x2 : Int32} {h1 : Hp} (P_0 : ∀ q0, h.2 a0 48 = some q0 → A q0) (hf : X12_unfolds F a0 x1 x2 h = some h1) : Fm A h h1 := by
  unfold X12_unfolds at hf
  have m0 := fm_rf (A := A) (h := h)
  exact fm_tr m0 (W_X12_unfolds_5 A F _ (fun q0 e0 => P_0 q0 (m0.1 ▸ e0)) hf)
theorem W_X12_unfolds (A : Nat → Prop) (F : Nat) {h : Hp} {a0 : Nat} {x1 : Int32} {x2 : Int32} {h1 : Hp} (P_0 : ∀ q0, h.2 a0 48 = some q0 → A q0) (hf : X12_unfolds F a0 x1 x2 h = some h1) : Fm A h h1 := W_X12_unfolds_0 A F P_0 hf
theorem W_X12_changes_268 (A : Nat → Prop) (F : Nat) {k168 : Nat → Int32 → Int32 → Int32 → Int32 → Hp → Option (Int32 × Hp)} {k193 : Nat → Int32 → Int32 → Int32 → Int32 → Int32 → Hp → Option (Int32 × Hp)} (hk168 : ∀ {h : Hp} {a0 : Nat} {x1 : Int32} {x3 : Int32} {x4 : Int32} {x5 : Int32} {r : Int32} {h1 : Hp} (_ : ∀ q0, h.2 a0 48 = some q0 → A q0) (_ : ∀ q0, h.2 a0 46 = some q0 → A q0) (_ : ∀ q0, h.2 a0 47 = some q0 → A q0), k168 a0 x1 x3 x4 x5 h = some (r, h1) → Fm A h h1) (hk193 : ∀ {h : Hp} {a0 : Nat} {x1 : Int32} {x3 : Int32} {x4 : Int32} {x5 : Int32} {x6 : Int32} {r : Int32} {h1 : Hp} (_ : ∀ q0, h.2 a0 46 = some q0 → A q0) (_ : ∀ q0, h.2 a0 47 = some q0 → A q0) (_ : ∀ q0, h.2 a0 48 = some q0 → A q0), k193 a0 x1 x3 x4 x5 x6 h = some (r, h1) → Fm A h h1) {h : Hp} {a0 : Nat} {x1 : Int32} {x3 : Int32} {x4 : Int32} {x5 : Int32} {x6 : Int32} {r : Int32} {h1 : Hp} (P_0 : ∀ q0, h.2 a0 46 = some q0 → A q0) (P_1 : ∀ q0, h.2 a0 47 = some q0 → A q0) (P_2 : ∀ q0, h.2 a0 48 = some q0 → A q0) (hf : X12_changes_268 F k168 k193 a0 x1 x3 x4 x5 x6 h = some (r, h1)) : Fm A h h1 := by
  unfold X12_changes_268 at hf
  have m0 := fm_rf (A := A) (h := h)
  obtain ⟨x6_1, ex6_1, hf⟩ := bd_ex hf
  exact fm_tr m0 (hk193 (fun q0 e0 => P_0 q0 (m0.1 ▸ e0)) (fun q0 e0 => P_1 q0 (m0.1 ▸ e0)) (fun q0 e0 => P_2 q0 (m0.1 ▸ e0)) hf)
theorem W_X12_changes_193 (A : Nat → Prop) (F : Nat) {k168 : Nat → Int32 → Int32 → Int32 → Int32 → Hp → Option (Int32 × Hp)} (hk168 : ∀ {h : Hp} {a0 : Nat} {x1 : Int32} {x3 : Int32} {x4 : Int32} {x5 : Int32} {r : Int32} {h1 : Hp} (_ : ∀ q0, h.2 a0 48 = some q0 → A q0) (_ : ∀ q0, h.2 a0 46 = some q0 → A q0) (_ : ∀ q0, h.2 a0 47 = some q0 → A q0), k168 a0 x1 x3 x4 x5 h = some (r, h1) → Fm A h h1) : ∀ (f : Nat) {h : Hp} {a0 : Nat} {x1 : Int32} {x3 : Int32} {x4 : Int32} {x5 : Int32} {x6 : Int32} {r : Int32} {h1 : Hp} (P_0 : ∀ q0, h.2 a0 46 = some q0 → A q0) (P_1 : ∀ q0, h.2 a0 47 = some q0 → A q0) (P_2 : ∀ q0, h.2 a0 48 = some q0 → A q0), X12_changes_193 F k168 f a0 x1 x3 x4 x5 x6 h = some (r, h1) → Fm A h h1 := by
  intro f
  induction f with
  | zero =>
    intro h a0 x1 x3 x4 x5 x6 r h1 P_0 P_1 P_2 hf
    exact nomatch (show (none : Option _) = some _ from hf)
  | succ f ih =>
    intro h a0 x1 x3 x4 x5 x6 r h1 P_0 P_1 P_2 hf
    rw [X12_changes_193] at hf
    have m0 := fm_rf (A := A) (h := h)
    rcases ite_ex hf with ⟨q_1, hf⟩ | ⟨q_1, hf⟩
    · skip
      obtain ⟨x5_2, ex5_2, hf⟩ := bd_ex hf
      exact fm_tr m0 (hk168 (fun q0 e0 => P_2 q0 (m0.1 ▸ e0)) (fun q0 e0 => P_0 q0 (m0.1 ▸ e0)) (fun q0 e0 => P_1 q0 (m0.1 ▸ e0)) hf)
    · skip
      obtain ⟨k_3, hf⟩ := gq_ex hf
      obtain ⟨c_4, ec_4, hf⟩ := ob_ex hf
      rcases ite_ex hf with ⟨q_6, hf⟩ | ⟨q_6, hf⟩
      · skip
        exact fm_tr m0 (W_X12_changes_268 A F hk168 (fun p0 p1 p2 q => ih p0 p1 p2 q) (fun q0 e0 => P_0 q0 (m0.1 ▸ e0)) (fun q0 e0 => P_1 q0 (m0.1 ▸ e0)) (fun q0 e0 => P_2 q0 (m0.1 ▸ e0)) hf)
      · skip
        obtain ⟨j_7, ej_7, hf⟩ := ob_ex hf
        have zj_7 : h.2 a0 46 = some j_7 := m0.1 ▸ ej_7
        obtain ⟨k_8, hf⟩ := gq_ex hf
        obtain ⟨b_9, hf⟩ := gq_ex hf
        rcases ite_ex hf with ⟨q_10, hf⟩ | ⟨q_10, hf⟩
        · skip
          obtain ⟨j_11, ej_11, hf⟩ := ob_ex hf
          have zj_11 : h.2 a0 47 = some j_11 := m0.1 ▸ ej_11
          obtain ⟨k_12, hf⟩ := gq_ex hf
          obtain ⟨b_13, hf⟩ := gq_ex hf
          obtain ⟨b_14, hf⟩ := gq_ex hf
          obtain ⟨b_15, hf⟩ := gq_ex hf
          obtain ⟨h_16, eh_16, hf⟩ := bd_ex hf
          have mh_16 := fm_tr m0 (fm_up eh_16 (P_0 _ zj_7))
          obtain ⟨b_17, hf⟩ := gq_ex hf
          obtain ⟨h_18, eh_18, hf⟩ := bd_ex hf
          have mh_18 := fm_tr mh_16 (fm_up eh_18 (P_1 _ zj_11))
          obtain ⟨x4_19, ex4_19, hf⟩ := bd_ex hf
          exact fm_tr mh_18 (W_X12_changes_268 A F hk168 (fun p0 p1 p2 q => ih p0 p1 p2 q) (fun q0 e0 => P_0 q0 (mh_18.1 ▸ e0)) (fun q0 e0 => P_1 q0 (mh_18.1 ▸ e0)) (fun q0 e0 => P_2 q0 (mh_18.1 ▸ e0)) hf)
        · skip
          exact fm_tr m0 (W_X12_changes_268 A F hk168 (fun p0 p1 p2 q => ih p0 p1 p2 q) (fun q0 e0 => P_0 q0 (m0.1 ▸ e0)) (fun q0 e0 => P_1 q0 (m0.1 ▸ e0)) (fun q0 e0 => P_2 q0 (m0.1 ▸ e0)) hf)
theorem W_X12_changes_168 (A : Nat → Prop) (F : Nat) : ∀ (f : Nat) {h : Hp} {a0 : Nat} {x1 : Int32} {x3 : Int32} {x4 : Int32} {x5 : Int32} {r : Int32} {h1 : Hp} (P_0 : ∀ q0, h.2 a0 48 = some q0 → A q0) (P_1 : ∀ q0, h.2 a0 46 = some q0 → A q0) (P_2 : ∀ q0, h.2 a0 47 = some q0 → A q0), X12_changes_168 F f a0 x1 x3 x4 x5 h = some (r, h1) → Fm A h h1 := by
  intro f
  induction f with
  | zero =>
    intro h a0 x1 x3 x4 x5 r h1 P_0 P_1 P_2 hf
    exact nomatch (show (none : Option _) = some _ from hf)
  | succ f ih =>
    intro h a0 x1 x3 x4 x5 r h1 P_0 P_1 P_2 hf
    rw [X12_changes_168] at hf
    have m0 := fm_rf (A := A) (h := h)
    obtain ⟨k_1, hf⟩ := gq_ex hf
    obtain ⟨j_2, ej_2, hf⟩ := ob_ex hf
    have zj_2 : h.2 a0 46 = some j_2 := m0.1 ▸ ej_2
    obtain ⟨k_3, hf⟩ := gq_ex hf
    obtain ⟨b_4, hf⟩ := gq_ex hf
    rcases ite_ex hf with ⟨q_5, hf⟩ | ⟨q_5, hf⟩
    · skip
      obtain ⟨j_7, ej_7, hf⟩ := ob_ex hf
      have zj_7 : h.2 a0 47 = some j_7 := m0.1 ▸ ej_7
      obtain ⟨k_8, hf⟩ := gq_ex hf
      obtain ⟨b_9, hf⟩ := gq_ex hf
      obtain ⟨h_11, eh_11, hf⟩ := ob_ex hf
      have mh_11 := fm_tr m0 (W_X12_unfolds A F (fun q0 e0 => P_0 q0 (m0.1 ▸ e0)) eh_11)
      exact fm_tr mh_11 (W_X12_changes_193 A F (fun p0 p1 p2 q => ih p0 p1 p2 q) _ (fun q0 e0 => P_1 q0 (mh_11.1 ▸ e0)) (fun q0 e0 => P_2 q0 (mh_11.1 ▸ e0)) (fun q0 e0 => P_0 q0 (mh_11.1 ▸ e0)) hf)
    · skip
      obtain ⟨b_6, hf⟩ := gq_ex hf
      cases hf
      exact m0
theorem W_X12_changes_127 (A : Nat → Prop) (F : Nat) : ∀ (f : Nat) {h : Hp} {a0 : Nat} {x1 : Int32} {x2 : Int32} {x3 : Int32} {x4 : Int32} {r : Int32} {h1 : Hp} (P_0 : ∀ q0, h.2 a0 46 = some q0 → A q0) (P_1 : ∀ q0, h.2 a0 47 = some q0 → A q0) (P_2 : ∀ q0, h.2 a0 48 = some q0 → A q0), X12_changes_127 F f a0 x1 x2 x3 x4 h = some (r, h1) → Fm A h h1 := by
  intro f
  induction f with
  | zero =>
    intro h a0 x1 x2 x3 x4 r h1 P_0 P_1 P_2 hf
    exact nomatch (show (none : Option _) = some _ from hf)
  | succ f ih =>
    intro h a0 x1 x2 x3 x4 r h1 P_0 P_1 P_2 hf
    rw [X12_changes_127] at hf
    have m0 := fm_rf (A := A) (h := h)
    rcases ite_ex hf with ⟨q_1, hf⟩ | ⟨q_1, hf⟩
    · skip
      obtain ⟨k_2, hf⟩ := gq_ex hf
      obtain ⟨j_3, ej_3, hf⟩ := ob_ex hf
      have zj_3 : h.2 a0 46 = some j_3 := m0.1 ▸ ej_3
      obtain ⟨k_4, hf⟩ := gq_ex hf
      obtain ⟨b_5, hf⟩ := gq_ex hf
      obtain ⟨h_6, eh_6, hf⟩ := bd_ex hf
      have mh_6 := fm_tr m0 (fm_up eh_6 (P_0 _ zj_3))
      obtain ⟨j_7, ej_7, hf⟩ := ob_ex hf
      have zj_7 : h.2 a0 47 = some j_7 := mh_6.1 ▸ ej_7
      obtain ⟨k_8, hf⟩ := gq_ex hf
      obtain ⟨b_9, hf⟩ := gq_ex hf
      obtain ⟨h_10, eh_10, hf⟩ := bd_ex hf
      have mh_10 := fm_tr mh_6 (fm_up eh_10 (P_1 _ zj_7))
      exact fm_tr mh_10 (W_X12_changes_168 A F _ (fun q0 e0 => P_2 q0 (mh_10.1 ▸ e0)) (fun q0 e0 => P_0 q0 (mh_10.1 ▸ e0)) (fun q0 e0 => P_1 q0 (mh_10.1 ▸ e0)) hf)
    · skip
      obtain ⟨k_11, hf⟩ := gq_ex hf
      obtain ⟨j_12, ej_12, hf⟩ := ob_ex hf
      have zj_12 : h.2 a0 46 = some j_12 := m0.1 ▸ ej_12
      obtain ⟨k_13, hf⟩ := gq_ex hf
      obtain ⟨b_14, hf⟩ := gq_ex hf
      obtain ⟨h_15, eh_15, hf⟩ := bd_ex hf
      have mh_15 := fm_tr m0 (fm_up eh_15 (P_0 _ zj_12))
      obtain ⟨x4_16, ex4_16, hf⟩ := bd_ex hf
      exact fm_tr mh_15 (ih (fun q0 e0 => P_0 q0 (mh_15.1 ▸ e0)) (fun q0 e0 => P_1 q0 (mh_15.1 ▸ e0)) (fun q0 e0 => P_2 q0 (mh_15.1 ▸ e0)) hf)
theorem W_X12_changes_82 (A : Nat → Prop) (F : Nat) : ∀ (f : Nat) {h : Hp} {a0 : Nat} {x1 : Int32} {x2 : Int32} {x3 : Int32} {x4 : Int32} {r : Int32} {h1 : Hp} (P_0 : ∀ q0, h.2 a0 46 = some q0 → A q0) (P_1 : ∀ q0, h.2 a0 47 = some q0 → A q0) (P_2 : ∀ q0, h.2 a0 48 = some q0 → A q0), X12_changes_82 F f a0 x1 x2 x3 x4 h = some (r, h1) → Fm A h h1 := by
  intro f
  induction f with
  | zero =>
    intro h a0 x1 x2 x3 x4 r h1 P_0 P_1 P_2 hf
    exact nomatch (show (none : Option _) = some _ from hf)
  | succ f ih =>
    intro h a0 x1 x2 x3 x4 r h1 P_0 P_1 P_2 hf
    rw [X12_changes_82] at hf
    have m0 := fm_rf (A := A) (h := h)
    rcases ite_ex hf with ⟨q_1, hf⟩ | ⟨q_1, hf⟩
    · skip
      exact fm_tr m0 (W_X12_changes_127 A F _ (fun q0 e0 => P_0 q0 (m0.1 ▸ e0)) (fun q0 e0 => P_1 q0 (m0.1 ▸ e0)) (fun q0 e0 => P_2 q0 (m0.1 ▸ e0)) hf)
    · skip
      obtain ⟨k_2, hf⟩ := gq_ex hf
      obtain ⟨j_3, ej_3, hf⟩ := ob_ex hf
      have zj_3 : h.2 a0 49 = some j_3 := m0.1 ▸ ej_3
      obtain ⟨k_4, hf⟩ := gq_ex hf
      obtain ⟨b_5, hf⟩ := gq_ex hf
      obtain ⟨x2_6, ex2_6, hf⟩ := bd_ex hf
      obtain ⟨b_7, hf⟩ := gq_ex hf
      obtain ⟨c_8, ec_8, hf⟩ := ob_ex hf
      obtain ⟨x3_10, ex3_10, hf⟩ := bd_ex hf
      obtain ⟨x4_11, ex4_11, hf⟩ := bd_ex hf
      exact fm_tr m0 (ih (fun q0 e0 => P_0 q0 (m0.1 ▸ e0)) (fun q0 e0 => P_1 q0 (m0.1 ▸ e0)) (fun q0 e0 => P_2 q0 (m0.1 ▸ e0)) hf)
theorem W_X12_changes_46 (A : Nat → Prop) (F : Nat) : ∀ (f : Nat) {h : Hp} {a0 : Nat} {x1 : Int32} {x2 : Int32} {r : Int32} {h1 : Hp} (P_0 : ∀ q0, h.2 a0 49 = some q0 → A q0) (P_1 : ∀ q0, h.2 a0 46 = some q0 → A q0) (P_2 : ∀ q0, h.2 a0 47 = some q0 → A q0) (P_3 : ∀ q0, h.2 a0 48 = some q0 → A q0), X12_changes_46 F f a0 x1 x2 h = some (r, h1) → Fm A h h1 := by
  intro f
  induction f with
  | zero =>
    intro h a0 x1 x2 r h1 P_0 P_1 P_2 P_3 hf
    exact nomatch (show (none : Option _) = some _ from hf)
  | succ f ih =>
    intro h a0 x1 x2 r h1 P_0 P_1 P_2 P_3 hf
    rw [X12_changes_46] at hf
    have m0 := fm_rf (A := A) (h := h)
    rcases ite_ex hf with ⟨q_1, hf⟩ | ⟨q_1, hf⟩
    · skip
      exact fm_tr m0 (W_X12_changes_82 A F _ (fun q0 e0 => P_1 q0 (m0.1 ▸ e0)) (fun q0 e0 => P_2 q0 (m0.1 ▸ e0)) (fun q0 e0 => P_3 q0 (m0.1 ▸ e0)) hf)
    · skip
      obtain ⟨k_2, hf⟩ := gq_ex hf
      obtain ⟨j_3, ej_3, hf⟩ := ob_ex hf
      have zj_3 : h.2 a0 49 = some j_3 := m0.1 ▸ ej_3
      obtain ⟨k_4, hf⟩ := gq_ex hf
      obtain ⟨b_5, hf⟩ := gq_ex hf
      obtain ⟨b_6, hf⟩ := gq_ex hf
      obtain ⟨h_7, eh_7, hf⟩ := bd_ex hf
      have mh_7 := fm_tr m0 (fm_up eh_7 (P_0 _ zj_3))
      obtain ⟨x2_8, ex2_8, hf⟩ := bd_ex hf
      exact fm_tr mh_7 (ih (fun q0 e0 => P_0 q0 (mh_7.1 ▸ e0)) (fun q0 e0 => P_1 q0 (mh_7.1 ▸ e0)) (fun q0 e0 => P_2 q0 (mh_7.1 ▸ e0)) (fun q0 e0 => P_3 q0 (mh_7.1 ▸ e0)) hf)
theorem W_X12_changes_0 (A : Nat → Prop) (F : Nat) {h : Hp} {a0 : Nat} {x1 : Int32} {r : Int32} {h1 : Hp} (P_0 : A a0) (P_1 : ∀ q0, h.2 a0 49 = some q0 → A q0) (P_2 : ∀ q0, h.2 a0 46 = some q0 → A q0) (P_3 : ∀ q0, h.2 a0 47 = some q0 → A q0) (P_4 : ∀ q0, h.2 a0 48 = some q0 → A q0) (hf : X12_changes F a0 x1 h = some (r, h1)) : Fm A h h1 := by
  unfold X12_changes at hf
  have m0 := fm_rf (A := A) (h := h)
  obtain ⟨c_1, ec_1, hf⟩ := ob_ex hf
  rcases ite_ex hf with ⟨q_3, hf⟩ | ⟨q_3, hf⟩
  · skip
    cases hf
    exact m0
  · skip
    obtain ⟨k_4, hf⟩ := gq_ex hf
    rcases ite_ex hf with ⟨q_5, hf⟩ | ⟨q_5, hf⟩
    · skip
      obtain ⟨h_6, eh_6, hf⟩ := bd_ex hf
      have mh_6 := fm_tr m0 (fm_up eh_6 (P_0))
      obtain ⟨c_7, ec_7, hf⟩ := ob_ex hf
      rcases ite_ex hf with ⟨q_9, hf⟩ | ⟨q_9, hf⟩
      · skip
        cases hf
        exact mh_6
      · skip
        obtain ⟨j_10, ej_10, hf⟩ := ob_ex hf
        have zj_10 : h.2 a0 49 = some j_10 := mh_6.1 ▸ ej_10
        obtain ⟨k_11, hf⟩ := gq_ex hf
        obtain ⟨b_12, hf⟩ := gq_ex hf
        obtain ⟨h_13, eh_13, hf⟩ := bd_ex hf
        have mh_13 := fm_tr mh_6 (fm_up eh_13 (P_1 _ zj_10))
        exact fm_tr mh_13 (W_X12_changes_46 A F _ (fun q0 e0 => P_1 q0 (mh_13.1 ▸ e0)) (fun q0 e0 => P_2 q0 (mh_13.1 ▸ e0)) (fun q0 e0 => P_3 q0 (mh_13.1 ▸ e0)) (fun q0 e0 => P_4 q0 (mh_13.1 ▸ e0)) hf)
    · skip
      cases hf
      exact m0
theorem W_X12_changes (A : Nat → Prop) (F : Nat) {h : Hp} {a0 : Nat} {x1 : Int32} {r : Int32} {h1 : Hp} (P_0 : A a0) (P_1 : ∀ q0, h.2 a0 49 = some q0 → A q0) (P_2 : ∀ q0, h.2 a0 46 = some q0 → A q0) (P_3 : ∀ q0, h.2 a0 47 = some q0 → A q0) (P_4 : ∀ q0, h.2 a0 48 = some q0 → A q0) (hf : X12_changes F a0 x1 h = some (r, h1)) : Fm A h h1 := W_X12_changes_0 A F P_0 P_1 P_2 P_3 P_4 hf
theorem W_X12_seed_0 (A : Nat → Prop) (F : Nat) {h : Hp} {a0 : Nat} {x1 : Int32} {r : Int32} {h1 : Hp} (P_0 : ∀ q0, h.2 a0 0 = some q0 → A q0) (hf : X12_seed F a0 x1 h = some (r, h1)) : Fm A h h1 := by
  unfold X12_seed at hf
  have m0 := fm_rf (A := A) (h := h)
  obtain ⟨c_1, ec_1, hf⟩ := ob_ex hf
  rcases ite_ex hf with ⟨q_3, hf⟩ | ⟨q_3, hf⟩
  · skip
    cases hf
    exact m0
  · skip
    obtain ⟨k_4, hf⟩ := gq_ex hf
    obtain ⟨j_5, ej_5, hf⟩ := ob_ex hf
    have zj_5 : h.2 a0 0 = some j_5 := m0.1 ▸ ej_5
    obtain ⟨k_6, hf⟩ := gq_ex hf
    obtain ⟨b_7, hf⟩ := gq_ex hf
    obtain ⟨h_8, eh_8, hf⟩ := bd_ex hf
    have mh_8 := fm_tr m0 (fm_up eh_8 (P_0 _ zj_5))
    cases hf
    exact mh_8
theorem W_X12_seed (A : Nat → Prop) (F : Nat) {h : Hp} {a0 : Nat} {x1 : Int32} {r : Int32} {h1 : Hp} (P_0 : ∀ q0, h.2 a0 0 = some q0 → A q0) (hf : X12_seed F a0 x1 h = some (r, h1)) : Fm A h h1 := W_X12_seed_0 A F P_0 hf
theorem W_X12_keep_0 (A : Nat → Prop) (F : Nat) {h : Hp} {a0 : Nat} {r : Int32} {h1 : Hp} (P_0 : A a0) (P_1 : ∀ q0, h.2 a0 2 = some q0 → A q0) (hf : X12_keep F a0 h = some (r, h1)) : Fm A h h1 := by
  unfold X12_keep at hf
  have m0 := fm_rf (A := A) (h := h)
  obtain ⟨k_1, hf⟩ := gq_ex hf
  obtain ⟨h_2, eh_2, hf⟩ := bd_ex hf
  have mh_2 := fm_tr m0 (fm_up eh_2 (P_0))
  obtain ⟨j_3, ej_3, hf⟩ := ob_ex hf
  have zj_3 : h.2 a0 0 = some j_3 := mh_2.1 ▸ ej_3
  obtain ⟨j_4, ej_4, hf⟩ := ob_ex hf
  have zj_4 : h.2 a0 2 = some j_4 := mh_2.1 ▸ ej_4
  obtain ⟨h_6, eh_6, hf⟩ := ob_ex hf
  have mh_6 := fm_tr mh_2 (W_X12_copies A F (P_1 _ zj_4) eh_6)
  obtain ⟨j_7, ej_7, hf⟩ := ob_ex hf
  have zj_7 : h.2 a0 0 = some j_7 := mh_6.1 ▸ ej_7
  obtain ⟨k_8, hf⟩ := gq_ex hf
  obtain ⟨b_9, hf⟩ := gq_ex hf
  cases hf
  exact mh_6
theorem W_X12_keep (A : Nat → Prop) (F : Nat) {h : Hp} {a0 : Nat} {r : Int32} {h1 : Hp} (P_0 : A a0) (P_1 : ∀ q0, h.2 a0 2 = some q0 → A q0) (hf : X12_keep F a0 h = some (r, h1)) : Fm A h h1 := W_X12_keep_0 A F P_0 P_1 hf
theorem W_X12_undo_0 (A : Nat → Prop) (F : Nat) {h : Hp} {a0 : Nat} {r : Int32} {h1 : Hp} (P_0 : ∀ q0, h.2 a0 0 = some q0 → A q0) (hf : X12_undo F a0 h = some (r, h1)) : Fm A h h1 := by
  unfold X12_undo at hf
  have m0 := fm_rf (A := A) (h := h)
  obtain ⟨k_1, hf⟩ := gq_ex hf
  rcases ite_ex hf with ⟨q_2, hf⟩ | ⟨q_2, hf⟩
  · skip
    cases hf
    exact m0
  · skip
    obtain ⟨j_3, ej_3, hf⟩ := ob_ex hf
    have zj_3 : h.2 a0 2 = some j_3 := m0.1 ▸ ej_3
    obtain ⟨j_4, ej_4, hf⟩ := ob_ex hf
    have zj_4 : h.2 a0 0 = some j_4 := m0.1 ▸ ej_4
    obtain ⟨h_6, eh_6, hf⟩ := ob_ex hf
    have mh_6 := fm_tr m0 (W_X12_copies A F (P_0 _ zj_4) eh_6)
    cases hf
    exact mh_6
theorem W_X12_undo (A : Nat → Prop) (F : Nat) {h : Hp} {a0 : Nat} {r : Int32} {h1 : Hp} (P_0 : ∀ q0, h.2 a0 0 = some q0 → A q0) (hf : X12_undo F a0 h = some (r, h1)) : Fm A h h1 := W_X12_undo_0 A F P_0 hf
theorem W_X12_check_0 (A : Nat → Prop) (F : Nat) {h : Hp} {a0 : Nat} {r : Int32} {h1 : Hp} (P_0 : A a0) (hf : X12_check F a0 h = some (r, h1)) : Fm A h h1 := by
  unfold X12_check at hf
  have m0 := fm_rf (A := A) (h := h)
  obtain ⟨k_1, hf⟩ := gq_ex hf
  rcases ite_ex hf with ⟨q_2, hf⟩ | ⟨q_2, hf⟩
  · skip
    obtain ⟨h_3, eh_3, hf⟩ := bd_ex hf
    have mh_3 := fm_tr m0 (fm_up eh_3 (P_0))
    obtain ⟨c_4, ec_4, hf⟩ := ob_ex hf
    obtain ⟨c_6, ec_6, hf⟩ := ob_ex hf
    rcases ite_ex hf with ⟨q_8, hf⟩ | ⟨q_8, hf⟩
    · skip
      obtain ⟨c_9, ec_9, hf⟩ := ob_ex hf
      obtain ⟨c_11, ec_11, hf⟩ := ob_ex hf
      rcases ite_ex hf with ⟨q_13, hf⟩ | ⟨q_13, hf⟩
      · skip
        obtain ⟨c_14, ec_14, hf⟩ := ob_ex hf
        obtain ⟨j_16, ej_16, hf⟩ := ob_ex hf
        have zj_16 : h.2 a0 0 = some j_16 := mh_3.1 ▸ ej_16
        obtain ⟨k_17, hf⟩ := gq_ex hf
        obtain ⟨b_18, hf⟩ := gq_ex hf
        rcases ite_ex hf with ⟨q_19, hf⟩ | ⟨q_19, hf⟩
        · skip
          obtain ⟨c_20, ec_20, hf⟩ := ob_ex hf
          obtain ⟨b_22, hf⟩ := gq_ex hf
          rcases ite_ex hf with ⟨q_23, hf⟩ | ⟨q_23, hf⟩
          · skip
            cases hf
            exact mh_3
          · skip
            cases hf
            exact mh_3
        · skip
          cases hf
          exact mh_3
      · skip
        cases hf
        exact mh_3
    · skip
      cases hf
      exact mh_3
  · skip
    cases hf
    exact m0
theorem W_X12_check (A : Nat → Prop) (F : Nat) {h : Hp} {a0 : Nat} {r : Int32} {h1 : Hp} (P_0 : A a0) (hf : X12_check F a0 h = some (r, h1)) : Fm A h h1 := W_X12_check_0 A F P_0 hf
