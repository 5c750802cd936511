/-! steps of a law as lists: what they leave on the heap -/
abbrev Cd : Type := List (Nat × Nat)
def opn (ys : Cd) (k : Nat) : Nat := (ys.getD k (0, 0)).1
def opv (ys : Cd) (k : Nat) : Nat := (ys.getD k (0, 0)).2
/-- one step, s: where the list stands; e: where the whole ends; heights at most H -/
def St1 (ys : Cd) (s e H : Nat) (d : Nat → List Bool) (k : Nat) : Prop :=
  (d k).length ≤ H ∧
  ((opn ys k = 0 ∧ d (k + 1) = false :: d k ∧ opv ys k < 100000) ∨ (opn ys k = 1 ∧ d (k + 1) = false :: d k ∧ opv ys k < 9) ∨
   (2 ≤ opn ys k ∧ opn ys k ≤ 6 ∧ opv ys k = 0 ∧ ∃ r, d k = false :: false :: r ∧ d (k + 1) = false :: r) ∨
   (7 ≤ opn ys k ∧ opn ys k ≤ 9 ∧ opv ys k = 0 ∧ ∃ r, d k = false :: false :: r ∧ d (k + 1) = true :: r) ∨
   (opn ys k = 10 ∧ opv ys k = 0 ∧ ∃ r, d k = true :: r ∧ d (k + 1) = true :: r) ∨
   ((opn ys k = 11 ∨ opn ys k = 12) ∧ ∃ j, opv ys k = s + j ∧ k < j ∧ j ≤ e ∧ ∃ r, d k = true :: r ∧ d (k + 1) = r ∧ d j = true :: r))
def Typ (s : Nat) (ys : Cd) (z : Bool) (H : Nat) : Prop := ∃ d : Nat → List Bool, d 0 = [] ∧ d ys.length = [z] ∧ ∀ k, k < ys.length → St1 ys s ys.length H d k
theorem typ_mono {s : Nat} {ys : Cd} {z : Bool} {H H2 : Nat} (T : Typ s ys z H) (h : H ≤ H2) : Typ s ys z H2 := by
  obtain ⟨d, d0, d1, S⟩ := T
  exact ⟨d, d0, d1, fun k hk => ⟨Nat.le_trans (S k hk).1 h, (S k hk).2⟩⟩
theorem gd_l {z : Nat × Nat} : ∀ (xs ys : Cd) (k : Nat), k < xs.length → (xs ++ ys).getD k z = xs.getD k z
  | [], _, k, h => absurd h (Nat.not_lt_zero _)
  | _ :: _, _, 0, _ => rfl
  | x :: xs, ys, k + 1, h => gd_l xs ys k (by rw [List.length_cons] at h; omega)
theorem gd_r {z : Nat × Nat} : ∀ (xs ys : Cd) (k : Nat), (xs ++ ys).getD (xs.length + k) z = ys.getD k z
  | [], ys, k => by
    rw [show ([] : Cd).length + k = k from Nat.zero_add k]
    rfl
  | x :: xs, ys, k => by
    have := gd_r (z := z) xs ys k
    rw [List.length_cons, show xs.length + 1 + k = (xs.length + k) + 1 by omega]
    exact this
theorem opn_l {xs ys : Cd} {k : Nat} (h : k < xs.length) : opn (xs ++ ys) k = opn xs k ∧ opv (xs ++ ys) k = opv xs k := by
  unfold opn opv
  rw [gd_l xs ys k h]
  exact ⟨rfl, rfl⟩
theorem opn_r {xs ys : Cd} {k : Nat} : opn (xs ++ ys) (xs.length + k) = opn ys k ∧ opv (xs ++ ys) (xs.length + k) = opv ys k := by
  unfold opn opv
  rw [gd_r xs ys k]
  exact ⟨rfl, rfl⟩
/-- the same step in a longer list, on top of what lies there, from place p on -/
theorem st1_in {xs ys : Cd} {s e e2 H H2 p k : Nat} {d D : Nat → List Bool} {R : List Bool} (S : St1 ys s e H d k) (ho : opn xs (p + k) = opn ys k) (hv : opv xs (p + k) = opv ys k) (hD : ∀ j, j ≤ e → D (p + j) = d j ++ R) (hk : k < e) (he : p + e ≤ e2) (s2 : Nat) (hs : s = s2 + p) (hH : H + R.length ≤ H2) : St1 xs s2 e2 H2 D (p + k) := by
  obtain ⟨l, c⟩ := S
  have a := hD k (by omega)
  have b := hD (k + 1) (by omega)
  rw [show p + (k + 1) = p + k + 1 by omega] at b
  refine ⟨?_, ?_⟩
  · rw [a, List.length_append]
    omega
  · rw [ho, hv, a, b]
    rcases c with ⟨c1, c2, c3⟩ | ⟨c1, c2, c3⟩ | ⟨c1, c2, c3, r, c4, c5⟩ | ⟨c1, c2, c3, r, c4, c5⟩ | ⟨c1, c2, r, c4, c5⟩ | ⟨c1, j, c2, c3, c4, r, c5, c6, c7⟩
    · exact Or.inl ⟨c1, by rw [c2]; rfl, c3⟩
    · exact Or.inr (Or.inl ⟨c1, by rw [c2]; rfl, c3⟩)
    · exact Or.inr (Or.inr (Or.inl ⟨c1, c2, c3, r ++ R, by rw [c4]; rfl, by rw [c5]; rfl⟩))
    · exact Or.inr (Or.inr (Or.inr (Or.inl ⟨c1, c2, c3, r ++ R, by rw [c4]; rfl, by rw [c5]; rfl⟩)))
    · exact Or.inr (Or.inr (Or.inr (Or.inr (Or.inl ⟨c1, c2, r ++ R, by rw [c4]; rfl, by rw [c5]; rfl⟩))))
    · refine Or.inr (Or.inr (Or.inr (Or.inr (Or.inr ⟨c1, p + j, by omega, by omega, by omega, r ++ R, by rw [c5]; rfl, by rw [c6], ?_⟩))))
      rw [hD j c4, c7]
      rfl
theorem typ_1 {s o v H : Nat} (h : (o = 0 ∧ v < 100000) ∨ (o = 1 ∧ v < 9)) : Typ s [(o, v)] false H := by
  refine ⟨fun k => if k = 0 then [] else [false], rfl, rfl, fun k hk => ?_⟩
  have e : k = 0 := by
    have : k < 1 := hk
    omega
  subst e
  refine ⟨Nat.zero_le _, ?_⟩
  rcases h with ⟨h1, h2⟩ | ⟨h1, h2⟩
  · exact Or.inl ⟨h1, rfl, h2⟩
  · exact Or.inr (Or.inl ⟨h1, rfl, h2⟩)
/-- two values and what joins them -/
theorem typ_op {s o H H2 : Nat} {xs ys : Cd} {z : Bool} (X : Typ s xs false H2) (Y : Typ (s + xs.length) ys false H) (ho : (2 ≤ o ∧ o ≤ 6 ∧ z = false) ∨ (7 ≤ o ∧ o ≤ 9 ∧ z = true)) (hH : H + 1 ≤ H2 ∧ 2 ≤ H2) : Typ s (xs ++ (ys ++ [(o, 0)])) z H2 := by
  obtain ⟨d, d0, d1, S⟩ := X
  obtain ⟨f, f0, f1, T⟩ := Y
  have D : ∃ D : Nat → List Bool, (∀ j, j ≤ xs.length → D j = d j) ∧ (∀ j, j ≤ ys.length → D (xs.length + j) = f j ++ [false]) ∧ D (xs.length + ys.length + 1) = [z] := by
    refine ⟨fun k => if k ≤ xs.length then d k else if k ≤ xs.length + ys.length then f (k - xs.length) ++ [false] else [z], fun j hj => if_pos hj, fun j hj => ?_, ?_⟩
    · by_cases e : j = 0
      · subst e
        show (if xs.length + 0 ≤ xs.length then d (xs.length + 0) else _) = _
        rw [if_pos (by omega), f0]
        exact d1
      · show (if xs.length + j ≤ xs.length then _ else if xs.length + j ≤ xs.length + ys.length then f (xs.length + j - xs.length) ++ [false] else _) = _
        rw [if_neg (by omega), if_pos (by omega), show xs.length + j - xs.length = j by omega]
    · show (if xs.length + ys.length + 1 ≤ xs.length then _ else if xs.length + ys.length + 1 ≤ xs.length + ys.length then _ else [z]) = [z]
      rw [if_neg (by omega), if_neg (by omega)]
  obtain ⟨D, e1, e2, e3⟩ := D
  have len : (xs ++ (ys ++ [(o, 0)])).length = xs.length + ys.length + 1 := by
    rw [List.length_append, List.length_append]
    rfl
  refine ⟨D, (e1 0 (by omega)).trans d0, by rw [len]; exact e3, fun k hk => ?_⟩
  rw [len] at hk ⊢
  by_cases c1 : k < xs.length
  · have q := opn_l (xs := xs) (ys := ys ++ [(o, 0)]) c1
    have := st1_in (p := 0) (R := []) (D := D) (xs := xs ++ (ys ++ [(o, 0)])) (e2 := xs.length + ys.length + 1) (H2 := H2) (S k c1) (by rw [Nat.zero_add]; exact q.1) (by rw [Nat.zero_add]; exact q.2) (fun j hj => by rw [Nat.zero_add, List.append_nil]; exact e1 j hj) c1 (by omega) s (by omega) (by show H2 + 0 ≤ H2; omega)
    rw [Nat.zero_add] at this
    exact this
  · obtain ⟨i, rfl⟩ : ∃ i, k = xs.length + i := ⟨k - xs.length, by omega⟩
    by_cases c2 : i < ys.length
    · have q := opn_r (xs := xs) (ys := ys ++ [(o, 0)]) (k := i)
      have q2 := opn_l (xs := ys) (ys := [(o, 0)]) c2
      exact st1_in (p := xs.length) (R := [false]) (D := D) (xs := xs ++ (ys ++ [(o, 0)])) (e2 := xs.length + ys.length + 1) (H2 := H2) (T i c2) (q.1.trans q2.1) (q.2.trans q2.2) e2 c2 (by omega) s rfl (by show H + 1 ≤ H2; omega)
    · have e : i = ys.length := by omega
      subst e
      have q := opn_r (xs := xs) (ys := ys ++ [(o, 0)]) (k := ys.length)
      have q2 := opn_r (xs := ys) (ys := [((o, 0) : Nat × Nat)]) (k := 0)
      rw [Nat.add_zero] at q2
      have a1 : opn (xs ++ (ys ++ [(o, 0)])) (xs.length + ys.length) = o := q.1.trans q2.1
      have a2 : opv (xs ++ (ys ++ [(o, 0)])) (xs.length + ys.length) = 0 := q.2.trans q2.2
      have a3 := e2 ys.length (Nat.le_refl _)
      rw [f1] at a3
      refine ⟨by rw [a3]; exact hH.2, ?_⟩
      rw [a1, a2, a3, e3]
      rcases ho with ⟨o1, o2, o3⟩ | ⟨o1, o2, o3⟩
      · exact Or.inr (Or.inr (Or.inl ⟨o1, o2, rfl, [], rfl, by rw [o3]⟩))
      · exact Or.inr (Or.inr (Or.inr (Or.inl ⟨o1, o2, rfl, [], rfl, by rw [o3]⟩)))
theorem typ_not {s H : Nat} {xs : Cd} (X : Typ s xs true H) (hH : 1 ≤ H) : Typ s (xs ++ [(10, 0)]) true H := by
  obtain ⟨d, d0, d1, S⟩ := X
  have D : ∃ D : Nat → List Bool, (∀ j, j ≤ xs.length → D j = d j) ∧ D (xs.length + 1) = [true] := by
    refine ⟨fun k => if k ≤ xs.length then d k else [true], fun j hj => if_pos hj, ?_⟩
    show (if xs.length + 1 ≤ xs.length then _ else [true]) = [true]
    rw [if_neg (by omega)]
  obtain ⟨D, e1, e3⟩ := D
  have len : (xs ++ [((10, 0) : Nat × Nat)]).length = xs.length + 1 := by
    rw [List.length_append]
    rfl
  refine ⟨D, (e1 0 (by omega)).trans d0, by rw [len]; exact e3, fun k hk => ?_⟩
  rw [len] at hk ⊢
  by_cases c1 : k < xs.length
  · have q := opn_l (xs := xs) (ys := [((10, 0) : Nat × Nat)]) c1
    have := st1_in (p := 0) (R := []) (D := D) (xs := xs ++ [(10, 0)]) (e2 := xs.length + 1) (H2 := H) (S k c1) (by rw [Nat.zero_add]; exact q.1) (by rw [Nat.zero_add]; exact q.2) (fun j hj => by rw [Nat.zero_add, List.append_nil]; exact e1 j hj) c1 (by omega) s (by omega) (by show H + 0 ≤ H; omega)
    rw [Nat.zero_add] at this
    exact this
  · have e : k = xs.length := by omega
    subst e
    have q := opn_r (xs := xs) (ys := [((10, 0) : Nat × Nat)]) (k := 0)
    rw [Nat.add_zero] at q
    have a3 := e1 xs.length (Nat.le_refl _)
    rw [d1] at a3
    refine ⟨by rw [a3]; exact hH, ?_⟩
    rw [q.1, q.2, a3, e3]
    exact Or.inr (Or.inr (Or.inr (Or.inr (Or.inl ⟨rfl, rfl, [], rfl, rfl⟩))))
theorem typ_jmp {s o H : Nat} {xs ys : Cd} (X : Typ s xs true H) (Y : Typ (s + xs.length + 1) ys true H) (ho : o = 11 ∨ o = 12) (hH : 1 ≤ H) : Typ s (xs ++ ((o, s + xs.length + 1 + ys.length) :: ys)) true H := by
  obtain ⟨d, d0, d1, S⟩ := X
  obtain ⟨f, f0, f1, T⟩ := Y
  have D : ∃ D : Nat → List Bool, (∀ j, j ≤ xs.length → D j = d j) ∧ (∀ j, j ≤ ys.length → D (xs.length + 1 + j) = f j) := by
    refine ⟨fun k => if k ≤ xs.length then d k else f (k - (xs.length + 1)), fun j hj => if_pos hj, fun j hj => ?_⟩
    show (if xs.length + 1 + j ≤ xs.length then _ else f (xs.length + 1 + j - (xs.length + 1))) = _
    rw [if_neg (by omega), show xs.length + 1 + j - (xs.length + 1) = j by omega]
  obtain ⟨D, e1, e2⟩ := D
  have len : (xs ++ ((o, s + xs.length + 1 + ys.length) :: ys)).length = xs.length + 1 + ys.length := by
    rw [List.length_append, List.length_cons]
    omega
  refine ⟨D, (e1 0 (by omega)).trans d0, by rw [len, e2 _ (Nat.le_refl _)]; exact f1, fun k hk => ?_⟩
  rw [len] at hk ⊢
  by_cases c1 : k < xs.length
  · have q := opn_l (xs := xs) (ys := (o, s + xs.length + 1 + ys.length) :: ys) c1
    have := st1_in (p := 0) (R := []) (D := D) (xs := xs ++ ((o, s + xs.length + 1 + ys.length) :: ys)) (e2 := xs.length + 1 + ys.length) (H2 := H) (S k c1) (by rw [Nat.zero_add]; exact q.1) (by rw [Nat.zero_add]; exact q.2) (fun j hj => by rw [Nat.zero_add, List.append_nil]; exact e1 j hj) c1 (by omega) s (by omega) (by show H + 0 ≤ H; omega)
    rw [Nat.zero_add] at this
    exact this
  · obtain ⟨i, rfl⟩ : ∃ i, k = xs.length + i := ⟨k - xs.length, by omega⟩
    have q := opn_r (xs := xs) (ys := (o, s + xs.length + 1 + ys.length) :: ys) (k := i)
    by_cases c2 : i = 0
    · subst c2
      have q' : opn (xs ++ ((o, s + xs.length + 1 + ys.length) :: ys)) xs.length = o ∧ opv (xs ++ ((o, s + xs.length + 1 + ys.length) :: ys)) xs.length = s + xs.length + 1 + ys.length := q
      show St1 _ s _ H D xs.length
      have a3 := e1 xs.length (Nat.le_refl _)
      rw [d1] at a3
      have a4 := e2 0 (Nat.zero_le _)
      rw [Nat.add_zero, f0] at a4
      have a5 := e2 ys.length (Nat.le_refl _)
      rw [f1] at a5
      refine ⟨by rw [a3]; exact hH, ?_⟩
      rw [q'.1, q'.2, a3, a4]
      exact Or.inr (Or.inr (Or.inr (Or.inr (Or.inr ⟨ho, xs.length + 1 + ys.length, by omega, by omega, by omega, [], rfl, rfl, a5⟩))))
    · obtain ⟨j, rfl⟩ : ∃ j, i = 1 + j := ⟨i - 1, by omega⟩
      have q2 : opn ((o, s + xs.length + 1 + ys.length) :: ys) (1 + j) = opn ys j ∧ opv ((o, s + xs.length + 1 + ys.length) :: ys) (1 + j) = opv ys j := by
        rw [show 1 + j = j + 1 by omega]
        exact ⟨rfl, rfl⟩
      have ea : xs.length + (1 + j) = xs.length + 1 + j := by omega
      rw [ea] at q ⊢
      have := st1_in (p := xs.length + 1) (R := []) (D := D) (xs := xs ++ ((o, s + xs.length + 1 + ys.length) :: ys)) (e2 := xs.length + 1 + ys.length) (H2 := H) (T j (by omega)) (q.1.trans q2.1) (q.2.trans q2.2) (fun j hj => by rw [List.append_nil]; exact e2 j hj) (by omega) (by omega) s (by omega) (by show H + 0 ≤ H; omega)
      exact this
