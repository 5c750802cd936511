section lw18
variable {F : Nat} {sw : Bool} {n : Int} {t : Nat → Int} {h : Hp}
theorem typ_code {L : Lw} {s H : Nat} {ys : Cd} {z : Bool} (T : Typ s ys z H) (hH : H ≤ 23) (e : ∀ i, i < ys.length → lwO L (s + i) = opn ys i ∧ lwV L (s + i) = opv ys i) : Code1 L s (s + ys.length) z := by
  obtain ⟨d, d0, d1, S⟩ := T
  refine ⟨fun k => d (k - s), ?_, ?_, fun k hk he => ?_⟩
  · show d (s - s) = []
    rw [Nat.sub_self]
    exact d0
  · show d (s + ys.length - s) = [z]
    rw [Nat.add_sub_cancel_left]
    exact d1
  · obtain ⟨i, rfl⟩ : ∃ i, k = s + i := ⟨k - s, by omega⟩
    obtain ⟨a, c⟩ := S i (by omega)
    obtain ⟨e1, e2⟩ := e i (by omega)
    have x1 : s + i - s = i := by omega
    have x2 : s + i + 1 - s = i + 1 := by omega
    show (d (s + i - s)).length ≤ 23 ∧ _
    rw [x1]
    refine ⟨by omega, ?_⟩
    show (lwO L (s + i) = 0 ∧ d (s + i + 1 - s) = false :: d (s + i - s) ∧ lwV L (s + i) < 100000) ∨ (lwO L (s + i) = 1 ∧ d (s + i + 1 - s) = false :: d (s + i - s) ∧ lwV L (s + i) < 9) ∨
     (2 ≤ lwO L (s + i) ∧ lwO L (s + i) ≤ 6 ∧ lwV L (s + i) = 0 ∧ ∃ r, d (s + i - s) = false :: false :: r ∧ d (s + i + 1 - s) = false :: r) ∨
     (7 ≤ lwO L (s + i) ∧ lwO L (s + i) ≤ 9 ∧ lwV L (s + i) = 0 ∧ ∃ r, d (s + i - s) = false :: false :: r ∧ d (s + i + 1 - s) = true :: r) ∨
     (lwO L (s + i) = 10 ∧ lwV L (s + i) = 0 ∧ ∃ r, d (s + i - s) = true :: r ∧ d (s + i + 1 - s) = true :: r) ∨
     ((lwO L (s + i) = 11 ∨ lwO L (s + i) = 12) ∧ s + i < lwV L (s + i) ∧ lwV L (s + i) ≤ s + ys.length ∧ ∃ r, d (s + i - s) = true :: r ∧ d (s + i + 1 - s) = r ∧ d (lwV L (s + i) - s) = true :: r)
    rw [x1, x2, e1, e2]
    rcases c with c | c | c | c | c | ⟨c1, j, c2, c3, c4, r, c5, c6, c7⟩
    · exact Or.inl c
    · exact Or.inr (Or.inl c)
    · exact Or.inr (Or.inr (Or.inl c))
    · exact Or.inr (Or.inr (Or.inr (Or.inl c)))
    · exact Or.inr (Or.inr (Or.inr (Or.inr (Or.inl c))))
    · refine Or.inr (Or.inr (Or.inr (Or.inr (Or.inr ⟨c1, by omega, by omega, r, c5, c6, ?_⟩))))
      rw [c2, Nat.add_sub_cancel_left]
      exact c7
theorem cm_at {a : Nat} : ∀ {k : Nat} {xs : Cd}, CM a k xs h → ∀ i, i < xs.length → h.1 (a + 5) (k + i) = iI (sgn (opn xs i)) ∧ h.1 (a + 6) (k + i) = iI (opv xs i)
  | k, [], _, i, hi => absurd hi (Nat.not_lt_zero _)
  | k, x :: xs, c, 0, _ => c.1
  | k, x :: xs, c, i + 1, hi => by
    rw [List.length_cons] at hi
    have := cm_at c.2 i (by omega)
    rw [show k + 1 + i = k + (i + 1) by omega] at this
    exact this
theorem rm_at : ∀ {k : Nat} {xs : Cd}, RM k xs h → ∀ i, i < xs.length → h.1 56 (k + i) = iI (1048576 * opn xs i + opv xs i)
  | k, [], _, i, hi => absurd hi (Nat.not_lt_zero _)
  | k, x :: xs, c, 0, _ => c.1
  | k, x :: xs, c, i + 1, hi => by
    rw [List.length_cons] at hi
    have := rm_at c.2 i (by omega)
    rw [show k + 1 + i = k + (i + 1) by omega] at this
    exact this
end lw18
