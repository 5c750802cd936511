set_option maxRecDepth 100000 in
theorem chK7_a : chAll chK7 = true := by decide +kernel
/-- the first row -/
theorem ch_0 : ∀ n, n < 7 → ∀ i, i < n → chD n 0 i = i := by decide +kernel
theorem ch_m : ∀ m : Nat, m < 32 → ((iI (m : Int) &&& iI (m : Int) >>> (iI 1 &&& iI 31) = iI 0) ↔ chV m = true) := by decide +kernel
theorem ch_b : ∀ m : Nat, m < 32 → ∀ i : Nat, i < 8 → iI (m : Int) >>> (iI (i : Int) &&& iI 31) &&& iI 1 = iI ((m / 2 ^ i % 2 : Nat) : Int) := by decide +kernel
theorem ch_v0 : ∀ m, m < 32 → chV m = false ∨ chQ 5 (fun i => Nat.beq (m / 2 ^ i % 2) 0 || Nat.beq (m / 2 ^ (i + 1) % 2) 0) = true := by decide +kernel
theorem ch_v (m : Nat) (hm : m < 32) (v : chV m = true) (i : Nat) (hi : i < 5) : m / 2 ^ i % 2 = 0 ∨ m / 2 ^ (i + 1) % 2 = 0 := by
  rcases ch_v0 m hm with a | a
  · rw [v] at a
    exact absurd a (by decide)
  · have b := chQ_s a i hi
    have b' : (Nat.beq (m / 2 ^ i % 2) 0 || Nat.beq (m / 2 ^ (i + 1) % 2) 0) = true := b
    rw [Bool.or_eq_true] at b'
    exact b'.imp Nat.eq_of_beq_eq_true Nat.eq_of_beq_eq_true
theorem ch_T0 : ∀ n : Nat, n < 7 → n < 2 ∨ (iI 1 <<< (iI ((n : Int) - 1) &&& iI 31) = iI ((2 ^ (n - 1) : Nat) : Int) ∧ 2 ^ (n - 1) ≤ 32 ∧ 2 ≤ 2 ^ (n - 1) ∧ chF n ≤ 720 ∧ 0 < chF n) := by decide +kernel
theorem ch_T (n : Nat) (h : n < 7) (h2 : 2 ≤ n) : iI 1 <<< (iI ((n : Int) - 1) &&& iI 31) = iI ((2 ^ (n - 1) : Nat) : Int) ∧ 2 ^ (n - 1) ≤ 32 ∧ 2 ≤ 2 ^ (n - 1) ∧ chF n ≤ 720 ∧ 0 < chF n := (ch_T0 n h).resolve_left (by omega)
theorem ch_p : ∀ i, i < 5 → chV (2 ^ i) = true ∧ 1 ≤ 2 ^ i ∧ 2 ^ i < 32 ∧ chQ 5 (fun j => Nat.beq (2 ^ i / 2 ^ j % 2) (if j = i then 1 else 0)) = true := by decide +kernel
theorem ch_p2 (n : Nat) (_ : n < 7) (_ : 2 ≤ n) (i : Nat) (hi : i < n - 1) : 2 ^ i < 2 ^ (n - 1) := Nat.pow_lt_pow_right (by decide) hi
theorem ch_u0 : ∀ n, n < 7 → ∀ m, m < 32 → 2 ^ (n - 1) ≤ m ∨ chQ n (fun x => Nat.blt (chM m x) n) = true := by decide +kernel
theorem ch_u (n : Nat) (h : n < 7) (m : Nat) (hm : m < 32) (hm2 : m < 2 ^ (n - 1)) (x : Nat) (hx : x < n) : chM m x < n := by
  have a := (ch_u0 n h m hm).resolve_left (by omega)
  exact Nat.blt_eq.mp (chQ_s a x hx)
