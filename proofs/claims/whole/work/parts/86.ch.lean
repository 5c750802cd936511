/-! rows of bells: the k-th of all orders of n, its codes, what one change makes of it -/
def chF : Nat → Nat
  | 0 => 1
  | n + 1 => (n + 1) * chF n
/-- 0 .. n - 1, to the base 8 -/
def chI : Nat → Nat
  | 0 => 0
  | n + 1 => chI n + n * 8 ^ n
/-- the k-th order of the f numbers of a, to the base 8 -/
def chU : Nat → Nat → Nat → Nat
  | 0, _, _ => 0
  | f + 1, a, k => a / 8 ^ (k / chF f) % 8 + 8 * chU f (a % 8 ^ (k / chF f) + a / 8 ^ (k / chF f) / 8 * 8 ^ (k / chF f)) (k % chF f)
def ch8 (n k : Nat) : Nat := chU n (chI n) k
/-- its number at place i -/
def chD (n k i : Nat) : Nat := ch8 n k / 8 ^ i % 8
/-- codes: the first i numbers to the base b -/
def chS (b n k : Nat) : Nat → Nat
  | 0 => 0
  | i + 1 => chS b n k i + b ^ i * chD n k i
def ch6 (n k : Nat) : Nat := chS 6 n k n
/-- how many of the numbers at j, .. are less than that at i; the place of a row among all -/
def chN (d : Nat → Nat) (i : Nat) : Nat → Nat → Nat
  | _, 0 => 0
  | j, q + 1 => (if d j < d i then 1 else 0) + chN d i (j + 1) q
def chR (d : Nat → Nat) : Nat → Nat → Nat → Nat
  | _, p, 0 => p
  | i, p, q + 1 => chR d (i + 1) (p * (q + 1) + chN d i (i + 1) q) q
def chT (n b c : Nat) : Nat := chR (fun i => c / b ^ i % b) 0 0 n
/-- i and the one behind it exchanged, in a code to the base 8 -/
def chX (v i : Nat) : Nat := Nat.xor v (Nat.lor (Nat.xor (v / 8 ^ i) (v / 8 ^ (i + 1)) % 8 * 8 ^ i) (Nat.xor (v / 8 ^ i) (v / 8 ^ (i + 1)) % 8 * 8 ^ (i + 1)))
def chA (n k i : Nat) : Nat := chT n 8 (chX (ch8 n k) i)
def chJ (i j : Nat) : Nat := if j = i then i + 1 else if j = i + 1 then i else j
/-- the pairs of m exchanged, from i on -/
def chB (n m : Nat) : Nat → Nat → Nat → Nat
  | _, k, 0 => k
  | i, k, q + 1 => chB n m (i + 1) (if m / 2 ^ i % 2 = 0 then k else chA n k i) q
def chG (n k m : Nat) : Nat := chB n m 0 k (n - 1)
/-- no two pairs meet -/
def chV (m : Nat) : Bool := Nat.beq (Nat.land m (m / 2)) 0
/-- the place that m brings to place x; from i on alone -/
def chM (m x : Nat) : Nat := if m / 2 ^ x % 2 = 0 then (if x = 0 then x else if m / 2 ^ (x - 1) % 2 = 0 then x else x - 1) else x + 1
def chMi (m i x : Nat) : Nat := if x < i then x else if m / 2 ^ x % 2 = 0 then (if x ≤ i then x else if m / 2 ^ (x - 1) % 2 = 0 then x else x - 1) else x + 1
/-- the code to the base 6 of what m makes of a row, from x on -/
def chZ (n k m : Nat) : Nat → Nat → Nat
  | _, 0 => 0
  | x, q + 1 => 6 ^ x * chD n k (chM m x) + chZ n k m (x + 1) q
/-- all of 0 .. n - 1 -/
def chQ : Nat → (Nat → Bool) → Bool
  | 0, _ => true
  | n + 1, p => p n && chQ n p
theorem chQ_s {p : Nat → Bool} : ∀ {n : Nat}, chQ n p = true → ∀ i, i < n → p i = true
  | 0, _, i, hi => absurd hi (Nat.not_lt_zero _)
  | n + 1, e, i, hi => by
    have e' : (p n && chQ n p) = true := e
    rw [Bool.and_eq_true] at e'
    by_cases c : i = n
    · rw [c]; exact e'.1
    · exact chQ_s e'.2 i (by omega)
/-- what is to be seen of the k-th row of n -/
def chK2 (n k : Nat) : Bool := chQ (n - 1) (fun i => Nat.blt (chA n k i) (chF n) && Nat.beq (ch8 n (chA n k i)) (chX (ch8 n k) i) && chQ n (fun j => Nat.beq (chX (ch8 n k) i / 8 ^ j % 8) (chD n k (chJ i j))))
def chK3 (n k : Nat) : Bool := Nat.beq (chR (chD n k) 0 0 n) k && Nat.blt (ch6 n k) 46656 && Nat.blt (ch8 n k) 262144 && Nat.beq (chS 8 n k n) (ch8 n k)
def chK4 (n k : Nat) : Bool := Nat.beq (chT n 6 (ch6 n k)) k
def chK5 (n k : Nat) : Bool := chQ n (fun i => Nat.beq (ch6 n k / 6 ^ i % 6) (chD n k i) && Nat.blt (chD n k i) 6 && Nat.beq (Nat.lor (chS 8 n k i) (chD n k i * 8 ^ i)) (chS 8 n k (i + 1)))
def chK7 (n k : Nat) : Bool := Nat.beq k 0 || !(chQ (n - 1) (fun i => !(Nat.blt (chD n k (i + 1)) (chD n k i) && Nat.blt (chA n k i) k && Nat.beq (chA n (chA n k i) i) k)))
def chAll (p : Nat → Nat → Bool) : Bool := chQ 7 (fun n => Nat.blt n 2 || chQ (chF n) (p n))
theorem chAll_s {p : Nat → Nat → Bool} (e : chAll p = true) {n k : Nat} (hn : 2 ≤ n ∧ n ≤ 6) (hk : k < chF n) : p n k = true := by
  have a := chQ_s e n (by omega)
  have a' : (Nat.blt n 2 || chQ (chF n) (p n)) = true := a
  rw [Bool.or_eq_true] at a'
  rcases a' with b | b
  · have := Nat.blt_eq.mp b
    omega
  · exact chQ_s b k hk
set_option maxRecDepth 100000 in
theorem chK3_a : chAll chK3 = true := by decide +kernel
set_option maxRecDepth 100000 in
theorem chK4_a : chAll chK4 = true := by decide +kernel
set_option maxRecDepth 100000 in
theorem chK5_a : chAll chK5 = true := by decide +kernel
