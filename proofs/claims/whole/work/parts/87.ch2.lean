section ch2
variable {F : Nat} {h : Hp} {n k : Nat}
/-- numbers and their bits -/
theorem n_or (a b : Nat) : iI (a : Int) ||| iI (b : Int) = iI ((Nat.lor a b : Nat) : Int) := b_ext (fun i hi => by
  rw [b_or, bt_nat hi, bt_nat hi, bt_nat hi]
  exact (Nat.testBit_or a b i).symm)
theorem n_xor (a b : Nat) : iI (a : Int) ^^^ iI (b : Int) = iI ((Nat.xor a b : Nat) : Int) := b_ext (fun i hi => by
  rw [b_xor, bt_nat hi, bt_nat hi, bt_nat hi]
  exact (Nat.testBit_xor a b i).symm)
theorem n_and7 (a : Nat) : iI (a : Int) &&& iI 7 = iI ((a % 8 : Nat) : Int) := b_ext (fun i hi => by
  rw [b_and, bt_nat hi, show iI 7 = iI ((7 : Nat) : Int) from rfl, bt_nat hi, bt_nat hi, show (8 : Nat) = 2 ^ 3 from rfl, Nat.testBit_mod_two_pow, show (7 : Nat) = 2 ^ 3 - 1 from rfl, Nat.testBit_two_pow_sub_one, Bool.and_comm])
theorem n_shr {v c : Nat} (hv : v < 2 ^ 30) (hc : c < 32) : iI (v : Int) >>> (iI (c : Int) &&& iI 31) = iI ((v / 2 ^ c : Nat) : Int) := b_ext (fun i hi => by
  rw [show iI (c : Int) = nI c from (ofN_iI c).symm, show iI 31 = 31 from rfl, b_sshr c hc _ hi, bt_nat hi, Nat.testBit_div_two_pow]
  split
  · rw [bt_nat (by omega), Nat.add_comm]
  · rw [bt_nat (by decide), Nat.testBit_lt_two_pow (Nat.lt_of_lt_of_le hv (Nat.pow_le_pow_right (by decide) (by decide : 30 ≤ 31))), Nat.testBit_lt_two_pow (Nat.lt_of_lt_of_le hv (Nat.pow_le_pow_right (by decide) (by omega)))])
theorem n_shl {y c : Nat} (hc : c < 32) : iI (y : Int) <<< (iI (c : Int) &&& iI 31) = iI ((y * 2 ^ c : Nat) : Int) := b_ext (fun i hi => by
  rw [show iI (c : Int) = nI c from (ofN_iI c).symm, show iI 31 = 31 from rfl, b_shl c hc _ hi, bt_nat hi, Nat.testBit_mul_two_pow, bt_nat (by omega)])
theorem p_8 (i : Nat) : 2 ^ (3 * i) = 8 ^ i := Nat.pow_mul ..
theorem n_shr8 {v i : Nat} (hv : v < 2 ^ 30) (hi : i < 8) : iI (v : Int) >>> (iI (3 * (i : Int)) &&& iI 31) = iI ((v / 8 ^ i : Nat) : Int) := by
  have a := n_shr (c := 3 * i) hv (by omega)
  rw [p_8, show ((3 * i : Nat) : Int) = 3 * (i : Int) by omega] at a
  exact a
theorem n_shl8 {y i : Nat} (hi : i < 8) : iI (y : Int) <<< (iI (3 * (i : Int)) &&& iI 31) = iI ((y * 8 ^ i : Nat) : Int) := by
  have a := n_shl (y := y) (c := 3 * i) (by omega)
  rw [p_8, show ((3 * i : Nat) : Int) = 3 * (i : Int) by omega] at a
  exact a
theorem chX_s {v i : Nat} (hv : v < 262144) (hi : i < 6) : iI (v : Int) ^^^ (((iI (v : Int) >>> (iI (3 * (i : Int)) &&& iI 31) ^^^ iI (v : Int) >>> (iI (3 * (i : Int) + 3) &&& iI 31)) &&& iI 7) <<< (iI (3 * (i : Int)) &&& iI 31) ||| ((iI (v : Int) >>> (iI (3 * (i : Int)) &&& iI 31) ^^^ iI (v : Int) >>> (iI (3 * (i : Int) + 3) &&& iI 31)) &&& iI 7) <<< (iI (3 * (i : Int) + 3) &&& iI 31)) = iI (chX v i : Int) := by
  have hv2 : v < 2 ^ 30 := by omega
  rw [show 3 * (i : Int) + 3 = 3 * ((i + 1 : Nat) : Int) by omega, n_shr8 hv2 (by omega), n_shr8 hv2 (by omega), n_xor, n_and7, n_shl8 (by omega), n_shl8 (by omega), n_or, n_xor]
  rfl
theorem ch_3 (hn : 2 ≤ n ∧ n ≤ 6) (hk : k < chF n) : chR (chD n k) 0 0 n = k ∧ ch6 n k < 46656 ∧ ch8 n k < 262144 ∧ chS 8 n k n = ch8 n k := by
  have a : (Nat.beq (chR (chD n k) 0 0 n) k && Nat.blt (ch6 n k) 46656 && Nat.blt (ch8 n k) 262144 && Nat.beq (chS 8 n k n) (ch8 n k)) = true := chAll_s chK3_a hn hk
  rw [Bool.and_eq_true, Bool.and_eq_true, Bool.and_eq_true] at a
  exact ⟨Nat.eq_of_beq_eq_true a.1.1.1, Nat.blt_eq.mp a.1.1.2, Nat.blt_eq.mp a.1.2, Nat.eq_of_beq_eq_true a.2⟩
theorem ch_1 (hn : 2 ≤ n ∧ n ≤ 6) (hk : k < chF n) {i : Nat} (hi : i < n) : iI (ch8 n k : Int) >>> (iI (3 * (i : Int)) &&& iI 31) &&& iI 7 = iI (chD n k i : Int) := by
  have b := (ch_3 hn hk).2.2.1
  have b2 : ch8 n k < 2 ^ 30 := by omega
  rw [n_shr8 b2 (by omega), n_and7]
  rfl
theorem ch_2 (hn : 2 ≤ n ∧ n ≤ 6) (hk : k < chF n) {i : Nat} (hi : i + 1 < n) : chX (ch8 n k) i = ch8 n (chA n k i) ∧ chA n k i < chF n ∧ ∀ j, j < n → chD n (chA n k i) j = chD n k (chJ i j) := by
  have a := chQ_s (chAll_s chK2_a hn hk) i (by omega)
  have a' : (Nat.blt (chA n k i) (chF n) && Nat.beq (ch8 n (chA n k i)) (chX (ch8 n k) i) && chQ n (fun j => Nat.beq (chX (ch8 n k) i / 8 ^ j % 8) (chD n k (chJ i j)))) = true := a
  rw [Bool.and_eq_true, Bool.and_eq_true] at a'
  have e := Nat.eq_of_beq_eq_true a'.1.2
  refine ⟨e.symm, Nat.blt_eq.mp a'.1.1, fun j hj => ?_⟩
  have r := Nat.eq_of_beq_eq_true (chQ_s a'.2 j hj)
  rw [← e] at r
  exact r
theorem ch_4 (hn : 2 ≤ n ∧ n ≤ 6) (hk : k < chF n) : chT n 6 (ch6 n k) = k := Nat.eq_of_beq_eq_true (chAll_s chK4_a hn hk)
theorem ch6_i (hn : 2 ≤ n ∧ n ≤ 6) {k2 : Nat} (hk : k < chF n) (hk2 : k2 < chF n) (e : ch6 n k = ch6 n k2) : k = k2 := by
  rw [← ch_4 hn hk, ← ch_4 hn hk2, e]
theorem ch_5 (hn : 2 ≤ n ∧ n ≤ 6) (hk : k < chF n) {i : Nat} (hi : i < n) : ch6 n k / 6 ^ i % 6 = chD n k i ∧ chD n k i < 6 ∧ Nat.lor (chS 8 n k i) (chD n k i * 8 ^ i) = chS 8 n k (i + 1) := by
  have a := chQ_s (chAll_s chK5_a hn hk) i hi
  have a' : (Nat.beq (ch6 n k / 6 ^ i % 6) (chD n k i) && Nat.blt (chD n k i) 6 && Nat.beq (Nat.lor (chS 8 n k i) (chD n k i * 8 ^ i)) (chS 8 n k (i + 1))) = true := a
  rw [Bool.and_eq_true, Bool.and_eq_true] at a'
  exact ⟨Nat.eq_of_beq_eq_true a'.1.1, Nat.blt_eq.mp a'.1.2, Nat.eq_of_beq_eq_true a'.2⟩
theorem ch_8 (hn : 2 ≤ n ∧ n ≤ 6) (hk : k < chF n) {i : Nat} (hi : i < n) : iI (chS 8 n k i : Int) ||| (iI (chD n k i : Int) <<< (iI (3 * (i : Int)) &&& iI 31)) = iI (chS 8 n k (i + 1) : Int) := by
  rw [n_shl8 (by omega), n_or, (ch_5 hn hk hi).2.2]
theorem chB_lt (hn : 2 ≤ n ∧ n ≤ 6) {m : Nat} : ∀ (q i k : Nat), i + q = n - 1 → k < chF n → chB n m i k q < chF n
  | 0, i, k, _, hk => hk
  | q + 1, i, k, hi, hk => by
    show chB n m (i + 1) (if m / 2 ^ i % 2 = 0 then k else chA n k i) q < chF n
    split
    · exact chB_lt hn q (i + 1) k (by omega) hk
    · exact chB_lt hn q (i + 1) (chA n k i) (by omega) (ch_2 hn hk (by omega)).2.1
theorem chG_lt (hn : 2 ≤ n ∧ n ≤ 6) {m : Nat} (hk : k < chF n) : chG n k m < chF n := chB_lt hn (n - 1) 0 k (by omega) hk
/-- the numbers of what a change makes -/
theorem chB_d (hn : 2 ≤ n ∧ n ≤ 6) {m : Nat} (hm : m < 32) (hm2 : m < 2 ^ (n - 1)) (v : chV m = true) : ∀ (q i k : Nat), i + q = n - 1 → k < chF n → ∀ j, j < n → chD n (chB n m i k q) j = chD n k (chMi m i j) ∧ chMi m i j < n
  | 0, i, k, hi, hk, j, hj => by
    show chD n k j = chD n k (chMi m i j) ∧ chMi m i j < n
    have bi : m / 2 ^ i % 2 = 0 := by
      have e : i = n - 1 := by omega
      have z := Nat.div_eq_of_lt hm2
      rw [← e] at z
      omega
    have e : chMi m i j = j := by
      unfold chMi
      by_cases c : j < i
      · rw [if_pos c]
      · have ji : j = i := by omega
        rw [if_neg c, ji, if_pos bi, if_pos (Nat.le_refl _)]
    rw [e]
    exact ⟨rfl, hj⟩
  | q + 1, i, k, hi, hk, j, hj => by
    have eB : chB n m i k (q + 1) = chB n m (i + 1) (if m / 2 ^ i % 2 = 0 then k else chA n k i) q := rfl
    rw [eB]
    have b2 : m / 2 ^ i % 2 = 0 ∨ m / 2 ^ i % 2 = 1 := by omega
    rcases b2 with c | c
    · rw [if_pos c]
      have IH := chB_d hn hm hm2 v q (i + 1) k (by omega) hk j hj
      have e : chMi m (i + 1) j = chMi m i j := by
        unfold chMi
        by_cases d : j < i
        · rw [if_pos d, if_pos (by omega)]
        · by_cases d1 : j = i
          · subst d1
            rw [if_neg d, if_pos (by omega), if_pos c, if_pos (Nat.le_refl _)]
          · rw [if_neg d, if_neg (by omega)]
            by_cases d2 : j = i + 1
            · have di : j - 1 = i := by omega
              rw [if_pos (show j ≤ i + 1 by omega), if_neg (show ¬ j ≤ i by omega), di, if_pos c]
            · rw [if_neg (show ¬ j ≤ i + 1 by omega), if_neg (show ¬ j ≤ i by omega)]
      rw [e] at IH
      exact IH
    · rw [if_neg (by omega)]
      obtain ⟨a1, a2, a3⟩ := ch_2 hn hk (show i + 1 < n by omega)
      have IH := chB_d hn hm hm2 v q (i + 1) (chA n k i) (by omega) a2 j hj
      have c1 : m / 2 ^ (i + 1) % 2 = 0 := (ch_v m hm v i (by omega)).resolve_left (by omega)
      rw [a3 _ IH.2] at IH
      have e : chJ i (chMi m (i + 1) j) = chMi m i j := by
        unfold chMi
        by_cases d : j < i
        · rw [if_pos d, if_pos (by omega)]
          unfold chJ
          rw [if_neg (by omega), if_neg (by omega)]
        · by_cases d1 : j = i
          · subst d1
            rw [if_neg d, if_pos (by omega), if_neg (show ¬ m / 2 ^ j % 2 = 0 by omega)]
            unfold chJ
            rw [if_pos rfl]
          · rw [if_neg d, if_neg (show ¬ j < i + 1 by omega)]
            by_cases d2 : j = i + 1
            · have di : j - 1 = i := by omega
              rw [if_pos (show j ≤ i + 1 by omega), if_neg (show ¬ j ≤ i by omega), di, if_neg (show ¬ m / 2 ^ i % 2 = 0 by omega), d2, if_pos c1, if_pos c1]
              unfold chJ
              rw [if_neg (by omega), if_pos rfl]
            · rw [if_neg (show ¬ j ≤ i + 1 by omega), if_neg (show ¬ j ≤ i by omega)]
              have g : ∀ X, X ≠ i → X ≠ i + 1 → chJ i X = X := fun X a b => by
                unfold chJ
                rw [if_neg a, if_neg b]
              apply g
              · intro r
                by_cases d3 : m / 2 ^ j % 2 = 0
                · rw [if_pos d3] at r
                  by_cases d4 : m / 2 ^ (j - 1) % 2 = 0
                  · rw [if_pos d4] at r
                    omega
                  · rw [if_neg d4] at r
                    omega
                · rw [if_neg d3] at r
                  omega
              · intro r
                by_cases d3 : m / 2 ^ j % 2 = 0
                · rw [if_pos d3] at r
                  by_cases d4 : m / 2 ^ (j - 1) % 2 = 0
                  · rw [if_pos d4] at r
                    omega
                  · rw [if_neg d4] at r
                    rw [r] at d4
                    exact d4 c1
                · rw [if_neg d3] at r
                  omega
      have lt : chMi m i j < n := by
        rw [← e]
        have := IH.2
        unfold chJ
        split
        · omega
        · split <;> omega
      rw [e] at IH
      exact ⟨IH.1, lt⟩
theorem chG_d (hn : 2 ≤ n ∧ n ≤ 6) {m : Nat} (hm : m < 32) (hm2 : m < 2 ^ (n - 1)) (v : chV m = true) (hk : k < chF n) {j : Nat} (hj : j < n) : chD n (chG n k m) j = chD n k (chM m j) := by
  have a := (chB_d hn hm hm2 v (n - 1) 0 k (by omega) hk j hj).1
  have e : chMi m 0 j = chM m j := by
    unfold chMi chM
    rw [if_neg (Nat.not_lt_zero _)]
    by_cases c : j = 0
    · rw [if_pos (show j ≤ 0 by omega), if_pos c]
    · rw [if_neg (show ¬ j ≤ 0 by omega), if_neg c]
  rw [e] at a
  exact a
theorem ch_6 (hn : 2 ≤ n ∧ n ≤ 6) (hk : k < chF n) {m : Nat} (hm : m < 32) (hm2 : m < 2 ^ (n - 1)) (v : chV m = true) : chZ n k m 0 n = ch6 n (chG n k m) := by
  have g : ∀ (q x : Nat), x + q = n → chS 6 n (chG n k m) x + chZ n k m x q = chS 6 n (chG n k m) n := by
    intro q
    induction q with
    | zero =>
      intro x hx
      have e : x = n := by omega
      rw [e]
      rfl
    | succ q ih =>
      intro x hx
      have r := ih (x + 1) (by omega)
      have e : chZ n k m x (q + 1) = 6 ^ x * chD n (chG n k m) x + chZ n k m (x + 1) q := by
        rw [chG_d hn hm hm2 v hk (show x < n by omega)]
        rfl
      rw [e, ← Nat.add_assoc]
      exact r
  have r := g n 0 (by omega)
  exact (Nat.zero_add _).symm.trans r
theorem chG_2 (hn : 2 ≤ n ∧ n ≤ 6) {i : Nat} (hi : i < n - 1) : chG n k (2 ^ i) = chA n k i := by
  have p := (ch_p i (by omega)).2.2.2
  have b : ∀ j, j < 5 → 2 ^ i / 2 ^ j % 2 = if j = i then 1 else 0 := fun j hj => Nat.eq_of_beq_eq_true (chQ_s p j hj)
  have g : ∀ (q j : Nat), j + q = n - 1 → i < j → chB n (2 ^ i) j (chA n k i) q = chA n k i := by
    intro q
    induction q with
    | zero => intro j _ _; rfl
    | succ q ih =>
      intro j hj hl
      have e : chB n (2 ^ i) j (chA n k i) (q + 1) = chB n (2 ^ i) (j + 1) (if 2 ^ i / 2 ^ j % 2 = 0 then chA n k i else chA n (chA n k i) j) q := rfl
      have bj := b j (by omega)
      rw [if_neg (by omega)] at bj
      rw [e, if_pos bj]
      exact ih (j + 1) (by omega) (by omega)
  have g2 : ∀ (q j : Nat), j + q = n - 1 → j ≤ i → chB n (2 ^ i) j k q = chA n k i := by
    intro q
    induction q with
    | zero => intro j a c; omega
    | succ q ih =>
      intro j hj hl
      have e : chB n (2 ^ i) j k (q + 1) = chB n (2 ^ i) (j + 1) (if 2 ^ i / 2 ^ j % 2 = 0 then k else chA n k j) q := rfl
      have bj := b j (by omega)
      by_cases c : j = i
      · rw [if_pos c] at bj
        rw [e, if_neg (by omega), c]
        exact g q (i + 1) (by omega) (by omega)
      · rw [if_neg c] at bj
        rw [e, if_pos bj]
        exact ih (j + 1) (by omega) (by omega)
  exact g2 (n - 1) 0 (by omega) (Nat.zero_le _)
theorem chQ_n {p : Nat → Bool} : ∀ {n : Nat}, ¬ chQ n (fun i => !(p i)) = true → ∃ i, i < n ∧ p i = true
  | 0, e => absurd rfl e
  | n + 1, e => by
    have e' : ¬ (!(p n) && chQ n (fun i => !(p i))) = true := e
    by_cases c : p n = true
    · exact ⟨n, by omega, c⟩
    · have c' : p n = false := by simpa using c
      rw [c'] at e'
      obtain ⟨i, a, b⟩ := chQ_n (p := p) (n := n) (fun q => e' q)
      exact ⟨i, by omega, b⟩
theorem ch_7 (hn : 2 ≤ n ∧ n ≤ 6) (hk : k < chF n) (h0 : k ≠ 0) : ∃ i, i < n - 1 ∧ chG n k (2 ^ i) < k ∧ chG n (chG n k (2 ^ i)) (2 ^ i) = k := by
  have a : (Nat.beq k 0 || !(chQ (n - 1) (fun i => !(Nat.blt (chD n k (i + 1)) (chD n k i) && Nat.blt (chA n k i) k && Nat.beq (chA n (chA n k i) i) k)))) = true := chAll_s chK7_a hn hk
  rw [Bool.or_eq_true] at a
  rcases a with a | a
  · exact absurd (Nat.eq_of_beq_eq_true a) h0
  · have a2 : ¬ chQ (n - 1) (fun i => !(Nat.blt (chD n k (i + 1)) (chD n k i) && Nat.blt (chA n k i) k && Nat.beq (chA n (chA n k i) i) k)) = true := fun q => by
      rw [q] at a
      exact absurd a (by decide)
    obtain ⟨i, b1, b2⟩ := chQ_n (p := fun i => Nat.blt (chD n k (i + 1)) (chD n k i) && Nat.blt (chA n k i) k && Nat.beq (chA n (chA n k i) i) k) a2
    have b2' : (Nat.blt (chD n k (i + 1)) (chD n k i) && Nat.blt (chA n k i) k && Nat.beq (chA n (chA n k i) i) k) = true := b2
    rw [Bool.and_eq_true, Bool.and_eq_true] at b2'
    refine ⟨i, b1, ?_⟩
    rw [chG_2 hn b1, chG_2 hn b1]
    exact ⟨Nat.blt_eq.mp b2'.1.2, Nat.eq_of_beq_eq_true b2'.2⟩
end ch2
