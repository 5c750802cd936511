section even
variable {F : Nat} {sw : Bool} {tl : Int} {t : Nat → Int} {M : Nat → Nat} {st N K : Nat → Int} {kb : Bool} {tm : Int} {L : Lw} {h : Hp}
/-- the sum of what is chosen of q, from the i-th on; how many -/
def sF (t : Nat → Int) (g : Nat → Bool) : Nat → Nat → Int
  | _, 0 => 0
  | i, q + 1 => (if g i then t i else 0) + sF t g (i + 1) q
def cF (g : Nat → Bool) : Nat → Nat → Int
  | _, 0 => 0
  | i, q + 1 => (if g i then 1 else 0) + cF g (i + 1) q
theorem sF_s {t : Nat → Int} {g : Nat → Bool} {i q : Nat} : sF t g i (q + 1) = (if g i then t i else 0) + sF t g (i + 1) q := rfl
theorem cF_s {g : Nat → Bool} {i q : Nat} : cF g i (q + 1) = (if g i then 1 else 0) + cF g (i + 1) q := rfl
theorem sF_cg {g g' : Nat → Bool} : ∀ (q i : Nat), (∀ k, i ≤ k → k < i + q → g k = g' k) → sF t g i q = sF t g' i q
  | 0, i, _ => rfl
  | q + 1, i, e => by
    rw [sF_s, sF_s, e i (by omega) (by omega), sF_cg q (i + 1) (fun k a b => e k (by omega) (by omega))]
theorem cF_cg {g g' : Nat → Bool} : ∀ (q i : Nat), (∀ k, i ≤ k → k < i + q → g k = g' k) → cF g i q = cF g' i q
  | 0, i, _ => rfl
  | q + 1, i, e => by
    rw [cF_s, cF_s, e i (by omega) (by omega), cF_cg q (i + 1) (fun k a b => e k (by omega) (by omega))]
theorem cF_b {g : Nat → Bool} : ∀ (q i : Nat), 0 ≤ cF g i q ∧ cF g i q ≤ q
  | 0, i => by unfold cF; omega
  | q + 1, i => by
    have := cF_b (g := g) q (i + 1)
    unfold cF
    split <;> omega
theorem cF_0 {g : Nat → Bool} : ∀ (q i : Nat), (∀ k, i ≤ k → g k = false) → cF g i q = 0
  | 0, i, _ => rfl
  | q + 1, i, e => by
    rw [cF_s, e i (by omega), cF_0 q (i + 1) (fun k a => e k (by omega))]
    simp
theorem cF_add {g : Nat → Bool} : ∀ (q p i : Nat), cF g i (q + p) = cF g i q + cF g (i + q) p
  | 0, p, i => by simp [cF]
  | q + 1, p, i => by
    have := cF_add (g := g) q p (i + 1)
    rw [show q + 1 + p = (q + p) + 1 by omega]
    rw [cF_s, cF_s, this, show i + 1 + q = i + (q + 1) by omega]
    omega
theorem sF_b (ht : ∀ j, 0 ≤ t j ∧ t j ≤ 255) {g : Nat → Bool} : ∀ (q i : Nat), 0 ≤ sF t g i q ∧ sF t g i q ≤ 255 * q
  | 0, i => by unfold sF; omega
  | q + 1, i => by
    have := sF_b ht (g := g) q (i + 1)
    have := ht i
    unfold sF
    split <;> omega
theorem pc_cF (x : Nat) : ∀ (q i : Nat), ((pc q (x / 2 ^ i) : Nat) : Int) = cF x.testBit i q
  | 0, i => rfl
  | q + 1, i => by
    have := pc_cF x q (i + 1)
    rw [cF_s]
    unfold pc
    rw [← this, Nat.div_div_eq_div_mul, ← Nat.pow_succ, Nat.testBit_eq_decide_div_mod_eq]
    have := Nat.mod_lt (x / 2 ^ i) (show 0 < 2 by decide)
    by_cases c : x / 2 ^ i % 2 = 1
    · simp [c]
    · have c0 : x / 2 ^ i % 2 = 0 := by omega
      simp [c0]
theorem tb_hi {x n k : Nat} (hx : x < 2 ^ n) (hk : n ≤ k) : x.testBit k = false := Nat.testBit_lt_two_pow (Nat.lt_of_lt_of_le hx (Nat.pow_le_pow_right (by decide) hk))
theorem pc12 {x n : Nat} (hn : n ≤ 12) (hx : x < 2 ^ n) : ((pc 12 x : Nat) : Int) = cF x.testBit 0 n := by
  have a := pc_cF x 12 0
  rw [Nat.pow_zero, Nat.div_one] at a
  rw [a, show 12 = n + (12 - n) by omega, cF_add, cF_0 (12 - n) (0 + n) (fun k hk => tb_hi hx (by omega))]
  omega
theorem mk_bits : ∀ (n : Nat) (l : Nat → Bool), ∃ x, x < 2 ^ n ∧ ∀ k, k < n → x.testBit k = l k
  | 0, l => ⟨0, by decide, fun k hk => absurd hk (Nat.not_lt_zero k)⟩
  | n + 1, l => by
    obtain ⟨x, h1, h2⟩ := mk_bits n (fun k => l (k + 1))
    refine ⟨2 * x + (if l 0 then 1 else 0), ?_, fun k hk => ?_⟩
    · rw [Nat.pow_succ]
      split <;> omega
    · cases k with
      | zero =>
        rw [Nat.testBit_zero]
        cases e : l 0 <;> simp <;> omega
      | succ k =>
        rw [Nat.testBit_succ, show (2 * x + (if l 0 then 1 else 0)) / 2 = x by split <;> omega]
        exact h2 k (by omega)
/-- what a choice comes to, c: how much a stone of difference counts -/
def vl (c : Int) (t : Nat → Int) (lw rw : Int) (a u : Int) (l r : Nat → Bool) (i q : Nat) : Int := c * ((a + lw * sF t l i q - rw * sF t r i q).natAbs : Int) + u + cF (fun k => l k || r k) i q
def dsj (l r : Nat → Bool) : Prop := ∀ k, ¬ (l k = true ∧ r k = true)
def set1 (l : Nat → Bool) (i : Nat) (b : Bool) : Nat → Bool := fun k => if k = i then b else l k
theorem vl_0 {c lw rw a u : Int} {l r : Nat → Bool} {i q : Nat} (hl : l i = false) (hr : r i = false) : vl c t lw rw a u l r i (q + 1) = vl c t lw rw a u l r (i + 1) q := by
  unfold vl
  simp only [sF_s, cF_s, hl, hr, Bool.or_false, Bool.false_eq_true, if_false, Int.zero_add]
theorem vl_1 {c lw rw a u : Int} {l r : Nat → Bool} {i q : Nat} (hl : l i = true) (hr : r i = false) : vl c t lw rw a u l r i (q + 1) = vl c t lw rw (a + t i * lw) (u + 1) l r (i + 1) q := by
  have e : lw * (t i + sF t l (i + 1) q) = t i * lw + lw * sF t l (i + 1) q := by rw [Int.mul_add, Int.mul_comm lw (t i)]
  unfold vl
  simp only [sF_s, cF_s, hl, hr, if_true, Bool.true_or, Bool.false_eq_true, if_false, Int.zero_add]
  rw [e, show a + (t i * lw + lw * sF t l (i + 1) q) - rw * sF t r (i + 1) q = a + t i * lw + lw * sF t l (i + 1) q - rw * sF t r (i + 1) q by omega]
  omega
theorem vl_2 {c lw rw a u : Int} {l r : Nat → Bool} {i q : Nat} (hl : l i = false) (hr : r i = true) : vl c t lw rw a u l r i (q + 1) = vl c t lw rw (a - t i * rw) (u + 1) l r (i + 1) q := by
  have e : rw * (t i + sF t r (i + 1) q) = t i * rw + rw * sF t r (i + 1) q := by rw [Int.mul_add, Int.mul_comm rw (t i)]
  unfold vl
  simp only [sF_s, cF_s, hl, hr, if_true, Bool.or_true, Bool.false_eq_true, if_false, Int.zero_add]
  rw [e, show a + lw * sF t l (i + 1) q - (t i * rw + rw * sF t r (i + 1) q) = a - t i * rw + lw * sF t l (i + 1) q - rw * sF t r (i + 1) q by omega]
  omega
theorem vl_cg {c lw rw a u : Int} {l r l' r' : Nat → Bool} {i q : Nat} (hl : ∀ k, i ≤ k → k < i + q → l k = l' k) (hr : ∀ k, i ≤ k → k < i + q → r k = r' k) : vl c t lw rw a u l r i q = vl c t lw rw a u l' r' i q := by
  unfold vl
  rw [sF_cg q i hl, sF_cg q i hr, cF_cg (g := fun k => l k || r k) (g' := fun k => l' k || r' k) q i (fun k a b => by show (l k || r k) = (l' k || r' k); rw [hl k a b, hr k a b])]
def evb (q : Nat) (a u : Int) : Prop := -(408000 - 5100 * q) ≤ a ∧ a ≤ 408000 - 5100 * q ∧ 0 ≤ u ∧ u + q ≤ 8
theorem evb_i {q : Nat} {a u : Int} (e : -(408000 - 5100 * q) ≤ a ∧ a ≤ 408000 - 5100 * q ∧ 0 ≤ u ∧ u + q ≤ 8) : evb q a u := e
theorem evb_e {q : Nat} {a u : Int} (e : evb q a u) : -(408000 - 5100 * q) ≤ a ∧ a ≤ 408000 - 5100 * q ∧ 0 ≤ u ∧ u + q ≤ 8 := e
def evz (z : Int) : Prop := 0 ≤ z ∧ z ≤ 7000000
theorem evz_i {z : Int} (e : 0 ≤ z ∧ z ≤ 7000000) : evz z := e
theorem evz_e {z : Int} (e : evz z) : 0 ≤ z ∧ z ≤ 7000000 := e
set_option maxHeartbeats 8000000 in
set_option maxRecDepth 100000 in
theorem ev_c {n : Nat} {lw rw : Int} (hn : n ≤ 8) (hl : 1 ≤ lw ∧ lw ≤ 20) (hr : 1 ≤ rw ∧ rw ≤ 20) (ht : ∀ j, 0 ≤ t j ∧ t j ≤ 255) (A : AT F n t h) (e1 : h.1 2 1 = iI n) : ∀ (q G i : Nat) (a u : Int), i + q = n → q < G → evb q a u →
    ∃ z : Int, G3 F G 2 (iI i) (iI lw) (iI rw) (iI a) (iI u) h = some (iI z) ∧ evz z ∧ (∃ l r, dsj l r ∧ z = vl 16 t lw rw a u l r i q) ∧ ∀ l r, dsj l r → z ≤ vl 16 t lw rw a u l r i q := by
  intro q
  induction q with
  | zero =>
    intro G i a u hi hG hb
    obtain ⟨G, rfl⟩ : ∃ g, G = g + 1 := ⟨G - 1, by omega⟩
    obtain ⟨a1, a2, u1, u2⟩ := evb_e hb
    have e : i = n := by omega
    subst e
    refine ⟨(a.natAbs : Int) * 16 + u, ?_, ?_, ⟨fun _ => false, fun _ => false, fun k q => absurd q.1 Bool.false_ne_true, ?_⟩, fun l r _ => ?_⟩
    · have ab := iabs_s (a := a) (by omega)
      show X7_evenest F (G3 F G) 2 (iI i) (iI lw) (iI rw) (iI a) (iI u) h = _
      unfold X7_evenest
      repeat first
        | ((with_reducible apply s_gq); case hc => (first | rfl | assumption | omega | (simp (disch := omega) only [true_and, and_true, false_and, and_false, and_self, eq_self, not_false_eq_true, not_true_eq_false, iI_add, iI_sub, iI_mul, iI_neg, iI_ix, up_get, up_snd, uc_snd, ofN_iI, Int.cast_ofNat_Int, if_true, if_false, ifeq_p, ifeq_n, imin_s, imax_s, iI_divN, iI_irm, kd_2, pr_2_0, e1, lit_1, tn_1, lit_8, tn_8, iI_lt, iI_le, iI_eq, iI_inb] <;> omega) | (simp (disch := omega) only [true_and, and_true, false_and, and_false, and_self, eq_self, not_false_eq_true, not_true_eq_false, iI_add, iI_sub, iI_mul, iI_neg, iI_ix, up_get, up_snd, uc_snd, ofN_iI, Int.cast_ofNat_Int, if_true, if_false, ifeq_p, ifeq_n, imin_s, imax_s, iI_divN, iI_irm, kd_2, pr_2_0, e1, lit_1, tn_1, lit_8, tn_8, iI_lt, iI_le, iI_eq, iI_inb])))
        | ((with_reducible apply s_bind); case hx => (first | assumption | (simp (disch := omega) only [true_and, and_true, false_and, and_false, and_self, eq_self, not_false_eq_true, not_true_eq_false, iI_add, iI_sub, iI_mul, iI_neg, iI_ix, up_get, up_snd, uc_snd, ofN_iI, Int.cast_ofNat_Int, if_true, if_false, ifeq_p, ifeq_n, imin_s, imax_s, iI_divN, iI_irm, kd_2, pr_2_0, e1, lit_1, tn_1, lit_8, tn_8]; rfl) | rfl))
        | ((with_reducible apply s_bq); case hx => (first | assumption | (simp (disch := omega) only [true_and, and_true, false_and, and_false, and_self, eq_self, not_false_eq_true, not_true_eq_false, iI_add, iI_sub, iI_mul, iI_neg, iI_ix, up_get, up_snd, uc_snd, ofN_iI, Int.cast_ofNat_Int, if_true, if_false, ifeq_p, ifeq_n, imin_s, imax_s, iI_divN, iI_irm, kd_2, pr_2_0, e1, lit_1, tn_1, lit_8, tn_8]; rfl) | rfl))
        | ((with_reducible apply s_bd); case hx => (first | (simp (disch := omega) only [true_and, and_true, false_and, and_false, and_self, eq_self, not_false_eq_true, not_true_eq_false, iI_add, iI_sub, iI_mul, iI_neg, iI_ix, up_get, up_snd, uc_snd, ofN_iI, Int.cast_ofNat_Int, if_true, if_false, ifeq_p, ifeq_n, imin_s, imax_s, iI_divN, iI_irm, kd_2, pr_2_0, e1, lit_1, tn_1, lit_8, tn_8]; rfl) | rfl))
        | ((with_reducible apply s_ifp); case hc => (first | rfl | assumption | omega | (simp (disch := omega) only [true_and, and_true, false_and, and_false, and_self, eq_self, not_false_eq_true, not_true_eq_false, iI_add, iI_sub, iI_mul, iI_neg, iI_ix, up_get, up_snd, uc_snd, ofN_iI, Int.cast_ofNat_Int, if_true, if_false, ifeq_p, ifeq_n, imin_s, imax_s, iI_divN, iI_irm, kd_2, pr_2_0, e1, lit_1, tn_1, lit_8, tn_8, iI_lt, iI_le, iI_eq, iI_inb] <;> omega) | (simp (disch := omega) only [true_and, and_true, false_and, and_false, and_self, eq_self, not_false_eq_true, not_true_eq_false, iI_add, iI_sub, iI_mul, iI_neg, iI_ix, up_get, up_snd, uc_snd, ofN_iI, Int.cast_ofNat_Int, if_true, if_false, ifeq_p, ifeq_n, imin_s, imax_s, iI_divN, iI_irm, kd_2, pr_2_0, e1, lit_1, tn_1, lit_8, tn_8, iI_lt, iI_le, iI_eq, iI_inb])))
        | ((with_reducible apply s_ifn); case hc => (first | rfl | assumption | omega | (simp (disch := omega) only [true_and, and_true, false_and, and_false, and_self, eq_self, not_false_eq_true, not_true_eq_false, iI_add, iI_sub, iI_mul, iI_neg, iI_ix, up_get, up_snd, uc_snd, ofN_iI, Int.cast_ofNat_Int, if_true, if_false, ifeq_p, ifeq_n, imin_s, imax_s, iI_divN, iI_irm, kd_2, pr_2_0, e1, lit_1, tn_1, lit_8, tn_8, iI_lt, iI_le, iI_eq, iI_inb] <;> omega) | (simp (disch := omega) only [true_and, and_true, false_and, and_false, and_self, eq_self, not_false_eq_true, not_true_eq_false, iI_add, iI_sub, iI_mul, iI_neg, iI_ix, up_get, up_snd, uc_snd, ofN_iI, Int.cast_ofNat_Int, if_true, if_false, ifeq_p, ifeq_n, imin_s, imax_s, iI_divN, iI_irm, kd_2, pr_2_0, e1, lit_1, tn_1, lit_8, tn_8, iI_lt, iI_le, iI_eq, iI_inb])))
        | ((with_reducible apply t_gq); case hc => (first | rfl | assumption | omega | (simp (disch := omega) only [true_and, and_true, false_and, and_false, and_self, eq_self, not_false_eq_true, not_true_eq_false, iI_add, iI_sub, iI_mul, iI_neg, iI_ix, up_get, up_snd, uc_snd, ofN_iI, Int.cast_ofNat_Int, if_true, if_false, ifeq_p, ifeq_n, imin_s, imax_s, iI_divN, iI_irm, kd_2, pr_2_0, e1, lit_1, tn_1, lit_8, tn_8, iI_lt, iI_le, iI_eq, iI_inb] <;> omega) | (simp (disch := omega) only [true_and, and_true, false_and, and_false, and_self, eq_self, not_false_eq_true, not_true_eq_false, iI_add, iI_sub, iI_mul, iI_neg, iI_ix, up_get, up_snd, uc_snd, ofN_iI, Int.cast_ofNat_Int, if_true, if_false, ifeq_p, ifeq_n, imin_s, imax_s, iI_divN, iI_irm, kd_2, pr_2_0, e1, lit_1, tn_1, lit_8, tn_8, iI_lt, iI_le, iI_eq, iI_inb])))
        | ((with_reducible apply t_bind); case hx => (first | assumption | (simp (disch := omega) only [true_and, and_true, false_and, and_false, and_self, eq_self, not_false_eq_true, not_true_eq_false, iI_add, iI_sub, iI_mul, iI_neg, iI_ix, up_get, up_snd, uc_snd, ofN_iI, Int.cast_ofNat_Int, if_true, if_false, ifeq_p, ifeq_n, imin_s, imax_s, iI_divN, iI_irm, kd_2, pr_2_0, e1, lit_1, tn_1, lit_8, tn_8]; rfl) | rfl))
        | ((with_reducible apply t_bq); case hx => (first | assumption | (simp (disch := omega) only [true_and, and_true, false_and, and_false, and_self, eq_self, not_false_eq_true, not_true_eq_false, iI_add, iI_sub, iI_mul, iI_neg, iI_ix, up_get, up_snd, uc_snd, ofN_iI, Int.cast_ofNat_Int, if_true, if_false, ifeq_p, ifeq_n, imin_s, imax_s, iI_divN, iI_irm, kd_2, pr_2_0, e1, lit_1, tn_1, lit_8, tn_8]; rfl) | rfl))
        | ((with_reducible apply t_bd); case hx => (first | (simp (disch := omega) only [true_and, and_true, false_and, and_false, and_self, eq_self, not_false_eq_true, not_true_eq_false, iI_add, iI_sub, iI_mul, iI_neg, iI_ix, up_get, up_snd, uc_snd, ofN_iI, Int.cast_ofNat_Int, if_true, if_false, ifeq_p, ifeq_n, imin_s, imax_s, iI_divN, iI_irm, kd_2, pr_2_0, e1, lit_1, tn_1, lit_8, tn_8]; rfl) | rfl))
        | ((with_reducible apply t_ifp); case hc => (first | rfl | assumption | omega | (simp (disch := omega) only [true_and, and_true, false_and, and_false, and_self, eq_self, not_false_eq_true, not_true_eq_false, iI_add, iI_sub, iI_mul, iI_neg, iI_ix, up_get, up_snd, uc_snd, ofN_iI, Int.cast_ofNat_Int, if_true, if_false, ifeq_p, ifeq_n, imin_s, imax_s, iI_divN, iI_irm, kd_2, pr_2_0, e1, lit_1, tn_1, lit_8, tn_8, iI_lt, iI_le, iI_eq, iI_inb] <;> omega) | (simp (disch := omega) only [true_and, and_true, false_and, and_false, and_self, eq_self, not_false_eq_true, not_true_eq_false, iI_add, iI_sub, iI_mul, iI_neg, iI_ix, up_get, up_snd, uc_snd, ofN_iI, Int.cast_ofNat_Int, if_true, if_false, ifeq_p, ifeq_n, imin_s, imax_s, iI_divN, iI_irm, kd_2, pr_2_0, e1, lit_1, tn_1, lit_8, tn_8, iI_lt, iI_le, iI_eq, iI_inb])))
        | ((with_reducible apply t_ifn); case hc => (first | rfl | assumption | omega | (simp (disch := omega) only [true_and, and_true, false_and, and_false, and_self, eq_self, not_false_eq_true, not_true_eq_false, iI_add, iI_sub, iI_mul, iI_neg, iI_ix, up_get, up_snd, uc_snd, ofN_iI, Int.cast_ofNat_Int, if_true, if_false, ifeq_p, ifeq_n, imin_s, imax_s, iI_divN, iI_irm, kd_2, pr_2_0, e1, lit_1, tn_1, lit_8, tn_8, iI_lt, iI_le, iI_eq, iI_inb] <;> omega) | (simp (disch := omega) only [true_and, and_true, false_and, and_false, and_self, eq_self, not_false_eq_true, not_true_eq_false, iI_add, iI_sub, iI_mul, iI_neg, iI_ix, up_get, up_snd, uc_snd, ofN_iI, Int.cast_ofNat_Int, if_true, if_false, ifeq_p, ifeq_n, imin_s, imax_s, iI_divN, iI_irm, kd_2, pr_2_0, e1, lit_1, tn_1, lit_8, tn_8, iI_lt, iI_le, iI_eq, iI_inb])))
      unfold X7_evenest_14
      repeat first
        | ((with_reducible apply s_gq); case hc => (first | rfl | assumption | omega | (simp (disch := omega) only [true_and, and_true, false_and, and_false, and_self, eq_self, not_false_eq_true, not_true_eq_false, iI_add, iI_sub, iI_mul, iI_neg, iI_ix, up_get, up_snd, uc_snd, ofN_iI, Int.cast_ofNat_Int, if_true, if_false, ifeq_p, ifeq_n, imin_s, imax_s, iI_divN, iI_irm, ab, lit_16, tn_16, iI_lt, iI_le, iI_eq, iI_inb] <;> omega) | (simp (disch := omega) only [true_and, and_true, false_and, and_false, and_self, eq_self, not_false_eq_true, not_true_eq_false, iI_add, iI_sub, iI_mul, iI_neg, iI_ix, up_get, up_snd, uc_snd, ofN_iI, Int.cast_ofNat_Int, if_true, if_false, ifeq_p, ifeq_n, imin_s, imax_s, iI_divN, iI_irm, ab, lit_16, tn_16, iI_lt, iI_le, iI_eq, iI_inb])))
        | ((with_reducible apply s_bind); case hx => (first | assumption | (simp (disch := omega) only [true_and, and_true, false_and, and_false, and_self, eq_self, not_false_eq_true, not_true_eq_false, iI_add, iI_sub, iI_mul, iI_neg, iI_ix, up_get, up_snd, uc_snd, ofN_iI, Int.cast_ofNat_Int, if_true, if_false, ifeq_p, ifeq_n, imin_s, imax_s, iI_divN, iI_irm, ab, lit_16, tn_16]; rfl) | rfl))
        | ((with_reducible apply s_bq); case hx => (first | assumption | (simp (disch := omega) only [true_and, and_true, false_and, and_false, and_self, eq_self, not_false_eq_true, not_true_eq_false, iI_add, iI_sub, iI_mul, iI_neg, iI_ix, up_get, up_snd, uc_snd, ofN_iI, Int.cast_ofNat_Int, if_true, if_false, ifeq_p, ifeq_n, imin_s, imax_s, iI_divN, iI_irm, ab, lit_16, tn_16]; rfl) | rfl))
        | ((with_reducible apply s_bd); case hx => (first | (simp (disch := omega) only [true_and, and_true, false_and, and_false, and_self, eq_self, not_false_eq_true, not_true_eq_false, iI_add, iI_sub, iI_mul, iI_neg, iI_ix, up_get, up_snd, uc_snd, ofN_iI, Int.cast_ofNat_Int, if_true, if_false, ifeq_p, ifeq_n, imin_s, imax_s, iI_divN, iI_irm, ab, lit_16, tn_16]; rfl) | rfl))
        | ((with_reducible apply s_ifp); case hc => (first | rfl | assumption | omega | (simp (disch := omega) only [true_and, and_true, false_and, and_false, and_self, eq_self, not_false_eq_true, not_true_eq_false, iI_add, iI_sub, iI_mul, iI_neg, iI_ix, up_get, up_snd, uc_snd, ofN_iI, Int.cast_ofNat_Int, if_true, if_false, ifeq_p, ifeq_n, imin_s, imax_s, iI_divN, iI_irm, ab, lit_16, tn_16, iI_lt, iI_le, iI_eq, iI_inb] <;> omega) | (simp (disch := omega) only [true_and, and_true, false_and, and_false, and_self, eq_self, not_false_eq_true, not_true_eq_false, iI_add, iI_sub, iI_mul, iI_neg, iI_ix, up_get, up_snd, uc_snd, ofN_iI, Int.cast_ofNat_Int, if_true, if_false, ifeq_p, ifeq_n, imin_s, imax_s, iI_divN, iI_irm, ab, lit_16, tn_16, iI_lt, iI_le, iI_eq, iI_inb])))
        | ((with_reducible apply s_ifn); case hc => (first | rfl | assumption | omega | (simp (disch := omega) only [true_and, and_true, false_and, and_false, and_self, eq_self, not_false_eq_true, not_true_eq_false, iI_add, iI_sub, iI_mul, iI_neg, iI_ix, up_get, up_snd, uc_snd, ofN_iI, Int.cast_ofNat_Int, if_true, if_false, ifeq_p, ifeq_n, imin_s, imax_s, iI_divN, iI_irm, ab, lit_16, tn_16, iI_lt, iI_le, iI_eq, iI_inb] <;> omega) | (simp (disch := omega) only [true_and, and_true, false_and, and_false, and_self, eq_self, not_false_eq_true, not_true_eq_false, iI_add, iI_sub, iI_mul, iI_neg, iI_ix, up_get, up_snd, uc_snd, ofN_iI, Int.cast_ofNat_Int, if_true, if_false, ifeq_p, ifeq_n, imin_s, imax_s, iI_divN, iI_irm, ab, lit_16, tn_16, iI_lt, iI_le, iI_eq, iI_inb])))
        | ((with_reducible apply t_gq); case hc => (first | rfl | assumption | omega | (simp (disch := omega) only [true_and, and_true, false_and, and_false, and_self, eq_self, not_false_eq_true, not_true_eq_false, iI_add, iI_sub, iI_mul, iI_neg, iI_ix, up_get, up_snd, uc_snd, ofN_iI, Int.cast_ofNat_Int, if_true, if_false, ifeq_p, ifeq_n, imin_s, imax_s, iI_divN, iI_irm, ab, lit_16, tn_16, iI_lt, iI_le, iI_eq, iI_inb] <;> omega) | (simp (disch := omega) only [true_and, and_true, false_and, and_false, and_self, eq_self, not_false_eq_true, not_true_eq_false, iI_add, iI_sub, iI_mul, iI_neg, iI_ix, up_get, up_snd, uc_snd, ofN_iI, Int.cast_ofNat_Int, if_true, if_false, ifeq_p, ifeq_n, imin_s, imax_s, iI_divN, iI_irm, ab, lit_16, tn_16, iI_lt, iI_le, iI_eq, iI_inb])))
        | ((with_reducible apply t_bind); case hx => (first | assumption | (simp (disch := omega) only [true_and, and_true, false_and, and_false, and_self, eq_self, not_false_eq_true, not_true_eq_false, iI_add, iI_sub, iI_mul, iI_neg, iI_ix, up_get, up_snd, uc_snd, ofN_iI, Int.cast_ofNat_Int, if_true, if_false, ifeq_p, ifeq_n, imin_s, imax_s, iI_divN, iI_irm, ab, lit_16, tn_16]; rfl) | rfl))
        | ((with_reducible apply t_bq); case hx => (first | assumption | (simp (disch := omega) only [true_and, and_true, false_and, and_false, and_self, eq_self, not_false_eq_true, not_true_eq_false, iI_add, iI_sub, iI_mul, iI_neg, iI_ix, up_get, up_snd, uc_snd, ofN_iI, Int.cast_ofNat_Int, if_true, if_false, ifeq_p, ifeq_n, imin_s, imax_s, iI_divN, iI_irm, ab, lit_16, tn_16]; rfl) | rfl))
        | ((with_reducible apply t_bd); case hx => (first | (simp (disch := omega) only [true_and, and_true, false_and, and_false, and_self, eq_self, not_false_eq_true, not_true_eq_false, iI_add, iI_sub, iI_mul, iI_neg, iI_ix, up_get, up_snd, uc_snd, ofN_iI, Int.cast_ofNat_Int, if_true, if_false, ifeq_p, ifeq_n, imin_s, imax_s, iI_divN, iI_irm, ab, lit_16, tn_16]; rfl) | rfl))
        | ((with_reducible apply t_ifp); case hc => (first | rfl | assumption | omega | (simp (disch := omega) only [true_and, and_true, false_and, and_false, and_self, eq_self, not_false_eq_true, not_true_eq_false, iI_add, iI_sub, iI_mul, iI_neg, iI_ix, up_get, up_snd, uc_snd, ofN_iI, Int.cast_ofNat_Int, if_true, if_false, ifeq_p, ifeq_n, imin_s, imax_s, iI_divN, iI_irm, ab, lit_16, tn_16, iI_lt, iI_le, iI_eq, iI_inb] <;> omega) | (simp (disch := omega) only [true_and, and_true, false_and, and_false, and_self, eq_self, not_false_eq_true, not_true_eq_false, iI_add, iI_sub, iI_mul, iI_neg, iI_ix, up_get, up_snd, uc_snd, ofN_iI, Int.cast_ofNat_Int, if_true, if_false, ifeq_p, ifeq_n, imin_s, imax_s, iI_divN, iI_irm, ab, lit_16, tn_16, iI_lt, iI_le, iI_eq, iI_inb])))
        | ((with_reducible apply t_ifn); case hc => (first | rfl | assumption | omega | (simp (disch := omega) only [true_and, and_true, false_and, and_false, and_self, eq_self, not_false_eq_true, not_true_eq_false, iI_add, iI_sub, iI_mul, iI_neg, iI_ix, up_get, up_snd, uc_snd, ofN_iI, Int.cast_ofNat_Int, if_true, if_false, ifeq_p, ifeq_n, imin_s, imax_s, iI_divN, iI_irm, ab, lit_16, tn_16, iI_lt, iI_le, iI_eq, iI_inb] <;> omega) | (simp (disch := omega) only [true_and, and_true, false_and, and_false, and_self, eq_self, not_false_eq_true, not_true_eq_false, iI_add, iI_sub, iI_mul, iI_neg, iI_ix, up_get, up_snd, uc_snd, ofN_iI, Int.cast_ofNat_Int, if_true, if_false, ifeq_p, ifeq_n, imin_s, imax_s, iI_divN, iI_irm, ab, lit_16, tn_16, iI_lt, iI_le, iI_eq, iI_inb])))
      first | (simp (disch := omega) only [true_and, and_true, false_and, and_false, and_self, eq_self, not_false_eq_true, not_true_eq_false, iI_add, iI_sub, iI_mul, iI_neg, iI_ix, up_get, up_snd, uc_snd, ofN_iI, Int.cast_ofNat_Int, if_true, if_false, ifeq_p, ifeq_n, imin_s, imax_s, iI_divN, iI_irm, ab, lit_16, tn_16]; done) | (simp (disch := omega) only [true_and, and_true, false_and, and_false, and_self, eq_self, not_false_eq_true, not_true_eq_false, iI_add, iI_sub, iI_mul, iI_neg, iI_ix, up_get, up_snd, uc_snd, ofN_iI, Int.cast_ofNat_Int, if_true, if_false, ifeq_p, ifeq_n, imin_s, imax_s, iI_divN, iI_irm, ab, lit_16, tn_16]; rfl) | rfl
    · exact evz_i (by omega)
    · unfold vl sF cF
      simp
      omega
    · unfold vl sF cF
      simp
      omega
  | succ q ih =>
    intro G i a u hi hG hb
    obtain ⟨G, rfl⟩ : ∃ g, G = g + 1 := ⟨G - 1, by omega⟩
    obtain ⟨a1, a2, u1, u2⟩ := evb_e hb
    have tb := ht i
    have p1 : 0 ≤ t i * lw ∧ t i * lw ≤ 255 * 20 := ⟨Int.mul_nonneg (by omega) (by omega), Int.mul_le_mul (by omega) (by omega) (by omega) (by omega)⟩
    have p2 : 0 ≤ t i * rw ∧ t i * rw ≤ 255 * 20 := ⟨Int.mul_nonneg (by omega) (by omega), Int.mul_le_mul (by omega) (by omega) (by omega) (by omega)⟩
    obtain ⟨z0, g0, b0, ⟨l0, r0, d0, v0⟩, w0⟩ := ih G (i + 1) a u (by omega) (by omega) (evb_i ⟨by omega, by omega, by omega, by omega⟩)
    obtain ⟨z1, g1, b1, ⟨l1, r1, d1, v1⟩, w1⟩ := ih G (i + 1) (a + t i * lw) (u + 1) (by omega) (by omega) (evb_i ⟨by omega, by omega, by omega, by omega⟩)
    obtain ⟨z2, g2, b2, ⟨l2, r2, d2, v2⟩, w2⟩ := ih G (i + 1) (a - t i * rw) (u + 1) (by omega) (by omega) (evb_i ⟨by omega, by omega, by omega, by omega⟩)
    rw [show ((i + 1 : Nat) : Int) = i + 1 by omega] at g0 g1 g2
    have ai := A i (by omega) (by omega)
    rw [show ((i : Int)).toNat = i by omega] at ai
    have sl : ∀ (f : Nat → Bool) (b : Bool), set1 f i b i = b := fun f b => if_pos rfl
    have sg : ∀ (f : Nat → Bool) (b : Bool) (k : Nat), i + 1 ≤ k → k < i + 1 + q → f k = set1 f i b k := fun f b k hk _ => (if_neg (by omega)).symm
    have dj : ∀ (l r : Nat → Bool) (b c : Bool), dsj l r → ¬ (b = true ∧ c = true) → dsj (set1 l i b) (set1 r i c) := fun l r b c hd hbc k => by
      unfold set1
      by_cases hk : k = i
      · simp only [if_pos hk]
        exact hbc
      · simp only [if_neg hk]
        exact hd k
    have bb0 := evz_e b0
    have bb1 := evz_e b1
    have bb2 := evz_e b2
    refine ⟨min z0 (min z1 z2), ?_, evz_i (by omega), ?_, fun l r hd => ?_⟩
    · show X7_evenest F (G3 F G) 2 (iI i) (iI lw) (iI rw) (iI a) (iI u) h = _
      unfold X7_evenest
      repeat first
        | ((with_reducible apply s_gq); case hc => (first | rfl | assumption | omega | (simp (disch := omega) only [true_and, and_true, false_and, and_false, and_self, eq_self, not_false_eq_true, not_true_eq_false, iI_add, iI_sub, iI_mul, iI_neg, iI_ix, up_get, up_snd, uc_snd, ofN_iI, Int.cast_ofNat_Int, if_true, if_false, ifeq_p, ifeq_n, imin_s, imax_s, iI_divN, iI_irm, kd_2, pr_2_0, e1, g0, g1, g2, ai, lit_1, tn_1, lit_8, tn_8, iI_lt, iI_le, iI_eq, iI_inb] <;> omega) | (simp (disch := omega) only [true_and, and_true, false_and, and_false, and_self, eq_self, not_false_eq_true, not_true_eq_false, iI_add, iI_sub, iI_mul, iI_neg, iI_ix, up_get, up_snd, uc_snd, ofN_iI, Int.cast_ofNat_Int, if_true, if_false, ifeq_p, ifeq_n, imin_s, imax_s, iI_divN, iI_irm, kd_2, pr_2_0, e1, g0, g1, g2, ai, lit_1, tn_1, lit_8, tn_8, iI_lt, iI_le, iI_eq, iI_inb])))
        | ((with_reducible apply s_bind); case hx => (first | assumption | (simp (disch := omega) only [true_and, and_true, false_and, and_false, and_self, eq_self, not_false_eq_true, not_true_eq_false, iI_add, iI_sub, iI_mul, iI_neg, iI_ix, up_get, up_snd, uc_snd, ofN_iI, Int.cast_ofNat_Int, if_true, if_false, ifeq_p, ifeq_n, imin_s, imax_s, iI_divN, iI_irm, kd_2, pr_2_0, e1, g0, g1, g2, ai, lit_1, tn_1, lit_8, tn_8]; rfl) | rfl))
        | ((with_reducible apply s_bq); case hx => (first | assumption | (simp (disch := omega) only [true_and, and_true, false_and, and_false, and_self, eq_self, not_false_eq_true, not_true_eq_false, iI_add, iI_sub, iI_mul, iI_neg, iI_ix, up_get, up_snd, uc_snd, ofN_iI, Int.cast_ofNat_Int, if_true, if_false, ifeq_p, ifeq_n, imin_s, imax_s, iI_divN, iI_irm, kd_2, pr_2_0, e1, g0, g1, g2, ai, lit_1, tn_1, lit_8, tn_8]; rfl) | rfl))
        | ((with_reducible apply s_bd); case hx => (first | (simp (disch := omega) only [true_and, and_true, false_and, and_false, and_self, eq_self, not_false_eq_true, not_true_eq_false, iI_add, iI_sub, iI_mul, iI_neg, iI_ix, up_get, up_snd, uc_snd, ofN_iI, Int.cast_ofNat_Int, if_true, if_false, ifeq_p, ifeq_n, imin_s, imax_s, iI_divN, iI_irm, kd_2, pr_2_0, e1, g0, g1, g2, ai, lit_1, tn_1, lit_8, tn_8]; rfl) | rfl))
        | ((with_reducible apply s_ifp); case hc => (first | rfl | assumption | omega | (simp (disch := omega) only [true_and, and_true, false_and, and_false, and_self, eq_self, not_false_eq_true, not_true_eq_false, iI_add, iI_sub, iI_mul, iI_neg, iI_ix, up_get, up_snd, uc_snd, ofN_iI, Int.cast_ofNat_Int, if_true, if_false, ifeq_p, ifeq_n, imin_s, imax_s, iI_divN, iI_irm, kd_2, pr_2_0, e1, g0, g1, g2, ai, lit_1, tn_1, lit_8, tn_8, iI_lt, iI_le, iI_eq, iI_inb] <;> omega) | (simp (disch := omega) only [true_and, and_true, false_and, and_false, and_self, eq_self, not_false_eq_true, not_true_eq_false, iI_add, iI_sub, iI_mul, iI_neg, iI_ix, up_get, up_snd, uc_snd, ofN_iI, Int.cast_ofNat_Int, if_true, if_false, ifeq_p, ifeq_n, imin_s, imax_s, iI_divN, iI_irm, kd_2, pr_2_0, e1, g0, g1, g2, ai, lit_1, tn_1, lit_8, tn_8, iI_lt, iI_le, iI_eq, iI_inb])))
        | ((with_reducible apply s_ifn); case hc => (first | rfl | assumption | omega | (simp (disch := omega) only [true_and, and_true, false_and, and_false, and_self, eq_self, not_false_eq_true, not_true_eq_false, iI_add, iI_sub, iI_mul, iI_neg, iI_ix, up_get, up_snd, uc_snd, ofN_iI, Int.cast_ofNat_Int, if_true, if_false, ifeq_p, ifeq_n, imin_s, imax_s, iI_divN, iI_irm, kd_2, pr_2_0, e1, g0, g1, g2, ai, lit_1, tn_1, lit_8, tn_8, iI_lt, iI_le, iI_eq, iI_inb] <;> omega) | (simp (disch := omega) only [true_and, and_true, false_and, and_false, and_self, eq_self, not_false_eq_true, not_true_eq_false, iI_add, iI_sub, iI_mul, iI_neg, iI_ix, up_get, up_snd, uc_snd, ofN_iI, Int.cast_ofNat_Int, if_true, if_false, ifeq_p, ifeq_n, imin_s, imax_s, iI_divN, iI_irm, kd_2, pr_2_0, e1, g0, g1, g2, ai, lit_1, tn_1, lit_8, tn_8, iI_lt, iI_le, iI_eq, iI_inb])))
        | ((with_reducible apply t_gq); case hc => (first | rfl | assumption | omega | (simp (disch := omega) only [true_and, and_true, false_and, and_false, and_self, eq_self, not_false_eq_true, not_true_eq_false, iI_add, iI_sub, iI_mul, iI_neg, iI_ix, up_get, up_snd, uc_snd, ofN_iI, Int.cast_ofNat_Int, if_true, if_false, ifeq_p, ifeq_n, imin_s, imax_s, iI_divN, iI_irm, kd_2, pr_2_0, e1, g0, g1, g2, ai, lit_1, tn_1, lit_8, tn_8, iI_lt, iI_le, iI_eq, iI_inb] <;> omega) | (simp (disch := omega) only [true_and, and_true, false_and, and_false, and_self, eq_self, not_false_eq_true, not_true_eq_false, iI_add, iI_sub, iI_mul, iI_neg, iI_ix, up_get, up_snd, uc_snd, ofN_iI, Int.cast_ofNat_Int, if_true, if_false, ifeq_p, ifeq_n, imin_s, imax_s, iI_divN, iI_irm, kd_2, pr_2_0, e1, g0, g1, g2, ai, lit_1, tn_1, lit_8, tn_8, iI_lt, iI_le, iI_eq, iI_inb])))
        | ((with_reducible apply t_bind); case hx => (first | assumption | (simp (disch := omega) only [true_and, and_true, false_and, and_false, and_self, eq_self, not_false_eq_true, not_true_eq_false, iI_add, iI_sub, iI_mul, iI_neg, iI_ix, up_get, up_snd, uc_snd, ofN_iI, Int.cast_ofNat_Int, if_true, if_false, ifeq_p, ifeq_n, imin_s, imax_s, iI_divN, iI_irm, kd_2, pr_2_0, e1, g0, g1, g2, ai, lit_1, tn_1, lit_8, tn_8]; rfl) | rfl))
        | ((with_reducible apply t_bq); case hx => (first | assumption | (simp (disch := omega) only [true_and, and_true, false_and, and_false, and_self, eq_self, not_false_eq_true, not_true_eq_false, iI_add, iI_sub, iI_mul, iI_neg, iI_ix, up_get, up_snd, uc_snd, ofN_iI, Int.cast_ofNat_Int, if_true, if_false, ifeq_p, ifeq_n, imin_s, imax_s, iI_divN, iI_irm, kd_2, pr_2_0, e1, g0, g1, g2, ai, lit_1, tn_1, lit_8, tn_8]; rfl) | rfl))
        | ((with_reducible apply t_bd); case hx => (first | (simp (disch := omega) only [true_and, and_true, false_and, and_false, and_self, eq_self, not_false_eq_true, not_true_eq_false, iI_add, iI_sub, iI_mul, iI_neg, iI_ix, up_get, up_snd, uc_snd, ofN_iI, Int.cast_ofNat_Int, if_true, if_false, ifeq_p, ifeq_n, imin_s, imax_s, iI_divN, iI_irm, kd_2, pr_2_0, e1, g0, g1, g2, ai, lit_1, tn_1, lit_8, tn_8]; rfl) | rfl))
        | ((with_reducible apply t_ifp); case hc => (first | rfl | assumption | omega | (simp (disch := omega) only [true_and, and_true, false_and, and_false, and_self, eq_self, not_false_eq_true, not_true_eq_false, iI_add, iI_sub, iI_mul, iI_neg, iI_ix, up_get, up_snd, uc_snd, ofN_iI, Int.cast_ofNat_Int, if_true, if_false, ifeq_p, ifeq_n, imin_s, imax_s, iI_divN, iI_irm, kd_2, pr_2_0, e1, g0, g1, g2, ai, lit_1, tn_1, lit_8, tn_8, iI_lt, iI_le, iI_eq, iI_inb] <;> omega) | (simp (disch := omega) only [true_and, and_true, false_and, and_false, and_self, eq_self, not_false_eq_true, not_true_eq_false, iI_add, iI_sub, iI_mul, iI_neg, iI_ix, up_get, up_snd, uc_snd, ofN_iI, Int.cast_ofNat_Int, if_true, if_false, ifeq_p, ifeq_n, imin_s, imax_s, iI_divN, iI_irm, kd_2, pr_2_0, e1, g0, g1, g2, ai, lit_1, tn_1, lit_8, tn_8, iI_lt, iI_le, iI_eq, iI_inb])))
        | ((with_reducible apply t_ifn); case hc => (first | rfl | assumption | omega | (simp (disch := omega) only [true_and, and_true, false_and, and_false, and_self, eq_self, not_false_eq_true, not_true_eq_false, iI_add, iI_sub, iI_mul, iI_neg, iI_ix, up_get, up_snd, uc_snd, ofN_iI, Int.cast_ofNat_Int, if_true, if_false, ifeq_p, ifeq_n, imin_s, imax_s, iI_divN, iI_irm, kd_2, pr_2_0, e1, g0, g1, g2, ai, lit_1, tn_1, lit_8, tn_8, iI_lt, iI_le, iI_eq, iI_inb] <;> omega) | (simp (disch := omega) only [true_and, and_true, false_and, and_false, and_self, eq_self, not_false_eq_true, not_true_eq_false, iI_add, iI_sub, iI_mul, iI_neg, iI_ix, up_get, up_snd, uc_snd, ofN_iI, Int.cast_ofNat_Int, if_true, if_false, ifeq_p, ifeq_n, imin_s, imax_s, iI_divN, iI_irm, kd_2, pr_2_0, e1, g0, g1, g2, ai, lit_1, tn_1, lit_8, tn_8, iI_lt, iI_le, iI_eq, iI_inb])))
      first | (simp (disch := omega) only [true_and, and_true, false_and, and_false, and_self, eq_self, not_false_eq_true, not_true_eq_false, iI_add, iI_sub, iI_mul, iI_neg, iI_ix, up_get, up_snd, uc_snd, ofN_iI, Int.cast_ofNat_Int, if_true, if_false, ifeq_p, ifeq_n, imin_s, imax_s, iI_divN, iI_irm, kd_2, pr_2_0, e1, g0, g1, g2, ai, lit_1, tn_1, lit_8, tn_8]; done) | (simp (disch := omega) only [true_and, and_true, false_and, and_false, and_self, eq_self, not_false_eq_true, not_true_eq_false, iI_add, iI_sub, iI_mul, iI_neg, iI_ix, up_get, up_snd, uc_snd, ofN_iI, Int.cast_ofNat_Int, if_true, if_false, ifeq_p, ifeq_n, imin_s, imax_s, iI_divN, iI_irm, kd_2, pr_2_0, e1, g0, g1, g2, ai, lit_1, tn_1, lit_8, tn_8]; rfl) | rfl
    · rcases (show min z0 (min z1 z2) = z0 ∨ min z0 (min z1 z2) = z1 ∨ min z0 (min z1 z2) = z2 by omega) with e | e | e
      · refine ⟨set1 l0 i false, set1 r0 i false, dj _ _ _ _ d0 (by decide), ?_⟩
        rw [e, vl_0 (sl _ _) (sl _ _), v0]
        exact vl_cg (sg _ _) (sg _ _)
      · refine ⟨set1 l1 i true, set1 r1 i false, dj _ _ _ _ d1 (by decide), ?_⟩
        rw [e, vl_1 (sl _ _) (sl _ _), v1]
        exact vl_cg (sg _ _) (sg _ _)
      · refine ⟨set1 l2 i false, set1 r2 i true, dj _ _ _ _ d2 (by decide), ?_⟩
        rw [e, vl_2 (sl _ _) (sl _ _), v2]
        exact vl_cg (sg _ _) (sg _ _)
    · cases el : l i <;> cases er : r i
      · rw [vl_0 el er]
        have := w0 l r hd
        omega
      · rw [vl_2 el er]
        have := w2 l r hd
        omega
      · rw [vl_1 el er]
        have := w1 l r hd
        omega
      · exact absurd ⟨el, er⟩ (hd i)
end even
