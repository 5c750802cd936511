section lamps
variable {F : Nat} {sw : Bool} {tl : Int} {t : Nat → Int} {M : Nat → Nat} {st N K : Nat → Int} {kb : Bool} {tm : Int} {L : Lw} {h : Hp}
theorem bt_nat {x i : Nat} (hi : i < 32) : bt (iI (x : Int)) i = x.testBit i := by
  rw [show iI (x : Int) = nI x from (ofN_iI x).symm]
  show (BitVec.ofNat 32 x).getLsbD i = _
  rw [BitVec.getLsbD_ofNat]
  simp [hi]
/-- how many of the k lowest bits are set -/
def pc : Nat → Nat → Nat
  | 0, _ => 0
  | k + 1, x => x % 2 + pc k (x / 2)
theorem pc_0 : ∀ k, pc k 0 = 0
  | 0 => rfl
  | k + 1 => by
    unfold pc
    rw [show 0 / 2 = 0 from rfl, pc_0 k]
theorem pc_le : ∀ (n k x : Nat), x < 2 ^ n → pc k x ≤ n
  | 0, k, x, h => by
    have : x = 0 := by omega
    subst this
    rw [pc_0]
    omega
  | n + 1, 0, x, h => Nat.zero_le _
  | n + 1, k + 1, x, h => by
    have := pc_le n k (x / 2) (by rw [Nat.pow_succ] at h; omega)
    unfold pc
    omega
def jb (x : Int32) : Int32 :=
  let a := x - ((iush x 1) &&& 1431655765)
  let b := (a &&& 858993459) + ((iush a 2) &&& 858993459)
  let c := (b + (iush b 4)) &&& 252645135
  let d := c + (iush c 8)
  let e := d + (iush d 16)
  e &&& 63
def bb (x : Int32) : Nat → Int32 → Int32
  | 0, s => s
  | r + 1, s => bb x r (s + ((x >>> (iI ((20 - (r + 1) : Nat) : Int) &&& 31)) &&& 1))
theorem jb_64 : ∀ a : Nat, a < 64 → ∀ b : Nat, b < 64 → jb (nI (64 * a + b)) = nI (pc 12 (64 * a + b)) := by decide +kernel
theorem bb_64 : ∀ a : Nat, a < 64 → ∀ b : Nat, b < 64 → bb (nI (64 * a + b)) 20 0 = nI (pc 12 (64 * a + b)) := by decide +kernel
theorem jb_pc (x : Nat) (hx : x < 4096) : jb (nI x) = nI (pc 12 x) := by
  have := jb_64 (x / 64) (by omega) (x % 64) (by omega)
  rw [show 64 * (x / 64) + x % 64 = x by omega] at this
  exact this
theorem bb_pc (x : Nat) (hx : x < 4096) : bb (nI x) 20 0 = nI (pc 12 x) := by
  have := bb_64 (x / 64) (by omega) (x % 64) (by omega)
  rw [show 64 * (x / 64) + x % 64 = x by omega] at this
  exact this
theorem bitCount_s {x : Nat} (hx : x < 4096) : J_bitCount F (iI (x : Int)) h = some (iI (pc 12 x : Int)) := by
  have := jb_pc x hx
  rw [show nI x = iI (x : Int) from ofN_iI x, show nI (pc 12 x) = iI (pc 12 x : Int) from ofN_iI _] at this
  rw [← this]
  rfl
theorem bits_L {x : Int32} : ∀ (r f : Nat) (s : Int32), r ≤ 20 → r < f → X12_bits_4 F f x s (iI ((20 - r : Nat) : Int)) h = some (bb x r s)
  | r, 0, _, _, hf => absurd hf (Nat.not_lt_zero _)
  | 0, f + 1, s, hr, hf => by
    unfold X12_bits_4
    repeat first
      | ((with_reducible apply s_gq); case hc => (first | rfl | assumption | omega | (simp (disch := omega) only [true_and, and_true, false_and, and_false, and_self, eq_self, not_false_eq_true, not_true_eq_false, iI_add, iI_sub, iI_mul, iI_neg, iI_ix, up_get, up_snd, uc_snd, ofN_iI, Int.cast_ofNat_Int, if_true, if_false, ifeq_p, ifeq_n, imin_s, imax_s, iI_divN, iI_irm, lit_1, tn_1, lit_20, tn_20, lit_31, tn_31, iI_lt, iI_le, iI_eq, iI_inb] <;> omega) | (simp (disch := omega) only [true_and, and_true, false_and, and_false, and_self, eq_self, not_false_eq_true, not_true_eq_false, iI_add, iI_sub, iI_mul, iI_neg, iI_ix, up_get, up_snd, uc_snd, ofN_iI, Int.cast_ofNat_Int, if_true, if_false, ifeq_p, ifeq_n, imin_s, imax_s, iI_divN, iI_irm, lit_1, tn_1, lit_20, tn_20, lit_31, tn_31, iI_lt, iI_le, iI_eq, iI_inb])))
      | ((with_reducible apply s_bind); case hx => (first | assumption | (simp (disch := omega) only [true_and, and_true, false_and, and_false, and_self, eq_self, not_false_eq_true, not_true_eq_false, iI_add, iI_sub, iI_mul, iI_neg, iI_ix, up_get, up_snd, uc_snd, ofN_iI, Int.cast_ofNat_Int, if_true, if_false, ifeq_p, ifeq_n, imin_s, imax_s, iI_divN, iI_irm, lit_1, tn_1, lit_20, tn_20, lit_31, tn_31]; rfl) | rfl))
      | ((with_reducible apply s_bq); case hx => (first | assumption | (simp (disch := omega) only [true_and, and_true, false_and, and_false, and_self, eq_self, not_false_eq_true, not_true_eq_false, iI_add, iI_sub, iI_mul, iI_neg, iI_ix, up_get, up_snd, uc_snd, ofN_iI, Int.cast_ofNat_Int, if_true, if_false, ifeq_p, ifeq_n, imin_s, imax_s, iI_divN, iI_irm, lit_1, tn_1, lit_20, tn_20, lit_31, tn_31]; rfl) | rfl))
      | ((with_reducible apply s_bd); case hx => (first | (simp (disch := omega) only [true_and, and_true, false_and, and_false, and_self, eq_self, not_false_eq_true, not_true_eq_false, iI_add, iI_sub, iI_mul, iI_neg, iI_ix, up_get, up_snd, uc_snd, ofN_iI, Int.cast_ofNat_Int, if_true, if_false, ifeq_p, ifeq_n, imin_s, imax_s, iI_divN, iI_irm, lit_1, tn_1, lit_20, tn_20, lit_31, tn_31]; rfl) | rfl))
      | ((with_reducible apply s_ifp); case hc => (first | rfl | assumption | omega | (simp (disch := omega) only [true_and, and_true, false_and, and_false, and_self, eq_self, not_false_eq_true, not_true_eq_false, iI_add, iI_sub, iI_mul, iI_neg, iI_ix, up_get, up_snd, uc_snd, ofN_iI, Int.cast_ofNat_Int, if_true, if_false, ifeq_p, ifeq_n, imin_s, imax_s, iI_divN, iI_irm, lit_1, tn_1, lit_20, tn_20, lit_31, tn_31, iI_lt, iI_le, iI_eq, iI_inb] <;> omega) | (simp (disch := omega) only [true_and, and_true, false_and, and_false, and_self, eq_self, not_false_eq_true, not_true_eq_false, iI_add, iI_sub, iI_mul, iI_neg, iI_ix, up_get, up_snd, uc_snd, ofN_iI, Int.cast_ofNat_Int, if_true, if_false, ifeq_p, ifeq_n, imin_s, imax_s, iI_divN, iI_irm, lit_1, tn_1, lit_20, tn_20, lit_31, tn_31, iI_lt, iI_le, iI_eq, iI_inb])))
      | ((with_reducible apply s_ifn); case hc => (first | rfl | assumption | omega | (simp (disch := omega) only [true_and, and_true, false_and, and_false, and_self, eq_self, not_false_eq_true, not_true_eq_false, iI_add, iI_sub, iI_mul, iI_neg, iI_ix, up_get, up_snd, uc_snd, ofN_iI, Int.cast_ofNat_Int, if_true, if_false, ifeq_p, ifeq_n, imin_s, imax_s, iI_divN, iI_irm, lit_1, tn_1, lit_20, tn_20, lit_31, tn_31, iI_lt, iI_le, iI_eq, iI_inb] <;> omega) | (simp (disch := omega) only [true_and, and_true, false_and, and_false, and_self, eq_self, not_false_eq_true, not_true_eq_false, iI_add, iI_sub, iI_mul, iI_neg, iI_ix, up_get, up_snd, uc_snd, ofN_iI, Int.cast_ofNat_Int, if_true, if_false, ifeq_p, ifeq_n, imin_s, imax_s, iI_divN, iI_irm, lit_1, tn_1, lit_20, tn_20, lit_31, tn_31, iI_lt, iI_le, iI_eq, iI_inb])))
      | ((with_reducible apply t_gq); case hc => (first | rfl | assumption | omega | (simp (disch := omega) only [true_and, and_true, false_and, and_false, and_self, eq_self, not_false_eq_true, not_true_eq_false, iI_add, iI_sub, iI_mul, iI_neg, iI_ix, up_get, up_snd, uc_snd, ofN_iI, Int.cast_ofNat_Int, if_true, if_false, ifeq_p, ifeq_n, imin_s, imax_s, iI_divN, iI_irm, lit_1, tn_1, lit_20, tn_20, lit_31, tn_31, iI_lt, iI_le, iI_eq, iI_inb] <;> omega) | (simp (disch := omega) only [true_and, and_true, false_and, and_false, and_self, eq_self, not_false_eq_true, not_true_eq_false, iI_add, iI_sub, iI_mul, iI_neg, iI_ix, up_get, up_snd, uc_snd, ofN_iI, Int.cast_ofNat_Int, if_true, if_false, ifeq_p, ifeq_n, imin_s, imax_s, iI_divN, iI_irm, lit_1, tn_1, lit_20, tn_20, lit_31, tn_31, iI_lt, iI_le, iI_eq, iI_inb])))
      | ((with_reducible apply t_bind); case hx => (first | assumption | (simp (disch := omega) only [true_and, and_true, false_and, and_false, and_self, eq_self, not_false_eq_true, not_true_eq_false, iI_add, iI_sub, iI_mul, iI_neg, iI_ix, up_get, up_snd, uc_snd, ofN_iI, Int.cast_ofNat_Int, if_true, if_false, ifeq_p, ifeq_n, imin_s, imax_s, iI_divN, iI_irm, lit_1, tn_1, lit_20, tn_20, lit_31, tn_31]; rfl) | rfl))
      | ((with_reducible apply t_bq); case hx => (first | assumption | (simp (disch := omega) only [true_and, and_true, false_and, and_false, and_self, eq_self, not_false_eq_true, not_true_eq_false, iI_add, iI_sub, iI_mul, iI_neg, iI_ix, up_get, up_snd, uc_snd, ofN_iI, Int.cast_ofNat_Int, if_true, if_false, ifeq_p, ifeq_n, imin_s, imax_s, iI_divN, iI_irm, lit_1, tn_1, lit_20, tn_20, lit_31, tn_31]; rfl) | rfl))
      | ((with_reducible apply t_bd); case hx => (first | (simp (disch := omega) only [true_and, and_true, false_and, and_false, and_self, eq_self, not_false_eq_true, not_true_eq_false, iI_add, iI_sub, iI_mul, iI_neg, iI_ix, up_get, up_snd, uc_snd, ofN_iI, Int.cast_ofNat_Int, if_true, if_false, ifeq_p, ifeq_n, imin_s, imax_s, iI_divN, iI_irm, lit_1, tn_1, lit_20, tn_20, lit_31, tn_31]; rfl) | rfl))
      | ((with_reducible apply t_ifp); case hc => (first | rfl | assumption | omega | (simp (disch := omega) only [true_and, and_true, false_and, and_false, and_self, eq_self, not_false_eq_true, not_true_eq_false, iI_add, iI_sub, iI_mul, iI_neg, iI_ix, up_get, up_snd, uc_snd, ofN_iI, Int.cast_ofNat_Int, if_true, if_false, ifeq_p, ifeq_n, imin_s, imax_s, iI_divN, iI_irm, lit_1, tn_1, lit_20, tn_20, lit_31, tn_31, iI_lt, iI_le, iI_eq, iI_inb] <;> omega) | (simp (disch := omega) only [true_and, and_true, false_and, and_false, and_self, eq_self, not_false_eq_true, not_true_eq_false, iI_add, iI_sub, iI_mul, iI_neg, iI_ix, up_get, up_snd, uc_snd, ofN_iI, Int.cast_ofNat_Int, if_true, if_false, ifeq_p, ifeq_n, imin_s, imax_s, iI_divN, iI_irm, lit_1, tn_1, lit_20, tn_20, lit_31, tn_31, iI_lt, iI_le, iI_eq, iI_inb])))
      | ((with_reducible apply t_ifn); case hc => (first | rfl | assumption | omega | (simp (disch := omega) only [true_and, and_true, false_and, and_false, and_self, eq_self, not_false_eq_true, not_true_eq_false, iI_add, iI_sub, iI_mul, iI_neg, iI_ix, up_get, up_snd, uc_snd, ofN_iI, Int.cast_ofNat_Int, if_true, if_false, ifeq_p, ifeq_n, imin_s, imax_s, iI_divN, iI_irm, lit_1, tn_1, lit_20, tn_20, lit_31, tn_31, iI_lt, iI_le, iI_eq, iI_inb] <;> omega) | (simp (disch := omega) only [true_and, and_true, false_and, and_false, and_self, eq_self, not_false_eq_true, not_true_eq_false, iI_add, iI_sub, iI_mul, iI_neg, iI_ix, up_get, up_snd, uc_snd, ofN_iI, Int.cast_ofNat_Int, if_true, if_false, ifeq_p, ifeq_n, imin_s, imax_s, iI_divN, iI_irm, lit_1, tn_1, lit_20, tn_20, lit_31, tn_31, iI_lt, iI_le, iI_eq, iI_inb])))
    first | (simp (disch := omega) only [true_and, and_true, false_and, and_false, and_self, eq_self, not_false_eq_true, not_true_eq_false, iI_add, iI_sub, iI_mul, iI_neg, iI_ix, up_get, up_snd, uc_snd, ofN_iI, Int.cast_ofNat_Int, if_true, if_false, ifeq_p, ifeq_n, imin_s, imax_s, iI_divN, iI_irm, lit_1, tn_1, lit_20, tn_20, lit_31, tn_31]; done) | (simp (disch := omega) only [true_and, and_true, false_and, and_false, and_self, eq_self, not_false_eq_true, not_true_eq_false, iI_add, iI_sub, iI_mul, iI_neg, iI_ix, up_get, up_snd, uc_snd, ofN_iI, Int.cast_ofNat_Int, if_true, if_false, ifeq_p, ifeq_n, imin_s, imax_s, iI_divN, iI_irm, lit_1, tn_1, lit_20, tn_20, lit_31, tn_31]; rfl) | rfl
  | r + 1, f + 1, s, hr, hf => by
    have ih := bits_L (x := x) r f (s + ((x >>> (iI ((20 - (r + 1) : Nat) : Int) &&& 31)) &&& 1)) (by omega) (by omega)
    rw [show ((20 - r : Nat) : Int) = ((20 - (r + 1) : Nat) : Int) + 1 by omega] at ih
    unfold X12_bits_4
    repeat first
      | ((with_reducible apply s_gq); case hc => (first | rfl | assumption | omega | (simp (disch := omega) only [true_and, and_true, false_and, and_false, and_self, eq_self, not_false_eq_true, not_true_eq_false, iI_add, iI_sub, iI_mul, iI_neg, iI_ix, up_get, up_snd, uc_snd, ofN_iI, Int.cast_ofNat_Int, if_true, if_false, ifeq_p, ifeq_n, imin_s, imax_s, iI_divN, iI_irm, lit_1, tn_1, lit_20, tn_20, lit_31, tn_31, iI_lt, iI_le, iI_eq, iI_inb] <;> omega) | (simp (disch := omega) only [true_and, and_true, false_and, and_false, and_self, eq_self, not_false_eq_true, not_true_eq_false, iI_add, iI_sub, iI_mul, iI_neg, iI_ix, up_get, up_snd, uc_snd, ofN_iI, Int.cast_ofNat_Int, if_true, if_false, ifeq_p, ifeq_n, imin_s, imax_s, iI_divN, iI_irm, lit_1, tn_1, lit_20, tn_20, lit_31, tn_31, iI_lt, iI_le, iI_eq, iI_inb])))
      | ((with_reducible apply s_bind); case hx => (first | assumption | (simp (disch := omega) only [true_and, and_true, false_and, and_false, and_self, eq_self, not_false_eq_true, not_true_eq_false, iI_add, iI_sub, iI_mul, iI_neg, iI_ix, up_get, up_snd, uc_snd, ofN_iI, Int.cast_ofNat_Int, if_true, if_false, ifeq_p, ifeq_n, imin_s, imax_s, iI_divN, iI_irm, lit_1, tn_1, lit_20, tn_20, lit_31, tn_31]; rfl) | rfl))
      | ((with_reducible apply s_bq); case hx => (first | assumption | (simp (disch := omega) only [true_and, and_true, false_and, and_false, and_self, eq_self, not_false_eq_true, not_true_eq_false, iI_add, iI_sub, iI_mul, iI_neg, iI_ix, up_get, up_snd, uc_snd, ofN_iI, Int.cast_ofNat_Int, if_true, if_false, ifeq_p, ifeq_n, imin_s, imax_s, iI_divN, iI_irm, lit_1, tn_1, lit_20, tn_20, lit_31, tn_31]; rfl) | rfl))
      | ((with_reducible apply s_bd); case hx => (first | (simp (disch := omega) only [true_and, and_true, false_and, and_false, and_self, eq_self, not_false_eq_true, not_true_eq_false, iI_add, iI_sub, iI_mul, iI_neg, iI_ix, up_get, up_snd, uc_snd, ofN_iI, Int.cast_ofNat_Int, if_true, if_false, ifeq_p, ifeq_n, imin_s, imax_s, iI_divN, iI_irm, lit_1, tn_1, lit_20, tn_20, lit_31, tn_31]; rfl) | rfl))
      | ((with_reducible apply s_ifp); case hc => (first | rfl | assumption | omega | (simp (disch := omega) only [true_and, and_true, false_and, and_false, and_self, eq_self, not_false_eq_true, not_true_eq_false, iI_add, iI_sub, iI_mul, iI_neg, iI_ix, up_get, up_snd, uc_snd, ofN_iI, Int.cast_ofNat_Int, if_true, if_false, ifeq_p, ifeq_n, imin_s, imax_s, iI_divN, iI_irm, lit_1, tn_1, lit_20, tn_20, lit_31, tn_31, iI_lt, iI_le, iI_eq, iI_inb] <;> omega) | (simp (disch := omega) only [true_and, and_true, false_and, and_false, and_self, eq_self, not_false_eq_true, not_true_eq_false, iI_add, iI_sub, iI_mul, iI_neg, iI_ix, up_get, up_snd, uc_snd, ofN_iI, Int.cast_ofNat_Int, if_true, if_false, ifeq_p, ifeq_n, imin_s, imax_s, iI_divN, iI_irm, lit_1, tn_1, lit_20, tn_20, lit_31, tn_31, iI_lt, iI_le, iI_eq, iI_inb])))
      | ((with_reducible apply s_ifn); case hc => (first | rfl | assumption | omega | (simp (disch := omega) only [true_and, and_true, false_and, and_false, and_self, eq_self, not_false_eq_true, not_true_eq_false, iI_add, iI_sub, iI_mul, iI_neg, iI_ix, up_get, up_snd, uc_snd, ofN_iI, Int.cast_ofNat_Int, if_true, if_false, ifeq_p, ifeq_n, imin_s, imax_s, iI_divN, iI_irm, lit_1, tn_1, lit_20, tn_20, lit_31, tn_31, iI_lt, iI_le, iI_eq, iI_inb] <;> omega) | (simp (disch := omega) only [true_and, and_true, false_and, and_false, and_self, eq_self, not_false_eq_true, not_true_eq_false, iI_add, iI_sub, iI_mul, iI_neg, iI_ix, up_get, up_snd, uc_snd, ofN_iI, Int.cast_ofNat_Int, if_true, if_false, ifeq_p, ifeq_n, imin_s, imax_s, iI_divN, iI_irm, lit_1, tn_1, lit_20, tn_20, lit_31, tn_31, iI_lt, iI_le, iI_eq, iI_inb])))
      | ((with_reducible apply t_gq); case hc => (first | rfl | assumption | omega | (simp (disch := omega) only [true_and, and_true, false_and, and_false, and_self, eq_self, not_false_eq_true, not_true_eq_false, iI_add, iI_sub, iI_mul, iI_neg, iI_ix, up_get, up_snd, uc_snd, ofN_iI, Int.cast_ofNat_Int, if_true, if_false, ifeq_p, ifeq_n, imin_s, imax_s, iI_divN, iI_irm, lit_1, tn_1, lit_20, tn_20, lit_31, tn_31, iI_lt, iI_le, iI_eq, iI_inb] <;> omega) | (simp (disch := omega) only [true_and, and_true, false_and, and_false, and_self, eq_self, not_false_eq_true, not_true_eq_false, iI_add, iI_sub, iI_mul, iI_neg, iI_ix, up_get, up_snd, uc_snd, ofN_iI, Int.cast_ofNat_Int, if_true, if_false, ifeq_p, ifeq_n, imin_s, imax_s, iI_divN, iI_irm, lit_1, tn_1, lit_20, tn_20, lit_31, tn_31, iI_lt, iI_le, iI_eq, iI_inb])))
      | ((with_reducible apply t_bind); case hx => (first | assumption | (simp (disch := omega) only [true_and, and_true, false_and, and_false, and_self, eq_self, not_false_eq_true, not_true_eq_false, iI_add, iI_sub, iI_mul, iI_neg, iI_ix, up_get, up_snd, uc_snd, ofN_iI, Int.cast_ofNat_Int, if_true, if_false, ifeq_p, ifeq_n, imin_s, imax_s, iI_divN, iI_irm, lit_1, tn_1, lit_20, tn_20, lit_31, tn_31]; rfl) | rfl))
      | ((with_reducible apply t_bq); case hx => (first | assumption | (simp (disch := omega) only [true_and, and_true, false_and, and_false, and_self, eq_self, not_false_eq_true, not_true_eq_false, iI_add, iI_sub, iI_mul, iI_neg, iI_ix, up_get, up_snd, uc_snd, ofN_iI, Int.cast_ofNat_Int, if_true, if_false, ifeq_p, ifeq_n, imin_s, imax_s, iI_divN, iI_irm, lit_1, tn_1, lit_20, tn_20, lit_31, tn_31]; rfl) | rfl))
      | ((with_reducible apply t_bd); case hx => (first | (simp (disch := omega) only [true_and, and_true, false_and, and_false, and_self, eq_self, not_false_eq_true, not_true_eq_false, iI_add, iI_sub, iI_mul, iI_neg, iI_ix, up_get, up_snd, uc_snd, ofN_iI, Int.cast_ofNat_Int, if_true, if_false, ifeq_p, ifeq_n, imin_s, imax_s, iI_divN, iI_irm, lit_1, tn_1, lit_20, tn_20, lit_31, tn_31]; rfl) | rfl))
      | ((with_reducible apply t_ifp); case hc => (first | rfl | assumption | omega | (simp (disch := omega) only [true_and, and_true, false_and, and_false, and_self, eq_self, not_false_eq_true, not_true_eq_false, iI_add, iI_sub, iI_mul, iI_neg, iI_ix, up_get, up_snd, uc_snd, ofN_iI, Int.cast_ofNat_Int, if_true, if_false, ifeq_p, ifeq_n, imin_s, imax_s, iI_divN, iI_irm, lit_1, tn_1, lit_20, tn_20, lit_31, tn_31, iI_lt, iI_le, iI_eq, iI_inb] <;> omega) | (simp (disch := omega) only [true_and, and_true, false_and, and_false, and_self, eq_self, not_false_eq_true, not_true_eq_false, iI_add, iI_sub, iI_mul, iI_neg, iI_ix, up_get, up_snd, uc_snd, ofN_iI, Int.cast_ofNat_Int, if_true, if_false, ifeq_p, ifeq_n, imin_s, imax_s, iI_divN, iI_irm, lit_1, tn_1, lit_20, tn_20, lit_31, tn_31, iI_lt, iI_le, iI_eq, iI_inb])))
      | ((with_reducible apply t_ifn); case hc => (first | rfl | assumption | omega | (simp (disch := omega) only [true_and, and_true, false_and, and_false, and_self, eq_self, not_false_eq_true, not_true_eq_false, iI_add, iI_sub, iI_mul, iI_neg, iI_ix, up_get, up_snd, uc_snd, ofN_iI, Int.cast_ofNat_Int, if_true, if_false, ifeq_p, ifeq_n, imin_s, imax_s, iI_divN, iI_irm, lit_1, tn_1, lit_20, tn_20, lit_31, tn_31, iI_lt, iI_le, iI_eq, iI_inb] <;> omega) | (simp (disch := omega) only [true_and, and_true, false_and, and_false, and_self, eq_self, not_false_eq_true, not_true_eq_false, iI_add, iI_sub, iI_mul, iI_neg, iI_ix, up_get, up_snd, uc_snd, ofN_iI, Int.cast_ofNat_Int, if_true, if_false, ifeq_p, ifeq_n, imin_s, imax_s, iI_divN, iI_irm, lit_1, tn_1, lit_20, tn_20, lit_31, tn_31, iI_lt, iI_le, iI_eq, iI_inb])))
    exact ih
theorem bits_s {x : Nat} (hF : 1000 ≤ F) (hx : x < 4096) : X12_bits F (iI (x : Int)) h = some (iI (pc 12 x : Int)) := by
  have := bits_L (F := F) (h := h) (x := iI (x : Int)) 20 F 0 (by omega) (by omega)
  have e := bb_pc x hx
  rw [show nI x = iI (x : Int) from ofN_iI x, show nI (pc 12 x) = iI (pc 12 x : Int) from ofN_iI _] at e
  rw [e] at this
  exact this
theorem win_bt : ∀ d : Nat, d < 6 → ∀ j : Nat, j < 12 → ∀ i : Nat, i < 12 → bt (if j < d then ((1 : Int32) <<< (iI (2 * d + 1) &&& 31) - 1) >>> (iI ((d : Int) - j) &&& 31) else ((1 : Int32) <<< (iI (2 * d + 1) &&& 31) - 1) <<< (iI ((j : Int) - d) &&& 31)) i = decide (i ≤ j + d ∧ j ≤ i + d) := by decide +kernel
theorem full_bt : ∀ n : Nat, n < 13 → ∀ i : Nat, i < 32 → bt ((1 : Int32) <<< (iI (n : Int) &&& 31) - 1) i = decide (i < n) := by decide +kernel
end lamps
