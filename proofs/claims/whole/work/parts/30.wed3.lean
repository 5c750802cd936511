section wed3
variable {F : Nat} {sw : Bool} {tl : Int} {t : Nat → Int} {M : Nat → Nat} {st N K : Nat → Int} {kb : Bool} {tm : Int} {L : Lw} {h : Hp}
theorem wed_L {n : Nat} {w : Int} {hr : Hp} (hF : 1000 ≤ F) (hn : 1 ≤ n ∧ n ≤ 5) (hw : 0 ≤ w ∧ w < n) (ht : ∀ j, 0 ≤ t j ∧ t j ≤ 255) (Pc : h.2 = pr sw) (Pr : hr.2 = pr sw) (A : ∀ x : Hp, Fm (fun q => q = 47 ∨ q = 48) h x → AT F ((2 * n * n : Nat) : Int) t x) (B : ∀ x : Hp, Fm (fun q => q = 76 ∨ q = 77) hr x → OC F t x) : ∃ (z : Int32) (hc' hr' : Hp), X11_wed_38 F F 0 (iI n) (iI w) (iI 0) h = some (z, hc') ∧ X12_wed_41 F F 49 (iI n) (iI w) (iI 0) hr = some (z, hr') ∧ Fm (fun q => q = 47 ∨ q = 48) h hc' ∧ Fm (fun q => q = 76 ∨ q = 77) hr hr' := by
  rcases rows_L (F := F) (w := iI w) hF hn ht Pc (A h fm_rf) (B hr fm_rf) (2 * n) F 0 (by omega) (by omega) (fun q hq => absurd hq (Nat.not_lt_zero _)) with ⟨g1, g2, g3⟩ | ⟨g1, g2⟩
  · obtain ⟨hc1, i1, i2, i3⟩ := ini_c (F := F) (sw := sw) (n := n) (w := iI w) hn.2 n F 0 h (by omega) (by omega) Pc (fun i hi => absurd hi (Nat.not_lt_zero _))
    obtain ⟨hr1, j1, j2, j3⟩ := ini_r (F := F) (sw := sw) (n := n) (w := iI w) hn.2 n F 0 hr (by omega) (by omega) Pr (fun i hi => absurd hi (Nat.not_lt_zero _))
    have P1 : ∀ x, x < n → PM t n (x * n) := fun x hx => g1 x (by omega)
    have P2 : ∀ x, x < n → PM t n (n * n + n * x) := fun x hx => by
      have := g1 (n + x) (by omega)
      rw [Nat.add_mul, Nat.mul_comm x n] at this
      exact this
    have n5 : n * n ≤ 5 * 5 := Nat.mul_le_mul hn.2 hn.2
    have s0 : sm (fun _ => 0) n = 0 := by
      clear i1 i2 j1 j2 P1 P2 g1 g2 g3 A B hn hw n5
      induction n with
      | zero => rfl
      | succ k ih => rw [sm, ih]; rfl
    have fz : fs (fun _ => -1) n n 0 = 0 := by
      have wf : wd (fun _ => -1) ((0 : Nat) : Int) n = false := by
        refine Bool.eq_false_iff.mpr fun q => ?_
        obtain ⟨i, -, e⟩ := (wd_iff n).mp q
        exact absurd e (by decide)
      obtain ⟨k, rfl⟩ : ∃ k, n = k + 1 := ⟨n - 1, by omega⟩
      unfold fs
      rw [wf]
      rfl
    have W0 : Wok t n (fun _ => 0) (fun _ => -1) 0 := ⟨s0, fun i hi => ⟨Int.le_refl _, Int.natCast_nonneg n⟩, fun i hi => ⟨Int.le_refl _, by show (-1 : Int) < n; omega⟩, fun i j _ _ _ q => absurd rfl q, fun k q b _ hq => by
      have : (q : Int) < 0 := hq
      omega⟩
    have S1 : WSc n (fun _ => 0) (fun _ => -1) hc1 := i2
    have S2 : WSr n (fun _ => 0) (fun _ => -1) hr1 := j2
    have hnn : ((n : Int) * n) ≤ 0 + ((n * n : Nat) : Int) := by rw [Int.natCast_mul]; omega
    obtain ⟨z, hc', hr', k1, k2, k3, k4⟩ := weds_L (F := F) (sw := sw) (n := n) (w := w) hF hn hw ht P1 P2 (n * n) F 0 (fun _ => 0) (fun _ => -1) hc1 hr1 hnn (by omega) ⟨Int.le_refl _, by omega⟩ (i3.1.trans Pc) (j3.1.trans Pr) (fun x hx => A x (fm_tr i3 hx)) (fun x hx => B x (fm_tr j3 hx)) S1 S2 W0
    have q2 : X12_whoAsks F 49 (iI n) hr1 = some (iI (fs (fun _ => -1) n n 0)) := wa2_L (F := F) (sw := sw) (m := fun _ => -1) hF (j3.1.trans Pr) hn.2 W0.2.2.1 (fun i hi => (j2 i hi).2) n F 0 (by omega) (by omega)
    rw [fz] at k1 k2 q2
    have z0 : ((0 : Nat) : Int) = 0 := rfl
    rw [z0] at g2 g3 i1 j1
    refine ⟨z, hc', hr', ?_, ?_, fm_tr i3 k3, fm_tr j3 k4⟩
    · rw [g2, show X7_weds F 43 2 (iI n) (iI w) h = X7_weds_3 F F 43 2 (iI n) (iI w) (iI 0) h from rfl, i1, k1]
      rfl
    · rw [g3]
      refine Eq.trans j1 ?_
      rw [q2]
      exact k2
  · exact ⟨iI (-2), h, hr, g1, g2, fm_rf, fm_rf⟩
end wed3
