section wed3
variable {F : Nat} {sw : Bool} {tl : Int} {t : Nat → Int} {M : Nat → Nat} {st N K : Nat → Int} {kb : Bool} {tm : Int} {L : Lw} {h : Hp}
theorem wed_L {n : Nat} {w : Int} {hr : Hp} (hF : 1000 ≤ F) (hn : 1 ≤ n ∧ n ≤ 5) (hw : 0 ≤ w ∧ w < n) (ht : ∀ j, 0 ≤ t j ∧ t j ≤ 255) (Pc : h.2 = pr sw) (Pr : hr.2 = pr sw) (A : ∀ x : Hp, Fm (fun q => q = 47 ∨ q = 48) h x → AT F ((2 * n * n : Nat) : Int) t x) (B : ∀ x : Hp, Fm (fun q => q = 76 ∨ q = 77) hr x → OC F t x) : ∃ (z : Int32) (hc' hr' : Hp), X11_wed_38 F F 0 (iI n) (iI w) (iI 0) h = some (z, hc') ∧ X12_wed_41 F F 49 (iI n) (iI w) (iI 0) hr = some (z, hr') ∧ Fm (fun q => q = 47 ∨ q = 48) h hc' ∧ Fm (fun q => q = 76 ∨ q = 77) hr hr' := by
  rcases rows_L (F := F) (w := iI w) hF hn ht Pc (A h fm_rf) (B hr fm_rf) (2 * n) F 0 (by omega) (by omega) (fun q hq => absurd hq (Nat.not_lt_zero _)) with ⟨g1, g2, g3⟩ | ⟨g1, g2⟩
  · obtain ⟨hc1, i1, i2, i3⟩ := ini_c (F := F) (sw := sw) (n := n) (w := iI w) hn.2 n F 0 h (by omega) (by omega) Pc (fun i hi => absurd hi (Nat.not_lt_zero _))
    obtain ⟨hr1, j1, j2, j3⟩ := ini_r (F := F) (sw := sw) (n := n) (w := iI w) hn.2 n F 0 hr (by omega) (by omega) Pr (fun i hi => absurd hi (Nat.not_lt_zero _))
    sorry
  · sorry
end wed3
