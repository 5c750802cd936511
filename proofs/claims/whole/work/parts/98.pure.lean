theorem pure_law (xs : Nat → Int32) (L : Nat) (hL : L ≤ 3072) : ∃ h9, L_law_18 FF xs L FF 0 hs_88 = some (1, h9) := sorry
