theorem lt_X7_80 : ∀ j : Nat, j < 5 → 97 ≤ (st_fX7_80 j).toInt ∧ (st_fX7_80 j).toInt ≤ 122 := by decide
theorem wc_X7_80 : wcd st_fX7_80 0 5 = 24395141 := by decide
theorem lt_X7_98 : ∀ j : Nat, j < 4 → 97 ≤ (st_fX7_98 j).toInt ∧ (st_fX7_98 j).toInt ≤ 122 := by decide
theorem wc_X7_98 : wcd st_fX7_98 0 4 = 632046 := by decide
theorem lt_X7_110 : ∀ j : Nat, j < 6 → 97 ≤ (st_fX7_110 j).toInt ∧ (st_fX7_110 j).toInt ≤ 122 := by decide
theorem wc_X7_110 : wcd st_fX7_110 0 6 = 86292723 := by decide
theorem lt_X7_120 : ∀ j : Nat, j < 4 → 97 ≤ (st_fX7_120 j).toInt ∧ (st_fX7_120 j).toInt ≤ 122 := by decide
theorem wc_X7_120 : wcd st_fX7_120 0 4 = 769611 := by decide
theorem lt_X7_125 : ∀ j : Nat, j < 5 → 97 ≤ (st_fX7_125 j).toInt ∧ (st_fX7_125 j).toInt ≤ 122 := by decide
theorem wc_X7_125 : wcd st_fX7_125 0 5 = 3657363 := by decide
theorem lt_X7_129 : ∀ j : Nat, j < 7 → 97 ≤ (st_fX7_129 j).toInt ∧ (st_fX7_129 j).toInt ≤ 122 := by decide
theorem wc_X7_129 : wcd st_fX7_129 0 7 = 3491171507 := by decide
theorem lt_X7_138 : ∀ j : Nat, j < 4 → 97 ≤ (st_fX7_138 j).toInt ∧ (st_fX7_138 j).toInt ≤ 122 := by decide
theorem wc_X7_138 : wcd st_fX7_138 0 4 = 176741 := by decide
theorem lt_X7_147 : ∀ j : Nat, j < 5 → 97 ≤ (st_fX7_147 j).toInt ∧ (st_fX7_147 j).toInt ≤ 122 := by decide
theorem wc_X7_147 : wcd st_fX7_147 0 5 = 12748404 := by decide
theorem lt_X7_151 : ∀ j : Nat, j < 4 → 97 ≤ (st_fX7_151 j).toInt ∧ (st_fX7_151 j).toInt ≤ 122 := by decide
theorem wc_X7_151 : wcd st_fX7_151 0 4 = 201900 := by decide
