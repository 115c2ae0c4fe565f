/-! the law's isSo: the state's text -/
theorem tx_b : ∀ n, n < 16 → ∀ w, w < 16 → ((ltx 1 ++ numL n ++ ltx 2 ++ numL w).getD 0 0 = 98 ∧ (ltx 1 ++ numL n ++ ltx 2 ++ numL w).getD 9 0 = (if 9 < n then 49 else 48 + n) ∧ (ltx 1 ++ numL n ++ ltx 2 ++ numL w).getD (if 9 < n then 15 else 14) 0 = (if 9 < w then 49 else 48 + w) ∧
    (ltx 1 ++ numL n ++ ltx 2 ++ numL w).getD ((if 9 < n then 15 else 14) + 1) 0 = (if 9 < w then 48 + w % 10 else 0) ∧ (ltx 1 ++ numL n ++ ltx 2 ++ numL w).getD ((if 9 < n then 15 else 14) + 2) 0 = 0) := by decide +kernel
theorem tx_f : (ltx 0).getD 0 0 = 102 := by decide

