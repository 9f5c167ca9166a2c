/-! the mean luck is no NaN -/
theorem fp_0 : FP.dcmp 0 0 = some .eq := by decide +kernel
theorem fp_1 : ∀ s, s < 801 → (FP.ddiv (FP.i2d (nI s)) (FP.i2d (nI 1)) &&& 0x7fffffffffffffff ≤ 0x7ff0000000000000 ∧ FP.dcmp (FP.ddiv (FP.i2d (nI s)) (FP.i2d (nI 1))) (FP.ddiv (FP.i2d (nI s)) (FP.i2d (nI 1))) = some .eq) := by decide +kernel
theorem fp_2 : ∀ s, s < 801 → (FP.ddiv (FP.i2d (nI s)) (FP.i2d (nI 2)) &&& 0x7fffffffffffffff ≤ 0x7ff0000000000000 ∧ FP.dcmp (FP.ddiv (FP.i2d (nI s)) (FP.i2d (nI 2))) (FP.ddiv (FP.i2d (nI s)) (FP.i2d (nI 2))) = some .eq) := by decide +kernel
theorem fp_3 : ∀ s, s < 801 → (FP.ddiv (FP.i2d (nI s)) (FP.i2d (nI 3)) &&& 0x7fffffffffffffff ≤ 0x7ff0000000000000 ∧ FP.dcmp (FP.ddiv (FP.i2d (nI s)) (FP.i2d (nI 3))) (FP.ddiv (FP.i2d (nI s)) (FP.i2d (nI 3))) = some .eq) := by decide +kernel
theorem fp_4 : ∀ s, s < 801 → (FP.ddiv (FP.i2d (nI s)) (FP.i2d (nI 4)) &&& 0x7fffffffffffffff ≤ 0x7ff0000000000000 ∧ FP.dcmp (FP.ddiv (FP.i2d (nI s)) (FP.i2d (nI 4))) (FP.ddiv (FP.i2d (nI s)) (FP.i2d (nI 4))) = some .eq) := by decide +kernel
theorem fp_5 : ∀ s, s < 801 → (FP.ddiv (FP.i2d (nI s)) (FP.i2d (nI 5)) &&& 0x7fffffffffffffff ≤ 0x7ff0000000000000 ∧ FP.dcmp (FP.ddiv (FP.i2d (nI s)) (FP.i2d (nI 5))) (FP.ddiv (FP.i2d (nI s)) (FP.i2d (nI 5))) = some .eq) := by decide +kernel
theorem fp_6 : ∀ s, s < 801 → (FP.ddiv (FP.i2d (nI s)) (FP.i2d (nI 6)) &&& 0x7fffffffffffffff ≤ 0x7ff0000000000000 ∧ FP.dcmp (FP.ddiv (FP.i2d (nI s)) (FP.i2d (nI 6))) (FP.ddiv (FP.i2d (nI s)) (FP.i2d (nI 6))) = some .eq) := by decide +kernel
theorem fp_7 : ∀ s, s < 801 → (FP.ddiv (FP.i2d (nI s)) (FP.i2d (nI 7)) &&& 0x7fffffffffffffff ≤ 0x7ff0000000000000 ∧ FP.dcmp (FP.ddiv (FP.i2d (nI s)) (FP.i2d (nI 7))) (FP.ddiv (FP.i2d (nI s)) (FP.i2d (nI 7))) = some .eq) := by decide +kernel
theorem fp_8 : ∀ s, s < 801 → (FP.ddiv (FP.i2d (nI s)) (FP.i2d (nI 8)) &&& 0x7fffffffffffffff ≤ 0x7ff0000000000000 ∧ FP.dcmp (FP.ddiv (FP.i2d (nI s)) (FP.i2d (nI 8))) (FP.ddiv (FP.i2d (nI s)) (FP.i2d (nI 8))) = some .eq) := by decide +kernel
theorem fp_all {n : Nat} (h0 : 0 < n) (h8 : n ≤ 8) : ∀ s, s < 801 → (FP.ddiv (FP.i2d (nI s)) (FP.i2d (nI n)) &&& 0x7fffffffffffffff ≤ 0x7ff0000000000000 ∧ FP.dcmp (FP.ddiv (FP.i2d (nI s)) (FP.i2d (nI n))) (FP.ddiv (FP.i2d (nI s)) (FP.i2d (nI n))) = some .eq) := by
  rcases (show n = 1 ∨ n = 2 ∨ n = 3 ∨ n = 4 ∨ n = 5 ∨ n = 6 ∨ n = 7 ∨ n = 8 by omega) with h | h | h | h | h | h | h | h
  · rw [h]; exact fp_1
  · rw [h]; exact fp_2
  · rw [h]; exact fp_3
  · rw [h]; exact fp_4
  · rw [h]; exact fp_5
  · rw [h]; exact fp_6
  · rw [h]; exact fp_7
  · rw [h]; exact fp_8
