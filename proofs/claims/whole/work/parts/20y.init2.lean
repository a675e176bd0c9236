/-! the references behind the constructors -/
set_option maxRecDepth 100000 in
theorem ini_r : ∀ a, a < 121 → ∀ k, k < rN a → mR iniM2 a k = rT false a k := by decide +kernel
