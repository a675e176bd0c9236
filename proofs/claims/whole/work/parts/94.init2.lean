/-! the state behind the constructors -/
set_option maxRecDepth 100000 in
theorem iniX_r : (match iniX with | some q => q.1.isNone | none => false) = true := by decide +kernel
set_option maxRecDepth 100000 in
theorem iniY_r : (match iniY with | some q => q.1.isNone | none => false) = true := by decide +kernel
set_option maxRecDepth 100000 in
theorem iniX_s : mS iniM1 ≤ 100000 := by decide +kernel
set_option maxRecDepth 100000 in
theorem iniY_z : mZ iniM2 = 121 ∧ mS iniM2 ≤ 100000 := by decide +kernel
set_option maxRecDepth 100000 in
theorem ini_n : ∀ a, a < 121 → mN iniM2 a = nT a := by decide +kernel
set_option maxRecDepth 100000 in
theorem ini_r : ∀ a, a < 121 → ∀ k, k < 36 → mR iniM2 a k = rT false a k := by decide +kernel
