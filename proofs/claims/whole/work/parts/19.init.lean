/-! the constructors, by evaluation -/
def ini_mem : Option (Option Value × ab_M) → ab_M
  | some q => q.2
  | none => mE
def ini_void : Option (Option Value × ab_M) → Bool
  | some (none, _) => true
  | _ => false
theorem ini_get {z : Option (Option Value × ab_M)} (h : ini_void z = true) : z = some (none, ini_mem z) := by
  match z, h with
  | some (none, M), _ => rfl
  | some (some v, M), h => exact absurd h (by simp [ini_void])
  | none, h => exact absurd h (by simp [ini_void])
def iniX : Option (Option Value × ab_M) := xm 20 5000 72 [.ref 0] (mNew mE 10 0 12)
def iniM1 : ab_M := ini_mem iniX
def iniY : Option (Option Value × ab_M) := xm 20 5000 116 [.ref 102] (mNew iniM1 11 0 35)
def iniM2 : ab_M := ini_mem iniY
set_option maxRecDepth 100000 in
theorem iniX_v : ini_void iniX = true := by decide +kernel
set_option maxRecDepth 100000 in
theorem iniY_v : ini_void iniY = true := by decide +kernel
theorem iniX_eq : iniX = some (none, iniM1) := ini_get iniX_v
theorem iniY_eq : iniY = some (none, iniM2) := ini_get iniY_v
set_option maxRecDepth 100000 in
theorem iniX_z : mZ iniM1 = 102 ∧ mS iniM1 ≤ 100000 := by decide +kernel
set_option maxRecDepth 100000 in
theorem iniY_z : mZ iniM2 = 121 ∧ mS iniM2 ≤ 100000 := by decide +kernel
set_option maxRecDepth 100000 in
theorem ini_k : ∀ a, a < 121 → mK iniM2 a = kT a := by decide +kernel
set_option maxRecDepth 100000 in
theorem ini_n : ∀ a, a < 121 → mN iniM2 a = nT a := by decide +kernel
