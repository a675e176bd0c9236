/-! the constructors, by evaluation -/
def iniX : Option (Option Value × ab_M) := xm 20 5000 72 [.ref 0] (mNew mE 10 0 12)
def iniM1 : ab_M := match iniX with
  | some q => q.2
  | none => mE
def iniY : Option (Option Value × ab_M) := xm 20 5000 116 [.ref 102] (mNew iniM1 11 0 35)
def iniM2 : ab_M := match iniY with
  | some q => q.2
  | none => mE
set_option maxRecDepth 100000 in
theorem iniX_z : mZ iniM1 = 102 := by decide +kernel
set_option maxRecDepth 100000 in
theorem iniX_some : iniX.isSome = true := by decide +kernel
set_option maxRecDepth 100000 in
theorem iniY_some : iniY.isSome = true := by decide +kernel
set_option maxRecDepth 100000 in
theorem ini_k : ∀ a, a < 121 → mK iniM2 a = kT a := by decide +kernel
