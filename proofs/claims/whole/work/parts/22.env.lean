/-- what the law's start gives, for all methods: S0 the start, b the script's cell -/
def vEnv (S0 : State) (b : Nat) (D : va_G) (dT : Nat → ClassId) : Prop := va_K D vcl (vty dT) S0 ∧ (∀ w ∈ lw_tbl, w.before #[Value.ref b] S0 = true) ∧ (Jvm.Cond.and given_1 narrow_1).before #[Value.ref b] S0 = true
