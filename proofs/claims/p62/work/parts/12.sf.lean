def sf3 (a b c : Nat) : Nat → Option Nat := va_up (va_up (va_up (fun _ => none) (0 : Int32).toNatClampNeg (some a)) (1 : Int32).toNatClampNeg (some b)) (2 : Int32).toNatClampNeg (some c)
def sf4 (a b c d : Nat) : Nat → Option Nat := va_up (va_up (va_up (va_up (fun _ => none) (0 : Int32).toNatClampNeg (some a)) (1 : Int32).toNatClampNeg (some b)) (2 : Int32).toNatClampNeg (some c)) (3 : Int32).toNatClampNeg (some d)
theorem sf3_0 (a b c : Nat) : sf3 a b c (0 : Int32).toNatClampNeg = some a := rfl
theorem sf3_1 (a b c : Nat) : sf3 a b c (1 : Int32).toNatClampNeg = some b := rfl
theorem sf3_2 (a b c : Nat) : sf3 a b c (2 : Int32).toNatClampNeg = some c := rfl
theorem sf4_0 (a b c d : Nat) : sf4 a b c d (0 : Int32).toNatClampNeg = some a := rfl
theorem sf4_1 (a b c d : Nat) : sf4 a b c d (1 : Int32).toNatClampNeg = some b := rfl
theorem sf4_2 (a b c d : Nat) : sf4 a b c d (2 : Int32).toNatClampNeg = some c := rfl
theorem sf4_3 (a b c d : Nat) : sf4 a b c d (3 : Int32).toNatClampNeg = some d := rfl
