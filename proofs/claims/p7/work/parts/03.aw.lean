/-! cells of a world, in short -/
abbrev cA (a : Nat) (c : ClassId) (n : Nat) (f : Nat → Int32) : Nat × va_E := (a, .inl (c, n, .inl f))
abbrev cB (a : Nat) (c : ClassId) (n : Nat) (f : Nat → Option Nat) : Nat × va_E := (a, .inl (c, n, .inr (.inr (.inr (.inr f)))))
abbrev cO (a k : Nat) (fs : List Value) : Nat × va_E := (a, .inr (k, fs))
abbrev wc (x : Nat × va_E) (w : va_W) : va_W := x :: w
abbrev wN : va_W := []
