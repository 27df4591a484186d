/-! ## the law: methods that catch -/
abbrev cOut (v : VV) (o : Nat) (f : Nat → Int64) : va_W := [(o, .inl (v.2.1 1, 1, .inr (.inl f)))]
def bL (b : Bool) : Int64 := if b then 1 else 0
