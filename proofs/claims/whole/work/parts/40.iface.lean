/-! ===== class = model, on the invariant: the plain part ===== -/
section PURE
variable {g : Gr} {C : Nat → Int32} {rw len : Nat} {F : Nat → Int32} {mk : Int32} {ac : Nat} {ke : Nat → Int32}
end PURE
