/-! ===== class = model, on the invariant: the plain part ===== -/
section PURE
variable {g : Gr} {C : Nat → Int32} {rw len : Nat} {F : Nat → Int32} {mk : Int32} {ac : Nat} {ke : Nat → Int32}
theorem P_vtl (h : LI g C rw len F mk ac ke) (x y z : Int32) : vtlC g C x y z = vtlM g x y z := sorry
theorem P_line (h : LI g C rw len F mk ac ke) (x y v : Int32) (t : Bool) : lineC g x y v t rw = lineM g x y v t ac := sorry
theorem P_lineG (h : LI g C rw len F mk ac ke) {x y v : Int32} {t : Bool} (hn : lineC g x y v t rw = none) : Gok (addG g x.toNatClampNeg y.toNatClampNeg v t) ∧ (lrn (addG g x.toNatClampNeg y.toNatClampNeg v t) (-1000) (-1000)).2 = true ∧ rw ≤ 400 := sorry
theorem P_price (h : LI g C rw len F mk ac ke) (x v : Int32) : priceC g x v rw = priceM g x v ac := sorry
theorem P_priceG (h : LI g C rw len F mk ac ke) {x v : Int32} (hn : priceC g x v rw = none) : Gok (sP g (upd (gP g) x.toNatClampNeg v)) ∧ (lrn (sP g (upd (gP g) x.toNatClampNeg v)) (-1000) (-1000)).2 = true ∧ rw ≤ 400 := sorry
theorem P_back (h : LI g C rw len F mk ac ke) (x : Int32) : backC g x rw = backM g x ac := sorry
theorem P_backG (h : LI g C rw len F mk ac ke) {x : Int32} (hn : backC g x rw = none) : Gok (sT g (upd (gT g) x.toNatClampNeg (nI 1))) ∧ (lrn (sT g (upd (gT g) x.toNatClampNeg (nI 1))) (-1000) (-1000)).2 = true ∧ rw ≤ 400 := sorry
end PURE
