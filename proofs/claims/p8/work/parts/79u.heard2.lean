section TH
variable {D LO HI : Nat → Nat → Nat} {E z h g ND cn SE SA SL SM : Nat → Nat} {fl n m i k e T s t a b : Nat} {f f' : Nat → Int32} {B : (Nat → Nat) × (Nat → Nat → Nat) × (Nat → Nat → Nat)}
end TH
