section MC
variable {D LO HI : Nat → Nat → Nat} {E h ND cn SE SA SL SM f g x t : Nat → Nat} {n m k e v T s u l a Q : Nat} {B : (Nat → Nat) × (Nat → Nat → Nat) × (Nat → Nat → Nat)}
end MC
