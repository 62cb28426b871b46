section NK
variable {D : Nat → Nat → Nat} {E cn SE SA SL SM : Nat → Nat} {B : (Nat → Nat) × (Nat → Nat → Nat) × (Nat → Nat → Nat)} {n p m e j k v T s t y : Nat} {f0 f1 f2 f3 f4 f5 g0 g1 g2 g3 g4 g5 : Nat → Int32} {kn : Int32} {LO HI : Nat → Nat → Nat}
end NK
section FZ
variable {D LO HI : Nat → Nat → Nat} {E cn SE SA SL SM : Nat → Nat} {n T s t m : Nat}
end FZ
