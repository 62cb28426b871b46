section AK
variable {D : Nat → Nat → Nat} {E x t : Nat → Nat} {n e l a b i j m k fr fl q r : Nat} {f g : Nat → Int32} {G : Nat → Nat → Int32} {v er c d fo r1 r2 : Int32}
end AK
section SS
variable {D : Nat → Nat → Nat} {E : Nat → Nat} {L a b fl q : Nat} {G : Nat → Nat → Int32}
end SS
