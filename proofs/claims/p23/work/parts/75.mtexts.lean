section TN
variable {D : Nat → Nat → Nat} {N : Nat → Nat} {X : Nat → Nat → Nat} {L t l n : Nat} {f44 f45 f31 f33 : Nat → Int32} {x : Nat → Nat}
end TN
