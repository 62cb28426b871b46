section LO
variable {n m : Nat} {f g f' g' : Nat → Int32} {w y s0 r1 r2 : Int32}
end LO
