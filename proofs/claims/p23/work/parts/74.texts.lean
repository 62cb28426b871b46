section TX
variable {D : Nat → Nat → Nat} {n l e i f k j sz tm ft : Nat} {c1 c2 c3 c5 c7 c10 c11 row f44 : Nat → Int32} {c6 c8 : Nat → Nat → Int32} {x x' : Nat → Nat} {v45 : Int32} {o : Nat}
end TX
