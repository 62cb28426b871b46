section HR
variable {D : Nat → Nat → Nat} {E x t : Nat → Nat} {n e tm a b i j m p q fl : Nat} {f g h2 : Nat → Int32} {v w er mo r1 r2 : Int32}
end HR
