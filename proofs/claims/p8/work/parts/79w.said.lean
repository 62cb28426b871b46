section WS
variable {D cs : Nat → Nat → Nat} {L T m f k l n i j g c y lo fo : Nat} {w : Nat → Int64} {v : Int64} 
end WS
section GO
variable {D : Nat → Nat → Nat} {kd tk lo fl sd : Nat → Int32} {E h g : Nat → Nat} {a b T s m f n c y : Nat}
end GO
