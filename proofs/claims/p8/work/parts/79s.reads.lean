section RD
variable {D cs : Nat → Nat → Nat} {L T Q m f k l n i g q a y : Nat} {w : Nat → Int64} {v : Int64}
end RD
section MI
variable {lo fl bg tg hv : Nat → Int32} {E v g : Nat → Nat} {e f p d r x l m c k : Nat} {D : Nat → Nat → Nat}
end MI
