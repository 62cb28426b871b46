section WL
variable {D cs : Nat → Nat → Nat} {L T m f k l n i j g c y lo fo : Nat} {w : Nat → Int64} {v : Int64} {bg mr mb : Nat → Int32}
end WL
section MY
variable {bg mr mb : Nat → Int32} {l m d r n j T L : Nat} {t x : Nat → Nat} {D cst : Nat → Nat → Nat}
end MY
