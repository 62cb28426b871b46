section CS
variable {D : Nat → Nat → Nat} {cs : Nat → Nat → Nat} {k u T n m j i f y a b l t : Nat} {gco gaf : Nat → Nat → Int32} {gtk : Nat → Int32} {tt x : Nat → Nat} {v bk set : Int32}
end CS
