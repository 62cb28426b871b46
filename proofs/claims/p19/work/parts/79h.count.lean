section UG
variable {f : Nat → Nat → Int64} {r s k j : Nat} {v : Int64}
end UG
section GW
variable {n T Q k i j q f t u r lo y : Nat} {tk : Nat → Nat} {af cs : Nat → Nat → Nat} {W W' : Nat → Nat → Nat → Int} {g g' : Nat → Int} {wy : Nat → Nat → Int64} {v a b : Int64} {gtk : Nat → Int32} {gaf gco : Nat → Nat → Int32}
end GW
