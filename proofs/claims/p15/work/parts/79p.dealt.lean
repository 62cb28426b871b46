section DT
variable {U T W L us us' lt lt' f : Nat → Int32} {n k a b m j i : Nat} {x : Nat → Nat} {r r1 r2 v w : Int32}
end DT
