section LP
variable {g t x : Nat → Nat} {n w l r p q a b j k : Nat} {v wh : Int32}
end LP
