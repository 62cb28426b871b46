section BD
variable {D LO HI : Nat → Nat → Nat} {ND E h : Nat → Nat} {nd : Nat → Int32} {ls ms L1 M1 : Nat → Nat → Int32} {e m a b k n v w tk T s t hd lw hg : Nat}
end BD
