section LD
variable {D : Nat → Nat → Nat} {n k l j m ns nl ne : Nat} {g18 g20 g21 g22 g23 g24 f31 f32 f33 : Nat → Int32} {t r : Nat → Nat}
end LD
