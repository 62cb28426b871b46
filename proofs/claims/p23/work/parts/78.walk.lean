section WK
variable {D : Nat → Nat → Nat} {n m l e i k j s sz tm ft sz' tm' ft' wm wt wf wm' wt' wf' r : Nat} {c1 c2 c3 c5 c7 c10 c11 row row' f34 f35 f34' f35' : Nat → Int32} {c6 c8 : Nat → Nat → Int32} {x x' z : Nat → Nat} {v st0 : Int32}
end WK
