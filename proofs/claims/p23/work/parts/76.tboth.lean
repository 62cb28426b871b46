section TB
variable {D : Nat → Nat → Nat} {asz atm aft bsz btm bft asz' atm' aft' bsz' btm' bft' L : Nat} {arow brow arow' brow' f44 f45 f44' f45' : Nat → Int32} {xa xb : Nat → Nat} {e lt r1 r2 : Int32}
end TB
