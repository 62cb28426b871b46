section BO
variable {D : Nat → Nat → Nat} {A : Nat × Nat × (Nat → Nat → Nat)} {n sz tm ft sz' tm' ft' wm' wt' wf' b c : Nat} {row row' lo lo' g19 g19' f34 f35 f34' f35' f66 f67 f68 f69 f66' f67' f68' f69' c2 : Nat → Int32} {r1 r2 st0 e kp kp' v66 v67 v66' : Int32}
end BO
def t3 {α : Type} (a b c : α) : Nat → α := fun i => if i = 0 then a else if i = 1 then b else c
section B3
variable {D : Nat → Nat → Nat} {sz tm ft sz' tm' ft' wm' wt' wf' asz atm aft bsz btm bft csz ctm cft asz' atm' aft' bsz' btm' bft' csz' ctm' cft' : Nat} {row row' lo lo' g19 g19' f34 f35 f34' f35' f66 f67 f68 f69 f66' f67' f68' f69' arow alo brow blo crow clo arow' alo' brow' blo' crow' clo' : Nat → Int32} {r1 r2 e akp bkp ckp akp' bkp' ckp' : Int32}
end B3
