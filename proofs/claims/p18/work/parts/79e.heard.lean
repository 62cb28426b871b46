section HR
variable {D : Nat → Nat → Nat} {E x t : Nat → Nat} {n e tm a b i j m p q fl : Nat} {f g h2 : Nat → Int32} {v w er mo r1 r2 : Int32}
theorem bgn_ge : ∀ {n : Nat}, (∀ k, k < n → 1 ≤ t (x k)) → tkS t x n ≤ m → bgn t x n m = 0
  | 0, _, _ => rfl
  | n + 1, h, hm => by
    have e : tkS t x (n + 1) = tkS t x n + t (x n) := rfl
    have z := h n (Nat.lt_succ_self n)
    rw [bgn_n (by omega)]
    exact bgn_ge (fun k hk => h k (by omega)) (by omega)
end HR
