theorem md_tg_x {x y : gg_X} {A : Nat → Nat} {L : Nat} (e : x.1 26 = y.1 26) : ∀ k, md_tg x A L k = md_tg y A L k
  | 0 => rfl
  | k + 1 => by
    unfold md_tg
    rw [e, md_tg_x e k]
