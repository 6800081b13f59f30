-- what the kind's methods do, as functions of the state
def mr_use (x : gg_X) (i : Nat) : gg_X := gg_up (gg_up x 0 0 8 (x.1 0 0 8 + 1)) 9 i 4 (x.1 0 0 8 + 1)
def mr_ans (x : gg_X) (i t w : Nat) (b : Int32) : gg_X := gg_up (if b = 0 then gg_up x 5 0 t (x.1 10 i w) else gg_up (gg_up x 10 i w (x.1 5 0 t)) 9 i 2 1) 6 0 t 1
def mr_find (x : gg_X) (L : Nat) : Option Nat := if x.1 9 (L % 4 * 2) 1 = nI L then some (L % 4 * 2) else if x.1 9 (L % 4 * 2 + 1) 1 = nI L then some (L % 4 * 2 + 1) else none
def mr_cho (x : gg_X) (s : Nat) : Option Nat :=
  if x.1 9 s 1 = -1 then some s
  else if x.1 9 (s + 1) 1 = -1 then some (s + 1)
  else if x.2.1 9 s = none then (if x.2.1 9 (s + 1) = none ∧ x.1 9 (s + 1) 4 < x.1 9 s 4 then some (s + 1) else some s)
  else (if x.2.1 9 (s + 1) = none then some (s + 1) else none)
def mr_free (x : gg_X) : Option Nat := if x.1 11 0 3 = 0 then some 0 else if x.1 11 1 3 = 0 then some 1 else if x.1 11 2 3 = 0 then some 2 else none
def mr_app (x : gg_X) (q n : Nat) (L : Int32) (o : Option Nat) : gg_X :=
  if n = 0 then gg_up (gg_up (gg_pu (gg_up x 15 q 1 L) 15 q o) 4 0 2 (nI (n + 1))) 4 0 3 (x.1 4 0 4) else gg_up (gg_pu (gg_up x 15 q 1 L) 15 q o) 4 0 2 (nI (n + 1))
/-- k words from (g, j) to (f, i), from place o on -/
def mr_cp (x : gg_X) (f i o g j : Nat) : Nat → gg_X
  | 0 => x
  | k + 1 => gg_up (mr_cp x f i o g j k) f i (o + k) ((mr_cp x f i o g j k).1 g j k)
def mr_appw (x : gg_X) (q n : Nat) (L : Int32) (i : Nat) : gg_X := mr_cp (mr_app x q n L none) 16 q 0 10 i 4
def mr_cw (x : gg_X) (h : Nat) : Nat → Nat
  | 0 => 0
  | k + 1 => if x.2.1 15 ((h + k) % 5) = none then mr_cw x h k + 1 else mr_cw x h k
def mr_drop (x : gg_X) (h n : Nat) : gg_X := gg_up (gg_up (gg_up x 4 0 1 (nI ((h + 1) % 5))) 4 0 2 (nI (n - 1))) 4 0 3 (if n = 1 then 0 else x.1 4 0 4)
def mr_fetch (x : gg_X) (L i r q n : Nat) : gg_X := mr_app (mr_use (gg_pu (gg_up (gg_up (gg_up (gg_up x 11 r 3 1) 11 r 4 0) 9 i 1 (nI L)) 9 i 2 0) 9 i (some r)) i) q n (nI L) (some i)
def mr_add (x : gg_X) (r k : Nat) (t w b : Int32) : gg_X := gg_up (gg_up (gg_up (gg_up x 12 r k t) 13 r k w) 14 r k b) 11 r 4 (nI (k + 1))
