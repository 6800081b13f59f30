def mr_sum (V : Nat → Int32) : Nat → Int32
  | 0 => 0
  | k + 1 => mr_sum V k + V k
