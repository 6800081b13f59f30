-- what the reference's methods do, as functions of the state (families 17 to 29)
def md_oi (o : Option Nat) : Int32 := match o with
  | none => -1
  | some w => nI w
def md_cnt (x : gg_X) (k : Nat) : gg_X := gg_up x 29 0 k (x.1 29 0 k + 1)
def md_way (x : gg_X) (L : Nat) : Option Nat :=
  if ¬ x.1 19 0 (2 * (L % 4)) = 0 ∧ x.1 20 0 (2 * (L % 4)) = nI L then some (2 * (L % 4))
  else if ¬ x.1 19 0 (2 * (L % 4) + 1) = 0 ∧ x.1 20 0 (2 * (L % 4) + 1) = nI L then some (2 * (L % 4) + 1) else none
def md_aw (x : gg_X) : Nat → Nat
  | 0 => 0
  | k + 1 => if x.1 19 0 k = 3 then md_aw x k + 1 else md_aw x k
def md_tg (x : gg_X) (A : Nat → Nat) (L : Nat) : Nat → Nat
  | 0 => 0
  | k + 1 => if x.1 26 0 k = 0 ∧ A k / 4 = L then md_tg x A L k + 1 else md_tg x A L k
def md_wr (x : gg_X) : Nat → Nat
  | 0 => 0
  | k + 1 => if x.1 27 0 k ≤ 99 then md_wr x k else md_wr x k + 1
def md_cho (x : gg_X) (w : Nat) : Option Nat :=
  if x.1 19 0 w = 0 then some w
  else if x.1 19 0 (w + 1) = 0 then some (w + 1)
  else if x.1 19 0 w = 3 then (if x.1 19 0 (w + 1) = 3 then none else some (w + 1))
  else if x.1 19 0 (w + 1) = 3 then some w
  else if x.1 21 0 w < x.1 21 0 (w + 1) then some w else some (w + 1)
def md_use (x : gg_X) (w : Nat) : gg_X := gg_up (gg_up x 17 0 6 (x.1 17 0 6 + 1)) 21 0 w (x.1 17 0 6 + 1)
def md_rw (x : gg_X) (n w : Nat) : Nat → gg_X
  | 0 => x
  | k + 1 => gg_up (md_rw x n w k) 28 0 (4 * n + k) ((md_rw x n w k).1 22 0 (4 * w + k))
def md_put (x : gg_X) (n : Nat) (q : Int32) (w : Nat) : gg_X :=
  gg_up (gg_up (md_rw (gg_up x 27 0 n q) n w 4) 17 0 12 (nI (n + 1))) 17 0 15 (if n = 0 then x.1 17 0 16 else x.1 17 0 15)
def md_fetch (x : gg_X) (n L w : Nat) : gg_X := md_put (md_use (gg_up (gg_up x 19 0 w 3) 20 0 w (nI L)) w) n (nI L) w
def md_fah (x : gg_X) (n L : Nat) : gg_X :=
  if x.1 17 0 17 = 0 then x else if 63 < L then x else match md_way x L with
    | some _ => x
    | none => if md_aw x 8 = 3 then x else match md_cho x (2 * (L % 4)) with
      | none => x
      | some w => if x.1 19 0 w = 2 then x else md_cnt (md_fetch x n L w) 5
def md_act (x : gg_X) (t w a : Nat) : gg_X := gg_up (if x.1 24 0 t = 0 then gg_up x 25 0 t (x.1 22 0 (4 * w + a % 4)) else gg_up (gg_up x 22 0 (4 * w + a % 4) (x.1 25 0 t)) 19 0 w 2) 26 0 t 1
def md_note (x : gg_X) (T : Nat) (a b v : Int32) : gg_X := gg_up (gg_up (gg_up (gg_up (gg_up x 23 0 T a) 24 0 T b) 25 0 T v) 26 0 T 0) 17 0 7 (nI (T + 1))
/-- issue, of address a, where T tickets were given; A: the tickets' addresses -/
def md_iss (x : gg_X) (n T a : Nat) (b v : Int32) (A : Nat → Nat) : Int32 × gg_X :=
  match md_way x (a / 4) with
  | some w => if x.1 19 0 w = 3 then (if md_tg x A (a / 4) T = 3 then (-1, md_cnt x 4) else (nI T, md_note (md_cnt (md_use x w) 2) T (nI a) b v))
      else (nI T, md_act (md_note (md_cnt (md_use x w) 1) T (nI a) b v) T w a)
  | none => if md_aw x 8 = 3 then (-1, md_cnt x 4) else match md_cho x (2 * (a / 4 % 4)) with
      | none => (-1, md_cnt x 4)
      | some w => if x.1 19 0 w = 2 then (if md_wr x n = 2 then (-1, md_cnt x 4) else (nI T, md_fah (md_fetch (md_note (md_cnt (md_put (md_cnt x 3) n (100 + x.1 20 0 w) w) 6) T (nI a) b v) (n + 1) (a / 4) w) (n + 1 + 1) (a / 4 + 1)))
          else (nI T, md_fah (md_fetch (md_note (md_cnt x 3) T (nI a) b v) n (a / 4) w) (n + 1) (a / 4 + 1))
theorem md_way_lt {x : gg_X} {L w : Nat} (h : md_way x L = some w) : w < 8 := by
  unfold md_way at h
  repeat' split at h
  all_goals first | (cases h; omega) | cases h
theorem md_cho_lt {x : gg_X} {s w : Nat} (hs : s + 1 < 8) (h : md_cho x s = some w) : w < 8 := by
  unfold md_cho at h
  repeat' split at h
  all_goals first | (cases h; omega) | cases h
theorem md_aw_le {x : gg_X} : ∀ k, md_aw x k ≤ k
  | 0 => Nat.le_refl _
  | k + 1 => by
    have h := md_aw_le (x := x) k
    unfold md_aw
    split <;> omega
theorem md_tg_le {x : gg_X} {A : Nat → Nat} {L : Nat} : ∀ k, md_tg x A L k ≤ k
  | 0 => Nat.le_refl _
  | k + 1 => by
    have h := md_tg_le (x := x) (A := A) (L := L) k
    unfold md_tg
    split <;> omega
theorem md_wr_le {x : gg_X} : ∀ k, md_wr x k ≤ k
  | 0 => Nat.le_refl _
  | k + 1 => by
    have h := md_wr_le (x := x) k
    unfold md_wr
    split <;> omega
theorem md_rw_o {x : gg_X} {n w a b c : Nat} (h : ¬ a = 28) : ∀ k, (md_rw x n w k).1 a b c = x.1 a b c
  | 0 => rfl
  | k + 1 => by
    show (gg_up (md_rw x n w k) 28 0 (4 * n + k) ((md_rw x n w k).1 22 0 (4 * w + k))).1 a b c = _
    rw [gg_up_ne (fun z => h z.1)]
    exact md_rw_o h k
theorem md_put_o {x : gg_X} {n w a b c : Nat} {q : Int32} (h1 : ¬ a = 28) (h2 : ¬ a = 27) (h3 : ¬ a = 17) : (md_put x n q w).1 a b c = x.1 a b c := by
  unfold md_put
  rw [gg_up_ne (fun z => h3 z.1), gg_up_ne (fun z => h3 z.1), md_rw_o h1, gg_up_ne (fun z => h2 z.1)]
theorem md_put_f {x : gg_X} {n w c : Nat} {q : Int32} (h1 : ¬ c = 12) (h2 : ¬ c = 15) : (md_put x n q w).1 17 0 c = x.1 17 0 c := by
  unfold md_put
  rw [gg_up_k h2, gg_up_k h1, md_rw_o (by decide), gg_up_ne (fun z => absurd z.1 (by decide))]
theorem md_put_n {x : gg_X} {n w : Nat} {q : Int32} : (md_put x n q w).1 17 0 12 = nI (n + 1) := by
  unfold md_put
  rw [gg_up_k (by decide)]
  simp [gg_up]
theorem md_fetch_n {x : gg_X} {n L w : Nat} : (md_fetch x n L w).1 17 0 12 = nI (n + 1) := by
  unfold md_fetch
  exact md_put_n
theorem md_note_a {x : gg_X} {T : Nat} {a b v : Int32} : (md_note x T a b v).1 23 0 T = a := by
  simp [md_note, gg_up]
