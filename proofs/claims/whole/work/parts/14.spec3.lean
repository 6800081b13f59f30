-- more of the kind's methods as functions
def mr_isa (x : gg_X) (v : Int32) : Int32 := if v < 0 then 0 else if (512 : Int32) ≤ v then 0 else if x.1 6 0 v.toNatClampNeg = 0 then 0 else 1
theorem gg_ix_of {v M : Int32} {n : Nat} (h0 : ¬ v < 0) (h1 : ¬ M ≤ v) (hM : M = nI n) (hn : n < 2 ^ 31) : gg_ix v n v.toNatClampNeg := by
  subst hM
  rcases pk_ix v hn with h | h | ⟨j, hj, rfl⟩
  · exact absurd h h0
  · exact absurd h h1
  · exact ⟨vp_in_nI hj hn, rfl⟩
theorem gg_up_k {x : gg_X} {f i k a b j : Nat} {v : Int32} (h : ¬ j = k) : (gg_up x f i k v).1 a b j = x.1 a b j := by
  simp only [gg_up]
  rw [if_neg (fun z => h z.2.2)]
def mr_way (x : gg_X) (i : Nat) : Int32 := if x.2.1 9 i = none then (if x.1 9 i 2 = 0 then x.1 9 i 1 else x.1 9 i 1 + 100) else x.1 9 i 1 + 200
def mr_tgt (x : gg_X) (L : Nat) : Int32 := match mr_find x L with
  | none => -1
  | some i => match x.2.1 9 i with
    | none => -1
    | some r => x.1 11 r 4
def mr_req (x : gg_X) (q : Nat) : Int32 := if x.2.1 15 q = none then x.1 15 q 1 + 100 else x.1 15 q 1
/-- flush: the ways below k -/
def mr_fls (x : gg_X) (N : Nat → Nat) : Nat → gg_X
  | 0 => x
  | k + 1 => if x.1 9 k 2 = 0 then mr_fls x N k else gg_up (mr_cp (mr_fls x N k) 1 0 (N k * 4) 10 k 4) 9 k 2 0
def mr_flc (x : gg_X) : Nat → Nat
  | 0 => 0
  | k + 1 => if x.1 9 k 2 = 0 then mr_flc x k else mr_flc x k + 1
theorem mr_fls_9 {x : gg_X} {N : Nat → Nat} {a j : Nat} : ∀ k, (k ≤ a ∨ ¬ j = 2) → (mr_fls x N k).1 9 a j = x.1 9 a j
  | 0, _ => rfl
  | k + 1, h => by
    have ih := mr_fls_9 (x := x) (N := N) (a := a) (j := j) k (by omega)
    unfold mr_fls
    split
    · exact ih
    · rw [show ∀ y : gg_X, (gg_up y 9 k 2 0).1 9 a j = y.1 9 a j from fun y => by simp only [gg_up]; rw [if_neg (fun z => by omega)], mr_cp_o (by decide)]
      exact ih
theorem mr_flc_le {x : gg_X} : ∀ k, mr_flc x k ≤ k
  | 0 => Nat.le_refl _
  | k + 1 => by
    have h := mr_flc_le (x := x) k
    unfold mr_flc
    split <;> omega
theorem gg_nIm1 {n : Nat} (h : n < 2 ^ 31) : ¬ nI n = -1 := by
  intro z
  have h1 := nI_toInt h
  rw [z] at h1
  have h2 : (-1 : Int32).toInt = -1 := by decide
  omega
