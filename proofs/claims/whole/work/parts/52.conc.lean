-- kind (in x) and reference (in y) over the shared state
def cW (x y : gg_X) (S Ln Rg Us : Nat → Nat) : Prop := ∀ i, i < 8 → y.1 19 0 i = nI (S i) ∧ (S i ≠ 0 → y.1 20 0 i = nI (Ln i)) ∧ x.1 9 i 1 = (if S i = 0 then -1 else nI (Ln i)) ∧ x.1 9 i 2 = (if S i = 2 then 1 else 0) ∧ x.2.1 9 i = (if S i = 3 then some (Rg i) else none) ∧ x.1 9 i 4 = nI (Us i) ∧ y.1 21 0 i = nI (Us i) ∧ ∀ k, k < 4 → x.1 10 i k = y.1 22 0 (4 * i + k)
def cR (x y : gg_X) (F sz : Nat → Nat) (Tk : Nat → Nat → Nat) (A : Nat → Nat) : Prop := ∀ r, r < 3 → x.1 11 r 3 = nI (F r) ∧ x.1 11 r 4 = nI (sz r) ∧ ∀ j, j < sz r → x.1 12 r j = nI (Tk r j) ∧ x.1 13 r j = nI (A (Tk r j) % 4) ∧ x.1 14 r j = y.1 24 0 (Tk r j)
def cT (x y : gg_X) (A Dn : Nat → Nat) (T : Nat) : Prop := (∀ t, t < T → y.1 23 0 t = nI (A t) ∧ x.1 6 0 t = nI (Dn t) ∧ y.1 26 0 t = nI (Dn t) ∧ x.1 5 0 t = y.1 25 0 t) ∧ ∀ t, T ≤ t → t < 512 → x.1 6 0 t = 0
def cQ (x y : gg_X) (h n : Nat) (RL : Nat → Nat) (Rk : Nat → Option Nat) : Prop := ∀ k, k < n → x.1 15 ((h + k) % 5) 1 = nI (RL k) ∧ x.2.1 15 ((h + k) % 5) = Rk k ∧ y.1 27 0 k = nI (if Rk k = none then 100 + RL k else RL k) ∧ (Rk k = none → ∀ j, j < 4 → x.1 16 ((h + k) % 5) j = y.1 28 0 (4 * k + j))
def cP (x y : gg_X) (h n d lf : Nat) : Prop := x.1 4 0 1 = nI h ∧ x.1 4 0 2 = nI n ∧ y.1 17 0 12 = nI n ∧ x.1 4 0 3 = nI lf ∧ y.1 17 0 15 = nI lf ∧ x.1 4 0 4 = nI d ∧ y.1 17 0 16 = nI d
def cU (x y : gg_X) (U : Nat) : Prop := x.1 0 0 8 = nI U ∧ y.1 17 0 6 = nI U ∧ x.1 0 0 7 = y.1 17 0 17
def cE (x y : gg_X) : Prop := ∀ a, a < 256 → x.1 1 0 a = y.1 18 0 a
def cA (x y : gg_X) (S Ln Rg Us F sz : Nat → Nat) (Tk : Nat → Nat → Nat) (A Dn RL : Nat → Nat) (Rk : Nat → Option Nat) (h n T U d lf : Nat) : Prop := cW x y S Ln Rg Us ∧ cR x y F sz Tk A ∧ cT x y A Dn T ∧ cQ x y h n RL Rk ∧ cP x y h n d lf ∧ cU x y U ∧ cE x y
section CON
variable {x y x' y' : gg_X} {S Ln Rg Us F sz A Dn RL : Nat → Nat} {Tk : Nat → Nat → Nat} {Rk : Nat → Option Nat} {h n T U d lf i r L v a k : Nat}
theorem cW_fr (c : cW x y S Ln Rg Us) (e1 : x'.1 9 = x.1 9) (e2 : x'.1 10 = x.1 10) (e3 : x'.2.1 9 = x.2.1 9) (e4 : y'.1 19 = y.1 19) (e5 : y'.1 20 = y.1 20) (e6 : y'.1 21 = y.1 21) (e7 : y'.1 22 = y.1 22) : cW x' y' S Ln Rg Us := by
  unfold cW
  rw [e1, e2, e3, e4, e5, e6, e7]
  exact c
theorem cR_fr (c : cR x y F sz Tk A) (e1 : x'.1 11 = x.1 11) (e2 : x'.1 12 = x.1 12) (e3 : x'.1 13 = x.1 13) (e4 : x'.1 14 = x.1 14) (e5 : y'.1 24 = y.1 24) : cR x' y' F sz Tk A := by
  unfold cR
  rw [e1, e2, e3, e4, e5]
  exact c
theorem cT_fr (c : cT x y A Dn T) (e1 : x'.1 5 = x.1 5) (e2 : x'.1 6 = x.1 6) (e3 : y'.1 23 = y.1 23) (e4 : y'.1 25 = y.1 25) (e5 : y'.1 26 = y.1 26) : cT x' y' A Dn T := by
  unfold cT
  rw [e1, e2, e3, e4, e5]
  exact c
theorem cQ_fr (c : cQ x y h n RL Rk) (e1 : x'.1 15 = x.1 15) (e2 : x'.1 16 = x.1 16) (e3 : x'.2.1 15 = x.2.1 15) (e4 : y'.1 27 = y.1 27) (e5 : y'.1 28 = y.1 28) : cQ x' y' h n RL Rk := by
  unfold cQ
  rw [e1, e2, e3, e4, e5]
  exact c
theorem cP_fr (c : cP x y h n d lf) (e1 : x'.1 4 = x.1 4) (e2 : y'.1 17 0 12 = y.1 17 0 12) (e3 : y'.1 17 0 15 = y.1 17 0 15) (e4 : y'.1 17 0 16 = y.1 17 0 16) : cP x' y' h n d lf := by
  unfold cP
  rw [e1, e2, e3, e4]
  exact c
theorem cU_fr (c : cU x y U) (e1 : x'.1 0 = x.1 0) (e2 : y'.1 17 0 6 = y.1 17 0 6) (e3 : y'.1 17 0 17 = y.1 17 0 17) : cU x' y' U := by
  unfold cU
  rw [e1, e2, e3]
  exact c
theorem cE_fr (c : cE x y) (e1 : x'.1 1 = x.1 1) (e2 : y'.1 18 = y.1 18) : cE x' y' := by
  unfold cE
  rw [e1, e2]
  exact c
/-- the kind's counts, the reference's counts, thrown, the early value: none of it is of the shared state -/
theorem cA_cx (c : cA x y S Ln Rg Us F sz Tk A Dn RL Rk h n T U d lf) (k : Nat) : cA (mr_cnt x k) y S Ln Rg Us F sz Tk A Dn RL Rk h n T U d lf := by
  obtain ⟨c1, c2, c3, c4, c5, c6, c7⟩ := c
  exact ⟨cW_fr c1 rfl rfl rfl rfl rfl rfl rfl, cR_fr c2 rfl rfl rfl rfl rfl, cT_fr c3 rfl rfl rfl rfl rfl, cQ_fr c4 rfl rfl rfl rfl rfl, cP_fr c5 rfl rfl rfl rfl, cU_fr c6 rfl rfl rfl, cE_fr c7 rfl rfl⟩
theorem cA_cy (c : cA x y S Ln Rg Us F sz Tk A Dn RL Rk h n T U d lf) (k : Nat) : cA x (md_cnt y k) S Ln Rg Us F sz Tk A Dn RL Rk h n T U d lf := by
  obtain ⟨c1, c2, c3, c4, c5, c6, c7⟩ := c
  exact ⟨cW_fr c1 rfl rfl rfl rfl rfl rfl rfl, cR_fr c2 rfl rfl rfl rfl rfl, cT_fr c3 rfl rfl rfl rfl rfl, cQ_fr c4 rfl rfl rfl rfl rfl, cP_fr c5 rfl rfl rfl rfl, cU_fr c6 rfl rfl rfl, cE_fr c7 rfl rfl⟩
theorem cA_th (c : cA x y S Ln Rg Us F sz Tk A Dn RL Rk h n T U d lf) (v : Int32) : cA x (gg_up y 17 0 0 v) S Ln Rg Us F sz Tk A Dn RL Rk h n T U d lf := by
  obtain ⟨c1, c2, c3, c4, c5, c6, c7⟩ := c
  exact ⟨cW_fr c1 rfl rfl rfl rfl rfl rfl rfl, cR_fr c2 rfl rfl rfl rfl rfl, cT_fr c3 rfl rfl rfl rfl rfl, cQ_fr c4 rfl rfl rfl rfl rfl, cP_fr c5 rfl rfl rfl rfl, cU_fr c6 rfl rfl rfl, cE_fr c7 rfl rfl⟩
theorem cA_ve (c : cA x y S Ln Rg Us F sz Tk A Dn RL Rk h n T U d lf) (v : Int32) : cA (gg_up x 5 0 T v) y S Ln Rg Us F sz Tk A Dn RL Rk h n T U d lf := by
  obtain ⟨c1, c2, c3, c4, c5, c6, c7⟩ := c
  refine ⟨cW_fr c1 rfl rfl rfl rfl rfl rfl rfl, cR_fr c2 rfl rfl rfl rfl rfl, ⟨fun t ht => ?_, c3.2⟩, cQ_fr c4 rfl rfl rfl rfl rfl, cP_fr c5 rfl rfl rfl rfl, cU_fr c6 rfl rfl rfl, cE_fr c7 rfl rfl⟩
  obtain ⟨t1, t2, t3, t4⟩ := c3.1 t ht
  refine ⟨t1, t2, t3, ?_⟩
  rw [gg_up_k (by omega)]
  exact t4
/-- the reference notes an access -/
theorem cA_no (c : cA x y S Ln Rg Us F sz Tk A Dn RL Rk h n T U d lf) (hTk : ∀ r, r < 3 → ∀ j, j < sz r → Tk r j < T) (a b v : Int32) : cA x (md_note y T a b v) S Ln Rg Us F sz Tk A Dn RL Rk h n T U d lf := by
  obtain ⟨c1, c2, c3, c4, c5, c6, c7⟩ := c
  refine ⟨cW_fr c1 rfl rfl rfl rfl rfl rfl rfl, fun r hr => ?_, ⟨fun t ht => ?_, c3.2⟩, cQ_fr c4 rfl rfl rfl rfl rfl, cP_fr c5 rfl rfl rfl rfl, cU_fr c6 rfl rfl rfl, cE_fr c7 rfl rfl⟩
  · obtain ⟨r1, r2, r3⟩ := c2 r hr
    refine ⟨r1, r2, fun j hj => ?_⟩
    obtain ⟨j1, j2, j3⟩ := r3 j hj
    have := hTk r hr j hj
    refine ⟨j1, j2, ?_⟩
    rw [j3]
    simp [md_note, gg_up, show ¬ Tk r j = T by omega]
  · obtain ⟨t1, t2, t3, t4⟩ := c3.1 t ht
    refine ⟨?_, t2, ?_, ?_⟩
    · rw [← t1]
      simp [md_note, gg_up, show ¬ t = T by omega]
    · rw [← t3]
      simp [md_note, gg_up, show ¬ t = T by omega]
    · rw [t4]
      simp [md_note, gg_up, show ¬ t = T by omega]
theorem cW_use (c : cW x y S Ln Rg Us) (cu : cU x y U) (i : Nat) : cW (mr_use x i) (md_use y i) S Ln Rg (va_up Us i (U + 1)) := by
  intro j hj
  obtain ⟨w1, w2, w3, w4, w5, w6, w7, w8⟩ := c j hj
  refine ⟨w1, w2, ?_, ?_, w5, ?_, ?_, w8⟩
  · rw [← w3]
    simp [mr_use, gg_up]
  · rw [← w4]
    simp [mr_use, gg_up]
  · unfold va_up
    by_cases e : j = i
    · simp [mr_use, gg_up, e, cu.1, nI_1]
    · rw [if_neg e, ← w6]
      simp [mr_use, gg_up, e]
  · unfold va_up
    by_cases e : j = i
    · simp [md_use, gg_up, e, cu.2.1, nI_1]
    · rw [if_neg e, ← w7]
      simp [md_use, gg_up, e]
theorem cU_use (cu : cU x y U) (i : Nat) : cU (mr_use x i) (md_use y i) (U + 1) := by
  refine ⟨?_, ?_, ?_⟩
  · simp [mr_use, gg_up, cu.1, nI_1]
  · simp [md_use, gg_up, cu.2.1, nI_1]
  · rw [show (mr_use x i).1 0 0 7 = x.1 0 0 7 from by simp [mr_use, gg_up], show (md_use y i).1 17 0 17 = y.1 17 0 17 from by simp [md_use, gg_up]]
    exact cu.2.2
theorem cA_use (c : cA x y S Ln Rg Us F sz Tk A Dn RL Rk h n T U d lf) (i : Nat) : cA (mr_use x i) (md_use y i) S Ln Rg (va_up Us i (U + 1)) F sz Tk A Dn RL Rk h n T (U + 1) d lf := by
  obtain ⟨c1, c2, c3, c4, c5, c6, c7⟩ := c
  exact ⟨cW_use c1 c6 i, cR_fr c2 rfl rfl rfl rfl rfl, cT_fr c3 rfl rfl rfl rfl rfl, cQ_fr c4 rfl rfl rfl rfl rfl, cP_fr c5 rfl rfl rfl rfl, cU_use c6 i, cE_fr c7 rfl rfl⟩
/-- a row more -/
theorem cQ_app (c : cQ x y h n RL Rk) (hn : n < 5) {o : Option Nat} (h1 : ∀ q, q ≠ (h + n) % 5 → x'.1 15 q 1 = x.1 15 q 1 ∧ x'.2.1 15 q = x.2.1 15 q ∧ ∀ j, x'.1 16 q j = x.1 16 q j) (h2 : x'.1 15 ((h + n) % 5) 1 = nI L) (h3 : x'.2.1 15 ((h + n) % 5) = o)
    (h4 : ∀ k, k < n → y'.1 27 0 k = y.1 27 0 k ∧ ∀ j, j < 4 → y'.1 28 0 (4 * k + j) = y.1 28 0 (4 * k + j)) (h5 : y'.1 27 0 n = nI (if o = none then 100 + L else L)) (h6 : o = none → ∀ j, j < 4 → x'.1 16 ((h + n) % 5) j = y'.1 28 0 (4 * n + j)) : cQ x' y' h (n + 1) (va_up RL n L) (va_up Rk n o) := by
  intro k hk
  by_cases e : k = n
  · subst e
    rw [va_up_self, va_up_self]
    exact ⟨h2, h3, h5, h6⟩
  · rw [va_up_ne _ _ e, va_up_ne _ _ e]
    obtain ⟨k1, k2, k3, k4⟩ := c k (by omega)
    obtain ⟨a1, a2, a3⟩ := h1 ((h + k) % 5) (by omega)
    obtain ⟨b1, b2⟩ := h4 k (by omega)
    refine ⟨a1.trans k1, a2.trans k2, b1.trans k3, fun z j hj => ?_⟩
    rw [a3, b2 j hj]
    exact k4 z j hj
end CON
