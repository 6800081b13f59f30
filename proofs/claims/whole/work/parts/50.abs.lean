-- what kind and reference share: an abstract state by functions, its invariants
def s_aw (S : Nat → Nat) : Nat → Nat
  | 0 => 0
  | k + 1 => if S k = 3 then s_aw S k + 1 else s_aw S k
def s_cw (R : Nat → Option Nat) : Nat → Nat
  | 0 => 0
  | k + 1 => if R k = none then s_cw R k + 1 else s_cw R k
theorem s_aw_up (S : Nat → Nat) (i v : Nat) : ∀ k, s_aw (va_up S i v) k + (if i < k ∧ S i = 3 then 1 else 0) = s_aw S k + (if i < k ∧ v = 3 then 1 else 0)
  | 0 => by simp [s_aw]
  | k + 1 => by
    have ih := s_aw_up S i v k
    unfold s_aw
    by_cases hk : k = i
    · subst hk
      rw [va_up_self]
      simp only [Nat.lt_irrefl, false_and, if_false, Nat.lt_succ_self, true_and] at ih ⊢
      repeat' split
      all_goals omega
    · rw [va_up_ne _ _ hk]
      have e : (i < k + 1) ↔ (i < k) := ⟨fun h => by omega, fun h => by omega⟩
      simp only [e]
      by_cases h1 : i < k ∧ S i = 3 <;> by_cases h2 : i < k ∧ v = 3 <;> by_cases h3 : S k = 3 <;> simp only [h1, h2, h3, if_true, if_false] at ih ⊢ <;> omega
theorem s_cw_congr {R Q : Nat → Option Nat} : ∀ n, (∀ k, k < n → R k = Q k) → s_cw R n = s_cw Q n
  | 0, _ => rfl
  | n + 1, h => by
    unfold s_cw
    rw [h n (Nat.lt_succ_self n), s_cw_congr n (fun k hk => h k (Nat.lt_succ_of_lt hk))]
theorem s_cw_shift (R : Nat → Option Nat) : ∀ n, s_cw R (n + 1) = (if R 0 = none then 1 else 0) + s_cw (fun k => R (k + 1)) n
  | 0 => by
    unfold s_cw
    simp [s_cw]
  | n + 1 => by
    have ih := s_cw_shift R n
    have e : s_cw R (n + 1 + 1) = if R (n + 1) = none then s_cw R (n + 1) + 1 else s_cw R (n + 1) := rfl
    have e2 : s_cw (fun k => R (k + 1)) (n + 1) = if R (n + 1) = none then s_cw (fun k => R (k + 1)) n + 1 else s_cw (fun k => R (k + 1)) n := rfl
    rw [e, e2, ih]
    repeat' split
    all_goals omega
theorem s_cw_up (R : Nat → Option Nat) (n : Nat) (o : Option Nat) : s_cw (va_up R n o) (n + 1) = (if o = none then 1 else 0) + s_cw R n := by
  show (if va_up R n o n = none then s_cw (va_up R n o) n + 1 else s_cw (va_up R n o) n) = _
  rw [va_up_self, s_cw_congr (R := va_up R n o) (Q := R) n (fun k hk => va_up_ne _ _ (by omega))]
  split <;> omega
theorem s_cw_le (R : Nat → Option Nat) : ∀ n, s_cw R n ≤ n
  | 0 => Nat.le_refl _
  | n + 1 => by
    have h := s_cw_le R n
    unfold s_cw
    split <;> omega
-- the invariants
def iW (S Ln Us : Nat → Nat) (U : Nat) : Prop := (∀ i, i < 8 → S i ≤ 3 ∧ (S i ≠ 0 → Ln i < 64 ∧ Ln i % 4 = i / 2) ∧ Us i ≤ U) ∧ ∀ s, s < 4 → S (2 * s) ≠ 0 → S (2 * s + 1) ≠ 0 → Ln (2 * s) ≠ Ln (2 * s + 1) ∧ Us (2 * s) ≠ Us (2 * s + 1)
def iR (S Rg F : Nat → Nat) : Prop := (∀ i, i < 8 → S i = 3 → Rg i < 3 ∧ F (Rg i) = 1) ∧ (∀ i j, i < 8 → j < 8 → S i = 3 → S j = 3 → Rg i = Rg j → i = j) ∧ (∀ r, r < 3 → F r ≤ 1) ∧ s_aw S 8 = F 0 + F 1 + F 2
def iT (S Ln Rg sz : Nat → Nat) (Tk : Nat → Nat → Nat) (A Dn : Nat → Nat) (T : Nat) : Prop := (∀ t, t < T → A t < 256 ∧ Dn t ≤ 1) ∧ (∀ r, r < 3 → sz r ≤ 3 ∧ (∀ j, j < sz r → Tk r j < T) ∧ ∀ j k, j < k → k < sz r → Tk r j < Tk r k) ∧
  (∀ i, i < 8 → S i = 3 → ∀ t, t < T → ((Dn t = 0 ∧ A t / 4 = Ln i) ↔ ∃ j, j < sz (Rg i) ∧ Tk (Rg i) j = t)) ∧ ∀ t, t < T → Dn t = 0 → ∃ i, i < 8 ∧ S i = 3 ∧ Ln i = A t / 4
def iQ (S Ln F RL : Nat → Nat) (Rk : Nat → Option Nat) (n : Nat) : Prop := (∀ k, k < n → RL k < 64 ∧ ∀ i, Rk k = some i → i < 8 ∧ S i = 3 ∧ Ln i = RL k) ∧ (∀ k j i, k < n → j < n → Rk k = some i → Rk j = some i → k = j) ∧ (∀ i, i < 8 → S i = 3 → ∃ k, k < n ∧ Rk k = some i) ∧ s_cw Rk n ≤ 2 ∧ n = s_cw Rk n + (F 0 + F 1 + F 2)
def iM (h n d lf : Nat) : Prop := h < 5 ∧ n ≤ 5 ∧ 1 ≤ d ∧ d ≤ 9 ∧ (n = 0 → lf = 0) ∧ (0 < n → 1 ≤ lf ∧ lf ≤ 9)
section ABS
variable {S Ln Rg Us F sz A Dn RL : Nat → Nat} {Tk : Nat → Nat → Nat} {Rk : Nat → Option Nat} {U T n i r L v a k : Nat}
theorem iW_uniq (h : iW S Ln Us U) {i j : Nat} (hi : i < 8) (hj : j < 8) (h1 : S i ≠ 0) (h2 : S j ≠ 0) (e : Ln i = Ln j) : i = j := by
  have a1 := (h.1 i hi).2.1 h1
  have a2 := (h.1 j hj).2.1 h2
  have e2 : i / 2 = j / 2 := by rw [← a1.2, ← a2.2, e]
  refine Decidable.byContradiction fun hne => ?_
  obtain ⟨s, hs4, hq⟩ : ∃ s, s < 4 ∧ ((i = 2 * s ∧ j = 2 * s + 1) ∨ (j = 2 * s ∧ i = 2 * s + 1)) := ⟨i / 2, by omega, by omega⟩
  have hs := h.2 s hs4
  rcases hq with ⟨rfl, rfl⟩ | ⟨rfl, rfl⟩
  · exact (hs h1 h2).1 e
  · exact (hs h2 h1).1 e.symm
theorem iW_use (h : iW S Ln Us U) (i : Nat) : iW S Ln (va_up Us i (U + 1)) (U + 1) := by
  refine ⟨fun j hj => ?_, fun s hs h1 h2 => ?_⟩
  · obtain ⟨a1, a2, a3⟩ := h.1 j hj
    refine ⟨a1, a2, ?_⟩
    unfold va_up
    split <;> omega
  · obtain ⟨a1, a2⟩ := h.2 s hs h1 h2
    refine ⟨a1, ?_⟩
    have b1 := (h.1 (2 * s) (by omega)).2.2
    have b2 := (h.1 (2 * s + 1) (by omega)).2.2
    unfold va_up
    repeat' split
    all_goals omega
theorem iW_set (h : iW S Ln Us U) (hs : S i ≠ 0) (hv : v ≤ 3) : iW (va_up S i v) Ln Us U := by
  have key : ∀ j, va_up S i v j ≠ 0 → S j ≠ 0 := by
    intro j hj
    unfold va_up at hj
    split at hj
    · rename_i e
      rw [e]
      exact hs
    · exact hj
  refine ⟨fun j hj => ?_, fun s hs h1 h2 => h.2 s hs (key _ h1) (key _ h2)⟩
  obtain ⟨a1, a2, a3⟩ := h.1 j hj
  refine ⟨?_, fun z => a2 (key _ z), a3⟩
  unfold va_up
  split <;> omega
theorem iW_fetch (h : iW S Ln Us U) (hi : i < 8) (hL : L < 64) (hLi : L % 4 = i / 2) (hno : ∀ j, j < 8 → S j ≠ 0 → j / 2 = i / 2 → Ln j ≠ L) : iW (va_up S i 3) (va_up Ln i L) (va_up Us i (U + 1)) (U + 1) := by
  have hu := iW_use h i
  have key : ∀ j, j ≠ i → va_up S i 3 j = S j := fun j hj => va_up_ne _ _ hj
  refine ⟨fun j hj => ?_, fun s hs h1 h2 => ⟨?_, ?_⟩⟩
  · refine ⟨?_, ?_, (hu.1 j hj).2.2⟩
    · unfold va_up
      have := (h.1 j hj).1
      split <;> omega
    · by_cases e : j = i
      · subst e
        intro _
        rw [va_up_self]
        exact ⟨hL, hLi⟩
      · rw [va_up_ne _ _ e, va_up_ne _ _ e]
        exact (h.1 j hj).2.1
  · by_cases e1 : 2 * s = i
    · subst e1
      have e2 : ¬ 2 * s + 1 = 2 * s := by omega
      rw [key _ e2] at h2
      rw [va_up_ne _ _ e2, va_up_self]
      exact fun z => hno (2 * s + 1) (by omega) h2 (by omega) z.symm
    · rw [key _ e1] at h1
      by_cases e2 : 2 * s + 1 = i
      · subst e2
        rw [va_up_ne _ _ e1, va_up_self]
        exact hno (2 * s) (by omega) h1 (by omega)
      · rw [key _ e2] at h2
        rw [va_up_ne _ _ e1, va_up_ne _ _ e2]
        exact (h.2 s hs h1 h2).1
  · have b1 := (h.1 (2 * s) (by omega)).2.2
    have b2 := (h.1 (2 * s + 1) (by omega)).2.2
    by_cases e1 : 2 * s = i
    · subst e1
      have e2 : ¬ 2 * s + 1 = 2 * s := by omega
      rw [va_up_ne _ _ e2, va_up_self]
      omega
    · rw [key _ e1] at h1
      by_cases e2 : 2 * s + 1 = i
      · subst e2
        rw [va_up_ne _ _ e1, va_up_self]
        omega
      · rw [key _ e2] at h2
        rw [va_up_ne _ _ e1, va_up_ne _ _ e2]
        exact (h.2 s hs h1 h2).2
theorem iR_fetch (h : iR S Rg F) (hi : i < 8) (hS : S i ≠ 3) (hr : r < 3) (hF : F r = 0) : iR (va_up S i 3) (va_up Rg i r) (va_up F r 1) := by
  obtain ⟨h1, h2, h3, h4⟩ := h
  have hn : ∀ j, j < 8 → S j = 3 → Rg j ≠ r := by
    intro j hj hs e
    have := (h1 j hj hs).2
    rw [e] at this
    omega
  have key : ∀ j, j ≠ i → va_up S i 3 j = S j ∧ va_up Rg i r j = Rg j := fun j hj => ⟨va_up_ne _ _ hj, va_up_ne _ _ hj⟩
  refine ⟨fun j hj hs => ?_, fun j k hj hk hs1 hs2 e => ?_, fun q hq => ?_, ?_⟩
  · by_cases e : j = i
    · subst e
      rw [va_up_self, va_up_self]
      exact ⟨hr, rfl⟩
    · rw [(key j e).1] at hs
      rw [(key j e).2, va_up_ne _ _ (hn j hj hs)]
      exact h1 j hj hs
  · by_cases e1 : j = i
    · by_cases e2 : k = i
      · omega
      · rw [(key k e2).1] at hs2
        rw [(key k e2).2, e1, va_up_self] at e
        exact absurd e.symm (hn k hk hs2)
    · rw [(key j e1).1] at hs1
      by_cases e2 : k = i
      · rw [(key j e1).2, e2, va_up_self] at e
        exact absurd e (hn j hj hs1)
      · rw [(key k e2).1] at hs2
        rw [(key j e1).2, (key k e2).2] at e
        exact h2 j k hj hk hs1 hs2 e
  · unfold va_up
    have := h3 q hq
    split <;> omega
  · have := s_aw_up S i 3 8
    rw [if_neg (fun z => hS z.2), if_pos ⟨hi, rfl⟩] at this
    rw [Nat.add_zero] at this
    rw [this, h4]
    unfold va_up
    rcases (show r = 0 ∨ r = 1 ∨ r = 2 by omega) with rfl | rfl | rfl <;> simp <;> omega
theorem iR_set (h : iR S Rg F) (hS : S i ≠ 3) (hv : v ≠ 3) : iR (va_up S i v) Rg F := by
  obtain ⟨h1, h2, h3, h4⟩ := h
  have key : ∀ j, va_up S i v j = 3 → S j = 3 := by
    intro j hj
    unfold va_up at hj
    split at hj
    · exact absurd hj hv
    · exact hj
  refine ⟨fun j hj hs => h1 j hj (key j hs), fun j k hj hk hs1 hs2 e => h2 j k hj hk (key j hs1) (key k hs2) e, h3, ?_⟩
  have := s_aw_up S i v 8
  rw [if_neg (fun z => hS z.2), if_neg (fun z => hv z.2)] at this
  omega
theorem iR_fill (h : iR S Rg F) (hi : i < 8) (hS : S i = 3) (hv : v ≠ 3) : iR (va_up S i v) Rg (va_up F (Rg i) 0) := by
  obtain ⟨h1, h2, h3, h4⟩ := h
  have key : ∀ j, va_up S i v j = 3 → j ≠ i ∧ S j = 3 := by
    intro j hj
    unfold va_up at hj
    split at hj
    · exact absurd hj hv
    · exact ⟨by assumption, hj⟩
  refine ⟨fun j hj hs => ?_, fun j k hj hk hs1 hs2 e => h2 j k hj hk (key j hs1).2 (key k hs2).2 e, fun q hq => ?_, ?_⟩
  · obtain ⟨k1, k2⟩ := key j hs
    obtain ⟨a1, a2⟩ := h1 j hj k2
    refine ⟨a1, ?_⟩
    rw [va_up_ne _ _ (fun e => k1 (h2 j i hj hi k2 hS e))]
    exact a2
  · unfold va_up
    have := h3 q hq
    split <;> omega
  · have := s_aw_up S i v 8
    rw [if_pos ⟨hi, hS⟩, if_neg (fun z => hv z.2)] at this
    obtain ⟨a1, a2⟩ := h1 i hi hS
    unfold va_up at this ⊢
    rcases (show Rg i = 0 ∨ Rg i = 1 ∨ Rg i = 2 by omega) with e | e | e <;> rw [e] at a2 ⊢ <;> simp <;> omega
theorem iT_set (h : iT S Ln Rg sz Tk A Dn T) (hS : S i ≠ 3) (hv : v ≠ 3) : iT (va_up S i v) Ln Rg sz Tk A Dn T := by
  obtain ⟨h1, h2, h3, h4⟩ := h
  have key : ∀ j, va_up S i v j = 3 → S j = 3 := by
    intro j hj
    unfold va_up at hj
    split at hj
    · exact absurd hj hv
    · exact hj
  refine ⟨h1, h2, fun j hj hs => h3 j hj (key j hs), fun t ht hd => ?_⟩
  obtain ⟨j, g1, g2, g3⟩ := h4 t ht hd
  exact ⟨j, g1, by rw [va_up_ne _ _ (fun e => hS (by rw [← e]; exact g2))]; exact g2, g3⟩
theorem iT_done (h : iT S Ln Rg sz Tk A Dn T) (hR : ∀ i, i < 8 → S i = 3 → Rg i < 3) (ha : a < 256) : iT S Ln Rg sz Tk (va_up A T a) (va_up Dn T 1) (T + 1) := by
  obtain ⟨h1, h2, h3, h4⟩ := h
  have key : ∀ t, t < T → va_up A T a t = A t ∧ va_up Dn T 1 t = Dn t := fun t ht => ⟨va_up_ne _ _ (by omega), va_up_ne _ _ (by omega)⟩
  refine ⟨fun t ht => ?_, fun q hq => ?_, fun j hj hs t ht => ?_, fun t ht hd => ?_⟩
  · by_cases e : t = T
    · subst e
      rw [va_up_self, va_up_self]
      omega
    · rw [(key t (by omega)).1, (key t (by omega)).2]
      exact h1 t (by omega)
  · obtain ⟨a1, a2, a3⟩ := h2 q hq
    exact ⟨a1, fun j hj => Nat.lt_succ_of_lt (a2 j hj), a3⟩
  · by_cases e : t = T
    · subst e
      rw [va_up_self, va_up_self]
      have hr : ∀ q, q < 3 → ∀ j, j < sz q → Tk q j ≠ t := fun q hq j hj e => by
        have := (h2 q hq).2.1 j hj
        omega
      refine ⟨fun z => by omega, fun ⟨q, q1, q2⟩ => ?_⟩
      exact absurd q2 (hr _ (hR j hj hs) q q1)
    · rw [(key t (by omega)).1, (key t (by omega)).2]
      exact h3 j hj hs t (by omega)
  · by_cases e : t = T
    · subst e
      rw [va_up_self] at hd
      omega
    · rw [(key t (by omega)).2] at hd
      rw [(key t (by omega)).1]
      exact h4 t (by omega) hd
theorem iT_join (h : iT S Ln Rg sz Tk A Dn T) (hw : iW S Ln Us U) (hR : iR S Rg F) (hi : i < 8) (hS : S i = 3) (ha : a < 256) (hL : Ln i = a / 4) (hr : Rg i = r) (hk : sz r = k) (hk3 : k < 3) : iT S Ln Rg (va_up sz r (k + 1)) (fun q j => if q = r ∧ j = k then T else Tk q j) (va_up A T a) (va_up Dn T 0) (T + 1) := by
  obtain ⟨h1, h2, h3, h4⟩ := h
  have key : ∀ t, t < T → va_up A T a t = A t ∧ va_up Dn T 0 t = Dn t := fun t ht => ⟨va_up_ne _ _ (by omega), va_up_ne _ _ (by omega)⟩
  have hr3 : r < 3 := by rw [← hr]; exact (hR.1 i hi hS).1
  refine ⟨fun t ht => ?_, fun q hq => ?_, fun j hj hs t ht => ?_, fun t ht hd => ?_⟩
  · by_cases e : t = T
    · subst e
      rw [va_up_self, va_up_self]
      omega
    · rw [(key t (by omega)).1, (key t (by omega)).2]
      exact h1 t (by omega)
  · obtain ⟨a1, a2, a3⟩ := h2 q hq
    by_cases e : q = r
    · subst e
      rw [va_up_self]
      refine ⟨by omega, fun j hj => ?_, fun j m hjm hm => ?_⟩
      · by_cases e : j = k
        · simp [e]
        · simp only [e, and_false, if_false]
          have := a2 j (by omega)
          omega
      · have ej : ¬ j = k := by omega
        simp only [ej, and_false, if_false, true_and]
        by_cases em : m = k
        · simp only [em, if_true]
          exact a2 j (by omega)
        · simp only [em, if_false]
          exact a3 j m hjm (by omega)
    · rw [va_up_ne _ _ e]
      simp only [e, false_and, if_false]
      exact ⟨a1, fun j hj => Nat.lt_succ_of_lt (a2 j hj), a3⟩
  · by_cases ej : j = i
    · subst ej
      rw [hr, va_up_self]
      by_cases e : t = T
      · subst e
        rw [va_up_self, va_up_self]
        exact ⟨fun _ => ⟨k, by omega, by simp⟩, fun _ => ⟨rfl, hL.symm⟩⟩
      · rw [(key t (by omega)).1, (key t (by omega)).2, h3 j hj hs t (by omega), hr, hk]
        constructor
        · rintro ⟨m, m1, m2⟩
          exact ⟨m, by omega, (if_neg (by omega)).trans m2⟩
        · rintro ⟨m, m1, m2⟩
          by_cases em : m = k
          · simp only [em, and_self, if_true] at m2
            omega
          · simp only [em, and_false, if_false] at m2
            exact ⟨m, by omega, m2⟩
    · have hne : Rg j ≠ r := fun e => ej (hR.2.1 j i hj hi hs hS (by rw [e, hr]))
      have hl : Ln j ≠ a / 4 := fun e => ej (iW_uniq hw hj hi (by omega) (by omega) (by rw [e, hL]))
      rw [va_up_ne _ _ hne]
      simp only [hne, false_and, if_false]
      by_cases e : t = T
      · subst e
        rw [va_up_self, va_up_self]
        refine ⟨fun z => absurd z.2.symm hl, fun ⟨m, m1, m2⟩ => ?_⟩
        have := (h2 (Rg j) (hR.1 j hj hs).1).2.1 m m1
        omega
      · rw [(key t (by omega)).1, (key t (by omega)).2]
        exact h3 j hj hs t (by omega)
  · by_cases e : t = T
    · subst e
      rw [va_up_self]
      exact ⟨i, hi, hS, hL⟩
    · rw [(key t (by omega)).2] at hd
      rw [(key t (by omega)).1]
      exact h4 t (by omega) hd
theorem iT_fetch (h : iT S Ln Rg sz Tk A Dn T) (hS : S i ≠ 3) (hn : ∀ j, j < 8 → S j = 3 → Rg j ≠ r) (hno : ∀ t, t < T → Dn t = 0 → A t / 4 ≠ L) : iT (va_up S i 3) (va_up Ln i L) (va_up Rg i r) (va_up sz r 0) Tk A Dn T := by
  obtain ⟨h1, h2, h3, h4⟩ := h
  refine ⟨h1, fun q hq => ?_, fun j hj hs t ht => ?_, fun t ht hd => ?_⟩
  · by_cases e : q = r
    · subst e
      rw [va_up_self]
      exact ⟨by omega, fun j hj => by omega, fun j m _ hm => by omega⟩
    · rw [va_up_ne _ _ e]
      exact h2 q hq
  · by_cases e : j = i
    · subst e
      rw [va_up_self, va_up_self, va_up_self]
      exact ⟨fun z => absurd z.2 (hno t ht z.1), fun ⟨m, m1, _⟩ => by omega⟩
    · rw [va_up_ne _ _ e] at hs
      rw [va_up_ne _ _ e, va_up_ne _ _ e, va_up_ne _ _ (hn j hj hs)]
      exact h3 j hj hs t ht
  · obtain ⟨j, g1, g2, g3⟩ := h4 t ht hd
    have e : j ≠ i := fun e => hS (by rw [← e]; exact g2)
    exact ⟨j, g1, by rw [va_up_ne _ _ e]; exact g2, by rw [va_up_ne _ _ e]; exact g3⟩
theorem iT_fill (h : iT S Ln Rg sz Tk A Dn T) (hw : iW S Ln Us U) (hi : i < 8) (hS : S i = 3) (hv : v ≠ 3) : iT (va_up S i v) Ln Rg sz Tk A (fun t => if t < T ∧ A t / 4 = Ln i then 1 else Dn t) T := by
  obtain ⟨h1, h2, h3, h4⟩ := h
  refine ⟨fun t ht => ⟨(h1 t ht).1, ?_⟩, h2, fun j hj hs t ht => ?_, fun t ht hd => ?_⟩
  · have := (h1 t ht).2
    show (if _ then 1 else Dn t) ≤ 1
    split <;> omega
  · have e : j ≠ i := by
      intro e
      subst e
      rw [va_up_self] at hs
      exact hv hs
    rw [va_up_ne _ _ e] at hs
    have hl : Ln j ≠ Ln i := fun z => e (iW_uniq hw hj hi (by omega) (by omega) z)
    rw [← h3 j hj hs t ht]
    show (((if _ then 1 else Dn t) = 0) ∧ _) ↔ _
    by_cases c : t < T ∧ A t / 4 = Ln i
    · rw [if_pos c]
      exact ⟨fun z => by omega, fun z => absurd (z.2.symm.trans c.2) hl⟩
    · rw [if_neg c]
  · have hd' : (if t < T ∧ A t / 4 = Ln i then 1 else Dn t) = 0 := hd
    split at hd'
    · omega
    · rename_i c
      obtain ⟨j, g1, g2, g3⟩ := h4 t ht hd'
      have e : j ≠ i := fun e => c ⟨ht, by rw [← g3, e]⟩
      exact ⟨j, g1, by rw [va_up_ne _ _ e]; exact g2, g3⟩
theorem iQ_set (h : iQ S Ln F RL Rk n) (hS : S i ≠ 3) (hv : v ≠ 3) : iQ (va_up S i v) Ln F RL Rk n := by
  obtain ⟨h1, h2, h3, h4, h5⟩ := h
  refine ⟨fun k hk => ⟨(h1 k hk).1, fun j hj => ?_⟩, h2, fun j hj hs => h3 j hj ?_, h4, h5⟩
  · obtain ⟨a1, a2, a3⟩ := (h1 k hk).2 j hj
    exact ⟨a1, by rw [va_up_ne _ _ (fun e => hS (by rw [← e]; exact a2))]; exact a2, a3⟩
  · unfold va_up at hs
    split at hs
    · exact absurd hs hv
    · exact hs
theorem iQ_wb (h : iQ S Ln F RL Rk n) (hL : L < 64) (hc : s_cw Rk n < 2) : iQ S Ln F (va_up RL n L) (va_up Rk n none) (n + 1) := by
  obtain ⟨h1, h2, h3, h4, h5⟩ := h
  have e := s_cw_up Rk n none
  rw [if_pos rfl] at e
  refine ⟨fun k hk => ?_, fun k j q hk hj e1 e2 => ?_, fun j hj hs => ?_, by omega, by omega⟩
  · by_cases ek : k = n
    · subst ek
      rw [va_up_self, va_up_self]
      exact ⟨hL, fun j hj => by cases hj⟩
    · rw [va_up_ne _ _ ek, va_up_ne _ _ ek]
      exact h1 k (by omega)
  · by_cases ek : k = n
    · subst ek
      rw [va_up_self] at e1
      cases e1
    · by_cases ej : j = n
      · subst ej
        rw [va_up_self] at e2
        cases e2
      · rw [va_up_ne _ _ ek] at e1
        rw [va_up_ne _ _ ej] at e2
        exact h2 k j q (by omega) (by omega) e1 e2
  · obtain ⟨k, k1, k2⟩ := h3 j hj hs
    exact ⟨k, by omega, by rw [va_up_ne _ _ (by omega)]; exact k2⟩
theorem iQ_fetch (h : iQ S Ln F RL Rk n) (hi : i < 8) (hS : S i ≠ 3) (hL : L < 64) (hr : r < 3) (hF : F r = 0) : iQ (va_up S i 3) (va_up Ln i L) (va_up F r 1) (va_up RL n L) (va_up Rk n (some i)) (n + 1) := by
  obtain ⟨h1, h2, h3, h4, h5⟩ := h
  have e := s_cw_up Rk n (some i)
  rw [if_neg (fun z => by cases z)] at e
  have ef : va_up F r 1 0 + va_up F r 1 1 + va_up F r 1 2 = F 0 + F 1 + F 2 + 1 := by
    unfold va_up
    rcases (show r = 0 ∨ r = 1 ∨ r = 2 by omega) with rfl | rfl | rfl <;> simp <;> omega
  have hne : ∀ k, k < n → ∀ j, Rk k = some j → j ≠ i := fun k hk j hj e => hS (by rw [← e]; exact ((h1 k hk).2 j hj).2.1)
  refine ⟨fun k hk => ?_, fun k j q hk hj e1 e2 => ?_, fun j hj hs => ?_, by omega, by omega⟩
  · by_cases ek : k = n
    · subst ek
      rw [va_up_self, va_up_self]
      refine ⟨hL, fun j hj => ?_⟩
      cases hj
      rw [va_up_self, va_up_self]
      exact ⟨hi, rfl, rfl⟩
    · rw [va_up_ne _ _ ek, va_up_ne _ _ ek]
      refine ⟨(h1 k (by omega)).1, fun j hj => ?_⟩
      have hji := hne k (by omega) j hj
      rw [va_up_ne _ _ hji, va_up_ne _ _ hji]
      exact (h1 k (by omega)).2 j hj
  · by_cases ek : k = n
    · by_cases ej : j = n
      · omega
      · rw [ek, va_up_self] at e1
        rw [va_up_ne _ _ ej] at e2
        exact absurd (Option.some.inj e1).symm (hne j (by omega) q e2)
    · rw [va_up_ne _ _ ek] at e1
      by_cases ej : j = n
      · rw [ej, va_up_self] at e2
        exact absurd (Option.some.inj e2).symm (hne k (by omega) q e1)
      · rw [va_up_ne _ _ ej] at e2
        exact h2 k j q (by omega) (by omega) e1 e2
  · by_cases e : j = i
    · subst e
      exact ⟨n, by omega, va_up_self _ _ _⟩
    · rw [va_up_ne _ _ e] at hs
      obtain ⟨k, k1, k2⟩ := h3 j hj hs
      exact ⟨k, by omega, by rw [va_up_ne _ _ (by omega)]; exact k2⟩
theorem iQ_dropW (h : iQ S Ln F RL Rk (n + 1)) (h0 : Rk 0 = none) : iQ S Ln F (fun k => RL (k + 1)) (fun k => Rk (k + 1)) n := by
  obtain ⟨h1, h2, h3, h4, h5⟩ := h
  have e := s_cw_shift Rk n
  rw [if_pos h0] at e
  refine ⟨fun k hk => h1 (k + 1) (by omega), fun k j q hk hj e1 e2 => by have := h2 (k + 1) (j + 1) q (by omega) (by omega) e1 e2; omega, fun j hj hs => ?_, by omega, by omega⟩
  obtain ⟨k, k1, k2⟩ := h3 j hj hs
  rcases k with _ | k
  · rw [h0] at k2
    cases k2
  · exact ⟨k, by omega, k2⟩
theorem iQ_fill (h : iQ S Ln F RL Rk (n + 1)) (hR : iR S Rg F) (h0 : Rk 0 = some i) (hv : v ≠ 3) : iQ (va_up S i v) Ln (va_up F (Rg i) 0) (fun k => RL (k + 1)) (fun k => Rk (k + 1)) n := by
  obtain ⟨h1, h2, h3, h4, h5⟩ := h
  obtain ⟨i1, i2, i3⟩ := (h1 0 (by omega)).2 i h0
  obtain ⟨r1, r2⟩ := hR.1 i i1 i2
  have e := s_cw_shift Rk n
  rw [if_neg (fun z => by rw [h0] at z; cases z)] at e
  have ef : va_up F (Rg i) 0 0 + va_up F (Rg i) 0 1 + va_up F (Rg i) 0 2 + 1 = F 0 + F 1 + F 2 := by
    unfold va_up
    rcases (show Rg i = 0 ∨ Rg i = 1 ∨ Rg i = 2 by omega) with q | q | q <;> rw [q] at r2 ⊢ <;> simp <;> omega
  refine ⟨fun k hk => ⟨(h1 (k + 1) (by omega)).1, fun j hj => ?_⟩, fun k j q hk hj e1 e2 => by have := h2 (k + 1) (j + 1) q (by omega) (by omega) e1 e2; omega, fun j hj hs => ?_, by omega, by omega⟩
  · obtain ⟨a1, a2, a3⟩ := (h1 (k + 1) (by omega)).2 j hj
    have hji : j ≠ i := by
      intro e
      subst e
      have := h2 (k + 1) 0 j (by omega) (by omega) hj h0
      omega
    rw [va_up_ne _ _ hji]
    exact ⟨a1, a2, a3⟩
  · have hji : j ≠ i := by
      intro e
      subst e
      rw [va_up_self] at hs
      exact hv hs
    rw [va_up_ne _ _ hji] at hs
    obtain ⟨k, k1, k2⟩ := h3 j hj hs
    rcases k with _ | k
    · rw [h0] at k2
      exact absurd (Option.some.inj k2).symm hji
    · exact ⟨k, by omega, k2⟩
end ABS
