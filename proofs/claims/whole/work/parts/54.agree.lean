-- both choose alike
def s_find (S Ln : Nat → Nat) (L : Nat) : Option Nat := if S (L % 4 * 2) ≠ 0 ∧ Ln (L % 4 * 2) = L then some (L % 4 * 2) else if S (L % 4 * 2 + 1) ≠ 0 ∧ Ln (L % 4 * 2 + 1) = L then some (L % 4 * 2 + 1) else none
def s_cho (S Us : Nat → Nat) (w : Nat) : Option Nat := if S w = 0 then some w else if S (w + 1) = 0 then some (w + 1) else if S w = 3 then (if S (w + 1) = 3 then none else some (w + 1)) else if S (w + 1) = 3 then some w else if Us w < Us (w + 1) then some w else some (w + 1)
def s_free (F : Nat → Nat) : Option Nat := if F 0 = 0 then some 0 else if F 1 = 0 then some 1 else if F 2 = 0 then some 2 else none
theorem nI_z {k : Nat} (h : k < 2 ^ 31) : nI k = 0 ↔ k = 0 := by
  rw [← nI_0, nI_eq h (by decide)]
theorem nI_k {k m : Nat} (h : k < 2 ^ 31) (hm : m < 2 ^ 31) {c : Int32} (hc : c = nI m) : nI k = c ↔ k = m := by
  rw [hc, nI_eq h hm]
section AGR
variable {x y : gg_X} {S Ln Rg Us F sz A Dn RL : Nat → Nat} {Tk : Nat → Nat → Nat} {Rk : Nat → Option Nat} {h n T U d lf i r L v a k : Nat}
theorem ag_find (c : cW x y S Ln Rg Us) (hw : iW S Ln Us U) (hL : L < 64) : mr_find x L = s_find S Ln L ∧ md_way y L = s_find S Ln L := by
  have key : ∀ i, i < 8 → ((x.1 9 i 1 = nI L) ↔ (S i ≠ 0 ∧ Ln i = L)) ∧ ((¬ y.1 19 0 i = 0 ∧ y.1 20 0 i = nI L) ↔ (S i ≠ 0 ∧ Ln i = L)) := by
    intro i hi
    obtain ⟨w1, w2, w3, -⟩ := c i hi
    obtain ⟨v1, v2, -⟩ := hw.1 i hi
    rw [w1, w3, nI_z (by omega)]
    by_cases e : S i = 0
    · rw [if_pos e]
      exact ⟨⟨fun z => absurd z.symm (gg_nIm1 (by omega)), fun z => absurd e z.1⟩, ⟨fun z => absurd e z.1, fun z => absurd e z.1⟩⟩
    · rw [if_neg e, w2 e, nI_eq (by have := v2 e; omega) (by omega)]
      exact ⟨⟨fun z => ⟨e, z⟩, fun z => z.2⟩, Iff.rfl⟩
  have k1 := key (L % 4 * 2) (by omega)
  have k2 := key (L % 4 * 2 + 1) (by omega)
  refine ⟨?_, ?_⟩
  · unfold mr_find s_find
    by_cases e1 : S (L % 4 * 2) ≠ 0 ∧ Ln (L % 4 * 2) = L
    · rw [if_pos (k1.1.mpr e1), if_pos e1]
    · rw [if_neg (fun z => e1 (k1.1.mp z)), if_neg e1]
      by_cases e2 : S (L % 4 * 2 + 1) ≠ 0 ∧ Ln (L % 4 * 2 + 1) = L
      · rw [if_pos (k2.1.mpr e2), if_pos e2]
      · rw [if_neg (fun z => e2 (k2.1.mp z)), if_neg e2]
  · unfold md_way s_find
    rw [show 2 * (L % 4) = L % 4 * 2 by omega]
    by_cases e1 : S (L % 4 * 2) ≠ 0 ∧ Ln (L % 4 * 2) = L
    · rw [if_pos (k1.2.mpr e1), if_pos e1]
    · rw [if_neg (fun z => e1 (k1.2.mp z)), if_neg e1]
      by_cases e2 : S (L % 4 * 2 + 1) ≠ 0 ∧ Ln (L % 4 * 2 + 1) = L
      · rw [if_pos (k2.2.mpr e2), if_pos e2]
      · rw [if_neg (fun z => e2 (k2.2.mp z)), if_neg e2]
theorem s_find_some (h : s_find S Ln L = some i) : i < 8 ∧ S i ≠ 0 ∧ Ln i = L := by
  unfold s_find at h
  split at h
  · cases h
    rename_i e
    exact ⟨by omega, e⟩
  · split at h
    · cases h
      rename_i e
      exact ⟨by omega, e⟩
    · cases h
theorem s_find_none (h : s_find S Ln L = none) {j : Nat} (hj : j / 2 = L % 4) (hs : S j ≠ 0) : Ln j ≠ L := by
  unfold s_find at h
  split at h
  · cases h
  · rename_i e1
    split at h
    · cases h
    · rename_i e2
      rcases (show j = L % 4 * 2 ∨ j = L % 4 * 2 + 1 by omega) with q | q
      · rw [q] at hs ⊢
        exact fun z => e1 ⟨hs, z⟩
      · rw [q] at hs ⊢
        exact fun z => e2 ⟨hs, z⟩
theorem ag_cho (c : cW x y S Ln Rg Us) (hw : iW S Ln Us U) (hU : U < 2 ^ 30) {s : Nat} (hs : s < 4) : mr_cho x (s * 2) = s_cho S Us (s * 2) ∧ md_cho y (2 * s) = s_cho S Us (s * 2) := by
  obtain ⟨a1, a2, a3, a4, a5, a6, a7, -⟩ := c (s * 2) (by omega)
  obtain ⟨b1, b2, b3, b4, b5, b6, b7, -⟩ := c (s * 2 + 1) (by omega)
  obtain ⟨v1, v2, v3⟩ := hw.1 (s * 2) (by omega)
  obtain ⟨u1, u2, u3⟩ := hw.1 (s * 2 + 1) (by omega)
  have hd := hw.2 s hs
  rw [show 2 * s = s * 2 by omega] at hd ⊢
  have m1 : ∀ L, ¬ nI (Ln L) = -1 ∨ 2 ^ 31 ≤ Ln L := fun L => by
    by_cases q : Ln L < 2 ^ 31
    · exact Or.inl (gg_nIm1 q)
    · exact Or.inr (by omega)
  refine ⟨?_, ?_⟩
  · unfold mr_cho s_cho
    have q1 : nI (Us (s * 2 + 1)) < nI (Us (s * 2)) ↔ Us (s * 2 + 1) < Us (s * 2) := nI_ltI (by omega) (by omega)
    rw [a3, b3, a5, b5, a6, b6]
    simp only [q1]
    by_cases e1 : S (s * 2) = 0
    · simp [e1]
    · have n1 : ¬ nI (Ln (s * 2)) = -1 := gg_nIm1 (by have := v2 e1; omega)
      by_cases e2 : S (s * 2 + 1) = 0
      · simp [e1, e2, n1]
      · have n2 : ¬ nI (Ln (s * 2 + 1)) = -1 := gg_nIm1 (by have := u2 e2; omega)
        have hne := (hd e1 e2).2
        simp only [e1, e2, n1, n2, if_false]
        by_cases e3 : S (s * 2) = 3
        · by_cases e4 : S (s * 2 + 1) = 3
          · simp [e3, e4]
          · simp [e3, e4]
        · by_cases e4 : S (s * 2 + 1) = 3
          · simp [e3, e4]
          · simp only [e3, e4, if_false, true_and, if_true]
            by_cases e5 : Us (s * 2) < Us (s * 2 + 1)
            · rw [if_pos e5, if_neg (by omega)]
            · rw [if_neg e5, if_pos (by omega)]
  · unfold md_cho s_cho
    have q1 : nI (Us (s * 2)) < nI (Us (s * 2 + 1)) ↔ Us (s * 2) < Us (s * 2 + 1) := nI_ltI (by omega) (by omega)
    have q2 : nI (S (s * 2)) = 0 ↔ S (s * 2) = 0 := nI_z (by omega)
    have q3 : nI (S (s * 2 + 1)) = 0 ↔ S (s * 2 + 1) = 0 := nI_z (by omega)
    have q4 : nI (S (s * 2)) = 3 ↔ S (s * 2) = 3 := nI_k (c := 3) (m := 3) (by omega) (by decide) rfl
    have q5 : nI (S (s * 2 + 1)) = 3 ↔ S (s * 2 + 1) = 3 := nI_k (c := 3) (m := 3) (by omega) (by decide) rfl
    rw [a1, b1, a7, b7]
    simp only [q1, q2, q3, q4, q5]
theorem s_cho_some {w : Nat} (h : s_cho S Us w = some i) : (i = w ∨ i = w + 1) ∧ S i ≠ 3 := by
  unfold s_cho at h
  repeat' split at h
  all_goals first | (cases h; done) | (cases h; refine ⟨by omega, ?_⟩; omega)
theorem ag_free (c : cR x y F sz Tk A) (hR : iR S Rg F) : mr_free x = s_free F ∧ mr_fl x = F 0 + F 1 + F 2 := by
  have e0 := (c 0 (by decide)).1
  have e1 := (c 1 (by decide)).1
  have e2 := (c 2 (by decide)).1
  have f0 := hR.2.2.1 0 (by decide)
  have f1 := hR.2.2.1 1 (by decide)
  have f2 := hR.2.2.1 2 (by decide)
  have q0 : nI (F 0) = 0 ↔ F 0 = 0 := nI_z (by omega)
  have q1 : nI (F 1) = 0 ↔ F 1 = 0 := nI_z (by omega)
  have q2 : nI (F 2) = 0 ↔ F 2 = 0 := nI_z (by omega)
  refine ⟨?_, ?_⟩
  · unfold mr_free s_free
    rw [e0, e1, e2]
    simp only [q0, q1, q2]
  · unfold mr_fl
    rw [e0, e1, e2]
    simp only [q0, q1, q2]
    repeat' split
    all_goals omega
theorem s_free_some (h : s_free F = some r) : r < 3 ∧ F r = 0 := by
  unfold s_free at h
  repeat' split at h
  all_goals first | (cases h; refine ⟨by decide, ?_⟩; assumption) | cases h
theorem s_free_none (hR : iR S Rg F) : s_free F = none ↔ F 0 + F 1 + F 2 = 3 := by
  have f0 := hR.2.2.1 0 (by decide)
  have f1 := hR.2.2.1 1 (by decide)
  have f2 := hR.2.2.1 2 (by decide)
  unfold s_free
  repeat' split
  all_goals first | (refine ⟨fun z => (by cases z), fun z => ?_⟩; exfalso; omega) | (refine ⟨fun _ => ?_, fun _ => rfl⟩; omega)
theorem ag_aw (c : cW x y S Ln Rg Us) (hw : iW S Ln Us U) : ∀ k, k ≤ 8 → md_aw y k = s_aw S k
  | 0, _ => rfl
  | k + 1, hk => by
    have q : nI (S k) = 3 ↔ S k = 3 := nI_k (c := 3) (m := 3) (by have := (hw.1 k (by omega)).1; omega) (by decide) rfl
    unfold md_aw s_aw
    rw [ag_aw c hw k (by omega), (c k (by omega)).1]
    simp only [q]
theorem ag_cw (c : cQ x y h n RL Rk) : ∀ k, k ≤ n → mr_cw x h k = s_cw Rk k
  | 0, _ => rfl
  | k + 1, hk => by
    unfold mr_cw s_cw
    rw [ag_cw c k (by omega), (c k (by omega)).2.1]
theorem ag_wr (c : cQ x y h n RL Rk) (hq : iQ S Ln F RL Rk n) : ∀ k, k ≤ n → md_wr y k = s_cw Rk k
  | 0, _ => rfl
  | k + 1, hk => by
    have hl := (hq.1 k (by omega)).1
    unfold md_wr s_cw
    rw [ag_wr c hq k (by omega), (c k (by omega)).2.2.1]
    by_cases e : Rk k = none
    · rw [if_pos e, if_pos e, if_neg]
      intro z
      rw [show (99 : Int32) = nI 99 from rfl, nI_leI (by omega) (by decide)] at z
      omega
    · rw [if_neg e, if_neg e, if_pos]
      rw [show (99 : Int32) = nI 99 from rfl, nI_leI (by omega) (by decide)]
      omega
def s_lt (f : Nat → Nat) (m : Nat) : Nat → Nat
  | 0 => 0
  | k + 1 => s_lt f m k + (if f k < m then 1 else 0)
theorem s_lt_0 (f : Nat → Nat) : ∀ k, s_lt f 0 k = 0
  | 0 => rfl
  | k + 1 => by
    unfold s_lt
    rw [s_lt_0 f k, if_neg (by omega)]
theorem s_lt_all (f : Nat → Nat) (m : Nat) : ∀ k, (∀ j, j < k → f j < m) → s_lt f m k = k
  | 0, _ => rfl
  | k + 1, hk => by
    unfold s_lt
    rw [s_lt_all f m k (fun j hj => hk j (by omega)), if_pos (hk k (by omega))]
theorem s_lt_no (f : Nat → Nat) (m : Nat) : ∀ k, (∀ j, j < k → f j ≠ m) → s_lt f (m + 1) k = s_lt f m k
  | 0, _ => rfl
  | k + 1, hk => by
    unfold s_lt
    rw [s_lt_no f m k (fun j hj => hk j (by omega))]
    have := hk k (by omega)
    by_cases e : f k < m
    · rw [if_pos e, if_pos (by omega)]
    · rw [if_neg e, if_neg (by omega)]
theorem s_lt_yes (f : Nat → Nat) (m : Nat) : ∀ k, (∀ j j', j < j' → j' < k → f j < f j') → (∃ j, j < k ∧ f j = m) → s_lt f (m + 1) k = s_lt f m k + 1
  | 0, _, ⟨j, hj, _⟩ => by omega
  | k + 1, hk, ⟨j, hj, hm⟩ => by
    unfold s_lt
    by_cases e : j = k
    · subst e
      rw [s_lt_no f m j (fun i hi => by have := hk i j hi (by omega); omega), if_pos (by omega), if_neg (by omega)]
    · rw [s_lt_yes f m k (fun a b h1 h2 => hk a b h1 (by omega)) ⟨j, by omega, hm⟩]
      have := hk j k (by omega) (by omega)
      rw [if_neg (by omega), if_neg (by omega)]
theorem ag_tg (c : cT x y A Dn T) (hT : iT S Ln Rg sz Tk A Dn T) (hi : i < 8) (hS : S i = 3) (hr : Rg i < 3) : md_tg y A (Ln i) T = sz (Rg i) := by
  obtain ⟨t1, t2, t3, -⟩ := hT
  obtain ⟨z1, z2, z3⟩ := t2 (Rg i) hr
  have key : ∀ m, m ≤ T → md_tg y A (Ln i) m = s_lt (Tk (Rg i)) m (sz (Rg i)) := by
    intro m
    induction m with
    | zero =>
      intro _
      rw [s_lt_0]
      rfl
    | succ m ih =>
      intro hm
      unfold md_tg
      rw [ih (by omega), (c.1 m (by omega)).2.2.1]
      have hd := (t1 m (by omega)).2
      have q : nI (Dn m) = 0 ↔ Dn m = 0 := nI_z (by omega)
      simp only [q]
      by_cases e : Dn m = 0 ∧ A m / 4 = Ln i
      · rw [if_pos e, s_lt_yes _ _ _ z3 ((t3 i hi hS m (by omega)).mp e)]
      · rw [if_neg e, s_lt_no _ _ _ (fun j hj z => e ((t3 i hi hS m (by omega)).mpr ⟨j, hj, z⟩))]
  rw [key T (Nat.le_refl T), s_lt_all _ _ _ z2]
end AGR
