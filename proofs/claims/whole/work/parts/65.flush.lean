-- flush
section FLS
variable {x y : gg_X} {S Ln Rg Us F sz A Dn RL : Nat → Nat} {Tk : Nat → Nat → Nat} {Rk : Nat → Option Nat} {h n T U d lf k : Nat}
theorem cA_fl (c : cA x y S Ln Rg Us F sz Tk A Dn RL Rk h n T U d lf) (hk : k < 8) (hS : S k = 2) : cA (gg_up (mr_cp x 1 0 (Ln k * 4) 10 k 4) 9 k 2 0) (gg_up (md_wm y (Ln k) k 4) 19 0 k 1) (va_up S k 1) Ln Rg Us F sz Tk A Dn RL Rk h n T U d lf := by
  obtain ⟨c1, c2, c3, c4, c5, c6, c7⟩ := c
  have fx : ∀ f, ¬ f = 1 → ¬ f = 9 → (gg_up (mr_cp x 1 0 (Ln k * 4) 10 k 4) 9 k 2 0).1 f = x.1 f := fun f h1 h2 => by
    rw [gg_upF h2]
    funext b j
    exact mr_cp_o h1 4
  have fy : ∀ f, ¬ f = 18 → ¬ f = 19 → (gg_up (md_wm y (Ln k) k 4) 19 0 k 1).1 f = y.1 f := fun f h1 h2 => by
    rw [gg_upF h2]
    funext b j
    exact md_wm_o h1 4
  have f2 : (gg_up (mr_cp x 1 0 (Ln k * 4) 10 k 4) 9 k 2 0).2 = x.2 := mr_cp_p (x := x) (f := 1) (i := 0) (o := Ln k * 4) (g := 10) (j := k) 4
  refine ⟨fun j hj => ?_, cR_fr c2 (fx _ (by decide) (by decide)) (fx _ (by decide) (by decide)) (fx _ (by decide) (by decide)) (fx _ (by decide) (by decide)) (fy _ (by decide) (by decide)), cT_fr c3 (fx _ (by decide) (by decide)) (fx _ (by decide) (by decide)) (fy _ (by decide) (by decide)) (fy _ (by decide) (by decide)) (fy _ (by decide) (by decide)), cQ_fr c4 (fx _ (by decide) (by decide)) (fx _ (by decide) (by decide)) (by rw [f2]) (fy _ (by decide) (by decide)) (fy _ (by decide) (by decide)), cP_fr c5 (fx _ (by decide) (by decide)) (by rw [fy _ (by decide) (by decide)]) (by rw [fy _ (by decide) (by decide)]) (by rw [fy _ (by decide) (by decide)]), cU_fr c6 (fx _ (by decide) (by decide)) (by rw [fy _ (by decide) (by decide)]) (by rw [fy _ (by decide) (by decide)]), fun a ha => ?_⟩
  · obtain ⟨w1, w2, w3, w4, w5, w6, w7, w8⟩ := c1 j hj
    rw [fx 10 (by decide) (by decide), fy 20 (by decide) (by decide), fy 21 (by decide) (by decide), fy 22 (by decide) (by decide), f2]
    have e9 : ∀ m, (gg_up (mr_cp x 1 0 (Ln k * 4) 10 k 4) 9 k 2 0).1 9 j m = if j = k ∧ m = 2 then 0 else x.1 9 j m := fun m => by
      rw [gg_up_at, mr_cp_o (by decide)]
      simp
    have e19 : (gg_up (md_wm y (Ln k) k 4) 19 0 k 1).1 19 0 j = if j = k then 1 else y.1 19 0 j := by
      rw [gg_up_at, md_wm_o (by decide)]
      simp
    by_cases e : j = k
    · subst e
      rw [va_up_self]
      refine ⟨?_, fun _ => w2 (by omega), ?_, ?_, ?_, ?_, w7, w8⟩
      · rw [e19, if_pos rfl]
        rfl
      · rw [if_neg (by omega)] at w3
        rw [e9, if_neg (fun z => absurd z.2 (by decide)), if_neg (by decide)]
        exact w3
      · rw [e9, if_pos ⟨rfl, rfl⟩, if_neg (by decide)]
      · rw [if_neg (by omega)] at w5
        rw [if_neg (by decide)]
        exact w5
      · rw [e9, if_neg (fun z => absurd z.2 (by decide))]
        exact w6
    · rw [va_up_ne _ _ e]
      exact ⟨by rw [e19, if_neg e]; exact w1, w2, by rw [e9, if_neg (fun z => e z.1)]; exact w3, by rw [e9, if_neg (fun z => e z.1)]; exact w4, w5, by rw [e9, if_neg (fun z => e z.1)]; exact w6, w7, w8⟩
  · rw [gg_upF (by decide), gg_upF (by decide), mr_cp_at (by decide), md_wm_at]
    by_cases e : 4 * Ln k ≤ a ∧ a < 4 * Ln k + 4
    · rw [if_pos ⟨rfl, by omega, by omega⟩, if_pos e, show a - Ln k * 4 = a - 4 * Ln k by omega]
      exact (c1 k hk).2.2.2.2.2.2.2 _ (by omega)
    · rw [if_neg (by omega), if_neg e]
      exact c7 a ha
theorem fls_sim (c : cA x y S Ln Rg Us F sz Tk A Dn RL Rk h n T U d lf) (I : sI S Ln Rg Us F sz Tk A Dn RL Rk h n T U d lf) : ∀ k, k ≤ 8 → mr_flc x k = md_flc y k ∧ ∃ S', (∀ i, k ≤ i → S' i = S i) ∧ cA (mr_fls x Ln k) (md_fls y Ln k) S' Ln Rg Us F sz Tk A Dn RL Rk h n T U d lf ∧ sI S' Ln Rg Us F sz Tk A Dn RL Rk h n T U d lf
  | 0, _ => ⟨rfl, S, fun _ _ => rfl, c, I⟩
  | k + 1, hk => by
    obtain ⟨h1, S', h2, h3, h4⟩ := fls_sim c I k (by omega)
    obtain ⟨w1, -, -, w4, -⟩ := c.1 k (by omega)
    have hs := (I.1.1 k (by omega)).1
    have q2 : nI (S k) = 2 ↔ S k = 2 := nI_k (c := 2) (m := 2) (by omega) (by decide) rfl
    unfold mr_flc md_flc mr_fls md_fls
    by_cases e : S k = 2
    · have x2 : ¬ x.1 9 k 2 = 0 := by rw [w4, if_pos e]; decide
      have y2 : y.1 19 0 k = 2 := w1.trans (q2.mpr e)
      rw [if_neg x2, if_pos y2, if_neg x2, if_pos y2]
      have hS' : S' k = 2 := (h2 k (Nat.le_refl k)).trans e
      obtain ⟨w, R, t, q, m⟩ := h4
      refine ⟨by rw [h1], va_up S' k 1, fun i hi => ?_, cA_fl h3 (by omega) hS', iW_set w (by omega) (by omega), iR_set R (by omega) (by omega), iT_set t (by omega) (by omega), iQ_set q (by omega) (by omega), m⟩
      rw [va_up_ne _ _ (by omega)]
      exact h2 i (by omega)
    · have x2 : x.1 9 k 2 = 0 := by rw [w4, if_neg e]
      have y2 : ¬ y.1 19 0 k = 2 := fun z => e (q2.mp (w1.symm.trans z))
      rw [if_pos x2, if_neg y2, if_pos x2, if_neg y2]
      exact ⟨h1, S', fun i hi => h2 i (by omega), h3, h4⟩
theorem mr_fls_F {N : Nat → Nat} {f : Nat} (h1 : ¬ f = 1) (h2 : ¬ f = 9) : ∀ k, (mr_fls x N k).1 f = x.1 f
  | 0 => rfl
  | k + 1 => by
    unfold mr_fls
    split
    · exact mr_fls_F h1 h2 k
    · rw [gg_upF h2]
      funext b j
      rw [mr_cp_o h1, mr_fls_F h1 h2 k]
end FLS
theorem op_flush {l : Launch} {x : gg_X} {N : Nat} (htr : l.stackTraces = false) (h : St x N) : ax_flush l x (fun y => St y (N + 1)) := by
  have h0 := h
  obtain ⟨T, U, n, lf, ⟨hC, hx, hy, S, Ln, Rg, Us, F, sz, Tk, A, Dn, RL, Rk, hh, d, c, I⟩, hT, hU⟩ := h
  obtain ⟨p1, p2, p3, p4, p5, p6, p7⟩ := c.2.2.2.2.1
  have m2 := I.2.2.2.2.2.1
  by_cases hn : n = 0
  · have hN1 : ∀ i, i < 8 → ¬ x.1 9 i 2 = 0 → x.1 9 i 1 = nI (Ln i) ∧ Ln i < 64 := fun i hi z => by
      obtain ⟨-, -, w3, w4, -⟩ := c.1 i hi
      have s2 : S i = 2 := Decidable.byContradiction fun q => z (by rw [w4, if_neg q])
      rw [if_neg (by omega)] at w3
      exact ⟨w3, ((I.1.1 i hi).2.1 (by omega)).1⟩
    have k1 := kX4_flushY l htr x Ln (by rw [p2, hn, nI_0]) hN1
    have hg : gz x (mr_fls x Ln 8) := gz_fls 8
    have e19 : (gg_lu (mr_fls x Ln 8) 0 (nI (mr_flc x 8)).toInt64).1 19 = x.1 19 := hg 19 (by decide)
    have e20 : (gg_lu (mr_fls x Ln 8) 0 (nI (mr_flc x 8)).toInt64).1 20 = x.1 20 := hg 20 (by decide)
    have e17 : (gg_lu (mr_fls x Ln 8) 0 (nI (mr_flc x 8)).toInt64).1 17 = x.1 17 := hg 17 (by decide)
    have k2 := kX5_flushY l htr (gg_lu (mr_fls x Ln 8) 0 (nI (mr_flc x 8)).toInt64) Ln (by rw [e17, p3, hn, nI_0]) (fun i hi z => by
      rw [e19] at z
      rw [e20]
      obtain ⟨w1, w2, -⟩ := c.1 i hi
      have hs := (I.1.1 i hi).1
      have s2 : S i = 2 := (nI_k (c := 2) (m := 2) (by omega) (by decide) rfl).mp (w1.symm.trans z)
      exact ⟨w2 (by omega), ((I.1.1 i hi).2.1 (by omega)).1⟩)
    have c2 := cA_th (cA_y c (y' := gg_lu (mr_fls x Ln 8) 0 (nI (mr_flc x 8)).toInt64) hg) 0
    obtain ⟨g1, S', -, g3, g4⟩ := fls_sim c2 I 8 (Nat.le_refl 8)
    have hz1 := hz_fls (y := gg_up (gg_lu (mr_fls x Ln 8) 0 (nI (mr_flc x 8)).toInt64) 17 0 0 0) (N := Ln) 8
    refine ⟨_, _, _, 0, _, by decide, by decide, by decide, by decide, kL_flushY l x _ _ k1, k2, hz1.2.2, fun _ => ?_, St_on (x1 := mr_fls x Ln 8) (T := T) (U := U) (n := n) (lf := lf) ⟨?_, ?_, ?_, S', Ln, Rg, Us, F, sz, Tk, A, Dn, RL, Rk, hh, d, g3, g4⟩ (fun f hf => ?_) ?_ (by omega) (by omega)⟩
    · rw [hz1.2.1, ← g1]
      rfl
    · refine cC_fr hC (mr_fls_F (by decide) (by decide) 8) ?_
      funext b j
      rw [md_fls_o (by decide) 8 (fun z => by cases z), gg_upF (by decide)]
      exact congrFun (congrFun (hg 29 (by decide)) b) j
    · rw [mr_fls_F (by decide) (by decide) 8]
      exact hx
    · rw [md_fls_o (by decide) 8 (fun z => by cases z), gg_up_k (by decide), e17]
      exact hy
    · rw [hz1.1 f hf, gg_upF (by omega)]
      rfl
    · rw [hz1.2.1]
      rfl
  · exact ⟨_, x, gg_up x 17 0 0 1, 1, 0, by decide, by decide, by decide, by decide, kL_flushN l x x (kX4_flushN l htr x n p2 (by omega) (by omega)), kX5_flushN l htr x n p3 (by omega) (by omega), rfl, fun z => absurd z (by decide), St_t0 h0 1⟩
