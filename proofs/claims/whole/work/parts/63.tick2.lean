-- ticks in a row
def mr_pk (x : gg_X) : Nat → gg_X
  | 0 => x
  | k + 1 => (mr_ps (mr_pk x k)).2
theorem sim_ticks {x y : gg_X} {T U m lf : Nat} (l : Launch) (htr : l.stackTraces = false) (hR : sR x y T U m lf) (hT : T ≤ 512) : ∀ n, (∀ k, k < n → gg_Cd l yX4_passTick cX4_passTick 2 (some .int) (gg_rm 2 0 0 48) true [gg_r 0 0] (mr_pk x k) (.inl (some (gg_i (mr_ps (mr_pk x k)).1))) (mr_pk x (k + 1))) ∧ gz x (mr_pk x n) ∧
    ∃ Y : Nat → gg_X, Y 0 = y ∧ (∀ k, k < n → gg_Cd l yX5_pass cX5_pass 1 (some .int) (gg_rm 2 0 0 47) true [gg_r 17 0] (Y k) (.inl (some (gg_i (mr_ps (mr_pk x k)).1))) (Y (k + 1))) ∧ (∀ k, k ≤ n → hz y (Y k)) ∧ ∃ m' lf', sR (mr_pk x n) (Y n) T U m' lf'
  | 0 => ⟨fun k hk => by omega, gz.rf, fun _ => y, rfl, fun k hk => by omega, fun k _ => hz.rf, m, lf, hR⟩
  | n + 1 => by
    obtain ⟨h1, h2, Y, h3, h4, h5, m', lf', h6⟩ := sim_ticks l htr hR hT n
    obtain ⟨p1, p2, y', n', lf2, p3, p4, p5, -, -⟩ := sim_pass l htr h6 hT
    refine ⟨fun k hk => ?_, h2.tr p2, va_up Y (n + 1) y', ?_, fun k hk => ?_, fun k hk => ?_, n', lf2, ?_⟩
    · by_cases e : k = n
      · rw [e]
        exact p1
      · exact h1 k (by omega)
    · rw [va_up_ne _ _ (by omega)]
      exact h3
    · by_cases e : k = n
      · subst e
        rw [va_up_ne _ _ (by omega), va_up_self]
        exact p3
      · rw [va_up_ne _ _ (by omega), va_up_ne _ _ (by omega)]
        exact h4 k (by omega)
    · by_cases e : k = n + 1
      · rw [e, va_up_self]
        exact (h5 n (Nat.le_refl n)).tr p4
      · rw [va_up_ne _ _ e]
        exact h5 k (by omega)
    · rw [va_up_self]
      exact p5
theorem i32_lt1 {v : Int32} (hv : v < 0) : v < 1 := by
  rw [Int32.lt_iff_toInt_lt] at hv ⊢
  rw [show (0 : Int32).toInt = 0 by decide] at hv
  rw [show (1 : Int32).toInt = 1 by decide]
  omega
theorem op_tick {l : Launch} {x : gg_X} {N : Nat} {v : Int32} (htr : l.stackTraces = false) (hN : N < 512) (h : St x N) : ax_tick l x v (fun y => St y (N + 1)) := by
  have bad : (v < 1 ∨ 50 < v) → ax_tick l x v (fun y => St y (N + 1)) := fun hv => ⟨_, x, gg_up x 17 0 0 1, 1, 0, by decide, by decide, by decide, by decide, kL_tickN l x x v (kX4_tickN l htr x v hv), kX5_tickN l htr x v hv, rfl, fun z => absurd z (by decide), St_t0 h 1⟩
  rcases pk_ix v (n := 51) (by decide) with hv | hv | ⟨k, hk, rfl⟩
  · exact bad (Or.inl (i32_lt1 hv))
  · exact bad (Or.inr (i32_gt (n := 50) (by decide) hv))
  · by_cases z : k = 0
    · subst z
      exact bad (Or.inl (by decide))
    · obtain ⟨T, U, n, lf, hR, hT, hU⟩ := h
      obtain ⟨h1, h2, -⟩ := sim_ticks l htr hR (by omega) k
      have k1 := kX4_tickY l htr x (mr_pk x) (fun k => (mr_ps (mr_pk x k)).1) k rfl (by omega) hk h1
      have hR2 := sR_th (sR_y hR (y' := gg_lu (mr_pk x k) 0 (mr_sum (fun k => (mr_ps (mr_pk x k)).1) k).toInt64) h2) 0
      obtain ⟨-, -, Y, y1, y2, y3, m', lf', y4⟩ := sim_ticks l htr hR2 (by omega) k
      have k2 := kX5_tickY l htr (gg_lu (mr_pk x k) 0 (mr_sum (fun k => (mr_ps (mr_pk x k)).1) k).toInt64) Y (fun k => (mr_ps (mr_pk x k)).1) k y1 (by omega) hk y2 (fun j hj => (y3 j hj).2.2)
      have hz1 := y3 k (Nat.le_refl k)
      refine ⟨_, _, _, 0, _, by decide, by decide, by decide, by decide, kL_tickY l x _ (nI k) _ k1, k2, hz1.2.2, fun _ => ?_, St_on y4 (fun f hf => ?_) ?_ (by omega) (by omega)⟩
      · rw [hz1.2.1]
        rfl
      · rw [hz1.1 f hf, gg_upF (by omega)]
        rfl
      · rw [hz1.2.1]
        rfl
