-- await: it ends, and both end alike
abbrev zPc (l : Launch) (x : gg_X) (V : Int32) (z : gg_X) : Prop := gg_Cd l yX4_passTick cX4_passTick 2 (some .int) (gg_rm 2 0 0 48) true [gg_r 0 0] x (.inl (some (gg_i V))) z
abbrev zPr (l : Launch) (x : gg_X) (V : Int32) (z : gg_X) : Prop := gg_Cd l yX5_pass cX5_pass 1 (some .int) (gg_rm 2 0 0 47) true [gg_r 17 0] x (.inl (some (gg_i V))) z
abbrev zIc (l : Launch) (a : Nat) (x : gg_X) (V : Int32) (z : gg_X) : Prop := gg_Cd l yX4_issue cX4_issue 5 (some .int) (gg_rm 5 0 0 122) true [gg_r 0 0, gg_i (nI a), gg_i 0, gg_i 0] x (.inl (some (gg_i V))) z
abbrev zIr (l : Launch) (a : Nat) (x : gg_X) (V : Int32) (z : gg_X) : Prop := gg_Cd l yX5_issue cX5_issue 7 (some .int) (gg_rm 3 0 0 67) true [gg_r 17 0, gg_i (nI a), gg_i 0, gg_i 0] x (.inl (some (gg_i V))) z
def mr_as (a : Nat) (s : gg_X × Int32) : gg_X × Int32 := if s.2 = -1 then ((mr_is (mr_ps s.1).2 a 0 0).2, (mr_is (mr_ps s.1).2 a 0 0).1) else ((mr_ps s.1).2, s.2)
def mr_ak (a : Nat) (s : gg_X × Int32) : Nat → gg_X × Int32
  | 0 => s
  | k + 1 => mr_as a (mr_ak a s k)
theorem mr_ak_s (a : Nat) (s : gg_X × Int32) : ∀ k, mr_ak a s (k + 1) = mr_ak a (mr_as a s) k
  | 0 => rfl
  | k + 1 => by
    show mr_as a (mr_ak a s (k + 1)) = mr_as a (mr_ak a (mr_as a s) k)
    rw [mr_ak_s a s k]
def awH (l : Launch) (a : Nat) (s : gg_X × Int32) : Prop := mr_isa s.1 s.2 = 0 ∧ zPc l s.1 (mr_ps s.1).1 (mr_ps s.1).2 ∧ (s.2 = -1 → zIc l a (mr_ps s.1).2 (mr_is (mr_ps s.1).2 a 0 0).1 (mr_is (mr_ps s.1).2 a 0 0).2)
def awC (l : Launch) (a : Nat) (s : gg_X × Int32) (K : Nat) : Prop := (∀ k, k < K → awH l a (mr_ak a s k)) ∧ mr_isa (mr_ak a s K).1 (mr_ak a s K).2 = 1
theorem awC_cons {l : Launch} {a : Nat} {s : gg_X × Int32} {K : Nat} (h0 : awH l a s) (h : awC l a (mr_as a s) K) : awC l a s (K + 1) := by
  refine ⟨fun k hk => ?_, by rw [mr_ak_s]; exact h.2⟩
  rcases k with _ | k
  · exact h0
  · rw [mr_ak_s]
    exact h.1 k (by omega)
theorem awC_uniq {l : Launch} {a : Nat} {s : gg_X × Int32} {K J : Nat} (h1 : awC l a s K) (h2 : awC l a s J) : K = J := by
  rcases Nat.lt_trichotomy K J with h | h | h
  · have := (h2.1 K h).1
    rw [h1.2] at this
    exact absurd this (by decide)
  · exact h
  · have := (h1.1 J h).1
    rw [h2.2] at this
    exact absurd this (by decide)
def awY (l : Launch) (y : gg_X) (t J : Nat) (e : gg_X) : Prop := ∃ (Y : Nat → gg_X) (U : Nat → Int32), Y 0 = y ∧ (∀ k, k < J → (Y k).1 26 0 t = 0 ∧ zPr l (Y k) (U k) (Y (k + 1))) ∧ Y J = e ∧ ¬ e.1 26 0 t = 0
def awX (l : Launch) (a : Nat) (y : gg_X) (τ0 : Int32) (K : Nat) (e : gg_X) (t : Nat) : Prop := ∃ (X Z : Nat → gg_X) (τ V : Nat → Int32), X 0 = y ∧ τ 0 = τ0 ∧ (∀ k, k < K → τ k < 0 ∧ zPr l (X k) (V k) (Z k) ∧ zIr l a (Z k) (τ (k + 1)) (X (k + 1))) ∧ τ K = nI t ∧ X K = e
theorem awY_cons {l : Launch} {y y' e : gg_X} {t J : Nat} {V : Int32} (h0 : y.1 26 0 t = 0) (hp : zPr l y V y') (h : awY l y' t J e) : awY l y t (J + 1) e := by
  obtain ⟨Y, U, h1, h2, h3, h4⟩ := h
  refine ⟨fun k => match k with | 0 => y | k + 1 => Y k, fun k => match k with | 0 => V | k + 1 => U k, rfl, fun k hk => ?_, h3, h4⟩
  rcases k with _ | k
  · refine ⟨h0, ?_⟩
    show zPr l y V (Y 0)
    rw [h1]
    exact hp
  · exact h2 k (by omega)
theorem awX_cons {l : Launch} {a : Nat} {y z y' e : gg_X} {t K : Nat} {V τ1 : Int32} (hp : zPr l y V z) (hi : zIr l a z τ1 y') (h : awX l a y' τ1 K e t) : awX l a y (-1) (K + 1) e t := by
  obtain ⟨X, Z, τ, W, h1, h2, h3, h4, h5⟩ := h
  refine ⟨fun k => match k with | 0 => y | k + 1 => X k, fun k => match k with | 0 => z | k + 1 => Z k, fun k => match k with | 0 => -1 | k + 1 => τ k, fun k => match k with | 0 => V | k + 1 => W k, rfl, rfl, fun k hk => ?_, h4, h5⟩
  rcases k with _ | k
  · refine ⟨(show (-1 : Int32) < 0 by decide), hp, ?_⟩
    show zIr l a z (τ 0) (X 0)
    rw [h1, h2]
    exact hi
  · exact h3 k (by omega)
theorem sR_ms {x y : gg_X} {T U n lf : Nat} (h : sR x y T U n lf) : s_ms n lf ≤ 45 := by
  obtain ⟨hC, hx, hy, S, Ln, Rg, Us, F, sz, Tk, A, Dn, RL, Rk, hh, d, c, I⟩ := h
  obtain ⟨w, R, t, q, m1, m2, m3, m4, m5, m6⟩ := I
  unfold s_ms
  split
  · omega
  · have := m6 (by omega)
    omega
theorem aw2 {t T U a : Nat} (l : Launch) (htr : l.stackTraces = false) (ht : t < T) (hT : T ≤ 512) : ∀ (m : Nat) (x y : gg_X) (n lf : Nat), s_ms n lf ≤ m → sR x y T U n lf → ∃ K, K ≤ m ∧ awC l a (x, nI t) K ∧ (mr_ak a (x, nI t) K).2 = nI t ∧ gz x (mr_ak a (x, nI t) K).1 ∧ ∃ e, awY l y t K e ∧ hz y e ∧ ∃ n' lf', sR (mr_ak a (x, nI t) K).1 e T U n' lf' := by
  intro m
  induction m with
  | zero =>
    intro x y n lf hm hR
    obtain ⟨d1, d2, d3⟩ := sR_dn hR ht
    by_cases z : y.1 26 0 t = 0
    · exfalso
      have hn : 0 < n := Nat.pos_of_ne_zero (fun e => d3 e z)
      obtain ⟨-, -, y', n', lf', -, -, -, -, p⟩ := sim_pass l htr hR hT
      have := p hn
      omega
    · refine ⟨0, Nat.le_refl 0, ⟨fun k hk => by omega, ?_⟩, rfl, gz.rf, y, ⟨fun _ => y, fun _ => 0, rfl, fun k hk => by omega, rfl, z⟩, hz.rf, n, lf, hR⟩
      show mr_isa x (nI t) = 1
      rw [mr_isa_t (by omega), d1, if_neg z]
  | succ m ih =>
    intro x y n lf hm hR
    obtain ⟨d1, d2, d3⟩ := sR_dn hR ht
    by_cases z : y.1 26 0 t = 0
    · have hn : 0 < n := Nat.pos_of_ne_zero (fun e => d3 e z)
      obtain ⟨p1, p2, y', n', lf', p3, p4, p5, -, p⟩ := sim_pass l htr hR hT
      obtain ⟨K, k1, k2, k3, k4, e, k5, k6, k7⟩ := ih (mr_ps x).2 y' n' lf' (by have := p hn; omega) p5
      have hm1 : ¬ nI t = -1 := gg_nIm1 (by omega)
      have es : mr_as a (x, nI t) = ((mr_ps x).2, nI t) := by
        unfold mr_as
        rw [if_neg hm1]
      have h0 : awH l a (x, nI t) := by
        refine ⟨?_, p1, fun q => absurd q hm1⟩
        show mr_isa x (nI t) = 0
        rw [mr_isa_t (by omega), d1, if_pos z]
      refine ⟨K + 1, by omega, awC_cons h0 (by rw [es]; exact k2), by rw [mr_ak_s, es]; exact k3, by rw [mr_ak_s, es]; exact p2.tr k4, e, awY_cons z p3 k5, p4.tr k6, by rw [mr_ak_s, es]; exact k7⟩
    · refine ⟨0, by omega, ⟨fun k hk => by omega, ?_⟩, rfl, gz.rf, y, ⟨fun _ => y, fun _ => 0, rfl, fun k hk => by omega, rfl, z⟩, hz.rf, n, lf, hR⟩
      show mr_isa x (nI t) = 1
      rw [mr_isa_t (by omega), d1, if_neg z]
theorem mr_isa_m {x : gg_X} : mr_isa x (-1) = 0 := by
  unfold mr_isa
  rw [if_pos (by decide)]
theorem aw1 {T U a : Nat} (l : Launch) (htr : l.stackTraces = false) (ha : a < 256) (hT : T < 512) (hU : U + 2 < 2 ^ 30) : ∀ (m : Nat) (x y : gg_X) (n lf : Nat), s_ms n lf ≤ m → 0 < n → sR x y T U n lf → ∃ K, K ≤ m + 45 ∧ awC l a (x, -1) K ∧ (mr_ak a (x, -1) K).2 = nI T ∧ gz x (mr_ak a (x, -1) K).1 ∧ ∃ K1 J e1 e, awX l a y (-1) K1 e1 T ∧ awY l e1 T J e ∧ hz y e ∧ ∃ U' n' lf', U' ≤ U + 2 ∧ sR (mr_ak a (x, -1) K).1 e (T + 1) U' n' lf' := by
  intro m
  induction m with
  | zero =>
    intro x y n lf hm hn hR
    exfalso
    obtain ⟨-, -, y', n', lf', -, -, -, -, p⟩ := sim_pass l htr hR (by omega)
    have := p hn
    omega
  | succ m ih =>
    intro x y n lf hm hn hR
    obtain ⟨p1, p2, y', n', lf', p3, p4, p5, -, p⟩ := sim_pass l htr hR (by omega)
    have hp := p hn
    obtain ⟨i1, i2, y2, i3, i4, alt⟩ := sim_issue (a := a) l htr p5 hT hU ha
    have es : mr_as a (x, -1) = ((mr_is (mr_ps x).2 a 0 0).2, (mr_is (mr_ps x).2 a 0 0).1) := by
      unfold mr_as
      rw [if_pos rfl]
    have h0 : awH l a (x, -1) := ⟨mr_isa_m, p1, fun _ => i1⟩
    rcases alt with ⟨q1, q2, q3⟩ | ⟨q1, U', n2, lf2, q2, q3⟩
    · rw [q1] at es i3
      obtain ⟨K, k1, k2, k3, k4, K1, J, e1, e, k5, k6, k7, k8⟩ := ih (mr_is (mr_ps x).2 a 0 0).2 y2 n' lf' (by omega) q2 q3
      exact ⟨K + 1, by omega, awC_cons h0 (by rw [es]; exact k2), by rw [mr_ak_s, es]; exact k3, by rw [mr_ak_s, es]; exact (p2.tr i2).tr k4, K1 + 1, J, e1, e, awX_cons p3 i3 k5, k6, (p4.tr i4).tr k7, by rw [mr_ak_s, es]; exact k8⟩
    · rw [q1] at es i3
      obtain ⟨K, k1, k2, k3, k4, e, k5, k6, n3, lf3, k7⟩ := aw2 (t := T) (T := T + 1) (U := U') (a := a) l htr (by omega) (by omega) (s_ms n2 lf2) (mr_is (mr_ps x).2 a 0 0).2 y2 n2 lf2 (Nat.le_refl _) q3
      have := sR_ms q3
      refine ⟨K + 1, by omega, awC_cons h0 (by rw [es]; exact k2), by rw [mr_ak_s, es]; exact k3, by rw [mr_ak_s, es]; exact (p2.tr i2).tr k4, 1, K, y2, e, awX_cons p3 i3 ⟨fun _ => y2, fun _ => y2, fun _ => nI T, fun _ => 0, rfl, rfl, fun k hk => by omega, rfl, rfl⟩, k5, (p4.tr i4).tr k6, U', n3, lf3, q2, by rw [mr_ak_s, es]; exact k7⟩
theorem aw0 {x y : gg_X} {T U n lf a : Nat} (l : Launch) (htr : l.stackTraces = false) (hR : sR x y T U n lf) (ha : a < 256) (hT : T < 512) (hU : U + 2 < 2 ^ 30) : zIc l a x (mr_is x a 0 0).1 (mr_is x a 0 0).2 ∧ ∃ K, K ≤ 100 ∧ awC l a ((mr_is x a 0 0).2, (mr_is x a 0 0).1) K ∧ (mr_ak a ((mr_is x a 0 0).2, (mr_is x a 0 0).1) K).2 = nI T ∧ gz x (mr_ak a ((mr_is x a 0 0).2, (mr_is x a 0 0).1) K).1 ∧
    ∃ e0 K1 J e1 e, zIr l a y (mr_is x a 0 0).1 e0 ∧ awX l a e0 (mr_is x a 0 0).1 K1 e1 T ∧ awY l e1 T J e ∧ hz y e ∧ ∃ U' n' lf', U' ≤ U + 2 ∧ sR (mr_ak a ((mr_is x a 0 0).2, (mr_is x a 0 0).1) K).1 e (T + 1) U' n' lf' := by
  obtain ⟨i1, i2, y2, i3, i4, alt⟩ := sim_issue (a := a) l htr hR hT hU ha
  refine ⟨i1, ?_⟩
  have hm := sR_ms hR
  rcases alt with ⟨q1, q2, q3⟩ | ⟨q1, U', n2, lf2, q2, q3⟩
  · obtain ⟨K, k1, k2, k3, k4, K1, J, e1, e, k5, k6, k7, k8⟩ := aw1 (a := a) l htr ha hT hU (s_ms n lf) (mr_is x a 0 0).2 y2 n lf (Nat.le_refl _) q2 q3
    rw [q1] at i3 ⊢
    exact ⟨K, by omega, k2, k3, i2.tr k4, y2, K1, J, e1, e, i3, k5, k6, i4.tr k7, k8⟩
  · obtain ⟨K, k1, k2, k3, k4, e, k5, k6, n3, lf3, k7⟩ := aw2 (t := T) (T := T + 1) (U := U') (a := a) l htr (by omega) (by omega) (s_ms n2 lf2) (mr_is x a 0 0).2 y2 n2 lf2 (Nat.le_refl _) q3
    have := sR_ms q3
    rw [q1] at i3 ⊢
    exact ⟨K, by omega, k2, k3, i2.tr k4, y2, 0, K, y2, e, i3, ⟨fun _ => y2, fun _ => y2, fun _ => nI T, fun _ => 0, rfl, rfl, fun k hk => by omega, rfl, rfl⟩, k5, i4.tr k6, U', n3, lf3, q2, k7⟩
theorem op_await {l : Launch} {x : gg_X} {N : Nat} {v : Int32} (htr : l.stackTraces = false) (hN : N < 512) (h : St x N) : ax_await l x v (fun y => St y (N + 1)) := by
  rcases pk_ix v (n := 256) (by decide) with hv | hv | ⟨a, ha, rfl⟩
  · exact ⟨_, x, gg_up x 17 0 0 1, 1, 0, by decide, by decide, by decide, by decide, kL_awaitN l x x v (kX4_awaitN l htr x v (Or.inl hv)), kX5_awaitN l htr x v (Or.inl hv), rfl, fun z => absurd z (by decide), St_t0 h 1⟩
  · exact ⟨_, x, gg_up x 17 0 0 1, 1, 0, by decide, by decide, by decide, by decide, kL_awaitN l x x v (kX4_awaitN l htr x v (Or.inr hv)), kX5_awaitN l htr x v (Or.inr (i32_gt (n := 255) (by decide) hv)), rfl, fun z => absurd z (by decide), St_t0 h 1⟩
  · obtain ⟨T, U, n, lf, hR, hT, hU⟩ := h
    obtain ⟨i1, K, k1, k2, k3, k4, -⟩ := aw0 (a := a) l htr hR ha (by omega) (by omega)
    generalize hs : ((mr_is x a 0 0).2, (mr_is x a 0 0).1) = s at *
    have c1 := kX4_awaitY l htr x (fun k => (mr_ak a s k).1) (fun k => (mr_ps (mr_ak a s k).1).2) (fun k => (mr_ak a s k).2) (fun k => (mr_ps (mr_ak a s k).1).1) K a T ha (by rw [← hs]; exact i1) (fun k hk => (k2.1 k hk).1) (fun k hk => (k2.1 k hk).2.1)
      (fun k hk hm => by
        have h3 := (k2.1 k hk).2.2 hm
        have e : mr_ak a s (k + 1) = ((mr_is (mr_ps (mr_ak a s k).1).2 a 0 0).2, (mr_is (mr_ps (mr_ak a s k).1).2 a 0 0).1) := by
          show mr_as a (mr_ak a s k) = _
          unfold mr_as
          rw [if_pos hm]
        show zIc l a _ (mr_ak a s (k + 1)).2 (mr_ak a s (k + 1)).1
        rw [e]
        exact h3)
      (fun k hk hm => by
        have e : mr_ak a s (k + 1) = ((mr_ps (mr_ak a s k).1).2, (mr_ak a s k).2) := by
          show mr_as a (mr_ak a s k) = _
          unfold mr_as
          rw [if_neg hm]
        show (mr_ak a s (k + 1)).2 = _ ∧ (mr_ak a s (k + 1)).1 = _
        rw [e]
        exact ⟨rfl, rfl⟩) (by omega) k2.2 k3 (by omega)
    have hR2 := sR_th (sR_y hR (y' := gg_lu (mr_ak a s K).1 0 ((mr_ak a s K).1.1 5 0 T).toInt64) k4) 0
    obtain ⟨-, K', -, g2, -, -, e0, K1, J, e1, e, j1, ⟨X, Z, τ, V, x1, x2, x3, x4, x5⟩, ⟨Y, W, w1, w2, w3, w4⟩, j4, U', n', lf', j5, j6⟩ := aw0 (a := a) l htr hR2 ha (by omega) (by omega)
    rw [hs] at g2 j6
    have eK := awC_uniq g2 k2
    subst eK
    have c2 := kX5_awaitY l htr (gg_lu (mr_ak a s K').1 0 ((mr_ak a s K').1.1 5 0 T).toInt64) X Z τ V K1 a Y W J T ha (by rw [x1, x2]; exact j1) (fun k hk => (x3 k hk).1) (fun k hk => (x3 k hk).2.1) (fun k hk => (x3 k hk).2.2) (by rw [x4]; exact nI_pos (by omega)) x4 (by rw [w1, x5]) (by omega) (fun k hk => (w2 k hk).1) (fun k hk => (w2 k hk).2) (by rw [w3]; exact w4)
    rw [w3] at c2
    refine ⟨_, _, _, 0, _, by decide, by decide, by decide, by decide, kL_awaitY l x _ (nI a) _ c1, c2, j4.2.2, fun _ => ?_, St_on j6 (fun f hf => ?_) ?_ (by omega) (by omega)⟩
    · rw [j4.2.1, ← (sR_dn j6 (show T < T + 1 by omega)).2.1]
      rfl
    · rw [j4.1 f hf, gg_upF (by omega)]
      rfl
    · rw [j4.2.1]
      rfl
