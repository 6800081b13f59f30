-- an access: contracts; the calls' common ground
theorem cA_y {x y y' : gg_X} {S Ln Rg Us F sz A Dn RL : Nat → Nat} {Tk : Nat → Nat → Nat} {Rk : Nat → Option Nat} {h n T U d lf : Nat} (c : cA x y S Ln Rg Us F sz Tk A Dn RL Rk h n T U d lf) (g : ∀ f, 17 ≤ f → y'.1 f = y.1 f) : cA x y' S Ln Rg Us F sz Tk A Dn RL Rk h n T U d lf := by
  obtain ⟨c1, c2, c3, c4, c5, c6, c7⟩ := c
  have g17 := g 17 (by decide)
  exact ⟨cW_fr c1 rfl rfl rfl (g _ (by decide)) (g _ (by decide)) (g _ (by decide)) (g _ (by decide)), cR_fr c2 rfl rfl rfl rfl (g _ (by decide)), cT_fr c3 rfl rfl (g _ (by decide)) (g _ (by decide)) (g _ (by decide)), cQ_fr c4 rfl rfl rfl (g _ (by decide)) (g _ (by decide)), cP_fr c5 rfl (by rw [g17]) (by rw [g17]) (by rw [g17]), cU_fr c6 rfl (by rw [g17]) (by rw [g17]), cE_fr c7 rfl (g _ (by decide))⟩
theorem cA_x {x x' y : gg_X} {S Ln Rg Us F sz A Dn RL : Nat → Nat} {Tk : Nat → Nat → Nat} {Rk : Nat → Option Nat} {h n T U d lf : Nat} (c : cA x y S Ln Rg Us F sz Tk A Dn RL Rk h n T U d lf) (g : ∀ f, f ≤ 16 → x'.1 f = x.1 f) (g2 : x'.2.1 = x.2.1) : cA x' y S Ln Rg Us F sz Tk A Dn RL Rk h n T U d lf := by
  obtain ⟨c1, c2, c3, c4, c5, c6, c7⟩ := c
  exact ⟨cW_fr c1 (g _ (by decide)) (g _ (by decide)) (by rw [g2]) rfl rfl rfl rfl, cR_fr c2 (g _ (by decide)) (g _ (by decide)) (g _ (by decide)) (g _ (by decide)) rfl, cT_fr c3 (g _ (by decide)) (g _ (by decide)) rfl rfl rfl, cQ_fr c4 (g _ (by decide)) (g _ (by decide)) (by rw [g2]) rfl rfl, cP_fr c5 (g _ (by decide)) rfl rfl rfl, cU_fr c6 (g _ (by decide)) rfl rfl, cE_fr c7 (g _ (by decide)) rfl⟩
theorem sR_y {x y y' : gg_X} {T U n lf : Nat} (h : sR x y T U n lf) (g : ∀ f, 17 ≤ f → y'.1 f = y.1 f) : sR x y' T U n lf := by
  obtain ⟨h1, h2, h3, S, Ln, Rg, Us, F, sz, Tk, A, Dn, RL, Rk, hh, d, c, I⟩ := h
  exact ⟨cC_fr h1 rfl (g _ (by decide)), h2, by rw [g 17 (by decide)]; exact h3, S, Ln, Rg, Us, F, sz, Tk, A, Dn, RL, Rk, hh, d, cA_y c g, I⟩
theorem sR_x {x x' y : gg_X} {T U n lf : Nat} (h : sR x y T U n lf) (g : ∀ f, f ≤ 16 → x'.1 f = x.1 f) (g2 : x'.2.1 = x.2.1) : sR x' y T U n lf := by
  obtain ⟨h1, h2, h3, S, Ln, Rg, Us, F, sz, Tk, A, Dn, RL, Rk, hh, d, c, I⟩ := h
  exact ⟨cC_fr h1 (g _ (by decide)) rfl, by rw [g 7 (by decide)]; exact h2, h3, S, Ln, Rg, Us, F, sz, Tk, A, Dn, RL, Rk, hh, d, cA_x c g g2, I⟩
theorem sR_th {x y : gg_X} {T U n lf : Nat} (h : sR x y T U n lf) (v : Int32) : sR x (gg_up y 17 0 0 v) T U n lf := by
  obtain ⟨h1, h2, h3, S, Ln, Rg, Us, F, sz, Tk, A, Dn, RL, Rk, hh, d, c, I⟩ := h
  exact ⟨cC_fr h1 rfl rfl, h2, by rw [gg_up_k (by decide)]; exact h3, S, Ln, Rg, Us, F, sz, Tk, A, Dn, RL, Rk, hh, d, cA_th c v, I⟩
/-- after N calls -/
def St (x : gg_X) (N : Nat) : Prop := ∃ T U n lf, sR x x T U n lf ∧ T ≤ N ∧ U ≤ 2 * N
/-- the kind has come to x1, the reference from there to y: together -/
theorem St_of {x1 y : gg_X} {T U n lf N : Nat} (h : sR x1 y T U n lf) (g1 : ∀ f, f ≤ 16 → y.1 f = x1.1 f) (g2 : y.2.1 = x1.2.1) (hT : T ≤ N) (hU : U ≤ 2 * N) (v : Int32) : St (gg_up y 17 0 0 v) N := by
  refine ⟨T, U, n, lf, sR_th (sR_x h (fun f hf => ?_) ?_) v, hT, hU⟩
  · rw [gg_upF (by omega), g1 f hf]
  · show y.2.1 = _
    exact g2
theorem St_on {x1 y : gg_X} {T U n lf N : Nat} (h : sR x1 y T U n lf) (g1 : ∀ f, f ≤ 16 → y.1 f = x1.1 f) (g2 : y.2.1 = x1.2.1) (hT : T ≤ N) (hU : U ≤ 2 * N) : St y N := ⟨T, U, n, lf, sR_x h g1 g2, hT, hU⟩
theorem St_th {x : gg_X} {N : Nat} (h : St x N) (k : Nat) (w : Int64) (v : Int32) : St (gg_up (gg_lu x k w) 17 0 0 v) (N + 1) := by
  obtain ⟨T, U, n, lf, hR, h1, h2⟩ := h
  exact St_of (x1 := x) (y := gg_lu x k w) (sR_y hR (fun f hf => rfl)) (fun _ _ => rfl) rfl (by omega) (by omega) v
theorem St_t0 {x : gg_X} {N : Nat} (h : St x N) (v : Int32) : St (gg_up x 17 0 0 v) (N + 1) := by
  obtain ⟨T, U, n, lf, hR, h1, h2⟩ := h
  exact St_of hR (fun _ _ => rfl) rfl (by omega) (by omega) v
theorem St_s {x : gg_X} {N : Nat} (h : St x N) : St x (N + 1) := by
  obtain ⟨T, U, n, lf, hR, h1, h2⟩ := h
  exact ⟨T, U, n, lf, hR, by omega, by omega⟩
/-- the access, as a function of the kind's state -/
def mr_tk (x : gg_X) (a : Nat) (b v : Int32) : Option gg_X := mr_take x (x.1 4 0 1).toNatClampNeg (x.1 4 0 2).toNatClampNeg (x.1 7 0 0).toNatClampNeg a b v (fun r => (x.1 11 r 4).toNatClampNeg)
def mr_is (x : gg_X) (a : Nat) (b v : Int32) : Int32 × gg_X := mr_iss x (x.1 4 0 1).toNatClampNeg (x.1 4 0 2).toNatClampNeg (x.1 7 0 0).toNatClampNeg a b v (fun r => (x.1 11 r 4).toNatClampNeg)
theorem mr_take_sz {x : gg_X} {h n t a : Nat} {b v : Int32} {sz sz' : Nat → Nat} (hreg : ∀ i r, i < 8 → x.2.1 9 i = some r → r < 3) (hs : ∀ r, r < 3 → sz r = sz' r) : mr_take x h n t a b v sz = mr_take x h n t a b v sz' := by
  unfold mr_take
  cases h1 : mr_find x (a / 4) with
  | none => rfl
  | some i =>
    simp only
    cases h2 : x.2.1 9 i with
    | none => rfl
    | some r =>
      simp only
      rw [hs r (hreg i r (mr_find_lt h1) h2)]
theorem sim_acc {x y : gg_X} {T U n lf a : Nat} {b v : Int32} (hR : sR x y T U n lf) (hT : T < 512) (hU : U + 2 < 2 ^ 30) (ha : a < 256) : ∃ (h : Nat) (sz A : Nat → Nat), x.1 4 0 1 = nI h ∧ h < 5 ∧ x.1 4 0 2 = nI n ∧ n ≤ 5 ∧ n = mr_cw x h n + mr_fl x ∧ mr_cw x h n ≤ 2 ∧ (∀ r, r < 3 → x.1 11 r 4 = nI (sz r) ∧ sz r < 4) ∧ (∀ i r, i < 8 → x.2.1 9 i = some r → r < 3) ∧ x.1 7 0 0 = nI T ∧ y.1 17 0 7 = nI T ∧ (∀ t, t < T → y.1 23 0 t = nI (A t) ∧ A t < 256) ∧ y.1 17 0 12 = nI n ∧
    mr_tk x a b v = mr_take x h n T a b v sz ∧ mr_is x a b v = mr_iss x h n T a b v sz ∧
    ((mr_tk x a b v = none ∧ md_iss y n T a b v A = (-1, md_cnt y 4) ∧ 0 < n ∧ sR (mr_cnt (gg_up x 5 0 T v) 4) (md_cnt y 4) T U n lf) ∨
      ∃ z w U' n' lf', mr_tk x a b v = some z ∧ md_iss y n T a b v A = (nI T, w) ∧ U' ≤ U + 2 ∧ sR (mr_cnt z 0) w (T + 1) U' n' lf') := by
  obtain ⟨hC, hx, hy, S, Ln, Rg, Us, F, sz, Tk, A, Dn, RL, Rk, h, d, c, I⟩ := hR
  have sim := sim_iss (a := a) c I hU hT ha b v
  have c0 := c
  have I0 := I
  obtain ⟨c1, c2, c3, c4, ⟨p1, p2, p3, p4, p5, p6, p7⟩, c6, c7⟩ := c
  obtain ⟨w, R, t, q, m1, m2, m3, m4, m5, m6⟩ := I
  have hcw := ag_cw c4 n (Nat.le_refl n)
  have hfl := (ag_free c2 R).2
  have hreg : ∀ i r, i < 8 → x.2.1 9 i = some r → r < 3 := fun i r hi e => by
    obtain ⟨-, -, -, -, w5, -⟩ := c1 i hi
    by_cases s3 : S i = 3
    · rw [if_pos s3, e] at w5
      rw [Option.some.inj w5]
      exact (R.1 i hi s3).1
    · rw [if_neg s3, e] at w5
      cases w5
  have hsz : ∀ r, r < 3 → x.1 11 r 4 = nI (sz r) ∧ sz r < 4 := fun r hr => ⟨(c2 r hr).2.1, by have := (t.2.1 r hr).1; omega⟩
  have e0 : ∀ b v, mr_take x h n T a b v (fun r => (x.1 11 r 4).toNatClampNeg) = mr_take x h n T a b v sz := fun b v => mr_take_sz hreg (fun r hr => by rw [(hsz r hr).1]; exact nI_clamp (by have := (hsz r hr).2; omega))
  have e1 : mr_tk x a b v = mr_take x h n T a b v sz := by
    unfold mr_tk
    rw [p1, p2, hx, nI_clamp (by omega), nI_clamp (by omega), nI_clamp (by omega)]
    exact e0 b v
  have e2 : mr_is x a b v = mr_iss x h n T a b v sz := by
    unfold mr_is mr_iss
    rw [p1, p2, hx, nI_clamp (by omega), nI_clamp (by omega), nI_clamp (by omega), e0 b v]
  refine ⟨h, sz, A, p1, m1, p2, m2, by rw [hcw, hfl]; exact q.2.2.2.2, by rw [hcw]; exact q.2.2.2.1, hsz, hreg, hx, hy, fun u hu => ⟨(c3.1 u hu).1, (t.1 u hu).1⟩, p3, e1, e2, ?_⟩
  rw [e1]
  rcases sim with ⟨s1, s2, s3⟩ | ⟨z, w', U', n', lf', s1, s2, s3, s4, s5, s6⟩
  · refine Or.inl ⟨s1, s2, s3, cC_cnt (cC_fr hC rfl rfl) 4, ?_, ?_, S, Ln, Rg, Us, F, sz, Tk, A, Dn, RL, Rk, h, d, cA_cy (cA_cx (cA_ve c0 v) 4) 4, I0⟩
    · rw [mr_cnt_0k (by decide)]
      exact hx
    · rw [md_cnt_F (by decide)]
      exact hy
  · obtain ⟨a1, a2, a3, a4, a5, a6, a7, a8, a9, a10, a11, a12, a13, k1, k2, k3⟩ := s4
    refine Or.inr ⟨z, w', U', n', lf', s1, s2, s3, k3 hC, ?_, s6, a1, a2, a3, a4, a5, a6, a7, a8, a9, a10, a11, a12, a13, k1, k2⟩
    rw [s5, hx, nI_1]
theorem sim_issue {x y : gg_X} {T U n lf a : Nat} (l : Launch) (htr : l.stackTraces = false) (hR : sR x y T U n lf) (hT : T < 512) (hU : U + 2 < 2 ^ 30) (ha : a < 256) :
    gg_Cd l yX4_issue cX4_issue 5 (some .int) (gg_rm 5 0 0 122) true [gg_r 0 0, gg_i (nI a), gg_i 0, gg_i 0] x (.inl (some (gg_i (mr_is x a 0 0).1))) (mr_is x a 0 0).2 ∧ gz x (mr_is x a 0 0).2 ∧
      ∃ y', gg_Cd l yX5_issue cX5_issue 7 (some .int) (gg_rm 3 0 0 67) true [gg_r 17 0, gg_i (nI a), gg_i 0, gg_i 0] y (.inl (some (gg_i (mr_is x a 0 0).1))) y' ∧ hz y y' ∧
        (((mr_is x a 0 0).1 = -1 ∧ 0 < n ∧ sR (mr_is x a 0 0).2 y' T U n lf) ∨ ((mr_is x a 0 0).1 = nI T ∧ ∃ U' n' lf', U' ≤ U + 2 ∧ sR (mr_is x a 0 0).2 y' (T + 1) U' n' lf')) := by
  obtain ⟨h, sz, A, f1, f2, f3, f4, f5, f6, f7, f8, f9, f10, f11, f12, e1, e2, alt⟩ := sim_acc (b := 0) (v := 0) hR hT hU ha
  have k1 := kX4_issue l htr x h n T a 0 0 sz hT ha (Or.inl rfl) f1 f2 f3 f4 f5 f6 f7 f8 f9
  have k2 := kX5_issue l htr y n T a 0 0 A ha (Or.inl rfl) f10 hT f11 f12 f4
  rw [← e2] at k1
  have hh := hz_iss (y := y) (n := n) (T := T) (a := a) (b := 0) (v := 0) (A := A)
  rcases alt with ⟨s1, s2, s3, s4⟩ | ⟨z, w, U', n', lf', s1, s2, s3, s4⟩
  · have e3 : mr_is x a 0 0 = (-1, mr_cnt (gg_up x 5 0 T 0) 4) := by
      rw [e2]
      unfold mr_iss
      rw [← e1, s1]
    rw [s2] at k2 hh
    rw [e3] at k1 ⊢
    exact ⟨k1, (gz_up (by decide)).tr gz_cnt, md_cnt y 4, k2, hh, Or.inl ⟨rfl, s3, s4⟩⟩
  · have e3 : mr_is x a 0 0 = (nI T, mr_cnt z 0) := by
      rw [e2]
      unfold mr_iss
      rw [← e1, s1]
    rw [s2] at k2 hh
    rw [e3] at k1 ⊢
    exact ⟨k1, (gz_take (by rw [← e1]; exact s1)).tr gz_cnt, w, k2, hh, Or.inr ⟨rfl, U', n', lf', s3, s4⟩⟩
