-- the steps of an access
section STP
variable {x y x' y' : gg_X} {S Ln Rg Us F sz A Dn RL : Nat → Nat} {Tk : Nat → Nat → Nat} {Rk : Nat → Option Nat} {h n T U d lf i r L v a k : Nat}
theorem cP_app (c : cP x y h n d lf) {q w : Nat} {Lx Ly : Int32} {o : Option Nat} : cP (mr_app x q n Lx o) (md_put y n Ly w) h (n + 1) d (if n = 0 then d else lf) := by
  obtain ⟨p1, p2, p3, p4, p5, p6, p7⟩ := c
  refine ⟨?_, mr_app_n, md_put_n, ?_, ?_, ?_, ?_⟩
  · rw [mr_app_h]; exact p1
  · rw [mr_app_4.1]
    split
    · exact p6
    · exact p4
  · rw [md_put_15]
    split
    · exact p7
    · exact p5
  · rw [mr_app_4.2]; exact p6
  · rw [md_put_f (by decide) (by decide)]; exact p7
theorem cA_appR (c : cA x y S Ln Rg Us F sz Tk A Dn RL Rk h n T U d lf) (hn : n < 5) (i w : Nat) (L : Nat) : cA (mr_app x ((h + n) % 5) n (nI L) (some i)) (md_put y n (nI L) w) S Ln Rg Us F sz Tk A Dn (va_up RL n L) (va_up Rk n (some i)) h (n + 1) T U d (if n = 0 then d else lf) := by
  obtain ⟨c1, c2, c3, c4, c5, c6, c7⟩ := c
  have fx : ∀ f, ¬ f = 15 → ¬ f = 4 → (mr_app x ((h + n) % 5) n (nI L) (some i)).1 f = x.1 f := fun f h1 h2 => mr_app_F h1 h2
  have fy : ∀ f, ¬ f = 28 → ¬ f = 27 → ¬ f = 17 → (md_put y n (nI L) w).1 f = y.1 f := fun f h1 h2 h3 => md_put_F h1 h2 h3
  have fr : (mr_app x ((h + n) % 5) n (nI L) (some i)).2.1 9 = x.2.1 9 := by rw [mr_app_p]; rfl
  refine ⟨cW_fr c1 (fx _ (by decide) (by decide)) (fx _ (by decide) (by decide)) fr (fy _ (by decide) (by decide) (by decide)) (fy _ (by decide) (by decide) (by decide)) (fy _ (by decide) (by decide) (by decide)) (fy _ (by decide) (by decide) (by decide)), cR_fr c2 (fx _ (by decide) (by decide)) (fx _ (by decide) (by decide)) (fx _ (by decide) (by decide)) (fx _ (by decide) (by decide)) (fy _ (by decide) (by decide) (by decide)), cT_fr c3 (fx _ (by decide) (by decide)) (fx _ (by decide) (by decide)) (fy _ (by decide) (by decide) (by decide)) (fy _ (by decide) (by decide) (by decide)) (fy _ (by decide) (by decide) (by decide)), ?_, cP_app c5, cU_fr c6 (fx _ (by decide) (by decide)) (md_put_f (by decide) (by decide)) (md_put_f (by decide) (by decide)), cE_fr c7 (fx _ (by decide) (by decide)) (fy _ (by decide) (by decide) (by decide))⟩
  refine cQ_app c4 hn (fun q hq => ⟨?_, ?_, fun j => by rw [fx _ (by decide) (by decide)]⟩) ?_ ?_ (fun k hk => ⟨?_, fun j hj => ?_⟩) ?_ (fun z => by cases z)
  · rw [mr_app_15, if_neg (fun z => hq z.1)]
  · rw [mr_app_p]
    simp [gg_pu, hq]
  · rw [mr_app_15, if_pos ⟨rfl, rfl⟩]
  · rw [mr_app_p]
    simp [gg_pu]
  · rw [md_put_27, if_neg (by omega)]
  · rw [md_put_28, if_neg (by omega)]
  · rw [md_put_27, if_pos rfl]
    simp
theorem cA_appW (c : cA x y S Ln Rg Us F sz Tk A Dn RL Rk h n T U d lf) (hn : n < 5) (hi : i < 8) (L : Nat) : cA (mr_appw x ((h + n) % 5) n (nI L) i) (md_put y n (nI (100 + L)) i) S Ln Rg Us F sz Tk A Dn (va_up RL n L) (va_up Rk n none) h (n + 1) T U d (if n = 0 then d else lf) := by
  obtain ⟨c1, c2, c3, c4, c5, c6, c7⟩ := c
  have fx : ∀ f, ¬ f = 15 → ¬ f = 4 → ¬ f = 16 → (mr_appw x ((h + n) % 5) n (nI L) i).1 f = x.1 f := fun f h1 h2 h3 => by
    funext b j
    exact mr_appw_o h1 h2 h3
  have fy : ∀ f, ¬ f = 28 → ¬ f = 27 → ¬ f = 17 → (md_put y n (nI (100 + L)) i).1 f = y.1 f := fun f h1 h2 h3 => md_put_F h1 h2 h3
  have f2 : (mr_appw x ((h + n) % 5) n (nI L) i).2 = (gg_pu x 15 ((h + n) % 5) none).2 := by
    unfold mr_appw
    rw [mr_cp_p, mr_app_p]
  have fr : (mr_appw x ((h + n) % 5) n (nI L) i).2.1 9 = x.2.1 9 := by rw [f2]; rfl
  have f4 : (mr_appw x ((h + n) % 5) n (nI L) i).1 4 = (mr_app x ((h + n) % 5) n (nI L) none).1 4 := by
    funext b j
    unfold mr_appw
    exact mr_cp_o (by decide) 4
  have f15 : ∀ b j, (mr_appw x ((h + n) % 5) n (nI L) i).1 15 b j = (mr_app x ((h + n) % 5) n (nI L) none).1 15 b j := fun b j => by
    unfold mr_appw
    exact mr_cp_o (by decide) 4
  have f16 : ∀ b j, (mr_appw x ((h + n) % 5) n (nI L) i).1 16 b j = if b = (h + n) % 5 ∧ 0 ≤ j ∧ j < 0 + 4 then x.1 10 i (j - 0) else x.1 16 b j := fun b j => by
    unfold mr_appw
    rw [mr_cp_at (by decide), mr_app_o (by decide) (by decide), mr_app_o (by decide) (by decide)]
  have c5' := cP_app c5 (q := (h + n) % 5) (w := i) (Lx := nI L) (Ly := nI (100 + L)) (o := none)
  refine ⟨cW_fr c1 (fx _ (by decide) (by decide) (by decide)) (fx _ (by decide) (by decide) (by decide)) fr (fy _ (by decide) (by decide) (by decide)) (fy _ (by decide) (by decide) (by decide)) (fy _ (by decide) (by decide) (by decide)) (fy _ (by decide) (by decide) (by decide)), cR_fr c2 (fx _ (by decide) (by decide) (by decide)) (fx _ (by decide) (by decide) (by decide)) (fx _ (by decide) (by decide) (by decide)) (fx _ (by decide) (by decide) (by decide)) (fy _ (by decide) (by decide) (by decide)), cT_fr c3 (fx _ (by decide) (by decide) (by decide)) (fx _ (by decide) (by decide) (by decide)) (fy _ (by decide) (by decide) (by decide)) (fy _ (by decide) (by decide) (by decide)) (fy _ (by decide) (by decide) (by decide)), ?_, cP_fr c5' f4 rfl rfl rfl, cU_fr c6 (fx _ (by decide) (by decide) (by decide)) (md_put_f (by decide) (by decide)) (md_put_f (by decide) (by decide)), cE_fr c7 (fx _ (by decide) (by decide) (by decide)) (fy _ (by decide) (by decide) (by decide))⟩
  refine cQ_app c4 hn (fun q hq => ⟨?_, ?_, fun j => ?_⟩) ?_ ?_ (fun k hk => ⟨?_, fun j hj => ?_⟩) ?_ (fun _ j hj => ?_)
  · rw [f15, mr_app_15, if_neg (fun z => hq z.1)]
  · rw [f2]
    simp [gg_pu, hq]
  · rw [f16, if_neg (fun z => hq z.1)]
  · rw [f15, mr_app_15, if_pos ⟨rfl, rfl⟩]
  · rw [f2]
    simp [gg_pu]
  · rw [md_put_27, if_neg (by omega)]
  · rw [md_put_28, if_neg (by omega)]
  · rw [md_put_27, if_pos rfl]
    simp
  · rw [f16, if_pos ⟨rfl, by omega, by omega⟩, md_put_28, if_pos (by omega), (c1 i hi).2.2.2.2.2.2.2 (j - 0) (by omega), show 4 * i + (j - 0) = 4 * i + (4 * n + j - 4 * n) by omega]
theorem cA_f1 (c : cA x y S Ln Rg Us F sz Tk A Dn RL Rk h n T U d lf) (i r L : Nat) : cA (gg_pu (gg_up (gg_up (gg_up (gg_up x 11 r 3 1) 11 r 4 0) 9 i 1 (nI L)) 9 i 2 0) 9 i (some r)) (gg_up (gg_up y 19 0 i 3) 20 0 i (nI L)) (va_up S i 3) (va_up Ln i L) (va_up Rg i r) Us (va_up F r 1) (va_up sz r 0) Tk A Dn RL Rk h n T U d lf := by
  obtain ⟨c1, c2, c3, c4, c5, c6, c7⟩ := c
  refine ⟨fun j hj => ?_, fun q hq => ?_, cT_fr c3 rfl rfl rfl rfl rfl, cQ_fr c4 rfl rfl rfl rfl rfl, cP_fr c5 rfl rfl rfl rfl, cU_fr c6 rfl rfl rfl, cE_fr c7 rfl rfl⟩
  · obtain ⟨w1, w2, w3, w4, w5, w6, w7, w8⟩ := c1 j hj
    by_cases e : j = i
    · subst e
      rw [va_up_self, va_up_self, va_up_self]
      refine ⟨?_, fun _ => ?_, ?_, ?_, ?_, ?_, ?_, w8⟩
      · simp [gg_up]; rfl
      · simp [gg_up]
      · simp [gg_up, gg_pu]
      · simp [gg_up, gg_pu]
      · simp [gg_up, gg_pu]
      · rw [← w6]; simp [gg_up, gg_pu]
      · rw [← w7]; simp [gg_up]
    · rw [va_up_ne _ _ e, va_up_ne _ _ e, va_up_ne _ _ e]
      refine ⟨?_, fun z => ?_, ?_, ?_, ?_, ?_, ?_, w8⟩
      · rw [← w1]; simp [gg_up, e]
      · rw [← w2 z]; simp [gg_up, e]
      · rw [← w3]; simp [gg_up, gg_pu, e]
      · rw [← w4]; simp [gg_up, gg_pu, e]
      · rw [← w5]; simp [gg_up, gg_pu, e]
      · rw [← w6]; simp [gg_up, gg_pu, e]
      · rw [← w7]; simp [gg_up]
  · obtain ⟨r1, r2, r3⟩ := c2 q hq
    by_cases e : q = r
    · subst e
      rw [va_up_self, va_up_self]
      refine ⟨?_, ?_, fun j hj => by omega⟩
      · simp [gg_up, gg_pu]; rfl
      · simp [gg_up, gg_pu]; rfl
    · rw [va_up_ne _ _ e, va_up_ne _ _ e]
      refine ⟨?_, ?_, r3⟩
      · rw [← r1]; simp [gg_up, gg_pu, e]
      · rw [← r2]; simp [gg_up, gg_pu, e]
theorem cA_fetch (c : cA x y S Ln Rg Us F sz Tk A Dn RL Rk h n T U d lf) (hn : n < 5) (i r L : Nat) : cA (mr_fetch x L i r ((h + n) % 5) n) (md_fetch y n L i) (va_up S i 3) (va_up Ln i L) (va_up Rg i r) (va_up Us i (U + 1)) (va_up F r 1) (va_up sz r 0) Tk A Dn (va_up RL n L) (va_up Rk n (some i)) h (n + 1) T (U + 1) d (if n = 0 then d else lf) :=
  cA_appR (cA_use (cA_f1 c i r L) i) hn i i L
/-- the access is noted at its register; the reference has noted it -/
theorem cA_add (c : cA x y S Ln Rg Us F sz Tk A Dn RL Rk h n T U d lf) (hTk : ∀ r, r < 3 → ∀ j, j < sz r → Tk r j < T) {b v : Int32} (hk : sz r = k) (y1 : y.1 23 0 T = nI a) (y2 : y.1 24 0 T = b) (y3 : y.1 25 0 T = v) (y4 : y.1 26 0 T = 0) (x1 : x.1 5 0 T = v) (hT : T < 512) : cA (mr_add x r k (nI T) (nI (a % 4)) b) y S Ln Rg Us F (va_up sz r (k + 1)) (fun q j => if q = r ∧ j = k then T else Tk q j) (va_up A T a) (va_up Dn T 0) RL Rk h n (T + 1) U d lf := by
  obtain ⟨c1, c2, c3, c4, c5, c6, c7⟩ := c
  refine ⟨cW_fr c1 rfl rfl rfl rfl rfl rfl rfl, fun q hq => ?_, ⟨fun t ht => ?_, fun t h1 h2 => c3.2 t (by omega) h2⟩, cQ_fr c4 rfl rfl rfl rfl rfl, cP_fr c5 rfl rfl rfl rfl, cU_fr c6 rfl rfl rfl, cE_fr c7 rfl rfl⟩
  · obtain ⟨r1, r2, r3⟩ := c2 q hq
    refine ⟨by rw [mr_add_3]; exact r1, ?_, fun j hj => ?_⟩
    · by_cases e : q = r
      · rw [e, va_up_self]
        simp [mr_add, gg_up]
      · rw [va_up_ne _ _ e, ← r2]
        simp [mr_add, gg_up, e]
    · by_cases e : q = r ∧ j = k
      · simp only [if_pos e, va_up_self]
        obtain ⟨e1, e2⟩ := e
        subst e1
        subst e2
        refine ⟨?_, ?_, ?_⟩
        · simp [mr_add, gg_up]
        · simp [mr_add, gg_up]
        · rw [y2]
          simp [mr_add, gg_up]
      · simp only [if_neg e]
        have hj' : j < sz q := by
          by_cases e1 : q = r
          · rw [e1, va_up_self] at hj
            have : ¬ j = k := fun z => e ⟨e1, z⟩
            rw [e1, hk]
            omega
          · rw [va_up_ne _ _ e1] at hj
            exact hj
        obtain ⟨j1, j2, j3⟩ := r3 j hj'
        have hlt := hTk q hq j hj'
        rw [va_up_ne _ _ (show Tk q j ≠ T by omega)]
        refine ⟨?_, ?_, ?_⟩
        · rw [← j1]; simp [mr_add, gg_up]; intro z1 z2; exact absurd ⟨z1, z2⟩ e
        · rw [← j2]; simp [mr_add, gg_up]; intro z1 z2; exact absurd ⟨z1, z2⟩ e
        · rw [← j3]; simp [mr_add, gg_up]; intro z1 z2; exact absurd ⟨z1, z2⟩ e
  · by_cases e : t = T
    · subst e
      rw [va_up_self, va_up_self]
      refine ⟨y1, ?_, ?_, ?_⟩
      · exact c3.2 t (Nat.le_refl t) hT
      · rw [y4]; rfl
      · rw [y3]; exact x1
    · rw [va_up_ne _ _ e, va_up_ne _ _ e]
      exact c3.1 t (by omega)
/-- a hit: the access is answered at once; the reference has noted it -/
theorem cA_hit (c : cA x y S Ln Rg Us F sz Tk A Dn RL Rk h n T U d lf) (hTk : ∀ r, r < 3 → ∀ j, j < sz r → Tk r j < T) (hi : i < 8) (hS1 : S i ≠ 0) (hS3 : S i ≠ 3) {b v : Int32} (y1 : y.1 23 0 T = nI a) (y2 : y.1 24 0 T = b) (y3 : y.1 25 0 T = v) (x1 : x.1 5 0 T = v) : cA (mr_ans x i T (a % 4) b) (md_act y T i a) (va_up S i (if b = 0 then S i else 2)) Ln Rg Us F sz Tk (va_up A T a) (va_up Dn T 1) RL Rk h n (T + 1) U d lf := by
  obtain ⟨c1, c2, c3, c4, c5, c6, c7⟩ := c
  have h4 : a % 4 < 4 := Nat.mod_lt _ (by decide)
  have hcR : cR x y F sz Tk (va_up A T a) := fun q hq => by
    obtain ⟨r1, r2, r3⟩ := c2 q hq
    refine ⟨r1, r2, fun j hj => ?_⟩
    rw [va_up_ne _ _ (show Tk q j ≠ T by have := hTk q hq j hj; omega)]
    exact r3 j hj
  by_cases hb : b = 0
  · have e1 : mr_ans x i T (a % 4) b = gg_up (gg_up x 5 0 T (x.1 10 i (a % 4))) 6 0 T 1 := by unfold mr_ans; rw [if_pos hb]
    have e2 : md_act y T i a = gg_up (gg_up y 25 0 T (y.1 22 0 (4 * i + a % 4))) 26 0 T 1 := by unfold md_act; rw [if_pos (y2.trans hb)]
    rw [e1, e2, if_pos hb]
    have hSS : va_up S i (S i) = S := by
      funext j
      unfold va_up
      split
      · rename_i z
        rw [z]
      · rfl
    rw [hSS]
    refine ⟨cW_fr c1 rfl rfl rfl rfl rfl rfl rfl, cR_fr hcR rfl rfl rfl rfl rfl, ⟨fun t ht => ?_, fun t g1 g2 => ?_⟩, cQ_fr c4 rfl rfl rfl rfl rfl, cP_fr c5 rfl rfl rfl rfl, cU_fr c6 rfl rfl rfl, cE_fr c7 rfl rfl⟩
    · by_cases e : t = T
      · subst e
        rw [va_up_self, va_up_self]
        refine ⟨y1, ?_, ?_, ?_⟩
        · simp [gg_up]; rfl
        · simp [gg_up]; rfl
        · simp [gg_up]
          exact (c1 i hi).2.2.2.2.2.2.2 _ h4
      · rw [va_up_ne _ _ e, va_up_ne _ _ e]
        obtain ⟨t1, t2, t3, t4⟩ := c3.1 t (by omega)
        refine ⟨t1, ?_, ?_, ?_⟩
        · rw [← t2]; simp [gg_up, e]
        · rw [← t3]; simp [gg_up, e]
        · simpa [gg_up, e] using t4
    · rw [← c3.2 t (by omega) g2]
      simp [gg_up, show ¬ t = T by omega]
  · have e1 : mr_ans x i T (a % 4) b = gg_up (gg_up (gg_up x 10 i (a % 4) (x.1 5 0 T)) 9 i 2 1) 6 0 T 1 := by unfold mr_ans; rw [if_neg hb]
    have e2 : md_act y T i a = gg_up (gg_up (gg_up y 22 0 (4 * i + a % 4) (y.1 25 0 T)) 19 0 i 2) 26 0 T 1 := by unfold md_act; rw [if_neg (fun z => hb (y2.symm.trans z))]
    rw [e1, e2, if_neg hb]
    refine ⟨fun j hj => ?_, cR_fr hcR rfl rfl rfl rfl rfl, ⟨fun t ht => ?_, fun t g1 g2 => ?_⟩, cQ_fr c4 rfl rfl rfl rfl rfl, cP_fr c5 rfl rfl rfl rfl, cU_fr c6 rfl rfl rfl, cE_fr c7 rfl rfl⟩
    · obtain ⟨w1, w2, w3, w4, w5, w6, w7, w8⟩ := c1 j hj
      by_cases e : j = i
      · subst e
        rw [va_up_self]
        refine ⟨?_, fun _ => w2 hS1, ?_, ?_, ?_, ?_, ?_, fun k hk => ?_⟩
        · simp [gg_up]; rfl
        · rw [if_neg (by decide)]
          rw [if_neg hS1] at w3
          rw [← w3]; simp [gg_up]
        · simp [gg_up]
        · rw [if_neg (by decide)]
          rw [if_neg hS3] at w5
          exact w5
        · rw [← w6]; simp [gg_up]
        · rw [← w7]; simp [gg_up]
        · by_cases ek : k = a % 4
          · subst ek
            simp [gg_up]
            rw [x1, y3]
          · have := w8 k hk
            simpa [gg_up, ek, show ¬ 4 * j + k = 4 * j + a % 4 by omega] using this
      · rw [va_up_ne _ _ e]
        refine ⟨?_, fun z => ?_, ?_, ?_, ?_, ?_, ?_, fun k hk => ?_⟩
        · rw [← w1]; simp [gg_up, e]
        · rw [← w2 z]; simp [gg_up]
        · rw [← w3]; simp [gg_up, e]
        · rw [← w4]; simp [gg_up, e]
        · exact w5
        · rw [← w6]; simp [gg_up]
        · rw [← w7]; simp [gg_up]
        · have := w8 k hk
          simpa [gg_up, e, show ¬ 4 * j + k = 4 * i + a % 4 by omega] using this
    · by_cases e : t = T
      · subst e
        rw [va_up_self, va_up_self]
        refine ⟨y1, ?_, ?_, ?_⟩
        · simp [gg_up]; rfl
        · simp [gg_up]; rfl
        · simp [gg_up]
          rw [x1, y3]
      · rw [va_up_ne _ _ e, va_up_ne _ _ e]
        obtain ⟨t1, t2, t3, t4⟩ := c3.1 t (by omega)
        refine ⟨t1, ?_, ?_, ?_⟩
        · rw [← t2]; simp [gg_up, e]
        · rw [← t3]; simp [gg_up, e]
        · simpa [gg_up, e] using t4
    · rw [← c3.2 t (by omega) g2]
      simp [gg_up, show ¬ t = T by omega]
end STP
