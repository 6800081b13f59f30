-- a tick, on both sides
theorem gg_up_comm {x : gg_X} {f i k g j m : Nat} {v w : Int32} (h : ¬ f = g) : gg_up (gg_up x f i k v) g j m w = gg_up (gg_up x g j m w) f i k v := by
  unfold gg_up
  refine Prod.ext ?_ rfl
  funext a b c
  show (if a = g ∧ b = j ∧ c = m then w else if a = f ∧ b = i ∧ c = k then v else x.1 a b c) = (if a = f ∧ b = i ∧ c = k then v else if a = g ∧ b = j ∧ c = m then w else x.1 a b c)
  by_cases e1 : a = g ∧ b = j ∧ c = m
  · have e2 : ¬ (a = f ∧ b = i ∧ c = k) := fun z => h (z.1.symm.trans e1.1)
    rw [if_pos e1, if_neg e2, if_pos e1]
  · rw [if_neg e1, if_neg e1]
theorem gg_up_pu {x : gg_X} {f i k g j : Nat} {v : Int32} {o : Option Nat} : gg_pu (gg_up x f i k v) g j o = gg_up (gg_pu x g j o) f i k v := rfl
theorem mr_cp_up {x : gg_X} {f i o g j a b c : Nat} {v : Int32} (h1 : ¬ a = f) (h2 : ¬ g = a) : ∀ k, mr_cp (gg_up x a b c v) f i o g j k = gg_up (mr_cp x f i o g j k) a b c v
  | 0 => rfl
  | k + 1 => by
    show gg_up (mr_cp (gg_up x a b c v) f i o g j k) f i (o + k) ((mr_cp (gg_up x a b c v) f i o g j k).1 g j k) = gg_up (gg_up (mr_cp x f i o g j k) f i (o + k) ((mr_cp x f i o g j k).1 g j k)) a b c v
    rw [mr_cp_up h1 h2 k, gg_up_comm h1, gg_upF h2]
theorem mr_cf_up {x : gg_X} {i o a b c : Nat} {v : Int32} (h1 : ¬ a = 10) (h2 : ¬ 1 = a) : ∀ k, mr_cf (gg_up x a b c v) i o k = gg_up (mr_cf x i o k) a b c v
  | 0 => rfl
  | k + 1 => by
    show gg_up (mr_cf (gg_up x a b c v) i o k) 10 i k ((mr_cf (gg_up x a b c v) i o k).1 1 0 (o + k)) = gg_up (gg_up (mr_cf x i o k) 10 i k ((mr_cf x i o k).1 1 0 (o + k))) a b c v
    rw [mr_cf_up h1 h2 k, gg_up_comm h1, gg_upF h2]
theorem mr_ans_up {x : gg_X} {i t w a b c : Nat} {v bb : Int32} (h1 : ¬ a = 5) (h2 : ¬ a = 6) (h3 : ¬ a = 9) (h4 : ¬ a = 10) : mr_ans (gg_up x a b c v) i t w bb = gg_up (mr_ans x i t w bb) a b c v := by
  unfold mr_ans
  rw [gg_upF (x := x) (f := a) (a := 10) (fun e => h4 e.symm), gg_upF (x := x) (f := a) (a := 5) (fun e => h1 e.symm)]
  split
  · rw [gg_up_comm h1, gg_up_comm h2]
  · rw [gg_up_comm h4, gg_up_comm h3, gg_up_comm h2]
theorem mr_ans_pu {x : gg_X} {i t w g j : Nat} {bb : Int32} {o : Option Nat} : mr_ans (gg_pu x g j o) i t w bb = gg_pu (mr_ans x i t w bb) g j o := by
  unfold mr_ans
  split <;> rfl
theorem mr_fa_up {x : gg_X} {i r a b c : Nat} {v : Int32} {T V : Nat → Nat} (h1 : ¬ a = 5) (h2 : ¬ a = 6) (h3 : ¬ a = 9) (h4 : ¬ a = 10) (h5 : ¬ 14 = a) : ∀ k, mr_fa (gg_up x a b c v) i r T V k = gg_up (mr_fa x i r T V k) a b c v
  | 0 => rfl
  | k + 1 => by
    show mr_ans (mr_fa (gg_up x a b c v) i r T V k) i (T k) (V k) ((gg_up x a b c v).1 14 r k) = gg_up (mr_ans (mr_fa x i r T V k) i (T k) (V k) (x.1 14 r k)) a b c v
    rw [mr_fa_up h1 h2 h3 h4 h5 k, mr_ans_up h1 h2 h3 h4, gg_upF h5]
theorem mr_fa_pu {x : gg_X} {i r g j : Nat} {o : Option Nat} {T V : Nat → Nat} : ∀ k, mr_fa (gg_pu x g j o) i r T V k = gg_pu (mr_fa x i r T V k) g j o
  | 0 => rfl
  | k + 1 => by
    show mr_ans (mr_fa (gg_pu x g j o) i r T V k) i (T k) (V k) (x.1 14 r k) = gg_pu (mr_ans (mr_fa x i r T V k) i (T k) (V k) (x.1 14 r k)) g j o
    rw [mr_fa_pu k, mr_ans_pu]
theorem mr_cp_drop {x : gg_X} {h n o : Nat} : mr_cp (mr_drop x h n) 1 0 o 16 h 4 = mr_drop (mr_cp x 1 0 o 16 h 4) h n := by
  unfold mr_drop
  rw [mr_cp_up (by decide) (by decide), mr_cp_up (by decide) (by decide), mr_cp_up (by decide) (by decide), mr_cp_o (by decide)]
theorem mr_fill_drop {x : gg_X} {h n i r L k : Nat} {T V : Nat → Nat} : mr_fill (mr_drop x h n) i r L k T V = mr_drop (mr_fa (gg_up (gg_pu (mr_cf x i (L * 4) 4) 9 i none) 11 r 3 0) i r T V k) h n := by
  unfold mr_fill mr_drop
  rw [mr_cf_up (by decide) (by decide), mr_cf_up (by decide) (by decide), mr_cf_up (by decide) (by decide), mr_fa_up (by decide) (by decide) (by decide) (by decide) (by decide), mr_fa_up (by decide) (by decide) (by decide) (by decide) (by decide), mr_fa_up (by decide) (by decide) (by decide) (by decide) (by decide), mr_fa_up (by decide) (by decide) (by decide) (by decide) (by decide), mr_fa_pu, gg_up_pu, gg_up_pu, gg_up_pu]
  rw [gg_up_comm (by decide), gg_up_comm (f := 4) (g := 11) (by decide), gg_up_comm (f := 4) (g := 11) (by decide)]
  have e : (gg_up (gg_pu (mr_fa (mr_cf x i (L * 4) 4) i r T V k) 9 i none) 11 r 3 0).1 4 0 4 = x.1 4 0 4 := by
    rw [gg_upF (by decide)]
    show (mr_fa (mr_cf x i (L * 4) 4) i r T V k).1 4 0 4 = _
    rw [mr_fa_o (by decide) (by decide) (by decide) (by decide), mr_cf_o (by decide)]
  rw [e]
theorem s_lt_at (f : Nat → Nat) (m j : Nat) : ∀ k, (∀ a b, a < b → b < k → f a < f b) → j < k → f j = m → s_lt f m k = j
  | 0, _, hj, _ => by omega
  | k + 1, hk, hj, hm => by
    unfold s_lt
    by_cases e : j = k
    · subst e
      rw [s_lt_all f m j (fun a ha => by have := hk a j ha (by omega); omega), if_neg (by omega), Nat.add_zero]
    · rw [s_lt_at f m j k (fun a b h1 h2 => hk a b h1 (by omega)) (by omega) hm]
      have := hk j k (by omega) (by omega)
      rw [if_neg (by omega), Nat.add_zero]
section PAS
variable {x y : gg_X} {S Ln Rg Us F sz A Dn RL : Nat → Nat} {Tk : Nat → Nat → Nat} {Rk : Nat → Option Nat} {h n T U d lf i r L a k : Nat}
theorem cA_tk (c : cA x y S Ln Rg Us F sz Tk A Dn RL Rk h n T U d lf) (m : Nat) : cA (gg_up x 4 0 3 (nI m)) (gg_up y 17 0 15 (nI m)) S Ln Rg Us F sz Tk A Dn RL Rk h n T U d m := by
  obtain ⟨c1, c2, c3, c4, c5, c6, c7⟩ := c
  refine ⟨cW_fr c1 rfl rfl rfl rfl rfl rfl rfl, cR_fr c2 rfl rfl rfl rfl rfl, cT_fr c3 rfl rfl rfl rfl rfl, cQ_fr c4 rfl rfl rfl rfl rfl, ?_, cU_fr c6 rfl rfl rfl, cE_fr c7 rfl rfl⟩
  obtain ⟨p1, p2, p3, p4, p5, p6, p7⟩ := c5
  exact ⟨p1, p2, p3, by simp [gg_up], by simp [gg_up], p6, p7⟩
theorem md_tail_F {n f : Nat} (h1 : ¬ f = 28) (h2 : ¬ f = 27) (h3 : ¬ f = 17) : (md_tail y n).1 f = y.1 f := by
  unfold md_tail
  rw [gg_upF h3]
  funext b j
  rw [md_sw_o h1, md_sh_o h2, gg_upF h3]
theorem md_tail_f {n k : Nat} (h1 : ¬ k = 12) (h2 : ¬ k = 15) : (md_tail y n).1 17 0 k = y.1 17 0 k := by
  unfold md_tail
  rw [gg_up_k h2, md_sw_o (by decide), md_sh_o (by decide), gg_up_k h1]
theorem cA_drop (c : cA x y S Ln Rg Us F sz Tk A Dn RL Rk h (n + 1) T U d lf) : cA (mr_drop x h (n + 1)) (md_tail y (n + 1)) S Ln Rg Us F sz Tk A Dn (fun k => RL (k + 1)) (fun k => Rk (k + 1)) ((h + 1) % 5) n T U d (if n = 0 then 0 else d) := by
  obtain ⟨c1, c2, c3, c4, c5, c6, c7⟩ := c
  have fy : ∀ f, ¬ f = 28 → ¬ f = 27 → ¬ f = 17 → (md_tail y (n + 1)).1 f = y.1 f := fun f h1 h2 h3 => md_tail_F h1 h2 h3
  refine ⟨cW_fr c1 rfl rfl rfl (fy _ (by decide) (by decide) (by decide)) (fy _ (by decide) (by decide) (by decide)) (fy _ (by decide) (by decide) (by decide)) (fy _ (by decide) (by decide) (by decide)), cR_fr c2 rfl rfl rfl rfl (fy _ (by decide) (by decide) (by decide)), cT_fr c3 rfl rfl (fy _ (by decide) (by decide) (by decide)) (fy _ (by decide) (by decide) (by decide)) (fy _ (by decide) (by decide) (by decide)), fun k hk => ?_, ?_, cU_fr c6 rfl (md_tail_f (by decide) (by decide)) (md_tail_f (by decide) (by decide)), cE_fr c7 rfl (fy _ (by decide) (by decide) (by decide))⟩
  · obtain ⟨k1, k2, k3, k4⟩ := c4 (k + 1) (by omega)
    have e : ((h + 1) % 5 + k) % 5 = (h + (k + 1)) % 5 := by omega
    rw [e]
    refine ⟨k1, k2, ?_, fun z j hj => ?_⟩
    · rw [← k3]
      unfold md_tail
      rw [gg_upF (by decide), md_sw_o (by decide), md_sh_at, if_pos (by omega)]
      rfl
    · have := k4 z j hj
      rw [show (mr_drop x h (n + 1)).1 16 = x.1 16 from rfl, this]
      unfold md_tail
      rw [gg_upF (by decide), md_sw_at, if_pos (by omega), md_sh_o (by decide)]
      rw [show 4 * (k + 1) + j = 4 * k + j + 4 by omega]
      rfl
  · obtain ⟨p1, p2, p3, p4, p5, p6, p7⟩ := c5
    refine ⟨?_, ?_, ?_, ?_, ?_, ?_, ?_⟩
    · simp [mr_drop, gg_up]
    · simp [mr_drop, gg_up]
    · unfold md_tail
      rw [gg_up_k (by decide), md_sw_o (by decide), md_sh_o (by decide)]
      simp [gg_up]
    · by_cases e : n = 0
      · simp [mr_drop, gg_up, e, nI_0]
      · simp [mr_drop, gg_up, e, p6]
    · unfold md_tail
      by_cases e : n = 0
      · simp [gg_up, e, nI_0]
      · simp [gg_up, e, p7]
    · rw [← p6]
      simp [mr_drop, gg_up]
    · rw [md_tail_f (by decide) (by decide)]
      exact p7
theorem cA_memw (c : cA x y S Ln Rg Us F sz Tk A Dn RL Rk h n T U d lf) (hh : h < 5) (hn : 0 < n) (h0 : Rk 0 = none) (L : Nat) : cA (mr_cp x 1 0 (L * 4) 16 h 4) (md_cm y L 4) S Ln Rg Us F sz Tk A Dn RL Rk h n T U d lf := by
  obtain ⟨c1, c2, c3, c4, c5, c6, c7⟩ := c
  have fx : ∀ f, ¬ f = 1 → (mr_cp x 1 0 (L * 4) 16 h 4).1 f = x.1 f := fun f h1 => by
    funext b j
    exact mr_cp_o h1 4
  have fy : ∀ f, ¬ f = 18 → (md_cm y L 4).1 f = y.1 f := fun f h1 => by
    funext b j
    exact md_cm_o h1 4
  have f2 : (mr_cp x 1 0 (L * 4) 16 h 4).2 = x.2 := mr_cp_p 4
  refine ⟨cW_fr c1 (fx _ (by decide)) (fx _ (by decide)) (by rw [f2]) (fy _ (by decide)) (fy _ (by decide)) (fy _ (by decide)) (fy _ (by decide)), cR_fr c2 (fx _ (by decide)) (fx _ (by decide)) (fx _ (by decide)) (fx _ (by decide)) (fy _ (by decide)), cT_fr c3 (fx _ (by decide)) (fx _ (by decide)) (fy _ (by decide)) (fy _ (by decide)) (fy _ (by decide)), cQ_fr c4 (fx _ (by decide)) (fx _ (by decide)) (by rw [f2]) (fy _ (by decide)) (fy _ (by decide)), cP_fr c5 (fx _ (by decide)) (by rw [fy _ (by decide)]) (by rw [fy _ (by decide)]) (by rw [fy _ (by decide)]), cU_fr c6 (fx _ (by decide)) (by rw [fy _ (by decide)]) (by rw [fy _ (by decide)]), fun a ha => ?_⟩
  rw [mr_cp_at (by decide), md_cm_at]
  by_cases e : 4 * L ≤ a ∧ a < 4 * L + 4
  · rw [if_pos ⟨rfl, by omega, by omega⟩, if_pos e]
    have := (c4 0 hn).2.2.2 h0 (a - L * 4) (by omega)
    rw [show (h + 0) % 5 = h by omega, show 4 * 0 + (a - L * 4) = a - 4 * L by omega] at this
    exact this
  · rw [if_neg (by omega), if_neg e]
    exact c7 a ha
/-- a noted access is answered -/
theorem cA_ans (c : cA x y S Ln Rg Us F sz Tk A Dn RL Rk h n T U d lf) (hi : i < 8) (hS1 : S i ≠ 0) (hS3 : S i ≠ 3) {t : Nat} (ht : t < T) {b : Int32} (y2 : y.1 24 0 t = b) : cA (mr_ans x i t (A t % 4) b) (md_act y t i (A t)) (va_up S i (if b = 0 then S i else 2)) Ln Rg Us F sz Tk A (va_up Dn t 1) RL Rk h n T U d lf := by
  obtain ⟨c1, c2, c3, c4, c5, c6, c7⟩ := c
  have h4 : A t % 4 < 4 := Nat.mod_lt _ (by decide)
  obtain ⟨u1, u2, u3, u4⟩ := c3.1 t ht
  by_cases hb : b = 0
  · have e1 : mr_ans x i t (A t % 4) b = gg_up (gg_up x 5 0 t (x.1 10 i (A t % 4))) 6 0 t 1 := by unfold mr_ans; rw [if_pos hb]
    have e2 : md_act y t i (A t) = gg_up (gg_up y 25 0 t (y.1 22 0 (4 * i + A t % 4))) 26 0 t 1 := by unfold md_act; rw [if_pos (y2.trans hb)]
    rw [e1, e2, if_pos hb]
    have hSS : va_up S i (S i) = S := by
      funext j
      unfold va_up
      split
      · rename_i z
        rw [z]
      · rfl
    rw [hSS]
    refine ⟨cW_fr c1 rfl rfl rfl rfl rfl rfl rfl, cR_fr c2 rfl rfl rfl rfl rfl, ⟨fun q hq => ?_, fun q g1 g2 => ?_⟩, cQ_fr c4 rfl rfl rfl rfl rfl, cP_fr c5 rfl rfl rfl rfl, cU_fr c6 rfl rfl rfl, cE_fr c7 rfl rfl⟩
    · by_cases e : q = t
      · subst e
        rw [va_up_self]
        refine ⟨u1, ?_, ?_, ?_⟩
        · simp [gg_up]; rfl
        · simp [gg_up]; rfl
        · simp [gg_up]
          exact (c1 i hi).2.2.2.2.2.2.2 _ h4
      · rw [va_up_ne _ _ e]
        obtain ⟨t1, t2, t3, t4⟩ := c3.1 q hq
        refine ⟨t1, ?_, ?_, ?_⟩
        · rw [← t2]; simp [gg_up, e]
        · rw [← t3]; simp [gg_up, e]
        · simpa [gg_up, e] using t4
    · rw [← c3.2 q (by omega) g2]
      simp [gg_up, show ¬ q = t by omega]
  · have e1 : mr_ans x i t (A t % 4) b = gg_up (gg_up (gg_up x 10 i (A t % 4) (x.1 5 0 t)) 9 i 2 1) 6 0 t 1 := by unfold mr_ans; rw [if_neg hb]
    have e2 : md_act y t i (A t) = gg_up (gg_up (gg_up y 22 0 (4 * i + A t % 4) (y.1 25 0 t)) 19 0 i 2) 26 0 t 1 := by unfold md_act; rw [if_neg (fun z => hb (y2.symm.trans z))]
    rw [e1, e2, if_neg hb]
    refine ⟨fun j hj => ?_, cR_fr c2 rfl rfl rfl rfl rfl, ⟨fun q hq => ?_, fun q g1 g2 => ?_⟩, cQ_fr c4 rfl rfl rfl rfl rfl, cP_fr c5 rfl rfl rfl rfl, cU_fr c6 rfl rfl rfl, cE_fr c7 rfl rfl⟩
    · obtain ⟨w1, w2, w3, w4, w5, w6, w7, w8⟩ := c1 j hj
      by_cases e : j = i
      · subst e
        rw [va_up_self]
        refine ⟨?_, fun _ => w2 hS1, ?_, ?_, ?_, ?_, ?_, fun k hk => ?_⟩
        · simp [gg_up]; rfl
        · rw [if_neg (by decide)]
          rw [if_neg hS1] at w3
          rw [← w3]; simp [gg_up]
        · simp [gg_up]
        · rw [if_neg (by decide)]
          rw [if_neg hS3] at w5
          exact w5
        · rw [← w6]; simp [gg_up]
        · rw [← w7]; simp [gg_up]
        · by_cases ek : k = A t % 4
          · subst ek
            simp [gg_up]
            exact u4
          · have := w8 k hk
            simpa [gg_up, ek, show ¬ 4 * j + k = 4 * j + A t % 4 by omega] using this
      · rw [va_up_ne _ _ e]
        refine ⟨?_, fun z => ?_, ?_, ?_, ?_, ?_, ?_, fun k hk => ?_⟩
        · rw [← w1]; simp [gg_up, e]
        · rw [← w2 z]; simp [gg_up]
        · rw [← w3]; simp [gg_up, e]
        · rw [← w4]; simp [gg_up, e]
        · exact w5
        · rw [← w6]; simp [gg_up]
        · rw [← w7]; simp [gg_up]
        · have := w8 k hk
          simpa [gg_up, e, show ¬ 4 * j + k = 4 * i + A t % 4 by omega] using this
    · by_cases e : q = t
      · subst e
        rw [va_up_self]
        refine ⟨u1, ?_, ?_, ?_⟩
        · simp [gg_up]; rfl
        · simp [gg_up]; rfl
        · simpa [gg_up] using u4
      · rw [va_up_ne _ _ e]
        obtain ⟨t1, t2, t3, t4⟩ := c3.1 q hq
        refine ⟨t1, ?_, ?_, ?_⟩
        · rw [← t2]; simp [gg_up, e]
        · rw [← t3]; simp [gg_up, e]
        · simpa [gg_up, e] using t4
    · rw [← c3.2 q (by omega) g2]
      simp [gg_up, show ¬ q = t by omega]
theorem va_up_up {f : Nat → Nat} {i v w : Nat} : va_up (va_up f i v) i w = va_up f i w := by
  funext j
  unfold va_up
  split <;> rfl
/-- the line comes: its words, the register free -/
theorem cA_come (c : cA x y S Ln Rg Us F sz Tk A Dn RL Rk h n T U d lf) (hi : i < 8) (hS : S i = 3) (hL : Ln i < 64) (r : Nat) : cA (gg_up (gg_pu (mr_cf x i (Ln i * 4) 4) 9 i none) 11 r 3 0) (gg_up (md_mw y i (Ln i) 4) 19 0 i 1) (va_up S i 1) Ln Rg Us (va_up F r 0) sz Tk A Dn RL Rk h n T U d lf := by
  obtain ⟨c1, c2, c3, c4, c5, c6, c7⟩ := c
  have fx : ∀ f, ¬ f = 10 → ¬ f = 11 → (gg_up (gg_pu (mr_cf x i (Ln i * 4) 4) 9 i none) 11 r 3 0).1 f = x.1 f := fun f h1 h2 => by
    rw [gg_upF h2]
    funext b j
    exact mr_cf_o h1 4
  have fy : ∀ f, ¬ f = 22 → ¬ f = 19 → (gg_up (md_mw y i (Ln i) 4) 19 0 i 1).1 f = y.1 f := fun f h1 h2 => by
    rw [gg_upF h2]
    funext b j
    exact md_mw_o h1 4
  have f2 : ∀ g j, (gg_up (gg_pu (mr_cf x i (Ln i * 4) 4) 9 i none) 11 r 3 0).2.1 g j = if g = 9 ∧ j = i then none else x.2.1 g j := fun g j => by
    show (if g = 9 ∧ j = i then none else (mr_cf x i (Ln i * 4) 4).2.1 g j) = _
    rw [mr_cf_p]
  refine ⟨fun j hj => ?_, fun q hq => ?_, cT_fr c3 (fx _ (by decide) (by decide)) (fx _ (by decide) (by decide)) (fy _ (by decide) (by decide)) (fy _ (by decide) (by decide)) (fy _ (by decide) (by decide)), cQ_fr c4 (fx _ (by decide) (by decide)) (fx _ (by decide) (by decide)) (by funext j; rw [f2, if_neg (by simp)]) (fy _ (by decide) (by decide)) (fy _ (by decide) (by decide)), cP_fr c5 (fx _ (by decide) (by decide)) (by rw [fy _ (by decide) (by decide)]) (by rw [fy _ (by decide) (by decide)]) (by rw [fy _ (by decide) (by decide)]), cU_fr c6 (fx _ (by decide) (by decide)) (by rw [fy _ (by decide) (by decide)]) (by rw [fy _ (by decide) (by decide)]), cE_fr c7 (fx _ (by decide) (by decide)) (fy _ (by decide) (by decide))⟩
  · obtain ⟨w1, w2, w3, w4, w5, w6, w7, w8⟩ := c1 j hj
    have ew : ∀ k, k < 4 → (gg_up (gg_pu (mr_cf x i (Ln i * 4) 4) 9 i none) 11 r 3 0).1 10 j k = (gg_up (md_mw y i (Ln i) 4) 19 0 i 1).1 22 0 (4 * j + k) := by
      intro k hk
      rw [gg_upF (by decide), gg_upF (by decide), md_mw_at]
      show (mr_cf x i (Ln i * 4) 4).1 10 j k = _
      rw [mr_cf_at]
      by_cases e : j = i
      · subst e
        rw [if_pos ⟨rfl, hk⟩, if_pos (by omega), show 4 * Ln j + (4 * j + k - 4 * j) = Ln j * 4 + k by omega]
        exact c7 _ (by omega)
      · rw [if_neg (fun z => e z.1), if_neg (by omega)]
        exact w8 k hk
    rw [fx 9 (by decide) (by decide), fy 20 (by decide) (by decide), fy 21 (by decide) (by decide), f2]
    by_cases e : j = i
    · subst e
      rw [va_up_self]
      refine ⟨?_, fun _ => w2 (by omega), ?_, ?_, ?_, w6, w7, ew⟩
      · simp [gg_up]; rfl
      · rw [if_neg (by decide)]
        rw [if_neg (by omega)] at w3
        exact w3
      · rw [if_neg (by decide)]
        rw [if_neg (by omega)] at w4
        exact w4
      · simp
    · rw [va_up_ne _ _ e]
      refine ⟨?_, w2, w3, w4, ?_, w6, w7, ew⟩
      · rw [← w1, gg_up_at, if_neg (fun z => e z.2.2), md_mw_o (by decide)]
      · rw [if_neg (fun z => e z.2)]
        exact w5
  · obtain ⟨r1, r2, r3⟩ := c2 q hq
    rw [fx 12 (by decide) (by decide), fx 13 (by decide) (by decide), fx 14 (by decide) (by decide), fy 24 (by decide) (by decide)]
    have e11 : ∀ b j, (gg_up (gg_pu (mr_cf x i (Ln i * 4) 4) 9 i none) 11 r 3 0).1 11 b j = if b = r ∧ j = 3 then 0 else x.1 11 b j := fun b j => by
      rw [gg_up_at]
      show (if 11 = 11 ∧ b = r ∧ j = 3 then 0 else (mr_cf x i (Ln i * 4) 4).1 11 b j) = _
      rw [mr_cf_o (by decide)]
      simp
    refine ⟨?_, ?_, r3⟩
    · rw [e11]
      by_cases e : q = r
      · subst e
        rw [va_up_self, if_pos ⟨rfl, rfl⟩, nI_0]
      · rw [va_up_ne _ _ e, if_neg (fun z => e z.1)]
        exact r1
    · rw [e11, if_neg (fun z => absurd z.2 (by decide))]
      exact r2
/-- the accesses at the register are answered, in both -/
theorem cA_fa (c : cA x y S Ln Rg Us F sz Tk A Dn RL Rk h n T U d lf) (hi : i < 8) (hS1 : S i ≠ 0) (hS3 : S i ≠ 3) (hS4 : S i ≤ 3) (hr : r < 3) (hd : ∀ t, t < T → Dn t ≤ 1) (hs : ∀ j k, j < k → k < sz r → Tk r j < Tk r k) (hl : ∀ t, t < T → ((Dn t = 0 ∧ A t / 4 = L) ↔ ∃ j, j < sz r ∧ Tk r j = t)) : ∀ m, m ≤ T → ∃ v, v ≠ 0 ∧ v ≤ 3 ∧ v ≠ 3 ∧ cA (mr_fa x i r (Tk r) (fun j => A (Tk r j) % 4) (s_lt (Tk r) m (sz r))) (md_fa y i L A m) (va_up S i v) Ln Rg Us F sz Tk A (fun t => if t < m ∧ A t / 4 = L then 1 else Dn t) RL Rk h n T U d lf := by
  intro m
  induction m with
  | zero =>
    intro _
    refine ⟨S i, hS1, hS4, hS3, ?_⟩
    · rw [s_lt_0]
      have e1 : va_up S i (S i) = S := by
        funext j
        unfold va_up
        split
        · rename_i z
          rw [z]
        · rfl
      have e2 : (fun t => if t < 0 ∧ A t / 4 = L then 1 else Dn t) = Dn := by
        funext t
        rw [if_neg (by omega)]
      rw [e1, e2]
      exact c
  | succ m ih =>
    intro hm
    obtain ⟨v, v1, v2, v3, C⟩ := ih (by omega)
    have hdm := hd m (by omega)
    by_cases e : Dn m = 0 ∧ A m / 4 = L
    · obtain ⟨j, j1, j2⟩ := (hl m (by omega)).mp e
      have hj := s_lt_at (Tk r) m j (sz r) hs j1 j2
      rw [s_lt_yes _ _ _ hs ⟨j, j1, j2⟩, hj]
      rw [hj] at C
      have y26 : y.1 26 0 m = 0 := by rw [(c.2.2.1.1 m (by omega)).2.2.1, e.1, nI_0]
      have e1 : md_fa y i L A (m + 1) = md_act (md_fa y i L A m) m i (A m) := by
        show (if y.1 26 0 m = 0 ∧ A m / 4 = L then md_act (md_fa y i L A m) m i (A m) else md_fa y i L A m) = _
        rw [if_pos ⟨y26, e.2⟩]
      have e2 : mr_fa x i r (Tk r) (fun j => A (Tk r j) % 4) (j + 1) = mr_ans (mr_fa x i r (Tk r) (fun j => A (Tk r j) % 4) j) i m (A m % 4) (y.1 24 0 m) := by
        show mr_ans (mr_fa x i r (Tk r) (fun j => A (Tk r j) % 4) j) i (Tk r j) (A (Tk r j) % 4) (x.1 14 r j) = _
        rw [((c.2.1 r hr).2.2 j j1).2.2, j2]
      rw [e1, e2]
      have C2 := cA_ans (i := i) (t := m) (b := y.1 24 0 m) C hi (by rw [va_up_self]; exact v1) (by rw [va_up_self]; exact v3) (by omega) (md_fa_o (by decide) (by decide) (by decide) m (fun z => by cases z))
      rw [va_up_up] at C2
      refine ⟨if y.1 24 0 m = 0 then va_up S i v i else 2, ?_, ?_, ?_, ?_⟩
      rotate_left 3
      · have e3 : va_up (fun t => if t < m ∧ A t / 4 = L then 1 else Dn t) m 1 = (fun t => if t < m + 1 ∧ A t / 4 = L then 1 else Dn t) := by
          funext t
          unfold va_up
          by_cases et : t = m
          · rw [if_pos et, et, if_pos ⟨by omega, e.2⟩]
          · rw [if_neg et]
            show (if t < m ∧ A t / 4 = L then 1 else Dn t) = _
            by_cases e4 : t < m ∧ A t / 4 = L
            · rw [if_pos e4, if_pos ⟨by omega, e4.2⟩]
            · rw [if_neg e4, if_neg (by omega)]
        rw [e3] at C2
        exact C2
      all_goals (rw [va_up_self]; split <;> omega)
    · rw [s_lt_no _ _ _ (fun j j1 j2 => e ((hl m (by omega)).mpr ⟨j, j1, j2⟩))]
      have e1 : md_fa y i L A (m + 1) = md_fa y i L A m := by
        show (if y.1 26 0 m = 0 ∧ A m / 4 = L then md_act (md_fa y i L A m) m i (A m) else md_fa y i L A m) = _
        rw [if_neg]
        rintro ⟨z1, z2⟩
        rw [(c.2.2.1.1 m (by omega)).2.2.1, nI_z (by omega)] at z1
        exact e ⟨z1, z2⟩
      have e3 : (fun t => if t < m + 1 ∧ A t / 4 = L then 1 else Dn t) = (fun t => if t < m ∧ A t / 4 = L then 1 else Dn t) := by
        funext t
        by_cases e4 : t < m ∧ A t / 4 = L
        · rw [if_pos e4, if_pos ⟨by omega, e4.2⟩]
        · rw [if_neg e4]
          by_cases e5 : t < m + 1 ∧ A t / 4 = L
          · have et : t = m := by omega
            rw [if_pos e5, et]
            rw [et] at e5
            have : ¬ Dn m = 0 := fun z => e ⟨z, e5.2⟩
            omega
          · rw [if_neg e5]
      rw [e1, e3]
      exact ⟨v, v1, v2, v3, C⟩
end PAS
