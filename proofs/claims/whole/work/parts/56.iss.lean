-- an access, whole
section IS2
variable {x y : gg_X} {S Ln Rg Us F sz A Dn RL : Nat → Nat} {Tk : Nat → Nat → Nat} {Rk : Nat → Option Nat} {h n T U d lf i r L a k : Nat}
theorem mr_cnt_00 {z : gg_X} : (mr_cnt z 0).1 7 0 0 = z.1 7 0 0 + 1 := by
  unfold mr_cnt
  rw [gg_up_at, if_pos ⟨rfl, rfl, rfl⟩]
theorem mr_cnt_0k {z : gg_X} {k : Nat} (hk : ¬ k = 0) : (mr_cnt z k).1 7 0 0 = z.1 7 0 0 := by
  unfold mr_cnt
  rw [gg_up_k (fun e => hk e.symm)]
theorem sim_iss (c : cA x y S Ln Rg Us F sz Tk A Dn RL Rk h n T U d lf) (I : sI S Ln Rg Us F sz Tk A Dn RL Rk h n T U d lf) (hU : U + 2 < 2 ^ 30) (hT : T < 512) (ha : a < 256) (b v : Int32) :
    (mr_take x h n T a b v sz = none ∧ md_iss y n T a b v A = (-1, md_cnt y 4) ∧ 0 < n) ∨
      ∃ z w U' n' lf', mr_take x h n T a b v sz = some z ∧ md_iss y n T a b v A = (nI T, w) ∧ U' ≤ U + 2 ∧ sG x y (mr_cnt z 0) w (T + 1) U' n' lf' ∧ (mr_cnt z 0).1 7 0 0 = x.1 7 0 0 + 1 ∧ w.1 17 0 7 = nI (T + 1) := by
  have c0 := c
  have I0 := I
  obtain ⟨c1, c2, c3, c4, c5, c6, c7⟩ := c
  obtain ⟨w, R, t, q, m⟩ := I
  have hL : a / 4 < 64 := by omega
  obtain ⟨g1, g2⟩ := ag_find c1 w hL
  have hpos : ∀ j, j < 8 → S j = 3 → 0 < n := fun j hj hs => by
    obtain ⟨k, hk, -⟩ := q.2.2.1 j hj hs
    omega
  have cv := cA_ve c0 v
  cases hf : s_find S Ln (a / 4) with
  | some i =>
    rw [hf] at g1 g2
    obtain ⟨i8, s0, hl⟩ := s_find_some hf
    obtain ⟨w1, w2, w3, w4, w5, -⟩ := c1 i i8
    have q3 : nI (S i) = 3 ↔ S i = 3 := nI_k (c := 3) (m := 3) (by have := (w.1 i i8).1; omega) (by decide) rfl
    by_cases s3 : S i = 3
    · rw [if_pos s3] at w5
      have y3 : y.1 19 0 i = 3 := w1.trans (q3.mpr s3)
      obtain ⟨r3, -⟩ := R.1 i i8 s3
      have htg := ag_tg c3 t i8 s3 r3
      rw [hl] at htg
      have hz := (t.2.1 (Rg i) r3).1
      by_cases hk : sz (Rg i) < 3
      · refine Or.inr ⟨mr_join (gg_up x 5 0 T v) i (Rg i) (sz (Rg i)) (nI T) (nI (a % 4)) b, md_note (md_cnt (md_use y i) 2) T (nI a) b v, U + 1, n, lf, ?_, ?_, by omega, ?_, ?_, ?_⟩
        · simp [mr_take, g1, w5, hk]
        · simp [md_iss, g2, y3, htg, show ¬ sz (Rg i) = 3 by omega]
        · have C1 := cA_cy (cA_use (cA_cx cv 2) i) 2
          have I1 := sI_use I0 i
          have C2 := cA_no C1 (sI_Tk I1) (nI a) b v
          have C3 := cA_add (a := a) (b := b) (v := v) (r := Rg i) (k := sz (Rg i)) C2 (sI_Tk I1) rfl md_note_a (by simp [md_note, gg_up]) (by simp [md_note, gg_up]) (by simp [md_note, gg_up]) (by simp [mr_use, mr_cnt, gg_up]) hT
          have I3 := sI_join (a := a) (i := i) (r := Rg i) (k := sz (Rg i)) I1 i8 s3 ha hl rfl rfl hk
          refine ⟨_, _, _, _, _, _, _, _, _, _, _, _, _, cA_cx C3 0, I3, fun z => cC_0 ?_⟩
          exact cC_fr (cC_cnt (cC_fr z (x' := gg_up x 5 0 T v) rfl rfl) 2) rfl rfl
        · rw [mr_cnt_00]
          congr 1
        · simp [md_note, gg_up]
      · refine Or.inl ⟨?_, ?_, hpos i i8 s3⟩
        · simp [mr_take, g1, w5, hk]
        · simp [md_iss, g2, y3, htg, show sz (Rg i) = 3 by omega]
    · rw [if_neg s3] at w5
      have y3 : ¬ y.1 19 0 i = 3 := fun z => s3 (q3.mp (w1.symm.trans z))
      refine Or.inr ⟨mr_ans (mr_use (mr_cnt (gg_up x 5 0 T v) 1) i) i T (a % 4) b, md_act (md_note (md_cnt (md_use y i) 1) T (nI a) b v) T i a, U + 1, n, lf, ?_, ?_, by omega, ?_, ?_, ?_⟩
      · simp [mr_take, g1, w5]
      · simp [md_iss, g2, y3]
      · have C1 := cA_cy (cA_use (cA_cx cv 1) i) 1
        have I1 := sI_use I0 i
        have C2 := cA_no C1 (sI_Tk I1) (nI a) b v
        have C3 := cA_hit (a := a) (b := b) (v := v) (i := i) C2 (sI_Tk I1) i8 s0 s3 md_note_a (by simp [md_note, gg_up]) (by simp [md_note, gg_up]) (by simp [mr_use, mr_cnt, gg_up])
        have I3 := sI_hit (a := a) I0 i8 s0 s3 ha b
        refine ⟨_, _, _, _, _, _, _, _, _, _, _, _, _, cA_cx C3 0, I3, fun z => cC_0 ?_⟩
        refine cC_fr (cC_cnt (cC_fr z (x' := gg_up x 5 0 T v) rfl rfl) 1) ?_ ?_
        · funext b j
          rw [mr_ans_o (by decide) (by decide) (by decide) (by decide)]
          rfl
        · funext b j
          rw [md_act_o (by decide) (by decide) (by decide) (fun z => by cases z)]
          rfl
      · rw [mr_cnt_00, mr_ans_o (by decide) (by decide) (by decide) (by decide)]
        congr 1
      · rw [md_act_o (by decide) (by decide) (by decide) (fun z => by cases z)]
        simp [md_note, gg_up]
  | none =>
    rw [hf] at g1 g2
    have ga := ag_aw c1 w 8 (Nat.le_refl 8)
    rw [R.2.2.2] at ga
    obtain ⟨gf, -⟩ := ag_free cv.2.1 R
    have hfn := s_free_none R
    have hn5 := q.2.2.2.2
    cases hr : s_free F with
    | none =>
      rw [hr] at gf
      have h3 := hfn.mp hr
      refine Or.inl ⟨?_, ?_, by omega⟩
      · simp [mr_take, g1, mr_miss, gf]
      · simp [md_iss, g2, ga, h3]
    | some r =>
      rw [hr] at gf
      obtain ⟨r1, r2⟩ := s_free_some hr
      have ha3 : ¬ F 0 + F 1 + F 2 = 3 := fun z => by rw [hfn.mpr z] at hr; cases hr
      obtain ⟨h1, -⟩ := ag_cho cv.1 w (show U < 2 ^ 30 by omega) (s := a / 4 % 4) (by omega)
      obtain ⟨-, h2⟩ := ag_cho c1 w (show U < 2 ^ 30 by omega) (s := a / 4 % 4) (by omega)
      cases hi : s_cho S Us (a / 4 % 4 * 2) with
      | none =>
        rw [hi] at h1 h2
        refine Or.inl ⟨?_, ?_, ?_⟩
        · simp [mr_take, g1, mr_miss, gf, h1]
        · simp [md_iss, g2, ga, ha3, h2]
        · refine hpos (a / 4 % 4 * 2) (by omega) ?_
          unfold s_cho at hi
          repeat' split at hi
          all_goals first | (cases hi; done) | assumption
      | some i =>
        rw [hi] at h1 h2
        obtain ⟨s1, s2⟩ := s_cho_some hi
        have i8 : i < 8 := by omega
        have hi2 : i / 2 = a / 4 % 4 := by omega
        obtain ⟨w1, w2, w3, w4, -⟩ := c1 i i8
        obtain ⟨-, -, v3, v4, -⟩ := cv.1 i i8
        have q2 : nI (S i) = 2 ↔ S i = 2 := nI_k (c := 2) (m := 2) (by have := (w.1 i i8).1; omega) (by decide) rfl
        by_cases e : S i = 2
        · have y2 : y.1 19 0 i = 2 := w1.trans (q2.mpr e)
          rw [if_pos e] at v4
          have v4' : ¬ (gg_up x 5 0 T v).1 9 i 2 = 0 := by rw [v4]; decide
          have hcw := ag_cw cv.2.2.2.1 n (Nat.le_refl n)
          have hwr := ag_wr c4 q n (Nat.le_refl n)
          have hc2 := q.2.2.2.1
          by_cases hc : s_cw Rk n < 2
          · have hn := sI_n I0 r1 r2
            have hx1 : (gg_up x 5 0 T v).1 9 i 1 = nI (Ln i) := by rw [v3, if_neg (by omega)]
            have hy1 : 100 + y.1 20 0 i = nI (100 + Ln i) := by rw [w2 (by omega)]; exact nI_add 100 (Ln i)
            have C1 := cA_cy (cA_cx (cA_appW (i := i) (cA_cy (cA_cx cv 3) 3) (show n < 5 by omega) i8 (Ln i)) 6) 6
            have hLi := (w.1 i i8).2.1 (by omega)
            have I1 := sI_wb (L := Ln i) I0 hLi.1 (by omega) hc
            have e5 : (mr_cnt (mr_appw (mr_cnt (gg_up x 5 0 T v) 3) ((h + n) % 5) n (nI (Ln i)) i) 6).1 5 0 T = v := by
              rw [mr_cnt_F (by decide), mr_appw_o (by decide) (by decide) (by decide)]
              simp [mr_cnt, gg_up]
            obtain ⟨U', n', lf', u1, u2, u3, u4⟩ := sim_miss2 (a := a) (i := i) (r := r) (b := b) C1 I1 hU hT ha i8 hi2 s2 r1 r2 hf e5
            refine Or.inr ⟨mr_miss2 (mr_cnt (mr_appw (mr_cnt (gg_up x 5 0 T v) 3) ((h + n) % 5) n (nI (Ln i)) i) 6) h (n + 1) (a / 4) i r (nI T) (nI (a % 4)) b, _, U', n', lf', ?_, ?_, u1, ?_, ?_, u4⟩
            · simp [mr_take, g1, mr_miss, gf, h1, v4', hcw, hc, hx1]
            · simp [md_iss, g2, ga, ha3, h2, y2, hwr, show ¬ s_cw Rk n = 2 by omega, hy1]
            · obtain ⟨a1, a2, a3, a4, a5, a6, a7, a8, a9, a10, a11, a12, a13, k1, k2, k3⟩ := u2
              refine ⟨a1, a2, a3, a4, a5, a6, a7, a8, a9, a10, a11, a12, a13, cA_cx k1 0, k2, fun z => cC_0 (k3 (cC_cnt (cC_fr (cC_cnt (cC_fr z (x' := gg_up x 5 0 T v) rfl rfl) 3) ?_ ?_) 6))⟩
              · funext b j
                exact mr_appw_o (by decide) (by decide) (by decide)
              · exact md_put_F (by decide) (by decide) (by decide)
            · rw [mr_cnt_00, u3, mr_cnt_0k (by decide), mr_appw_o (by decide) (by decide) (by decide), mr_cnt_0k (by decide)]
              congr 1
          · refine Or.inl ⟨?_, ?_, ?_⟩
            · simp [mr_take, g1, mr_miss, gf, h1, v4', hcw, hc]
            · simp [md_iss, g2, ga, ha3, h2, y2, hwr, show s_cw Rk n = 2 by omega]
            · have := s_cw_le Rk n
              omega
        · have y2 : ¬ y.1 19 0 i = 2 := fun z => e (q2.mp (w1.symm.trans z))
          rw [if_neg e] at v4
          have C1 := cA_cy (cA_cx cv 3) 3
          obtain ⟨U', n', lf', u1, u2, u3, u4⟩ := sim_miss2 (a := a) (i := i) (r := r) (b := b) (v := v) C1 I0 hU hT ha i8 hi2 s2 r1 r2 hf (by simp [mr_cnt, gg_up])
          refine Or.inr ⟨mr_miss2 (mr_cnt (gg_up x 5 0 T v) 3) h n (a / 4) i r (nI T) (nI (a % 4)) b, _, U', n', lf', ?_, ?_, u1, ?_, ?_, u4⟩
          · simp [mr_take, g1, mr_miss, gf, h1, v4]
          · simp [md_iss, g2, ga, ha3, h2, y2]
          · obtain ⟨a1, a2, a3, a4, a5, a6, a7, a8, a9, a10, a11, a12, a13, k1, k2, k3⟩ := u2
            exact ⟨a1, a2, a3, a4, a5, a6, a7, a8, a9, a10, a11, a12, a13, cA_cx k1 0, k2, fun z => cC_0 (k3 (cC_cnt (cC_fr z (x' := gg_up x 5 0 T v) rfl rfl) 3))⟩
          · rw [mr_cnt_00, u3, mr_cnt_0k (by decide)]
            congr 1
end IS2
