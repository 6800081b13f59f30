-- a tick: the contracts of both, and what they leave
def sR (x y : gg_X) (T U n lf : Nat) : Prop := cC x y ∧ x.1 7 0 0 = nI T ∧ y.1 17 0 7 = nI T ∧ ∃ (S Ln Rg Us F sz : Nat → Nat) (Tk : Nat → Nat → Nat) (A Dn RL : Nat → Nat) (Rk : Nat → Option Nat) (h d : Nat), cA x y S Ln Rg Us F sz Tk A Dn RL Rk h n T U d lf ∧ sI S Ln Rg Us F sz Tk A Dn RL Rk h n T U d lf
def s_ms (n lf : Nat) : Nat := if n = 0 then 0 else lf + 9 * (n - 1)
theorem s_find_self {S Ln Us : Nat → Nat} {U i : Nat} (w : iW S Ln Us U) (hi : i < 8) (hs : S i ≠ 0) : s_find S Ln (Ln i) = some i := by
  have hl := (w.1 i hi).2.1 hs
  cases e : s_find S Ln (Ln i) with
  | none => exact absurd rfl (s_find_none e (j := i) (by omega) hs)
  | some j =>
    obtain ⟨j1, j2, j3⟩ := s_find_some e
    rw [iW_uniq w j1 hi j2 hs j3]
theorem mr_fa_congr {x : gg_X} {i r : Nat} {T V T' V' : Nat → Nat} : ∀ k, (∀ j, j < k → T j = T' j ∧ V j = V' j) → mr_fa x i r T V k = mr_fa x i r T' V' k
  | 0, _ => rfl
  | k + 1, hk => by
    show mr_ans (mr_fa x i r T V k) i (T k) (V k) (x.1 14 r k) = mr_ans (mr_fa x i r T' V' k) i (T' k) (V' k) (x.1 14 r k)
    rw [mr_fa_congr k (fun j hj => hk j (by omega)), (hk k (by omega)).1, (hk k (by omega)).2]
/-- passTick as a function of the state -/
def mr_ps (x : gg_X) : Int32 × gg_X :=
  if x.1 4 0 2 = 0 then (0, mr_cnt x 7)
  else if 1 < (x.1 4 0 3).toNatClampNeg then (0, gg_up (mr_cnt x 7) 4 0 3 (nI ((x.1 4 0 3).toNatClampNeg - 1)))
  else match x.2.1 15 (x.1 4 0 1).toNatClampNeg with
    | none => (0, mr_cp (mr_drop (gg_up (mr_cnt x 7) 4 0 3 (nI ((x.1 4 0 3).toNatClampNeg - 1))) (x.1 4 0 1).toNatClampNeg (x.1 4 0 2).toNatClampNeg) 1 0 ((x.1 15 (x.1 4 0 1).toNatClampNeg 1).toNatClampNeg * 4) 16 (x.1 4 0 1).toNatClampNeg 4)
    | some i => match x.2.1 9 i with
      | none => (0, x)
      | some r => (nI (x.1 11 r 4).toNatClampNeg, mr_fill (mr_drop (gg_up (mr_cnt x 7) 4 0 3 (nI ((x.1 4 0 3).toNatClampNeg - 1))) (x.1 4 0 1).toNatClampNeg (x.1 4 0 2).toNatClampNeg) i r (x.1 15 (x.1 4 0 1).toNatClampNeg 1).toNatClampNeg (x.1 11 r 4).toNatClampNeg (fun j => (x.1 12 r j).toNatClampNeg) (fun j => (x.1 13 r j).toNatClampNeg))
theorem sim_pass {x y : gg_X} {T U n lf : Nat} (l : Launch) (htr : l.stackTraces = false) (hR : sR x y T U n lf) (hT : T ≤ 512) : gg_Cd l yX4_passTick cX4_passTick 2 (some .int) (gg_rm 2 0 0 48) true [gg_r 0 0] x (.inl (some (gg_i (mr_ps x).1))) (mr_ps x).2 ∧ gz x (mr_ps x).2 ∧ ∃ (y' : gg_X) (n' lf' : Nat), gg_Cd l yX5_pass cX5_pass 1 (some .int) (gg_rm 2 0 0 47) true [gg_r 17 0] y (.inl (some (gg_i (mr_ps x).1))) y' ∧ hz y y' ∧ sR (mr_ps x).2 y' T U n' lf' ∧ (n = 0 → n' = 0) ∧ (0 < n → s_ms n' lf' < s_ms n lf) := by
  obtain ⟨hC, hx, hy, S, Ln, Rg, Us, F, sz, Tk, A, Dn, RL, Rk, h, d, c, I⟩ := hR
  have C1 := cA_cy (cA_cx c 7) 7
  have hC1 := cC_cnt hC 7
  have hx1 : (mr_cnt x 7).1 7 0 0 = nI T := by rw [mr_cnt_0k (by decide)]; exact hx
  have hy1 : (md_cnt y 7).1 17 0 7 = nI T := by rw [md_cnt_F (by decide)]; exact hy
  obtain ⟨w, R, t, q, m1, m2, m3, m4, m5, m6⟩ := I
  have c0 := c
  obtain ⟨c1, c2, c3, c4, ⟨p1, p2, p3, p4, p5, p6, p7⟩, c6, c7⟩ := c
  by_cases hn : n = 0
  · have e : mr_ps x = (0, mr_cnt x 7) := by
      unfold mr_ps
      rw [if_pos (by rw [p2, hn, nI_0])]
    rw [e]
    refine ⟨kX4_pass0 l htr x (by rw [p2, hn, nI_0]), gz_cnt, md_cnt y 7, n, lf, kX5_pass0 l htr y (by rw [p3, hn, nI_0]), hz_cnt, ⟨hC1, hx1, hy1, S, Ln, Rg, Us, F, sz, Tk, A, Dn, RL, Rk, h, d, C1, w, R, t, q, m1, m2, m3, m4, m5, m6⟩, id, fun z => by omega⟩
  · obtain ⟨g1, g2⟩ := m6 (by omega)
    have d2 : ¬ x.1 4 0 2 = 0 := by rw [p2, nI_z (by omega)]; exact hn
    have d3 : (x.1 4 0 3).toNatClampNeg = lf := by rw [p4]; exact nI_clamp (by omega)
    have d1 : (x.1 4 0 1).toNatClampNeg = h := by rw [p1]; exact nI_clamp (by omega)
    have dn : (x.1 4 0 2).toNatClampNeg = n := by rw [p2]; exact nI_clamp (by omega)
    have C2 := cA_tk C1 (lf - 1)
    have hC2 : cC (gg_up (mr_cnt x 7) 4 0 3 (nI (lf - 1))) (gg_up (md_cnt y 7) 17 0 15 (nI (lf - 1))) := cC_fr hC1 (gg_upF (by decide)) (gg_upF (by decide))
    have hx2 : (gg_up (mr_cnt x 7) 4 0 3 (nI (lf - 1))).1 7 0 0 = nI T := by rw [gg_upF (by decide)]; exact hx1
    have hy2 : (gg_up (md_cnt y 7) 17 0 15 (nI (lf - 1))).1 17 0 7 = nI T := by rw [gg_up_k (by decide)]; exact hy1
    by_cases hl : 1 < lf
    · have e : mr_ps x = (0, gg_up (mr_cnt x 7) 4 0 3 (nI (lf - 1))) := by
        unfold mr_ps
        rw [if_neg d2, d3, if_pos hl]
      rw [e]
      refine ⟨kX4_pass1 l htr x n lf p2 (by omega) (by omega) p4 hl (by omega), gz_cnt.tr (gz_up (by decide)), _, n, lf - 1, kX5_pass1 l htr y n lf p3 (by omega) (by omega) p5 hl (by omega), hz_cnt.tr (hz_up (by decide) (by omega)), ⟨hC2, hx2, hy2, S, Ln, Rg, Us, F, sz, Tk, A, Dn, RL, Rk, h, d, C2, w, R, t, q, m1, m2, m3, m4, fun z => by omega, fun _ => by omega⟩, id, fun _ => ?_⟩
      unfold s_ms
      rw [if_neg hn, if_neg hn]
      omega
    · have hl1 : lf = 1 := by omega
      obtain ⟨n0, rfl⟩ : ∃ n0, n = n0 + 1 := ⟨n - 1, by omega⟩
      obtain ⟨r1, r2, r3, r4⟩ := c4 0 (by omega)
      rw [show (h + 0) % 5 = h by omega] at r1 r2
      have hRL := (q.1 0 (by omega)).1
      have hm : s_ms n0 (if n0 = 0 then 0 else d) < s_ms (n0 + 1) lf := by
        unfold s_ms
        rw [if_neg (show ¬ n0 + 1 = 0 by omega)]
        split
        · omega
        · omega
      have hiM : iM ((h + 1) % 5) n0 d (if n0 = 0 then 0 else d) := by
        refine ⟨by omega, by omega, m3, m4, fun z => by rw [if_pos z], fun z => ?_⟩
        rw [if_neg (by omega)]
        omega
      cases h0 : Rk 0 with
      | none =>
        rw [h0] at r2 r3
        rw [if_pos rfl] at r3
        have k1 := kX4_passW l htr x h (n0 + 1) lf p1 m1 p2 (by omega) (by omega) p4 hl1 (RL 0) hRL r2 r1
        have k2 := kX5_passW l htr y (n0 + 1) lf (RL 0) p3 (by omega) (by omega) hRL p5 hl1 r3
        have e : mr_ps x = (0, mr_cp (mr_drop (gg_up (mr_cnt x 7) 4 0 3 (nI (lf - 1))) h (n0 + 1)) 1 0 (RL 0 * 4) 16 h 4) := by
          unfold mr_ps
          rw [if_neg d2, d3, if_neg hl, d1, r2, dn, r1, nI_clamp (by omega)]
        rw [e]
        rw [mr_cp_drop] at k1 ⊢
        have C3 := cA_drop (cA_memw C2 m1 (by omega) h0 (RL 0))
        refine ⟨k1, ?_, _, n0, _, k2, ?_, ⟨?_, ?_, ?_, S, Ln, Rg, Us, F, sz, Tk, A, Dn, _, _, _, d, C3, w, R, t, iQ_dropW q h0, hiM⟩, fun z => by omega, fun _ => hm⟩
        · exact ((gz_cnt.tr (gz_up (by decide))).tr (gz_cp (by decide) 4)).tr gz_drop
        · exact (hz_cnt.tr (hz_up (by decide) (by omega))).tr hz_finW
        · refine cC_fr hC2 ?_ ?_
          · funext b j
            show (mr_cp _ 1 0 (RL 0 * 4) 16 h 4).1 7 b j = _
            exact mr_cp_o (by decide) 4
          · show (md_tail (md_cm _ (RL 0) 4) (n0 + 1)).1 29 = _
            rw [md_tail_F (by decide) (by decide) (by decide)]
            funext b j
            exact md_cm_o (by decide) 4
        · show (mr_cp _ 1 0 (RL 0 * 4) 16 h 4).1 7 0 0 = _
          rw [mr_cp_o (by decide)]
          exact hx2
        · show (md_tail (md_cm _ (RL 0) 4) (n0 + 1)).1 17 0 7 = _
          rw [md_tail_f (by decide) (by decide), md_cm_o (by decide)]
          exact hy2
      | some i =>
        rw [h0] at r2 r3
        rw [if_neg (by simp)] at r3
        obtain ⟨i8, s3, hLi⟩ := (q.1 0 (by omega)).2 i h0
        obtain ⟨rr, rf⟩ := R.1 i i8 s3
        obtain ⟨w1, w2, w3, w4, w5, -⟩ := c1 i i8
        rw [if_pos s3] at w5
        obtain ⟨z1, z2, z3⟩ := t.2.1 (Rg i) rr
        obtain ⟨-, e2, e3⟩ := c2 (Rg i) rr
        rw [← hLi] at r1 r3 hRL
        have dT : ∀ j, j < sz (Rg i) → (x.1 12 (Rg i) j).toNatClampNeg = Tk (Rg i) j := fun j hj => by
          rw [(e3 j hj).1]
          exact nI_clamp (by have := z2 j hj; omega)
        have dV : ∀ j, j < sz (Rg i) → (x.1 13 (Rg i) j).toNatClampNeg = A (Tk (Rg i) j) % 4 := fun j hj => by
          rw [(e3 j hj).2.1]
          exact nI_clamp (by omega)
        have k1 := kX4_passR l htr x h (n0 + 1) lf p1 m1 p2 (by omega) (by omega) p4 hl1 (Ln i) i (Rg i) (sz (Rg i)) (fun j => (x.1 12 (Rg i) j).toNatClampNeg) (fun j => (x.1 13 (Rg i) j).toNatClampNeg) i8 rr hRL r2 r1 w5 (by omega) e2 (fun j hj => ⟨by rw [dT j hj]; exact (e3 j hj).1, by rw [dT j hj]; have := z2 j hj; omega⟩) (fun j hj => ⟨by rw [dV j hj]; exact (e3 j hj).2.1, by rw [dV j hj]; exact Nat.mod_lt _ (by decide)⟩)
        have hway : md_way y (Ln i) = some i := (ag_find c1 w hRL).2.trans (s_find_self w i8 (by omega))
        have k2 := kX5_passR l htr y (n0 + 1) lf (Ln i) p3 (by omega) (by omega) hRL p5 hl1 i T A i8 hway r3 hy hT (fun u hu => ⟨(c3.1 u hu).1, (t.1 u hu).1⟩)
        rw [ag_tg c3 t i8 s3 rr] at k2
        have e : mr_ps x = (nI (sz (Rg i)), mr_fill (mr_drop (gg_up (mr_cnt x 7) 4 0 3 (nI (lf - 1))) h (n0 + 1)) i (Rg i) (Ln i) (sz (Rg i)) (fun j => (x.1 12 (Rg i) j).toNatClampNeg) (fun j => (x.1 13 (Rg i) j).toNatClampNeg)) := by
          unfold mr_ps
          rw [if_neg d2, d3, if_neg hl, d1, r2]
          simp only [w5]
          rw [dn, r1, nI_clamp (by omega), e2, nI_clamp (by omega)]
        rw [e]
        rw [mr_fill_drop, mr_fa_congr (T' := Tk (Rg i)) (V' := fun j => A (Tk (Rg i) j) % 4) (sz (Rg i)) (fun j hj => ⟨dT j hj, dV j hj⟩)] at k1 ⊢
        have C3 := cA_come C2 i8 s3 hRL (Rg i)
        obtain ⟨v, v1, v2, v3, C4⟩ := cA_fa (i := i) (r := Rg i) (L := Ln i) C3 i8 (by rw [va_up_self]; decide) (by rw [va_up_self]; decide) (by rw [va_up_self]; decide) rr (fun u hu => (t.1 u hu).2) z3 (fun u hu => t.2.2.1 i i8 s3 u hu) T (Nat.le_refl T)
        rw [s_lt_all _ _ _ z2, va_up_up] at C4
        have C5 := cA_drop C4
        refine ⟨k1, ?_, _, n0, _, k2, ?_, ⟨?_, ?_, ?_, _, Ln, Rg, Us, _, sz, Tk, A, _, _, _, _, d, C5, iW_set w (by omega) v2, iR_fill R i8 s3 v3, iT_fill t w i8 s3 v3, iQ_fill q R h0 v3, hiM⟩, fun z => by omega, fun _ => hm⟩
        · exact ((((((gz_cnt.tr (gz_up (by decide))).tr (gz_cf 4)).tr gz_pu).tr (gz_up (by decide))).tr (gz_fa _))).tr gz_drop
        · exact (hz_cnt.tr (hz_up (by decide) (by omega))).tr hz_finR
        · refine cC_fr hC2 ?_ ?_
          · funext b j
            show (mr_fa _ i (Rg i) _ _ _).1 7 b j = _
            rw [mr_fa_o (by decide) (by decide) (by decide) (by decide), gg_upF (by decide)]
            show (mr_cf (gg_up (mr_cnt x 7) 4 0 3 (nI (lf - 1))) i (Ln i * 4) 4).1 7 b j = _
            rw [mr_cf_o (by decide)]
          · show (md_tail (md_fa _ i (Ln i) A T) (n0 + 1)).1 29 = _
            rw [md_tail_F (by decide) (by decide) (by decide)]
            funext b j
            rw [md_fa_o (by decide) (by decide) (by decide) T (fun z => by cases z), gg_upF (by decide), md_mw_o (by decide)]
        · show (mr_fa _ i (Rg i) _ _ _).1 7 0 0 = _
          rw [mr_fa_o (by decide) (by decide) (by decide) (by decide), gg_upF (by decide)]
          show (mr_cf (gg_up (mr_cnt x 7) 4 0 3 (nI (lf - 1))) i (Ln i * 4) 4).1 7 0 0 = _
          rw [mr_cf_o (by decide)]
          exact hx2
        · show (md_tail (md_fa _ i (Ln i) A T) (n0 + 1)).1 17 0 7 = _
          rw [md_tail_f (by decide) (by decide), md_fa_o (by decide) (by decide) (by decide) T (fun z => by cases z), gg_upF (by decide), md_mw_o (by decide)]
          exact hy2
