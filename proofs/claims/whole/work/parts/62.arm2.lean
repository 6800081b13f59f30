-- targets, load, store
theorem md_tgt_lu {x : gg_X} {k L T : Nat} {w : Int64} {A : Nat → Nat} : md_tgt (gg_lu x k w) A L T = md_tgt x A L T := by
  unfold md_tgt
  rw [md_tg_x (x := gg_lu x k w) (y := x) rfl]
  rfl
section AR2
variable {l : Launch} {x : gg_X} {N : Nat} {v u : Int32}
theorem op_targets (htr : l.stackTraces = false) (hN : N < 512) (h : St x N) : ax_targets l x v (fun y => St y (N + 1)) := by
  rcases pk_ix v (n := 64) (by decide) with hv | hv | ⟨L, hL, rfl⟩
  · exact ⟨_, x, gg_up x 17 0 0 1, 1, 0, by decide, by decide, by decide, by decide, kL_targetsN l x x v (kX4_targetsN l htr x v (Or.inl hv)), kX5_targetsN l htr x v (Or.inl hv), rfl, fun z => absurd z (by decide), St_t0 h 1⟩
  · exact ⟨_, x, gg_up x 17 0 0 1, 1, 0, by decide, by decide, by decide, by decide, kL_targetsN l x x v (kX4_targetsN l htr x v (Or.inr hv)), kX5_targetsN l htr x v (Or.inr (i32_gt (n := 63) (by decide) hv)), rfl, fun z => absurd z (by decide), St_t0 h 1⟩
  · have h0 := h
    obtain ⟨T, U, n, lf, ⟨hC, hx, hy, S, Ln, Rg, Us, F, sz, Tk, A, Dn, RL, Rk, hh, d, c, I⟩, hT, -⟩ := h
    obtain ⟨c1, c2, c3, -⟩ := c
    obtain ⟨w, R, t, q, m⟩ := I
    have hreg : ∀ i r, i < 8 → x.2.1 9 i = some r → r < 3 := fun i r hi e => by
      obtain ⟨-, -, -, -, w5, -⟩ := c1 i hi
      by_cases s3 : S i = 3
      · rw [if_pos s3, e] at w5
        rw [Option.some.inj w5]
        exact (R.1 i hi s3).1
      · rw [if_neg s3, e] at w5
        cases w5
    refine ⟨_, _, _, 0, _, by decide, by decide, by decide, by decide, kL_targetsY l x x (nI L) _ (kX4_targetsY l htr x L hL hreg), kX5_targetsY l htr _ A L T hy (by omega) (fun u hu => ⟨(c3.1 u hu).1, (t.1 u hu).1⟩) hL, rfl, fun _ => ?_, St_th h0 0 _ 0⟩
    show (mr_tgt x L).toInt64 = (md_tgt (gg_lu x 0 (mr_tgt x L).toInt64) A L T).toInt64
    rw [md_tgt_lu]
    obtain ⟨g1, g2⟩ := ag_find c1 w hL
    congr 1
    unfold mr_tgt md_tgt
    rw [g1, g2]
    cases hf : s_find S Ln L with
    | none => rfl
    | some i =>
      obtain ⟨i8, s0, hl⟩ := s_find_some hf
      obtain ⟨w1, w2, w3, w4, w5, -⟩ := c1 i i8
      have q3 : nI (S i) = 3 ↔ S i = 3 := nI_k (c := 3) (m := 3) (by have := (w.1 i i8).1; omega) (by decide) rfl
      simp only [w1, q3]
      by_cases s3 : S i = 3
      · rw [if_pos s3] at w5
        obtain ⟨r3, -⟩ := R.1 i i8 s3
        have htg := ag_tg c3 t i8 s3 r3
        rw [hl] at htg
        rw [w5, if_pos s3, htg]
        exact (c2 (Rg i) r3).2.1
      · rw [if_neg s3] at w5
        rw [w5, if_neg s3]
theorem op_load (htr : l.stackTraces = false) (hN : N < 512) (h : St x N) : ax_load l x v (fun y => St y (N + 1)) := by
  rcases pk_ix v (n := 256) (by decide) with hv | hv | ⟨a, ha, rfl⟩
  · exact ⟨_, x, gg_up x 17 0 0 1, 1, 0, by decide, by decide, by decide, by decide, kL_loadN l x x v (kX4_loadN l htr x v (Or.inl hv)), kX5_loadN l htr x v (Or.inl hv), rfl, fun z => absurd z (by decide), St_t0 h 1⟩
  · exact ⟨_, x, gg_up x 17 0 0 1, 1, 0, by decide, by decide, by decide, by decide, kL_loadN l x x v (kX4_loadN l htr x v (Or.inr hv)), kX5_loadN l htr x v (Or.inr (i32_gt (n := 255) (by decide) hv)), rfl, fun z => absurd z (by decide), St_t0 h 1⟩
  · obtain ⟨T, U, n, lf, hR, hT, hU⟩ := h
    obtain ⟨hh, sz, A0, f1, f2, f3, f4, f5, f6, f7, f8, f9, -, -, -, e1, -, alt0⟩ := sim_acc (a := a) (b := 0) (v := 0) hR (by omega) (by omega) ha
    cases hz0 : mr_tk x a 0 0 with
    | none =>
      have hg : gz x (mr_cnt (gg_up x 5 0 T 0) 4) := (gz_up (by decide)).tr gz_cnt
      have hR2 := sR_th (sR_y hR (y' := mr_cnt (gg_up x 5 0 T 0) 4) hg) 0
      obtain ⟨hh', sz', A, -, -, -, -, -, -, -, -, -, g10, g11, g12, -, -, alt⟩ := sim_acc (a := a) (b := 0) (v := 0) hR2 (by omega) (by omega) ha
      rcases alt with ⟨-, s2, -, s4⟩ | ⟨z, w, U', n', lf', s1, -⟩
      · have k1 := kX4_loadS l htr x hh n T a sz (by omega) ha f1 f2 f3 f4 f5 f6 f7 f8 f9 (by rw [← e1]; exact hz0)
        have k2 := kX5_loadS l htr (mr_cnt (gg_up x 5 0 T 0) 4) n T a A ha g10 (by omega) g11 g12 f4 (by rw [s2])
        rw [s2] at k2
        refine ⟨_, _, _, 2, 0, by decide, by decide, by decide, by decide, kL_loadS l x _ (nI a) k1, k2, rfl, fun z => absurd z (by decide), ?_⟩
        refine St_of s4 (fun f hf => ?_) rfl (by omega) (by omega) 2
        rw [md_cnt_F (by omega), gg_upF (by omega)]
      · rw [hz0] at s1
        cases s1
    | some z =>
      have hg : gz x (mr_cnt z 0) := (gz_take (by rw [← e1]; exact hz0)).tr gz_cnt
      have hR2 := sR_th (sR_y hR (y' := gg_lu (mr_cnt z 0) 0 (nI T).toInt64) hg) 0
      obtain ⟨hh', sz', A, -, -, -, -, -, -, -, -, -, g10, g11, g12, -, -, alt⟩ := sim_acc (a := a) (b := 0) (v := 0) hR2 (by omega) (by omega) ha
      rcases alt with ⟨s1, -⟩ | ⟨z', w, U', n', lf', s1, s2, s3, s4⟩
      · rw [hz0] at s1
        cases s1
      · rw [hz0] at s1
        cases s1
        have k1 := kX4_loadY l htr x hh n T a sz (by omega) ha f1 f2 f3 f4 f5 f6 f7 f8 f9 z (by rw [← e1]; exact hz0)
        have k2 := kX5_loadY l htr (gg_lu (mr_cnt z 0) 0 (nI T).toInt64) n T a A ha g10 (by omega) g11 g12 f4 (by rw [s2])
        rw [s2] at k2
        have hh2 := hz_iss (y := gg_up (gg_lu (mr_cnt z 0) 0 (nI T).toInt64) 17 0 0 0) (n := n) (T := T) (a := a) (b := 0) (v := 0) (A := A)
        rw [s2] at hh2
        refine ⟨_, _, _, 0, nI T, by decide, by decide, by decide, by decide, kL_loadY l x _ (nI a) _ k1, k2, rfl, fun _ => ?_, St_of s4 (fun f hf => ?_) ?_ (by omega) (by omega) 0⟩
        · show w.2.2 0 = _
          rw [hh2.2.1]
          rfl
        · rw [hh2.1 f hf, gg_upF (by omega)]
          rfl
        · rw [hh2.2.1]
          rfl
theorem op_store (htr : l.stackTraces = false) (hN : N < 512) (h : St x N) : ax_store l x v u (fun y => St y (N + 1)) := by
  rcases pk_ix v (n := 256) (by decide) with hv | hv | ⟨a, ha, rfl⟩
  · exact ⟨_, x, gg_up x 17 0 0 1, 1, 0, by decide, by decide, by decide, by decide, kL_storeN l x x v u (kX4_storeN l htr x v u (Or.inl hv)), kX5_storeN l htr x v (Or.inl hv) u, rfl, fun z => absurd z (by decide), St_t0 h 1⟩
  · exact ⟨_, x, gg_up x 17 0 0 1, 1, 0, by decide, by decide, by decide, by decide, kL_storeN l x x v u (kX4_storeN l htr x v u (Or.inr hv)), kX5_storeN l htr x v (Or.inr (i32_gt (n := 255) (by decide) hv)) u, rfl, fun z => absurd z (by decide), St_t0 h 1⟩
  · obtain ⟨T, U, n, lf, hR, hT, hU⟩ := h
    obtain ⟨hh, sz, A0, f1, f2, f3, f4, f5, f6, f7, f8, f9, -, -, -, e1, -, alt0⟩ := sim_acc (a := a) (b := 1) (v := u) hR (by omega) (by omega) ha
    cases hz0 : mr_tk x a 1 u with
    | none =>
      have hg : gz x (mr_cnt (gg_up x 5 0 T u) 4) := (gz_up (by decide)).tr gz_cnt
      have hR2 := sR_th (sR_y hR (y' := mr_cnt (gg_up x 5 0 T u) 4) hg) 0
      obtain ⟨hh', sz', A, -, -, -, -, -, -, -, -, -, g10, g11, g12, -, -, alt⟩ := sim_acc (a := a) (b := 1) (v := u) hR2 (by omega) (by omega) ha
      rcases alt with ⟨-, s2, -, s4⟩ | ⟨z, w, U', n', lf', s1, -⟩
      · have k1 := kX4_storeS l htr x hh n T a u sz (by omega) ha f1 f2 f3 f4 f5 f6 f7 f8 f9 (by rw [← e1]; exact hz0)
        have k2 := kX5_storeS l htr (mr_cnt (gg_up x 5 0 T u) 4) n T a u A ha g10 (by omega) g11 g12 f4 (by rw [s2])
        rw [s2] at k2
        refine ⟨_, _, _, 2, 0, by decide, by decide, by decide, by decide, kL_storeS l x _ (nI a) u k1, k2, rfl, fun z => absurd z (by decide), ?_⟩
        refine St_of s4 (fun f hf => ?_) rfl (by omega) (by omega) 2
        rw [md_cnt_F (by omega), gg_upF (by omega)]
      · rw [hz0] at s1
        cases s1
    | some z =>
      have hg : gz x (mr_cnt z 0) := (gz_take (by rw [← e1]; exact hz0)).tr gz_cnt
      have hR2 := sR_th (sR_y hR (y' := gg_lu (mr_cnt z 0) 0 (nI T).toInt64) hg) 0
      obtain ⟨hh', sz', A, -, -, -, -, -, -, -, -, -, g10, g11, g12, -, -, alt⟩ := sim_acc (a := a) (b := 1) (v := u) hR2 (by omega) (by omega) ha
      rcases alt with ⟨s1, -⟩ | ⟨z', w, U', n', lf', s1, s2, s3, s4⟩
      · rw [hz0] at s1
        cases s1
      · rw [hz0] at s1
        cases s1
        have k1 := kX4_storeY l htr x hh n T a u sz (by omega) ha f1 f2 f3 f4 f5 f6 f7 f8 f9 z (by rw [← e1]; exact hz0)
        have k2 := kX5_storeY l htr (gg_lu (mr_cnt z 0) 0 (nI T).toInt64) n T a u A ha g10 (by omega) g11 g12 f4 (by rw [s2])
        rw [s2] at k2
        have hh2 := hz_iss (y := gg_up (gg_lu (mr_cnt z 0) 0 (nI T).toInt64) 17 0 0 0) (n := n) (T := T) (a := a) (b := 1) (v := u) (A := A)
        rw [s2] at hh2
        refine ⟨_, _, _, 0, nI T, by decide, by decide, by decide, by decide, kL_storeY l x _ (nI a) u _ k1, k2, rfl, fun _ => ?_, St_of s4 (fun f hf => ?_) ?_ (by omega) (by omega) 0⟩
        · show w.2.2 0 = _
          rw [hh2.2.1]
          rfl
        · rw [hh2.1 f hf, gg_upF (by omega)]
          rfl
        · rw [hh2.2.1]
          rfl
end AR2
