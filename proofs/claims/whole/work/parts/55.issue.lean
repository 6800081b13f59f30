-- an access, on both sides
def sI (S Ln Rg Us F sz : Nat → Nat) (Tk : Nat → Nat → Nat) (A Dn RL : Nat → Nat) (Rk : Nat → Option Nat) (h n T U d lf : Nat) : Prop := iW S Ln Us U ∧ iR S Rg F ∧ iT S Ln Rg sz Tk A Dn T ∧ iQ S Ln F RL Rk n ∧ iM h n d lf
def cC (x y : gg_X) : Prop := ∀ k, 0 < k → k < 8 → x.1 7 0 k = y.1 29 0 k
theorem mr_fetch_F {x : gg_X} {L i r q n f : Nat} (h1 : ¬ f = 15) (h2 : ¬ f = 4) (h3 : ¬ f = 9) (h4 : ¬ f = 11) (h5 : ¬ f = 0) : (mr_fetch x L i r q n).1 f = x.1 f := by
  unfold mr_fetch
  rw [mr_app_F h1 h2]
  unfold mr_use
  rw [gg_upF h3, gg_upF h5]
  show (gg_up (gg_up (gg_up (gg_up x 11 r 3 1) 11 r 4 0) 9 i 1 (nI L)) 9 i 2 0).1 f = _
  rw [gg_upF h3, gg_upF h3, gg_upF h4, gg_upF h4]
theorem md_fetch_F {y : gg_X} {n L w f : Nat} (h1 : ¬ f = 28) (h2 : ¬ f = 27) (h3 : ¬ f = 17) (h4 : ¬ f = 21) (h5 : ¬ f = 19) (h6 : ¬ f = 20) : (md_fetch y n L w).1 f = y.1 f := by
  unfold md_fetch
  rw [md_put_F h1 h2 h3]
  unfold md_use
  rw [gg_upF h4, gg_upF h3, gg_upF h6, gg_upF h5]
theorem md_fetch_7 {y : gg_X} {n L w k : Nat} (h1 : ¬ k = 12) (h2 : ¬ k = 15) (h3 : ¬ k = 6) : (md_fetch y n L w).1 17 0 k = y.1 17 0 k := by
  unfold md_fetch
  rw [md_put_f h1 h2]
  unfold md_use
  rw [gg_upF (by decide), gg_up_k h3, gg_upF (by decide), gg_upF (by decide)]
theorem md_cnt_F {y : gg_X} {k f : Nat} (h : ¬ f = 29) : (md_cnt y k).1 f = y.1 f := gg_upF h
theorem mr_cnt_F {y : gg_X} {k f : Nat} (h : ¬ f = 7) : (mr_cnt y k).1 f = y.1 f := gg_upF h
theorem cC_cnt {x y : gg_X} (c : cC x y) (k : Nat) : cC (mr_cnt x k) (md_cnt y k) := by
  intro j h0 h8
  unfold mr_cnt md_cnt
  rw [gg_up_at, gg_up_at]
  by_cases e : j = k
  · subst e
    rw [if_pos ⟨rfl, rfl, rfl⟩, if_pos ⟨rfl, rfl, rfl⟩, c j h0 h8]
  · rw [if_neg (fun z => e z.2.2), if_neg (fun z => e z.2.2)]
    exact c j h0 h8
theorem cC_0 {x y : gg_X} (c : cC x y) : cC (mr_cnt x 0) y := by
  intro j h0 h8
  unfold mr_cnt
  rw [gg_up_k (by omega)]
  exact c j h0 h8
theorem cC_fr {x y x' y' : gg_X} (c : cC x y) (e1 : x'.1 7 = x.1 7) (e2 : y'.1 29 = y.1 29) : cC x' y' := by
  unfold cC
  rw [e1, e2]
  exact c
section ISS
variable {x y : gg_X} {S Ln Rg Us F sz A Dn RL : Nat → Nat} {Tk : Nat → Nat → Nat} {Rk : Nat → Option Nat} {h n T U d lf i r L a k : Nat}
theorem sI_n (I : sI S Ln Rg Us F sz Tk A Dn RL Rk h n T U d lf) (hr : r < 3) (hF : F r = 0) : n ≤ 4 ∧ F 0 + F 1 + F 2 ≤ 2 := by
  obtain ⟨-, iR, -, iQ, -⟩ := I
  have f0 := iR.2.2.1 0 (by decide)
  have f1 := iR.2.2.1 1 (by decide)
  have f2 := iR.2.2.1 2 (by decide)
  have h4 := iQ.2.2.2.1
  have h5 := iQ.2.2.2.2
  rcases (show r = 0 ∨ r = 1 ∨ r = 2 by omega) with rfl | rfl | rfl <;> omega
theorem iM_app (m : iM h n d lf) (hn : n < 5) : iM h (n + 1) d (if n = 0 then d else lf) := by
  obtain ⟨m1, m2, m3, m4, m5, m6⟩ := m
  refine ⟨m1, by omega, m3, m4, fun z => by omega, fun _ => ?_⟩
  split
  · omega
  · exact m6 (by omega)
theorem sI_fetch (I : sI S Ln Rg Us F sz Tk A Dn RL Rk h n T U d lf) (hi : i < 8) (hS : S i ≠ 3) (hr : r < 3) (hF : F r = 0) (hL : L < 64) (hLi : i / 2 = L % 4) (hf : s_find S Ln L = none) :
    sI (va_up S i 3) (va_up Ln i L) (va_up Rg i r) (va_up Us i (U + 1)) (va_up F r 1) (va_up sz r 0) Tk A Dn (va_up RL n L) (va_up Rk n (some i)) h (n + 1) T (U + 1) d (if n = 0 then d else lf) := by
  have hn := (sI_n I hr hF).1
  obtain ⟨w, R, t, q, m⟩ := I
  refine ⟨iW_fetch w hi hL hLi.symm (fun j _ hs hj => s_find_none hf (by omega) hs), iR_fetch R hi hS hr hF, iT_fetch t hS (fun j hj hs e => ?_) (fun u hu hd e => ?_), iQ_fetch q hi hS hL hr hF, iM_app m (by omega)⟩
  · have := (R.1 j hj hs).2
    rw [e, hF] at this
    omega
  · obtain ⟨j, j1, j2, j3⟩ := t.2.2.2 u hu hd
    have hj := (w.1 j j1).2.1 (by omega)
    exact s_find_none hf (j := j) (by rw [← hj.2, j3, e]) (by omega) (by rw [j3, e])
theorem sI_hit (I : sI S Ln Rg Us F sz Tk A Dn RL Rk h n T U d lf) (hi : i < 8) (hS1 : S i ≠ 0) (hS3 : S i ≠ 3) (ha : a < 256) (b : Int32) : sI (va_up S i (if b = 0 then S i else 2)) Ln Rg (va_up Us i (U + 1)) F sz Tk (va_up A T a) (va_up Dn T 1) RL Rk h n (T + 1) (U + 1) d lf := by
  obtain ⟨w, R, t, q, m⟩ := I
  have hv : (if b = 0 then S i else 2) ≠ 3 := by split <;> omega
  have hv3 : (if b = 0 then S i else 2) ≤ 3 := by
    split
    · exact (w.1 i hi).1
    · omega
  have t2 := iT_done t (fun i hi hs => (R.1 i hi hs).1) ha
  exact ⟨iW_set (iW_use w i) hS1 hv3, iR_set R hS3 hv, iT_set t2 hS3 hv, iQ_set q hS3 hv, m⟩
theorem sI_join (I : sI S Ln Rg Us F sz Tk A Dn RL Rk h n T U d lf) (hi : i < 8) (hS : S i = 3) (ha : a < 256) (hL : Ln i = a / 4) (hr : Rg i = r) (hk : sz r = k) (hk3 : k < 3) : sI S Ln Rg Us F (va_up sz r (k + 1)) (fun q j => if q = r ∧ j = k then T else Tk q j) (va_up A T a) (va_up Dn T 0) RL Rk h n (T + 1) U d lf := by
  obtain ⟨w, R, t, q, m⟩ := I
  exact ⟨w, R, iT_join t w R hi hS ha hL hr hk hk3, q, m⟩
theorem sI_use (I : sI S Ln Rg Us F sz Tk A Dn RL Rk h n T U d lf) (i : Nat) : sI S Ln Rg (va_up Us i (U + 1)) F sz Tk A Dn RL Rk h n T (U + 1) d lf := ⟨iW_use I.1 i, I.2⟩
theorem sI_wb (I : sI S Ln Rg Us F sz Tk A Dn RL Rk h n T U d lf) (hL : L < 64) (hn : n < 5) (hc : s_cw Rk n < 2) : sI S Ln Rg Us F sz Tk A Dn (va_up RL n L) (va_up Rk n none) h (n + 1) T U d (if n = 0 then d else lf) := by
  obtain ⟨w, R, t, q, m⟩ := I
  exact ⟨w, R, t, iQ_wb q hL hc, iM_app m hn⟩
/-- what the fetch ahead leaves -/
def sF (x y X Y : gg_X) (Tk : Nat → Nat → Nat) (A Dn : Nat → Nat) (h T U d : Nat) (D : Nat) : Prop := ∃ (S Ln Rg Us F sz RL : Nat → Nat) (Rk : Nat → Option Nat) (n V lf : Nat), cA X Y S Ln Rg Us F sz Tk A Dn RL Rk h n T V d lf ∧ sI S Ln Rg Us F sz Tk A Dn RL Rk h n T V d lf ∧ V ≤ U + D ∧ (cC x y → cC X Y) ∧ X.1 7 0 0 = x.1 7 0 0 ∧ Y.1 17 0 7 = y.1 17 0 7
theorem sF_rf (c : cA x y S Ln Rg Us F sz Tk A Dn RL Rk h n T U d lf) (I : sI S Ln Rg Us F sz Tk A Dn RL Rk h n T U d lf) (D : Nat) : sF x y x y Tk A Dn h T U d D := ⟨S, Ln, Rg, Us, F, sz, RL, Rk, n, U, lf, c, I, by omega, id, rfl, rfl⟩
theorem sim_fah (c : cA x y S Ln Rg Us F sz Tk A Dn RL Rk h n T U d lf) (I : sI S Ln Rg Us F sz Tk A Dn RL Rk h n T U d lf) (hU : U < 2 ^ 30) (L : Nat) (hfl : ¬ x.1 0 0 7 = 0) : sF x y (mr_fiw x h n L) (md_fah y n L) Tk A Dn h T U d 1 := by
  have c0 := c
  have I0 := I
  obtain ⟨c1, c2, c3, c4, c5, c6, c7⟩ := c
  obtain ⟨w, R, t, q, m⟩ := I
  have hfy : ¬ y.1 17 0 17 = 0 := by rw [← c6.2.2]; exact hfl
  by_cases hL : 64 ≤ L
  · have e1 : mr_fiw x h n L = x := by simp [mr_fiw, hL]
    have e2 : md_fah y n L = y := by simp [md_fah, hfy, show 63 < L by omega]
    rw [e1, e2]
    exact sF_rf c0 I0 1
  · have hL2 : ¬ 63 < L := by omega
    obtain ⟨g1, g2⟩ := ag_find c1 w (show L < 64 by omega)
    have ef : ∀ o, s_find S Ln L = o → mr_find x L = o ∧ md_way y L = o := fun o ho => ⟨g1.trans ho, g2.trans ho⟩
    cases hf : s_find S Ln L with
    | some j =>
      have e1 : mr_fiw x h n L = x := by simp [mr_fiw, hL, (ef _ hf).1]
      have e2 : md_fah y n L = y := by simp [md_fah, hfy, hL2, (ef _ hf).2]
      rw [e1, e2]
      exact sF_rf c0 I0 1
    | none =>
      have ga := ag_aw c1 w 8 (Nat.le_refl 8)
      rw [R.2.2.2] at ga
      obtain ⟨gf, -⟩ := ag_free c2 R
      have hfn := s_free_none R
      cases hr : s_free F with
      | none =>
        have e1 : mr_fiw x h n L = x := by simp [mr_fiw, hL, (ef _ hf).1, gf, hr]
        have e2 : md_fah y n L = y := by simp [md_fah, hfy, hL2, (ef _ hf).2, ga, hfn.mp hr]
        rw [e1, e2]
        exact sF_rf c0 I0 1
      | some r =>
        obtain ⟨r1, r2⟩ := s_free_some hr
        have ha3 : ¬ F 0 + F 1 + F 2 = 3 := fun z => by rw [hfn.mpr z] at hr; cases hr
        obtain ⟨h1, h2⟩ := ag_cho c1 w hU (s := L % 4) (by omega)
        cases hi : s_cho S Us (L % 4 * 2) with
        | none =>
          have e1 : mr_fiw x h n L = x := by simp [mr_fiw, hL, (ef _ hf).1, gf, hr, h1, hi]
          have e2 : md_fah y n L = y := by simp [md_fah, hfy, hL2, (ef _ hf).2, ga, ha3, h2, hi]
          rw [e1, e2]
          exact sF_rf c0 I0 1
        | some i =>
          obtain ⟨s1, s2⟩ := s_cho_some hi
          have i8 : i < 8 := by omega
          obtain ⟨w1, -, -, w4, -⟩ := c1 i i8
          have q2 : nI (S i) = 2 ↔ S i = 2 := nI_k (c := 2) (m := 2) (by have := (w.1 i i8).1; omega) (by decide) rfl
          by_cases e : S i = 2
          · have e1 : mr_fiw x h n L = x := by simp [mr_fiw, hL, (ef _ hf).1, gf, hr, h1, hi, w4, e]
            have e2 : md_fah y n L = y := by simp [md_fah, hfy, hL2, (ef _ hf).2, ga, ha3, h2, hi, show y.1 19 0 i = 2 from w1.trans (q2.mpr e)]
            rw [e1, e2]
            exact sF_rf c0 I0 1
          · have e1 : mr_fiw x h n L = mr_cnt (mr_fetch x L i r ((h + n) % 5) n) 5 := by simp [mr_fiw, hL, (ef _ hf).1, gf, hr, h1, hi, w4, e]
            have e2 : md_fah y n L = md_cnt (md_fetch y n L i) 5 := by simp [md_fah, hfy, hL2, (ef _ hf).2, ga, ha3, h2, hi, w1, q2, e]
            rw [e1, e2]
            have hn := (sI_n I0 r1 r2).1
            refine ⟨_, _, _, _, _, _, _, _, _, _, _, cA_cy (cA_cx (cA_fetch c0 (by omega) i r L) 5) 5, sI_fetch I0 i8 s2 r1 r2 (by omega) (by omega) hf, by omega, fun z => cC_cnt (cC_fr z (mr_fetch_F (by decide) (by decide) (by decide) (by decide) (by decide)) (md_fetch_F (by decide) (by decide) (by decide) (by decide) (by decide) (by decide))) 5, ?_, ?_⟩
            · unfold mr_cnt
              rw [gg_up_k (by decide), mr_fetch_F (by decide) (by decide) (by decide) (by decide) (by decide)]
            · rw [md_cnt_F (by decide), md_fetch_7 (by decide) (by decide) (by decide)]
theorem sI_Tk (I : sI S Ln Rg Us F sz Tk A Dn RL Rk h n T U d lf) : ∀ r, r < 3 → ∀ j, j < sz r → Tk r j < T := fun r hr j hj => (I.2.2.1.2.1 r hr).2.1 j hj
/-- what an access leaves -/
def sG (x y X Y : gg_X) (T U n lf : Nat) : Prop := ∃ (S Ln Rg Us F sz : Nat → Nat) (Tk : Nat → Nat → Nat) (A Dn RL : Nat → Nat) (Rk : Nat → Option Nat) (h d : Nat), cA X Y S Ln Rg Us F sz Tk A Dn RL Rk h n T U d lf ∧ sI S Ln Rg Us F sz Tk A Dn RL Rk h n T U d lf ∧ (cC x y → cC X Y)
theorem md_fah_0 (hy : y.1 17 0 17 = 0) : md_fah y n L = y := by
  unfold md_fah
  rw [if_pos hy]
theorem sim_miss2 (c : cA x y S Ln Rg Us F sz Tk A Dn RL Rk h n T U d lf) (I : sI S Ln Rg Us F sz Tk A Dn RL Rk h n T U d lf) (hU : U + 2 < 2 ^ 30) (hT : T < 512) (ha : a < 256) (hi : i < 8) (hi2 : i / 2 = a / 4 % 4) (hS : S i ≠ 3) (hr : r < 3) (hF : F r = 0) (hf : s_find S Ln (a / 4) = none) {b v : Int32} (x1 : x.1 5 0 T = v) :
    ∃ U' n' lf', U' ≤ U + 2 ∧ sG x y (mr_miss2 x h n (a / 4) i r (nI T) (nI (a % 4)) b) (md_fah (md_fetch (md_note y T (nI a) b v) n (a / 4) i) (n + 1) (a / 4 + 1)) (T + 1) U' n' lf' ∧ (mr_miss2 x h n (a / 4) i r (nI T) (nI (a % 4)) b).1 7 0 0 = x.1 7 0 0 ∧ (md_fah (md_fetch (md_note y T (nI a) b v) n (a / 4) i) (n + 1) (a / 4 + 1)).1 17 0 7 = nI (T + 1) := by
  have hn := (sI_n I hr hF).1
  have hL : a / 4 < 64 := by omega
  have C1 := cA_no c (sI_Tk I) (nI a) b v
  have C2 := cA_fetch C1 (show n < 5 by omega) i r (a / 4)
  have I2 := sI_fetch I hi hS hr hF hL hi2 hf
  have fy : ∀ f, ¬ f = 28 → ¬ f = 27 → ¬ f = 17 → ¬ f = 21 → ¬ f = 19 → ¬ f = 20 → (md_fetch (md_note y T (nI a) b v) n (a / 4) i).1 f = (md_note y T (nI a) b v).1 f := fun f h1 h2 h3 h4 h5 h6 => md_fetch_F h1 h2 h3 h4 h5 h6
  have C3 := cA_add (a := a) (b := b) (v := v) (r := r) (k := 0) C2 (sI_Tk I2) (va_up_self _ _ _) (by rw [fy 23 (by decide) (by decide) (by decide) (by decide) (by decide) (by decide)]; exact md_note_a) (by rw [fy 24 (by decide) (by decide) (by decide) (by decide) (by decide) (by decide)]; simp [md_note, gg_up]) (by rw [fy 25 (by decide) (by decide) (by decide) (by decide) (by decide) (by decide)]; simp [md_note, gg_up]) (by rw [fy 26 (by decide) (by decide) (by decide) (by decide) (by decide) (by decide)]; simp [md_note, gg_up]) (by rw [mr_fetch_F (by decide) (by decide) (by decide) (by decide) (by decide)]; exact x1) hT
  have I3 := sI_join (a := a) (i := i) (r := r) (k := 0) I2 hi (va_up_self _ _ _) ha (va_up_self _ _ _) (va_up_self _ _ _) (va_up_self _ _ _) (by decide)
  have e7 : (mr_add (mr_fetch x (a / 4) i r ((h + n) % 5) n) r 0 (nI T) (nI (a % 4)) b).1 7 = x.1 7 := by
    show (mr_fetch x (a / 4) i r ((h + n) % 5) n).1 7 = _
    exact mr_fetch_F (by decide) (by decide) (by decide) (by decide) (by decide)
  have e29 : (md_fetch (md_note y T (nI a) b v) n (a / 4) i).1 29 = y.1 29 := by
    rw [fy 29 (by decide) (by decide) (by decide) (by decide) (by decide) (by decide)]
    rfl
  have e177 : (md_fetch (md_note y T (nI a) b v) n (a / 4) i).1 17 0 7 = nI (T + 1) := by
    rw [md_fetch_7 (by decide) (by decide) (by decide)]
    simp [md_note, gg_up]
  by_cases hfl : x.1 0 0 7 = 0
  · have e1 := mr_miss2_T (y := x) (h := h) (n := n) (L := a / 4) (i := i) (r := r) (t := nI T) (w := nI (a % 4)) (b := b) hfl
    have e2 : md_fah (md_fetch (md_note y T (nI a) b v) n (a / 4) i) (n + 1) (a / 4 + 1) = md_fetch (md_note y T (nI a) b v) n (a / 4) i := by
      refine md_fah_0 ?_
      have := C3.2.2.2.2.2.1.2.2
      rw [mr_z7] at this
      rw [← this]
      exact hfl
    rw [e1, e2]
    exact ⟨_, _, _, by omega, ⟨_, _, _, _, _, _, _, _, _, _, _, _, _, C3, I3, fun z => cC_fr z e7 e29⟩, by rw [e7], e177⟩
  · have e1 := mr_miss2_F (y := x) (h := h) (n := n) (L := a / 4) (i := i) (r := r) (t := nI T) (w := nI (a % 4)) (b := b) hfl
    rw [e1]
    obtain ⟨S', Ln', Rg', Us', F', sz', RL', Rk', n', V, lf', g1, g2, g3, g4, g5, g6⟩ := sim_fah C3 I3 (by omega) (a / 4 + 1) (by rw [mr_z7]; exact hfl)
    exact ⟨V, n', lf', by omega, ⟨_, _, _, _, _, _, _, _, _, _, _, _, _, g1, g2, fun z => g4 (cC_fr z e7 e29)⟩, by rw [g5, e7], by rw [g6, e177]⟩
end ISS
