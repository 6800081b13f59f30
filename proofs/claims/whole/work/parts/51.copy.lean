-- what the copying loops leave
theorem gg_up_at {x : gg_X} {f i k a b j : Nat} {v : Int32} : (gg_up x f i k v).1 a b j = if a = f ∧ b = i ∧ j = k then v else x.1 a b j := rfl
theorem gg_upF {x : gg_X} {f i k a : Nat} {v : Int32} (h : ¬ a = f) : (gg_up x f i k v).1 a = x.1 a := by
  funext b j
  rw [gg_up_at, if_neg (fun z => h z.1)]
theorem mr_cp_at {x : gg_X} {f i o g j : Nat} (h : ¬ g = f) : ∀ (k a m : Nat), (mr_cp x f i o g j k).1 f a m = if a = i ∧ o ≤ m ∧ m < o + k then x.1 g j (m - o) else x.1 f a m
  | 0, a, m => by rw [if_neg (by omega)]; rfl
  | k + 1, a, m => by
    show (gg_up (mr_cp x f i o g j k) f i (o + k) ((mr_cp x f i o g j k).1 g j k)).1 f a m = _
    rw [gg_up_at, mr_cp_o h, mr_cp_at h k a m]
    by_cases c : a = i ∧ m = o + k
    · rw [if_pos ⟨rfl, c⟩, if_pos (by omega), show m - o = k by omega]
    · rw [if_neg (fun z => c z.2)]
      by_cases c2 : a = i ∧ o ≤ m ∧ m < o + k
      · rw [if_pos c2, if_pos (by omega)]
      · rw [if_neg c2, if_neg (by omega)]
theorem md_rw_at {x : gg_X} {n w : Nat} : ∀ (k m : Nat), (md_rw x n w k).1 28 0 m = if 4 * n ≤ m ∧ m < 4 * n + k then x.1 22 0 (4 * w + (m - 4 * n)) else x.1 28 0 m
  | 0, m => by rw [if_neg (by omega)]; rfl
  | k + 1, m => by
    show (gg_up (md_rw x n w k) 28 0 (4 * n + k) ((md_rw x n w k).1 22 0 (4 * w + k))).1 28 0 m = _
    rw [gg_up_at, md_rw_o (by decide), md_rw_at k m]
    by_cases c : m = 4 * n + k
    · rw [if_pos ⟨rfl, rfl, c⟩, if_pos (by omega), show 4 * w + (m - 4 * n) = 4 * w + k by omega]
    · rw [if_neg (fun z => c z.2.2)]
      by_cases c2 : 4 * n ≤ m ∧ m < 4 * n + k
      · rw [if_pos c2, if_pos (by omega)]
      · rw [if_neg c2, if_neg (by omega)]
theorem md_cm_at {x : gg_X} {L : Nat} : ∀ (k m : Nat), (md_cm x L k).1 18 0 m = if 4 * L ≤ m ∧ m < 4 * L + k then x.1 28 0 (m - 4 * L) else x.1 18 0 m
  | 0, m => by rw [if_neg (by omega)]; rfl
  | k + 1, m => by
    show (gg_up (md_cm x L k) 18 0 (4 * L + k) ((md_cm x L k).1 28 0 (k))).1 18 0 m = _
    rw [gg_up_at, md_cm_o (by decide), md_cm_at k m]
    by_cases c : m = 4 * L + k
    · rw [if_pos ⟨rfl, rfl, c⟩, if_pos (by omega), show m - 4 * L = k by omega]
    · rw [if_neg (fun z => c z.2.2)]
      by_cases c2 : 4 * L ≤ m ∧ m < 4 * L + k
      · rw [if_pos c2, if_pos (by omega)]
      · rw [if_neg c2, if_neg (by omega)]
theorem md_mw_at {x : gg_X} {w L : Nat} : ∀ (k m : Nat), (md_mw x w L k).1 22 0 m = if 4 * w ≤ m ∧ m < 4 * w + k then x.1 18 0 (4 * L + (m - 4 * w)) else x.1 22 0 m
  | 0, m => by rw [if_neg (by omega)]; rfl
  | k + 1, m => by
    show (gg_up (md_mw x w L k) 22 0 (4 * w + k) ((md_mw x w L k).1 18 0 (4 * L + k))).1 22 0 m = _
    rw [gg_up_at, md_mw_o (by decide), md_mw_at k m]
    by_cases c : m = 4 * w + k
    · rw [if_pos ⟨rfl, rfl, c⟩, if_pos (by omega), show 4 * L + (m - 4 * w) = 4 * L + k by omega]
    · rw [if_neg (fun z => c z.2.2)]
      by_cases c2 : 4 * w ≤ m ∧ m < 4 * w + k
      · rw [if_pos c2, if_pos (by omega)]
      · rw [if_neg c2, if_neg (by omega)]
theorem md_wm_at {x : gg_X} {L w : Nat} : ∀ (k m : Nat), (md_wm x L w k).1 18 0 m = if 4 * L ≤ m ∧ m < 4 * L + k then x.1 22 0 (4 * w + (m - 4 * L)) else x.1 18 0 m
  | 0, m => by rw [if_neg (by omega)]; rfl
  | k + 1, m => by
    show (gg_up (md_wm x L w k) 18 0 (4 * L + k) ((md_wm x L w k).1 22 0 (4 * w + k))).1 18 0 m = _
    rw [gg_up_at, md_wm_o (by decide), md_wm_at k m]
    by_cases c : m = 4 * L + k
    · rw [if_pos ⟨rfl, rfl, c⟩, if_pos (by omega), show 4 * w + (m - 4 * L) = 4 * w + k by omega]
    · rw [if_neg (fun z => c z.2.2)]
      by_cases c2 : 4 * L ≤ m ∧ m < 4 * L + k
      · rw [if_pos c2, if_pos (by omega)]
      · rw [if_neg c2, if_neg (by omega)]
theorem md_sh_at {x : gg_X} : ∀ (k m : Nat), (md_sh x k).1 27 0 m = if m < k then x.1 27 0 (m + 1) else x.1 27 0 m
  | 0, m => by rw [if_neg (by omega)]; rfl
  | k + 1, m => by
    show (gg_up (md_sh x k) 27 0 k ((md_sh x k).1 27 0 (k + 1))).1 27 0 m = _
    rw [gg_up_at, md_sh_at k (k + 1), md_sh_at k m, if_neg (show ¬ k + 1 < k by omega)]
    by_cases c : m = k
    · rw [if_pos ⟨rfl, rfl, c⟩, if_pos (by omega), c]
    · rw [if_neg (fun z => c z.2.2)]
      by_cases c2 : m < k
      · rw [if_pos c2, if_pos (by omega)]
      · rw [if_neg c2, if_neg (by omega)]
theorem md_sw_at {x : gg_X} : ∀ (k m : Nat), (md_sw x k).1 28 0 m = if m < k then x.1 28 0 (m + 4) else x.1 28 0 m
  | 0, m => by rw [if_neg (by omega)]; rfl
  | k + 1, m => by
    show (gg_up (md_sw x k) 28 0 k ((md_sw x k).1 28 0 (k + 4))).1 28 0 m = _
    rw [gg_up_at, md_sw_at k (k + 4), md_sw_at k m, if_neg (show ¬ k + 4 < k by omega)]
    by_cases c : m = k
    · rw [if_pos ⟨rfl, rfl, c⟩, if_pos (by omega), c]
    · rw [if_neg (fun z => c z.2.2)]
      by_cases c2 : m < k
      · rw [if_pos c2, if_pos (by omega)]
      · rw [if_neg c2, if_neg (by omega)]
theorem mr_cf_at {x : gg_X} {i o : Nat} : ∀ (k a m : Nat), (mr_cf x i o k).1 10 a m = if a = i ∧ m < k then x.1 1 0 (o + m) else x.1 10 a m
  | 0, a, m => by rw [if_neg (by omega)]; rfl
  | k + 1, a, m => by
    show (gg_up (mr_cf x i o k) 10 i k ((mr_cf x i o k).1 1 0 (o + k))).1 10 a m = _
    rw [gg_up_at, mr_cf_o (by decide), mr_cf_at k a m]
    by_cases c : a = i ∧ m = k
    · rw [if_pos ⟨rfl, c⟩, if_pos (by omega), c.2]
    · rw [if_neg (fun z => c z.2)]
      by_cases c2 : a = i ∧ m < k
      · rw [if_pos c2, if_pos (by omega)]
      · rw [if_neg c2, if_neg (by omega)]
-- rows appended
theorem mr_app_15 {x : gg_X} {q n a j : Nat} {L : Int32} {o : Option Nat} : (mr_app x q n L o).1 15 a j = if a = q ∧ j = 1 then L else x.1 15 a j := by
  unfold mr_app
  split <;> simp [gg_up, gg_pu]
theorem mr_app_p {x : gg_X} {q n : Nat} {L : Int32} {o : Option Nat} : (mr_app x q n L o).2 = (gg_pu x 15 q o).2 := by
  unfold mr_app
  split <;> rfl
theorem mr_app_4 {x : gg_X} {q n : Nat} {L : Int32} {o : Option Nat} : (mr_app x q n L o).1 4 0 3 = (if n = 0 then x.1 4 0 4 else x.1 4 0 3) ∧ (mr_app x q n L o).1 4 0 4 = x.1 4 0 4 := by
  unfold mr_app
  split <;> simp [gg_up, gg_pu]
theorem mr_app_F {x : gg_X} {q n f : Nat} {L : Int32} {o : Option Nat} (h1 : ¬ f = 15) (h2 : ¬ f = 4) : (mr_app x q n L o).1 f = x.1 f := by
  funext i k
  exact mr_app_o h1 h2
theorem md_put_27 {x : gg_X} {n w m : Nat} {q : Int32} : (md_put x n q w).1 27 0 m = if m = n then q else x.1 27 0 m := by
  unfold md_put
  rw [gg_upF (by decide), gg_upF (by decide), md_rw_o (by decide), gg_up_at]
  by_cases c : m = n
  · rw [if_pos ⟨rfl, rfl, c⟩, if_pos c]
  · rw [if_neg (fun z => c z.2.2), if_neg c]
theorem md_put_28 {x : gg_X} {n w m : Nat} {q : Int32} : (md_put x n q w).1 28 0 m = if 4 * n ≤ m ∧ m < 4 * n + 4 then x.1 22 0 (4 * w + (m - 4 * n)) else x.1 28 0 m := by
  unfold md_put
  rw [gg_upF (by decide), gg_upF (by decide), md_rw_at]
  rfl
theorem md_put_15 {x : gg_X} {n w : Nat} {q : Int32} : (md_put x n q w).1 17 0 15 = if n = 0 then x.1 17 0 16 else x.1 17 0 15 := by
  unfold md_put
  rw [gg_up_at, if_pos ⟨rfl, rfl, rfl⟩]
theorem md_put_F {x : gg_X} {n w f : Nat} {q : Int32} (h1 : ¬ f = 28) (h2 : ¬ f = 27) (h3 : ¬ f = 17) : (md_put x n q w).1 f = x.1 f := by
  funext b c
  exact md_put_o h1 h2 h3
