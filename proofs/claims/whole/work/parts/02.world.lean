-- the machine's values, with handles (a family of cells, a number in it) in the place of addresses
abbrev gg_V : Type := Int32 ⊕ (Option (Nat × Nat)) ⊕ Int64
abbrev gg_i (a : Int32) : gg_V := Sum.inl a
abbrev gg_r (f i : Nat) : gg_V := Sum.inr (Sum.inl (some (f, i)))
abbrev gg_n : gg_V := Sum.inr (Sum.inl none)
abbrev gg_l (a : Int64) : gg_V := Sum.inr (Sum.inr a)
def gg_c (ad : Nat → Nat → Nat) (v : gg_V) : Value := match v with
  | .inl a => .int a
  | .inr (.inl none) => .null
  | .inr (.inl (some h)) => .ref (ad h.1 h.2)
  | .inr (.inr a) => .long a
def gg_cat (v : gg_V) : Nat := match v with
  | .inl _ => 1
  | .inr (.inl _) => 1
  | .inr (.inr _) => 2
theorem gg_cat_c (ad : Nat → Nat → Nat) (v : gg_V) : (gg_c ad v).category = gg_cat v := by
  rcases v with a | (_ | h) | a <;> rfl
def gg_o (g : Nat) (o : Option Nat) : gg_V := match o with
  | none => gg_n
  | some j => gg_r g j
/-- a state: the ints by family, number and slot; the references that change; out's longs -/
abbrev gg_X : Type := (Nat → Nat → Nat → Int32) × (Nat → Nat → Option Nat) × (Nat → Int64)
/-- a family's shape: an object (its kind's number; of each field 0 int, 1 boolean, 2 a reference that changes, g + 3 the cell of family g with its own number), or an array (its type's number, its length, the family of its elements) -/
def gg_sh (f : Nat) : (Nat × List Nat) ⊕ (Nat × Nat × Nat) := match f with
  | 0 => .inl (4, [4, 5, 6, 7, 8, 9, 10, 1, 0])
  | 1 => .inr (0, 256, 0)
  | 2 => .inr (2, 8, 9)
  | 3 => .inr (3, 3, 11)
  | 4 => .inl (0, [11, 0, 0, 0, 0])
  | 5 => .inr (0, 512, 0)
  | 6 => .inr (1, 512, 0)
  | 7 => .inr (0, 8, 0)
  | 8 => .inr (4, 5, 15)
  | 9 => .inl (3, [13, 0, 1, 2, 0])
  | 10 => .inr (0, 4, 0)
  | 11 => .inl (1, [15, 16, 17, 1, 0])
  | 12 => .inr (0, 3, 0)
  | 13 => .inr (0, 3, 0)
  | 14 => .inr (1, 3, 0)
  | 15 => .inl (2, [19, 0, 2])
  | 16 => .inr (0, 4, 0)
  | 17 => .inl (5, [0, 21, 22, 23, 24, 25, 0, 0, 26, 27, 28, 29, 0, 30, 31, 0, 0, 1, 32])
  | 18 => .inr (0, 256, 0)
  | 19 => .inr (0, 8, 0)
  | 20 => .inr (0, 8, 0)
  | 21 => .inr (0, 8, 0)
  | 22 => .inr (0, 32, 0)
  | 23 => .inr (0, 600, 0)
  | 24 => .inr (1, 600, 0)
  | 25 => .inr (0, 600, 0)
  | 26 => .inr (1, 600, 0)
  | 27 => .inr (0, 8, 0)
  | 28 => .inr (0, 32, 0)
  | 29 => .inr (0, 8, 0)
  | 30 => .inr (5, 1, 0)
  | _ => .inr (0, 0, 0)
def gg_cnt (f : Nat) : Nat := ([1, 1, 1, 1, 1, 1, 1, 1, 1, 8, 8, 3, 3, 3, 3, 5, 5, 1, 1, 1, 1, 1, 1, 1, 1, 1, 1, 1, 1, 1, 1] : List Nat).getD f 0
def gg_off (f : Nat) : Nat := ([0, 1, 2, 3, 4, 5, 6, 7, 8, 9, 17, 25, 28, 31, 34, 37, 42, 47, 48, 49, 50, 51, 52, 53, 54, 55, 56, 57, 58, 59, 60] : List Nat).getD f 0
def gg_hs : List (Nat × Nat) := [(0, 0), (1, 0), (2, 0), (3, 0), (4, 0), (5, 0), (6, 0), (7, 0), (8, 0), (9, 0), (9, 1), (9, 2), (9, 3), (9, 4), (9, 5), (9, 6), (9, 7), (10, 0), (10, 1), (10, 2), (10, 3), (10, 4), (10, 5), (10, 6), (10, 7), (11, 0), (11, 1), (11, 2), (12, 0), (12, 1), (12, 2), (13, 0), (13, 1), (13, 2), (14, 0), (14, 1), (14, 2), (15, 0), (15, 1), (15, 2), (15, 3), (15, 4), (16, 0), (16, 1), (16, 2), (16, 3), (16, 4), (17, 0), (18, 0), (19, 0), (20, 0), (21, 0), (22, 0), (23, 0), (24, 0), (25, 0), (26, 0), (27, 0), (28, 0), (29, 0), (30, 0)]
theorem gg_hs_at : ∀ f, f < 31 → ∀ i, i < gg_cnt f → gg_hs[gg_off f + i]? = some (f, i) := by decide +kernel
theorem gg_hs_is : ∀ j, j < 61 → gg_off (gg_hs.getD j (0, 0)).1 + (gg_hs.getD j (0, 0)).2 = j ∧ (gg_hs.getD j (0, 0)).2 < gg_cnt (gg_hs.getD j (0, 0)).1 := by decide +kernel
theorem gg_cnt_lt {f i : Nat} (h : i < gg_cnt f) : f < 31 := by
  refine Nat.not_le.mp fun q => ?_
  have h0 : gg_cnt f = 0 := by
    unfold gg_cnt
    rw [List.getD_eq_getElem?_getD, List.getElem?_eq_none (by simpa using q)]
    rfl
  omega
theorem gg_hs_of {j : Nat} {h : Nat × Nat} (hj : gg_hs[j]? = some h) : j = gg_off h.1 + h.2 ∧ h.2 < gg_cnt h.1 := by
  have hlt : j < 61 := (List.getElem?_eq_some_iff.mp hj).1
  have h1 := gg_hs_is j hlt
  rw [List.getD_eq_getElem?_getD, hj] at h1
  exact ⟨h1.1.symm, h1.2⟩
def gg_tg (f : Nat) : Nat := if f = 9 then 11 else 9
def gg_fv (x : gg_X) (f i c k : Nat) : gg_V := match c with
  | 0 => gg_i (x.1 f i k)
  | 1 => gg_i (x.1 f i k)
  | 2 => gg_o (gg_tg f) (x.2.1 f i)
  | g + 3 => gg_r g i
def gg_fs (x : gg_X) (f i : Nat) : Nat → List Nat → List gg_V
  | _, [] => []
  | k, c :: cs => gg_fv x f i c k :: gg_fs x f i (k + 1) cs
theorem gg_fs_get (x : gg_X) (f i : Nat) : ∀ (cs : List Nat) (k j : Nat), (gg_fs x f i k cs)[j]? = (cs[j]?).map (fun c => gg_fv x f i c (k + j))
  | [], k, j => by simp [gg_fs]
  | c :: cs, k, 0 => by simp [gg_fs]
  | c :: cs, k, j + 1 => by
    simp only [gg_fs, List.getElem?_cons_succ]
    rw [gg_fs_get x f i cs (k + 1) j, show k + 1 + j = k + (j + 1) by omega]
theorem gg_fs_congr {x y : gg_X} {f i : Nat} (h1 : x.1 f i = y.1 f i) (h2 : x.2.1 f i = y.2.1 f i) : ∀ (cs : List Nat) (k : Nat), gg_fs x f i k cs = gg_fs y f i k cs
  | [], _ => rfl
  | c :: cs, k => by
    have h : gg_fv x f i c k = gg_fv y f i c k := by
      unfold gg_fv
      rw [h1, h2]
    simp only [gg_fs, h, gg_fs_congr h1 h2 cs (k + 1)]
def gg_ar (ad : Nat → Nat → Nat) (x : gg_X) (f i ty g : Nat) : (Nat → Int32) ⊕ (Nat → Int64) ⊕ (Nat → UInt32) ⊕ (Nat → UInt64) ⊕ (Nat → Option Nat) :=
  if f = 30 then .inr (.inl x.2.2) else if ty ≤ 1 then .inl (x.1 f i) else .inr (.inr (.inr (.inr (fun k => some (ad g k)))))
/-- a cell -/
def gg_ce (cT : Nat → ClassId) (ad : Nat → Nat → Nat) (x : gg_X) (f i : Nat) : va_E := match gg_sh f with
  | .inl q => .inr (q.1, (gg_fs x f i 0 q.2).map (gg_c ad))
  | .inr q => .inl (cT q.1, q.2.1, gg_ar ad x f i q.1 q.2.2)
theorem gg_ce_congr {cT : Nat → ClassId} {ad : Nat → Nat → Nat} {x y : gg_X} {f i : Nat} (h1 : x.1 f i = y.1 f i) (h2 : x.2.1 f i = y.2.1 f i) (h3 : f = 30 → x.2.2 = y.2.2) : gg_ce cT ad x f i = gg_ce cT ad y f i := by
  have h4 : ∀ ty g, gg_ar ad x f i ty g = gg_ar ad y f i ty g := by
    intro ty g
    unfold gg_ar
    by_cases hf : f = 30
    · simp only [hf, if_true]
      rw [h3 hf]
    · simp only [hf, if_false, h1]
  unfold gg_ce
  cases gg_sh f with
  | inl q => simp only [gg_fs_congr h1 h2]
  | inr q => simp only [h4]
/-- the world: all cells in their order -/
def gg_w (cT : Nat → ClassId) (ad : Nat → Nat → Nat) (x : gg_X) : va_W := gg_hs.map (fun h => (ad h.1 h.2, gg_ce cT ad x h.1 h.2))
theorem gg_w_at {cT : Nat → ClassId} {ad : Nat → Nat → Nat} {x : gg_X} {f i : Nat} (h : i < gg_cnt f) : (gg_w cT ad x)[gg_off f + i]? = some (ad f i, gg_ce cT ad x f i) := by
  rw [gg_w, List.getElem?_map, gg_hs_at f (gg_cnt_lt h) i h]
  rfl
theorem gg_w_set {cT : Nat → ClassId} {ad : Nat → Nat → Nat} {x y : gg_X} {f i : Nat} {e : va_E} (h : i < gg_cnt f) (he : gg_ce cT ad y f i = e) (ho : ∀ a b, b < gg_cnt a → ¬ (a = f ∧ b = i) → gg_ce cT ad y a b = gg_ce cT ad x a b) : (gg_w cT ad x).set (gg_off f + i) (ad f i, e) = gg_w cT ad y := by
  apply List.ext_getElem?
  intro j
  by_cases hj : j = gg_off f + i
  · subst hj
    rw [List.getElem?_set_self (List.getElem?_eq_some_iff.mp (gg_w_at (cT := cT) (ad := ad) (x := x) h)).1, gg_w_at h, he]
  · rw [List.getElem?_set_ne (Ne.symm hj)]
    simp only [gg_w, List.getElem?_map]
    cases hq : gg_hs[j]? with
    | none => rfl
    | some q =>
      have hn : ¬ (q.1 = f ∧ q.2 = i) := by
        rintro ⟨rfl, rfl⟩
        exact hj (gg_hs_of hq).1
      simp only [Option.map_some, ho _ _ (gg_hs_of hq).2 hn]
/-- the addresses are apart -/
def gg_ap (ad : Nat → Nat → Nat) : Prop := ∀ f i a b, i < gg_cnt f → b < gg_cnt a → ad f i = ad a b → f = a ∧ i = b
/-- which cells may change: the world's (w), and new ones -/
def gg_A (w : Bool) (ad : Nat → Nat → Nat) (sz : Nat) : Nat → Prop := fun q => (w = true ∧ ∃ f i, i < gg_cnt f ∧ q = ad f i) ∨ sz ≤ q
theorem gg_A_mono {w v : Bool} {ad : Nat → Nat → Nat} {sz sz' q : Nat} (hw : w = true → v = true) (hs : sz' ≤ sz) (h : gg_A w ad sz q) : gg_A v ad sz' q := by
  rcases h with ⟨h1, h2⟩ | h
  · exact Or.inl ⟨hw h1, h2⟩
  · exact Or.inr (Nat.le_trans hs h)
theorem gg_D {cT : Nat → ClassId} {ad : Nat → Nat → Nat} {x : gg_X} {A : Nat → Prop} (h : gg_ap ad) (hA : ∀ f i, i < gg_cnt f → A (ad f i)) : va_D A (gg_w cT ad x) := by
  have at' : ∀ (k : Nat) (q : Nat × va_E), (gg_w cT ad x)[k]? = some q → ∃ t : Nat × Nat, gg_hs[k]? = some t ∧ q.1 = ad t.1 t.2 := by
    intro k q hq
    rw [gg_w, List.getElem?_map] at hq
    cases ht : gg_hs[k]? with
    | none => rw [ht] at hq; cases hq
    | some t => rw [ht] at hq; exact ⟨t, rfl, by rw [← Option.some.inj hq]⟩
  refine ⟨fun i j p q hp hq hpq => ?_, fun k q hq => ?_⟩
  · obtain ⟨t, h1, h2⟩ := at' i p hp
    obtain ⟨u, h3, h4⟩ := at' j q hq
    obtain ⟨g1, g2⟩ := gg_hs_of h1
    obtain ⟨g3, g4⟩ := gg_hs_of h3
    obtain ⟨e1, e2⟩ := h _ _ _ _ g2 g4 (by rw [← h2, ← h4]; exact hpq)
    rw [g1, g3, e1, e2]
  · obtain ⟨t, h1, h2⟩ := at' k q hq
    rw [h2]
    exact hA _ _ (gg_hs_of h1).2
theorem gg_D_w {cT : Nat → ClassId} {ad : Nat → Nat → Nat} {x : gg_X} {sz : Nat} (h : gg_ap ad) : va_D (gg_A true ad sz) (gg_w cT ad x) := gg_D h fun f i hi => Or.inl ⟨rfl, f, i, hi, rfl⟩
-- changes
def gg_up (x : gg_X) (f i k : Nat) (v : Int32) : gg_X := (fun a b j => if a = f ∧ b = i ∧ j = k then v else x.1 a b j, x.2)
def gg_pu (x : gg_X) (f i : Nat) (o : Option Nat) : gg_X := (x.1, fun a b => if a = f ∧ b = i then o else x.2.1 a b, x.2.2)
def gg_lu (x : gg_X) (k : Nat) (v : Int64) : gg_X := (x.1, x.2.1, fun j => if j = k then v else x.2.2 j)
theorem gg_up_ne {x : gg_X} {f i k a b : Nat} {v : Int32} (h : ¬ (a = f ∧ b = i)) : (gg_up x f i k v).1 a b = x.1 a b := by
  funext j
  simp only [gg_up]
  rw [if_neg (fun q => h ⟨q.1, q.2.1⟩)]
theorem gg_pu_ne {x : gg_X} {f i a b : Nat} {o : Option Nat} (h : ¬ (a = f ∧ b = i)) : (gg_pu x f i o).2.1 a b = x.2.1 a b := by
  simp only [gg_pu]
  rw [if_neg h]
theorem gg_ce_up_ne {cT : Nat → ClassId} {ad : Nat → Nat → Nat} {x : gg_X} {f i k a b : Nat} {v : Int32} (h : ¬ (a = f ∧ b = i)) : gg_ce cT ad (gg_up x f i k v) a b = gg_ce cT ad x a b := gg_ce_congr (gg_up_ne h) rfl (fun _ => rfl)
theorem gg_ce_pu_ne {cT : Nat → ClassId} {ad : Nat → Nat → Nat} {x : gg_X} {f i a b : Nat} {o : Option Nat} (h : ¬ (a = f ∧ b = i)) : gg_ce cT ad (gg_pu x f i o) a b = gg_ce cT ad x a b := gg_ce_congr rfl (gg_pu_ne h) (fun _ => rfl)
theorem gg_fs_up {x : gg_X} {f i k c : Nat} {v : Int32} {cs : List Nat} (hk : cs[k]? = some c) (hc : c ≤ 1) : (gg_fs x f i 0 cs).set k (gg_i v) = gg_fs (gg_up x f i k v) f i 0 cs := by
  apply List.ext_getElem?
  intro j
  rw [List.getElem?_set, gg_fs_get, gg_fs_get]
  have hlen : k < (gg_fs x f i 0 cs).length := by
    have h1 := gg_fs_get x f i cs 0 k
    rw [hk] at h1
    exact (List.getElem?_eq_some_iff.mp h1).1
  by_cases hj : k = j
  · subst hj
    rw [if_pos rfl, if_pos hlen, hk]
    rcases (show c = 0 ∨ c = 1 by omega) with rfl | rfl <;> simp [gg_fv, gg_up]
  · rw [if_neg hj]
    cases cs[j]? with
    | none => rfl
    | some d =>
      simp only [Option.map_some, Nat.zero_add]
      congr 1
      have h2 : (gg_up x f i k v).1 f i j = x.1 f i j := by
        simp only [gg_up]
        rw [if_neg (fun q => hj q.2.2.symm)]
      unfold gg_fv
      rw [h2]
      rfl
theorem gg_ce_up_o {cT : Nat → ClassId} {ad : Nat → Nat → Nat} {x : gg_X} {f i k c ci : Nat} {v : Int32} {cs : List Nat} (hs : gg_sh f = .inl (ci, cs)) (hk : cs[k]? = some c) (hc : c ≤ 1) : gg_ce cT ad (gg_up x f i k v) f i = .inr (ci, ((gg_fs x f i 0 cs).map (gg_c ad)).set k (.int v)) := by
  unfold gg_ce
  rw [hs]
  show Sum.inr (ci, _) = _
  rw [← gg_fs_up hk hc, List.map_set]
  rfl
theorem gg_fs_pu {x : gg_X} {f i k : Nat} {o : Option Nat} {cs : List Nat} (hk : cs[k]? = some 2) (hu : ∀ j, cs[j]? = some 2 → j = k) : (gg_fs x f i 0 cs).set k (gg_o (gg_tg f) o) = gg_fs (gg_pu x f i o) f i 0 cs := by
  apply List.ext_getElem?
  intro j
  rw [List.getElem?_set, gg_fs_get, gg_fs_get]
  have hlen : k < (gg_fs x f i 0 cs).length := by
    have h1 := gg_fs_get x f i cs 0 k
    rw [hk] at h1
    exact (List.getElem?_eq_some_iff.mp h1).1
  by_cases hj : k = j
  · subst hj
    rw [if_pos rfl, if_pos hlen, hk]
    simp [gg_fv, gg_pu]
  · rw [if_neg hj]
    cases hd : cs[j]? with
    | none => rfl
    | some d =>
      simp only [Option.map_some, Nat.zero_add]
      congr 1
      rcases d with _ | _ | _ | d
      · rfl
      · rfl
      · exact absurd (hu j hd).symm hj
      · rfl
theorem gg_ce_pu_o {cT : Nat → ClassId} {ad : Nat → Nat → Nat} {x : gg_X} {f i k ci : Nat} {o : Option Nat} {cs : List Nat} (hs : gg_sh f = .inl (ci, cs)) (hk : cs[k]? = some 2) (hu : ∀ j, cs[j]? = some 2 → j = k) : gg_ce cT ad (gg_pu x f i o) f i = .inr (ci, ((gg_fs x f i 0 cs).map (gg_c ad)).set k (gg_c ad (gg_o (gg_tg f) o))) := by
  unfold gg_ce
  rw [hs]
  show Sum.inr (ci, _) = _
  rw [← gg_fs_pu hk hu, List.map_set]
theorem gg_ce_a {cT : Nat → ClassId} {ad : Nat → Nat → Nat} {x : gg_X} {f i ty n g : Nat} (hs : gg_sh f = .inr (ty, n, g)) (hf : ¬ f = 30) (hty : ty ≤ 1) : gg_ce cT ad x f i = .inl (cT ty, n, .inl (x.1 f i)) := by
  unfold gg_ce
  rw [hs]
  simp only [gg_ar, hf, if_false, hty, if_true]
theorem gg_ce_q {cT : Nat → ClassId} {ad : Nat → Nat → Nat} {x : gg_X} {f i ty n g : Nat} (hs : gg_sh f = .inr (ty, n, g)) (hf : ¬ f = 30) (hty : ¬ ty ≤ 1) : gg_ce cT ad x f i = .inl (cT ty, n, .inr (.inr (.inr (.inr (fun k => some (ad g k)))))) := by
  unfold gg_ce
  rw [hs]
  simp only [gg_ar, hf, if_false, hty]
theorem gg_ce_l {cT : Nat → ClassId} {ad : Nat → Nat → Nat} {x : gg_X} {i : Nat} : gg_ce cT ad x 30 i = .inl (cT 5, 1, .inr (.inl x.2.2)) := rfl
theorem gg_ce_o {cT : Nat → ClassId} {ad : Nat → Nat → Nat} {x : gg_X} {f i ci : Nat} {cs : List Nat} (hs : gg_sh f = .inl (ci, cs)) : gg_ce cT ad x f i = .inr (ci, (gg_fs x f i 0 cs).map (gg_c ad)) := by
  unfold gg_ce
  rw [hs]
theorem gg_up_arr {x : gg_X} {f i k : Nat} {v : Int32} : (gg_up x f i k v).1 f i = upd (x.1 f i) k v := by
  funext j
  simp [gg_up, upd]
-- locals and stacks
def gg_clo (ad : Nat → Nat → Nat) (lo : List (Nat × gg_V)) : List (Nat × Value) := lo.map (fun q => (q.1, gg_c ad q.2))
def gg_cst (ad : Nat → Nat → Nat) (st : List gg_V) : List Value := st.map (gg_c ad)
def gg_lset (lo : List (Nat × gg_V)) (i : Nat) (v : gg_V) : List (Nat × gg_V) := (i, v) :: lo.filter (fun q => !(q.1 == i) && !(q.1 + 1 == i && gg_cat q.2 == 2))
theorem gg_lset_c (ad : Nat → Nat → Nat) (lo : List (Nat × gg_V)) (i : Nat) (v : gg_V) : (i, gg_c ad v) :: (gg_clo ad lo).filter (fun q => !(q.1 == i) && !(q.1 + 1 == i && q.2.category == 2)) = gg_clo ad (gg_lset lo i v) := by
  simp only [gg_clo, gg_lset, List.map_cons, List.filter_map, Function.comp_def, gg_cat_c]
def gg_lk : List (Nat × gg_V) → Nat → Option gg_V
  | [], _ => none
  | q :: t, i => if q.1 = i then some q.2 else gg_lk t i
theorem gg_lk_mem : ∀ {lo : List (Nat × gg_V)} {i : Nat} {v : gg_V}, gg_lk lo i = some v → (i, v) ∈ lo
  | [], _, _, h => by cases h
  | q :: t, i, v, h => by
    unfold gg_lk at h
    by_cases hq : q.1 = i
    · rw [if_pos hq] at h
      rw [← hq, ← Option.some.inj h]
      exact List.mem_cons_self
    · rw [if_neg hq] at h
      exact List.mem_cons_of_mem _ (gg_lk_mem h)
theorem gg_at {ls : Array Slot} {nL : Nat} {ad : Nat → Nat → Nat} {lo : List (Nat × gg_V)} {i : Nat} {v : gg_V} (hl : lv_has ls nL (gg_clo ad lo)) (h : gg_lk lo i = some v) : ls[i]? = some (.val (gg_c ad v)) := by
  exact hl.2.2 (i, gg_c ad v) (List.mem_map.mpr ⟨(i, v), gg_lk_mem h, rfl⟩)
theorem gg_at_k {ad : Nat → Nat → Nat} {lo : List (Nat × gg_V)} {i : Nat} {v : gg_V} (h : gg_lk lo i = some v) : ∃ k : Nat, (gg_clo ad lo)[k]? = some (i, gg_c ad v) := List.getElem?_of_mem (List.mem_map.mpr ⟨(i, v), gg_lk_mem h, rfl⟩)
def gg_args : Nat → List gg_V → List (Nat × gg_V)
  | _, [] => []
  | k, v :: t => (k, v) :: gg_args (if gg_cat v = 2 then k + 2 else k + 1) t
theorem gg_args_c (ad : Nat → Nat → Nat) : ∀ (k : Nat) (vs : List gg_V), lv_args k (vs.map (gg_c ad)) = gg_clo ad (gg_args k vs)
  | _, [] => rfl
  | k, v :: t => by
    simp only [List.map_cons, lv_args, gg_args, gg_clo, gg_cat_c]
    rw [gg_args_c ad _ t]
    rfl
