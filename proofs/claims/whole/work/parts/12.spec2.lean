-- the kind's larger methods, as functions of the state; first facts
def mr_cnt (x : gg_X) (k : Nat) : gg_X := gg_up x 7 0 k (x.1 7 0 k + 1)
def mr_fl (x : gg_X) : Nat := (if x.1 11 0 3 = 0 then 0 else 1) + (if x.1 11 1 3 = 0 then 0 else 1) + (if x.1 11 2 3 = 0 then 0 else 1)
theorem mr_find_lt {x : gg_X} {L i : Nat} (h : mr_find x L = some i) : i < 8 := by
  unfold mr_find at h
  split at h
  · cases h; omega
  · split at h
    · cases h; omega
    · cases h
theorem mr_cho_lt {x : gg_X} {s i : Nat} (hs : s + 1 < 8) (h : mr_cho x s = some i) : i < 8 := by
  unfold mr_cho at h
  repeat' split at h
  all_goals first | (cases h; omega) | cases h
theorem mr_free_lt {x : gg_X} {r : Nat} (h : mr_free x = some r) : r < 3 := by
  unfold mr_free at h
  repeat' split at h
  all_goals first | (cases h; omega) | cases h
theorem mr_free_0 {x : gg_X} {r : Nat} (h : mr_free x = some r) : x.1 11 r 3 = 0 := by
  unfold mr_free at h
  repeat' split at h
  all_goals first | (cases h; assumption) | cases h
theorem mr_free_fl {x : gg_X} {r : Nat} (h : mr_free x = some r) : mr_fl x ≤ 2 := by
  have h1 := mr_free_lt h
  have h2 := mr_free_0 h
  unfold mr_fl
  rcases (show r = 0 ∨ r = 1 ∨ r = 2 by omega) with rfl | rfl | rfl <;> rw [h2] <;> (repeat' split) <;> simp_all
theorem mr_app_o {x : gg_X} {q n f i k : Nat} {L : Int32} {o : Option Nat} (h1 : ¬ f = 15) (h2 : ¬ f = 4) : (mr_app x q n L o).1 f i k = x.1 f i k := by
  unfold mr_app
  split <;> simp [gg_up, gg_pu, h1, h2]
theorem mr_fetch_3 {x : gg_X} {L i r q n a : Nat} : (mr_fetch x L i r q n).1 11 a 3 = if a = r then 1 else x.1 11 a 3 := by
  unfold mr_fetch
  rw [mr_app_o (by decide) (by decide)]
  simp [mr_use, gg_up, gg_pu]
theorem mr_add_3 {x : gg_X} {r k a : Nat} {t w b : Int32} : (mr_add x r k t w b).1 11 a 3 = x.1 11 a 3 := by
  simp [mr_add, gg_up]
theorem mr_fl_add {x y : gg_X} {L i r q n k : Nat} {t w b : Int32} (hr : r < 3) (h0 : x.1 11 r 3 = 0) (hy : ∀ a, y.1 11 a 3 = x.1 11 a 3) : mr_fl (mr_add (mr_fetch y L i r q n) r k t w b) = mr_fl x + 1 := by
  unfold mr_fl
  simp only [mr_add_3, mr_fetch_3, hy]
  rcases (show r = 0 ∨ r = 1 ∨ r = 2 by omega) with rfl | rfl | rfl <;> simp [h0] <;> omega
theorem mr_cp_o {x : gg_X} {f i o g j a b c : Nat} (h : ¬ a = f) : ∀ k, (mr_cp x f i o g j k).1 a b c = x.1 a b c
  | 0 => rfl
  | k + 1 => by
    show (gg_up (mr_cp x f i o g j k) f i (o + k) ((mr_cp x f i o g j k).1 g j k)).1 a b c = _
    rw [gg_up_ne (fun z => h z.1)]
    exact mr_cp_o h k
theorem mr_cp_p {x : gg_X} {f i o g j : Nat} : ∀ k, (mr_cp x f i o g j k).2 = x.2
  | 0 => rfl
  | k + 1 => mr_cp_p k
theorem mr_appw_o {x : gg_X} {q n i f a k : Nat} {L : Int32} (h1 : ¬ f = 15) (h2 : ¬ f = 4) (h3 : ¬ f = 16) : (mr_appw x q n L i).1 f a k = x.1 f a k := by
  unfold mr_appw
  rw [mr_cp_o h3, mr_app_o h1 h2]
theorem mr_app_h {x : gg_X} {q n : Nat} {L : Int32} {o : Option Nat} : (mr_app x q n L o).1 4 0 1 = x.1 4 0 1 := by
  unfold mr_app
  split <;> simp [gg_up, gg_pu]
theorem mr_app_n {x : gg_X} {q n : Nat} {L : Int32} {o : Option Nat} : (mr_app x q n L o).1 4 0 2 = nI (n + 1) := by
  unfold mr_app
  split <;> simp [gg_up, gg_pu]
theorem mr_appw_h {x : gg_X} {q n i : Nat} {L : Int32} : (mr_appw x q n L i).1 4 0 1 = x.1 4 0 1 := by
  unfold mr_appw
  rw [mr_cp_o (by decide), mr_app_h]
theorem mr_appw_n {x : gg_X} {q n i : Nat} {L : Int32} : (mr_appw x q n L i).1 4 0 2 = nI (n + 1) := by
  unfold mr_appw
  rw [mr_cp_o (by decide), mr_app_n]
theorem mr_fetch_h {x : gg_X} {L i r q n : Nat} : (mr_fetch x L i r q n).1 4 0 1 = x.1 4 0 1 := by
  unfold mr_fetch
  rw [mr_app_h]
  rfl
theorem mr_fetch_n {x : gg_X} {L i r q n : Nat} : (mr_fetch x L i r q n).1 4 0 2 = nI (n + 1) := by
  unfold mr_fetch
  rw [mr_app_n]
theorem mr_fetch_4 {x : gg_X} {L i r q n : Nat} : (mr_fetch x L i r q n).1 11 r 4 = 0 := by
  unfold mr_fetch
  rw [mr_app_o (by decide) (by decide)]
  simp [mr_use, gg_up, gg_pu]
/-- fetchIfWanted -/
def mr_fiw (x : gg_X) (h n L : Nat) : gg_X :=
  if 64 ≤ L then x else match mr_find x L with
    | some _ => x
    | none => match mr_free x with
      | none => x
      | some r => match mr_cho x (L % 4 * 2) with
        | none => x
        | some i => if x.1 9 i 2 = 0 then mr_cnt (mr_fetch x L i r ((h + n) % 5) n) 5 else x
def mr_miss2 (y : gg_X) (h n L i r : Nat) (t w b : Int32) : gg_X :=
  if y.1 0 0 7 = 0 then mr_add (mr_fetch y L i r ((h + n) % 5) n) r 0 t w b else mr_fiw (mr_add (mr_fetch y L i r ((h + n) % 5) n) r 0 t w b) h (n + 1) (L + 1)
/-- misses: none where it stalls -/
def mr_miss (x : gg_X) (h n L : Nat) (t w b : Int32) : Option gg_X :=
  match mr_free x with
  | none => none
  | some r => match mr_cho x (L % 4 * 2) with
    | none => none
    | some i => if x.1 9 i 2 = 0 then some (mr_miss2 (mr_cnt x 3) h n L i r t w b) else if mr_cw x h n < 2 then some (mr_miss2 (mr_cnt (mr_appw (mr_cnt x 3) ((h + n) % 5) n (x.1 9 i 1) i) 6) h (n + 1) L i r t w b) else none
def mr_join (x : gg_X) (i r k : Nat) (t w b : Int32) : gg_X := mr_add (mr_use (mr_cnt x 2) i) r k t w b
/-- isTaken: none where it stalls (the value is written then, too) -/
def mr_take (x : gg_X) (h n t a : Nat) (b v : Int32) (sz : Nat → Nat) : Option gg_X :=
  match mr_find x (a / 4) with
  | none => mr_miss (gg_up x 5 0 t v) h n (a / 4) (nI t) (nI (a % 4)) b
  | some i => match x.2.1 9 i with
    | some r => if sz r < 3 then some (mr_join (gg_up x 5 0 t v) i r (sz r) (nI t) (nI (a % 4)) b) else none
    | none => some (mr_ans (mr_use (mr_cnt (gg_up x 5 0 t v) 1) i) i t (a % 4) b)
/-- issue -/
def mr_iss (x : gg_X) (h n t a : Nat) (b v : Int32) (sz : Nat → Nat) : Int32 × gg_X :=
  match mr_take x h n t a b v sz with
  | none => (-1, mr_cnt (gg_up x 5 0 t v) 4)
  | some y => (nI t, mr_cnt y 0)
theorem mr_ans_o {x : gg_X} {i t k f a j : Nat} {b : Int32} (h1 : ¬ f = 5) (h2 : ¬ f = 6) (h3 : ¬ f = 9) (h4 : ¬ f = 10) : (mr_ans x i t k b).1 f a j = x.1 f a j := by
  unfold mr_ans
  split <;> simp [gg_up, h1, h2, h3, h4]
theorem mr_ans_p {x : gg_X} {i t k : Nat} {b : Int32} : (mr_ans x i t k b).2 = x.2 := by
  unfold mr_ans
  split <;> rfl
/-- fill: the line's words, then the targets in turn -/
def mr_cf (x : gg_X) (i o : Nat) : Nat → gg_X
  | 0 => x
  | k + 1 => gg_up (mr_cf x i o k) 10 i k ((mr_cf x i o k).1 1 0 (o + k))
def mr_fa (x : gg_X) (i r : Nat) (T V : Nat → Nat) : Nat → gg_X
  | 0 => x
  | j + 1 => mr_ans (mr_fa x i r T V j) i (T j) (V j) (x.1 14 r j)
theorem mr_fa_o {x : gg_X} {i r f a j : Nat} {T V : Nat → Nat} (h1 : ¬ f = 5) (h2 : ¬ f = 6) (h3 : ¬ f = 9) (h4 : ¬ f = 10) : ∀ k, (mr_fa x i r T V k).1 f a j = x.1 f a j
  | 0 => rfl
  | k + 1 => by
    show (mr_ans (mr_fa x i r T V k) i (T k) (V k) (x.1 14 r k)).1 f a j = _
    rw [mr_ans_o h1 h2 h3 h4]
    exact mr_fa_o h1 h2 h3 h4 k
def mr_fill (x : gg_X) (i r L s : Nat) (T V : Nat → Nat) : gg_X := gg_up (gg_pu (mr_fa (mr_cf x i (L * 4) 4) i r T V s) 9 i none) 11 r 3 0
theorem mr_z7 {y : gg_X} {L i r q n k : Nat} {t w b : Int32} : (mr_add (mr_fetch y L i r q n) r k t w b).1 0 0 7 = y.1 0 0 7 := by
  show (mr_fetch y L i r q n).1 0 0 7 = _
  unfold mr_fetch
  rw [mr_app_o (by decide) (by decide)]
  rfl
theorem mr_cw_p {x y : gg_X} {h : Nat} (e : x.2.1 = y.2.1) : ∀ n, mr_cw x h n = mr_cw y h n
  | 0 => rfl
  | n + 1 => by
    unfold mr_cw
    rw [e, mr_cw_p e n]
theorem mr_cw_le {x : gg_X} {h : Nat} : ∀ n, mr_cw x h n ≤ n
  | 0 => Nat.le_refl _
  | n + 1 => by
    have h1 := mr_cw_le (x := x) (h := h) n
    unfold mr_cw
    split <;> omega
theorem mr_cf_o {x : gg_X} {i o a b c : Nat} (h : ¬ a = 10) : ∀ k, (mr_cf x i o k).1 a b c = x.1 a b c
  | 0 => rfl
  | k + 1 => by
    show (gg_up (mr_cf x i o k) 10 i k ((mr_cf x i o k).1 1 0 (o + k))).1 a b c = _
    rw [gg_up_ne (fun z => h z.1)]
    exact mr_cf_o h k
theorem mr_ans_q {x : gg_X} {i t k : Nat} {b : Int32} : (mr_ans x i t k b).2 = x.2 := mr_ans_p
theorem mr_fa_p {x : gg_X} {i r : Nat} {T V : Nat → Nat} : ∀ k, (mr_fa x i r T V k).2 = x.2
  | 0 => rfl
  | k + 1 => by
    show (mr_ans (mr_fa x i r T V k) i (T k) (V k) (x.1 14 r k)).2 = _
    rw [mr_ans_p]
    exact mr_fa_p k
theorem mr_cf_p {x : gg_X} {i o : Nat} : ∀ k, (mr_cf x i o k).2 = x.2
  | 0 => rfl
  | k + 1 => mr_cf_p k
theorem mr_miss2_T {y : gg_X} {h n L i r : Nat} {t w b : Int32} (h0 : y.1 0 0 7 = 0) : mr_miss2 y h n L i r t w b = mr_add (mr_fetch y L i r ((h + n) % 5) n) r 0 t w b := if_pos h0
theorem mr_miss2_F {y : gg_X} {h n L i r : Nat} {t w b : Int32} (h0 : ¬ y.1 0 0 7 = 0) : mr_miss2 y h n L i r t w b = mr_fiw (mr_add (mr_fetch y L i r ((h + n) % 5) n) r 0 t w b) h (n + 1) (L + 1) := if_neg h0
