-- the kind leaves the reference's cells alone, and the other way round
def gz (x x' : gg_X) : Prop := ∀ f, 17 ≤ f → x'.1 f = x.1 f
def hz (y y' : gg_X) : Prop := (∀ f, f ≤ 16 → y'.1 f = y.1 f) ∧ y'.2 = y.2 ∧ y'.1 17 0 0 = y.1 17 0 0
theorem gz.rf {x : gg_X} : gz x x := fun _ _ => rfl
theorem gz.tr {x y z : gg_X} (h1 : gz x y) (h2 : gz y z) : gz x z := fun f hf => (h2 f hf).trans (h1 f hf)
theorem hz.rf {x : gg_X} : hz x x := ⟨fun _ _ => rfl, rfl, rfl⟩
theorem hz.tr {x y z : gg_X} (h1 : hz x y) (h2 : hz y z) : hz x z := ⟨fun f hf => (h2.1 f hf).trans (h1.1 f hf), h2.2.1.trans h1.2.1, h2.2.2.trans h1.2.2⟩
theorem gz_up {x : gg_X} {f i k : Nat} {v : Int32} (h : f ≤ 16) : gz x (gg_up x f i k v) := fun g hg => gg_upF (by omega)
theorem gz_pu {x : gg_X} {f i : Nat} {o : Option Nat} : gz x (gg_pu x f i o) := fun _ _ => rfl
theorem hz_up {y : gg_X} {f i k : Nat} {v : Int32} (h : 17 ≤ f) (hk : f = 17 → ¬ k = 0) : hz y (gg_up y f i k v) := by
  refine ⟨fun g hg => gg_upF (by omega), rfl, ?_⟩
  rw [gg_up_at, if_neg (fun z => hk z.1.symm z.2.2.symm)]
theorem gz_cnt {x : gg_X} {k : Nat} : gz x (mr_cnt x k) := gz_up (by decide)
theorem gz_use {x : gg_X} {i : Nat} : gz x (mr_use x i) := (gz_up (by decide)).tr (gz_up (by decide))
theorem gz_ans {x : gg_X} {i t w : Nat} {b : Int32} : gz x (mr_ans x i t w b) := by
  unfold mr_ans
  split
  · exact (gz_up (by decide)).tr (gz_up (by decide))
  · exact ((gz_up (by decide)).tr (gz_up (by decide))).tr (gz_up (by decide))
theorem gz_cp {x : gg_X} {f i o g j : Nat} (h : f ≤ 16) : ∀ k, gz x (mr_cp x f i o g j k)
  | 0 => gz.rf
  | k + 1 => (gz_cp h k).tr (gz_up h)
theorem gz_cf {x : gg_X} {i o : Nat} : ∀ k, gz x (mr_cf x i o k)
  | 0 => gz.rf
  | k + 1 => (gz_cf k).tr (gz_up (by decide))
theorem gz_fa {x : gg_X} {i r : Nat} {T V : Nat → Nat} : ∀ k, gz x (mr_fa x i r T V k)
  | 0 => gz.rf
  | k + 1 => (gz_fa k).tr gz_ans
theorem gz_fill {x : gg_X} {i r L s : Nat} {T V : Nat → Nat} : gz x (mr_fill x i r L s T V) := (((gz_cf 4).tr (gz_fa s)).tr gz_pu).tr (gz_up (by decide))
theorem gz_drop {x : gg_X} {h n : Nat} : gz x (mr_drop x h n) := ((gz_up (by decide)).tr (gz_up (by decide))).tr (gz_up (by decide))
theorem gz_app {x : gg_X} {q n : Nat} {L : Int32} {o : Option Nat} : gz x (mr_app x q n L o) := fun f hf => mr_app_F (by omega) (by omega)
theorem gz_appw {x : gg_X} {q n i : Nat} {L : Int32} : gz x (mr_appw x q n L i) := gz_app.tr (gz_cp (by decide) 4)
theorem gz_fetch {x : gg_X} {L i r q n : Nat} : gz x (mr_fetch x L i r q n) := fun f hf => mr_fetch_F (by omega) (by omega) (by omega) (by omega) (by omega)
theorem gz_add {x : gg_X} {r k : Nat} {t w b : Int32} : gz x (mr_add x r k t w b) := (((gz_up (by decide)).tr (gz_up (by decide))).tr (gz_up (by decide))).tr (gz_up (by decide))
theorem gz_fiw {x : gg_X} {h n L : Nat} : gz x (mr_fiw x h n L) := by
  unfold mr_fiw
  repeat' split
  all_goals first | exact gz.rf | exact gz_fetch.tr gz_cnt
theorem gz_miss2 {x : gg_X} {h n L i r : Nat} {t w b : Int32} : gz x (mr_miss2 x h n L i r t w b) := by
  unfold mr_miss2
  split
  · exact gz_fetch.tr gz_add
  · exact (gz_fetch.tr gz_add).tr gz_fiw
theorem gz_miss {x z : gg_X} {h n L : Nat} {t w b : Int32} (e : mr_miss x h n L t w b = some z) : gz x z := by
  unfold mr_miss at e
  cases h1 : mr_free x with
  | none =>
    rw [h1] at e
    cases e
  | some r =>
    rw [h1] at e
    cases h2 : mr_cho x (L % 4 * 2) with
    | none =>
      simp only [h2] at e
      cases e
    | some i =>
      simp only [h2] at e
      by_cases h3 : x.1 9 i 2 = 0
      · rw [if_pos h3] at e
        rw [← Option.some.inj e]
        exact gz_cnt.tr gz_miss2
      · rw [if_neg h3] at e
        by_cases h4 : mr_cw x h n < 2
        · rw [if_pos h4] at e
          rw [← Option.some.inj e]
          exact ((gz_cnt.tr gz_appw).tr gz_cnt).tr gz_miss2
        · rw [if_neg h4] at e
          cases e
theorem gz_take {x z : gg_X} {h n t a : Nat} {b v : Int32} {sz : Nat → Nat} (e : mr_take x h n t a b v sz = some z) : gz x z := by
  unfold mr_take at e
  cases h1 : mr_find x (a / 4) with
  | none =>
    rw [h1] at e
    exact (gz_up (by decide)).tr (gz_miss e)
  | some i =>
    rw [h1] at e
    cases h2 : x.2.1 9 i with
    | none =>
      simp only [h2] at e
      rw [← Option.some.inj e]
      exact (((gz_up (by decide)).tr gz_cnt).tr gz_use).tr gz_ans
    | some r =>
      simp only [h2] at e
      by_cases h3 : sz r < 3
      · rw [if_pos h3] at e
        rw [← Option.some.inj e]
        exact (((gz_up (by decide)).tr gz_cnt).tr gz_use).tr gz_add
      · rw [if_neg h3] at e
        cases e
theorem gz_fls {x : gg_X} {N : Nat → Nat} : ∀ k, gz x (mr_fls x N k)
  | 0 => gz.rf
  | k + 1 => by
    unfold mr_fls
    split
    · exact gz_fls k
    · exact ((gz_fls k).tr (gz_cp (by decide) 4)).tr (gz_up (by decide))
theorem hz_cnt {y : gg_X} {k : Nat} : hz y (md_cnt y k) := hz_up (by decide) (by omega)
theorem hz_use {y : gg_X} {w : Nat} : hz y (md_use y w) := (hz_up (by decide) (by omega)).tr (hz_up (by decide) (by omega))
theorem hz_rw {y : gg_X} {n w : Nat} : ∀ k, hz y (md_rw y n w k)
  | 0 => hz.rf
  | k + 1 => (hz_rw k).tr (hz_up (by decide) (by omega))
theorem hz_put {y : gg_X} {n w : Nat} {q : Int32} : hz y (md_put y n q w) := (((hz_up (by decide) (by omega)).tr (hz_rw 4)).tr (hz_up (by decide) (by omega))).tr (hz_up (by decide) (by omega))
theorem hz_fetch {y : gg_X} {n L w : Nat} : hz y (md_fetch y n L w) := (((hz_up (by decide) (by omega)).tr (hz_up (by decide) (by omega))).tr hz_use).tr hz_put
theorem hz_fah {y : gg_X} {n L : Nat} : hz y (md_fah y n L) := by
  unfold md_fah
  repeat' split
  all_goals first | exact hz.rf | exact hz_fetch.tr hz_cnt
theorem hz_act {y : gg_X} {t w a : Nat} : hz y (md_act y t w a) := by
  unfold md_act
  split
  · exact (hz_up (by decide) (by omega)).tr (hz_up (by decide) (by omega))
  · exact ((hz_up (by decide) (by omega)).tr (hz_up (by decide) (by omega))).tr (hz_up (by decide) (by omega))
theorem hz_note {y : gg_X} {T : Nat} {a b v : Int32} : hz y (md_note y T a b v) := ((((hz_up (by decide) (by omega)).tr (hz_up (by decide) (by omega))).tr (hz_up (by decide) (by omega))).tr (hz_up (by decide) (by omega))).tr (hz_up (by decide) (by omega))
theorem hz_iss {y : gg_X} {n T a : Nat} {b v : Int32} {A : Nat → Nat} : hz y (md_iss y n T a b v A).2 := by
  unfold md_iss
  cases h1 : md_way y (a / 4) with
  | some w =>
    simp only
    by_cases h2 : y.1 19 0 w = 3
    · rw [if_pos h2]
      by_cases h3 : md_tg y A (a / 4) T = 3
      · rw [if_pos h3]
        exact hz_cnt
      · rw [if_neg h3]
        exact (hz_use.tr hz_cnt).tr hz_note
    · rw [if_neg h2]
      exact ((hz_use.tr hz_cnt).tr hz_note).tr hz_act
  | none =>
    simp only
    by_cases h2 : md_aw y 8 = 3
    · rw [if_pos h2]
      exact hz_cnt
    · rw [if_neg h2]
      cases h3 : md_cho y (2 * (a / 4 % 4)) with
      | none => exact hz_cnt
      | some w =>
        simp only
        by_cases h4 : y.1 19 0 w = 2
        · rw [if_pos h4]
          by_cases h5 : md_wr y n = 2
          · rw [if_pos h5]
            exact hz_cnt
          · rw [if_neg h5]
            exact ((((hz_cnt.tr hz_put).tr hz_cnt).tr hz_note).tr hz_fetch).tr hz_fah
        · rw [if_neg h4]
          exact ((hz_cnt.tr hz_note).tr hz_fetch).tr hz_fah
theorem hz_cm {y : gg_X} {L : Nat} : ∀ k, hz y (md_cm y L k)
  | 0 => hz.rf
  | k + 1 => (hz_cm k).tr (hz_up (by decide) (by omega))
theorem hz_mw {y : gg_X} {w L : Nat} : ∀ k, hz y (md_mw y w L k)
  | 0 => hz.rf
  | k + 1 => (hz_mw k).tr (hz_up (by decide) (by omega))
theorem hz_wm {y : gg_X} {L w : Nat} : ∀ k, hz y (md_wm y L w k)
  | 0 => hz.rf
  | k + 1 => (hz_wm k).tr (hz_up (by decide) (by omega))
theorem hz_sh {y : gg_X} : ∀ k, hz y (md_sh y k)
  | 0 => hz.rf
  | k + 1 => (hz_sh k).tr (hz_up (by decide) (by omega))
theorem hz_sw {y : gg_X} : ∀ k, hz y (md_sw y k)
  | 0 => hz.rf
  | k + 1 => (hz_sw k).tr (hz_up (by decide) (by omega))
theorem hz_fa {y : gg_X} {w L : Nat} {A : Nat → Nat} : ∀ k, hz y (md_fa y w L A k)
  | 0 => hz.rf
  | k + 1 => by
    unfold md_fa
    split
    · exact (hz_fa k).tr hz_act
    · exact hz_fa k
theorem hz_tail {y : gg_X} {n : Nat} : hz y (md_tail y n) := (((hz_up (by decide) (by omega)).tr (hz_sh _)).tr (hz_sw _)).tr (hz_up (by decide) (by omega))
theorem hz_finW {y : gg_X} {n L : Nat} : hz y (md_finW y n L) := (hz_cm 4).tr hz_tail
theorem hz_finR {y : gg_X} {n L w T : Nat} {A : Nat → Nat} : hz y (md_finR y n L w T A) := (((hz_mw 4).tr (hz_up (by decide) (by omega))).tr (hz_fa T)).tr hz_tail
theorem hz_fls {y : gg_X} {N : Nat → Nat} : ∀ k, hz y (md_fls y N k)
  | 0 => hz.rf
  | k + 1 => by
    unfold md_fls
    split
    · exact ((hz_fls k).tr (hz_wm 4)).tr (hz_up (by decide) (by omega))
    · exact hz_fls k
