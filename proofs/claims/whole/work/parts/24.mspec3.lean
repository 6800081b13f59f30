-- the reference: finish, flush
theorem gg_sub {p : Program} {l : Launch} {e : Env} {R : Room} {s : State} {m : MethodId} {args : Array Value} {below : List Frame} {meth : Method} {c : Code} {Q : State → Prop} {nL : Nat} {D : va_G} {cT : Nat → ClassId} {ad : Nat → Nat → Nat} {w : Bool} {ce sl : Nat} {x : gg_X} {pc : Nat} {lo lo' : List (Nat × gg_V)} {st : List gg_V} (ks : List Nat) (hl : ks.filterMap (fun k => lo[k]?) = lo') (k : gg_G p l e R s m args below meth c nL D cT ad Q w ce sl x pc lo' st) : gg_G p l e R s m args below meth c nL D cT ad Q w ce sl x pc lo st := by
  intro H locs ls hP hS hlv
  refine k H locs ls hP hS ⟨hlv.1, hlv.2.1, fun q hq => ?_⟩
  subst hl
  obtain ⟨z, hz, rfl⟩ := List.mem_map.mp hq
  obtain ⟨i, -, hi⟩ := List.mem_filterMap.mp hz
  exact hlv.2.2 _ (List.mem_map.mpr ⟨z, List.mem_of_getElem? hi, rfl⟩)
def md_cm (x : gg_X) (L : Nat) : Nat → gg_X
  | 0 => x
  | k + 1 => gg_up (md_cm x L k) 18 0 (4 * L + k) ((md_cm x L k).1 28 0 k)
def md_mw (x : gg_X) (w L : Nat) : Nat → gg_X
  | 0 => x
  | k + 1 => gg_up (md_mw x w L k) 22 0 (4 * w + k) ((md_mw x w L k).1 18 0 (4 * L + k))
def md_fa (x : gg_X) (w L : Nat) (A : Nat → Nat) : Nat → gg_X
  | 0 => x
  | t + 1 => if x.1 26 0 t = 0 ∧ A t / 4 = L then md_act (md_fa x w L A t) t w (A t) else md_fa x w L A t
def md_sh (x : gg_X) : Nat → gg_X
  | 0 => x
  | k + 1 => gg_up (md_sh x k) 27 0 k ((md_sh x k).1 27 0 (k + 1))
def md_sw (x : gg_X) : Nat → gg_X
  | 0 => x
  | k + 1 => gg_up (md_sw x k) 28 0 k ((md_sw x k).1 28 0 (k + 4))
def md_tail (x : gg_X) (n : Nat) : gg_X := gg_up (md_sw (md_sh (gg_up x 17 0 12 (nI (n - 1))) (n - 1)) (4 * (n - 1))) 17 0 15 (if n = 1 then 0 else x.1 17 0 16)
def md_finW (x : gg_X) (n L : Nat) : gg_X := md_tail (md_cm x L 4) n
def md_finR (x : gg_X) (n L w T : Nat) (A : Nat → Nat) : gg_X := md_tail (md_fa (gg_up (md_mw x w L 4) 19 0 w 1) w L A T) n
theorem md_cm_o {x : gg_X} {L a b c : Nat} (h : ¬ a = 18) : ∀ k, (md_cm x L k).1 a b c = x.1 a b c
  | 0 => rfl
  | k + 1 => by
    show (gg_up (md_cm x L k) 18 0 (4 * L + k) ((md_cm x L k).1 28 0 k)).1 a b c = _
    rw [gg_up_ne (fun z => h z.1)]
    exact md_cm_o h k
theorem md_mw_o {x : gg_X} {w L a b c : Nat} (h : ¬ a = 22) : ∀ k, (md_mw x w L k).1 a b c = x.1 a b c
  | 0 => rfl
  | k + 1 => by
    show (gg_up (md_mw x w L k) 22 0 (4 * w + k) ((md_mw x w L k).1 18 0 (4 * L + k))).1 a b c = _
    rw [gg_up_ne (fun z => h z.1)]
    exact md_mw_o h k
theorem md_act_o {x : gg_X} {t w a f i j : Nat} (h1 : ¬ f = 25) (h2 : ¬ f = 22) (h3 : ¬ f = 19) (h4 : f = 26 → ¬ j = t) : (md_act x t w a).1 f i j = x.1 f i j := by
  unfold md_act
  by_cases h : f = 26
  · subst h
    split <;> simp [gg_up, h4 rfl]
  · split <;> simp [gg_up, h1, h2, h3, h]
theorem md_fa_o {x : gg_X} {w L f i j : Nat} {A : Nat → Nat} (h1 : ¬ f = 25) (h2 : ¬ f = 22) (h3 : ¬ f = 19) : ∀ k, (f = 26 → k ≤ j) → (md_fa x w L A k).1 f i j = x.1 f i j
  | 0, _ => rfl
  | k + 1, h4 => by
    have ih := md_fa_o (x := x) (w := w) (L := L) (A := A) (i := i) (j := j) h1 h2 h3 k (fun z => by have := h4 z; omega)
    unfold md_fa
    split
    · rw [md_act_o h1 h2 h3 (fun z => by have := h4 z; omega)]
      exact ih
    · exact ih
theorem md_sh_o {x : gg_X} {a b c : Nat} (h : ¬ a = 27) : ∀ k, (md_sh x k).1 a b c = x.1 a b c
  | 0 => rfl
  | k + 1 => by
    show (gg_up (md_sh x k) 27 0 k ((md_sh x k).1 27 0 (k + 1))).1 a b c = _
    rw [gg_up_ne (fun z => h z.1)]
    exact md_sh_o h k
theorem md_sw_o {x : gg_X} {a b c : Nat} (h : ¬ a = 28) : ∀ k, (md_sw x k).1 a b c = x.1 a b c
  | 0 => rfl
  | k + 1 => by
    show (gg_up (md_sw x k) 28 0 k ((md_sw x k).1 28 0 (k + 4))).1 a b c = _
    rw [gg_up_ne (fun z => h z.1)]
    exact md_sw_o h k
/-- flush: a way's words into memory; the ways below k -/
def md_wm (x : gg_X) (L w : Nat) : Nat → gg_X
  | 0 => x
  | k + 1 => gg_up (md_wm x L w k) 18 0 (4 * L + k) ((md_wm x L w k).1 22 0 (4 * w + k))
def md_fls (x : gg_X) (N : Nat → Nat) : Nat → gg_X
  | 0 => x
  | k + 1 => if x.1 19 0 k = 2 then gg_up (md_wm (md_fls x N k) (N k) k 4) 19 0 k 1 else md_fls x N k
def md_flc (x : gg_X) : Nat → Nat
  | 0 => 0
  | k + 1 => if x.1 19 0 k = 2 then md_flc x k + 1 else md_flc x k
theorem md_wm_o {x : gg_X} {L w a b c : Nat} (h : ¬ a = 18) : ∀ k, (md_wm x L w k).1 a b c = x.1 a b c
  | 0 => rfl
  | k + 1 => by
    show (gg_up (md_wm x L w k) 18 0 (4 * L + k) ((md_wm x L w k).1 22 0 (4 * w + k))).1 a b c = _
    rw [gg_up_ne (fun z => h z.1)]
    exact md_wm_o h k
theorem md_fls_o {x : gg_X} {N : Nat → Nat} {f i j : Nat} (h1 : ¬ f = 18) : ∀ k, (f = 19 → k ≤ j) → (md_fls x N k).1 f i j = x.1 f i j
  | 0, _ => rfl
  | k + 1, h2 => by
    have ih := md_fls_o (x := x) (N := N) (i := i) (j := j) h1 k (fun z => by have := h2 z; omega)
    unfold md_fls
    split
    · have e : ∀ y : gg_X, (gg_up y 19 0 k 1).1 f i j = y.1 f i j := fun y => by
        simp only [gg_up]
        rw [if_neg (fun z => by have := h2 z.1; omega)]
      rw [e, md_wm_o h1]
      exact ih
    · exact ih
theorem md_tg_f {x y : gg_X} {A : Nat → Nat} {L : Nat} (e : ∀ t, x.1 26 0 t = y.1 26 0 t) : ∀ k, md_tg x A L k = md_tg y A L k
  | 0 => rfl
  | k + 1 => by
    unfold md_tg
    rw [e, md_tg_f e k]
