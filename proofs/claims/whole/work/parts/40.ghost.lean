set_option maxRecDepth 100000 in
theorem gg_obj : Cond.instanceMethod Lib.objectInit ∈ gg_gt ∧ Cond.code Lib.objectInit ⟨#[0xb1]⟩ 1 none ∈ gg_gt := ⟨gg_mem 52 (by decide +kernel) (by decide +kernel), gg_mem 53 (by decide +kernel) (by decide +kernel)⟩
-- a world that grows: cells by handles, with what they hold
abbrev gk : Type := (Nat × List gg_V) ⊕ (Nat × Nat × ((Nat → Int32) ⊕ List (Option (Nat × Nat)) ⊕ (Nat → Int64)))
def gk_q (ad : Nat → Nat → Nat) (r : List (Option (Nat × Nat))) : Nat → Option Nat := fun k => (r.getD k none).map (fun h => ad h.1 h.2)
def gk_c (cT : Nat → ClassId) (ad : Nat → Nat → Nat) (e : gk) : va_E := match e with
  | .inl q => .inr (q.1, q.2.map (gg_c ad))
  | .inr (ty, n, .inl f) => .inl (cT ty, n, .inl f)
  | .inr (ty, n, .inr (.inl r)) => .inl (cT ty, n, .inr (.inr (.inr (.inr (gk_q ad r)))))
  | .inr (ty, n, .inr (.inr f)) => .inl (cT ty, n, .inr (.inl f))
def gh_w (cT : Nat → ClassId) (ad : Nat → Nat → Nat) (w : List ((Nat × Nat) × gk)) : va_W := w.map (fun q => (ad q.1.1 q.1.2, gk_c cT ad q.2))
def gh_ne (k h : Nat × Nat) : Bool := !(k.1 == h.1) || !(k.2 == h.2)
def gh_nl (N : List (Nat × Nat)) (k : Nat × Nat) : Bool := N.all (fun h => gh_ne k h)
/-- the same addresses but at N -/
def gh_ag (N : List (Nat × Nat)) (ad0 ad : Nat → Nat → Nat) : Prop := ∀ k : Nat × Nat, gh_nl N k = true → ad k.1 k.2 = ad0 k.1 k.2
theorem gh_ag.rf {ad : Nat → Nat → Nat} : gh_ag [] ad ad := fun _ _ => rfl
theorem gh_ag.trans {N M : List (Nat × Nat)} {ad0 ad ad1 : Nat → Nat → Nat} (h : gh_ag N ad0 ad) (h1 : gh_ag M ad ad1) : gh_ag (N ++ M) ad0 ad1 := by
  intro k hk
  unfold gh_nl at hk
  rw [List.all_append, Bool.and_eq_true] at hk
  rw [h1 k hk.2, h k hk.1]
def gh_ad (ad : Nat → Nat → Nat) (h : Nat × Nat) (a : Nat) : Nat → Nat → Nat := fun f i => if f = h.1 ∧ i = h.2 then a else ad f i
theorem gh_ad_at {ad : Nat → Nat → Nat} {h : Nat × Nat} {a : Nat} : gh_ad ad h a h.1 h.2 = a := by simp [gh_ad]
theorem gh_ad_ag {ad : Nat → Nat → Nat} {h : Nat × Nat} {a : Nat} : gh_ag [h] ad (gh_ad ad h a) := by
  intro k hk
  simp only [gh_nl, List.all_cons, List.all_nil, Bool.and_true] at hk
  unfold gh_ad
  rw [if_neg]
  rintro ⟨h1, h2⟩
  simp [gh_ne, h1, h2] at hk
def gv_no (M : List (Nat × Nat)) (v : gg_V) : Bool := match v with
  | .inl _ => true
  | .inr (.inl none) => true
  | .inr (.inl (some k)) => gh_nl M k
  | .inr (.inr _) => true
theorem gv_no_c {ad ad1 : Nat → Nat → Nat} {M : List (Nat × Nat)} (ha : gh_ag M ad ad1) {v : gg_V} (hn : gv_no M v = true) : gg_c ad1 v = gg_c ad v := by
  rcases v with b | (_ | k) | b
  · rfl
  · rfl
  · show Value.ref _ = Value.ref _
    rw [ha k hn]
  · rfl
abbrev gl_no (M : List (Nat × Nat)) (vs : List gg_V) : Bool := vs.all (gv_no M)
def gk_no (M : List (Nat × Nat)) (e : gk) : Bool := match e with
  | .inl q => q.2.all (gv_no M)
  | .inr (_, _, .inl _) => true
  | .inr (_, _, .inr (.inl r)) => r.all (fun o => match o with | none => true | some k => gh_nl M k)
  | .inr (_, _, .inr (.inr _)) => true
theorem gl_no_c {ad ad1 : Nat → Nat → Nat} {M : List (Nat × Nat)} (ha : gh_ag M ad ad1) {vs : List gg_V} (hn : vs.all (gv_no M) = true) : vs.map (gg_c ad1) = vs.map (gg_c ad) := by
  apply List.map_congr_left
  intro v hv
  exact gv_no_c ha (List.all_eq_true.mp hn v hv)
theorem gk_no_c {cT : Nat → ClassId} {ad ad1 : Nat → Nat → Nat} {M : List (Nat × Nat)} (ha : gh_ag M ad ad1) {e : gk} (hn : gk_no M e = true) : gk_c cT ad1 e = gk_c cT ad e := by
  rcases e with q | ⟨ty, n, f | r | f⟩
  · show Sum.inr (q.1, _) = Sum.inr (q.1, _)
    rw [gl_no_c ha hn]
  · rfl
  · show Sum.inl (cT ty, n, _) = Sum.inl (cT ty, n, _)
    have h0 : gk_q ad1 r = gk_q ad r := by
      funext k
      unfold gk_q
      cases hk : r.getD k none with
      | none => rfl
      | some z =>
        have hm : some z ∈ r := by
          rw [List.getD_eq_getElem?_getD] at hk
          cases hr : r[k]? with
          | none => rw [hr] at hk; cases hk
          | some y =>
            rw [hr] at hk
            have : y = some z := hk
            rw [← this]
            exact List.mem_of_getElem? hr
        have h1 := List.all_eq_true.mp hn _ hm
        simp only [Option.map_some]
        rw [ha z h1]
    rw [h0]
  · rfl
def gw_no (M : List (Nat × Nat)) (w : List ((Nat × Nat) × gk)) : Bool := w.all (fun q => gh_nl M q.1 && gk_no M q.2)
theorem gw_no_c {cT : Nat → ClassId} {ad ad1 : Nat → Nat → Nat} {M : List (Nat × Nat)} (ha : gh_ag M ad ad1) {w : List ((Nat × Nat) × gk)} (hn : gw_no M w = true) : gh_w cT ad1 w = gh_w cT ad w := by
  apply List.map_congr_left
  intro q hq
  have h1 := List.all_eq_true.mp hn q hq
  simp only [Bool.and_eq_true] at h1
  rw [ha _ h1.1, gk_no_c ha h1.2]
def go_no (M : List (Nat × Nat)) (lo : List (Nat × gg_V)) : Bool := lo.all (fun q => gv_no M q.2)
theorem go_no_c {ad ad1 : Nat → Nat → Nat} {M : List (Nat × Nat)} (ha : gh_ag M ad ad1) {lo : List (Nat × gg_V)} (hn : go_no M lo = true) : gg_clo ad1 lo = gg_clo ad lo := by
  apply List.map_congr_left
  intro q hq
  rw [gv_no_c ha (List.all_eq_true.mp hn q hq)]
def gh_nm : List (String × Nat × MethodName × String) := [(RX0, 30, yX2_init, "MissRegisters"), (RX4, 50, yX3_init, "MissRegisters"), (RX4, 51, yX1_init, "MissRegisters")]
def gh_Sd (U : State) : Prop := va_AO "MissRegisters$Way" U ∧ va_AO "MissRegisters$Register" U ∧ va_AO "MissRegisters$Request" U ∧ ∀ q ∈ gh_nm, va_Nw (.methodLinkNest q.1 q.2.1 q.2.2.1 q.2.2.2) U
theorem gh_Sd.go {s U : State} (h : gh_Sd s) (hW : s.WarmedH U.vm) : gh_Sd U := ⟨va_AO.moved hW.alike h.1, va_AO.moved hW.alike h.2.1, va_AO.moved hW.alike h.2.2.1, fun q hq => va_Nw.warmM hW (h.2.2.2 q hq)⟩
theorem gh_Sd.same {u U : State} (hv : U.vm = u.vm) (h : gh_Sd u) : gh_Sd U := by
  have ha : u.vm.Alike U.vm := by rw [hv]; exact Vm.Alike.refl _
  exact ⟨va_AO.moved ha h.1, va_AO.moved ha h.2.1, va_AO.moved ha h.2.2.1, fun q hq => va_Nw.same rfl hv.symm (h.2.2.2 q hq)⟩
def gh_Ok (p : Program) (s : State) (m : MethodId) (args : Array Value) (meth : Method) (c : Code) (cc : ByteArray) (nL : Nat) (own : String) (D : va_G) (cT : Nat → ClassId) (A : Nat → Prop) : Prop :=
  p.tables.exec = Jvm.exec ∧ c.code = cc ∧ c.maxLocals = nL ∧ s.vm.findClass own = some m.cls ∧ (∀ w ∈ gg_gt, w.before args s = true) ∧ va_K D gg_cl (gg_ty cT) s ∧ (∀ q, s.heap.size ≤ q → A q) ∧ meth.locks = false ∧ gh_Sd s
def gh_G (p : Program) (l : Launch) (e : Env) (R : Room) (s : State) (m : MethodId) (args : Array Value) (below : List Frame) (meth : Method) (c : Code) (nL : Nat) (D : va_G) (cT : Nat → ClassId) (ad0 : Nat → Nat → Nat) (A : Nat → Prop) (Q : State → Prop) (ce sl : Nat) (N : List (Nat × Nat)) (w : List ((Nat × Nat) × gk)) (pc : Nat) (lo : List (Nat × gg_V)) (st : List gg_V) : Prop :=
  ∀ (ad : Nat → Nat → Nat), gh_ag N ad0 ad → ∀ (H : Heap) (locs : List Loc) (ls : Array Slot), va_P D gg_cl (gh_w cT ad w) H → va_D A (gh_w cT ad w) → va_S A s.heap H locs → lv_has ls nL (gg_clo ad lo) → W p l e R s m args below meth c H locs ce sl Q (F0 m pc ls (gg_cst ad st))
section GHR
variable {p : Program} {l : Launch} {e : Env} {R : Room} {s : State} {m : MethodId} {args : Array Value} {below : List Frame} {meth : Method} {c : Code} {Q : State → Prop} {cc : ByteArray} {nL : Nat} {own : String} {D : va_G} {cT : Nat → ClassId} {ad0 ad : Nat → Nat → Nat} {A : Nat → Prop} {N : List (Nat × Nat)} {ce sl : Nat} {w w' : List ((Nat × Nat) × gk)} {pc : Nat} {lo lo' : List (Nat × gg_V)} {st : List gg_V}
theorem gh_iconst (ok : gh_Ok p s m args meth c cc nL own D cT A) {n : Int} {v : Int32}  (hd : decode cc pc = .ok (.iconst n, 1)) (hv : Int32.ofInt n = v) (k : gh_G p l e R s m args below meth c nL D cT ad0 A Q ce sl N w (pc + 1) lo (gg_i v :: st)) : gh_G p l e R s m args below meth c nL D cT ad0 A Q ce sl N w pc lo st := fun ad hag H locs ls hP hD hS hl => lv_iconst ok.1 ok.2.1 hd hv (k ad hag H locs ls hP hD hS hl)
theorem gh_bipush (ok : gh_Ok p s m args meth c cc nL own D cT A) {n : Int} {v : Int32}  (hd : decode cc pc = .ok (.bipush n, 2)) (hv : (Int8.ofInt n).toInt32 = v) (k : gh_G p l e R s m args below meth c nL D cT ad0 A Q ce sl N w (pc + 2) lo (gg_i v :: st)) : gh_G p l e R s m args below meth c nL D cT ad0 A Q ce sl N w pc lo st := fun ad hag H locs ls hP hD hS hl => lv_bipush ok.1 ok.2.1 hd hv (k ad hag H locs ls hP hD hS hl)
theorem gh_sipush (ok : gh_Ok p s m args meth c cc nL own D cT A) {n : Int} {v : Int32}  (hd : decode cc pc = .ok (.sipush n, 3)) (hv : (Int16.ofInt n).toInt32 = v) (k : gh_G p l e R s m args below meth c nL D cT ad0 A Q ce sl N w (pc + 3) lo (gg_i v :: st)) : gh_G p l e R s m args below meth c nL D cT ad0 A Q ce sl N w pc lo st := fun ad hag H locs ls hP hD hS hl => lv_sipush ok.1 ok.2.1 hd hv (k ad hag H locs ls hP hD hS hl)
theorem gh_iload_n (ok : gh_Ok p s m args meth c cc nL own D cT A) {q : Fin 4} {i : Nat} {a : Int32}  (hd : decode cc pc = .ok (.iload_n q, 1)) (hi : (q : Nat) = i) (h0 : gg_lk lo i = some (gg_i a)) (k : gh_G p l e R s m args below meth c nL D cT ad0 A Q ce sl N w (pc + 1) lo (gg_i a :: st)) : gh_G p l e R s m args below meth c nL D cT ad0 A Q ce sl N w pc lo st := fun ad hag H locs ls hP hD hS hl => lv_iload_n ok.1 ok.2.1 hd hi (gg_at hl h0) (k ad hag H locs ls hP hD hS hl)
theorem gh_aload_n (ok : gh_Ok p s m args meth c cc nL own D cT A) {q : Fin 4} {i f j : Nat}  (hd : decode cc pc = .ok (.aload_n q, 1)) (hi : (q : Nat) = i) (h0 : gg_lk lo i = some (gg_r f j)) (k : gh_G p l e R s m args below meth c nL D cT ad0 A Q ce sl N w (pc + 1) lo (gg_r f j :: st)) : gh_G p l e R s m args below meth c nL D cT ad0 A Q ce sl N w pc lo st := fun ad hag H locs ls hP hD hS hl => lv_aload_n ok.1 ok.2.1 hd hi (gg_at hl h0) (k ad hag H locs ls hP hD hS hl)
theorem gh_istore_n (ok : gh_Ok p s m args meth c cc nL own D cT A) {q : Fin 4} {i : Nat} {a : Int32}  (hd : decode cc pc = .ok (.istore_n q, 1)) (hi : (q : Nat) = i) (hn : i < nL) (h0 : gg_lset lo i (gg_i a) = lo') (k : gh_G p l e R s m args below meth c nL D cT ad0 A Q ce sl N w (pc + 1) lo' st) : gh_G p l e R s m args below meth c nL D cT ad0 A Q ce sl N w pc lo (gg_i a :: st) := by
  subst h0
  exact fun ad hag H locs ls hP hD hS hl => lv_istore_n ok.1 ok.2.1 hd hi hl hn (gg_lset_c ad lo i (gg_i a)) (fun ls' hl' => k ad hag H locs ls' hP hD hS hl')
theorem gh_istore (ok : gh_Ok p s m args meth c cc nL own D cT A) {i : Nat} {a : Int32}  (hd : decode cc pc = .ok (.istore i, 2)) (hn : i < nL) (h0 : gg_lset lo i (gg_i a) = lo') (k : gh_G p l e R s m args below meth c nL D cT ad0 A Q ce sl N w (pc + 2) lo' st) : gh_G p l e R s m args below meth c nL D cT ad0 A Q ce sl N w pc lo (gg_i a :: st) := by
  subst h0
  exact fun ad hag H locs ls hP hD hS hl => lv_istore ok.1 ok.2.1 hd  hl hn (gg_lset_c ad lo i (gg_i a)) (fun ls' hl' => k ad hag H locs ls' hP hD hS hl')
theorem gh_astore_n (ok : gh_Ok p s m args meth c cc nL own D cT A) {q : Fin 4} {i f j : Nat}  (hd : decode cc pc = .ok (.astore_n q, 1)) (hi : (q : Nat) = i) (hn : i < nL) (h0 : gg_lset lo i (gg_r f j) = lo') (k : gh_G p l e R s m args below meth c nL D cT ad0 A Q ce sl N w (pc + 1) lo' st) : gh_G p l e R s m args below meth c nL D cT ad0 A Q ce sl N w pc lo (gg_r f j :: st) := by
  subst h0
  exact fun ad hag H locs ls hP hD hS hl => lv_astore_n ok.1 ok.2.1 hd hi hl hn (gg_lset_c ad lo i (gg_r f j)) (fun ls' hl' => k ad hag H locs ls' hP hD hS hl')
theorem gh_iinc (ok : gh_Ok p s m args meth c cc nL own D cT A) {i : Nat} {n : Int} {a v : Int32}  (hd : decode cc pc = .ok (.iinc i n, 3)) (h0 : gg_lk lo i = some (gg_i a)) (hv : a + Int32.ofInt n = v) (hn : i < nL) (h1 : gg_lset lo i (gg_i v) = lo') (k : gh_G p l e R s m args below meth c nL D cT ad0 A Q ce sl N w (pc + 3) lo' st) : gh_G p l e R s m args below meth c nL D cT ad0 A Q ce sl N w pc lo st := by
  subst h1
  intro ad hag H locs ls hP hD hS hl
  obtain ⟨q, hq⟩ := gg_at_k (ad := ad) h0
  exact lv_iinc ok.1 ok.2.1 hd hl hq hv hn (gg_lset_c ad lo i (gg_i v)) (fun ls' hl' => k ad hag H locs ls' hP hD hS hl')
theorem gh_dup (ok : gh_Ok p s m args meth c cc nL own D cT A) {a : gg_V}  (hd : decode cc pc = .ok (.dup, 1)) (ha : gg_cat a = 1) (k : gh_G p l e R s m args below meth c nL D cT ad0 A Q ce sl N w (pc + 1) lo (a :: a :: st)) : gh_G p l e R s m args below meth c nL D cT ad0 A Q ce sl N w pc lo (a :: st) := fun ad hag H locs ls hP hD hS hl => lv_dup ok.1 ok.2.1 hd (by rw [gg_cat_c]; exact ha) (k ad hag H locs ls hP hD hS hl)
theorem gh_null (ok : gh_Ok p s m args meth c cc nL own D cT A) (hd : decode cc pc = .ok (.aconst_null, 1))  (k : gh_G p l e R s m args below meth c nL D cT ad0 A Q ce sl N w (pc + 1) lo (gg_n :: st)) : gh_G p l e R s m args below meth c nL D cT ad0 A Q ce sl N w pc lo st := fun ad hag H locs ls hP hD hS hl => lv_null ok.1 ok.2.1 hd  (k ad hag H locs ls hP hD hS hl)
theorem gh_icmp_ge (ok : gh_Ok p s m args meth c cc nL own D cT A) {a b : Int32} {off : Int} {tgt : Nat} (hd : decode cc pc = .ok (.if_icmp .ge off, 3)) (ht : (pc : Int) + off = (tgt : Int)) (kk : (b ≤ a → gh_G p l e R s m args below meth c nL D cT ad0 A Q ce sl N w tgt lo st) ∧ (¬ b ≤ a → gh_G p l e R s m args below meth c nL D cT ad0 A Q ce sl N w (pc + 3) lo st)) : gh_G p l e R s m args below meth c nL D cT ad0 A Q ce sl N w pc lo (gg_i b :: gg_i a :: st) := fun ad hag H locs ls hP hD hS hl => lv_icmp_ge ok.1 ok.2.1 hd ht (fun z => kk.1 z ad hag H locs ls hP hD hS hl) (fun z => kk.2 z ad hag H locs ls hP hD hS hl)
theorem gh_goto (ok : gh_Ok p s m args meth c cc nL own D cT A) {off : Int} {tgt : Nat} (hd : decode cc pc = .ok (.goto off, 3)) (ht : (pc : Int) + off = (tgt : Int)) (k : gh_G p l e R s m args below meth c nL D cT ad0 A Q ce sl N w tgt lo st) : gh_G p l e R s m args below meth c nL D cT ad0 A Q ce sl N w pc lo st := fun ad hag H locs ls hP hD hS hl => lv_goto ok.1 ok.2.1 hd ht (k ad hag H locs ls hP hD hS hl)
theorem gh_at {k0 : Nat} {q : (Nat × Nat) × gk} (he : w[k0]? = some q) : (gh_w cT ad w)[k0]? = some (ad q.1.1 q.1.2, gk_c cT ad q.2) := by
  rw [gh_w, List.getElem?_map, he]
  rfl
theorem gh_set {k0 : Nat} {h : Nat × Nat} {e : gk} : (gh_w cT ad w).set k0 (ad h.1 h.2, gk_c cT ad e) = gh_w cT ad (w.set k0 (h, e)) := by
  unfold gh_w
  rw [List.map_set]
/-- Object.<init> -/
theorem gh_obj (ok : gh_Ok p s m args meth c cc nL own D cT A) {idx f i : Nat} (hd : decode cc pc = .ok (.invokespecial idx, 3)) (h1 : Cond.methodLink own idx Lib.objectInit ∈ gg_gt) (hfr : 1 ≤ R.frames) (hlo : 12 ≤ R.locals) (k : gh_G p l e R s m args below meth c nL D cT ad0 A Q ce sl N w (pc + 3) lo []) (h2 : Cond.instanceMethod Lib.objectInit ∈ gg_gt := gg_obj.1) (h3 : Cond.code Lib.objectInit ⟨#[0xb1]⟩ 1 none ∈ gg_gt := gg_obj.2) : gh_G p l e R s m args below meth c nL D cT ad0 A Q ce sl N w pc lo ([gg_r f i]) := by
  intro ad hag H locs ls hP hD hS hl
  refine W.objInit ok.1 ok.2.1 ok.2.2.2.1 (ok.2.2.2.2.1 _ h1) (ok.2.2.2.2.1 _ h2) (ok.2.2.2.2.1 _ h3) (g := F0 m pc ls (gg_cst ad [gg_r f i])) rfl (hl.1.trans ok.2.2.1.symm) rfl hd hfr (by exact hlo) ?_
  exact k ad hag H locs ls hP hD hS hl
def gh_nn (own : String) (index : Nat) : Bool := gg_nf.all (fun q => !(q.1 == own && q.2.1 == index))
theorem gh_own {own C n d : String} {index : Nat} (hn : gh_nn own index = true) (h : Cond.fieldLink own index C n d ∈ gg_gt ∨ ∃ host, (own, index, C, n, d, host) ∈ gg_nf) : Cond.fieldLink own index C n d ∈ gg_gt := by
  rcases h with h | ⟨host, h⟩
  · exact h
  · have h1 := List.all_eq_true.mp hn _ h
    simp at h1
theorem gh_get (ok : gh_Ok p s m args meth c cc nL own D cT A) {index ci k k0 f i : Nat} {fs : List gg_V} {v : gg_V} (hd : decode cc pc = .ok (.getfield index, 3)) (hF : gg_FL own index ci k) (hnn : gh_nn own index = true) (he : w[k0]? = some ((f, i), .inl (ci, fs))) (hv : fs[k]? = some v) (kk : gh_G p l e R s m args below meth c nL D cT ad0 A Q ce sl N w (pc + 3) lo (v :: st)) : gh_G p l e R s m args below meth c nL D cT ad0 A Q ce sl N w pc lo (gg_r f i :: st) := by
  intro ad hag H locs ls hP hD hS hl
  obtain ⟨C, T, N, h1, h2, h3, h4, h5⟩ := hF
  have hv' : (fs.map (gg_c ad))[k]? = some (gg_c ad v) := by rw [List.getElem?_map, hv]; rfl
  exact va_get (ref := C) (index := index) ok.1 ok.2.1 ok.2.2.2.2.1 h3 ok.2.2.2.1 ok.2.2.2.2.2.1 hP k0 (gh_at he) h1 k h2 (ok.2.2.2.2.1 _ (gh_own hnn h5)) (fun y hy => by rw [h4] at hy; exact hy) hv' hd (kk ad hag H locs ls hP hD hS hl)
def gh_FQ (ci k : Nat) (ty : FieldType) (fin : Bool) : Prop := ∃ (C : String) (T : u_T) (N : Nat) (ty0 : Nat → FieldType), gg_cl[ci]? = some (C, T, N) ∧ (∀ k, k < N → parseFieldDescriptor (T k).2.2.1 = some (ty0 k)) ∧ (∀ a, a < N → ∀ b, b < N → a ≠ b → (T a).2.1 ≠ (T b).2.1) ∧ (T k).2.2.2 = fin ∧ parseFieldDescriptor (T k).2.2.1 = some ty
theorem gh_put (ok : gh_Ok p s m args meth c cc nL own D cT A) {index ci k k0 f i : Nat} {fs : List gg_V} {v : gg_V} {ty : FieldType} {fin : Bool} (hd : decode cc pc = .ok (.putfield index, 3)) (hF : gg_FL own index ci k) (hnn : gh_nn own index = true) (hT : gh_FQ ci k ty fin) (he : w[k0]? = some ((f, i), .inl (ci, fs))) (hk : k < fs.length) (hn : ∀ ad, narrow ty (gg_c ad v) = gg_c ad v) (hfit : ∀ ad, fits ty (gg_c ad v) = true) (hni : fin = true → meth.name = "<init>" ∧ (gg_cl[ci]?).map (fun q => q.1) = some own) (hw : w.set k0 ((f, i), .inl (ci, fs.set k v)) = w') (kk : gh_G p l e R s m args below meth c nL D cT ad0 A Q ce sl N w' (pc + 3) lo st) : gh_G p l e R s m args below meth c nL D cT ad0 A Q ce sl N w pc lo (v :: gg_r f i :: st) := by
  subst hw
  intro ad hag H locs ls hP hD hS hl
  obtain ⟨C, T, N, h1, h2, h3, h4, h5⟩ := hF
  obtain ⟨C', T', N', ty0, g1, g2, g3, g4, g5⟩ := hT
  cases h1.symm.trans g1
  have hk' : k < (fs.map (gg_c ad)).length := by simpa using hk
  have hset : (gh_w cT ad w).set k0 (ad f i, .inr (ci, (fs.map (gg_c ad)).set k (gg_c ad v))) = gh_w cT ad (w.set k0 ((f, i), .inl (ci, fs.set k v))) := by
    rw [← List.map_set]
    exact gh_set (h := (f, i)) (e := .inl (ci, fs.set k v))
  cases fin with
  | false =>
    refine va_put (ref := C) (index := index) ok.1 ok.2.1 ok.2.2.2.2.1 h3 ty0 g2 g3 ok.2.2.2.1 ok.2.2.2.2.2.1 hP hD hS k0 (gh_at he) h1 k h2 (ok.2.2.2.2.1 _ (gh_own hnn h5)) (fun y hy => by rw [h4] at hy; exact hy) g4 g5 (hn ad) (hfit ad) hk' hd (fun H1 locs1 hP1 hD1 hS1 => ?_)
    rw [hset] at hP1 hD1
    exact kk ad hag H1 locs1 ls hP1 hD1 hS1 hl
  | true =>
    obtain ⟨e1, e2⟩ := hni rfl
    rw [h1] at e2
    have e3 : C = own := Option.some.inj e2
    refine va_putF (ref := C) (index := index) ok.1 ok.2.1 ok.2.2.2.2.1 h3 ty0 g2 g3 ok.2.2.2.1 ok.2.2.2.2.2.1 hP hD hS k0 (gh_at he) h1 k h2 (ok.2.2.2.2.1 _ (gh_own hnn h5)) (fun y hy => by rw [h4] at hy; exact hy) g4 e1 (h4.trans e3) g5 (hn ad) (hfit ad) hk' hd (fun H1 locs1 hP1 hD1 hS1 => ?_)
    rw [hset] at hP1 hD1
    exact kk ad hag H1 locs1 ls hP1 hD1 hS1 hl
theorem gh_iast (ok : gh_Ok p s m args meth c cc nL own D cT A) {k0 f i n q : Nat} {g : Nat → Int32} {j a : Int32} (hd : decode cc pc = .ok (.iastore, 1)) (he : w[k0]? = some ((f, i), .inr (0, n, .inl g))) (hq : gg_ix j n q) (hw : w.set k0 ((f, i), .inr (0, n, .inl (upd g q a))) = w') (kk : gh_G p l e R s m args below meth c nL D cT ad0 A Q ce sl N w' (pc + 1) lo st) : gh_G p l e R s m args below meth c nL D cT ad0 A Q ce sl N w pc lo (gg_i a :: gg_i j :: gg_r f i :: st) := by
  subst hw
  obtain ⟨h1, rfl⟩ := hq
  intro ad hag H locs ls hP hD hS hl
  refine va_iast ok.1 ok.2.1 ok.2.2.2.2.2.1 hP hD hS k0 0 (gh_at he) rfl h1 hd (fun H1 locs1 hP1 hD1 hS1 => ?_)
  have hset := gh_set (cT := cT) (ad := ad) (w := w) (k0 := k0) (h := (f, i)) (e := .inr (0, n, .inl (upd g j.toNatClampNeg a)))
  rw [show (gh_w cT ad w).set k0 (ad f i, .inl (cT 0, n, .inl (upd g j.toNatClampNeg a))) = _ from hset] at hP1 hD1
  exact kk ad hag H1 locs1 ls hP1 hD1 hS1 hl
theorem gk_q_set {ad : Nat → Nat → Nat} {r : List (Option (Nat × Nat))} {q : Nat} {h : Nat × Nat} (hq : q < r.length) : va_up (gk_q ad r) q (some (ad h.1 h.2)) = gk_q ad (r.set q (some h)) := by
  funext k
  unfold va_up gk_q
  by_cases hk : k = q
  · subst hk
    rw [if_pos rfl, List.getD_eq_getElem?_getD, List.getElem?_set_self hq]
    rfl
  · rw [if_neg hk, List.getD_eq_getElem?_getD, List.getD_eq_getElem?_getD, List.getElem?_set_ne (Ne.symm hk)]
def gh_tn (ty : Nat) : String := if ty = 2 then "MissRegisters$Way" else if ty = 3 then "MissRegisters$Register" else "MissRegisters$Request"
theorem gh_aast (ok : gh_Ok p s m args meth c cc nL own D cT A) {k0 k1 f i f1 i1 ty n ci : Nat} {r : List (Option (Nat × Nat))} {fs : List gg_V} {q : Nat} {j : Int32} (hd : decode cc pc = .ok (.aastore, 1)) (he : w[k0]? = some ((f, i), .inr (ty, n, .inr (.inl r)))) (he1 : w[k1]? = some ((f1, i1), .inl (ci, fs))) (hty : ty = 2 ∧ ci = 3 ∨ ty = 3 ∧ ci = 1 ∨ ty = 4 ∧ ci = 2) (hr : r.length = n) (hq : gg_ix j n q) (hw : w.set k0 ((f, i), .inr (ty, n, .inr (.inl (r.set q (some (f1, i1)))))) = w') (kk : gh_G p l e R s m args below meth c nL D cT ad0 A Q ce sl N w' (pc + 1) lo st) : gh_G p l e R s m args below meth c nL D cT ad0 A Q ce sl N w pc lo (gg_r f1 i1 :: gg_i j :: gg_r f i :: st) := by
  subst hw
  obtain ⟨h1, rfl⟩ := hq
  have hlt : j.toNatClampNeg < n := Nat.not_le.mp fun q => h1 (Or.inr q)
  intro ad hag H locs ls hP hD hS hl
  have hset := gh_set (cT := cT) (ad := ad) (w := w) (k0 := k0) (h := (f, i)) (e := .inr (ty, n, .inr (.inl (r.set j.toNatClampNeg (some (f1, i1))))))
  have hup := gk_q_set (ad := ad) (r := r) (q := j.toNatClampNeg) (h := (f1, i1)) (by omega)
  have hset' : (gh_w cT ad w).set k0 (ad f i, .inl (cT ty, n, .inr (.inr (.inr (.inr (va_up (gk_q ad r) j.toNatClampNeg (some (ad f1 i1)))))))) = gh_w cT ad (w.set k0 ((f, i), .inr (ty, n, .inr (.inl (r.set j.toNatClampNeg (some (f1, i1))))))) := (by rw [hup]; exact hset)
  rcases hty with ⟨rfl, rfl⟩ | ⟨rfl, rfl⟩ | ⟨rfl, rfl⟩
  · exact va_astq ok.1 ok.2.1 ok.2.2.2.2.2.1 hP hD hS k0 2 k1 3 (r := (RX3, TX3, 5)) (gh_at he) rfl (gh_at he1) rfl h1 hd (fun H1 locs1 hP1 hD1 hS1 => by
      rw [hset'] at hP1 hD1
      exact kk ad hag H1 locs1 ls hP1 hD1 hS1 hl)
  · exact va_astq ok.1 ok.2.1 ok.2.2.2.2.2.1 hP hD hS k0 3 k1 1 (r := (RX1, TX1, 5)) (gh_at he) rfl (gh_at he1) rfl h1 hd (fun H1 locs1 hP1 hD1 hS1 => by
      rw [hset'] at hP1 hD1
      exact kk ad hag H1 locs1 ls hP1 hD1 hS1 hl)
  · exact va_astq ok.1 ok.2.1 ok.2.2.2.2.2.1 hP hD hS k0 4 k1 2 (r := (RX2, TX2, 3)) (gh_at he) rfl (gh_at he1) rfl h1 hd (fun H1 locs1 hP1 hD1 hS1 => by
      rw [hset'] at hP1 hD1
      exact kk ad hag H1 locs1 ls hP1 hD1 hS1 hl)
theorem gh_app {w w1 : List ((Nat × Nat) × gk)} : gh_w cT ad (w ++ w1) = gh_w cT ad w ++ gh_w cT ad w1 := List.map_append
/-- a new cell: the world under the new addresses -/
theorem gh_push {h : Nat × Nat} {a : Nat} {e : gk} (hn : gw_no [h] w = true) (he : gk_no [h] e = true) : gh_w cT ad w ++ [(a, gk_c cT ad e)] = gh_w cT (gh_ad ad h a) (w ++ [(h, e)]) := by
  rw [gh_app, gw_no_c gh_ad_ag hn]
  congr 1
  show [(a, gk_c cT ad e)] = [(gh_ad ad h a h.1 h.2, gk_c cT (gh_ad ad h a) e)]
  rw [gh_ad_at, gk_no_c gh_ad_ag he]
theorem gh_new (ok : gh_Ok p s m args meth c cc nL own D cT A) {index ci N0 : Nat} {h : Nat × Nat} {fs : List gg_V} {C : String} {T : u_T} {ty : Nat → FieldType} (hd : decode cc pc = .ok (.new index, 3)) (hin : ∀ w ∈ u_ws C T N0, w ∈ gg_gt) (hty : ∀ k, k < N0 → parseFieldDescriptor (T k).2.2.1 = some (ty k)) (hcl : Cond.classLink own index C ∈ gg_gt) (hinst : Cond.instantiable C N0 ∈ gg_gt) (hini : Cond.initialized C ∈ gg_gt) (hc : gg_cl[ci]? = some (C, T, N0)) (hfs : ∀ ad j, j < N0 → defaultValue (ty j) = vp_V (fs.map (gg_c ad)) j) (hcells : ce + 1 ≤ R.cells) (hslots : sl + N0 ≤ R.slots) (c1 : gw_no [h] w = true) (c2 : gl_no [h] fs = true) (c3 : go_no [h] lo = true) (c4 : gl_no [h] st = true) (kk : gh_G p l e R s m args below meth c nL D cT ad0 A Q (ce + 1) (sl + N0) (N ++ [h]) (w ++ [(h, .inl (ci, fs))]) (pc + 3) lo (gg_r h.1 h.2 :: st)) : gh_G p l e R s m args below meth c nL D cT ad0 A Q ce sl N w pc lo st := by
  intro ad hag H locs ls hP hD hS hl
  refine va_new ok.1 ok.2.1 ok.2.2.2.2.1 hin ty hty ok.2.2.2.1 (ok.2.2.2.2.1 _ hcl) (ok.2.2.2.2.1 _ hinst) (ok.2.2.2.2.1 _ hini) ok.2.2.2.2.2.1 hP hD hS ok.2.2.2.2.2.2.1 hc (fs := fs.map (gg_c ad)) (hfs ad) hcells hslots hd (fun a H1 hP1 hD1 hS1 => ?_)
  rw [show (gh_w cT ad w ++ [(a, .inr (ci, fs.map (gg_c ad)))] : va_W) = _ from gh_push (h := h) (a := a) (e := .inl (ci, fs)) c1 c2] at hP1 hD1
  have h3 := kk (gh_ad ad h a) (hag.trans gh_ad_ag) H1 locs ls hP1 hD1 hS1 (by rw [go_no_c gh_ad_ag c3]; exact hl)
  have h4 : gg_cst (gh_ad ad h a) (gg_r h.1 h.2 :: st) = .ref a :: gg_cst ad st := by
    show Value.ref (gh_ad ad h a h.1 h.2) :: st.map (gg_c (gh_ad ad h a)) = _
    rw [gh_ad_at, gl_no_c gh_ad_ag c4]
    rfl
  rw [h4] at h3
  exact h3
theorem gh_newi (ok : gh_Ok p s m args meth c cc nL own D cT A) {n : Int32} {N0 : Nat} {h : Nat × Nat} (hd : decode cc pc = .ok (.newarray .int, 2)) (harr : Cond.arrayClass .int ∈ gg_gt) (hn : ¬ n < 0) (hN : n.toNatClampNeg = N0) (hbytes : N0 * 8 ≤ 536870912) (hcells : ce + 1 ≤ R.cells) (hslots : sl + N0 ≤ R.slots) (c1 : gw_no [h] w = true) (c3 : go_no [h] lo = true) (c4 : gl_no [h] st = true) (kk : gh_G p l e R s m args below meth c nL D cT ad0 A Q (ce + 1) (sl + N0) (N ++ [h]) (w ++ [(h, .inr (0, N0, .inl (fun _ => 0)))]) (pc + 2) lo (gg_r h.1 h.2 :: st)) : gh_G p l e R s m args below meth c nL D cT ad0 A Q ce sl N w pc lo (gg_i n :: st) := by
  intro ad hag H locs ls hP hD hS hl
  refine va_newa (atype := .int) ok.1 ok.2.1 (ok.2.2.2.2.1 _ harr) (ty := .int) rfl ok.2.2.2.2.2.1 hP hD hS ok.2.2.2.2.2.2.1 (a0 := (N0, .inl (fun _ => 0))) (fun cA => rfl) hn hN (Nat.le_trans (Nat.mul_le_mul_left N0 (by decide : componentBytes .int ≤ 8)) hbytes) hcells hslots hd (fun a cA H1 hK1 hP1 hD1 hS1 => ?_)
  have hcA : cA = cT 0 := by
    have h1 := (hK1.2 6 (cA, .int) (by rfl)).2
    have h2 := (ok.2.2.2.2.2.1.2 0 (cT 0, .int) rfl).2
    exact Option.some.inj (Eq.trans (Eq.symm h1) h2)
  subst hcA
  rw [show (gh_w cT ad w ++ [(a, .inl (cT 0, N0, .inl (fun _ => 0)))] : va_W) = _ from gh_push (h := h) (a := a) (e := .inr (0, N0, .inl (fun _ => 0))) c1 rfl] at hP1 hD1
  have h3 := kk (gh_ad ad h a) (hag.trans gh_ad_ag) H1 locs ls hP1 hD1 hS1 (by rw [go_no_c gh_ad_ag c3]; exact hl)
  have h4 : gg_cst (gh_ad ad h a) (gg_r h.1 h.2 :: st) = .ref a :: gg_cst ad st := by
    show Value.ref (gh_ad ad h a h.1 h.2) :: st.map (gg_c (gh_ad ad h a)) = _
    rw [gh_ad_at, gl_no_c gh_ad_ag c4]
    rfl
  rw [h4] at h3
  exact h3
theorem gh_newz (ok : gh_Ok p s m args meth c cc nL own D cT A) {n : Int32} {N0 : Nat} {h : Nat × Nat} (hd : decode cc pc = .ok (.newarray .boolean, 2)) (harr : Cond.arrayClass .boolean ∈ gg_gt) (hn : ¬ n < 0) (hN : n.toNatClampNeg = N0) (hbytes : N0 * 8 ≤ 536870912) (hcells : ce + 1 ≤ R.cells) (hslots : sl + N0 ≤ R.slots) (c1 : gw_no [h] w = true) (c3 : go_no [h] lo = true) (c4 : gl_no [h] st = true) (kk : gh_G p l e R s m args below meth c nL D cT ad0 A Q (ce + 1) (sl + N0) (N ++ [h]) (w ++ [(h, .inr (1, N0, .inl (fun _ => 0)))]) (pc + 2) lo (gg_r h.1 h.2 :: st)) : gh_G p l e R s m args below meth c nL D cT ad0 A Q ce sl N w pc lo (gg_i n :: st) := by
  intro ad hag H locs ls hP hD hS hl
  refine va_newa (atype := .boolean) ok.1 ok.2.1 (ok.2.2.2.2.1 _ harr) (ty := .boolean) rfl ok.2.2.2.2.2.1 hP hD hS ok.2.2.2.2.2.2.1 (a0 := (N0, .inl (fun _ => 0))) (fun cA => rfl) hn hN (Nat.le_trans (Nat.mul_le_mul_left N0 (by decide : componentBytes .boolean ≤ 8)) hbytes) hcells hslots hd (fun a cA H1 hK1 hP1 hD1 hS1 => ?_)
  have hcA : cA = cT 1 := by
    have h1 := (hK1.2 6 (cA, .boolean) (by rfl)).2
    have h2 := (ok.2.2.2.2.2.1.2 1 (cT 1, .boolean) rfl).2
    exact Option.some.inj (Eq.trans (Eq.symm h1) h2)
  subst hcA
  rw [show (gh_w cT ad w ++ [(a, .inl (cT 1, N0, .inl (fun _ => 0)))] : va_W) = _ from gh_push (h := h) (a := a) (e := .inr (1, N0, .inl (fun _ => 0))) c1 rfl] at hP1 hD1
  have h3 := kk (gh_ad ad h a) (hag.trans gh_ad_ag) H1 locs ls hP1 hD1 hS1 (by rw [go_no_c gh_ad_ag c3]; exact hl)
  have h4 : gg_cst (gh_ad ad h a) (gg_r h.1 h.2 :: st) = .ref a :: gg_cst ad st := by
    show Value.ref (gh_ad ad h a h.1 h.2) :: st.map (gg_c (gh_ad ad h a)) = _
    rw [gh_ad_at, gl_no_c gh_ad_ag c4]
    rfl
  rw [h4] at h3
  exact h3
theorem gh_newl (ok : gh_Ok p s m args meth c cc nL own D cT A) {n : Int32} {N0 : Nat} {h : Nat × Nat} (hd : decode cc pc = .ok (.newarray .long, 2)) (harr : Cond.arrayClass .long ∈ gg_gt) (hn : ¬ n < 0) (hN : n.toNatClampNeg = N0) (hbytes : N0 * 8 ≤ 536870912) (hcells : ce + 1 ≤ R.cells) (hslots : sl + N0 ≤ R.slots) (c1 : gw_no [h] w = true) (c3 : go_no [h] lo = true) (c4 : gl_no [h] st = true) (kk : gh_G p l e R s m args below meth c nL D cT ad0 A Q (ce + 1) (sl + N0) (N ++ [h]) (w ++ [(h, .inr (5, N0, .inr (.inr (fun _ => 0))))]) (pc + 2) lo (gg_r h.1 h.2 :: st)) : gh_G p l e R s m args below meth c nL D cT ad0 A Q ce sl N w pc lo (gg_i n :: st) := by
  intro ad hag H locs ls hP hD hS hl
  refine va_newa (atype := .long) ok.1 ok.2.1 (ok.2.2.2.2.1 _ harr) (ty := .long) rfl ok.2.2.2.2.2.1 hP hD hS ok.2.2.2.2.2.2.1 (a0 := (N0, .inr (.inl (fun _ => 0)))) (fun cA => rfl) hn hN (Nat.le_trans (Nat.mul_le_mul_left N0 (by decide : componentBytes .long ≤ 8)) hbytes) hcells hslots hd (fun a cA H1 hK1 hP1 hD1 hS1 => ?_)
  have hcA : cA = cT 5 := by
    have h1 := (hK1.2 6 (cA, .long) (by rfl)).2
    have h2 := (ok.2.2.2.2.2.1.2 5 (cT 5, .long) rfl).2
    exact Option.some.inj (Eq.trans (Eq.symm h1) h2)
  subst hcA
  rw [show (gh_w cT ad w ++ [(a, .inl (cT 5, N0, .inr (.inl (fun _ => 0))))] : va_W) = _ from gh_push (h := h) (a := a) (e := .inr (5, N0, .inr (.inr (fun _ => 0)))) c1 rfl] at hP1 hD1
  have h3 := kk (gh_ad ad h a) (hag.trans gh_ad_ag) H1 locs ls hP1 hD1 hS1 (by rw [go_no_c gh_ad_ag c3]; exact hl)
  have h4 : gg_cst (gh_ad ad h a) (gg_r h.1 h.2 :: st) = .ref a :: gg_cst ad st := by
    show Value.ref (gh_ad ad h a h.1 h.2) :: st.map (gg_c (gh_ad ad h a)) = _
    rw [gh_ad_at, gl_no_c gh_ad_ag c4]
    rfl
  rw [h4] at h3
  exact h3
theorem gk_q_none {ad : Nat → Nat → Nat} {n : Nat} : gk_q ad (List.replicate n none) = fun _ => none := by
  funext k
  unfold gk_q
  rw [List.getD_eq_getElem?_getD]
  cases h : (List.replicate n (none : Option (Nat × Nat)))[k]? with
  | none => rfl
  | some z =>
    have := List.mem_of_getElem? h
    rw [List.eq_of_mem_replicate this]
    rfl
theorem gh_newq (ok : gh_Ok p s m args meth c cc nL own D cT A) {index ty : Nat} {n : Int32} {N0 : Nat} {h : Nat × Nat} (hd : decode cc pc = .ok (.anewarray index, 3)) (hcl : Cond.classLink own index (gh_tn ty) ∈ gg_gt) (hty : ty = 2 ∨ ty = 3 ∨ ty = 4) (hn : ¬ n < 0) (hN : n.toNatClampNeg = N0) (hbytes : N0 * 4 ≤ 536870912) (hcells : ce + 1 ≤ R.cells) (hslots : sl + N0 ≤ R.slots) (c1 : gw_no [h] w = true) (c3 : go_no [h] lo = true) (c4 : gl_no [h] st = true) (kk : gh_G p l e R s m args below meth c nL D cT ad0 A Q (ce + 1) (sl + N0) (N ++ [h]) (w ++ [(h, .inr (ty, N0, .inr (.inl (List.replicate N0 none))))]) (pc + 3) lo (gg_r h.1 h.2 :: st)) : gh_G p l e R s m args below meth c nL D cT ad0 A Q ce sl N w pc lo (gg_i n :: st) := by
  intro ad hag H locs ls hP hD hS hl
  have hao : va_AO (gh_tn ty) s := by
    rcases hty with rfl | rfl | rfl
    · exact ok.2.2.2.2.2.2.2.2.1
    · exact ok.2.2.2.2.2.2.2.2.2.1
    · exact ok.2.2.2.2.2.2.2.2.2.2.1
  refine va_newq ok.1 ok.2.1 ok.2.2.2.1 (ok.2.2.2.2.1 _ hcl) hao ok.2.2.2.2.2.1 hP hD hS ok.2.2.2.2.2.2.1 hn hN hbytes hcells hslots hd (fun a cA H1 hK1 hP1 hD1 hS1 => ?_)
  have hcA : cA = cT ty := by
    have h1 := (hK1.2 6 (cA, .object (gh_tn ty)) (by rfl)).2
    have h2 : va_RA s (cT ty) (.object (gh_tn ty)) := by
      rcases hty with rfl | rfl | rfl
      · exact (ok.2.2.2.2.2.1.2 2 (cT 2, .object "MissRegisters$Way") rfl).2
      · exact (ok.2.2.2.2.2.1.2 3 (cT 3, .object "MissRegisters$Register") rfl).2
      · exact (ok.2.2.2.2.2.1.2 4 (cT 4, .object "MissRegisters$Request") rfl).2
    obtain ⟨-, -, -, -, -, h1⟩ := h1
    obtain ⟨-, -, -, -, -, h2⟩ := h2
    exact Option.some.inj (h1.symm.trans h2)
  subst hcA
  have h0 := gh_push (cT := cT) (ad := ad) (w := w) (h := h) (a := a) (e := .inr (ty, N0, .inr (.inl (List.replicate N0 none)))) c1 (by
    refine List.all_eq_true.mpr fun z hz => ?_
    rw [List.eq_of_mem_replicate hz])
  have h00 : (gh_w cT ad w ++ [(a, .inl (cT ty, N0, .inr (.inr (.inr (.inr (fun _ => none))))))] : va_W) = gh_w cT (gh_ad ad h a) (w ++ [(h, .inr (ty, N0, .inr (.inl (List.replicate N0 none))))]) := by
    rw [← gk_q_none (ad := ad) (n := N0)]
    exact h0
  rw [h00] at hP1 hD1
  have h3 := kk (gh_ad ad h a) (hag.trans gh_ad_ag) H1 locs ls hP1 hD1 hS1 (by rw [go_no_c gh_ad_ag c3]; exact hl)
  have h4 : gg_cst (gh_ad ad h a) (gg_r h.1 h.2 :: st) = .ref a :: gg_cst ad st := by
    show Value.ref (gh_ad ad h a h.1 h.2) :: st.map (gg_c (gh_ad ad h a)) = _
    rw [gh_ad_at, gl_no_c gh_ad_ag c4]
    rfl
  rw [h4] at h3
  exact h3
end GHR
-- contracts of constructors: the object h with cell e0 becomes the world (h, e1) :: M
def gh_A (a sz : Nat) : Nat → Prop := fun q => q = a ∨ sz ≤ q
def gh_Q (D : va_G) (cT : Nat → ClassId) (ad : Nat → Nat → Nat) (h : Nat × Nat) (sz : Nat) (e1 : gk) (M : List ((Nat × Nat) × gk)) : Array Value → State → Outcome → State → Prop := fun _ st oc t => oc = .returned none ∧ (∃ ad1, gh_ag (M.map (fun q => q.1)) ad ad1 ∧ va_P D gg_cl (gh_w cT ad1 ((h, e1) :: M)) t.heap ∧ va_D (gh_A (ad1 h.1 h.2) sz) (gh_w cT ad1 ((h, e1) :: M))) ∧ va_F (gh_A (ad h.1 h.2) sz) st t
def gh_P (D : va_G) (cT : Nat → ClassId) (ad : Nat → Nat → Nat) (sz : Nat) (h : Nat × Nat) (e0 : gk) : Array Value → State → Prop := va_Pc [.ref (ad h.1 h.2)] (fun U => U.heap.size = sz ∧ va_P D gg_cl (gh_w cT ad [(h, e0)]) U.heap ∧ va_K D gg_cl (gg_ty cT) U ∧ gh_Sd U)
def gh_Con (l : Launch) (y : MethodName) (b : ByteArray) (n : Nat) (rm : Room) (h : Nat × Nat) (e0 e1 : gk) (M : List ((Nat × Nat) × gk)) : Prop :=
  ∀ (D : va_G) (cT : Nat → ClassId) (ad : Nat → Nat → Nat) (sz : Nat), xt_Met l y (gg_wz y b n none) rm (gh_P D cT ad sz h e0) (gh_Q D cT ad h sz e1 M) rm.cells rm.slots (gh_A (ad h.1 h.2) sz)
theorem gh_blind {D : va_G} {cT : Nat → ClassId} {ad : Nat → Nat → Nat} {sz : Nat} {h : Nat × Nat} {e0 : gk} : FrameBlind (gh_P D cT ad sz h e0) := by
  intro a U g mk q
  obtain ⟨q0, q1, qP, qK, qS⟩ := q
  exact ⟨q0, q1, qP, va_K.moved (u := U) (U := U.calling g mk a) (Vm.Alike.refl U.vm) qK, gh_Sd.same (u := U) (U := U.calling g mk a) rfl qS⟩
section GHC
variable {p : Program} {l : Launch} {e : Env} {R : Room} {s : State} {m : MethodId} {args : Array Value} {below : List Frame} {meth : Method} {c : Code} {Q : State → Prop} {cc : ByteArray} {nL : Nat} {own : String} {D : va_G} {cT : Nat → ClassId} {ad0 ad : Nat → Nat → Nat} {A : Nat → Prop} {N : List (Nat × Nat)} {ce sl : Nat} {w w' : List ((Nat × Nat) × gk)} {pc : Nat} {lo lo' : List (Nat × gg_V)} {st : List gg_V}
theorem gh_vret (ok : gh_Ok p s m args meth c cc nL own D cT A) {h : Nat × Nat} {e1 : gk} {M : List ((Nat × Nat) × gk)} (hr : meth.sig.returnType = none) (hd : decode cc pc = .ok (.return_, 1)) (hA : A = gh_A (ad0 h.1 h.2) s.heap.size) (hN : M.map (fun q => q.1) = N) (hh : gh_nl N h = true) (hw : w = (h, e1) :: M) : gh_G p l e R s m args below meth c nL D cT ad0 A (xt_MQ below (gh_Q D cT ad0 h s.heap.size e1 M) args s ce sl (gh_A (ad0 h.1 h.2) s.heap.size)) ce sl N w pc lo [] := by
  subst hw hN hA
  intro ad hag H locs ls hP hD hS hl
  have h1 : ad h.1 h.2 = ad0 h.1 h.2 := hag h hh
  exact xt_W (W.vret ok.1 ok.2.1 hr (fun t ht hW => ⟨rfl, ⟨ad, hag, by rw [ht]; exact hP, by rw [h1]; exact hD⟩, hS.F ht⟩) (fun q hq => hS.2.2 q hq) hd (hlocks := ok.2.2.2.2.2.2.2.1))

theorem gh_of {y : MethodName} {b : ByteArray} {n : Nat} {rm : Room} {h : Nat × Nat} {e0 e1 : gk} {M : List ((Nat × Nat) × gk)} (hy : plainName y.cls = true) (hn : 1 ≤ n) (hyn : y.name = "<init>")
    (body : ∀ {p : Program} {e : Env} {s : State} {m : MethodId} {args : Array Value} {below : List Frame} {meth : Method} {c : Code} {D : va_G} {cT : Nat → ClassId} {ad0 : Nat → Nat → Nat}, gh_Ok p s m args meth c b n y.cls D cT (gh_A (ad0 h.1 h.2) s.heap.size) → meth.sig.returnType = none → meth.name = "<init>" →
      gh_G p l e rm s m args below meth c n D cT ad0 (gh_A (ad0 h.1 h.2) s.heap.size) (xt_MQ below (gh_Q D cT ad0 h s.heap.size e1 M) args s rm.cells rm.slots (gh_A (ad0 h.1 h.2) s.heap.size)) 0 0 [] [(h, e0)] 0 [(0, gg_r h.1 h.2)] []) : gh_Con l y b n rm h e0 e1 M := by
  intro D cT ad sz
  refine xt_ofW (bytes := b) (maxL := n) (ret := none) (ws' := gg_gt) hy rfl ?_
  intro p e s m args below meth c s₁ B hml hv
  obtain ⟨rfl, rfl, hP, hK, hSd⟩ := hv
  have hts := atoms_spec (ws := gg_wz y b n none) B.pre
  have hown : s.vm.findClass y.cls = some m.cls := findClass_of_methodNamed B.named
  have X := Stand.of_body B
  obtain ⟨hnm, -⟩ := name_of_methodNamed B.named B.method
  have hD : va_D (gh_A (ad h.1 h.2) s.heap.size) (gh_w cT ad [(h, e0)]) := by
    refine ⟨fun i j p q hp hq _ => ?_, fun k q hq => ?_⟩
    · have h1 := (List.getElem?_eq_some_iff.mp hp).1
      have h2 := (List.getElem?_eq_some_iff.mp hq).1
      simp [gh_w] at h1 h2
      omega
    · have h1 := (List.getElem?_eq_some_iff.mp hq).1
      simp [gh_w] at h1
      subst h1
      cases hq
      exact Or.inl rfl
  have hl := lv_entry [Value.ref (ad h.1 h.2)] (n := n) (by exact hn)
  rw [lg_entry_eq]
  exact body (p := p) (e := e) (s := s) (m := m) (args := [Value.ref (ad h.1 h.2)].toArray) (below := below) (meth := meth) (c := c) (D := D) (cT := cT) (ad0 := ad) ⟨B.exec, B.bytes, hml, hown, fun w hw => hts w (List.mem_cons_of_mem _ hw), hK, fun q hq => Or.inr hq, B.notSynchronized, hSd⟩ B.returns (hnm.trans hyn) ad gh_ag.rf s.heap [] _ hP hD va_S.rf hl
theorem gh_join {k0 : Nat} {h : Nat × Nat} {e0 e1 : gk} {M : List ((Nat × Nat) × gk)} {ad1 : Nat → Nat → Nat} {H H1 : Heap} (hP : va_P D gg_cl (gh_w cT ad w) H) (hD : va_D A (gh_w cT ad w)) (he : w[k0]? = some (h, e0)) (hag : gh_ag (M.map (fun q => q.1)) ad ad1) (hno : gw_no (M.map (fun q => q.1)) w = true) (hP1 : va_P D gg_cl (gh_w cT ad1 ((h, e1) :: M)) H1) (hD1 : va_D (gh_A (ad1 h.1 h.2) H.size) (gh_w cT ad1 ((h, e1) :: M))) (hF : ∀ q : Nat, q < H.size → ¬ gh_A (ad h.1 h.2) H.size q → H1[q]? = H[q]?) (hA : ∀ q, H.size ≤ q → A q) :
    va_P D gg_cl (gh_w cT ad1 (w.set k0 (h, e1) ++ M)) H1 ∧ va_D A (gh_w cT ad1 (w.set k0 (h, e1) ++ M)) := by
  have hk0 : k0 < w.length := (List.getElem?_eq_some_iff.mp he).1
  have hh : ad1 h.1 h.2 = ad h.1 h.2 := by
    have h1 := List.all_eq_true.mp hno _ (List.mem_of_getElem? he)
    simp only [Bool.and_eq_true] at h1
    exact hag h h1.1
  have key : ∀ (k : Nat) (q : Nat × va_E), (gh_w cT ad1 (w.set k0 (h, e1) ++ M))[k]? = some q → (k = k0 ∧ q = (ad1 h.1 h.2, gk_c cT ad1 e1)) ∨ (k ≠ k0 ∧ k < w.length ∧ (gh_w cT ad w)[k]? = some q) ∨ (w.length ≤ k ∧ (gh_w cT ad1 M)[k - w.length]? = some q) := by
    intro k q hq
    rw [gh_app] at hq
    have hlen : (gh_w cT ad1 (w.set k0 (h, e1))).length = w.length := by simp [gh_w]
    by_cases hk : k < w.length
    · rw [List.getElem?_append_left (by rw [hlen]; exact hk), ← gh_set (h := h) (e := e1), gw_no_c hag hno] at hq
      by_cases h2 : k = k0
      · subst h2
        rw [List.getElem?_set_self (by simpa [gh_w] using hk)] at hq
        exact Or.inl ⟨rfl, (Option.some.inj hq).symm⟩
      · rw [List.getElem?_set_ne (Ne.symm h2)] at hq
        exact Or.inr (Or.inl ⟨h2, hk, hq⟩)
    · rw [List.getElem?_append_right (by rw [hlen]; omega), hlen] at hq
      exact Or.inr (Or.inr ⟨by omega, hq⟩)
  have hM : ∀ (j : Nat) (q : Nat × va_E), (gh_w cT ad1 M)[j]? = some q → (gh_w cT ad1 ((h, e1) :: M))[j + 1]? = some q := fun j q hq => hq
  have hnew : ∀ (j : Nat) (q : Nat × va_E), (gh_w cT ad1 M)[j]? = some q → H.size ≤ q.1 := by
    intro j q hq
    rcases hD1.2 (j + 1) q (hM j q hq) with h1 | h1
    · have h2 := hD1.1 (j + 1) 0 q (ad1 h.1 h.2, gk_c cT ad1 e1) (hM j q hq) rfl h1
      omega
    · exact h1
  have hold : ∀ (k : Nat) (q : Nat × va_E), (gh_w cT ad w)[k]? = some q → q.1 < H.size := fun k q hq => (hP k q hq).lt
  refine ⟨fun k q hq => ?_, fun i j a b ha hb hab => ?_, fun k q hq => ?_⟩
  · rcases key k q hq with ⟨-, rfl⟩ | ⟨h1, -, h2⟩ | ⟨-, h2⟩
    · exact hP1 0 _ rfl
    · refine (hP k q h2).kept (hF _ (hold k q h2) ?_)
      rintro (h3 | h3)
      · exact h1 (hD.1 k k0 q _ h2 (gh_at he) h3)
      · have := hold k q h2
        omega
    · exact hP1 _ _ (hM _ _ h2)
  · rcases key i a ha with ⟨rfl, rfl⟩ | ⟨h1, -, h2⟩ | ⟨h1, h2⟩ <;> rcases key j b hb with ⟨rfl, rfl⟩ | ⟨g1, -, g2⟩ | ⟨g1, g2⟩
    · rfl
    · exact absurd (hD.1 _ _ _ _ g2 (gh_at he) (by rw [← hab]; exact hh)) g1
    · have g3 := hnew _ _ g2
      have g4 := hold _ _ (gh_at (cT := cT) (ad := ad) he)
      rw [← hab, hh] at g3
      exact absurd g3 (Nat.not_le.mpr g4)
    · exact absurd (hD.1 _ _ _ _ h2 (gh_at he) (by rw [hab]; exact hh)) h1
    · exact hD.1 _ _ _ _ h2 g2 hab
    · have g3 := hnew _ _ g2
      have g4 := hold _ _ h2
      omega
    · have g3 := hnew _ _ h2
      have g4 := hold _ _ (gh_at (cT := cT) (ad := ad) he)
      rw [hab, hh] at g3
      exact absurd g3 (Nat.not_le.mpr g4)
    · have g3 := hnew _ _ h2
      have g4 := hold _ _ g2
      omega
    · have g3 := hD1.1 _ _ _ _ (hM _ _ h2) (hM _ _ g2) hab
      omega
  · rcases key k q hq with ⟨-, rfl⟩ | ⟨-, -, h2⟩ | ⟨-, h2⟩
    · show A (ad1 h.1 h.2)
      rw [hh]
      exact hD.2 k0 _ (gh_at he)
    · exact hD.2 _ _ h2
    · exact hA _ (hnew _ _ h2)
def gh_CI (own : String) (index : Nat) (y : MethodName) (b : ByteArray) (n : Nat) : Prop := (Cond.methodLink own index y ∈ gg_gt ∨ ∃ host, (own, index, y, host) ∈ gh_nm) ∧ Cond.instanceMethod y ∈ gg_gt ∧ Cond.code y b n none ∈ gg_gt ∧ Cond.initialized y.cls ∈ gg_gt ∧ (y.cls ≠ "java/lang/invoke/MethodHandle" ∧ y.cls ≠ "java/lang/invoke/VarHandle") ∧ y.name = "<init>" ∧ (parseMethodDescriptor y.desc).map (fun d => d.parameters.length) = some 0
theorem gh_call (ok : gh_Ok p s m args meth c cc nL own D cT A) {y : MethodName} {b : ByteArray} {n index k0 : Nat} {rm : Room} {h : Nat × Nat} {e0 e1 : gk} {M : List ((Nat × Nat) × gk)} (hd : decode cc pc = .ok (.invokespecial index, 3)) (hc : gh_CI own index y b n) (hC : gh_Con l y b n rm h e0 e1 M) (he : w[k0]? = some (h, e0)) (hcat : (st.map gg_cat).sum ≤ 8) (hfr : rm.frames + 1 ≤ R.frames) (hlo : 8 + (n + 11) + rm.locals ≤ R.locals) (hce : ce + rm.cells ≤ R.cells) (hsl : sl + rm.slots ≤ R.slots) (c1 : gw_no (M.map (fun q => q.1)) w = true) (c3 : go_no (M.map (fun q => q.1)) lo = true) (c4 : gl_no (M.map (fun q => q.1)) st = true) (hw : w.set k0 (h, e1) ++ M = w') (kk : gh_G p l e R s m args below meth c nL D cT ad0 A Q (ce + rm.cells) (sl + rm.slots) (N ++ M.map (fun q => q.1)) w' (pc + 3) lo st) : gh_G p l e R s m args below meth c nL D cT ad0 A Q ce sl N w pc lo (gg_r h.1 h.2 :: st) := by
  subst hw
  intro ad hag H locs ls hP hD hS hl T hT X
  obtain ⟨k1, k2, k3, k4, k5, k6, k7⟩ := hc
  have hts := ok.2.2.2.2.1
  have hpl : e.platform.magicAccessors = ({} : Platform).magicAccessors := by rw [X.admits.platform]
  have hlen : ∀ sig, parseMethodDescriptor y.desc = some sig → ([] : List Value).length = sig.parameters.length := by
    intro sig h1
    rw [h1] at k7
    exact (Option.some.inj k7).symm
  have hdg : decode c.code pc = .ok (.invokespecial index, 3) := by rw [ok.2.1]; exact hd
  have hcat' : ((gg_cst ad st).map fun v => v.category).sum ≤ 8 := by
    have h1 : ((gg_cst ad st).map fun v => v.category) = st.map gg_cat := by
      simp only [gg_cst, List.map_map, Function.comp_def, gg_cat_c]
    rw [h1]
    exact hcat
  have hstep : ∃ mk vm₁, s.methodNamed? y = some mk ∧ s.WarmedH vm₁ ∧ ∀ target, (∀ acts, Steps p.tables e below (doInvoke e ((T.setVm vm₁).setTop (F0 m pc ls (gg_cst ad st))) acts mk [Value.ref (ad h.1 h.2)].toArray).1 target) → Steps p.tables e below (T.setTop (F0 m pc ls (gg_cst ad (gg_r h.1 h.2 :: st)))) target := by
    rcases k1 with k1 | ⟨host, k1⟩
    · obtain ⟨mk, methM, cM, kP, vm₁, hnamed, -, -, -, -, -, -, -, hW₁, hst⟩ := Steps.initColdArgs (e := e) X.here ok.1 X.warmed hpl ok.2.2.2.1 k6 k5 (hts _ k1) (hts _ k2) (hts _ k3) (f := F0 m pc ls (gg_cst ad (gg_r h.1 h.2 :: st))) rfl (a := ad h.1 h.2) (argsL := []) (rest := gg_cst ad st) hlen rfl hdg
      exact ⟨mk, vm₁, hnamed, hW₁, hst⟩
    · obtain ⟨mk, methM, cM, kP, vm₁, hnamed, -, -, -, -, -, -, -, hW₁, hst⟩ := Steps.initColdArgsNest (e := e) X.here ok.1 X.warmed hpl ok.2.2.2.1 k6 k5 (args := args) (va_Nw.use rfl (ok.2.2.2.2.2.2.2.2.2.2.2 _ k1)) (hts _ k2) (hts _ k3) (f := F0 m pc ls (gg_cst ad (gg_r h.1 h.2 :: st))) rfl (a := ad h.1 h.2) (argsL := []) (rest := gg_cst ad st) hlen rfl hdg
      exact ⟨mk, vm₁, hnamed, hW₁, hst⟩
  obtain ⟨mk, vm₁, hnamed, hW₁, hst0⟩ := hstep
  have X₁ := X.noted hW₁
  have hPh : va_P D gg_cl (gh_w cT ad [(h, e0)]) H := by
    intro k q hq
    have h1 := (List.getElem?_eq_some_iff.mp hq).1
    simp [gh_w] at h1
    subst h1
    cases hq
    exact hP k0 _ (gh_at he)
  obtain ⟨o, t, T', L, ⟨ho, ⟨ad1, hag1, hP1, hD1⟩, hF⟩, f1, f2, hL, X', hst, hend⟩ := xt_call (g := F0 m pc ls (gg_cst ad st)) X₁ (hC D cT ad H.size) gh_blind rfl rfl hfr hlo (pay_in hts (gg_good k3)) (bytes := b) (maxL := n) (ret := none) List.mem_cons_self
    (fun a' U hW => word_at hW (Or.inl rfl) (hts _ k4)) rfl (hl.1.trans ok.2.2.1.symm) hdg (lv_room hcat') (X₁.named hnamed) hce hsl (a := [Value.ref (ad h.1 h.2)].toArray)
    ⟨rfl, by rw [← hT]; rfl, by rw [show (T.setVm vm₁).heap = H from hT]; exact hPh, va_K.moved X₁.warmed.alike ok.2.2.2.2.2.1, ok.2.2.2.2.2.2.2.2.go X₁.warmed⟩
  have hz : H.size ≤ t.heap.size := by
    have h1 := hF.1
    rw [show ((T.setVm vm₁).calling (F0 m pc ls (gg_cst ad st)) mk [Value.ref (ad h.1 h.2)].toArray).heap = H from hT] at h1
    exact h1
  have hk : ∀ q : Nat, q < H.size → ¬ gh_A (ad h.1 h.2) H.size q → t.heap[q]? = H[q]? := by
    have h1 := hF.2
    rw [show ((T.setVm vm₁).calling (F0 m pc ls (gg_cst ad st)) mk [Value.ref (ad h.1 h.2)].toArray).heap = H from hT] at h1
    exact h1
  have hAA : ∀ q, gh_A (ad h.1 h.2) H.size q → A q := by
    rintro q (rfl | h1)
    · exact hD.2 k0 _ (gh_at he)
    · exact ok.2.2.2.2.2.2.1 q (Nat.le_trans hS.1 h1)
  have hS' : va_S A s.heap T'.heap (locs ++ L) := by
    rw [f1]
    refine ⟨Nat.le_trans hS.1 hz, fun q h1 h2 => ?_, fun q hq => ?_⟩
    · rw [hk q (Nat.lt_of_lt_of_le h1 hS.1) (fun z => h2 (hAA q z))]
      exact hS.2.1 q h1 h2
    · rcases List.mem_append.mp hq with h1 | h1
      · exact hS.2.2 q h1
      · exact hAA _ (hL q h1)
  obtain ⟨hP2, hD2⟩ := gh_join hP hD he hag1 c1 hP1 hD1 hk (fun q hq => ok.2.2.2.2.2.2.1 q (Nat.le_trans hS.1 hq))
  rw [← f1] at hP2
  have h7 := kk ad1 (hag.trans hag1) T'.heap (locs ++ L) ls hP2 hD2 hS' (by rw [go_no_c hag1 c3]; exact hl)
  rw [show gg_cst ad1 st = gg_cst ad st from gl_no_c hag1 c4] at h7
  subst ho
  rcases hend with ⟨u, hu, ht⟩ | ⟨a, ha, -⟩
  · cases hu
    obtain ⟨t2, a1, b1⟩ := h7 T' rfl X'
    refine ⟨t2, hst0 _ fun acts => ?_, b1⟩
    rw [doInvoke_state]
    refine hst.trans ?_
    rw [ht]
    exact a1
  · cases ha
end GHC
