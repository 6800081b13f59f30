-- contracts
abbrev gg_U : Type := Option gg_V ⊕ Nat
def gg_xn (k : Nat) : String := if k = 0 then "java/lang/IllegalArgumentException" else "java/lang/IllegalStateException"
/-- how it ended: returned, or threw an object of a kind -/
def gg_oc (ad : Nat → Nat → Nat) (o : gg_U) (oc : Outcome) (t : State) : Prop := match o with
  | .inl v => oc = .returned (v.map (gg_c ad))
  | .inr k => ∃ (a : Nat) (cell : Cell), oc = .threw a ∧ t.heap[a]? = some cell ∧ cell.vm = .none ∧ t.vm.findClass (gg_xn k) = some cell.cls
def gg_Q (D : va_G) (cT : Nat → ClassId) (ad : Nat → Nat → Nat) (A : Nat → Prop) (post : gg_U → gg_X → Prop) : Array Value → State → Outcome → State → Prop := fun _ st oc t => (∃ (o : gg_U) (x : gg_X), gg_oc ad o oc t ∧ post o x ∧ va_P D gg_cl (gg_w cT ad x) t.heap ∧ va_K D gg_cl (gg_ty cT) t) ∧ va_F A st t
def gg_P (D : va_G) (cT : Nat → ClassId) (ad : Nat → Nat → Nat) (sz : Nat) (As : List gg_V) (x : gg_X) : Array Value → State → Prop := va_Pc (As.map (gg_c ad)) (fun U => U.heap.size = sz ∧ va_P D gg_cl (gg_w cT ad x) U.heap ∧ va_K D gg_cl (gg_ty cT) U ∧ gg_ap ad ∧ gg_Sd ad U)
def gg_wz (y : MethodName) (b : ByteArray) (n : Nat) (r : Option FieldType) : List Cond := Cond.code y b n r :: gg_gt
/-- method y, called with As in the state x: it ends so that post; w: it may write the world -/
def gg_Con (l : Launch) (y : MethodName) (b : ByteArray) (n : Nat) (r : Option FieldType) (rm : Room) (w : Bool) (As : List gg_V) (x : gg_X) (post : gg_U → gg_X → Prop) : Prop :=
  ∀ (D : va_G) (cT : Nat → ClassId) (ad : Nat → Nat → Nat) (sz : Nat), xt_Met l y (gg_wz y b n r) rm (gg_P D cT ad sz As x) (gg_Q D cT ad (gg_A w ad sz) post) rm.cells rm.slots (gg_A w ad sz)
/-- ... whose end is known: o, x' -/
abbrev gg_Cd (l : Launch) (y : MethodName) (b : ByteArray) (n : Nat) (r : Option FieldType) (rm : Room) (w : Bool) (As : List gg_V) (x : gg_X) (o : gg_U) (x' : gg_X) : Prop := gg_Con l y b n r rm w As x (fun o1 x1 => o1 = o ∧ x1 = x')
theorem gg_blind {D : va_G} {cT : Nat → ClassId} {ad : Nat → Nat → Nat} {sz : Nat} {As : List gg_V} {x : gg_X} : FrameBlind (gg_P D cT ad sz As x) := by
  intro a U g mk q
  obtain ⟨q0, q1, qP, qK, qA, qS⟩ := q
  exact ⟨q0, q1, qP, va_K.moved (u := U) (U := U.calling g mk a) (Vm.Alike.refl U.vm) qK, qA, gg_Sd.same (u := U) (U := U.calling g mk a) rfl rfl qS⟩
theorem gg_F_mono {w v : Bool} {ad : Nat → Nat → Nat} {sz : Nat} {s t : State} (hw : w = true → v = true) (h : va_F (gg_A w ad sz) s t) : va_F (gg_A v ad sz) s t := ⟨h.1, fun q h1 h2 => h.2 q h1 (fun z => h2 (gg_A_mono hw (Nat.le_refl _) z))⟩
/-- an exception of kind kd stands over the frame -/
def gg_T (p : Program) (l : Launch) (e : Env) (R : Room) (s : State) (m : MethodId) (args : Array Value) (below : List Frame) (meth : Method) (c : Code) (nL : Nat) (D : va_G) (cT : Nat → ClassId) (ad : Nat → Nat → Nat) (Q : State → Prop) (w : Bool) (ce sl : Nat) (x : gg_X) (pc : Nat) (lo : List (Nat × gg_V)) (kd : Nat) : Prop :=
  ∀ (H : Heap) (locs : List Loc) (ls : Array Slot) (st : List Value) (a : Nat) (cell : Cell), va_P D gg_cl (gg_w cT ad x) H → va_S (gg_A w ad s.heap.size) s.heap H locs → lv_has ls nL (gg_clo ad lo) → H[a]? = some cell → cell.vm = .none → s.vm.findClass (gg_xn kd) = some cell.cls → xt_Thr p l e R s m args below meth c H locs ce sl Q (F0 m pc ls st) a
section GC
variable {p : Program} {l : Launch} {e : Env} {R : Room} {s : State} {m : MethodId} {args : Array Value} {below : List Frame} {meth : Method} {c : Code} {Q : State → Prop} {cc : ByteArray} {nL : Nat} {own : String} {D : va_G} {cT : Nat → ClassId} {ad : Nat → Nat → Nat} {w wm : Bool} {ce sl : Nat} {x : gg_X} {pc : Nat} {lo lo' : List (Nat × gg_V)} {st : List gg_V} {post : gg_U → gg_X → Prop}
theorem gg_iret (ok : gg_Ok p s m args meth c cc nL own D cT ad) {a : Int32} (hr : meth.sig.returnType = some .int) (hw : w = true → wm = true) (hd : decode cc pc = .ok (.ireturn, 1)) (hp : post (.inl (some (gg_i a))) x) : gg_G p l e R s m args below meth c nL D cT ad (xt_MQ below (gg_Q D cT ad (gg_A wm ad s.heap.size) post) args s ce sl (gg_A wm ad s.heap.size)) w ce sl x pc lo [gg_i a] :=
  fun H locs ls hP hS _ => xt_W (W.iret (v := a) ok.1 ok.2.1 hr (fun t ht hW => ⟨⟨.inl (some (gg_i a)), x, rfl, hp, by rw [ht]; exact hP, va_K.moved hW.alike ok.2.2.2.2.2.1⟩, gg_F_mono hw (hS.F ht)⟩) (fun q hq => gg_A_mono hw (Nat.le_refl _) (hS.2.2 q hq)) hd (hlocks := ok.2.2.2.2.2.2.2.1))
theorem gg_zret (ok : gg_Ok p s m args meth c cc nL own D cT ad) {a : Int32} (hr : meth.sig.returnType = some .boolean) (hb : a = 0 ∨ a = 1) (hw : w = true → wm = true) (hd : decode cc pc = .ok (.ireturn, 1)) (hp : post (.inl (some (gg_i a))) x) : gg_G p l e R s m args below meth c nL D cT ad (xt_MQ below (gg_Q D cT ad (gg_A wm ad s.heap.size) post) args s ce sl (gg_A wm ad s.heap.size)) w ce sl x pc lo [gg_i a] :=
  fun H locs ls hP hS _ => xt_W (W.zret (v := a) (ty := .boolean) ok.1 ok.2.1 hr (by rcases hb with rfl | rfl <;> rfl) (fun t ht hW => ⟨⟨.inl (some (gg_i a)), x, rfl, hp, by rw [ht]; exact hP, va_K.moved hW.alike ok.2.2.2.2.2.1⟩, gg_F_mono hw (hS.F ht)⟩) (fun q hq => gg_A_mono hw (Nat.le_refl _) (hS.2.2 q hq)) hd (hlocks := ok.2.2.2.2.2.2.2.1))
theorem gg_vret (ok : gg_Ok p s m args meth c cc nL own D cT ad) (hr : meth.sig.returnType = none) (hw : w = true → wm = true) (hd : decode cc pc = .ok (.return_, 1)) (hp : post (.inl none) x) : gg_G p l e R s m args below meth c nL D cT ad (xt_MQ below (gg_Q D cT ad (gg_A wm ad s.heap.size) post) args s ce sl (gg_A wm ad s.heap.size)) w ce sl x pc lo [] :=
  fun H locs ls hP hS _ => xt_W (W.vret ok.1 ok.2.1 hr (fun t ht hW => ⟨⟨.inl none, x, rfl, hp, by rw [ht]; exact hP, va_K.moved hW.alike ok.2.2.2.2.2.1⟩, gg_F_mono hw (hS.F ht)⟩) (fun q hq => gg_A_mono hw (Nat.le_refl _) (hS.2.2 q hq)) hd (hlocks := ok.2.2.2.2.2.2.2.1))
theorem gg_aret (ok : gg_Ok p s m args meth c cc nL own D cT ad) {h : Option (Nat × Nat)} {nm : String} (hr : meth.sig.returnType = some (.object nm)) (hw : w = true → wm = true) (hd : decode cc pc = .ok (.areturn, 1)) (hp : post (.inl (some (.inr (.inl h)))) x) : gg_G p l e R s m args below meth c nL D cT ad (xt_MQ below (gg_Q D cT ad (gg_A wm ad s.heap.size) post) args s ce sl (gg_A wm ad s.heap.size)) w ce sl x pc lo [.inr (.inl h)] :=
  fun H locs ls hP hS _ => xt_W (W.aret (v := gg_c ad (.inr (.inl h))) ok.1 ok.2.1 hr (Or.inl ⟨nm, rfl⟩) (by cases h with | none => exact Or.inl rfl | some q => exact Or.inr ⟨_, rfl⟩) (fun t ht hW => ⟨⟨.inl (some (.inr (.inl h))), x, rfl, hp, by rw [ht]; exact hP, va_K.moved hW.alike ok.2.2.2.2.2.1⟩, gg_F_mono hw (hS.F ht)⟩) (fun q hq => gg_A_mono hw (Nat.le_refl _) (hS.2.2 q hq)) hd (hlocks := ok.2.2.2.2.2.2.2.1))
/-- no handler: the exception goes on to the caller -/
theorem gg_tout (ok : gg_Ok p s m args meth c cc nL own D cT ad) (okx : c.exceptionTable.toList = []) {kd : Nat} (hw : w = true → wm = true) (hp : post (.inr kd) x) : gg_T p l e R s m args below meth c nL D cT ad (xt_MQ below (gg_Q D cT ad (gg_A wm ad s.heap.size) post) args s ce sl (gg_A wm ad s.heap.size)) w ce sl x pc lo kd :=
  fun H locs ls st a cell hP hS _ h1 h2 h3 => xt_out (g := F0 m pc ls st) rfl rfl rfl (fun z hz => by rw [okx] at hz; cases hz) ok.2.2.2.2.2.2.2.1 (fun t ht hW => ⟨⟨.inr kd, x, ⟨a, cell, rfl, by rw [ht]; exact h1, h2, by rw [hW.alike.findClass]; exact h3⟩, hp, by rw [ht]; exact hP, va_K.moved hW.alike ok.2.2.2.2.2.1⟩, gg_F_mono hw (hS.F ht)⟩) (fun q hq => gg_A_mono hw (Nat.le_refl _) (hS.2.2 q hq))
end GC
/-- a method's contract out of the walk of its body -/
theorem gg_of {l : Launch} {y : MethodName} {b : ByteArray} {n : Nat} {r : Option FieldType} {rm : Room} {wm : Bool} {As : List gg_V} {x : gg_X} {post : gg_U → gg_X → Prop} (htr : l.stackTraces = false) (hy : plainName y.cls = true) (hn : (lg_sl (As.map (gg_c (fun _ _ => 0)))).length ≤ n)
    (body : ∀ {p : Program} {e : Env} {s : State} {m : MethodId} {args : Array Value} {below : List Frame} {meth : Method} {c : Code} {D : va_G} {cT : Nat → ClassId} {ad : Nat → Nat → Nat}, gg_Ok p s m args meth c b n y.cls D cT ad → c.exceptionTable.toList = [] → e.platform.stackTraces = false → meth.sig.returnType = r → (∀ f i, i < gg_cnt f → ad f i < s.heap.size) →
      gg_G p l e rm s m args below meth c n D cT ad (xt_MQ below (gg_Q D cT ad (gg_A wm ad s.heap.size) post) args s rm.cells rm.slots (gg_A wm ad s.heap.size)) false 0 0 x 0 (gg_args 0 As) []) : gg_Con l y b n r rm wm As x post := by
  intro D cT ad sz
  refine xt_ofW (bytes := b) (maxL := n) (ret := r) (ws' := gg_gt) hy rfl ?_
  intro p e s m args below meth c s₁ B hml hv
  obtain ⟨rfl, rfl, hP, hK, hap, hSd⟩ := hv
  have hts := atoms_spec (ws := gg_wz y b n r) B.pre
  have hown : s.vm.findClass y.cls = some m.cls := findClass_of_methodNamed B.named
  have X := Stand.of_body B
  obtain ⟨meth', c', g1, g2, -, -, -, -, g3, -⟩ := Cond.code_spec B.named (hts (Cond.code y b n r) List.mem_cons_self)
  cases g1.symm.trans B.method
  cases g2.symm.trans X.code
  have hx : c.exceptionTable.toList = [] := List.eq_nil_of_length_eq_zero (by simpa [Array.isEmpty] using g3)
  have htr' : e.platform.stackTraces = false := by
    have h5 := B.admits.2.2.2.2.1
    rw [h5]
    exact htr
  have hin : ∀ f i, i < gg_cnt f → ad f i < s.heap.size := fun f i hi => (hP _ _ (gg_w_at hi)).lt
  have hle : (lg_sl (As.map (gg_c ad))).length ≤ n := by
    have h6 : ∀ (vs : List gg_V) (a1 a2 : Nat → Nat → Nat), (lg_sl (vs.map (gg_c a1))).length = (lg_sl (vs.map (gg_c a2))).length := by
      intro vs a1 a2
      induction vs with
      | nil => rfl
      | cons v t ih =>
        simp only [lg_sl, List.map_cons, List.flatMap_cons, List.length_append, gg_cat_c] at ih ⊢
        rw [ih]
        congr 1
        split <;> rfl
    rw [h6 As ad (fun _ _ => 0)]
    exact hn
  have hl := lv_entry (As.map (gg_c ad)) (n := n) hle
  rw [lg_entry_eq]
  rw [gg_args_c] at hl
  exact body (p := p) (e := e) (s := s) (m := m) (args := (As.map (gg_c ad)).toArray) (below := below) (meth := meth) (c := c) (D := D) (cT := cT) (ad := ad) ⟨B.exec, B.bytes, hml, hown, fun w hw => hts w (List.mem_cons_of_mem _ hw), hK, hap, B.notSynchronized, hSd⟩ hx htr' B.returns hin s.heap [] _ hP va_S.rf hl
/-- entry 'index' of own's pool is method y, an virtual method of kind number ci with k parameters -/
def gg_CV (own : String) (index : Nat) (y : MethodName) (b : ByteArray) (n : Nat) (r : Option FieldType) (ci k : Nat) : Prop := Cond.methodLink own index y ∈ gg_gt ∧ Cond.instanceMethod y ∈ gg_gt ∧ Cond.selects y.cls y y ∈ gg_gt ∧ Cond.code y b n r ∈ gg_gt ∧ Cond.initialized y.cls ∈ gg_gt ∧ (y.cls ≠ "java/lang/invoke/MethodHandle" ∧ y.cls ≠ "java/lang/invoke/VarHandle") ∧ (parseMethodDescriptor y.desc).map (fun d => d.parameters.length) = some k ∧ ∃ (T : u_T) (N : Nat), gg_cl[ci]? = some (y.cls, T, N)
def gg_CS (own : String) (index : Nat) (y : MethodName) (b : ByteArray) (n : Nat) (r : Option FieldType) (k : Nat) : Prop := Cond.methodLink own index y ∈ gg_gt ∧ Cond.static y ∈ gg_gt ∧ Cond.code y b n r ∈ gg_gt ∧ Cond.initialized y.cls ∈ gg_gt ∧ (y.cls ≠ "java/lang/invoke/MethodHandle" ∧ y.cls ≠ "java/lang/invoke/VarHandle") ∧ (parseMethodDescriptor y.desc).map (fun d => d.parameters.length) = some k
theorem gg_good {y : MethodName} {b : ByteArray} {n : Nat} {r : Option FieldType} (h : Cond.code y b n r ∈ gg_gt) : GoodIn gg_gt (gg_wz y b n r) := by
  intro w hw
  rcases List.mem_cons.mp hw with rfl | hw
  · exact ⟨h, gg_gt_ok _ h⟩
  · exact ⟨hw, gg_gt_ok _ hw⟩
section GD
variable {p : Program} {l : Launch} {e : Env} {R : Room} {s : State} {m : MethodId} {args : Array Value} {below : List Frame} {meth : Method} {c : Code} {Q : State → Prop} {cc : ByteArray} {nL : Nat} {own : String} {D : va_G} {cT : Nat → ClassId} {ad : Nat → Nat → Nat} {w : Bool} {ce sl : Nat} {x : gg_X} {pc : Nat} {lo : List (Nat × gg_V)} {st : List gg_V}
/-- the part of a call that is the same for all kinds: from the callee's start -/
theorem gg_call (ok : gg_Ok p s m args meth c cc nL own D cT ad) {y : MethodName} {b : ByteArray} {n : Nat} {r : Option FieldType} {rm : Room} {v : Bool} {As : List gg_V} {post : gg_U → gg_X → Prop} {ig : Instr}
    (hC : gg_Con l y b n r rm v As x post) (hv : v = true → w = true) (hcode : Cond.code y b n r ∈ gg_gt) (hini : Cond.initialized y.cls ∈ gg_gt) (hcat : (st.map gg_cat).sum ≤ 8) (hfr : rm.frames + 1 ≤ R.frames) (hlo : 8 + (n + 11) + rm.locals ≤ R.locals) (hce : ce + rm.cells ≤ R.cells) (hsl : sl + rm.slots ≤ R.slots)
    {H : Heap} {locs : List Loc} {ls : Array Slot} (hP : va_P D gg_cl (gg_w cT ad x) H) (hS : va_S (gg_A w ad s.heap.size) s.heap H locs) (hl : lv_has ls nL (gg_clo ad lo))
    (kr : ∀ (v : Option gg_V) (x : gg_X), post (.inl v) x → gg_G p l e R s m args below meth c nL D cT ad Q w (ce + rm.cells) (sl + rm.slots) x (pc + 3) lo (v.toList ++ st))
    (kt : ∀ (kd : Nat) (x : gg_X), post (.inr kd) x → gg_T p l e R s m args below meth c nL D cT ad Q w (ce + rm.cells) (sl + rm.slots) x pc lo kd)
    {T : State} (hT : T.heap = H) (X : Stand p l e R s m args below meth c T locs ce sl) (hdg : decode c.code pc = .ok (ig, 3)) {mk : MethodId} (hnamed : T.methodNamed? y = some mk) :
    ∃ t, Steps p.tables e below (doInvoke e (T.setTop (F0 m pc ls (gg_cst ad st))) [] mk (As.map (gg_c ad)).toArray).1 t ∧ Q t := by
  have hcat' : ((gg_cst ad st).map fun v => v.category).sum ≤ 8 := by
    have h1 : ((gg_cst ad st).map fun v => v.category) = st.map gg_cat := by
      simp only [gg_cst, List.map_map, Function.comp_def, gg_cat_c]
    rw [h1]
    exact hcat
  obtain ⟨o, t, T', L, ⟨⟨o', x', ho', hp, hP', hK'⟩, hF⟩, e1, e2, hL, X', hst, hend⟩ := xt_call (g := F0 m pc ls (gg_cst ad st)) X (hC D cT ad H.size) gg_blind rfl rfl hfr hlo (pay_in ok.2.2.2.2.1 (gg_good hcode)) (bytes := b) (maxL := n) (ret := r) List.mem_cons_self
    (fun a' U hW => word_at hW (Or.inl rfl) (ok.2.2.2.2.1 _ hini)) rfl (hl.1.trans ok.2.2.1.symm) hdg (lv_room hcat') hnamed hce hsl (a := (As.map (gg_c ad)).toArray)
    ⟨rfl, by rw [hT], by rw [hT]; exact hP, va_K.moved X.warmed.alike ok.2.2.2.2.2.1, ok.2.2.2.2.2.2.1, ok.2.2.2.2.2.2.2.2.go X.warmed hT hS⟩
  have hz : H.size ≤ t.heap.size := by
    have h1 := hF.1
    rw [show (T.calling (F0 m pc ls (gg_cst ad st)) mk (As.map (gg_c ad)).toArray).heap = H from hT] at h1
    exact h1
  have hk : ∀ q : Nat, q < H.size → ¬ gg_A v ad H.size q → t.heap[q]? = H[q]? := by
    have h1 := hF.2
    rw [show (T.calling (F0 m pc ls (gg_cst ad st)) mk (As.map (gg_c ad)).toArray).heap = H from hT] at h1
    exact h1
  have hS' : va_S (gg_A w ad s.heap.size) s.heap T'.heap (locs ++ L) := by
    rw [e1]
    refine ⟨Nat.le_trans hS.1 hz, fun q h1 h2 => ?_, fun q hq => ?_⟩
    · rw [hk q (Nat.lt_of_lt_of_le h1 hS.1) (fun z => h2 (gg_A_mono hv hS.1 z))]
      exact hS.2.1 q h1 h2
    · rcases List.mem_append.mp hq with h | h
      · exact hS.2.2 q h
      · exact gg_A_mono hv hS.1 (hL q h)
  rw [← e1] at hP'
  cases o' with
  | inl v' =>
    have ho : o = .returned (v'.map (gg_c ad)) := ho'
    subst ho
    rcases hend with ⟨u, hu, ht⟩ | ⟨a, ha, -⟩
    · cases hu
      obtain ⟨t2, a1, b1⟩ := kr v' x' hp T'.heap (locs ++ L) ls hP' hS' hl T' rfl X'
      refine ⟨t2, hst.trans ?_, b1⟩
      rw [ht]
      have h9 : ({ F0 m pc ls (gg_cst ad st) with pc := (F0 m pc ls (gg_cst ad st)).pc + 3, stack := (v'.map (gg_c ad)).toList ++ (F0 m pc ls (gg_cst ad st)).stack } : JFrame) = F0 m (pc + 3) ls (gg_cst ad (v'.toList ++ st)) := by
        cases v' <;> rfl
      rw [h9]
      exact a1
    · cases ha
  | inr kd =>
    obtain ⟨a, cell, rfl, h1, h2, h3⟩ := ho'
    rcases hend with ⟨u, hu, -⟩ | ⟨a', ha, ht⟩
    · cases hu
    · cases ha
      have h4 : s.vm.findClass (gg_xn kd) = some cell.cls := by
        rw [← e2, X'.warmed.alike.findClass] at h3
        exact h3
      obtain ⟨t2, a1, b1⟩ := kt kd x' hp T'.heap (locs ++ L) ls (gg_cst ad st) a cell hP' hS' hl (by rw [e1]; exact h1) h2 h4 T' rfl X'
      refine ⟨t2, hst.trans ?_, b1⟩
      rw [ht]
      exact a1
theorem gg_callV (ok : gg_Ok p s m args meth c cc nL own D cT ad) {y : MethodName} {b : ByteArray} {n index ci k f i : Nat} {r : Option FieldType} {rm : Room} {v : Bool} {As : List gg_V} {st0 : List gg_V} {post : gg_U → gg_X → Prop} {cs : List Nat}
    (hd : decode cc pc = .ok (.invokevirtual index, 3)) (hc : gg_CV own index y b n r ci k) (hC : gg_Con l y b n r rm v (gg_r f i :: As) x post) (hv : v = true → w = true) (hs : gg_sh f = .inl (ci, cs)) (hi : i < gg_cnt f) (hn : As.length = k) (hst : st0 = As.reverse ++ gg_r f i :: st) (hcat : (st.map gg_cat).sum ≤ 8) (hfr : rm.frames + 1 ≤ R.frames) (hlo : 8 + (n + 11) + rm.locals ≤ R.locals) (hce : ce + rm.cells ≤ R.cells) (hsl : sl + rm.slots ≤ R.slots)
    (kr : ∀ (v : Option gg_V) (x : gg_X), post (.inl v) x → gg_G p l e R s m args below meth c nL D cT ad Q w (ce + rm.cells) (sl + rm.slots) x (pc + 3) lo (v.toList ++ st))
    (kt : ∀ (kd : Nat) (x : gg_X), post (.inr kd) x → gg_T p l e R s m args below meth c nL D cT ad Q w (ce + rm.cells) (sl + rm.slots) x pc lo kd) :
    gg_G p l e R s m args below meth c nL D cT ad Q w ce sl x pc lo st0 := by
  intro H locs ls hP hS hl T hT X
  subst hst
  obtain ⟨c1, c2, c3, c4, c5, c6, c7, TT, NN, c8⟩ := hc
  have hts := ok.2.2.2.2.1
  have he : (gg_w cT ad x)[gg_off f + i]? = some (ad f i, .inr (ci, (gg_fs x f i 0 cs).map (gg_c ad))) := by rw [gg_w_at hi, gg_ce_o hs]
  obtain ⟨cellB, hcB, hoB, hclB⟩ := va_recv ok.2.2.2.2.2.1 hP c8 he
  obtain ⟨mk, methM, hnamed, hmethM, hstM, habM⟩ := Cond.instanceMethod_spec (hts _ c2)
  obtain ⟨methM', cM, hmethM', -, -, -, -, -, -, hsigM⟩ := Cond.code_spec hnamed (hts _ c4)
  cases hmethM.symm.trans hmethM'
  obtain ⟨c2', r2, m2, q1, q2, q3, q4, kP, hkP, hkPi⟩ := Cond.selects_spec (hts _ c3)
  cases hclB.symm.trans q1
  cases (State.methodFound?_of_named hnamed c6).symm.trans q2
  cases hnamed.symm.trans q3
  have hselP : selectMethod e.platform s.vm cellB.cls mk = .method mk := by rw [Launch.admits_selectMethod X.admits]; exact q4
  have hlen : (As.map (gg_c ad)).length = methM.sig.parameters.length := by
    have h2 := c7
    rw [hsigM] at h2
    rw [List.length_map, hn]
    exact (Option.some.inj h2).symm
  have hdg : decode c.code pc = .ok (.invokevirtual index, 3) := by rw [ok.2.1]; exact hd
  obtain ⟨vm₁, X₁, hstep₁⟩ := X.invokevirtual ok.1 ok.2.2.2.1 (hts _ c1) hnamed hmethM hstM hkP hkPi c6 (a := ad f i) (cell := cellB) (by rw [hT]; exact hcB)
    (fun z h => by rw [h] at hoB; cases hoB) hselP hmethM habM hkP hkPi (g := F0 m pc ls (gg_cst ad (As.reverse ++ gg_r f i :: st))) rfl (argsL := As.map (gg_c ad)) (rest := gg_cst ad st) hlen (by simp [gg_cst, gg_c, List.map_reverse]) hdg
  obtain ⟨t2, a1, b1⟩ := gg_call ok hC hv c4 c5 hcat hfr hlo hce hsl hP hS hl kr kt (T := T.setVm vm₁) hT X₁ hdg (X₁.named hnamed)
  refine ⟨t2, hstep₁ _ fun acts => ?_, b1⟩
  rw [doInvoke_state]
  exact a1
theorem gg_callS (ok : gg_Ok p s m args meth c cc nL own D cT ad) {y : MethodName} {b : ByteArray} {n index k : Nat} {r : Option FieldType} {rm : Room} {v : Bool} {As : List gg_V} {st0 : List gg_V} {post : gg_U → gg_X → Prop}
    (hd : decode cc pc = .ok (.invokestatic index, 3)) (hc : gg_CS own index y b n r k) (hC : gg_Con l y b n r rm v As x post) (hv : v = true → w = true) (hn : As.length = k) (hst : st0 = As.reverse ++ st) (hcat : (st.map gg_cat).sum ≤ 8) (hfr : rm.frames + 1 ≤ R.frames) (hlo : 8 + (n + 11) + rm.locals ≤ R.locals) (hce : ce + rm.cells ≤ R.cells) (hsl : sl + rm.slots ≤ R.slots)
    (kr : ∀ (v : Option gg_V) (x : gg_X), post (.inl v) x → gg_G p l e R s m args below meth c nL D cT ad Q w (ce + rm.cells) (sl + rm.slots) x (pc + 3) lo (v.toList ++ st))
    (kt : ∀ (kd : Nat) (x : gg_X), post (.inr kd) x → gg_T p l e R s m args below meth c nL D cT ad Q w (ce + rm.cells) (sl + rm.slots) x pc lo kd) :
    gg_G p l e R s m args below meth c nL D cT ad Q w ce sl x pc lo st0 := by
  intro H locs ls hP hS hl T hT X
  subst hst
  obtain ⟨c1, c2, c4, c5, c6, c7⟩ := hc
  have hts := ok.2.2.2.2.1
  obtain ⟨mk, hnamed⟩ := Cond.code_named (hts _ c4)
  obtain ⟨methM, cM, hmethM, -, -, -, -, -, -, hsigM⟩ := Cond.code_spec hnamed (hts _ c4)
  have hstatic : methM.isStatic = true := Cond.static_spec hnamed hmethM (hts _ c2)
  obtain ⟨kP, hkP, -⟩ := className_of_methodNamed hnamed
  have hinitP : kP.init = .initialized := Cond.initialized_spec (findClass_of_methodNamed hnamed) hkP (hts _ c5)
  have hlen : (As.map (gg_c ad)).length = methM.sig.parameters.length := by
    have h2 := c7
    rw [hsigM] at h2
    rw [List.length_map, hn]
    exact (Option.some.inj h2).symm
  have hdg : decode c.code pc = .ok (.invokestatic index, 3) := by rw [ok.2.1]; exact hd
  obtain ⟨vm₁, X₁, hstep₁⟩ := X.invokestatic ok.1 ok.2.2.2.1 (hts _ c1) hnamed hmethM hstatic hkP hinitP c6 (g := F0 m pc ls (gg_cst ad (As.reverse ++ st))) rfl (argsL := As.map (gg_c ad)) (rest := gg_cst ad st) hlen (by simp [gg_cst, List.map_reverse]) hdg
  obtain ⟨t2, a1, b1⟩ := gg_call ok hC hv c4 c5 hcat hfr hlo hce hsl hP hS hl kr kt (T := T.setVm vm₁) hT X₁ hdg (X₁.named hnamed)
  refine ⟨t2, hstep₁ _ fun acts => ?_, b1⟩
  rw [doInvoke_state]
  exact a1
theorem gg_callV0 (ok : gg_Ok p s m args meth c cc nL own D cT ad) {y : MethodName} {b : ByteArray} {n index ci k f i : Nat} {r : Option FieldType} {rm : Room} {v : Bool} {As : List gg_V} {st0 : List gg_V} {cs : List Nat} {x' : gg_X}
    (hd : decode cc pc = .ok (.invokevirtual index, 3)) (hc : gg_CV own index y b n r ci k) (hC : gg_Cd l y b n r rm v (gg_r f i :: As) x (.inl none) x') (hv : v = true → w = true) (hs : gg_sh f = .inl (ci, cs)) (hi : i < gg_cnt f) (hn : As.length = k) (hst : st0 = As.reverse ++ gg_r f i :: st) (hcat : (st.map gg_cat).sum ≤ 8) (hfr : rm.frames + 1 ≤ R.frames) (hlo : 8 + (n + 11) + rm.locals ≤ R.locals) (hce : ce + rm.cells ≤ R.cells) (hsl : sl + rm.slots ≤ R.slots)
    (k0 : gg_G p l e R s m args below meth c nL D cT ad Q w (ce + rm.cells) (sl + rm.slots) x' (pc + 3) lo st) : gg_G p l e R s m args below meth c nL D cT ad Q w ce sl x pc lo st0 :=
  gg_callV ok hd hc hC hv hs hi hn hst hcat hfr hlo hce hsl (fun v2 x2 h => by obtain ⟨h1, rfl⟩ := h; cases h1; exact k0) (fun k2 x2 h => by cases h.1)
theorem gg_callV1 (ok : gg_Ok p s m args meth c cc nL own D cT ad) {y : MethodName} {b : ByteArray} {n index ci k f i : Nat} {r : Option FieldType} {rm : Room} {v : Bool} {As : List gg_V} {st0 : List gg_V} {cs : List Nat} {v1 : gg_V} {x' : gg_X}
    (hd : decode cc pc = .ok (.invokevirtual index, 3)) (hc : gg_CV own index y b n r ci k) (hC : gg_Cd l y b n r rm v (gg_r f i :: As) x (.inl (some v1)) x') (hv : v = true → w = true) (hs : gg_sh f = .inl (ci, cs)) (hi : i < gg_cnt f) (hn : As.length = k) (hst : st0 = As.reverse ++ gg_r f i :: st) (hcat : (st.map gg_cat).sum ≤ 8) (hfr : rm.frames + 1 ≤ R.frames) (hlo : 8 + (n + 11) + rm.locals ≤ R.locals) (hce : ce + rm.cells ≤ R.cells) (hsl : sl + rm.slots ≤ R.slots)
    (k0 : gg_G p l e R s m args below meth c nL D cT ad Q w (ce + rm.cells) (sl + rm.slots) x' (pc + 3) lo (v1 :: st)) : gg_G p l e R s m args below meth c nL D cT ad Q w ce sl x pc lo st0 :=
  gg_callV ok hd hc hC hv hs hi hn hst hcat hfr hlo hce hsl (fun v2 x2 h => by obtain ⟨h1, rfl⟩ := h; cases h1; exact k0) (fun k2 x2 h => by cases h.1)
theorem gg_callVt (ok : gg_Ok p s m args meth c cc nL own D cT ad) {y : MethodName} {b : ByteArray} {n index ci k f i : Nat} {r : Option FieldType} {rm : Room} {v : Bool} {As : List gg_V} {st0 : List gg_V} {cs : List Nat} {kd : Nat} {x' : gg_X}
    (hd : decode cc pc = .ok (.invokevirtual index, 3)) (hc : gg_CV own index y b n r ci k) (hC : gg_Cd l y b n r rm v (gg_r f i :: As) x (.inr kd) x') (hv : v = true → w = true) (hs : gg_sh f = .inl (ci, cs)) (hi : i < gg_cnt f) (hn : As.length = k) (hst : st0 = As.reverse ++ gg_r f i :: st) (hcat : (st.map gg_cat).sum ≤ 8) (hfr : rm.frames + 1 ≤ R.frames) (hlo : 8 + (n + 11) + rm.locals ≤ R.locals) (hce : ce + rm.cells ≤ R.cells) (hsl : sl + rm.slots ≤ R.slots)
    (k0 : gg_T p l e R s m args below meth c nL D cT ad Q w (ce + rm.cells) (sl + rm.slots) x' pc lo kd) : gg_G p l e R s m args below meth c nL D cT ad Q w ce sl x pc lo st0 :=
  gg_callV ok hd hc hC hv hs hi hn hst hcat hfr hlo hce hsl (fun v2 x2 h => by cases h.1) (fun k2 x2 h => by obtain ⟨h1, rfl⟩ := h; cases h1; exact k0)
theorem gg_callS0 (ok : gg_Ok p s m args meth c cc nL own D cT ad) {y : MethodName} {b : ByteArray} {n index k : Nat} {r : Option FieldType} {rm : Room} {v : Bool} {As : List gg_V} {st0 : List gg_V} {x' : gg_X}
    (hd : decode cc pc = .ok (.invokestatic index, 3)) (hc : gg_CS own index y b n r k) (hC : gg_Cd l y b n r rm v As x (.inl none) x') (hv : v = true → w = true) (hn : As.length = k) (hst : st0 = As.reverse ++ st) (hcat : (st.map gg_cat).sum ≤ 8) (hfr : rm.frames + 1 ≤ R.frames) (hlo : 8 + (n + 11) + rm.locals ≤ R.locals) (hce : ce + rm.cells ≤ R.cells) (hsl : sl + rm.slots ≤ R.slots)
    (k0 : gg_G p l e R s m args below meth c nL D cT ad Q w (ce + rm.cells) (sl + rm.slots) x' (pc + 3) lo st) : gg_G p l e R s m args below meth c nL D cT ad Q w ce sl x pc lo st0 :=
  gg_callS ok hd hc hC hv hn hst hcat hfr hlo hce hsl (fun v2 x2 h => by obtain ⟨h1, rfl⟩ := h; cases h1; exact k0) (fun k2 x2 h => by cases h.1)
theorem gg_callS1 (ok : gg_Ok p s m args meth c cc nL own D cT ad) {y : MethodName} {b : ByteArray} {n index k : Nat} {r : Option FieldType} {rm : Room} {v : Bool} {As : List gg_V} {st0 : List gg_V} {v1 : gg_V} {x' : gg_X}
    (hd : decode cc pc = .ok (.invokestatic index, 3)) (hc : gg_CS own index y b n r k) (hC : gg_Cd l y b n r rm v As x (.inl (some v1)) x') (hv : v = true → w = true) (hn : As.length = k) (hst : st0 = As.reverse ++ st) (hcat : (st.map gg_cat).sum ≤ 8) (hfr : rm.frames + 1 ≤ R.frames) (hlo : 8 + (n + 11) + rm.locals ≤ R.locals) (hce : ce + rm.cells ≤ R.cells) (hsl : sl + rm.slots ≤ R.slots)
    (k0 : gg_G p l e R s m args below meth c nL D cT ad Q w (ce + rm.cells) (sl + rm.slots) x' (pc + 3) lo (v1 :: st)) : gg_G p l e R s m args below meth c nL D cT ad Q w ce sl x pc lo st0 :=
  gg_callS ok hd hc hC hv hn hst hcat hfr hlo hce hsl (fun v2 x2 h => by obtain ⟨h1, rfl⟩ := h; cases h1; exact k0) (fun k2 x2 h => by cases h.1)
theorem gg_callSt (ok : gg_Ok p s m args meth c cc nL own D cT ad) {y : MethodName} {b : ByteArray} {n index k : Nat} {r : Option FieldType} {rm : Room} {v : Bool} {As : List gg_V} {st0 : List gg_V} {kd : Nat} {x' : gg_X}
    (hd : decode cc pc = .ok (.invokestatic index, 3)) (hc : gg_CS own index y b n r k) (hC : gg_Cd l y b n r rm v As x (.inr kd) x') (hv : v = true → w = true) (hn : As.length = k) (hst : st0 = As.reverse ++ st) (hcat : (st.map gg_cat).sum ≤ 8) (hfr : rm.frames + 1 ≤ R.frames) (hlo : 8 + (n + 11) + rm.locals ≤ R.locals) (hce : ce + rm.cells ≤ R.cells) (hsl : sl + rm.slots ≤ R.slots)
    (k0 : gg_T p l e R s m args below meth c nL D cT ad Q w (ce + rm.cells) (sl + rm.slots) x' pc lo kd) : gg_G p l e R s m args below meth c nL D cT ad Q w ce sl x pc lo st0 :=
  gg_callS ok hd hc hC hv hn hst hcat hfr hlo hce hsl (fun v2 x2 h => by cases h.1) (fun k2 x2 h => by obtain ⟨h1, rfl⟩ := h; cases h1; exact k0)
end GD
