def gg_wh (y : MethodName) (b : ByteArray) (n : Nat) (r : Option FieldType) (hh : List (Nat × Nat × Nat × Nat)) : List Cond := Cond.codeWith y b n r hh :: gg_gt
def gg_ConW (l : Launch) (y : MethodName) (b : ByteArray) (n : Nat) (r : Option FieldType) (hh : List (Nat × Nat × Nat × Nat)) (rm : Room) (w : Bool) (As : List gg_V) (x : gg_X) (post : gg_U → gg_X → Prop) : Prop :=
  ∀ (D : va_G) (cT : Nat → ClassId) (ad : Nat → Nat → Nat) (sz : Nat), xt_Met l y (gg_wh y b n r hh) rm (gg_P D cT ad sz As x) (gg_Q D cT ad (gg_A w ad sz) post) rm.cells rm.slots (gg_A w ad sz)
abbrev gg_CdW (l : Launch) (y : MethodName) (b : ByteArray) (n : Nat) (r : Option FieldType) (hh : List (Nat × Nat × Nat × Nat)) (rm : Room) (w : Bool) (As : List gg_V) (x : gg_X) (o : gg_U) (x' : gg_X) : Prop := gg_ConW l y b n r hh rm w As x (fun o1 x1 => o1 = o ∧ x1 = x')
def gg_xe (q : Nat × Nat × Nat × Nat) : ExceptionTableEntry := ⟨q.1, q.2.1, q.2.2.1, q.2.2.2⟩
theorem gg_ofH {l : Launch} {y : MethodName} {b : ByteArray} {n : Nat} {r : Option FieldType} {hh : List (Nat × Nat × Nat × Nat)} {rm : Room} {wm : Bool} {As : List gg_V} {x : gg_X} {post : gg_U → gg_X → Prop} (hy : plainName y.cls = true) (hn : (lg_sl (As.map (gg_c (fun _ _ => 0)))).length ≤ n)
    (body : ∀ {p : Program} {e : Env} {s : State} {m : MethodId} {args : Array Value} {below : List Frame} {meth : Method} {c : Code} {D : va_G} {cT : Nat → ClassId} {ad : Nat → Nat → Nat}, gg_Ok p s m args meth c b n y.cls D cT ad → c.exceptionTable.toList = hh.map gg_xe → meth.sig.returnType = r →
      gg_G p l e rm s m args below meth c n D cT ad (xt_MQ below (gg_Q D cT ad (gg_A wm ad s.heap.size) post) args s rm.cells rm.slots (gg_A wm ad s.heap.size)) false 0 0 x 0 (gg_args 0 As) []) : gg_ConW l y b n r hh rm wm As x post := by
  intro D cT ad sz
  refine xt_ofWH (bytes := b) (maxL := n) (ret := r) (hh := hh) (ws' := gg_gt) hy rfl ?_
  intro p e s m args below meth c s₁ B hml hv
  obtain ⟨rfl, rfl, hP, hK, hap, hSd⟩ := hv
  have hts := atoms_spec (ws := gg_wh y b n r hh) B.pre
  have hown : s.vm.findClass y.cls = some m.cls := findClass_of_methodNamed B.named
  have X := Stand.of_body B
  obtain ⟨m', meth', c', g0, g1, g2, -, -, g3, -, -, -⟩ := Cond.codeWith_spec (hts (Cond.codeWith y b n r hh) List.mem_cons_self)
  cases g0.symm.trans B.named
  cases g1.symm.trans B.method
  cases g2.symm.trans X.code
  have hx : c.exceptionTable.toList = hh.map gg_xe := by
    rw [← g3, List.map_map]
    have h7 : ∀ (es : List ExceptionTableEntry), es.map (gg_xe ∘ fun h => (h.startPc, h.endPc, h.handlerPc, h.catchType)) = es := by
      intro es
      induction es with
      | nil => rfl
      | cons z t ih => rw [List.map_cons, ih]; rfl
    rw [h7]
  have hle : (lg_sl (As.map (gg_c ad))).length ≤ n := by
    have h6 : ∀ (vs : List gg_V) (a1 a2 : Nat → Nat → Nat), (lg_sl (vs.map (gg_c a1))).length = (lg_sl (vs.map (gg_c a2))).length := by
      intro vs a1 a2
      induction vs with
      | nil => rfl
      | cons v t ih =>
        simp only [lg_sl, List.map_cons, List.flatMap_cons, List.length_append, gg_cat_c] at ih ⊢
        rw [ih]
        congr 1
        split <;> rfl
    rw [h6 As ad (fun _ _ => 0)]
    exact hn
  have hl := lv_entry (As.map (gg_c ad)) (n := n) hle
  rw [lg_entry_eq]
  rw [gg_args_c] at hl
  exact body (p := p) (e := e) (s := s) (m := m) (args := (As.map (gg_c ad)).toArray) (below := below) (meth := meth) (c := c) (D := D) (cT := cT) (ad := ad) ⟨B.exec, B.bytes, hml, hown, fun w hw => hts w (List.mem_cons_of_mem _ hw), hK, hap, B.notSynchronized, hSd⟩ hx B.returns s.heap [] _ hP va_S.rf hl
def gg_CSW (own : String) (index : Nat) (y : MethodName) (b : ByteArray) (n : Nat) (r : Option FieldType) (hh : List (Nat × Nat × Nat × Nat)) (k : Nat) : Prop := Cond.methodLink own index y ∈ gg_gt ∧ Cond.static y ∈ gg_gt ∧ Cond.codeWith y b n r hh ∈ gg_gt ∧ Cond.initialized y.cls ∈ gg_gt ∧ (y.cls ≠ "java/lang/invoke/MethodHandle" ∧ y.cls ≠ "java/lang/invoke/VarHandle") ∧ (parseMethodDescriptor y.desc).map (fun d => d.parameters.length) = some k
theorem gg_goodW {y : MethodName} {b : ByteArray} {n : Nat} {r : Option FieldType} {hh : List (Nat × Nat × Nat × Nat)} (h : Cond.codeWith y b n r hh ∈ gg_gt) : GoodIn gg_gt (gg_wh y b n r hh) := by
  intro w hw
  rcases List.mem_cons.mp hw with rfl | hw
  · exact ⟨h, gg_gt_ok _ h⟩
  · exact ⟨hw, gg_gt_ok _ hw⟩
section GE
variable {p : Program} {l : Launch} {e : Env} {R : Room} {s : State} {m : MethodId} {args : Array Value} {below : List Frame} {meth : Method} {c : Code} {Q : State → Prop} {cc : ByteArray} {nL : Nat} {own : String} {D : va_G} {cT : Nat → ClassId} {ad : Nat → Nat → Nat} {w : Bool} {ce sl : Nat} {x : gg_X} {pc : Nat} {lo lo' : List (Nat × gg_V)} {st : List gg_V}
/-- a static call of a method with handlers that returns -/
theorem gg_callW (ok : gg_Ok p s m args meth c cc nL own D cT ad) {y : MethodName} {b : ByteArray} {n index k : Nat} {r : Option FieldType} {hh : List (Nat × Nat × Nat × Nat)} {rm : Room} {v : Bool} {As : List gg_V} {st0 : List gg_V} {v1 : gg_V} {x' : gg_X}
    (hd : decode cc pc = .ok (.invokestatic index, 3)) (hc : gg_CSW own index y b n r hh k) (hC : gg_CdW l y b n r hh rm v As x (.inl (some v1)) x') (hv : v = true → w = true) (hn : As.length = k) (hst : st0 = As.reverse ++ st) (hcat : (st.map gg_cat).sum ≤ 8) (hfr : rm.frames + 1 ≤ R.frames) (hlo : 8 + (n + 11) + rm.locals ≤ R.locals) (hce : ce + rm.cells ≤ R.cells) (hsl : sl + rm.slots ≤ R.slots)
    (kr : gg_G p l e R s m args below meth c nL D cT ad Q w (ce + rm.cells) (sl + rm.slots) x' (pc + 3) lo (v1 :: st)) :
    gg_G p l e R s m args below meth c nL D cT ad Q w ce sl x pc lo st0 := by
  intro H locs ls hP hS hl T hT X
  subst hst
  obtain ⟨c1, c2, c4, c5, c6, c7⟩ := hc
  have hts := ok.2.2.2.2.1
  obtain ⟨mk, methM, cM, hnamed, hmethM, -, -, -, -, -, -, hsigM⟩ := Cond.codeWith_spec (hts _ c4)
  have hstatic : methM.isStatic = true := Cond.static_spec hnamed hmethM (hts _ c2)
  obtain ⟨kP, hkP, -⟩ := className_of_methodNamed hnamed
  have hinitP : kP.init = .initialized := Cond.initialized_spec (findClass_of_methodNamed hnamed) hkP (hts _ c5)
  have hlen : (As.map (gg_c ad)).length = methM.sig.parameters.length := by
    have h2 := c7
    rw [hsigM] at h2
    rw [List.length_map, hn]
    exact (Option.some.inj h2).symm
  have hdg : decode c.code pc = .ok (.invokestatic index, 3) := by rw [ok.2.1]; exact hd
  obtain ⟨vm₁, X₁, hstep₁⟩ := X.invokestatic ok.1 ok.2.2.2.1 (hts _ c1) hnamed hmethM hstatic hkP hinitP c6 (g := F0 m pc ls (gg_cst ad (As.reverse ++ st))) rfl (argsL := As.map (gg_c ad)) (rest := gg_cst ad st) hlen (by simp [gg_cst, List.map_reverse]) hdg
  have hcat' : ((gg_cst ad st).map fun v => v.category).sum ≤ 8 := by
    have h1 : ((gg_cst ad st).map fun v => v.category) = st.map gg_cat := by
      simp only [gg_cst, List.map_map, Function.comp_def, gg_cat_c]
    rw [h1]
    exact hcat
  obtain ⟨o, t, T', L, ⟨⟨o', x2, ho', ⟨hp1, hp2⟩, hP', hK'⟩, hF⟩, e1, e2, hL, X', hst, hend⟩ := xt_callW (g := F0 m pc ls (gg_cst ad st)) (T := T.setVm vm₁) X₁ (hC D cT ad H.size) gg_blind rfl rfl hfr hlo (pay_in ok.2.2.2.2.1 (gg_goodW c4)) (bytes := b) (maxL := n) (ret := r) (hh := hh) List.mem_cons_self
    (fun a' U hW => word_at hW (Or.inl rfl) (ok.2.2.2.2.1 _ c5)) rfl (hl.1.trans ok.2.2.1.symm) hdg (lv_room hcat') (X₁.named hnamed) hce hsl (a := (As.map (gg_c ad)).toArray)
    ⟨rfl, by show T.heap.size = _; rw [hT], by show va_P _ _ _ T.heap; rw [hT]; exact hP, va_K.moved X₁.warmed.alike ok.2.2.2.2.2.1, ok.2.2.2.2.2.2.1, ok.2.2.2.2.2.2.2.2.go (U := T.setVm vm₁) X₁.warmed hT hS⟩
  subst hp1
  subst hp2
  have hh1 : ((T.setVm vm₁).calling (F0 m pc ls (gg_cst ad st)) mk (As.map (gg_c ad)).toArray).heap = H := hT
  have hz : H.size ≤ t.heap.size := by
    have h1 := hF.1
    rw [hh1] at h1
    exact h1
  have hk : ∀ q : Nat, q < H.size → ¬ gg_A v ad H.size q → t.heap[q]? = H[q]? := by
    have h1 := hF.2
    rw [hh1] at h1
    exact h1
  have hS' : va_S (gg_A w ad s.heap.size) s.heap T'.heap (locs ++ L) := by
    rw [e1]
    refine ⟨Nat.le_trans hS.1 hz, fun q h1 h2 => ?_, fun q hq => ?_⟩
    · rw [hk q (Nat.lt_of_lt_of_le h1 hS.1) (fun z => h2 (gg_A_mono hv hS.1 z))]
      exact hS.2.1 q h1 h2
    · rcases List.mem_append.mp hq with h | h
      · exact hS.2.2 q h
      · exact gg_A_mono hv hS.1 (hL q h)
  rw [← e1] at hP'
  have ho : o = .returned (some (gg_c ad v1)) := ho'
  subst ho
  rcases hend with ⟨u, hu, ht⟩ | ⟨a, ha, -⟩
  · cases hu
    obtain ⟨t2, a1, b1⟩ := kr T'.heap (locs ++ L) ls hP' hS' hl T' rfl X'
    refine ⟨t2, hstep₁ _ fun acts => ?_, b1⟩
    rw [doInvoke_state]
    refine Steps.trans hst ?_
    rw [ht]
    exact a1
  · cases ha
/-- an exception that a row of the table takes, and the store that puts it away -/
theorem gg_catch (ok : gg_Ok p s m args meth c cc nL own D cT ad) {kd i len : Nat} (pre : List ExceptionTableEntry) (z : ExceptionTableEntry) (suf : List ExceptionTableEntry) {name : String} (hsplit : c.exceptionTable.toList = pre ++ z :: suf)
    (hpass : ∀ u ∈ pre, covers u pc = false ∨ (u.catchType ≠ 0 ∧ ∃ nm : String, Cond.classLink own u.catchType nm ∈ gg_gt ∧ va_Nc (gg_xn kd) nm s)) (hx : covers z pc = true) (h0 : z.catchType ≠ 0) (hlink : Cond.classLink own z.catchType name ∈ gg_gt) (hcast : (gg_xn kd, name) ∈ gg_nc)
    (hd : (∃ q : Fin 4, (q : Nat) = i ∧ decode cc z.handlerPc = .ok (.astore_n q, 1) ∧ len = 1) ∨ (decode cc z.handlerPc = .ok (.astore i, 2) ∧ len = 2)) (hn : i < nL) (hl0 : lo.filter (fun q => !(q.1 == i) && !(q.1 + 1 == i && gg_cat q.2 == 2)) = lo')
    (k : gg_G p l e R s m args below meth c nL D cT ad Q w ce sl x (z.handlerPc + len) lo' []) : gg_T p l e R s m args below meth c nL D cT ad Q w ce sl x pc lo kd := by
  intro H locs ls st a cell hP hS hl h1 h2 h3
  have hts := ok.2.2.2.2.1
  have hlo : ∀ ls' : Array Slot, lv_has ls' nL ((i, Value.ref a) :: (gg_clo ad lo).filter (fun q => !(q.1 == i) && !(q.1 + 1 == i && q.2.category == 2))) → lv_has ls' nL (gg_clo ad lo') := by
    intro ls' h
    refine ⟨h.1, h.2.1, fun q hq => h.2.2 q (List.mem_cons_of_mem _ ?_)⟩
    subst hl0
    have e9 := gg_lset_c ad lo i gg_n
    simp only [gg_lset, gg_clo, List.map_cons, List.cons.injEq] at e9
    rw [gg_clo, e9.2]
    exact hq
  refine xt_catch ok.2.2.2.1 pre z suf hsplit (fun u hu => ?_) hx h0 (hts _ hlink) (va_Nw.use rfl (ok.2.2.2.2.2.2.2.2.2.2.2.2.2.1 _ hcast)) h1 h2 h3 ?_
  · rcases hpass u hu with h | ⟨h, nm, hm1, hm2⟩
    · exact Or.inl h
    · exact Or.inr ⟨h, nm, hts _ hm1, hm2⟩
  · rcases hd with ⟨q, hq, hd, rfl⟩ | ⟨hd, rfl⟩
    · exact lv_astore_n ok.1 ok.2.1 hd hq hl hn rfl (fun ls' h => k H locs ls' hP hS (hlo ls' h))
    · exact lv_astore ok.1 ok.2.1 hd hl hn rfl (fun ls' h => k H locs ls' hP hS (hlo ls' h))
end GE
