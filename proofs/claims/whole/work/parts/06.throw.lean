-- throwing a new exception with a message, where nothing was written yet
def gg_XA (own : String) (ic ix im : Nat) (tx cls : String) : Prop := (∀ a ∈ Bundle.ownAtoms own ic cls ["java/lang/RuntimeException", "java/lang/Exception"], a ∈ gg_gt ∨ a = Cond.isRef (.static Bundle.tN "UNASSIGNED_STACK" Bundle.steD) ∨ a = Cond.isRef (.static Bundle.tN "SUPPRESSED_SENTINEL" Bundle.listD) ∨ a = Cond.laysStatic Bundle.tN "UNASSIGNED_STACK" Bundle.steD ∨ a = Cond.laysStatic Bundle.tN "SUPPRESSED_SENTINEL" Bundle.listD ∨ (∃ q ∈ gg_nd, a = .declares q) ∨ (∃ q ∈ gg_nc, a = .castable q.1 q.2)) ∧ Cond.classLink own ix cls ∈ gg_gt ∧ Cond.instantiable cls 6 ∈ gg_gt ∧ Cond.initialized cls ∈ gg_gt ∧ (im, tx) ∈ gg_sx ∧ Bundle.fit cls = true
theorem gg_same_nil {s U : State} {k n : Nat} (h : s.sameButNew U [] k n) (q : Nat) (hq : q < s.heap.size) : U.heap[q]? = s.heap[q]? := by
  obtain ⟨c', h1, h2, h3, h4⟩ := h.2.2.2.2.2 q s.heap[q] (Array.getElem?_eq_getElem hq)
  rw [h1, Array.getElem?_eq_getElem hq]
  have h5 : c'.slots = s.heap[q].slots := by
    apply Array.ext_getElem?
    intro i
    exact h4 i (by simp)
  rw [h2, h5]
set_option maxHeartbeats 1000000 in
theorem gg_throw {p : Program} {l : Launch} {e : Env} {R : Room} {s : State} {m : MethodId} {args : Array Value} {below : List Frame} {meth : Method} {c : Code} {cc : ByteArray} {nL : Nat} {D : va_G} {cT : Nat → ClassId} {ad : Nat → Nat → Nat} {wm : Bool} {ce sl : Nat} {x : gg_X} {pc : Nat} {lo : List (Nat × gg_V)} {post : gg_U → gg_X → Prop}
    (ok : gg_Ok p s m args meth c cc nL "MissRegisters" D cT ad) (okx : c.exceptionTable.toList = []) (okt : e.platform.stackTraces = false) (hin : ∀ f i, i < gg_cnt f → ad f i < s.heap.size) {kd ix im ic : Nat} {tx : String} (hX : gg_XA "MissRegisters" ic ix im tx (gg_xn kd)) (hfr : 5 < R.frames) (hlo : 82 ≤ R.locals) (hce : ce + 1 ≤ R.cells) (hsl : sl + 6 ≤ R.slots)
    (hd0 : decode cc pc = .ok (.new ix, 3)) (hd1 : decode cc (pc + 3) = .ok (.dup, 1)) (hd2 : decode cc (pc + 4) = .ok (.ldc im, 2)) (hd3 : decode cc (pc + 6) = .ok (.invokespecial ic, 3)) (hd4 : decode cc (pc + 9) = .ok (.athrow, 1)) (hp : post (.inr kd) x) :
    gg_G p l e R s m args below meth c nL D cT ad (xt_MQ below (gg_Q D cT ad (gg_A wm ad s.heap.size) post) args s (ce + 1) (sl + 6) (gg_A wm ad s.heap.size)) false ce sl x pc lo [] := by
  intro H locs ls hP hS hl
  obtain ⟨x1, x2, x3, x4, x5, x6⟩ := hX
  have hts := ok.2.2.2.2.1
  have hnew : s.heap.size ≤ H.size := hS.1
  have hold : ∀ q : Nat, q < s.heap.size → H[q]? = s.heap[q]? := fun q hq => hS.2.1 q hq (fun z => by
    rcases z with ⟨z, -⟩ | z
    · cases z
    · omega)
  refine va_forget (fun q hq => ?_) ?_
  · rcases hS.2.2 q hq with ⟨z, -⟩ | z
    · cases z
    · exact z
  refine W.newc ok.1 ok.2.1 ok.2.2.2.1 (hts _ x2) (hts _ x3) (hts _ x4) (g := F0 m pc ls (gg_cst ad [])) rfl hd0 hce hsl (fun cC kC hfc hk hord hn6 => ?_)
  refine W.eq (g2 := F0 m (pc + 3) ls [.ref H.size]) rfl ?_
  refine lv_dup ok.1 ok.2.1 hd1 rfl ?_
  obtain ⟨qm, hqm⟩ := ok.2.2.2.2.2.2.2.2.2.1 _ x5
  refine va_ldcS ok.1 ok.2.1 ok.2.2.2.1 hqm hd2 ?_
  intro T hT X
  have hat : ∀ a ∈ Bundle.ownAtoms "MissRegisters" ic (gg_xn kd) ["java/lang/RuntimeException", "java/lang/Exception"], a.before args s = true := by
    intro a ha
    rcases x1 a ha with h | rfl | rfl | rfl | rfl | ⟨q, hq, rfl⟩ | ⟨q, hq, rfl⟩
    · exact hts _ h
    · exact vx_isRefq ok.2.2.2.2.2.2.2.2.2.2.1.1
    · exact vx_isRefq ok.2.2.2.2.2.2.2.2.2.2.2.1.1
    · exact ok.2.2.2.2.2.2.2.2.2.2.1.2.word
    · exact ok.2.2.2.2.2.2.2.2.2.2.2.1.2.word
    · exact va_Nw.use rfl (ok.2.2.2.2.2.2.2.2.2.2.2.2.1 q hq)
    · exact va_Nw.use rfl (ok.2.2.2.2.2.2.2.2.2.2.2.2.2.1 q hq)
  obtain ⟨U, hst, hrun, hend, hW, hsame, ce', hce', hoc⟩ := X.ctorThrowS ok.1 okt ok.2.2.2.1 (cls := gg_xn kd) (names := ["java/lang/RuntimeException", "java/lang/Exception"]) (ic := ic) x6 (by decide) hat (fun z hz => by cases hz) (a := H.size) hfc hk (by rw [hT]; exact Array.getElem?_push_size) hnew
    (msg := .ref qm) rfl (g := F0 m (pc + 3 + 1 + 2) ls [.ref qm, .ref H.size, .ref H.size]) rfl (hl.1.trans ok.2.2.1.symm) rfl rfl (rest := []) rfl (by rw [ok.2.1]; exact hd3) (by rw [ok.2.1]; exact hd4) (fun z hz => by rw [okx] at hz; cases hz) hfr (by exact hlo) (hlocks := ok.2.2.2.2.2.2.2.1)
  have hU : ∀ q : Nat, q < s.heap.size → U.heap[q]? = s.heap[q]? := fun q hq => gg_same_nil hsame q hq
  refine ⟨U, hst, .threw H.size, hrun, hend, ⟨⟨.inr kd, x, ⟨H.size, ce', rfl, hce', hoc.vm, by rw [hW.alike.findClass]; exact hoc.cls⟩, hp, ?_, va_K.moved hW.alike ok.2.2.2.2.2.1⟩, hsame.2.1, fun q h1 _ => hU q h1⟩, [], ⟨hW, hsame⟩, fun q hq => by cases hq⟩
  intro k q hq
  have hlt : q.1 < s.heap.size := by
    rw [gg_w, List.getElem?_map] at hq
    cases ht : gg_hs[k]? with
    | none => rw [ht] at hq; cases hq
    | some t =>
      rw [ht] at hq
      rw [← Option.some.inj hq]
      exact hin _ _ (gg_hs_of ht).2
  exact (hP k q hq).kept (by rw [hU _ hlt, hold _ hlt])
