def R_law : String := "MissRegistersLaw"
def lw_P (b : Addr) (xs : List Int32) (args : Array Value) (s : State) : Prop := args = #[.ref b] ∧ s.IntsAt b xs ∧ xs.length ≤ 1536 ∧ (Jvm.Cond.and given_1 narrow_1).before args s = true
def lw_Q (_ : Array Value) (s : State) (o : Outcome) (t : State) : Prop := o = .returned (some (.int 1)) ∧ Framed s o t [] 601024 7293033
def lw_Z (below : List Frame) (a : Array Value) (s : State) : State → Prop := fun t => ∃ o, t.status = .running ∧ Ended t below o ∧ lw_Q a s o t
/-- the law's own end, with 1 on the stack, nothing written that was there before, its room as the claim has it -/
theorem lw_ret {p : Program} {l : Launch} {e : Env} {s : State} {m : MethodId} {below : List Frame} {meth : Method} {c : Code} {b : Nat} (hx : p.tables.exec = Jvm.exec) (hb : c.code = code) (hr : meth.sig.returnType = ret) (hlocks : meth.locks = false) {pc : Nat} {H : Heap} {ls : Array Slot} (hdg : decode code pc = .ok (.ireturn, 1)) : W p l e room_1 s m #[Value.ref b] below meth c H [] 601024 7293033 (lw_Z below #[Value.ref b] s) (F0 m pc ls [.int 1]) := by
  intro T hT X
  obtain ⟨fs, hret, hrun, hended, hW, hframe⟩ := X.leave (v := some (.int 1)) (hlocks := hlocks) (fun h => by rw [hr] at h; cases h)
  have hmeth' : T.vm.method? m = some meth := X.method'
  refine ⟨T.setFrames fs, ?_, .returned (some (.int 1)), hrun, hended, rfl, ⟨_, rfl⟩, hW, hframe⟩
  jvm_step X.here [X.here.top, hx, hb, hdg, hmeth', hr, ret, narrow_b1]
  (try refine ⟨rfl, ?_⟩); (try refine ⟨rfl, ?_⟩)
  first | (intro acts; rw [hret _ acts rfl rfl rfl]) | rw [hret _ _ rfl rfl rfl]
  exact Steps.refl _
/-- what holds at the law's entry: the machine, the code, the tables' words (any of lw_tbl by 'hts w (by decide +kernel)'), the script of L ints xs at the cell b, what the Statement gives of the start (any of its parts by flat_of_before) -/
def lw_At (p : Program) (s : State) (m : MethodId) (meth : Method) (c : Code) (b L : Nat) (xs : Nat → Int32) : Prop :=
  p.tables.exec = Jvm.exec ∧ c.code = code ∧ meth.sig.returnType = ret ∧ c.maxLocals = 7 ∧ s.vm.findClass R_law = some m.cls ∧ (∀ w ∈ lw_tbl, w.before #[Value.ref b] s = true) ∧ va_X b L xs s s.heap ∧ b < s.heap.size ∧ meth.locks = false ∧ (Jvm.Cond.and given_1 narrow_1).before #[Value.ref b] s = true
def lw_Sim (l : Launch) (St : gg_X → Nat → Prop) : Prop := (∀ x n v, n < 512 → St x n → ax_load l x v (fun y => St y (n + 1))) ∧ (∀ x n v u, n < 512 → St x n → ax_store l x v u (fun y => St y (n + 1))) ∧ (∀ x n v, n < 512 → St x n → ax_await l x v (fun y => St y (n + 1))) ∧ (∀ x n v, n < 512 → St x n → ax_tick l x v (fun y => St y (n + 1))) ∧ (∀ x n v, n < 512 → St x n → ax_done l x v (fun y => St y (n + 1))) ∧ (∀ x n v, n < 512 → St x n → ax_value l x v (fun y => St y (n + 1))) ∧ (∀ x n v, n < 512 → St x n → ax_delay l x v (fun y => St y (n + 1))) ∧ (∀ x n v, n < 512 → St x n → ax_ahead l x v (fun y => St y (n + 1))) ∧ (∀ x n, n < 512 → St x n → ax_flush l x (fun y => St y (n + 1))) ∧ (∀ x n v, n < 512 → St x n → ax_memory l x v (fun y => St y (n + 1))) ∧ (∀ x n v u, n < 512 → St x n → ax_way l x v u (fun y => St y (n + 1))) ∧ (∀ x n v, n < 512 → St x n → ax_targets l x v (fun y => St y (n + 1))) ∧ (∀ x n v, n < 512 → St x n → ax_request l x v (fun y => St y (n + 1))) ∧ (∀ x n, n < 512 → St x n → ax_left l x (fun y => St y (n + 1))) ∧ (∀ x n v, n < 512 → St x n → ax_count l x v (fun y => St y (n + 1))) ∧ (∀ x n, St x n → St x (n + 1))
theorem lw_start {p : Program} {e : Env} {s : State} {m : MethodId} {below : List Frame} {meth : Method} {c : Code} (l : Launch) (htr : l.stackTraces = false) {St : gg_X → Nat → Prop} (hSim : lw_Sim l St) (hSt : St gx0 0) {b L : Nat} {xs : Nat → Int32} (hL : L ≤ 1536) (C0 : lw_At p s m meth c b L xs) : W p l e room_1 s m #[Value.ref b] below meth c s.heap [] 0 0 (lw_Z below #[Value.ref b] s) (entryFrame m ([Value.ref b] : List Value).toArray 7) := by
  obtain ⟨c1, c2, c3, c4, c5, c6, c7, c8, c9, c10⟩ := C0
  obtain ⟨hload, hstore, hawait, htick, hdone, hvalue, hdelay, hahead, hflush, hmemory, hway, htargets, hrequest, hleft, hcount, hdef⟩ := hSim
  have hts : ∀ w ∈ gg_gt, w.before #[Value.ref b] s = true := fun w hw => c6 w (List.mem_filter.mp hw).1
  have hgs : gh_Sd s := lw_ghSd c6
  obtain ⟨D, cT, hK⟩ := lw_K hts hgs
  have hcur : s.vm.findClass "MissRegisters" = some (D.1 4) := (hK.1 4 (RX4, TX4, 9) rfl).2.1
  have hok : gh_Ok p s m #[Value.ref b] meth c code 7 "MissRegistersLaw" D cT (fun q => s.heap.size ≤ q) := ⟨c1, c2, c4, c5, hts, hK, fun q hq => hq, c9, hgs⟩
  have hl := lv_entry [Value.ref b] (n := 7) (Nat.le_of_ble_eq_true rfl)
  rw [lg_entry_eq]
  refine lw_enter (ad0 := fun _ _ => b) hok ?_ (fun _ _ => b) gh_ag.rf s.heap [] _ (fun k q hq => (by cases hq)) ⟨fun i j p q hp => (by cases hp), fun k q hq => (by cases hq)⟩ va_S.rf hl
  intro ad hag H locs ls hP hD hS hl
  have hnew : ∀ f i, i < gg_cnt f → s.heap.size ≤ ad f i := fun f i hi => lw_new hD hi
  have h31 : ad 31 0 = b := hag (31, 0) (by decide +kernel)
  have hA : ∀ a : Nat, gg_A true ad s.heap.size a → s.heap.size ≤ a := by
    rintro a (⟨-, f, i, hi, rfl⟩ | h)
    · exact hnew f i hi
    · exact h
  have hSd : gg_Sd ad s := lw_ggSd c6 c10 hcur (fun a ha z => absurd (hA a z) (Nat.not_le.mpr ha))
  have gok : gg_Ok p s m #[Value.ref b] meth c code 7 "MissRegistersLaw" D cT ad := ⟨c1, c2, c4, c5, hts, hK, lw_ap hD, c9, hSd⟩
  have hsc : gg_scr ad s L xs := ⟨by rw [h31]; exact c7, by rw [h31]; exact c8, fun z => by
    have := hA _ z
    rw [h31] at this
    omega, hL⟩
  have hS2 : va_S (gg_A true ad s.heap.size) s.heap H locs := ⟨hS.1, fun q h1 h2 => hS.2.1 q h1 (fun z => h2 (Or.inr z)), fun q hq => Or.inr (hS.2.2 q hq)⟩
  refine lpL_law htr 61 4247 (by decide) (by decide) St hload hstore hawait htick hdone hvalue hdelay hahead hflush hmemory hway htargets hrequest hleft hcount hdef hsc gok ?_ (L + 1) 0 gx0 (by omega) (by omega) hSt H locs ls (lw_conv hP) hS2 hl
  intro x n i hn
  refine gg_iconst (v := 1) gok dL_law_866 rfl ?_
  intro H locs ls hP hS hl
  refine va_forget (fun q hq => hA _ (hS.2.2 q hq)) ?_
  refine W.widen (show 61 + n ≤ 601024 by omega) (show 4247 + 6 * n ≤ 7293033 by omega) ?_
  exact lw_ret c1 c2 c3 c9 dL_law_867
