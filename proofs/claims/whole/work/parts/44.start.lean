-- the law's start: what the tables give, the world as the methods' contracts have it
theorem lw_hs : ∀ h ∈ gg_hs, h ∈ lwF.map (fun q => q.1) := by decide +kernel
theorem lw_has {f i : Nat} (h : i < gg_cnt f) : ∃ (k : Nat) (e : gk), lwF[k]? = some ((f, i), e) := by
  obtain ⟨q, h1, h2⟩ := List.mem_map.mp (lw_hs (f, i) (List.mem_of_getElem? (gg_hs_at f (gg_cnt_lt h) i h)))
  obtain ⟨k, hk⟩ := List.getElem?_of_mem h1
  exact ⟨k, q.2, by rw [hk, ← h2]⟩
theorem lw_conv {D : va_G} {cT : Nat → ClassId} {ad : Nat → Nat → Nat} {H : Heap} (hP : va_P D gg_cl (gh_w cT ad lwF) H) : va_P D gg_cl (gg_w cT ad gx0) H := by
  intro k q hq
  rw [gg_w, List.getElem?_map] at hq
  cases hk : gg_hs[k]? with
  | none => rw [hk] at hq; cases hq
  | some t =>
    rw [hk] at hq
    obtain ⟨k', e, h1⟩ := lw_has (gg_hs_of hk).2
    rw [← Option.some.inj hq]
    exact lw_cells _ (List.mem_of_getElem? h1) D H cT ad (hP k' _ (gh_at h1))
theorem lw_ap {cT : Nat → ClassId} {ad : Nat → Nat → Nat} {A : Nat → Prop} (hD : va_D A (gh_w cT ad lwF)) : gg_ap ad := by
  intro f i a b hi hb he
  obtain ⟨k, e, h1⟩ := lw_has hi
  obtain ⟨k', e', h2⟩ := lw_has hb
  have h3 := hD.1 k k' _ _ (gh_at h1) (gh_at h2) he
  subst h3
  have h4 := Option.some.inj (h1.symm.trans h2)
  have h5 := congrArg (fun q => q.1) h4
  exact ⟨congrArg (fun q : Nat × Nat => q.1) h5, congrArg (fun q : Nat × Nat => q.2) h5⟩
theorem lw_new {cT : Nat → ClassId} {ad : Nat → Nat → Nat} {A : Nat → Prop} (hD : va_D A (gh_w cT ad lwF)) {f i : Nat} (hi : i < gg_cnt f) : A (ad f i) := by
  obtain ⟨k, e, h1⟩ := lw_has hi
  exact hD.2 k _ (gh_at h1)
theorem lw_ac {s : State} {args : Array Value} {ty : FieldType} (h : (Cond.arrayClass ty).before args s = true) : ∃ cA : ClassId, ArrOfT s cA ty ∧ s.vm.findClass ("[" ++ ty.toString) = some cA := by
  obtain ⟨cA, kA, comp, h1, h2, h3⟩ := Cond.arrayClass_spec h
  exact ⟨cA, fun n z => ⟨fun k h => (by cases h), kA, h2, comp, h3⟩, h1⟩
theorem lw_ao {s : State} {C : String} (h : va_AO C s) : ∃ cA : ClassId, ArrOfT s cA (.object C) ∧ va_RA s cA (.object C) := by
  obtain ⟨comp, c, k, h1, -, h3, h4, h5⟩ := Cond.arrayOver_spec h
  exact ⟨c, fun n z => ⟨fun k h => (by cases h), k, h3, comp, h4⟩, k, comp, h3, h4, h1, h5⟩
theorem lw_K {s : State} {args : Array Value} (hts : ∀ w ∈ gg_gt, w.before args s = true) (hao : gh_Sd s) : ∃ (D : va_G) (cT : Nat → ClassId), va_K D gg_cl (gg_ty cT) s := by
  obtain ⟨c0, i0, h0⟩ := u_known hts uX0 (hts _ isX0)
  obtain ⟨c1, i1, h1⟩ := u_known hts uX1 (hts _ isX1)
  obtain ⟨c2, i2, h2⟩ := u_known hts uX2 (hts _ isX2)
  obtain ⟨c3, i3, h3⟩ := u_known hts uX3 (hts _ isX3)
  obtain ⟨c4, i4, h4⟩ := u_known hts uX4 (hts _ isX4)
  obtain ⟨c5, i5, h5⟩ := u_known hts uX5 (hts _ isX5)
  obtain ⟨t0, g0, f0⟩ := lw_ac (hts _ ar_int)
  obtain ⟨t1, g1, f1⟩ := lw_ac (hts _ ar_boolean)
  obtain ⟨t2, g2, f2⟩ := lw_ao hao.1
  obtain ⟨t3, g3, f3⟩ := lw_ao hao.2.1
  obtain ⟨t4, g4, f4⟩ := lw_ao hao.2.2.1
  obtain ⟨t5, g5, f5⟩ := lw_ac (hts _ ar_long)
  refine ⟨(fun c => match c with | 0 => c0 | 1 => c1 | 2 => c2 | 3 => c3 | 4 => c4 | _ => c5, fun c => match c with | 0 => i0 | 1 => i1 | 2 => i2 | 3 => i3 | 4 => i4 | _ => i5), fun k => match k with | 0 => t0 | 1 => t1 | 2 => t2 | 3 => t3 | 4 => t4 | _ => t5, fun c q hq => ?_, fun k q hq => ?_⟩
  · rcases c with _ | _ | _ | _ | _ | _ | c
    · cases hq; exact h0
    · cases hq; exact h1
    · cases hq; exact h2
    · cases hq; exact h3
    · cases hq; exact h4
    · cases hq; exact h5
    · cases hq
  · rcases k with _ | _ | _ | _ | _ | _ | k
    · cases hq; exact ⟨g0, f0⟩
    · cases hq; exact ⟨g1, f1⟩
    · cases hq; exact ⟨g2, f2⟩
    · cases hq; exact ⟨g3, f3⟩
    · cases hq; exact ⟨g4, f4⟩
    · cases hq; exact ⟨g5, f5⟩
    · cases hq
set_option maxRecDepth 100000 in
theorem lw_w1 : ∀ q ∈ gg_nf, Cond.fieldLinkNest q.1 q.2.1 q.2.2.1 q.2.2.2.1 q.2.2.2.2.1 q.2.2.2.2.2 ∈ lw_tbl := by decide +kernel
set_option maxRecDepth 100000 in
theorem lw_w2 : ∀ q ∈ gg_sx, Cond.stringRef "MissRegisters" q.1 q.2 ∈ lw_tbl := by decide +kernel
set_option maxRecDepth 100000 in
theorem lw_w3 : ∀ q ∈ gg_nd, Cond.declares q ∈ lw_tbl := by decide +kernel
set_option maxRecDepth 100000 in
theorem lw_w4 : ∀ q ∈ gg_nc, Cond.castable q.1 q.2 ∈ lw_tbl := by decide +kernel
set_option maxRecDepth 100000 in
theorem lw_w5 : ∀ q ∈ gh_nm, Cond.methodLinkNest q.1 q.2.1 q.2.2.1 q.2.2.2 ∈ lw_tbl := by decide +kernel
set_option maxRecDepth 100000 in
theorem lw_w6 : (Cond.arrayOver (.object "MissRegisters$Way") ∈ lw_tbl ∧ Cond.arrayOver (.object "MissRegisters$Register") ∈ lw_tbl ∧ Cond.arrayOver (.object "MissRegisters$Request") ∈ lw_tbl) ∧ Cond.laysStatic Bundle.tN "UNASSIGNED_STACK" Bundle.steD ∈ lw_tbl ∧ Cond.laysStatic Bundle.tN "SUPPRESSED_SENTINEL" Bundle.listD ∈ lw_tbl ∧ Cond.initialized Bundle.tN ∈ lw_tbl := by decide +kernel
theorem lw_ghSd {s : State} {args : Array Value} (hts : ∀ w ∈ lw_tbl, w.before args s = true) : gh_Sd s := ⟨va_AO.of (hts _ lw_w6.1.1), va_AO.of (hts _ lw_w6.1.2.1), va_AO.of (hts _ lw_w6.1.2.2), fun q hq => va_any rfl (hts _ (lw_w5 q hq))⟩
set_option maxRecDepth 100000 in
theorem lw_nw : (Cond.isRef (.static Bundle.tN "UNASSIGNED_STACK" Bundle.steD) ∈ flatC (Jvm.Cond.and given_1 narrow_1)) ∧ (Cond.isRef (.static Bundle.tN "SUPPRESSED_SENTINEL" Bundle.listD) ∈ flatC (Jvm.Cond.and given_1 narrow_1)) ∧ (Cond.not (.castable "java/lang/IllegalStateException" "java/lang/IllegalArgumentException") ∈ flatC (Jvm.Cond.and given_1 narrow_1)) := by decide +kernel
theorem lw_ggSd {s : State} {args : Array Value} {ad : Nat → Nat → Nat} {cur : ClassId} (hts : ∀ w ∈ lw_tbl, w.before args s = true) (hgv : (Jvm.Cond.and given_1 narrow_1).before args s = true) (hcur : s.vm.findClass "MissRegisters" = some cur) (hA : ∀ a : Nat, a < s.heap.size → ¬ gg_A true ad s.heap.size a) : gg_Sd ad s := by
  have hs := flat_of_before _ hgv
  refine ⟨fun q hq => va_any rfl (hts _ (lw_w1 q hq)), fun q hq => ?_, vx_Zqof (hts _ lw_w6.2.1) (hts _ lw_w6.2.2.2) (hs _ lw_nw.1) hA, vx_Zqof (hts _ lw_w6.2.2.1) (hts _ lw_w6.2.2.2) (hs _ lw_nw.2.1) hA, fun q hq => va_any rfl (hts _ (lw_w3 q hq)), fun q hq => va_any rfl (hts _ (lw_w4 q hq)), va_Nc.of (hs _ lw_nw.2.2)⟩
  obtain ⟨k, cf, i, a, -, -, -, -, -, hev⟩ := Cond.stringRef_spec hcur (hts _ (lw_w2 q hq))
  exact ⟨a, vk_R.of (hts _ (lw_w2 q hq)) hev⟩
