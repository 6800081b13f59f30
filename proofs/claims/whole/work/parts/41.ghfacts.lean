abbrev kdX0 : List gg_V := [gg_n, gg_i 0, gg_i 0, gg_i 0, gg_i 0]
theorem nX0 : ∀ (ad : Nat → Nat → Nat) (j : Nat), j < 5 → defaultValue (tyX0 j) = vp_V (kdX0.map (gg_c ad)) j := by
  intro ad j hj
  rcases j with _ | _ | _ | _ | _ | j <;> first | rfl | omega
theorem q0_0 : gh_FQ 0 0 (.array (.object "MissRegisters$Request")) true := ⟨RX0, TX0, 5, tyX0, rfl, tyX0_ok, nmX0, rfl, by decide +kernel⟩
theorem q0_1 : gh_FQ 0 1 .int false := ⟨RX0, TX0, 5, tyX0, rfl, tyX0_ok, nmX0, rfl, by decide +kernel⟩
theorem q0_2 : gh_FQ 0 2 .int false := ⟨RX0, TX0, 5, tyX0, rfl, tyX0_ok, nmX0, rfl, by decide +kernel⟩
theorem q0_3 : gh_FQ 0 3 .int false := ⟨RX0, TX0, 5, tyX0, rfl, tyX0_ok, nmX0, rfl, by decide +kernel⟩
theorem q0_4 : gh_FQ 0 4 .int false := ⟨RX0, TX0, 5, tyX0, rfl, tyX0_ok, nmX0, rfl, by decide +kernel⟩
abbrev kdX1 : List gg_V := [gg_n, gg_n, gg_n, gg_i 0, gg_i 0]
theorem nX1 : ∀ (ad : Nat → Nat → Nat) (j : Nat), j < 5 → defaultValue (tyX1 j) = vp_V (kdX1.map (gg_c ad)) j := by
  intro ad j hj
  rcases j with _ | _ | _ | _ | _ | j <;> first | rfl | omega
theorem q1_0 : gh_FQ 1 0 (.array .int) true := ⟨RX1, TX1, 5, tyX1, rfl, tyX1_ok, nmX1, rfl, by decide +kernel⟩
theorem q1_1 : gh_FQ 1 1 (.array .int) true := ⟨RX1, TX1, 5, tyX1, rfl, tyX1_ok, nmX1, rfl, by decide +kernel⟩
theorem q1_2 : gh_FQ 1 2 (.array .boolean) true := ⟨RX1, TX1, 5, tyX1, rfl, tyX1_ok, nmX1, rfl, by decide +kernel⟩
theorem q1_3 : gh_FQ 1 3 .boolean false := ⟨RX1, TX1, 5, tyX1, rfl, tyX1_ok, nmX1, rfl, by decide +kernel⟩
theorem q1_4 : gh_FQ 1 4 .int false := ⟨RX1, TX1, 5, tyX1, rfl, tyX1_ok, nmX1, rfl, by decide +kernel⟩
abbrev kdX2 : List gg_V := [gg_n, gg_i 0, gg_n]
theorem nX2 : ∀ (ad : Nat → Nat → Nat) (j : Nat), j < 3 → defaultValue (tyX2 j) = vp_V (kdX2.map (gg_c ad)) j := by
  intro ad j hj
  rcases j with _ | _ | _ | j <;> first | rfl | omega
theorem q2_0 : gh_FQ 2 0 (.array .int) true := ⟨RX2, TX2, 3, tyX2, rfl, tyX2_ok, nmX2, rfl, by decide +kernel⟩
theorem q2_1 : gh_FQ 2 1 .int false := ⟨RX2, TX2, 3, tyX2, rfl, tyX2_ok, nmX2, rfl, by decide +kernel⟩
theorem q2_2 : gh_FQ 2 2 (.object "MissRegisters$Way") false := ⟨RX2, TX2, 3, tyX2, rfl, tyX2_ok, nmX2, rfl, by decide +kernel⟩
abbrev kdX3 : List gg_V := [gg_n, gg_i 0, gg_i 0, gg_n, gg_i 0]
theorem nX3 : ∀ (ad : Nat → Nat → Nat) (j : Nat), j < 5 → defaultValue (tyX3 j) = vp_V (kdX3.map (gg_c ad)) j := by
  intro ad j hj
  rcases j with _ | _ | _ | _ | _ | j <;> first | rfl | omega
theorem q3_0 : gh_FQ 3 0 (.array .int) true := ⟨RX3, TX3, 5, tyX3, rfl, tyX3_ok, nmX3, rfl, by decide +kernel⟩
theorem q3_1 : gh_FQ 3 1 .int false := ⟨RX3, TX3, 5, tyX3, rfl, tyX3_ok, nmX3, rfl, by decide +kernel⟩
theorem q3_2 : gh_FQ 3 2 .boolean false := ⟨RX3, TX3, 5, tyX3, rfl, tyX3_ok, nmX3, rfl, by decide +kernel⟩
theorem q3_3 : gh_FQ 3 3 (.object "MissRegisters$Register") false := ⟨RX3, TX3, 5, tyX3, rfl, tyX3_ok, nmX3, rfl, by decide +kernel⟩
theorem q3_4 : gh_FQ 3 4 .int false := ⟨RX3, TX3, 5, tyX3, rfl, tyX3_ok, nmX3, rfl, by decide +kernel⟩
abbrev kdX4 : List gg_V := [gg_n, gg_n, gg_n, gg_n, gg_n, gg_n, gg_n, gg_i 0, gg_i 0]
theorem nX4 : ∀ (ad : Nat → Nat → Nat) (j : Nat), j < 9 → defaultValue (tyX4 j) = vp_V (kdX4.map (gg_c ad)) j := by
  intro ad j hj
  rcases j with _ | _ | _ | _ | _ | _ | _ | _ | _ | j <;> first | rfl | omega
theorem q4_0 : gh_FQ 4 0 (.array .int) true := ⟨RX4, TX4, 9, tyX4, rfl, tyX4_ok, nmX4, rfl, by decide +kernel⟩
theorem q4_1 : gh_FQ 4 1 (.array (.object "MissRegisters$Way")) true := ⟨RX4, TX4, 9, tyX4, rfl, tyX4_ok, nmX4, rfl, by decide +kernel⟩
theorem q4_2 : gh_FQ 4 2 (.array (.object "MissRegisters$Register")) true := ⟨RX4, TX4, 9, tyX4, rfl, tyX4_ok, nmX4, rfl, by decide +kernel⟩
theorem q4_3 : gh_FQ 4 3 (.object "MissRegisters$Port") true := ⟨RX4, TX4, 9, tyX4, rfl, tyX4_ok, nmX4, rfl, by decide +kernel⟩
theorem q4_4 : gh_FQ 4 4 (.array .int) true := ⟨RX4, TX4, 9, tyX4, rfl, tyX4_ok, nmX4, rfl, by decide +kernel⟩
theorem q4_5 : gh_FQ 4 5 (.array .boolean) true := ⟨RX4, TX4, 9, tyX4, rfl, tyX4_ok, nmX4, rfl, by decide +kernel⟩
theorem q4_6 : gh_FQ 4 6 (.array .int) true := ⟨RX4, TX4, 9, tyX4, rfl, tyX4_ok, nmX4, rfl, by decide +kernel⟩
theorem q4_7 : gh_FQ 4 7 .boolean false := ⟨RX4, TX4, 9, tyX4, rfl, tyX4_ok, nmX4, rfl, by decide +kernel⟩
theorem q4_8 : gh_FQ 4 8 .int false := ⟨RX4, TX4, 9, tyX4, rfl, tyX4_ok, nmX4, rfl, by decide +kernel⟩
abbrev kdX5 : List gg_V := [gg_i 0, gg_n, gg_n, gg_n, gg_n, gg_n, gg_i 0, gg_i 0, gg_n, gg_n, gg_n, gg_n, gg_i 0, gg_n, gg_n, gg_i 0, gg_i 0, gg_i 0, gg_n]
theorem nX5 : ∀ (ad : Nat → Nat → Nat) (j : Nat), j < 19 → defaultValue (tyX5 j) = vp_V (kdX5.map (gg_c ad)) j := by
  intro ad j hj
  rcases j with _ | _ | _ | _ | _ | _ | _ | _ | _ | _ | _ | _ | _ | _ | _ | _ | _ | _ | _ | j <;> first | rfl | omega
theorem q5_0 : gh_FQ 5 0 .int false := ⟨RX5, TX5, 19, tyX5, rfl, tyX5_ok, nmX5, rfl, by decide +kernel⟩
theorem q5_1 : gh_FQ 5 1 (.array .int) false := ⟨RX5, TX5, 19, tyX5, rfl, tyX5_ok, nmX5, rfl, by decide +kernel⟩
theorem q5_2 : gh_FQ 5 2 (.array .int) false := ⟨RX5, TX5, 19, tyX5, rfl, tyX5_ok, nmX5, rfl, by decide +kernel⟩
theorem q5_3 : gh_FQ 5 3 (.array .int) false := ⟨RX5, TX5, 19, tyX5, rfl, tyX5_ok, nmX5, rfl, by decide +kernel⟩
theorem q5_4 : gh_FQ 5 4 (.array .int) false := ⟨RX5, TX5, 19, tyX5, rfl, tyX5_ok, nmX5, rfl, by decide +kernel⟩
theorem q5_5 : gh_FQ 5 5 (.array .int) false := ⟨RX5, TX5, 19, tyX5, rfl, tyX5_ok, nmX5, rfl, by decide +kernel⟩
theorem q5_6 : gh_FQ 5 6 .int false := ⟨RX5, TX5, 19, tyX5, rfl, tyX5_ok, nmX5, rfl, by decide +kernel⟩
theorem q5_7 : gh_FQ 5 7 .int false := ⟨RX5, TX5, 19, tyX5, rfl, tyX5_ok, nmX5, rfl, by decide +kernel⟩
theorem q5_8 : gh_FQ 5 8 (.array .int) false := ⟨RX5, TX5, 19, tyX5, rfl, tyX5_ok, nmX5, rfl, by decide +kernel⟩
theorem q5_9 : gh_FQ 5 9 (.array .boolean) false := ⟨RX5, TX5, 19, tyX5, rfl, tyX5_ok, nmX5, rfl, by decide +kernel⟩
theorem q5_10 : gh_FQ 5 10 (.array .int) false := ⟨RX5, TX5, 19, tyX5, rfl, tyX5_ok, nmX5, rfl, by decide +kernel⟩
theorem q5_11 : gh_FQ 5 11 (.array .boolean) false := ⟨RX5, TX5, 19, tyX5, rfl, tyX5_ok, nmX5, rfl, by decide +kernel⟩
theorem q5_12 : gh_FQ 5 12 .int false := ⟨RX5, TX5, 19, tyX5, rfl, tyX5_ok, nmX5, rfl, by decide +kernel⟩
theorem q5_13 : gh_FQ 5 13 (.array .int) false := ⟨RX5, TX5, 19, tyX5, rfl, tyX5_ok, nmX5, rfl, by decide +kernel⟩
theorem q5_14 : gh_FQ 5 14 (.array .int) false := ⟨RX5, TX5, 19, tyX5, rfl, tyX5_ok, nmX5, rfl, by decide +kernel⟩
theorem q5_15 : gh_FQ 5 15 .int false := ⟨RX5, TX5, 19, tyX5, rfl, tyX5_ok, nmX5, rfl, by decide +kernel⟩
theorem q5_16 : gh_FQ 5 16 .int false := ⟨RX5, TX5, 19, tyX5, rfl, tyX5_ok, nmX5, rfl, by decide +kernel⟩
theorem q5_17 : gh_FQ 5 17 .boolean false := ⟨RX5, TX5, 19, tyX5, rfl, tyX5_ok, nmX5, rfl, by decide +kernel⟩
theorem q5_18 : gh_FQ 5 18 (.array .int) false := ⟨RX5, TX5, 19, tyX5, rfl, tyX5_ok, nmX5, rfl, by decide +kernel⟩
theorem oX0 : Cond.methodLink RX0 3 Lib.objectInit ∈ gg_gt := (gg_mem 63 (by decide +kernel) (by decide +kernel))
theorem oX1 : Cond.methodLink RX1 3 Lib.objectInit ∈ gg_gt := (gg_mem 138 (by decide +kernel) (by decide +kernel))
theorem oX2 : Cond.methodLink RX2 3 Lib.objectInit ∈ gg_gt := (gg_mem 70 (by decide +kernel) (by decide +kernel))
theorem oX3 : Cond.methodLink RX3 3 Lib.objectInit ∈ gg_gt := (gg_mem 111 (by decide +kernel) (by decide +kernel))
theorem oX4 : Cond.methodLink RX4 3 Lib.objectInit ∈ gg_gt := (gg_mem 51 (by decide +kernel) (by decide +kernel))
theorem oX5 : Cond.methodLink RX5 1 Lib.objectInit ∈ gg_gt := (gg_mem 478 (by decide +kernel) (by decide +kernel))
set_option maxRecDepth 100000 in
theorem ciX2 : gh_CI RX0 30 yX2_init cX2_init 1 := ⟨Or.inr ⟨"MissRegisters", by decide +kernel⟩, (gg_mem 68 (by decide +kernel) (by decide +kernel)), (gg_mem 69 rfl rfl), (gg_mem 37 (by decide +kernel) (by decide +kernel)), by decide +kernel, rfl, by decide +kernel⟩
set_option maxRecDepth 100000 in
theorem ciX3 : gh_CI RX4 50 yX3_init cX3_init 1 := ⟨Or.inr ⟨"MissRegisters", by decide +kernel⟩, (gg_mem 109 (by decide +kernel) (by decide +kernel)), (gg_mem 110 rfl rfl), (gg_mem 38 (by decide +kernel) (by decide +kernel)), by decide +kernel, rfl, by decide +kernel⟩
set_option maxRecDepth 100000 in
theorem ciX1 : gh_CI RX4 51 yX1_init cX1_init 1 := ⟨Or.inr ⟨"MissRegisters", by decide +kernel⟩, (gg_mem 136 (by decide +kernel) (by decide +kernel)), (gg_mem 137 rfl rfl), (gg_mem 39 (by decide +kernel) (by decide +kernel)), by decide +kernel, rfl, by decide +kernel⟩
set_option maxRecDepth 100000 in
theorem ciX0 : gh_CI RX4 27 yX0_init cX0_init 2 := ⟨Or.inl (gg_mem 60 (by decide +kernel) (by decide +kernel)), (gg_mem 61 (by decide +kernel) (by decide +kernel)), (gg_mem 62 rfl rfl), (gg_mem 36 (by decide +kernel) (by decide +kernel)), by decide +kernel, rfl, by decide +kernel⟩
set_option maxRecDepth 100000 in
theorem ciX4 : gh_CI "MissRegistersLaw" 54 yX4_init cX4_init 2 := ⟨Or.inl (gg_mem 48 (by decide +kernel) (by decide +kernel)), (gg_mem 49 (by decide +kernel) (by decide +kernel)), (gg_mem 50 rfl rfl), (gg_mem 35 (by decide +kernel) (by decide +kernel)), by decide +kernel, rfl, by decide +kernel⟩
set_option maxRecDepth 100000 in
theorem ciX5 : gh_CI "MissRegistersLaw" 57 yX5_init cX5_init 2 := ⟨Or.inl (gg_mem 475 (by decide +kernel) (by decide +kernel)), (gg_mem 476 (by decide +kernel) (by decide +kernel)), (gg_mem 477 rfl rfl), (gg_mem 40 (by decide +kernel) (by decide +kernel)), by decide +kernel, rfl, by decide +kernel⟩
theorem lkX2 : Cond.classLink RX0 9 RX2 ∈ gg_gt := (gg_mem 64 (by decide +kernel) (by decide +kernel))
theorem isX2 : Cond.instantiable RX2 3 ∈ gg_gt := (gg_mem 66 (by decide +kernel) (by decide +kernel))
theorem inX2 : Cond.initialized RX2 ∈ gg_gt := (gg_mem 37 (by decide +kernel) (by decide +kernel))
theorem lkX3 : Cond.classLink RX4 13 RX3 ∈ gg_gt := (gg_mem 54 (by decide +kernel) (by decide +kernel))
theorem isX3 : Cond.instantiable RX3 5 ∈ gg_gt := (gg_mem 107 (by decide +kernel) (by decide +kernel))
theorem inX3 : Cond.initialized RX3 ∈ gg_gt := (gg_mem 38 (by decide +kernel) (by decide +kernel))
theorem lkX1 : Cond.classLink RX4 19 RX1 ∈ gg_gt := (gg_mem 56 (by decide +kernel) (by decide +kernel))
theorem isX1 : Cond.instantiable RX1 5 ∈ gg_gt := (gg_mem 134 (by decide +kernel) (by decide +kernel))
theorem inX1 : Cond.initialized RX1 ∈ gg_gt := (gg_mem 39 (by decide +kernel) (by decide +kernel))
theorem lkX0 : Cond.classLink RX4 25 RX0 ∈ gg_gt := (gg_mem 58 (by decide +kernel) (by decide +kernel))
theorem isX0 : Cond.instantiable RX0 5 ∈ gg_gt := (gg_mem 59 (by decide +kernel) (by decide +kernel))
theorem inX0 : Cond.initialized RX0 ∈ gg_gt := (gg_mem 36 (by decide +kernel) (by decide +kernel))
theorem lkX4 : Cond.classLink "MissRegistersLaw" 8 RX4 ∈ gg_gt := (gg_mem 46 (by decide +kernel) (by decide +kernel))
theorem isX4 : Cond.instantiable RX4 9 ∈ gg_gt := (gg_mem 47 (by decide +kernel) (by decide +kernel))
theorem inX4 : Cond.initialized RX4 ∈ gg_gt := (gg_mem 35 (by decide +kernel) (by decide +kernel))
theorem lkX5 : Cond.classLink "MissRegistersLaw" 55 RX5 ∈ gg_gt := (gg_mem 473 (by decide +kernel) (by decide +kernel))
theorem isX5 : Cond.instantiable RX5 19 ∈ gg_gt := (gg_mem 474 (by decide +kernel) (by decide +kernel))
theorem inX5 : Cond.initialized RX5 ∈ gg_gt := (gg_mem 40 (by decide +kernel) (by decide +kernel))
theorem ar_int : Cond.arrayClass .int ∈ gg_gt := (gg_mem 87 (by decide +kernel) (by decide +kernel))
theorem ar_boolean : Cond.arrayClass .boolean ∈ gg_gt := (gg_mem 133 (by decide +kernel) (by decide +kernel))
theorem ar_long : Cond.arrayClass .long ∈ gg_gt := (gg_mem 669 (by decide +kernel) (by decide +kernel))
def gh_id (j : Nat) : Nat → Int32 := fun k => if k < j then nI k else 0
theorem gh_id_0 : gh_id 0 = fun _ => 0 := by
  funext k
  simp [gh_id]
theorem gh_id_s (j : Nat) : upd (gh_id j) j (nI j) = gh_id (j + 1) := by
  funext k
  unfold upd gh_id
  by_cases h : k = j
  · subst h
    simp
  · by_cases h2 : k < j
    · simp [h, h2, show k < j + 1 by omega]
    · simp [h, h2, show ¬ k < j + 1 by omega]
section GHI
variable {p : Program} {l : Launch} {e : Env} {R : Room} {s : State} {m : MethodId} {args : Array Value} {below : List Frame} {meth : Method} {c : Code} {Q : State → Prop} {cc : ByteArray} {nL : Nat} {own : String} {D : va_G} {cT : Nat → ClassId} {ad0 ad : Nat → Nat → Nat} {A : Nat → Prop} {N : List (Nat × Nat)} {ce sl : Nat} {w w' : List ((Nat × Nat) × gk)} {pc : Nat} {lo lo' : List (Nat × gg_V)} {st : List gg_V}
theorem gh_eqw (h : w' = w) (k : gh_G p l e R s m args below meth c nL D cT ad0 A Q ce sl N w' pc lo st) : gh_G p l e R s m args below meth c nL D cT ad0 A Q ce sl N w pc lo st := h ▸ k
theorem gh_wid {ce' sl' : Nat} (h1 : ce ≤ ce') (h2 : sl ≤ sl') (k : gh_G p l e R s m args below meth c nL D cT ad0 A Q ce' sl' N w pc lo st) : gh_G p l e R s m args below meth c nL D cT ad0 A Q ce sl N w pc lo st := fun ad hag H locs ls hP hD hS hl => W.widen h1 h2 (k ad hag H locs ls hP hD hS hl)
theorem gh_ind {Wf : Nat → List ((Nat × Nat) × gk)} {lof : Nat → List (Nat × gg_V)} (n : Nat) (step : ∀ j, j < n → gh_G p l e R s m args below meth c nL D cT ad0 A Q ce sl N (Wf (j + 1)) pc (lof (j + 1)) st → gh_G p l e R s m args below meth c nL D cT ad0 A Q ce sl N (Wf j) pc (lof j) st) (last : gh_G p l e R s m args below meth c nL D cT ad0 A Q ce sl N (Wf n) pc (lof n) st) : gh_G p l e R s m args below meth c nL D cT ad0 A Q ce sl N (Wf 0) pc (lof 0) st := by
  have h : ∀ d j, j + d = n → gh_G p l e R s m args below meth c nL D cT ad0 A Q ce sl N (Wf j) pc (lof j) st := by
    intro d
    induction d with
    | zero =>
      intro j hj
      obtain rfl : j = n := by omega
      exact last
    | succ d ih =>
      intro j hj
      exact step j (by omega) (ih (j + 1) (by omega))
  exact h n 0 (by omega)
end GHI
