set_option maxRecDepth 20000 in
theorem kX4_tickN (l : Launch) (htr : l.stackTraces = false) (x : gg_X) (v : Int32) (hv : v < 1 ∨ 50 < v) : gg_Cd l yX4_tick cX4_tick 4 (some .int) (gg_rm 6 1 6 82) false [gg_r 0 0, gg_i v] x (.inr 0) x := by
  refine gg_of htr (by decide) (Nat.le_of_ble_eq_true rfl) ?_
  intro p e s m args below meth c D cT ad ok okx okt hr hin
  refine gg_iload_n ok dX4_tick_0 rfl rfl ?_
  refine gg_iconst (v := 1) ok dX4_tick_1 rfl ?_
  refine gg_icmp_lt (tgt := 11) ok dX4_tick_2 rfl ⟨fun h1 => ?_, fun h1 => ?_⟩
  ·
    exact gg_throw ok okx okt hin xaA_74 (Nat.le_of_ble_eq_true rfl) (Nat.le_of_ble_eq_true rfl) (Nat.le_of_ble_eq_true rfl) (Nat.le_of_ble_eq_true rfl) dX4_tick_11 dX4_tick_14 dX4_tick_15 dX4_tick_17 dX4_tick_20 ⟨rfl, rfl⟩
  ·
    refine gg_iload_n ok dX4_tick_5 rfl rfl ?_
    refine gg_bipush (v := 50) ok dX4_tick_6 rfl ?_
    refine gg_icmp_le (tgt := 21) ok dX4_tick_8 rfl ⟨fun z => absurd z (fun z => hv.elim h1 (fun y => absurd z (Int32.not_le.mpr y))), fun _ => ?_⟩
    exact gg_throw ok okx okt hin xaA_74 (Nat.le_of_ble_eq_true rfl) (Nat.le_of_ble_eq_true rfl) (Nat.le_of_ble_eq_true rfl) (Nat.le_of_ble_eq_true rfl) dX4_tick_11 dX4_tick_14 dX4_tick_15 dX4_tick_17 dX4_tick_20 ⟨rfl, rfl⟩
set_option maxRecDepth 20000 in
theorem lpX4_tick {p : Program} {l : Launch} {e : Env} {s : State} {m : MethodId} {args : Array Value} {below : List Frame} {meth : Method} {c : Code} {Q : State → Prop} {D : va_G} {cT : Nat → ClassId} {ad : Nat → Nat → Nat} (X : Nat → gg_X) (V : Nat → Int32) (n : Nat) (hn5 : n < 51) (hX : ∀ k, k < n → gg_Cd l yX4_passTick cX4_passTick 2 (some .int) (gg_rm 2 0 0 48) true [gg_r 0 0] (X k) (.inl (some (gg_i (V k)))) (X (k + 1))) (ok : gg_Ok p s m args meth c cX4_tick 4 RX4 D cT ad) (kx : gg_G p l e (gg_rm 3 0 0 69) s m args below meth c 4 D cT ad Q true 0 0 (X n) 43 [(3, gg_i (nI n)), (2, gg_i (mr_sum V n)), (0, gg_r 0 0), (1, gg_i (nI n))] []) : ∀ j k, k + j = n → gg_G p l e (gg_rm 3 0 0 69) s m args below meth c 4 D cT ad Q true 0 0 (X k) 25 [(3, gg_i (nI k)), (2, gg_i (mr_sum V k)), (0, gg_r 0 0), (1, gg_i (nI n))] [] := by
  intro j
  induction j with
  | zero =>
    intro k hk
    obtain rfl : k = n := by omega
    refine gg_iload_n ok dX4_tick_25 rfl rfl ?_
    refine gg_iload_n ok dX4_tick_26 rfl rfl ?_
    refine gg_icmp_ge (tgt := 43) ok dX4_tick_27 rfl ⟨fun _ => ?_, fun z => absurd (nI_le (Nat.le_refl _) (by omega)) z⟩
    exact kx
  | succ j ih =>
    intro k hk
    refine gg_iload_n ok dX4_tick_25 rfl rfl ?_
    refine gg_iload_n ok dX4_tick_26 rfl rfl ?_
    refine gg_icmp_ge (tgt := 43) ok dX4_tick_27 rfl ⟨fun z => absurd z (nI_ge (by omega) (by omega)), fun _ => ?_⟩
    refine gg_iload_n ok dX4_tick_30 rfl rfl ?_
    refine gg_aload_n ok dX4_tick_31 rfl rfl ?_
    refine gg_callV1 ok dX4_tick_32 gX4_68 (hX k (by omega)) (fun _ => rfl) rfl (by decide) rfl rfl (Nat.le_of_ble_eq_true rfl) (Nat.le_of_ble_eq_true rfl) (Nat.le_of_ble_eq_true rfl) (Nat.le_of_ble_eq_true rfl) (Nat.le_of_ble_eq_true rfl) ?_
    refine gg_iadd (v := mr_sum V (k + 1)) ok dX4_tick_35 rfl ?_
    refine gg_istore_n (lo' := [(2, gg_i (mr_sum V (k + 1))), (3, gg_i (nI k)), (0, gg_r 0 0), (1, gg_i (nI n))]) ok dX4_tick_36 rfl (by decide) rfl ?_
    refine gg_iinc (v := nI (k + 1)) (lo' := [(3, gg_i (nI (k + 1))), (2, gg_i (mr_sum V (k + 1))), (0, gg_r 0 0), (1, gg_i (nI n))]) ok dX4_tick_37 rfl (nI_1 k) (by decide) rfl ?_
    refine gg_goto (tgt := 25) ok dX4_tick_40 rfl ?_
    exact ih (k + 1) (by omega)
set_option maxRecDepth 20000 in
theorem kX4_tickY (l : Launch) (htr : l.stackTraces = false) (x : gg_X) (X : Nat → gg_X) (V : Nat → Int32) (n : Nat) (hx : X 0 = x) (hn1 : 0 < n) (hn5 : n < 51) (hX : ∀ k, k < n → gg_Cd l yX4_passTick cX4_passTick 2 (some .int) (gg_rm 2 0 0 48) true [gg_r 0 0] (X k) (.inl (some (gg_i (V k)))) (X (k + 1))) : gg_Cd l yX4_tick cX4_tick 4 (some .int) (gg_rm 3 0 0 69) true [gg_r 0 0, gg_i (nI n)] x (.inl (some (gg_i (mr_sum V n)))) (X n) := by
  refine gg_of htr (by decide) (Nat.le_of_ble_eq_true rfl) ?_
  intro p e s m args below meth c D cT ad ok okx okt hr hin
  subst hx
  refine gg_wk ?_
  refine gg_iload_n ok dX4_tick_0 rfl rfl ?_
  refine gg_iconst (v := 1) ok dX4_tick_1 rfl ?_
  refine gg_icmp_lt (tgt := 11) ok dX4_tick_2 rfl ⟨fun z => absurd z (nI_nlt (b := 1) hn1 (by omega)), fun _ => ?_⟩
  refine gg_iload_n ok dX4_tick_5 rfl rfl ?_
  refine gg_bipush (v := 50) ok dX4_tick_6 rfl ?_
  refine gg_icmp_le (tgt := 21) ok dX4_tick_8 rfl ⟨fun _ => ?_, fun z => absurd (nI_le (b := 50) (by omega) (by decide)) z⟩
  refine gg_iconst (v := 0) ok dX4_tick_21 rfl ?_
  refine gg_istore_n (lo' := [(2, gg_i 0), (0, gg_r 0 0), (1, gg_i (nI n))]) ok dX4_tick_22 rfl (by decide) rfl ?_
  refine gg_iconst (v := 0) ok dX4_tick_23 rfl ?_
  refine gg_istore_n (lo' := [(3, gg_i 0), (2, gg_i 0), (0, gg_r 0 0), (1, gg_i (nI n))]) ok dX4_tick_24 rfl (by decide) rfl ?_
  refine lpX4_tick X V n hn5 hX ok ?_ n 0 (by omega)
  refine gg_iload_n ok dX4_tick_43 rfl rfl ?_
  exact gg_iret ok hr (fun _ => rfl) dX4_tick_44 ⟨rfl, rfl⟩
set_option maxRecDepth 20000 in
theorem lpX4_await {p : Program} {l : Launch} {e : Env} {s : State} {m : MethodId} {args : Array Value} {below : List Frame} {meth : Method} {c : Code} {Q : State → Prop} {D : va_G} {cT : Nat → ClassId} {ad : Nat → Nat → Nat} (htr : l.stackTraces = false) (X Z : Nat → gg_X) (τ V : Nat → Int32) (K a : Nat) (hA : ∀ k, k < K → mr_isa (X k) (τ k) = 0) (hP : ∀ k, k < K → gg_Cd l yX4_passTick cX4_passTick 2 (some .int) (gg_rm 2 0 0 48) true [gg_r 0 0] (X k) (.inl (some (gg_i (V k)))) (Z k)) (hI : ∀ k, k < K → τ k = -1 → gg_Cd l yX4_issue cX4_issue 5 (some .int) (gg_rm 5 0 0 122) true [gg_r 0 0, gg_i (nI a), gg_i 0, gg_i 0] (Z k) (.inl (some (gg_i (τ (k + 1))))) (X (k + 1))) (hE : ∀ k, k < K → ¬ τ k = -1 → τ (k + 1) = τ k ∧ X (k + 1) = Z k) (hK : K ≤ 1000) (hB : mr_isa (X K) (τ K) = 1) (ok : gg_Ok p s m args meth c cX4_await 4 RX4 D cT ad) (kx : gg_G p l e (gg_rm 6 0 0 146) s m args below meth c 4 D cT ad Q true 0 0 (X K) 53 [(3, gg_i (nI K)), (2, gg_i (τ K)), (0, gg_r 0 0), (1, gg_i (nI a))] []) : ∀ j k, k + j = K → gg_G p l e (gg_rm 6 0 0 146) s m args below meth c 4 D cT ad Q true 0 0 (X k) 14 [(3, gg_i (nI k)), (2, gg_i (τ k)), (0, gg_r 0 0), (1, gg_i (nI a))] [] := by
  intro j
  induction j with
  | zero =>
    intro k hk
    obtain rfl : k = K := by omega
    by_cases hk9 : k < 1000
    ·
      refine gg_iload_n ok dX4_await_14 rfl rfl ?_
      refine gg_sipush (v := 1000) ok dX4_await_15 rfl ?_
      refine gg_icmp_ge (tgt := 53) ok dX4_await_18 rfl ⟨fun z => absurd z (nI_ge (b := 1000) hk9 (by decide)), fun _ => ?_⟩
      refine gg_aload_n ok dX4_await_21 rfl rfl ?_
      refine gg_iload_n ok dX4_await_22 rfl rfl ?_
      refine gg_callV1 ok dX4_await_23 gX4_64 (kX4_isAnswered l htr (X k) (τ k)) (fun _ => rfl) rfl (by decide) rfl rfl (Nat.le_of_ble_eq_true rfl) (Nat.le_of_ble_eq_true rfl) (Nat.le_of_ble_eq_true rfl) (Nat.le_of_ble_eq_true rfl) (Nat.le_of_ble_eq_true rfl) ?_
      refine gg_if_ne (tgt := 53) ok dX4_await_26 rfl ⟨fun _ => ?_, fun z => absurd z (by rw [hB]; decide)⟩
      exact kx
    ·
      refine gg_iload_n ok dX4_await_14 rfl rfl ?_
      refine gg_sipush (v := 1000) ok dX4_await_15 rfl ?_
      refine gg_icmp_ge (tgt := 53) ok dX4_await_18 rfl ⟨fun _ => ?_, fun z => absurd (nI_le (a := 1000) (by omega) (by omega)) z⟩
      exact kx
  | succ j ih =>
    intro k hk
    have h9 := ih (k + 1) (by omega)
    have hkK : k < K := by omega
    refine gg_iload_n ok dX4_await_14 rfl rfl ?_
    refine gg_sipush (v := 1000) ok dX4_await_15 rfl ?_
    refine gg_icmp_ge (tgt := 53) ok dX4_await_18 rfl ⟨fun z => absurd z (nI_ge (b := 1000) (by omega) (by decide)), fun _ => ?_⟩
    refine gg_aload_n ok dX4_await_21 rfl rfl ?_
    refine gg_iload_n ok dX4_await_22 rfl rfl ?_
    refine gg_callV1 ok dX4_await_23 gX4_64 (kX4_isAnswered l htr (X k) (τ k)) (fun _ => rfl) rfl (by decide) rfl rfl (Nat.le_of_ble_eq_true rfl) (Nat.le_of_ble_eq_true rfl) (Nat.le_of_ble_eq_true rfl) (Nat.le_of_ble_eq_true rfl) (Nat.le_of_ble_eq_true rfl) ?_
    refine gg_if_ne (tgt := 53) ok dX4_await_26 rfl ⟨fun z => absurd (hA k hkK) z, fun _ => ?_⟩
    refine gg_aload_n ok dX4_await_29 rfl rfl ?_
    refine gg_callV1 ok dX4_await_30 gX4_68 (hP k hkK) (fun _ => rfl) rfl (by decide) rfl rfl (Nat.le_of_ble_eq_true rfl) (Nat.le_of_ble_eq_true rfl) (Nat.le_of_ble_eq_true rfl) (Nat.le_of_ble_eq_true rfl) (Nat.le_of_ble_eq_true rfl) ?_
    refine gg_pop ok dX4_await_33 rfl ?_
    refine gg_iload_n ok dX4_await_34 rfl rfl ?_
    refine gg_iconst (v := (-1)) ok dX4_await_35 rfl ?_
    refine gg_icmp_ne (tgt := 47) ok dX4_await_36 rfl ⟨fun h36 => ?_, fun h36 => ?_⟩
    ·
      rw [(hE k hkK h36).1, (hE k hkK h36).2] at h9
      refine gg_iinc (v := nI (k + 1)) (lo' := [(3, gg_i (nI (k + 1))), (2, gg_i (τ k)), (0, gg_r 0 0), (1, gg_i (nI a))]) ok dX4_await_47 rfl (nI_1 k) (by decide) rfl ?_
      refine gg_goto (tgt := 14) ok dX4_await_50 rfl ?_
      exact h9
    ·
      refine gg_aload_n ok dX4_await_39 rfl rfl ?_
      refine gg_iload_n ok dX4_await_40 rfl rfl ?_
      refine gg_iconst (v := 0) ok dX4_await_41 rfl ?_
      refine gg_iconst (v := 0) ok dX4_await_42 rfl ?_
      refine gg_callV1 ok dX4_await_43 gX4_56 (hI k hkK h36) (fun _ => rfl) rfl (by decide) rfl rfl (Nat.le_of_ble_eq_true rfl) (Nat.le_of_ble_eq_true rfl) (Nat.le_of_ble_eq_true rfl) (Nat.le_of_ble_eq_true rfl) (Nat.le_of_ble_eq_true rfl) ?_
      refine gg_istore_n (lo' := [(2, gg_i (τ (k + 1))), (3, gg_i (nI k)), (0, gg_r 0 0), (1, gg_i (nI a))]) ok dX4_await_46 rfl (by decide) rfl ?_
      refine gg_iinc (v := nI (k + 1)) (lo' := [(3, gg_i (nI (k + 1))), (2, gg_i (τ (k + 1))), (0, gg_r 0 0), (1, gg_i (nI a))]) ok dX4_await_47 rfl (nI_1 k) (by decide) rfl ?_
      refine gg_goto (tgt := 14) ok dX4_await_50 rfl ?_
      exact h9
set_option maxRecDepth 20000 in
theorem kX4_awaitY (l : Launch) (htr : l.stackTraces = false) (x : gg_X) (X Z : Nat → gg_X) (τ V : Nat → Int32) (K a : Nat) (t : Nat) (ha : a < 256) (h0 : gg_Cd l yX4_issue cX4_issue 5 (some .int) (gg_rm 5 0 0 122) true [gg_r 0 0, gg_i (nI a), gg_i 0, gg_i 0] x (.inl (some (gg_i (τ 0)))) (X 0)) (hA : ∀ k, k < K → mr_isa (X k) (τ k) = 0) (hP : ∀ k, k < K → gg_Cd l yX4_passTick cX4_passTick 2 (some .int) (gg_rm 2 0 0 48) true [gg_r 0 0] (X k) (.inl (some (gg_i (V k)))) (Z k)) (hI : ∀ k, k < K → τ k = -1 → gg_Cd l yX4_issue cX4_issue 5 (some .int) (gg_rm 5 0 0 122) true [gg_r 0 0, gg_i (nI a), gg_i 0, gg_i 0] (Z k) (.inl (some (gg_i (τ (k + 1))))) (X (k + 1))) (hE : ∀ k, k < K → ¬ τ k = -1 → τ (k + 1) = τ k ∧ X (k + 1) = Z k) (hK : K ≤ 1000) (hB : mr_isa (X K) (τ K) = 1) (htK : τ K = nI t) (htt : t < 512) : gg_Cd l yX4_await cX4_await 4 (some .int) (gg_rm 6 0 0 146) true [gg_r 0 0, gg_i (nI a)] x (.inl (some (gg_i ((X K).1 5 0 t)))) (X K) := by
  refine gg_of htr (by decide) (Nat.le_of_ble_eq_true rfl) ?_
  intro p e s m args below meth c D cT ad ok okx okt hr hin
  refine gg_wk ?_
  refine gg_iload_n ok dX4_await_0 rfl rfl ?_
  refine gg_callS0 ok dX4_await_1 gX4_52 (kX4_checkAddressY l htr x a ha) (fun _ => rfl) rfl rfl (Nat.le_of_ble_eq_true rfl) (Nat.le_of_ble_eq_true rfl) (Nat.le_of_ble_eq_true rfl) (Nat.le_of_ble_eq_true rfl) (Nat.le_of_ble_eq_true rfl) ?_
  refine gg_aload_n ok dX4_await_4 rfl rfl ?_
  refine gg_iload_n ok dX4_await_5 rfl rfl ?_
  refine gg_iconst (v := 0) ok dX4_await_6 rfl ?_
  refine gg_iconst (v := 0) ok dX4_await_7 rfl ?_
  refine gg_callV1 ok dX4_await_8 gX4_56 h0 (fun _ => rfl) rfl (by decide) rfl rfl (Nat.le_of_ble_eq_true rfl) (Nat.le_of_ble_eq_true rfl) (Nat.le_of_ble_eq_true rfl) (Nat.le_of_ble_eq_true rfl) (Nat.le_of_ble_eq_true rfl) ?_
  refine gg_istore_n (lo' := [(2, gg_i (τ 0)), (0, gg_r 0 0), (1, gg_i (nI a))]) ok dX4_await_11 rfl (by decide) rfl ?_
  refine gg_iconst (v := 0) ok dX4_await_12 rfl ?_
  refine gg_istore_n (lo' := [(3, gg_i 0), (2, gg_i (τ 0)), (0, gg_r 0 0), (1, gg_i (nI a))]) ok dX4_await_13 rfl (by decide) rfl ?_
  refine lpX4_await htr X Z τ V K a hA hP hI hE hK hB ok ?_ K 0 (by omega)
  refine gg_aload_n ok dX4_await_53 rfl rfl ?_
  refine gg_iload_n ok dX4_await_54 rfl rfl ?_
  refine gg_callV1 ok dX4_await_55 gX4_64 (kX4_isAnswered l htr (X K) (τ K)) (fun _ => rfl) rfl (by decide) rfl rfl (Nat.le_of_ble_eq_true rfl) (Nat.le_of_ble_eq_true rfl) (Nat.le_of_ble_eq_true rfl) (Nat.le_of_ble_eq_true rfl) (Nat.le_of_ble_eq_true rfl) ?_
  refine gg_if_eq (tgt := 70) ok dX4_await_58 rfl ⟨fun z => absurd z (by rw [hB]; decide), fun _ => ?_⟩
  refine gg_aload_n ok dX4_await_61 rfl rfl ?_
  refine gg_getr ok dX4_await_62 fX4_32 rfl (by decide) rfl ?_
  refine gg_iload_n ok dX4_await_65 rfl rfl ?_
  refine gg_iald ok dX4_await_66 rfl (by decide) (by rw [htK]; exact gg_ixn htt) rfl ?_
  refine gg_goto (tgt := 71) ok dX4_await_67 rfl ?_
  exact gg_iret ok hr (fun _ => rfl) dX4_await_71 ⟨rfl, rfl⟩
