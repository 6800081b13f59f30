set_option maxRecDepth 20000 in
theorem lpX5_tick {p : Program} {l : Launch} {e : Env} {s : State} {m : MethodId} {args : Array Value} {below : List Frame} {meth : Method} {c : Code} {Q : State → Prop} {D : va_G} {cT : Nat → ClassId} {ad : Nat → Nat → Nat} (X : Nat → gg_X) (V : Nat → Int32) (n : Nat) (hn5 : n < 51) (hX : ∀ k, k < n → gg_Cd l yX5_pass cX5_pass 1 (some .int) (gg_rm 2 0 0 47) true [gg_r 17 0] (X k) (.inl (some (gg_i (V k)))) (X (k + 1))) (h0 : ∀ k, k ≤ n → (X k).1 17 0 0 = 0) (ok : gg_Ok p s m args meth c cX5_tick 4 RX5 D cT ad) (kx : gg_G p l e (gg_rm 3 0 0 67) s m args below meth c 4 D cT ad Q true 0 0 (X n) 49 [(3, gg_i (nI n)), (2, gg_i (mr_sum V n)), (0, gg_r 17 0), (1, gg_i (nI n))] []) : ∀ j k, k + j = n → gg_G p l e (gg_rm 3 0 0 67) s m args below meth c 4 D cT ad Q true 0 0 (X k) 24 [(3, gg_i (nI k)), (2, gg_i (mr_sum V k)), (0, gg_r 17 0), (1, gg_i (nI n))] [] := by
  intro j
  induction j with
  | zero =>
    intro k hk
    obtain rfl : k = n := by omega
    refine gg_iload_n ok dX5_tick_24 rfl rfl ?_
    refine gg_iload_n ok dX5_tick_25 rfl rfl ?_
    refine gg_icmp_ge (tgt := 49) ok dX5_tick_26 rfl ⟨fun _ => ?_, fun z => absurd (nI_le (Nat.le_refl _) (by omega)) z⟩
    exact kx
  | succ j ih =>
    intro k hk
    refine gg_iload_n ok dX5_tick_24 rfl rfl ?_
    refine gg_iload_n ok dX5_tick_25 rfl rfl ?_
    refine gg_icmp_ge (tgt := 49) ok dX5_tick_26 rfl ⟨fun z => absurd z (nI_ge (by omega) (by omega)), fun _ => ?_⟩
    refine gg_aload_n ok dX5_tick_29 rfl rfl ?_
    refine gg_geti (v := 0) ok dX5_tick_30 fX5_51 rfl (by decide) rfl (h0 k (by omega)) ?_
    refine gg_if_ne (tgt := 49) ok dX5_tick_33 rfl ⟨fun z => absurd (by decide) z, fun _ => ?_⟩
    refine gg_iload_n ok dX5_tick_36 rfl rfl ?_
    refine gg_aload_n ok dX5_tick_37 rfl rfl ?_
    refine gg_callV1 ok dX5_tick_38 gX5_121 (hX k (by omega)) (fun _ => rfl) rfl (by decide) rfl rfl (Nat.le_of_ble_eq_true rfl) (Nat.le_of_ble_eq_true rfl) (Nat.le_of_ble_eq_true rfl) (Nat.le_of_ble_eq_true rfl) (Nat.le_of_ble_eq_true rfl) ?_
    refine gg_iadd (v := mr_sum V (k + 1)) ok dX5_tick_41 rfl ?_
    refine gg_istore_n (lo' := [(2, gg_i (mr_sum V (k + 1))), (3, gg_i (nI k)), (0, gg_r 17 0), (1, gg_i (nI n))]) ok dX5_tick_42 rfl (by decide) rfl ?_
    refine gg_iinc (v := nI (k + 1)) (lo' := [(3, gg_i (nI (k + 1))), (2, gg_i (mr_sum V (k + 1))), (0, gg_r 17 0), (1, gg_i (nI n))]) ok dX5_tick_43 rfl (nI_1 k) (by decide) rfl ?_
    refine gg_goto (tgt := 24) ok dX5_tick_46 rfl ?_
    exact ih (k + 1) (by omega)
set_option maxRecDepth 20000 in
theorem kX5_tickY (l : Launch) (htr : l.stackTraces = false) (x : gg_X) (X : Nat → gg_X) (V : Nat → Int32) (n : Nat) (hx : X 0 = (gg_up x 17 0 0 0)) (hn1 : 0 < n) (hn5 : n < 51) (hX : ∀ k, k < n → gg_Cd l yX5_pass cX5_pass 1 (some .int) (gg_rm 2 0 0 47) true [gg_r 17 0] (X k) (.inl (some (gg_i (V k)))) (X (k + 1))) (h0 : ∀ k, k ≤ n → (X k).1 17 0 0 = 0) : gg_Cd l yX5_tick cX5_tick 4 (some .int) (gg_rm 3 0 0 67) true [gg_r 17 0, gg_i (nI n)] x (.inl (some (gg_i (mr_sum V n)))) (X n) := by
  refine gg_of htr (by decide) (Nat.le_of_ble_eq_true rfl) ?_
  intro p e s m args below meth c D cT ad ok okx okt hr hin
  refine gg_wk ?_
  refine gg_aload_n ok dX5_tick_0 rfl rfl ?_
  refine gg_iload_n ok dX5_tick_1 rfl rfl ?_
  refine gg_iconst (v := 1) ok dX5_tick_2 rfl ?_
  refine gg_icmp_lt (tgt := 12) ok dX5_tick_3 rfl ⟨fun z => absurd z (nI_nlt (b := 1) hn1 (by omega)), fun _ => ?_⟩
  refine gg_iload_n ok dX5_tick_6 rfl rfl ?_
  refine gg_bipush (v := 50) ok dX5_tick_7 rfl ?_
  refine gg_icmp_le (tgt := 16) ok dX5_tick_9 rfl ⟨fun _ => ?_, fun z => absurd (nI_le (b := 50) (by omega) (by decide)) z⟩
  refine gg_iconst (v := 0) ok dX5_tick_16 rfl ?_
  refine gg_puti ok dX5_tick_17 fX5_51 p5_0 rfl (by decide) rfl ?_
  refine gg_iconst (v := 0) ok dX5_tick_20 rfl ?_
  refine gg_istore_n (lo' := [(2, gg_i 0), (0, gg_r 17 0), (1, gg_i (nI n))]) ok dX5_tick_21 rfl (by decide) rfl ?_
  refine gg_iconst (v := 0) ok dX5_tick_22 rfl ?_
  refine gg_istore_n (lo' := [(3, gg_i 0), (2, gg_i 0), (0, gg_r 17 0), (1, gg_i (nI n))]) ok dX5_tick_23 rfl (by decide) rfl ?_
  refine gg_eqx hx ?_
  refine lpX5_tick X V n hn5 hX h0 ok ?_ n 0 (by omega)
  refine gg_iload_n ok dX5_tick_49 rfl rfl ?_
  exact gg_iret ok hr (fun _ => rfl) dX5_tick_50 ⟨rfl, rfl⟩
set_option maxRecDepth 20000 in
theorem kX5_tickN (l : Launch) (htr : l.stackTraces = false) (x : gg_X) (v : Int32) (hv : v < 1 ∨ 50 < v) : gg_Cd l yX5_tick cX5_tick 4 (some .int) (gg_rm 3 0 0 67) true [gg_r 17 0, gg_i v] x (.inl (some (gg_i 0))) (gg_up x 17 0 0 1) := by
  refine gg_of htr (by decide) (Nat.le_of_ble_eq_true rfl) ?_
  intro p e s m args below meth c D cT ad ok okx okt hr hin
  refine gg_wk ?_
  refine gg_aload_n ok dX5_tick_0 rfl rfl ?_
  refine gg_iload_n ok dX5_tick_1 rfl rfl ?_
  refine gg_iconst (v := 1) ok dX5_tick_2 rfl ?_
  refine gg_icmp_lt (tgt := 12) ok dX5_tick_3 rfl ⟨fun h1 => ?_, fun h1 => ?_⟩
  ·
    refine gg_iconst (v := 1) ok dX5_tick_12 rfl ?_
    refine gg_goto (tgt := 17) ok dX5_tick_13 rfl ?_
    refine gg_puti ok dX5_tick_17 fX5_51 p5_0 rfl (by decide) rfl ?_
    refine gg_iconst (v := 0) ok dX5_tick_20 rfl ?_
    refine gg_istore_n (lo' := [(2, gg_i 0), (0, gg_r 17 0), (1, gg_i v)]) ok dX5_tick_21 rfl (by decide) rfl ?_
    refine gg_iconst (v := 0) ok dX5_tick_22 rfl ?_
    refine gg_istore_n (lo' := [(3, gg_i 0), (2, gg_i 0), (0, gg_r 17 0), (1, gg_i v)]) ok dX5_tick_23 rfl (by decide) rfl ?_
    refine gg_iload_n ok dX5_tick_24 rfl rfl ?_
    refine gg_iload_n ok dX5_tick_25 rfl rfl ?_
    refine gg_icmp_ge (tgt := 49) ok dX5_tick_26 rfl ⟨fun h26 => ?_, fun h26 => ?_⟩
    ·
      refine gg_iload_n ok dX5_tick_49 rfl rfl ?_
      exact gg_iret ok hr (fun _ => rfl) dX5_tick_50 ⟨rfl, rfl⟩
    ·
      refine gg_aload_n ok dX5_tick_29 rfl rfl ?_
      refine gg_geti (v := 1) ok dX5_tick_30 fX5_51 rfl (by decide) rfl rfl ?_
      refine gg_if_ne (tgt := 49) ok dX5_tick_33 rfl ⟨fun _ => ?_, fun z => absurd z (by decide)⟩
      refine gg_iload_n ok dX5_tick_49 rfl rfl ?_
      exact gg_iret ok hr (fun _ => rfl) dX5_tick_50 ⟨rfl, rfl⟩
  ·
    refine gg_iload_n ok dX5_tick_6 rfl rfl ?_
    refine gg_bipush (v := 50) ok dX5_tick_7 rfl ?_
    refine gg_icmp_le (tgt := 16) ok dX5_tick_9 rfl ⟨fun z => absurd z (fun z => hv.elim h1 (fun y => absurd z (Int32.not_le.mpr y))), fun _ => ?_⟩
    refine gg_iconst (v := 1) ok dX5_tick_12 rfl ?_
    refine gg_goto (tgt := 17) ok dX5_tick_13 rfl ?_
    refine gg_puti ok dX5_tick_17 fX5_51 p5_0 rfl (by decide) rfl ?_
    refine gg_iconst (v := 0) ok dX5_tick_20 rfl ?_
    refine gg_istore_n (lo' := [(2, gg_i 0), (0, gg_r 17 0), (1, gg_i v)]) ok dX5_tick_21 rfl (by decide) rfl ?_
    refine gg_iconst (v := 0) ok dX5_tick_22 rfl ?_
    refine gg_istore_n (lo' := [(3, gg_i 0), (2, gg_i 0), (0, gg_r 17 0), (1, gg_i v)]) ok dX5_tick_23 rfl (by decide) rfl ?_
    refine gg_iload_n ok dX5_tick_24 rfl rfl ?_
    refine gg_iload_n ok dX5_tick_25 rfl rfl ?_
    refine gg_icmp_ge (tgt := 49) ok dX5_tick_26 rfl ⟨fun h26 => ?_, fun h26 => ?_⟩
    ·
      refine gg_iload_n ok dX5_tick_49 rfl rfl ?_
      exact gg_iret ok hr (fun _ => rfl) dX5_tick_50 ⟨rfl, rfl⟩
    ·
      refine gg_aload_n ok dX5_tick_29 rfl rfl ?_
      refine gg_geti (v := 1) ok dX5_tick_30 fX5_51 rfl (by decide) rfl rfl ?_
      refine gg_if_ne (tgt := 49) ok dX5_tick_33 rfl ⟨fun _ => ?_, fun z => absurd z (by decide)⟩
      refine gg_iload_n ok dX5_tick_49 rfl rfl ?_
      exact gg_iret ok hr (fun _ => rfl) dX5_tick_50 ⟨rfl, rfl⟩
set_option maxRecDepth 20000 in
theorem kX5_awaitN (l : Launch) (htr : l.stackTraces = false) (x : gg_X) (v : Int32) (hv : v < 0 ∨ 255 < v) : gg_Cd l yX5_await cX5_await 4 (some .int) (gg_rm 4 0 0 93) true [gg_r 17 0, gg_i v] x (.inl (some (gg_i 0))) (gg_up x 17 0 0 1) := by
  refine gg_of htr (by decide) (Nat.le_of_ble_eq_true rfl) ?_
  intro p e s m args below meth c D cT ad ok okx okt hr hin
  refine gg_wk ?_
  refine gg_aload_n ok dX5_await_0 rfl rfl ?_
  refine gg_aload_n ok dX5_await_1 rfl rfl ?_
  refine gg_iload_n ok dX5_await_2 rfl rfl ?_
  refine gg_callV1 ok dX5_await_3 gX5_111 (kX5_noAddressN l htr x v hv) (fun _ => rfl) rfl (by decide) rfl rfl (Nat.le_of_ble_eq_true rfl) (Nat.le_of_ble_eq_true rfl) (Nat.le_of_ble_eq_true rfl) (Nat.le_of_ble_eq_true rfl) (Nat.le_of_ble_eq_true rfl) ?_
  refine gg_if_eq (tgt := 13) ok dX5_await_6 rfl ⟨fun z => absurd z (by decide), fun _ => ?_⟩
  refine gg_iconst (v := 1) ok dX5_await_9 rfl ?_
  refine gg_goto (tgt := 14) ok dX5_await_10 rfl ?_
  refine gg_puti ok dX5_await_14 fX5_51 p5_0 rfl (by decide) rfl ?_
  refine gg_aload_n ok dX5_await_17 rfl rfl ?_
  refine gg_geti (v := 1) ok dX5_await_18 fX5_51 rfl (by decide) rfl rfl ?_
  refine gg_if_eq (tgt := 26) ok dX5_await_21 rfl ⟨fun z => absurd z (by decide), fun _ => ?_⟩
  refine gg_iconst (v := 0) ok dX5_await_24 rfl ?_
  exact gg_iret ok hr (fun _ => rfl) dX5_await_25 ⟨rfl, rfl⟩
set_option maxRecDepth 20000 in
theorem lpX5_aw1 {p : Program} {l : Launch} {e : Env} {s : State} {m : MethodId} {args : Array Value} {below : List Frame} {meth : Method} {c : Code} {Q : State → Prop} {D : va_G} {cT : Nat → ClassId} {ad : Nat → Nat → Nat} (X Z : Nat → gg_X) (τ V : Nat → Int32) (K a : Nat) (hA : ∀ k, k < K → τ k < 0) (hP : ∀ k, k < K → gg_Cd l yX5_pass cX5_pass 1 (some .int) (gg_rm 2 0 0 47) true [gg_r 17 0] (X k) (.inl (some (gg_i (V k)))) (Z k)) (hI : ∀ k, k < K → gg_Cd l yX5_issue cX5_issue 7 (some .int) (gg_rm 3 0 0 67) true [gg_r 17 0, gg_i (nI a), gg_i 0, gg_i 0] (Z k) (.inl (some (gg_i (τ (k + 1))))) (X (k + 1))) (hB : ¬ τ K < 0) (ok : gg_Ok p s m args meth c cX5_await 4 RX5 D cT ad) (kx : gg_G p l e (gg_rm 4 0 0 93) s m args below meth c 4 D cT ad Q true 0 0 (X K) 54 [(2, gg_i (τ K)), (0, gg_r 17 0), (1, gg_i (nI a))] []) : ∀ j k, k + j = K → gg_G p l e (gg_rm 4 0 0 93) s m args below meth c 4 D cT ad Q true 0 0 (X k) 34 [(2, gg_i (τ k)), (0, gg_r 17 0), (1, gg_i (nI a))] [] := by
  intro j
  induction j with
  | zero =>
    intro k hk
    obtain rfl : k = K := by omega
    refine gg_iload_n ok dX5_await_34 rfl rfl ?_
    refine gg_if_ge (tgt := 54) ok dX5_await_35 rfl ⟨fun _ => ?_, fun z => absurd (Int32.not_lt.mp hB) z⟩
    exact kx
  | succ j ih =>
    intro k hk
    have hkK : k < K := by omega
    refine gg_iload_n ok dX5_await_34 rfl rfl ?_
    refine gg_if_ge (tgt := 54) ok dX5_await_35 rfl ⟨fun z => absurd z (Int32.not_le.mpr (hA k hkK)), fun _ => ?_⟩
    refine gg_aload_n ok dX5_await_38 rfl rfl ?_
    refine gg_callV1 ok dX5_await_39 gX5_121 (hP k hkK) (fun _ => rfl) rfl (by decide) rfl rfl (Nat.le_of_ble_eq_true rfl) (Nat.le_of_ble_eq_true rfl) (Nat.le_of_ble_eq_true rfl) (Nat.le_of_ble_eq_true rfl) (Nat.le_of_ble_eq_true rfl) ?_
    refine gg_istore_n (lo' := [(3, gg_i (V k)), (2, gg_i (τ k)), (0, gg_r 17 0), (1, gg_i (nI a))]) ok dX5_await_42 rfl (by decide) rfl ?_
    refine gg_aload_n ok dX5_await_43 rfl rfl ?_
    refine gg_iload_n ok dX5_await_44 rfl rfl ?_
    refine gg_iconst (v := 0) ok dX5_await_45 rfl ?_
    refine gg_iconst (v := 0) ok dX5_await_46 rfl ?_
    refine gg_callV1 ok dX5_await_47 gX5_115 (hI k hkK) (fun _ => rfl) rfl (by decide) rfl rfl (Nat.le_of_ble_eq_true rfl) (Nat.le_of_ble_eq_true rfl) (Nat.le_of_ble_eq_true rfl) (Nat.le_of_ble_eq_true rfl) (Nat.le_of_ble_eq_true rfl) ?_
    refine gg_istore_n (lo' := [(2, gg_i (τ (k + 1))), (3, gg_i (V k)), (0, gg_r 17 0), (1, gg_i (nI a))]) ok dX5_await_50 rfl (by decide) rfl ?_
    refine gg_goto (tgt := 34) ok dX5_await_51 rfl ?_
    refine gg_sub (lo' := [(2, gg_i (τ (k + 1))), (0, gg_r 17 0), (1, gg_i (nI a))]) [0, 2, 3] rfl ?_
    exact ih (k + 1) (by omega)
set_option maxRecDepth 20000 in
theorem lpX5_aw2 {p : Program} {l : Launch} {e : Env} {s : State} {m : MethodId} {args : Array Value} {below : List Frame} {meth : Method} {c : Code} {Q : State → Prop} {D : va_G} {cT : Nat → ClassId} {ad : Nat → Nat → Nat} (Y : Nat → gg_X) (U : Nat → Int32) (J t a : Nat) (ht : t < 600) (hC : ∀ k, k < J → (Y k).1 26 0 t = 0) (hQ : ∀ k, k < J → gg_Cd l yX5_pass cX5_pass 1 (some .int) (gg_rm 2 0 0 47) true [gg_r 17 0] (Y k) (.inl (some (gg_i (U k)))) (Y (k + 1))) (hD : ¬ (Y J).1 26 0 t = 0) (ok : gg_Ok p s m args meth c cX5_await 4 RX5 D cT ad) (kx : gg_G p l e (gg_rm 4 0 0 93) s m args below meth c 4 D cT ad Q true 0 0 (Y J) 71 [(2, gg_i (nI t)), (0, gg_r 17 0), (1, gg_i (nI a))] []) : ∀ j k, k + j = J → gg_G p l e (gg_rm 4 0 0 93) s m args below meth c 4 D cT ad Q true 0 0 (Y k) 54 [(2, gg_i (nI t)), (0, gg_r 17 0), (1, gg_i (nI a))] [] := by
  intro j
  induction j with
  | zero =>
    intro k hk
    obtain rfl : k = J := by omega
    refine gg_aload_n ok dX5_await_54 rfl rfl ?_
    refine gg_getr ok dX5_await_55 fX5_35 rfl (by decide) rfl ?_
    refine gg_iload_n ok dX5_await_58 rfl rfl ?_
    refine gg_zald (v := (Y k).1 26 0 t) ok dX5_await_59 rfl (by decide) (gg_ixn (q := t) (by omega)) rfl ?_
    refine gg_if_ne (tgt := 71) ok dX5_await_60 rfl ⟨fun _ => ?_, fun z => absurd z (hD)⟩
    exact kx
  | succ j ih =>
    intro k hk
    have hkK : k < J := by omega
    refine gg_aload_n ok dX5_await_54 rfl rfl ?_
    refine gg_getr ok dX5_await_55 fX5_35 rfl (by decide) rfl ?_
    refine gg_iload_n ok dX5_await_58 rfl rfl ?_
    refine gg_zald (v := (Y k).1 26 0 t) ok dX5_await_59 rfl (by decide) (gg_ixn (q := t) (by omega)) rfl ?_
    refine gg_if_ne (tgt := 71) ok dX5_await_60 rfl ⟨fun z => absurd (hC k hkK) z, fun _ => ?_⟩
    refine gg_aload_n ok dX5_await_63 rfl rfl ?_
    refine gg_callV1 ok dX5_await_64 gX5_121 (hQ k hkK) (fun _ => rfl) rfl (by decide) rfl rfl (Nat.le_of_ble_eq_true rfl) (Nat.le_of_ble_eq_true rfl) (Nat.le_of_ble_eq_true rfl) (Nat.le_of_ble_eq_true rfl) (Nat.le_of_ble_eq_true rfl) ?_
    refine gg_istore_n (lo' := [(3, gg_i (U k)), (2, gg_i (nI t)), (0, gg_r 17 0), (1, gg_i (nI a))]) ok dX5_await_67 rfl (by decide) rfl ?_
    refine gg_goto (tgt := 54) ok dX5_await_68 rfl ?_
    refine gg_sub (lo' := [(2, gg_i (nI t)), (0, gg_r 17 0), (1, gg_i (nI a))]) [1, 2, 3] rfl ?_
    exact ih (k + 1) (by omega)
set_option maxRecDepth 20000 in
theorem kX5_awaitY (l : Launch) (htr : l.stackTraces = false) (x : gg_X) (X Z : Nat → gg_X) (τ V : Nat → Int32) (K a : Nat) (Y : Nat → gg_X) (U : Nat → Int32) (J t : Nat) (ha : a < 256) (h0 : gg_Cd l yX5_issue cX5_issue 7 (some .int) (gg_rm 3 0 0 67) true [gg_r 17 0, gg_i (nI a), gg_i 0, gg_i 0] (gg_up x 17 0 0 0) (.inl (some (gg_i (τ 0)))) (X 0)) (hA : ∀ k, k < K → τ k < 0) (hP : ∀ k, k < K → gg_Cd l yX5_pass cX5_pass 1 (some .int) (gg_rm 2 0 0 47) true [gg_r 17 0] (X k) (.inl (some (gg_i (V k)))) (Z k)) (hI : ∀ k, k < K → gg_Cd l yX5_issue cX5_issue 7 (some .int) (gg_rm 3 0 0 67) true [gg_r 17 0, gg_i (nI a), gg_i 0, gg_i 0] (Z k) (.inl (some (gg_i (τ (k + 1))))) (X (k + 1))) (hB : ¬ τ K < 0) (htK : τ K = nI t) (hY : Y 0 = X K) (ht : t < 600) (hC : ∀ k, k < J → (Y k).1 26 0 t = 0) (hQ : ∀ k, k < J → gg_Cd l yX5_pass cX5_pass 1 (some .int) (gg_rm 2 0 0 47) true [gg_r 17 0] (Y k) (.inl (some (gg_i (U k)))) (Y (k + 1))) (hD : ¬ (Y J).1 26 0 t = 0) : gg_Cd l yX5_await cX5_await 4 (some .int) (gg_rm 4 0 0 93) true [gg_r 17 0, gg_i (nI a)] x (.inl (some (gg_i ((Y J).1 25 0 t)))) (Y J) := by
  refine gg_of htr (by decide) (Nat.le_of_ble_eq_true rfl) ?_
  intro p e s m args below meth c D cT ad ok okx okt hr hin
  refine gg_wk ?_
  refine gg_aload_n ok dX5_await_0 rfl rfl ?_
  refine gg_aload_n ok dX5_await_1 rfl rfl ?_
  refine gg_iload_n ok dX5_await_2 rfl rfl ?_
  refine gg_callV1 ok dX5_await_3 gX5_111 (kX5_noAddressY l htr x a ha) (fun _ => rfl) rfl (by decide) rfl rfl (Nat.le_of_ble_eq_true rfl) (Nat.le_of_ble_eq_true rfl) (Nat.le_of_ble_eq_true rfl) (Nat.le_of_ble_eq_true rfl) (Nat.le_of_ble_eq_true rfl) ?_
  refine gg_if_eq (tgt := 13) ok dX5_await_6 rfl ⟨fun _ => ?_, fun z => absurd (rfl) z⟩
  refine gg_iconst (v := 0) ok dX5_await_13 rfl ?_
  refine gg_puti ok dX5_await_14 fX5_51 p5_0 rfl (by decide) rfl ?_
  refine gg_aload_n ok dX5_await_17 rfl rfl ?_
  refine gg_geti (v := 0) ok dX5_await_18 fX5_51 rfl (by decide) rfl rfl ?_
  refine gg_if_eq (tgt := 26) ok dX5_await_21 rfl ⟨fun _ => ?_, fun z => absurd (by decide) z⟩
  refine gg_aload_n ok dX5_await_26 rfl rfl ?_
  refine gg_iload_n ok dX5_await_27 rfl rfl ?_
  refine gg_iconst (v := 0) ok dX5_await_28 rfl ?_
  refine gg_iconst (v := 0) ok dX5_await_29 rfl ?_
  refine gg_callV1 ok dX5_await_30 gX5_115 h0 (fun _ => rfl) rfl (by decide) rfl rfl (Nat.le_of_ble_eq_true rfl) (Nat.le_of_ble_eq_true rfl) (Nat.le_of_ble_eq_true rfl) (Nat.le_of_ble_eq_true rfl) (Nat.le_of_ble_eq_true rfl) ?_
  refine gg_istore_n (lo' := [(2, gg_i (τ 0)), (0, gg_r 17 0), (1, gg_i (nI a))]) ok dX5_await_33 rfl (by decide) rfl ?_
  refine lpX5_aw1 X Z τ V K a hA hP hI hB ok ?_ K 0 (by omega)
  rw [htK, ← hY]
  refine lpX5_aw2 Y U J t a ht hC hQ hD ok ?_ J 0 (by omega)
  refine gg_aload_n ok dX5_await_71 rfl rfl ?_
  refine gg_getr ok dX5_await_72 fX5_32 rfl (by decide) rfl ?_
  refine gg_iload_n ok dX5_await_75 rfl rfl ?_
  refine gg_iald ok dX5_await_76 rfl (by decide) (gg_ixn (q := t) (by omega)) rfl ?_
  exact gg_iret ok hr (fun _ => rfl) dX5_await_77 ⟨rfl, rfl⟩
set_option maxRecDepth 20000 in
theorem kX5_flushN (l : Launch) (htr : l.stackTraces = false) (x : gg_X) (n : Nat) (hn : x.1 17 0 12 = nI n) (hn0 : 0 < n) (hn6 : n < 6) : gg_Cd l yX5_flush cX5_flush 4 (some .int) (gg_rm 0 0 0 0) true [gg_r 17 0] x (.inl (some (gg_i 0))) (gg_up x 17 0 0 1) := by
  refine gg_of htr (by decide) (Nat.le_of_ble_eq_true rfl) ?_
  intro p e s m args below meth c D cT ad ok okx okt hr hin
  refine gg_wk ?_
  refine gg_aload_n ok dX5_flush_0 rfl rfl ?_
  refine gg_aload_n ok dX5_flush_1 rfl rfl ?_
  refine gg_geti (v := nI n) ok dX5_flush_2 fX5_57 rfl (by decide) rfl hn ?_
  refine gg_if_le (tgt := 12) ok dX5_flush_5 rfl ⟨fun z => absurd z (nI_nle hn0 (by omega)), fun _ => ?_⟩
  refine gg_iconst (v := 1) ok dX5_flush_8 rfl ?_
  refine gg_goto (tgt := 13) ok dX5_flush_9 rfl ?_
  refine gg_puti ok dX5_flush_13 fX5_51 p5_0 rfl (by decide) rfl ?_
  refine gg_iconst (v := 0) ok dX5_flush_16 rfl ?_
  refine gg_istore_n (lo' := [(1, gg_i 0), (0, gg_r 17 0)]) ok dX5_flush_17 rfl (by decide) rfl ?_
  refine gg_iconst (v := 0) ok dX5_flush_18 rfl ?_
  refine gg_istore_n (lo' := [(2, gg_i 0), (1, gg_i 0), (0, gg_r 17 0)]) ok dX5_flush_19 rfl (by decide) rfl ?_
  refine gg_iload_n ok dX5_flush_20 rfl rfl ?_
  refine gg_bipush (v := 8) ok dX5_flush_21 rfl ?_
  refine gg_icmp_ge (tgt := 97) ok dX5_flush_23 rfl ⟨fun z => absurd z (by decide), fun _ => ?_⟩
  refine gg_aload_n ok dX5_flush_26 rfl rfl ?_
  refine gg_geti (v := 1) ok dX5_flush_27 fX5_51 rfl (by decide) rfl rfl ?_
  refine gg_if_ne (tgt := 97) ok dX5_flush_30 rfl ⟨fun _ => ?_, fun z => absurd z (by decide)⟩
  refine gg_iload_n ok dX5_flush_97 rfl rfl ?_
  exact gg_iret ok hr (fun _ => rfl) dX5_flush_98 ⟨rfl, rfl⟩
set_option maxRecDepth 20000 in
theorem lpX5_fl {p : Program} {l : Launch} {e : Env} {s : State} {m : MethodId} {args : Array Value} {below : List Frame} {meth : Method} {c : Code} {Q : State → Prop} {D : va_G} {cT : Nat → ClassId} {ad : Nat → Nat → Nat} (x : gg_X) (N : Nat → Nat) (h0 : x.1 17 0 0 = 0) (hN : ∀ i, i < 8 → x.1 19 0 i = 2 → x.1 20 0 i = nI (N i) ∧ N i < 64) (ok : gg_Ok p s m args meth c cX5_flush 4 RX5 D cT ad) (kx : gg_G p l e (gg_rm 0 0 0 0) s m args below meth c 4 D cT ad Q true 0 0 (md_fls x N 8) 97 [(2, gg_i (nI 8)), (1, gg_i (nI (md_flc x 8))), (0, gg_r 17 0)] []) : ∀ j k, k + j = 8 → gg_G p l e (gg_rm 0 0 0 0) s m args below meth c 4 D cT ad Q true 0 0 (md_fls x N k) 20 [(2, gg_i (nI k)), (1, gg_i (nI (md_flc x k))), (0, gg_r 17 0)] [] := by
  intro j
  induction j with
  | zero =>
    intro k hk
    obtain rfl : k = 8 := by omega
    refine gg_iload_n ok dX5_flush_20 rfl rfl ?_
    refine gg_bipush (v := 8) ok dX5_flush_21 rfl ?_
    refine gg_icmp_ge (tgt := 97) ok dX5_flush_23 rfl ⟨fun _ => ?_, fun z => absurd (by decide) z⟩
    exact kx
  | succ j ih =>
    intro k hk
    have h9 := ih (k + 1) (by omega)
    have hk8 : k < 8 := by omega
    refine gg_iload_n ok dX5_flush_20 rfl rfl ?_
    refine gg_bipush (v := 8) ok dX5_flush_21 rfl ?_
    refine gg_icmp_ge (tgt := 97) ok dX5_flush_23 rfl ⟨fun z => absurd z (nI_ge (b := 8) hk8 (by decide)), fun _ => ?_⟩
    refine gg_aload_n ok dX5_flush_26 rfl rfl ?_
    refine gg_geti (v := 0) ok dX5_flush_27 fX5_51 rfl (by decide) rfl ((md_fls_o (by decide) k (fun z => absurd z (by decide))).trans h0) ?_
    refine gg_if_ne (tgt := 97) ok dX5_flush_30 rfl ⟨fun z => absurd (by decide) z, fun _ => ?_⟩
    refine gg_aload_n ok dX5_flush_33 rfl rfl ?_
    refine gg_getr ok dX5_flush_34 fX5_13 rfl (by decide) rfl ?_
    refine gg_iload_n ok dX5_flush_37 rfl rfl ?_
    refine gg_iald (v := x.1 19 0 k) ok dX5_flush_38 rfl (by decide) (gg_ixn (q := k) (by omega)) (md_fls_o (by decide) k (fun _ => Nat.le_refl _)) ?_
    refine gg_iconst (v := 2) ok dX5_flush_39 rfl ?_
    refine gg_icmp_ne (tgt := 91) ok dX5_flush_40 rfl ⟨fun hd => ?_, fun hd => ?_⟩
    ·
      rw [show md_flc x (k + 1) = md_flc x k by simp [md_flc, hd], show md_fls x N (k + 1) = md_fls x N k by simp [md_fls, hd]] at h9
      refine gg_iinc (v := nI (k + 1)) (lo' := [(2, gg_i (nI (k + 1))), (1, gg_i (nI (md_flc x k))), (0, gg_r 17 0)]) ok dX5_flush_91 rfl (nI_1 k) (by decide) rfl ?_
      refine gg_goto (tgt := 20) ok dX5_flush_94 rfl ?_
      refine gg_sub (lo' := [(2, gg_i (nI (k + 1))), (1, gg_i (nI (md_flc x k))), (0, gg_r 17 0)]) [0, 1, 2] rfl ?_
      exact h9
    ·
      rw [show md_flc x (k + 1) = md_flc x k + 1 by simp [md_flc, hd], show md_fls x N (k + 1) = gg_up (md_wm (md_fls x N k) (N k) k 4) 19 0 k 1 by simp [md_fls, hd]] at h9
      have hNk := (hN k hk8 hd).2
      refine gg_iconst (v := 0) ok dX5_flush_43 rfl ?_
      refine gg_istore_n (lo' := [(3, gg_i 0), (2, gg_i (nI k)), (1, gg_i (nI (md_flc x k))), (0, gg_r 17 0)]) ok dX5_flush_44 rfl (by decide) rfl ?_
      refine gg_iload_n ok dX5_flush_45 rfl rfl ?_
      refine gg_iconst (v := 4) ok dX5_flush_46 rfl ?_
      refine gg_icmp_ge (tgt := 81) ok dX5_flush_47 rfl ⟨fun z => absurd z (by decide), fun _ => ?_⟩
      refine gg_aload_n ok dX5_flush_50 rfl rfl ?_
      refine gg_getr ok dX5_flush_51 fX5_7 rfl (by decide) rfl ?_
      refine gg_iconst (v := 4) ok dX5_flush_54 rfl ?_
      refine gg_aload_n ok dX5_flush_55 rfl rfl ?_
      refine gg_getr ok dX5_flush_56 fX5_16 rfl (by decide) rfl ?_
      refine gg_iload_n ok dX5_flush_59 rfl rfl ?_
      refine gg_iald (v := nI (N k)) ok dX5_flush_60 rfl (by decide) (gg_ixn (q := k) (by omega)) ((md_wm_o (x := md_fls x N k) (L := N k) (w := k) (by decide) 0).trans ((md_fls_o (by decide) k (fun z => absurd z (by decide))).trans (hN k hk8 hd).1)) ?_
      refine gg_imul (v := nI (4 * (N k))) ok dX5_flush_61 (pk_mul 4 (N k)) ?_
      refine gg_iload_n ok dX5_flush_62 rfl rfl ?_
      refine gg_iadd (v := nI ((4 * (N k)) + 0)) ok dX5_flush_63 (nI_add (4 * (N k)) 0) ?_
      refine gg_aload_n ok dX5_flush_64 rfl rfl ?_
      refine gg_getr ok dX5_flush_65 fX5_22 rfl (by decide) rfl ?_
      refine gg_iconst (v := 4) ok dX5_flush_68 rfl ?_
      refine gg_iload_n ok dX5_flush_69 rfl rfl ?_
      refine gg_imul (v := nI (4 * k)) ok dX5_flush_70 (pk_mul 4 k) ?_
      refine gg_iload_n ok dX5_flush_71 rfl rfl ?_
      refine gg_iadd (v := nI ((4 * k) + 0)) ok dX5_flush_72 (nI_add (4 * k) 0) ?_
      refine gg_iald ok dX5_flush_73 rfl (by decide) (gg_ixn (q := (4 * k) + 0) (by omega)) rfl ?_
      refine gg_iast ok dX5_flush_74 rfl (by decide) (gg_ixn (q := (4 * (N k)) + 0) (by omega)) ?_
      refine gg_iinc (v := 1) (lo' := [(3, gg_i 1), (2, gg_i (nI k)), (1, gg_i (nI (md_flc x k))), (0, gg_r 17 0)]) ok dX5_flush_75 rfl rfl (by decide) rfl ?_
      refine gg_goto (tgt := 45) ok dX5_flush_78 rfl ?_
      refine gg_iload_n ok dX5_flush_45 rfl rfl ?_
      refine gg_iconst (v := 4) ok dX5_flush_46 rfl ?_
      refine gg_icmp_ge (tgt := 81) ok dX5_flush_47 rfl ⟨fun z => absurd z (by decide), fun _ => ?_⟩
      refine gg_aload_n ok dX5_flush_50 rfl rfl ?_
      refine gg_getr ok dX5_flush_51 fX5_7 rfl (by decide) rfl ?_
      refine gg_iconst (v := 4) ok dX5_flush_54 rfl ?_
      refine gg_aload_n ok dX5_flush_55 rfl rfl ?_
      refine gg_getr ok dX5_flush_56 fX5_16 rfl (by decide) rfl ?_
      refine gg_iload_n ok dX5_flush_59 rfl rfl ?_
      refine gg_iald (v := nI (N k)) ok dX5_flush_60 rfl (by decide) (gg_ixn (q := k) (by omega)) ((md_wm_o (x := md_fls x N k) (L := N k) (w := k) (by decide) 1).trans ((md_fls_o (by decide) k (fun z => absurd z (by decide))).trans (hN k hk8 hd).1)) ?_
      refine gg_imul (v := nI (4 * (N k))) ok dX5_flush_61 (pk_mul 4 (N k)) ?_
      refine gg_iload_n ok dX5_flush_62 rfl rfl ?_
      refine gg_iadd (v := nI ((4 * (N k)) + 1)) ok dX5_flush_63 (nI_add (4 * (N k)) 1) ?_
      refine gg_aload_n ok dX5_flush_64 rfl rfl ?_
      refine gg_getr ok dX5_flush_65 fX5_22 rfl (by decide) rfl ?_
      refine gg_iconst (v := 4) ok dX5_flush_68 rfl ?_
      refine gg_iload_n ok dX5_flush_69 rfl rfl ?_
      refine gg_imul (v := nI (4 * k)) ok dX5_flush_70 (pk_mul 4 k) ?_
      refine gg_iload_n ok dX5_flush_71 rfl rfl ?_
      refine gg_iadd (v := nI ((4 * k) + 1)) ok dX5_flush_72 (nI_add (4 * k) 1) ?_
      refine gg_iald ok dX5_flush_73 rfl (by decide) (gg_ixn (q := (4 * k) + 1) (by omega)) rfl ?_
      refine gg_iast ok dX5_flush_74 rfl (by decide) (gg_ixn (q := (4 * (N k)) + 1) (by omega)) ?_
      refine gg_iinc (v := 2) (lo' := [(3, gg_i 2), (2, gg_i (nI k)), (1, gg_i (nI (md_flc x k))), (0, gg_r 17 0)]) ok dX5_flush_75 rfl rfl (by decide) rfl ?_
      refine gg_goto (tgt := 45) ok dX5_flush_78 rfl ?_
      refine gg_iload_n ok dX5_flush_45 rfl rfl ?_
      refine gg_iconst (v := 4) ok dX5_flush_46 rfl ?_
      refine gg_icmp_ge (tgt := 81) ok dX5_flush_47 rfl ⟨fun z => absurd z (by decide), fun _ => ?_⟩
      refine gg_aload_n ok dX5_flush_50 rfl rfl ?_
      refine gg_getr ok dX5_flush_51 fX5_7 rfl (by decide) rfl ?_
      refine gg_iconst (v := 4) ok dX5_flush_54 rfl ?_
      refine gg_aload_n ok dX5_flush_55 rfl rfl ?_
      refine gg_getr ok dX5_flush_56 fX5_16 rfl (by decide) rfl ?_
      refine gg_iload_n ok dX5_flush_59 rfl rfl ?_
      refine gg_iald (v := nI (N k)) ok dX5_flush_60 rfl (by decide) (gg_ixn (q := k) (by omega)) ((md_wm_o (x := md_fls x N k) (L := N k) (w := k) (by decide) 2).trans ((md_fls_o (by decide) k (fun z => absurd z (by decide))).trans (hN k hk8 hd).1)) ?_
      refine gg_imul (v := nI (4 * (N k))) ok dX5_flush_61 (pk_mul 4 (N k)) ?_
      refine gg_iload_n ok dX5_flush_62 rfl rfl ?_
      refine gg_iadd (v := nI ((4 * (N k)) + 2)) ok dX5_flush_63 (nI_add (4 * (N k)) 2) ?_
      refine gg_aload_n ok dX5_flush_64 rfl rfl ?_
      refine gg_getr ok dX5_flush_65 fX5_22 rfl (by decide) rfl ?_
      refine gg_iconst (v := 4) ok dX5_flush_68 rfl ?_
      refine gg_iload_n ok dX5_flush_69 rfl rfl ?_
      refine gg_imul (v := nI (4 * k)) ok dX5_flush_70 (pk_mul 4 k) ?_
      refine gg_iload_n ok dX5_flush_71 rfl rfl ?_
      refine gg_iadd (v := nI ((4 * k) + 2)) ok dX5_flush_72 (nI_add (4 * k) 2) ?_
      refine gg_iald ok dX5_flush_73 rfl (by decide) (gg_ixn (q := (4 * k) + 2) (by omega)) rfl ?_
      refine gg_iast ok dX5_flush_74 rfl (by decide) (gg_ixn (q := (4 * (N k)) + 2) (by omega)) ?_
      refine gg_iinc (v := 3) (lo' := [(3, gg_i 3), (2, gg_i (nI k)), (1, gg_i (nI (md_flc x k))), (0, gg_r 17 0)]) ok dX5_flush_75 rfl rfl (by decide) rfl ?_
      refine gg_goto (tgt := 45) ok dX5_flush_78 rfl ?_
      refine gg_iload_n ok dX5_flush_45 rfl rfl ?_
      refine gg_iconst (v := 4) ok dX5_flush_46 rfl ?_
      refine gg_icmp_ge (tgt := 81) ok dX5_flush_47 rfl ⟨fun z => absurd z (by decide), fun _ => ?_⟩
      refine gg_aload_n ok dX5_flush_50 rfl rfl ?_
      refine gg_getr ok dX5_flush_51 fX5_7 rfl (by decide) rfl ?_
      refine gg_iconst (v := 4) ok dX5_flush_54 rfl ?_
      refine gg_aload_n ok dX5_flush_55 rfl rfl ?_
      refine gg_getr ok dX5_flush_56 fX5_16 rfl (by decide) rfl ?_
      refine gg_iload_n ok dX5_flush_59 rfl rfl ?_
      refine gg_iald (v := nI (N k)) ok dX5_flush_60 rfl (by decide) (gg_ixn (q := k) (by omega)) ((md_wm_o (x := md_fls x N k) (L := N k) (w := k) (by decide) 3).trans ((md_fls_o (by decide) k (fun z => absurd z (by decide))).trans (hN k hk8 hd).1)) ?_
      refine gg_imul (v := nI (4 * (N k))) ok dX5_flush_61 (pk_mul 4 (N k)) ?_
      refine gg_iload_n ok dX5_flush_62 rfl rfl ?_
      refine gg_iadd (v := nI ((4 * (N k)) + 3)) ok dX5_flush_63 (nI_add (4 * (N k)) 3) ?_
      refine gg_aload_n ok dX5_flush_64 rfl rfl ?_
      refine gg_getr ok dX5_flush_65 fX5_22 rfl (by decide) rfl ?_
      refine gg_iconst (v := 4) ok dX5_flush_68 rfl ?_
      refine gg_iload_n ok dX5_flush_69 rfl rfl ?_
      refine gg_imul (v := nI (4 * k)) ok dX5_flush_70 (pk_mul 4 k) ?_
      refine gg_iload_n ok dX5_flush_71 rfl rfl ?_
      refine gg_iadd (v := nI ((4 * k) + 3)) ok dX5_flush_72 (nI_add (4 * k) 3) ?_
      refine gg_iald ok dX5_flush_73 rfl (by decide) (gg_ixn (q := (4 * k) + 3) (by omega)) rfl ?_
      refine gg_iast ok dX5_flush_74 rfl (by decide) (gg_ixn (q := (4 * (N k)) + 3) (by omega)) ?_
      refine gg_iinc (v := 4) (lo' := [(3, gg_i 4), (2, gg_i (nI k)), (1, gg_i (nI (md_flc x k))), (0, gg_r 17 0)]) ok dX5_flush_75 rfl rfl (by decide) rfl ?_
      refine gg_goto (tgt := 45) ok dX5_flush_78 rfl ?_
      refine gg_iload_n ok dX5_flush_45 rfl rfl ?_
      refine gg_iconst (v := 4) ok dX5_flush_46 rfl ?_
      refine gg_icmp_ge (tgt := 81) ok dX5_flush_47 rfl ⟨fun _ => ?_, fun z => absurd (by decide) z⟩
      refine gg_aload_n ok dX5_flush_81 rfl rfl ?_
      refine gg_getr ok dX5_flush_82 fX5_13 rfl (by decide) rfl ?_
      refine gg_iload_n ok dX5_flush_85 rfl rfl ?_
      refine gg_iconst (v := 1) ok dX5_flush_86 rfl ?_
      refine gg_iast ok dX5_flush_87 rfl (by decide) (gg_ixn (q := k) (by omega)) ?_
      refine gg_iinc (v := nI (md_flc x k + 1)) (lo' := [(1, gg_i (nI (md_flc x k + 1))), (3, gg_i 4), (2, gg_i (nI k)), (0, gg_r 17 0)]) ok dX5_flush_88 rfl (nI_1 (md_flc x k)) (by decide) rfl ?_
      refine gg_iinc (v := nI (k + 1)) (lo' := [(2, gg_i (nI (k + 1))), (1, gg_i (nI (md_flc x k + 1))), (3, gg_i 4), (0, gg_r 17 0)]) ok dX5_flush_91 rfl (nI_1 k) (by decide) rfl ?_
      refine gg_goto (tgt := 20) ok dX5_flush_94 rfl ?_
      refine gg_sub (lo' := [(2, gg_i (nI (k + 1))), (1, gg_i (nI (md_flc x k + 1))), (0, gg_r 17 0)]) [0, 1, 3] rfl ?_
      exact h9
set_option maxRecDepth 20000 in
theorem kX5_flushY (l : Launch) (htr : l.stackTraces = false) (x : gg_X) (N : Nat → Nat) (hn : x.1 17 0 12 = 0) (hN : ∀ i, i < 8 → x.1 19 0 i = 2 → x.1 20 0 i = nI (N i) ∧ N i < 64) : gg_Cd l yX5_flush cX5_flush 4 (some .int) (gg_rm 0 0 0 0) true [gg_r 17 0] x (.inl (some (gg_i (nI (md_flc (gg_up x 17 0 0 0) 8))))) (md_fls (gg_up x 17 0 0 0) N 8) := by
  refine gg_of htr (by decide) (Nat.le_of_ble_eq_true rfl) ?_
  intro p e s m args below meth c D cT ad ok okx okt hr hin
  refine gg_wk ?_
  refine gg_aload_n ok dX5_flush_0 rfl rfl ?_
  refine gg_aload_n ok dX5_flush_1 rfl rfl ?_
  refine gg_geti (v := 0) ok dX5_flush_2 fX5_57 rfl (by decide) rfl hn ?_
  refine gg_if_le (tgt := 12) ok dX5_flush_5 rfl ⟨fun _ => ?_, fun z => absurd (by decide) z⟩
  refine gg_iconst (v := 0) ok dX5_flush_12 rfl ?_
  refine gg_puti ok dX5_flush_13 fX5_51 p5_0 rfl (by decide) rfl ?_
  refine gg_iconst (v := 0) ok dX5_flush_16 rfl ?_
  refine gg_istore_n (lo' := [(1, gg_i 0), (0, gg_r 17 0)]) ok dX5_flush_17 rfl (by decide) rfl ?_
  refine gg_iconst (v := 0) ok dX5_flush_18 rfl ?_
  refine gg_istore_n (lo' := [(2, gg_i 0), (1, gg_i 0), (0, gg_r 17 0)]) ok dX5_flush_19 rfl (by decide) rfl ?_
  refine lpX5_fl (gg_up x 17 0 0 0) N rfl hN ok ?_ 8 0 (by omega)
  refine gg_iload_n ok dX5_flush_97 rfl rfl ?_
  exact gg_iret ok hr (fun _ => rfl) dX5_flush_98 ⟨rfl, rfl⟩
