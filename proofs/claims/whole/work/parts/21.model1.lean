set_option maxRecDepth 20000 in
theorem kX5_noAddressY (l : Launch) (htr : l.stackTraces = false) (x : gg_X) (a : Nat) (ha : a < 256) : gg_Cd l yX5_noAddress cX5_noAddress 2 (some .boolean) (gg_rm 0 0 0 0) false [gg_r 17 0, gg_i (nI a)] x (.inl (some (gg_i 0))) x := by
  refine gg_of htr (by decide) (Nat.le_of_ble_eq_true rfl) ?_
  intro p e s m args below meth c D cT ad ok okx okt hr hin
  refine gg_iload_n ok dX5_noAddress_0 rfl rfl ?_
  refine gg_if_lt (tgt := 11) ok dX5_noAddress_1 rfl ⟨fun z => absurd z (nI_pos (by omega)), fun _ => ?_⟩
  refine gg_iload_n ok dX5_noAddress_4 rfl rfl ?_
  refine gg_sipush (v := 255) ok dX5_noAddress_5 rfl ?_
  refine gg_icmp_le (tgt := 15) ok dX5_noAddress_8 rfl ⟨fun _ => ?_, fun z => absurd (nI_le (b := 255) (by omega) (by decide)) z⟩
  refine gg_iconst (v := 0) ok dX5_noAddress_15 rfl ?_
  exact gg_zret ok hr (by decide) (fun h => h) dX5_noAddress_16 ⟨rfl, rfl⟩
set_option maxRecDepth 20000 in
theorem kX5_noAddressN (l : Launch) (htr : l.stackTraces = false) (x : gg_X) (v : Int32) (hv : v < 0 ∨ 255 < v) : gg_Cd l yX5_noAddress cX5_noAddress 2 (some .boolean) (gg_rm 0 0 0 0) false [gg_r 17 0, gg_i v] x (.inl (some (gg_i 1))) x := by
  refine gg_of htr (by decide) (Nat.le_of_ble_eq_true rfl) ?_
  intro p e s m args below meth c D cT ad ok okx okt hr hin
  refine gg_iload_n ok dX5_noAddress_0 rfl rfl ?_
  refine gg_if_lt (tgt := 11) ok dX5_noAddress_1 rfl ⟨fun h1 => ?_, fun h1 => ?_⟩
  ·
    refine gg_iconst (v := 1) ok dX5_noAddress_11 rfl ?_
    refine gg_goto (tgt := 16) ok dX5_noAddress_12 rfl ?_
    exact gg_zret ok hr (by decide) (fun h => h) dX5_noAddress_16 ⟨rfl, rfl⟩
  ·
    refine gg_iload_n ok dX5_noAddress_4 rfl rfl ?_
    refine gg_sipush (v := 255) ok dX5_noAddress_5 rfl ?_
    refine gg_icmp_le (tgt := 15) ok dX5_noAddress_8 rfl ⟨fun z => absurd z (fun z => hv.elim h1 (fun y => absurd z (Int32.not_le.mpr y))), fun _ => ?_⟩
    refine gg_iconst (v := 1) ok dX5_noAddress_11 rfl ?_
    refine gg_goto (tgt := 16) ok dX5_noAddress_12 rfl ?_
    exact gg_zret ok hr (by decide) (fun h => h) dX5_noAddress_16 ⟨rfl, rfl⟩
set_option maxRecDepth 20000 in
theorem kX5_wayOf (l : Launch) (htr : l.stackTraces = false) (x : gg_X) (L : Nat) (hL : L < 64) : gg_Cd l yX5_wayOf cX5_wayOf 3 (some .int) (gg_rm 0 0 0 0) false [gg_r 17 0, gg_i (nI L)] x (.inl (some (gg_i (md_oi (md_way x L))))) x := by
  refine gg_of htr (by decide) (Nat.le_of_ble_eq_true rfl) ?_
  intro p e s m args below meth c D cT ad ok okx okt hr hin
  refine gg_iconst (v := 2) ok dX5_wayOf_0 rfl ?_
  refine gg_iload_n ok dX5_wayOf_1 rfl rfl ?_
  refine gg_iconst (v := 4) ok dX5_wayOf_2 rfl ?_
  refine gg_irem (v := nI (L % 4)) ok dX5_wayOf_3 (pk_rem (a := L) (d := 4) (by omega) (by omega) (by omega)) (by decide) ?_
  refine gg_imul (v := nI (2 * (L % 4))) ok dX5_wayOf_4 (pk_mul 2 (L % 4)) ?_
  refine gg_istore_n (lo' := [(2, gg_i (nI (2 * (L % 4)))), (0, gg_r 17 0), (1, gg_i (nI L))]) ok dX5_wayOf_5 rfl (by decide) rfl ?_
  refine gg_aload_n ok dX5_wayOf_6 rfl rfl ?_
  refine gg_getr ok dX5_wayOf_7 fX5_13 rfl (by decide) rfl ?_
  refine gg_iload_n ok dX5_wayOf_10 rfl rfl ?_
  refine gg_iald ok dX5_wayOf_11 rfl (by decide) (gg_ixn (q := 2 * (L % 4)) (by omega)) rfl ?_
  refine gg_if_eq (tgt := 29) ok dX5_wayOf_12 rfl ⟨fun ha => ?_, fun ha => ?_⟩
  ·
    refine gg_aload_n ok dX5_wayOf_29 rfl rfl ?_
    refine gg_getr ok dX5_wayOf_30 fX5_13 rfl (by decide) rfl ?_
    refine gg_iload_n ok dX5_wayOf_33 rfl rfl ?_
    refine gg_iconst (v := 1) ok dX5_wayOf_34 rfl ?_
    refine gg_iadd (v := nI ((2 * (L % 4)) + 1)) ok dX5_wayOf_35 (nI_add (2 * (L % 4)) 1) ?_
    refine gg_iald ok dX5_wayOf_36 rfl (by decide) (gg_ixn (q := (2 * (L % 4)) + 1) (by omega)) rfl ?_
    refine gg_if_eq (tgt := 58) ok dX5_wayOf_37 rfl ⟨fun hc => ?_, fun hc => ?_⟩
    ·
      refine gg_iconst (v := (-1)) ok dX5_wayOf_58 rfl ?_
      exact gg_iret ok hr (fun h => h) dX5_wayOf_59 ⟨by simp [md_way, md_oi, ha, hc], rfl⟩
    ·
      refine gg_aload_n ok dX5_wayOf_40 rfl rfl ?_
      refine gg_getr ok dX5_wayOf_41 fX5_16 rfl (by decide) rfl ?_
      refine gg_iload_n ok dX5_wayOf_44 rfl rfl ?_
      refine gg_iconst (v := 1) ok dX5_wayOf_45 rfl ?_
      refine gg_iadd (v := nI ((2 * (L % 4)) + 1)) ok dX5_wayOf_46 (nI_add (2 * (L % 4)) 1) ?_
      refine gg_iald ok dX5_wayOf_47 rfl (by decide) (gg_ixn (q := (2 * (L % 4)) + 1) (by omega)) rfl ?_
      refine gg_iload_n ok dX5_wayOf_48 rfl rfl ?_
      refine gg_icmp_ne (tgt := 58) ok dX5_wayOf_49 rfl ⟨fun hd => ?_, fun hd => ?_⟩
      ·
        refine gg_iconst (v := (-1)) ok dX5_wayOf_58 rfl ?_
        exact gg_iret ok hr (fun h => h) dX5_wayOf_59 ⟨by simp [md_way, md_oi, ha, hc, hd], rfl⟩
      ·
        refine gg_iload_n ok dX5_wayOf_52 rfl rfl ?_
        refine gg_iconst (v := 1) ok dX5_wayOf_53 rfl ?_
        refine gg_iadd (v := nI ((2 * (L % 4)) + 1)) ok dX5_wayOf_54 (nI_add (2 * (L % 4)) 1) ?_
        refine gg_goto (tgt := 59) ok dX5_wayOf_55 rfl ?_
        exact gg_iret ok hr (fun h => h) dX5_wayOf_59 ⟨by simp [md_way, md_oi, ha, hc, hd], rfl⟩
  ·
    refine gg_aload_n ok dX5_wayOf_15 rfl rfl ?_
    refine gg_getr ok dX5_wayOf_16 fX5_16 rfl (by decide) rfl ?_
    refine gg_iload_n ok dX5_wayOf_19 rfl rfl ?_
    refine gg_iald ok dX5_wayOf_20 rfl (by decide) (gg_ixn (q := 2 * (L % 4)) (by omega)) rfl ?_
    refine gg_iload_n ok dX5_wayOf_21 rfl rfl ?_
    refine gg_icmp_ne (tgt := 29) ok dX5_wayOf_22 rfl ⟨fun hb => ?_, fun hb => ?_⟩
    ·
      refine gg_aload_n ok dX5_wayOf_29 rfl rfl ?_
      refine gg_getr ok dX5_wayOf_30 fX5_13 rfl (by decide) rfl ?_
      refine gg_iload_n ok dX5_wayOf_33 rfl rfl ?_
      refine gg_iconst (v := 1) ok dX5_wayOf_34 rfl ?_
      refine gg_iadd (v := nI ((2 * (L % 4)) + 1)) ok dX5_wayOf_35 (nI_add (2 * (L % 4)) 1) ?_
      refine gg_iald ok dX5_wayOf_36 rfl (by decide) (gg_ixn (q := (2 * (L % 4)) + 1) (by omega)) rfl ?_
      refine gg_if_eq (tgt := 58) ok dX5_wayOf_37 rfl ⟨fun hc => ?_, fun hc => ?_⟩
      ·
        refine gg_iconst (v := (-1)) ok dX5_wayOf_58 rfl ?_
        exact gg_iret ok hr (fun h => h) dX5_wayOf_59 ⟨by simp [md_way, md_oi, ha, hb, hc], rfl⟩
      ·
        refine gg_aload_n ok dX5_wayOf_40 rfl rfl ?_
        refine gg_getr ok dX5_wayOf_41 fX5_16 rfl (by decide) rfl ?_
        refine gg_iload_n ok dX5_wayOf_44 rfl rfl ?_
        refine gg_iconst (v := 1) ok dX5_wayOf_45 rfl ?_
        refine gg_iadd (v := nI ((2 * (L % 4)) + 1)) ok dX5_wayOf_46 (nI_add (2 * (L % 4)) 1) ?_
        refine gg_iald ok dX5_wayOf_47 rfl (by decide) (gg_ixn (q := (2 * (L % 4)) + 1) (by omega)) rfl ?_
        refine gg_iload_n ok dX5_wayOf_48 rfl rfl ?_
        refine gg_icmp_ne (tgt := 58) ok dX5_wayOf_49 rfl ⟨fun hd => ?_, fun hd => ?_⟩
        ·
          refine gg_iconst (v := (-1)) ok dX5_wayOf_58 rfl ?_
          exact gg_iret ok hr (fun h => h) dX5_wayOf_59 ⟨by simp [md_way, md_oi, ha, hb, hc, hd], rfl⟩
        ·
          refine gg_iload_n ok dX5_wayOf_52 rfl rfl ?_
          refine gg_iconst (v := 1) ok dX5_wayOf_53 rfl ?_
          refine gg_iadd (v := nI ((2 * (L % 4)) + 1)) ok dX5_wayOf_54 (nI_add (2 * (L % 4)) 1) ?_
          refine gg_goto (tgt := 59) ok dX5_wayOf_55 rfl ?_
          exact gg_iret ok hr (fun h => h) dX5_wayOf_59 ⟨by simp [md_way, md_oi, ha, hb, hc, hd], rfl⟩
    ·
      refine gg_iload_n ok dX5_wayOf_25 rfl rfl ?_
      refine gg_goto (tgt := 59) ok dX5_wayOf_26 rfl ?_
      exact gg_iret ok hr (fun h => h) dX5_wayOf_59 ⟨by simp [md_way, md_oi, ha, hb], rfl⟩
set_option maxRecDepth 20000 in
theorem lpX5_aw {p : Program} {l : Launch} {e : Env} {s : State} {m : MethodId} {args : Array Value} {below : List Frame} {meth : Method} {c : Code} {Q : State → Prop} {D : va_G} {cT : Nat → ClassId} {ad : Nat → Nat → Nat} (htr : l.stackTraces = false) (x : gg_X)  (ok : gg_Ok p s m args meth c cX5_awaited 3 RX5 D cT ad) (kx : gg_G p l e (gg_rm 0 0 0 0) s m args below meth c 3 D cT ad Q false 0 0 x 34 [(2, gg_i (nI 8)), (1, gg_i (nI (md_aw x 8))), (0, gg_r 17 0)] []) : ∀ j k, k + j = 8 → gg_G p l e (gg_rm 0 0 0 0) s m args below meth c 3 D cT ad Q false 0 0 x 4 [(2, gg_i (nI k)), (1, gg_i (nI (md_aw x k))), (0, gg_r 17 0)] [] := by
  intro j
  induction j with
  | zero =>
    intro k hk
    obtain rfl : k = 8 := by omega
    refine gg_iload_n ok dX5_awaited_4 rfl rfl ?_
    refine gg_bipush (v := 8) ok dX5_awaited_5 rfl ?_
    refine gg_icmp_ge (tgt := 34) ok dX5_awaited_7 rfl ⟨fun _ => ?_, fun z => absurd (by decide) z⟩
    exact kx
  | succ j ih =>
    intro k hk
    have h9 := ih (k + 1) (by omega)
    refine gg_iload_n ok dX5_awaited_4 rfl rfl ?_
    refine gg_bipush (v := 8) ok dX5_awaited_5 rfl ?_
    refine gg_icmp_ge (tgt := 34) ok dX5_awaited_7 rfl ⟨fun z => absurd z (nI_ge (b := 8) (by omega) (by decide)), fun _ => ?_⟩
    refine gg_iload_n ok dX5_awaited_10 rfl rfl ?_
    refine gg_aload_n ok dX5_awaited_11 rfl rfl ?_
    refine gg_getr ok dX5_awaited_12 fX5_13 rfl (by decide) rfl ?_
    refine gg_iload_n ok dX5_awaited_15 rfl rfl ?_
    refine gg_iald (v := x.1 19 0 k) ok dX5_awaited_16 rfl (by decide) (gg_ixn (q := k) (by omega)) rfl ?_
    refine gg_iconst (v := 3) ok dX5_awaited_17 rfl ?_
    refine gg_icmp_ne (tgt := 25) ok dX5_awaited_18 rfl ⟨fun ha => ?_, fun ha => ?_⟩
    ·
      rw [show md_aw x (k + 1) = md_aw x k + 0 by simp [md_aw, ha]] at h9
      refine gg_iconst (v := 0) ok dX5_awaited_25 rfl ?_
      refine gg_iadd (v := nI ((md_aw x k) + 0)) ok dX5_awaited_26 (nI_add (md_aw x k) 0) ?_
      refine gg_istore_n (lo' := [(1, gg_i (nI ((md_aw x k) + 0))), (2, gg_i (nI k)), (0, gg_r 17 0)]) ok dX5_awaited_27 rfl (by decide) rfl ?_
      refine gg_iinc (v := nI (k + 1)) (lo' := [(2, gg_i (nI (k + 1))), (1, gg_i (nI ((md_aw x k) + 0))), (0, gg_r 17 0)]) ok dX5_awaited_28 rfl (nI_1 k) (by decide) rfl ?_
      refine gg_goto (tgt := 4) ok dX5_awaited_31 rfl ?_
      exact h9
    ·
      rw [show md_aw x (k + 1) = md_aw x k + 1 by simp [md_aw, ha]] at h9
      refine gg_iconst (v := 1) ok dX5_awaited_21 rfl ?_
      refine gg_goto (tgt := 26) ok dX5_awaited_22 rfl ?_
      refine gg_iadd (v := nI ((md_aw x k) + 1)) ok dX5_awaited_26 (nI_add (md_aw x k) 1) ?_
      refine gg_istore_n (lo' := [(1, gg_i (nI ((md_aw x k) + 1))), (2, gg_i (nI k)), (0, gg_r 17 0)]) ok dX5_awaited_27 rfl (by decide) rfl ?_
      refine gg_iinc (v := nI (k + 1)) (lo' := [(2, gg_i (nI (k + 1))), (1, gg_i (nI ((md_aw x k) + 1))), (0, gg_r 17 0)]) ok dX5_awaited_28 rfl (nI_1 k) (by decide) rfl ?_
      refine gg_goto (tgt := 4) ok dX5_awaited_31 rfl ?_
      exact h9
set_option maxRecDepth 20000 in
theorem kX5_awaited (l : Launch) (htr : l.stackTraces = false) (x : gg_X)  : gg_Cd l yX5_awaited cX5_awaited 3 (some .int) (gg_rm 0 0 0 0) false [gg_r 17 0] x (.inl (some (gg_i (nI (md_aw x 8))))) x := by
  refine gg_of htr (by decide) (Nat.le_of_ble_eq_true rfl) ?_
  intro p e s m args below meth c D cT ad ok okx okt hr hin
  refine gg_iconst (v := 0) ok dX5_awaited_0 rfl ?_
  refine gg_istore_n (lo' := [(1, gg_i 0), (0, gg_r 17 0)]) ok dX5_awaited_1 rfl (by decide) rfl ?_
  refine gg_iconst (v := 0) ok dX5_awaited_2 rfl ?_
  refine gg_istore_n (lo' := [(2, gg_i 0), (1, gg_i 0), (0, gg_r 17 0)]) ok dX5_awaited_3 rfl (by decide) rfl ?_
  refine lpX5_aw htr x  ok ?_ 8 0 (by omega)
  refine gg_iload_n ok dX5_awaited_34 rfl rfl ?_
  exact gg_iret ok hr (fun h => h) dX5_awaited_35 ⟨rfl, rfl⟩
set_option maxRecDepth 20000 in
theorem lpX5_tg {p : Program} {l : Launch} {e : Env} {s : State} {m : MethodId} {args : Array Value} {below : List Frame} {meth : Method} {c : Code} {Q : State → Prop} {D : va_G} {cT : Nat → ClassId} {ad : Nat → Nat → Nat} (htr : l.stackTraces = false) (x : gg_X) (A : Nat → Nat) (L T : Nat) (hT : x.1 17 0 7 = nI T) (hT5 : T ≤ 512) (hA : ∀ t, t < T → x.1 23 0 t = nI (A t) ∧ A t < 256) (hL : L < 64) (ok : gg_Ok p s m args meth c cX5_targetsOf 4 RX5 D cT ad) (kx : gg_G p l e (gg_rm 0 0 0 0) s m args below meth c 4 D cT ad Q false 0 0 x 47 [(3, gg_i (nI T)), (2, gg_i (nI (md_tg x A L T))), (0, gg_r 17 0), (1, gg_i (nI L))] []) : ∀ j k, k + j = T → gg_G p l e (gg_rm 0 0 0 0) s m args below meth c 4 D cT ad Q false 0 0 x 4 [(3, gg_i (nI k)), (2, gg_i (nI (md_tg x A L k))), (0, gg_r 17 0), (1, gg_i (nI L))] [] := by
  intro j
  induction j with
  | zero =>
    intro k hk
    obtain rfl : k = T := by omega
    refine gg_iload_n ok dX5_targetsOf_4 rfl rfl ?_
    refine gg_aload_n ok dX5_targetsOf_5 rfl rfl ?_
    refine gg_geti (v := nI k) ok dX5_targetsOf_6 fX5_54 rfl (by decide) rfl hT ?_
    refine gg_icmp_ge (tgt := 47) ok dX5_targetsOf_9 rfl ⟨fun _ => ?_, fun z => absurd (nI_le (Nat.le_refl _) (by omega)) z⟩
    exact kx
  | succ j ih =>
    intro k hk
    have h9 := ih (k + 1) (by omega)
    have hA1 := hA k (by omega)
    have hA2 := hA1.2
    refine gg_iload_n ok dX5_targetsOf_4 rfl rfl ?_
    refine gg_aload_n ok dX5_targetsOf_5 rfl rfl ?_
    refine gg_geti (v := nI T) ok dX5_targetsOf_6 fX5_54 rfl (by decide) rfl hT ?_
    refine gg_icmp_ge (tgt := 47) ok dX5_targetsOf_9 rfl ⟨fun z => absurd z (nI_ge (by omega) (by omega)), fun _ => ?_⟩
    refine gg_iload_n ok dX5_targetsOf_12 rfl rfl ?_
    refine gg_aload_n ok dX5_targetsOf_13 rfl rfl ?_
    refine gg_getr ok dX5_targetsOf_14 fX5_35 rfl (by decide) rfl ?_
    refine gg_iload_n ok dX5_targetsOf_17 rfl rfl ?_
    refine gg_zald (v := x.1 26 0 k) ok dX5_targetsOf_18 rfl (by decide) (gg_ixn (q := k) (by omega)) rfl ?_
    refine gg_if_ne (tgt := 38) ok dX5_targetsOf_19 rfl ⟨fun ha => ?_, fun ha => ?_⟩
    ·
      rw [show md_tg x A L (k + 1) = md_tg x A L k + 0 by simp [md_tg, ha]] at h9
      refine gg_iconst (v := 0) ok dX5_targetsOf_38 rfl ?_
      refine gg_iadd (v := nI ((md_tg x A L k) + 0)) ok dX5_targetsOf_39 (nI_add (md_tg x A L k) 0) ?_
      refine gg_istore_n (lo' := [(2, gg_i (nI ((md_tg x A L k) + 0))), (3, gg_i (nI k)), (0, gg_r 17 0), (1, gg_i (nI L))]) ok dX5_targetsOf_40 rfl (by decide) rfl ?_
      refine gg_iinc (v := nI (k + 1)) (lo' := [(3, gg_i (nI (k + 1))), (2, gg_i (nI ((md_tg x A L k) + 0))), (0, gg_r 17 0), (1, gg_i (nI L))]) ok dX5_targetsOf_41 rfl (nI_1 k) (by decide) rfl ?_
      refine gg_goto (tgt := 4) ok dX5_targetsOf_44 rfl ?_
      exact h9
    ·
      refine gg_aload_n ok dX5_targetsOf_22 rfl rfl ?_
      refine gg_getr ok dX5_targetsOf_23 fX5_25 rfl (by decide) rfl ?_
      refine gg_iload_n ok dX5_targetsOf_26 rfl rfl ?_
      refine gg_iald (v := nI (A k)) ok dX5_targetsOf_27 rfl (by decide) (gg_ixn (q := k) (by omega)) hA1.1 ?_
      refine gg_iconst (v := 4) ok dX5_targetsOf_28 rfl ?_
      refine gg_idiv (v := nI ((A k) / 4)) ok dX5_targetsOf_29 (pk_div (a := (A k)) (d := 4) (by omega) (by omega) (by omega)) (by decide) ?_
      refine gg_iload_n ok dX5_targetsOf_30 rfl rfl ?_
      refine gg_icmp_ne (tgt := 38) ok dX5_targetsOf_31 rfl ⟨fun hb => ?_, fun hb => ?_⟩
      ·
        have hb : ¬ A k / 4 = L := fun z => hb (by rw [z])
        rw [show md_tg x A L (k + 1) = md_tg x A L k + 0 by simp [md_tg, ha, hb]] at h9
        refine gg_iconst (v := 0) ok dX5_targetsOf_38 rfl ?_
        refine gg_iadd (v := nI ((md_tg x A L k) + 0)) ok dX5_targetsOf_39 (nI_add (md_tg x A L k) 0) ?_
        refine gg_istore_n (lo' := [(2, gg_i (nI ((md_tg x A L k) + 0))), (3, gg_i (nI k)), (0, gg_r 17 0), (1, gg_i (nI L))]) ok dX5_targetsOf_40 rfl (by decide) rfl ?_
        refine gg_iinc (v := nI (k + 1)) (lo' := [(3, gg_i (nI (k + 1))), (2, gg_i (nI ((md_tg x A L k) + 0))), (0, gg_r 17 0), (1, gg_i (nI L))]) ok dX5_targetsOf_41 rfl (nI_1 k) (by decide) rfl ?_
        refine gg_goto (tgt := 4) ok dX5_targetsOf_44 rfl ?_
        exact h9
      ·
        have hb := (nI_eq (by omega) (by omega)).mp hb
        rw [show md_tg x A L (k + 1) = md_tg x A L k + 1 by simp [md_tg, ha, hb]] at h9
        refine gg_iconst (v := 1) ok dX5_targetsOf_34 rfl ?_
        refine gg_goto (tgt := 39) ok dX5_targetsOf_35 rfl ?_
        refine gg_iadd (v := nI ((md_tg x A L k) + 1)) ok dX5_targetsOf_39 (nI_add (md_tg x A L k) 1) ?_
        refine gg_istore_n (lo' := [(2, gg_i (nI ((md_tg x A L k) + 1))), (3, gg_i (nI k)), (0, gg_r 17 0), (1, gg_i (nI L))]) ok dX5_targetsOf_40 rfl (by decide) rfl ?_
        refine gg_iinc (v := nI (k + 1)) (lo' := [(3, gg_i (nI (k + 1))), (2, gg_i (nI ((md_tg x A L k) + 1))), (0, gg_r 17 0), (1, gg_i (nI L))]) ok dX5_targetsOf_41 rfl (nI_1 k) (by decide) rfl ?_
        refine gg_goto (tgt := 4) ok dX5_targetsOf_44 rfl ?_
        exact h9
set_option maxRecDepth 20000 in
theorem kX5_targetsOf (l : Launch) (htr : l.stackTraces = false) (x : gg_X) (A : Nat → Nat) (L T : Nat) (hT : x.1 17 0 7 = nI T) (hT5 : T ≤ 512) (hA : ∀ t, t < T → x.1 23 0 t = nI (A t) ∧ A t < 256) (hL : L < 64) : gg_Cd l yX5_targetsOf cX5_targetsOf 4 (some .int) (gg_rm 0 0 0 0) false [gg_r 17 0, gg_i (nI L)] x (.inl (some (gg_i (nI (md_tg x A L T))))) x := by
  refine gg_of htr (by decide) (Nat.le_of_ble_eq_true rfl) ?_
  intro p e s m args below meth c D cT ad ok okx okt hr hin
  refine gg_iconst (v := 0) ok dX5_targetsOf_0 rfl ?_
  refine gg_istore_n (lo' := [(2, gg_i 0), (0, gg_r 17 0), (1, gg_i (nI L))]) ok dX5_targetsOf_1 rfl (by decide) rfl ?_
  refine gg_iconst (v := 0) ok dX5_targetsOf_2 rfl ?_
  refine gg_istore_n (lo' := [(3, gg_i 0), (2, gg_i 0), (0, gg_r 17 0), (1, gg_i (nI L))]) ok dX5_targetsOf_3 rfl (by decide) rfl ?_
  refine lpX5_tg htr x A L T hT hT5 hA hL ok ?_ T 0 (by omega)
  refine gg_iload_n ok dX5_targetsOf_47 rfl rfl ?_
  exact gg_iret ok hr (fun h => h) dX5_targetsOf_48 ⟨rfl, rfl⟩
set_option maxRecDepth 20000 in
theorem lpX5_wr {p : Program} {l : Launch} {e : Env} {s : State} {m : MethodId} {args : Array Value} {below : List Frame} {meth : Method} {c : Code} {Q : State → Prop} {D : va_G} {cT : Nat → ClassId} {ad : Nat → Nat → Nat} (htr : l.stackTraces = false) (x : gg_X) (n : Nat) (hn : x.1 17 0 12 = nI n) (hn5 : n < 8) (ok : gg_Ok p s m args meth c cX5_writes 3 RX5 D cT ad) (kx : gg_G p l e (gg_rm 0 0 0 0) s m args below meth c 3 D cT ad Q false 0 0 x 37 [(2, gg_i (nI n)), (1, gg_i (nI (md_wr x n))), (0, gg_r 17 0)] []) : ∀ j k, k + j = n → gg_G p l e (gg_rm 0 0 0 0) s m args below meth c 3 D cT ad Q false 0 0 x 4 [(2, gg_i (nI k)), (1, gg_i (nI (md_wr x k))), (0, gg_r 17 0)] [] := by
  intro j
  induction j with
  | zero =>
    intro k hk
    obtain rfl : k = n := by omega
    refine gg_iload_n ok dX5_writes_4 rfl rfl ?_
    refine gg_aload_n ok dX5_writes_5 rfl rfl ?_
    refine gg_geti (v := nI k) ok dX5_writes_6 fX5_57 rfl (by decide) rfl hn ?_
    refine gg_icmp_ge (tgt := 37) ok dX5_writes_9 rfl ⟨fun _ => ?_, fun z => absurd (nI_le (Nat.le_refl _) (by omega)) z⟩
    exact kx
  | succ j ih =>
    intro k hk
    have h9 := ih (k + 1) (by omega)
    refine gg_iload_n ok dX5_writes_4 rfl rfl ?_
    refine gg_aload_n ok dX5_writes_5 rfl rfl ?_
    refine gg_geti (v := nI n) ok dX5_writes_6 fX5_57 rfl (by decide) rfl hn ?_
    refine gg_icmp_ge (tgt := 37) ok dX5_writes_9 rfl ⟨fun z => absurd z (nI_ge (by omega) (by omega)), fun _ => ?_⟩
    refine gg_iload_n ok dX5_writes_12 rfl rfl ?_
    refine gg_aload_n ok dX5_writes_13 rfl rfl ?_
    refine gg_getr ok dX5_writes_14 fX5_38 rfl (by decide) rfl ?_
    refine gg_iload_n ok dX5_writes_17 rfl rfl ?_
    refine gg_iald (v := x.1 27 0 k) ok dX5_writes_18 rfl (by decide) (gg_ixn (q := k) (by omega)) rfl ?_
    refine gg_bipush (v := 99) ok dX5_writes_19 rfl ?_
    refine gg_icmp_le (tgt := 28) ok dX5_writes_21 rfl ⟨fun ha => ?_, fun ha => ?_⟩
    ·
      rw [show md_wr x (k + 1) = md_wr x k + 0 by simp [md_wr, ha]] at h9
      refine gg_iconst (v := 0) ok dX5_writes_28 rfl ?_
      refine gg_iadd (v := nI ((md_wr x k) + 0)) ok dX5_writes_29 (nI_add (md_wr x k) 0) ?_
      refine gg_istore_n (lo' := [(1, gg_i (nI ((md_wr x k) + 0))), (2, gg_i (nI k)), (0, gg_r 17 0)]) ok dX5_writes_30 rfl (by decide) rfl ?_
      refine gg_iinc (v := nI (k + 1)) (lo' := [(2, gg_i (nI (k + 1))), (1, gg_i (nI ((md_wr x k) + 0))), (0, gg_r 17 0)]) ok dX5_writes_31 rfl (nI_1 k) (by decide) rfl ?_
      refine gg_goto (tgt := 4) ok dX5_writes_34 rfl ?_
      exact h9
    ·
      rw [show md_wr x (k + 1) = md_wr x k + 1 by simp [md_wr, ha]] at h9
      refine gg_iconst (v := 1) ok dX5_writes_24 rfl ?_
      refine gg_goto (tgt := 29) ok dX5_writes_25 rfl ?_
      refine gg_iadd (v := nI ((md_wr x k) + 1)) ok dX5_writes_29 (nI_add (md_wr x k) 1) ?_
      refine gg_istore_n (lo' := [(1, gg_i (nI ((md_wr x k) + 1))), (2, gg_i (nI k)), (0, gg_r 17 0)]) ok dX5_writes_30 rfl (by decide) rfl ?_
      refine gg_iinc (v := nI (k + 1)) (lo' := [(2, gg_i (nI (k + 1))), (1, gg_i (nI ((md_wr x k) + 1))), (0, gg_r 17 0)]) ok dX5_writes_31 rfl (nI_1 k) (by decide) rfl ?_
      refine gg_goto (tgt := 4) ok dX5_writes_34 rfl ?_
      exact h9
set_option maxRecDepth 20000 in
theorem kX5_writes (l : Launch) (htr : l.stackTraces = false) (x : gg_X) (n : Nat) (hn : x.1 17 0 12 = nI n) (hn5 : n < 8) : gg_Cd l yX5_writes cX5_writes 3 (some .int) (gg_rm 0 0 0 0) false [gg_r 17 0] x (.inl (some (gg_i (nI (md_wr x n))))) x := by
  refine gg_of htr (by decide) (Nat.le_of_ble_eq_true rfl) ?_
  intro p e s m args below meth c D cT ad ok okx okt hr hin
  refine gg_iconst (v := 0) ok dX5_writes_0 rfl ?_
  refine gg_istore_n (lo' := [(1, gg_i 0), (0, gg_r 17 0)]) ok dX5_writes_1 rfl (by decide) rfl ?_
  refine gg_iconst (v := 0) ok dX5_writes_2 rfl ?_
  refine gg_istore_n (lo' := [(2, gg_i 0), (1, gg_i 0), (0, gg_r 17 0)]) ok dX5_writes_3 rfl (by decide) rfl ?_
  refine lpX5_wr htr x n hn hn5 ok ?_ n 0 (by omega)
  refine gg_iload_n ok dX5_writes_37 rfl rfl ?_
  exact gg_iret ok hr (fun h => h) dX5_writes_38 ⟨rfl, rfl⟩
set_option maxRecDepth 20000 in
theorem kX5_choose (l : Launch) (htr : l.stackTraces = false) (x : gg_X) (L : Nat) (hL : L < 64) : gg_Cd l yX5_choose cX5_choose 3 (some .int) (gg_rm 0 0 0 0) false [gg_r 17 0, gg_i (nI L)] x (.inl (some (gg_i (md_oi (md_cho x (2 * (L % 4))))))) x := by
  refine gg_of htr (by decide) (Nat.le_of_ble_eq_true rfl) ?_
  intro p e s m args below meth c D cT ad ok okx okt hr hin
  refine gg_iconst (v := 2) ok dX5_choose_0 rfl ?_
  refine gg_iload_n ok dX5_choose_1 rfl rfl ?_
  refine gg_iconst (v := 4) ok dX5_choose_2 rfl ?_
  refine gg_irem (v := nI (L % 4)) ok dX5_choose_3 (pk_rem (a := L) (d := 4) (by omega) (by omega) (by omega)) (by decide) ?_
  refine gg_imul (v := nI (2 * (L % 4))) ok dX5_choose_4 (pk_mul 2 (L % 4)) ?_
  refine gg_istore_n (lo' := [(2, gg_i (nI (2 * (L % 4)))), (0, gg_r 17 0), (1, gg_i (nI L))]) ok dX5_choose_5 rfl (by decide) rfl ?_
  refine gg_aload_n ok dX5_choose_6 rfl rfl ?_
  refine gg_getr ok dX5_choose_7 fX5_13 rfl (by decide) rfl ?_
  refine gg_iload_n ok dX5_choose_10 rfl rfl ?_
  refine gg_iald (v := x.1 19 0 (2 * (L % 4))) ok dX5_choose_11 rfl (by decide) (gg_ixn (q := 2 * (L % 4)) (by omega)) rfl ?_
  refine gg_if_eq (tgt := 26) ok dX5_choose_12 rfl ⟨fun ha => ?_, fun ha => ?_⟩
  ·
    refine gg_aload_n ok dX5_choose_26 rfl rfl ?_
    refine gg_getr ok dX5_choose_27 fX5_13 rfl (by decide) rfl ?_
    refine gg_iload_n ok dX5_choose_30 rfl rfl ?_
    refine gg_iald (v := x.1 19 0 (2 * (L % 4))) ok dX5_choose_31 rfl (by decide) (gg_ixn (q := 2 * (L % 4)) (by omega)) rfl ?_
    refine gg_if_ne (tgt := 39) ok dX5_choose_32 rfl ⟨fun z => absurd (ha) z, fun _ => ?_⟩
    refine gg_iload_n ok dX5_choose_35 rfl rfl ?_
    refine gg_goto (tgt := 42) ok dX5_choose_36 rfl ?_
    exact gg_iret ok hr (fun h => h) dX5_choose_42 ⟨by simp_all [md_cho, md_oi], rfl⟩
  ·
    refine gg_aload_n ok dX5_choose_15 rfl rfl ?_
    refine gg_getr ok dX5_choose_16 fX5_13 rfl (by decide) rfl ?_
    refine gg_iload_n ok dX5_choose_19 rfl rfl ?_
    refine gg_iconst (v := 1) ok dX5_choose_20 rfl ?_
    refine gg_iadd (v := nI ((2 * (L % 4)) + 1)) ok dX5_choose_21 (nI_add (2 * (L % 4)) 1) ?_
    refine gg_iald (v := x.1 19 0 (2 * (L % 4) + 1)) ok dX5_choose_22 rfl (by decide) (gg_ixn (q := (2 * (L % 4)) + 1) (by omega)) rfl ?_
    refine gg_if_ne (tgt := 43) ok dX5_choose_23 rfl ⟨fun hb => ?_, fun hb => ?_⟩
    ·
      refine gg_aload_n ok dX5_choose_43 rfl rfl ?_
      refine gg_getr ok dX5_choose_44 fX5_13 rfl (by decide) rfl ?_
      refine gg_iload_n ok dX5_choose_47 rfl rfl ?_
      refine gg_iald (v := x.1 19 0 (2 * (L % 4))) ok dX5_choose_48 rfl (by decide) (gg_ixn (q := 2 * (L % 4)) (by omega)) rfl ?_
      refine gg_iconst (v := 3) ok dX5_choose_49 rfl ?_
      refine gg_icmp_eq (tgt := 65) ok dX5_choose_50 rfl ⟨fun hc => ?_, fun hc => ?_⟩
      ·
        refine gg_aload_n ok dX5_choose_65 rfl rfl ?_
        refine gg_getr ok dX5_choose_66 fX5_13 rfl (by decide) rfl ?_
        refine gg_iload_n ok dX5_choose_69 rfl rfl ?_
        refine gg_iald (v := x.1 19 0 (2 * (L % 4))) ok dX5_choose_70 rfl (by decide) (gg_ixn (q := 2 * (L % 4)) (by omega)) rfl ?_
        refine gg_iconst (v := 3) ok dX5_choose_71 rfl ?_
        refine gg_icmp_eq (tgt := 79) ok dX5_choose_72 rfl ⟨fun _ => ?_, fun z => absurd (hc) z⟩
        refine gg_aload_n ok dX5_choose_79 rfl rfl ?_
        refine gg_getr ok dX5_choose_80 fX5_13 rfl (by decide) rfl ?_
        refine gg_iload_n ok dX5_choose_83 rfl rfl ?_
        refine gg_iconst (v := 1) ok dX5_choose_84 rfl ?_
        refine gg_iadd (v := nI ((2 * (L % 4)) + 1)) ok dX5_choose_85 (nI_add (2 * (L % 4)) 1) ?_
        refine gg_iald (v := x.1 19 0 (2 * (L % 4) + 1)) ok dX5_choose_86 rfl (by decide) (gg_ixn (q := (2 * (L % 4)) + 1) (by omega)) rfl ?_
        refine gg_iconst (v := 3) ok dX5_choose_87 rfl ?_
        refine gg_icmp_eq (tgt := 97) ok dX5_choose_88 rfl ⟨fun he => ?_, fun he => ?_⟩
        ·
          refine gg_iconst (v := (-1)) ok dX5_choose_97 rfl ?_
          exact gg_iret ok hr (fun h => h) dX5_choose_98 ⟨by simp_all [md_cho, md_oi], rfl⟩
        ·
          refine gg_iload_n ok dX5_choose_91 rfl rfl ?_
          refine gg_iconst (v := 1) ok dX5_choose_92 rfl ?_
          refine gg_iadd (v := nI ((2 * (L % 4)) + 1)) ok dX5_choose_93 (nI_add (2 * (L % 4)) 1) ?_
          refine gg_goto (tgt := 98) ok dX5_choose_94 rfl ?_
          exact gg_iret ok hr (fun h => h) dX5_choose_98 ⟨by simp_all [md_cho, md_oi], rfl⟩
      ·
        refine gg_aload_n ok dX5_choose_53 rfl rfl ?_
        refine gg_getr ok dX5_choose_54 fX5_13 rfl (by decide) rfl ?_
        refine gg_iload_n ok dX5_choose_57 rfl rfl ?_
        refine gg_iconst (v := 1) ok dX5_choose_58 rfl ?_
        refine gg_iadd (v := nI ((2 * (L % 4)) + 1)) ok dX5_choose_59 (nI_add (2 * (L % 4)) 1) ?_
        refine gg_iald (v := x.1 19 0 (2 * (L % 4) + 1)) ok dX5_choose_60 rfl (by decide) (gg_ixn (q := (2 * (L % 4)) + 1) (by omega)) rfl ?_
        refine gg_iconst (v := 3) ok dX5_choose_61 rfl ?_
        refine gg_icmp_ne (tgt := 99) ok dX5_choose_62 rfl ⟨fun hd => ?_, fun hd => ?_⟩
        ·
          refine gg_aload_n ok dX5_choose_99 rfl rfl ?_
          refine gg_getr ok dX5_choose_100 fX5_19 rfl (by decide) rfl ?_
          refine gg_iload_n ok dX5_choose_103 rfl rfl ?_
          refine gg_iald (v := x.1 21 0 (2 * (L % 4))) ok dX5_choose_104 rfl (by decide) (gg_ixn (q := 2 * (L % 4)) (by omega)) rfl ?_
          refine gg_aload_n ok dX5_choose_105 rfl rfl ?_
          refine gg_getr ok dX5_choose_106 fX5_19 rfl (by decide) rfl ?_
          refine gg_iload_n ok dX5_choose_109 rfl rfl ?_
          refine gg_iconst (v := 1) ok dX5_choose_110 rfl ?_
          refine gg_iadd (v := nI ((2 * (L % 4)) + 1)) ok dX5_choose_111 (nI_add (2 * (L % 4)) 1) ?_
          refine gg_iald (v := x.1 21 0 (2 * (L % 4) + 1)) ok dX5_choose_112 rfl (by decide) (gg_ixn (q := (2 * (L % 4)) + 1) (by omega)) rfl ?_
          refine gg_icmp_ge (tgt := 120) ok dX5_choose_113 rfl ⟨fun hu => ?_, fun hu => ?_⟩
          ·
            have hu := Int32.not_lt.mpr hu
            refine gg_iload_n ok dX5_choose_120 rfl rfl ?_
            refine gg_iconst (v := 1) ok dX5_choose_121 rfl ?_
            refine gg_iadd (v := nI ((2 * (L % 4)) + 1)) ok dX5_choose_122 (nI_add (2 * (L % 4)) 1) ?_
            exact gg_iret ok hr (fun h => h) dX5_choose_123 ⟨by simp [md_cho, md_oi, ha, hb, hc, hd, hu], rfl⟩
          ·
            have hu := Int32.not_le.mp hu
            refine gg_iload_n ok dX5_choose_116 rfl rfl ?_
            refine gg_goto (tgt := 123) ok dX5_choose_117 rfl ?_
            exact gg_iret ok hr (fun h => h) dX5_choose_123 ⟨by simp [md_cho, md_oi, ha, hb, hc, hd, hu], rfl⟩
        ·
          refine gg_aload_n ok dX5_choose_65 rfl rfl ?_
          refine gg_getr ok dX5_choose_66 fX5_13 rfl (by decide) rfl ?_
          refine gg_iload_n ok dX5_choose_69 rfl rfl ?_
          refine gg_iald (v := x.1 19 0 (2 * (L % 4))) ok dX5_choose_70 rfl (by decide) (gg_ixn (q := 2 * (L % 4)) (by omega)) rfl ?_
          refine gg_iconst (v := 3) ok dX5_choose_71 rfl ?_
          refine gg_icmp_eq (tgt := 79) ok dX5_choose_72 rfl ⟨fun z => absurd z (hc), fun _ => ?_⟩
          refine gg_iload_n ok dX5_choose_75 rfl rfl ?_
          refine gg_goto (tgt := 98) ok dX5_choose_76 rfl ?_
          exact gg_iret ok hr (fun h => h) dX5_choose_98 ⟨by simp_all [md_cho, md_oi], rfl⟩
    ·
      refine gg_aload_n ok dX5_choose_26 rfl rfl ?_
      refine gg_getr ok dX5_choose_27 fX5_13 rfl (by decide) rfl ?_
      refine gg_iload_n ok dX5_choose_30 rfl rfl ?_
      refine gg_iald (v := x.1 19 0 (2 * (L % 4))) ok dX5_choose_31 rfl (by decide) (gg_ixn (q := 2 * (L % 4)) (by omega)) rfl ?_
      refine gg_if_ne (tgt := 39) ok dX5_choose_32 rfl ⟨fun _ => ?_, fun z => absurd z (ha)⟩
      refine gg_iload_n ok dX5_choose_39 rfl rfl ?_
      refine gg_iconst (v := 1) ok dX5_choose_40 rfl ?_
      refine gg_iadd (v := nI ((2 * (L % 4)) + 1)) ok dX5_choose_41 (nI_add (2 * (L % 4)) 1) ?_
      exact gg_iret ok hr (fun h => h) dX5_choose_42 ⟨by simp_all [md_cho, md_oi], rfl⟩
set_option maxRecDepth 20000 in
theorem kX5_use (l : Launch) (htr : l.stackTraces = false) (x : gg_X) (w : Nat) (hw : w < 8) : gg_Cd l yX5_use cX5_use 2 none (gg_rm 0 0 0 0) true [gg_r 17 0, gg_i (nI w)] x (.inl none) (md_use x w) := by
  refine gg_of htr (by decide) (Nat.le_of_ble_eq_true rfl) ?_
  intro p e s m args below meth c D cT ad ok okx okt hr hin
  refine gg_wk ?_
  refine gg_aload_n ok dX5_use_0 rfl rfl ?_
  refine gg_dup ok dX5_use_1 rfl ?_
  refine gg_geti ok dX5_use_2 fX5_60 rfl (by decide) rfl rfl ?_
  refine gg_iconst (v := 1) ok dX5_use_5 rfl ?_
  refine gg_iadd ok dX5_use_6 rfl ?_
  refine gg_puti ok dX5_use_7 fX5_60 p5_6 rfl (by decide) rfl ?_
  refine gg_aload_n ok dX5_use_10 rfl rfl ?_
  refine gg_getr ok dX5_use_11 fX5_19 rfl (by decide) rfl ?_
  refine gg_iload_n ok dX5_use_14 rfl rfl ?_
  refine gg_aload_n ok dX5_use_15 rfl rfl ?_
  refine gg_geti ok dX5_use_16 fX5_60 rfl (by decide) rfl rfl ?_
  refine gg_iast ok dX5_use_19 rfl (by decide) (gg_ixn (q := w) (by omega)) ?_
  exact gg_vret ok hr (fun _ => rfl) dX5_use_20 ⟨rfl, rfl⟩
set_option maxRecDepth 20000 in
theorem kX5_put (l : Launch) (htr : l.stackTraces = false) (x : gg_X) (n w : Nat) (q : Int32) (hw : w < 8) (hn : x.1 17 0 12 = nI n) (hn8 : n < 8) : gg_Cd l yX5_put cX5_put 4 none (gg_rm 0 0 0 0) true [gg_r 17 0, gg_i q, gg_i (nI w)] x (.inl none) (md_put x n q w) := by
  refine gg_of htr (by decide) (Nat.le_of_ble_eq_true rfl) ?_
  intro p e s m args below meth c D cT ad ok okx okt hr hin
  refine gg_wk ?_
  refine gg_aload_n ok dX5_put_0 rfl rfl ?_
  refine gg_getr ok dX5_put_1 fX5_38 rfl (by decide) rfl ?_
  refine gg_aload_n ok dX5_put_4 rfl rfl ?_
  refine gg_geti (v := nI n) ok dX5_put_5 fX5_57 rfl (by decide) rfl hn ?_
  refine gg_iload_n ok dX5_put_8 rfl rfl ?_
  refine gg_iast ok dX5_put_9 rfl (by decide) (gg_ixn (q := n) (by omega)) ?_
  refine gg_iconst (v := 0) ok dX5_put_10 rfl ?_
  refine gg_istore_n (lo' := [(3, gg_i 0), (0, gg_r 17 0), (1, gg_i q), (2, gg_i (nI w))]) ok dX5_put_11 rfl (by decide) rfl ?_
  refine gg_iload_n ok dX5_put_12 rfl rfl ?_
  refine gg_iconst (v := 4) ok dX5_put_13 rfl ?_
  refine gg_icmp_ge (tgt := 46) ok dX5_put_14 rfl ⟨fun z => absurd z (by decide), fun _ => ?_⟩
  refine gg_aload_n ok dX5_put_17 rfl rfl ?_
  refine gg_getr ok dX5_put_18 fX5_41 rfl (by decide) rfl ?_
  refine gg_iconst (v := 4) ok dX5_put_21 rfl ?_
  refine gg_aload_n ok dX5_put_22 rfl rfl ?_
  refine gg_geti (v := nI n) ok dX5_put_23 fX5_57 rfl (by decide) rfl hn ?_
  refine gg_imul (v := nI (4 * n)) ok dX5_put_26 (pk_mul 4 n) ?_
  refine gg_iload_n ok dX5_put_27 rfl rfl ?_
  refine gg_iadd (v := nI ((4 * n) + 0)) ok dX5_put_28 (nI_add (4 * n) 0) ?_
  refine gg_aload_n ok dX5_put_29 rfl rfl ?_
  refine gg_getr ok dX5_put_30 fX5_22 rfl (by decide) rfl ?_
  refine gg_iconst (v := 4) ok dX5_put_33 rfl ?_
  refine gg_iload_n ok dX5_put_34 rfl rfl ?_
  refine gg_imul (v := nI (4 * w)) ok dX5_put_35 (pk_mul 4 w) ?_
  refine gg_iload_n ok dX5_put_36 rfl rfl ?_
  refine gg_iadd (v := nI ((4 * w) + 0)) ok dX5_put_37 (nI_add (4 * w) 0) ?_
  refine gg_iald ok dX5_put_38 rfl (by decide) (gg_ixn (q := (4 * w) + 0) (by omega)) rfl ?_
  refine gg_iast ok dX5_put_39 rfl (by decide) (gg_ixn (q := (4 * n) + 0) (by omega)) ?_
  refine gg_iinc (v := 1) (lo' := [(3, gg_i 1), (0, gg_r 17 0), (1, gg_i q), (2, gg_i (nI w))]) ok dX5_put_40 rfl rfl (by decide) rfl ?_
  refine gg_goto (tgt := 12) ok dX5_put_43 rfl ?_
  refine gg_iload_n ok dX5_put_12 rfl rfl ?_
  refine gg_iconst (v := 4) ok dX5_put_13 rfl ?_
  refine gg_icmp_ge (tgt := 46) ok dX5_put_14 rfl ⟨fun z => absurd z (by decide), fun _ => ?_⟩
  refine gg_aload_n ok dX5_put_17 rfl rfl ?_
  refine gg_getr ok dX5_put_18 fX5_41 rfl (by decide) rfl ?_
  refine gg_iconst (v := 4) ok dX5_put_21 rfl ?_
  refine gg_aload_n ok dX5_put_22 rfl rfl ?_
  refine gg_geti (v := nI n) ok dX5_put_23 fX5_57 rfl (by decide) rfl hn ?_
  refine gg_imul (v := nI (4 * n)) ok dX5_put_26 (pk_mul 4 n) ?_
  refine gg_iload_n ok dX5_put_27 rfl rfl ?_
  refine gg_iadd (v := nI ((4 * n) + 1)) ok dX5_put_28 (nI_add (4 * n) 1) ?_
  refine gg_aload_n ok dX5_put_29 rfl rfl ?_
  refine gg_getr ok dX5_put_30 fX5_22 rfl (by decide) rfl ?_
  refine gg_iconst (v := 4) ok dX5_put_33 rfl ?_
  refine gg_iload_n ok dX5_put_34 rfl rfl ?_
  refine gg_imul (v := nI (4 * w)) ok dX5_put_35 (pk_mul 4 w) ?_
  refine gg_iload_n ok dX5_put_36 rfl rfl ?_
  refine gg_iadd (v := nI ((4 * w) + 1)) ok dX5_put_37 (nI_add (4 * w) 1) ?_
  refine gg_iald ok dX5_put_38 rfl (by decide) (gg_ixn (q := (4 * w) + 1) (by omega)) rfl ?_
  refine gg_iast ok dX5_put_39 rfl (by decide) (gg_ixn (q := (4 * n) + 1) (by omega)) ?_
  refine gg_iinc (v := 2) (lo' := [(3, gg_i 2), (0, gg_r 17 0), (1, gg_i q), (2, gg_i (nI w))]) ok dX5_put_40 rfl rfl (by decide) rfl ?_
  refine gg_goto (tgt := 12) ok dX5_put_43 rfl ?_
  refine gg_iload_n ok dX5_put_12 rfl rfl ?_
  refine gg_iconst (v := 4) ok dX5_put_13 rfl ?_
  refine gg_icmp_ge (tgt := 46) ok dX5_put_14 rfl ⟨fun z => absurd z (by decide), fun _ => ?_⟩
  refine gg_aload_n ok dX5_put_17 rfl rfl ?_
  refine gg_getr ok dX5_put_18 fX5_41 rfl (by decide) rfl ?_
  refine gg_iconst (v := 4) ok dX5_put_21 rfl ?_
  refine gg_aload_n ok dX5_put_22 rfl rfl ?_
  refine gg_geti (v := nI n) ok dX5_put_23 fX5_57 rfl (by decide) rfl hn ?_
  refine gg_imul (v := nI (4 * n)) ok dX5_put_26 (pk_mul 4 n) ?_
  refine gg_iload_n ok dX5_put_27 rfl rfl ?_
  refine gg_iadd (v := nI ((4 * n) + 2)) ok dX5_put_28 (nI_add (4 * n) 2) ?_
  refine gg_aload_n ok dX5_put_29 rfl rfl ?_
  refine gg_getr ok dX5_put_30 fX5_22 rfl (by decide) rfl ?_
  refine gg_iconst (v := 4) ok dX5_put_33 rfl ?_
  refine gg_iload_n ok dX5_put_34 rfl rfl ?_
  refine gg_imul (v := nI (4 * w)) ok dX5_put_35 (pk_mul 4 w) ?_
  refine gg_iload_n ok dX5_put_36 rfl rfl ?_
  refine gg_iadd (v := nI ((4 * w) + 2)) ok dX5_put_37 (nI_add (4 * w) 2) ?_
  refine gg_iald ok dX5_put_38 rfl (by decide) (gg_ixn (q := (4 * w) + 2) (by omega)) rfl ?_
  refine gg_iast ok dX5_put_39 rfl (by decide) (gg_ixn (q := (4 * n) + 2) (by omega)) ?_
  refine gg_iinc (v := 3) (lo' := [(3, gg_i 3), (0, gg_r 17 0), (1, gg_i q), (2, gg_i (nI w))]) ok dX5_put_40 rfl rfl (by decide) rfl ?_
  refine gg_goto (tgt := 12) ok dX5_put_43 rfl ?_
  refine gg_iload_n ok dX5_put_12 rfl rfl ?_
  refine gg_iconst (v := 4) ok dX5_put_13 rfl ?_
  refine gg_icmp_ge (tgt := 46) ok dX5_put_14 rfl ⟨fun z => absurd z (by decide), fun _ => ?_⟩
  refine gg_aload_n ok dX5_put_17 rfl rfl ?_
  refine gg_getr ok dX5_put_18 fX5_41 rfl (by decide) rfl ?_
  refine gg_iconst (v := 4) ok dX5_put_21 rfl ?_
  refine gg_aload_n ok dX5_put_22 rfl rfl ?_
  refine gg_geti (v := nI n) ok dX5_put_23 fX5_57 rfl (by decide) rfl hn ?_
  refine gg_imul (v := nI (4 * n)) ok dX5_put_26 (pk_mul 4 n) ?_
  refine gg_iload_n ok dX5_put_27 rfl rfl ?_
  refine gg_iadd (v := nI ((4 * n) + 3)) ok dX5_put_28 (nI_add (4 * n) 3) ?_
  refine gg_aload_n ok dX5_put_29 rfl rfl ?_
  refine gg_getr ok dX5_put_30 fX5_22 rfl (by decide) rfl ?_
  refine gg_iconst (v := 4) ok dX5_put_33 rfl ?_
  refine gg_iload_n ok dX5_put_34 rfl rfl ?_
  refine gg_imul (v := nI (4 * w)) ok dX5_put_35 (pk_mul 4 w) ?_
  refine gg_iload_n ok dX5_put_36 rfl rfl ?_
  refine gg_iadd (v := nI ((4 * w) + 3)) ok dX5_put_37 (nI_add (4 * w) 3) ?_
  refine gg_iald ok dX5_put_38 rfl (by decide) (gg_ixn (q := (4 * w) + 3) (by omega)) rfl ?_
  refine gg_iast ok dX5_put_39 rfl (by decide) (gg_ixn (q := (4 * n) + 3) (by omega)) ?_
  refine gg_iinc (v := 4) (lo' := [(3, gg_i 4), (0, gg_r 17 0), (1, gg_i q), (2, gg_i (nI w))]) ok dX5_put_40 rfl rfl (by decide) rfl ?_
  refine gg_goto (tgt := 12) ok dX5_put_43 rfl ?_
  refine gg_iload_n ok dX5_put_12 rfl rfl ?_
  refine gg_iconst (v := 4) ok dX5_put_13 rfl ?_
  refine gg_icmp_ge (tgt := 46) ok dX5_put_14 rfl ⟨fun _ => ?_, fun z => absurd (by decide) z⟩
  refine gg_aload_n ok dX5_put_46 rfl rfl ?_
  refine gg_dup ok dX5_put_47 rfl ?_
  refine gg_geti (v := nI n) ok dX5_put_48 fX5_57 rfl (by decide) rfl hn ?_
  refine gg_iconst (v := 1) ok dX5_put_51 rfl ?_
  refine gg_iadd (v := nI (n + 1)) ok dX5_put_52 (nI_add n 1) ?_
  refine gg_puti ok dX5_put_53 fX5_57 p5_12 rfl (by decide) rfl ?_
  refine gg_aload_n ok dX5_put_56 rfl rfl ?_
  refine gg_aload_n ok dX5_put_57 rfl rfl ?_
  refine gg_geti (v := nI (n + 1)) ok dX5_put_58 fX5_57 rfl (by decide) rfl rfl ?_
  refine gg_iconst (v := 1) ok dX5_put_61 rfl ?_
  refine gg_icmp_ne (tgt := 72) ok dX5_put_62 rfl ⟨fun h62 => ?_, fun h62 => ?_⟩
  ·
    have hn0 : ¬ n = 0 := fun z => h62 (by rw [z]; rfl)
    refine gg_aload_n ok dX5_put_72 rfl rfl ?_
    refine gg_geti ok dX5_put_73 fX5_63 rfl (by decide) rfl rfl ?_
    refine gg_puti ok dX5_put_76 fX5_63 p5_15 rfl (by decide) rfl ?_
    exact gg_vret ok hr (fun _ => rfl) dX5_put_79 ⟨rfl, by unfold md_put; rw [if_neg hn0] <;> rfl⟩
  ·
    have hn0 : n = 0 := by
      have h9 := (nI_eq (a := n + 1) (b := 1) (by omega) (by decide)).mp h62
      omega
    refine gg_aload_n ok dX5_put_65 rfl rfl ?_
    refine gg_geti ok dX5_put_66 fX5_44 rfl (by decide) rfl rfl ?_
    refine gg_goto (tgt := 76) ok dX5_put_69 rfl ?_
    refine gg_puti ok dX5_put_76 fX5_63 p5_15 rfl (by decide) rfl ?_
    exact gg_vret ok hr (fun _ => rfl) dX5_put_79 ⟨rfl, by unfold md_put; rw [if_pos hn0] <;> rfl⟩
set_option maxRecDepth 20000 in
theorem kX5_fetch (l : Launch) (htr : l.stackTraces = false) (x : gg_X) (n L w : Nat) (hw : w < 8) (hn : x.1 17 0 12 = nI n) (hn8 : n < 8) : gg_Cd l yX5_fetch cX5_fetch 3 none (gg_rm 1 0 0 23) true [gg_r 17 0, gg_i (nI L), gg_i (nI w)] x (.inl none) (md_fetch x n L w) := by
  refine gg_of htr (by decide) (Nat.le_of_ble_eq_true rfl) ?_
  intro p e s m args below meth c D cT ad ok okx okt hr hin
  refine gg_wk ?_
  refine gg_aload_n ok dX5_fetch_0 rfl rfl ?_
  refine gg_getr ok dX5_fetch_1 fX5_13 rfl (by decide) rfl ?_
  refine gg_iload_n ok dX5_fetch_4 rfl rfl ?_
  refine gg_iconst (v := 3) ok dX5_fetch_5 rfl ?_
  refine gg_iast ok dX5_fetch_6 rfl (by decide) (gg_ixn (q := w) (by omega)) ?_
  refine gg_aload_n ok dX5_fetch_7 rfl rfl ?_
  refine gg_getr ok dX5_fetch_8 fX5_16 rfl (by decide) rfl ?_
  refine gg_iload_n ok dX5_fetch_11 rfl rfl ?_
  refine gg_iload_n ok dX5_fetch_12 rfl rfl ?_
  refine gg_iast ok dX5_fetch_13 rfl (by decide) (gg_ixn (q := w) (by omega)) ?_
  refine gg_aload_n ok dX5_fetch_14 rfl rfl ?_
  refine gg_iload_n ok dX5_fetch_15 rfl rfl ?_
  refine gg_callV0 ok dX5_fetch_16 gX5_66 (kX5_use l htr _ w hw) (fun _ => rfl) rfl (by decide) rfl rfl (Nat.le_of_ble_eq_true rfl) (Nat.le_of_ble_eq_true rfl) (Nat.le_of_ble_eq_true rfl) (Nat.le_of_ble_eq_true rfl) (Nat.le_of_ble_eq_true rfl) ?_
  refine gg_aload_n ok dX5_fetch_19 rfl rfl ?_
  refine gg_iload_n ok dX5_fetch_20 rfl rfl ?_
  refine gg_iload_n ok dX5_fetch_21 rfl rfl ?_
  refine gg_callV0 ok dX5_fetch_22 gX5_70 (kX5_put l htr _ n w (nI L) hw hn hn8) (fun _ => rfl) rfl (by decide) rfl rfl (Nat.le_of_ble_eq_true rfl) (Nat.le_of_ble_eq_true rfl) (Nat.le_of_ble_eq_true rfl) (Nat.le_of_ble_eq_true rfl) (Nat.le_of_ble_eq_true rfl) ?_
  exact gg_vret ok hr (fun _ => rfl) dX5_fetch_25 ⟨rfl, rfl⟩
set_option maxRecDepth 20000 in
theorem kX5_fetchAhead (l : Launch) (htr : l.stackTraces = false) (x : gg_X) (n L : Nat) (hL : L ≤ 64) (hn : x.1 17 0 12 = nI n) (hn8 : n < 8) : gg_Cd l yX5_fetchAhead cX5_fetchAhead 3 none (gg_rm 2 0 0 45) true [gg_r 17 0, gg_i (nI L)] x (.inl none) (md_fah x n L) := by
  refine gg_of htr (by decide) (Nat.le_of_ble_eq_true rfl) ?_
  intro p e s m args below meth c D cT ad ok okx okt hr hin
  refine gg_wk ?_
  refine gg_aload_n ok dX5_fetchAhead_0 rfl rfl ?_
  refine gg_getz (v := x.1 17 0 17) ok dX5_fetchAhead_1 fX5_74 rfl (by decide) rfl rfl ?_
  refine gg_if_eq (tgt := 29) ok dX5_fetchAhead_4 rfl ⟨fun h0 => ?_, fun h0 => ?_⟩
  ·
    exact gg_vret ok hr (fun _ => rfl) dX5_fetchAhead_29 ⟨rfl, by simp [md_fah, h0]⟩
  ·
    refine gg_iload_n ok dX5_fetchAhead_7 rfl rfl ?_
    refine gg_bipush (v := 63) ok dX5_fetchAhead_8 rfl ?_
    refine gg_icmp_gt (tgt := 29) ok dX5_fetchAhead_10 rfl ⟨fun hl => ?_, fun hl => ?_⟩
    ·
      have hl := (nI_ltI (a := 63) (b := L) (by decide) (by omega)).mp hl
      exact gg_vret ok hr (fun _ => rfl) dX5_fetchAhead_29 ⟨rfl, by simp [md_fah, h0, hl]⟩
    ·
      have hl : ¬ 63 < L := fun z => hl (nI_lt (a := 63) z (by omega))
      refine gg_aload_n ok dX5_fetchAhead_13 rfl rfl ?_
      refine gg_iload_n ok dX5_fetchAhead_14 rfl rfl ?_
      refine gg_callV1 ok dX5_fetchAhead_15 gX5_78 (kX5_wayOf l htr x L (by omega)) (fun _ => rfl) rfl (by decide) rfl rfl (Nat.le_of_ble_eq_true rfl) (Nat.le_of_ble_eq_true rfl) (Nat.le_of_ble_eq_true rfl) (Nat.le_of_ble_eq_true rfl) (Nat.le_of_ble_eq_true rfl) ?_
      rcases hf : md_way x L with _ | j
      ·
        refine gg_if_ge (tgt := 29) ok dX5_fetchAhead_18 rfl ⟨fun z => absurd z (by decide), fun _ => ?_⟩
        refine gg_aload_n ok dX5_fetchAhead_21 rfl rfl ?_
        refine gg_callV1 ok dX5_fetchAhead_22 gX5_82 (kX5_awaited l htr x) (fun _ => rfl) rfl (by decide) rfl rfl (Nat.le_of_ble_eq_true rfl) (Nat.le_of_ble_eq_true rfl) (Nat.le_of_ble_eq_true rfl) (Nat.le_of_ble_eq_true rfl) (Nat.le_of_ble_eq_true rfl) ?_
        refine gg_iconst (v := 3) ok dX5_fetchAhead_25 rfl ?_
        refine gg_icmp_ne (tgt := 30) ok dX5_fetchAhead_26 rfl ⟨fun hw3 => ?_, fun hw3 => ?_⟩
        ·
          have hw3 : ¬ md_aw x 8 = 3 := fun z => hw3 (by rw [z]; rfl)
          refine gg_aload_n ok dX5_fetchAhead_30 rfl rfl ?_
          refine gg_iload_n ok dX5_fetchAhead_31 rfl rfl ?_
          refine gg_callV1 ok dX5_fetchAhead_32 gX5_86 (kX5_choose l htr x L (by omega)) (fun _ => rfl) rfl (by decide) rfl rfl (Nat.le_of_ble_eq_true rfl) (Nat.le_of_ble_eq_true rfl) (Nat.le_of_ble_eq_true rfl) (Nat.le_of_ble_eq_true rfl) (Nat.le_of_ble_eq_true rfl) ?_
          rcases hc : md_cho x (2 * (L % 4)) with _ | w
          ·
            refine gg_istore_n (lo' := [(2, gg_i ((-1))), (0, gg_r 17 0), (1, gg_i (nI L))]) ok dX5_fetchAhead_35 rfl (by decide) rfl ?_
            refine gg_iload_n ok dX5_fetchAhead_36 rfl rfl ?_
            refine gg_if_lt (tgt := 66) ok dX5_fetchAhead_37 rfl ⟨fun _ => ?_, fun z => absurd (by decide) z⟩
            exact gg_vret ok hr (fun _ => rfl) dX5_fetchAhead_66 ⟨rfl, by simp [md_fah, h0, hl, hf, hw3, hc]⟩
          ·
            have hw8 := md_cho_lt (by omega) hc
            refine gg_istore_n (lo' := [(2, gg_i (nI w)), (0, gg_r 17 0), (1, gg_i (nI L))]) ok dX5_fetchAhead_35 rfl (by decide) rfl ?_
            refine gg_iload_n ok dX5_fetchAhead_36 rfl rfl ?_
            refine gg_if_lt (tgt := 66) ok dX5_fetchAhead_37 rfl ⟨fun z => absurd z (nI_pos (by omega)), fun _ => ?_⟩
            refine gg_aload_n ok dX5_fetchAhead_40 rfl rfl ?_
            refine gg_getr ok dX5_fetchAhead_41 fX5_13 rfl (by decide) rfl ?_
            refine gg_iload_n ok dX5_fetchAhead_44 rfl rfl ?_
            refine gg_iald (v := x.1 19 0 w) ok dX5_fetchAhead_45 rfl (by decide) (gg_ixn (q := w) (by omega)) rfl ?_
            refine gg_iconst (v := 2) ok dX5_fetchAhead_46 rfl ?_
            refine gg_icmp_eq (tgt := 66) ok dX5_fetchAhead_47 rfl ⟨fun hs => ?_, fun hs => ?_⟩
            ·
              exact gg_vret ok hr (fun _ => rfl) dX5_fetchAhead_66 ⟨rfl, by simp [md_fah, h0, hl, hf, hw3, hc, hs]⟩
            ·
              refine gg_aload_n ok dX5_fetchAhead_50 rfl rfl ?_
              refine gg_iload_n ok dX5_fetchAhead_51 rfl rfl ?_
              refine gg_iload_n ok dX5_fetchAhead_52 rfl rfl ?_
              refine gg_callV0 ok dX5_fetchAhead_53 gX5_89 (kX5_fetch l htr x n L w hw8 hn hn8) (fun _ => rfl) rfl (by decide) rfl rfl (Nat.le_of_ble_eq_true rfl) (Nat.le_of_ble_eq_true rfl) (Nat.le_of_ble_eq_true rfl) (Nat.le_of_ble_eq_true rfl) (Nat.le_of_ble_eq_true rfl) ?_
              refine gg_aload_n ok dX5_fetchAhead_56 rfl rfl ?_
              refine gg_getr ok dX5_fetchAhead_57 fX5_48 rfl (by decide) rfl ?_
              refine gg_iconst (v := 5) ok dX5_fetchAhead_60 rfl ?_
              refine gg_dup2 ok dX5_fetchAhead_61 rfl rfl ?_
              refine gg_iald ok dX5_fetchAhead_62 rfl (by decide) (gg_ixn (q := 5) (by decide)) rfl ?_
              refine gg_iconst (v := 1) ok dX5_fetchAhead_63 rfl ?_
              refine gg_iadd ok dX5_fetchAhead_64 rfl ?_
              refine gg_iast ok dX5_fetchAhead_65 rfl (by decide) (gg_ixn (q := 5) (by decide)) ?_
              exact gg_vret ok hr (fun _ => rfl) dX5_fetchAhead_66 ⟨rfl, by simp [md_fah, h0, hl, hf, hw3, hc, hs] <;> rfl⟩
        ·
          have hw3 := (nI_eq (a := md_aw x 8) (b := 3) (by have := md_aw_le (x := x) 8; omega) (by decide)).mp hw3
          exact gg_vret ok hr (fun _ => rfl) dX5_fetchAhead_29 ⟨rfl, by simp [md_fah, h0, hl, hf, hw3]⟩
      ·
        refine gg_if_ge (tgt := 29) ok dX5_fetchAhead_18 rfl ⟨fun _ => ?_, fun z => absurd (nI_pos' (by have := md_way_lt hf; omega)) z⟩
        exact gg_vret ok hr (fun _ => rfl) dX5_fetchAhead_29 ⟨rfl, by simp [md_fah, h0, hl, hf]⟩
set_option maxRecDepth 20000 in
theorem kX5_act (l : Launch) (htr : l.stackTraces = false) (x : gg_X) (t w a : Nat) (ht : t < 600) (hw : w < 8) (hat : x.1 23 0 t = nI a) (ha : a < 256) : gg_Cd l yX5_act cX5_act 4 none (gg_rm 0 0 0 0) true [gg_r 17 0, gg_i (nI t), gg_i (nI w)] x (.inl none) (md_act x t w a) := by
  refine gg_of htr (by decide) (Nat.le_of_ble_eq_true rfl) ?_
  intro p e s m args below meth c D cT ad ok okx okt hr hin
  refine gg_wk ?_
  refine gg_iconst (v := 4) ok dX5_act_0 rfl ?_
  refine gg_iload_n ok dX5_act_1 rfl rfl ?_
  refine gg_imul (v := nI (4 * w)) ok dX5_act_2 (pk_mul 4 w) ?_
  refine gg_aload_n ok dX5_act_3 rfl rfl ?_
  refine gg_getr ok dX5_act_4 fX5_25 rfl (by decide) rfl ?_
  refine gg_iload_n ok dX5_act_7 rfl rfl ?_
  refine gg_iald (v := nI a) ok dX5_act_8 rfl (by decide) (gg_ixn (q := t) (by omega)) hat ?_
  refine gg_iconst (v := 4) ok dX5_act_9 rfl ?_
  refine gg_irem (v := nI (a % 4)) ok dX5_act_10 (pk_rem (a := a) (d := 4) (by omega) (by omega) (by omega)) (by decide) ?_
  refine gg_iadd (v := nI ((4 * w) + (a % 4))) ok dX5_act_11 (nI_add (4 * w) (a % 4)) ?_
  refine gg_istore_n (lo' := [(3, gg_i (nI ((4 * w) + (a % 4)))), (0, gg_r 17 0), (1, gg_i (nI t)), (2, gg_i (nI w))]) ok dX5_act_12 rfl (by decide) rfl ?_
  refine gg_aload_n ok dX5_act_13 rfl rfl ?_
  refine gg_getr ok dX5_act_14 fX5_28 rfl (by decide) rfl ?_
  refine gg_iload_n ok dX5_act_17 rfl rfl ?_
  refine gg_zald (v := x.1 24 0 t) ok dX5_act_18 rfl (by decide) (gg_ixn (q := t) (by omega)) rfl ?_
  refine gg_if_eq (tgt := 44) ok dX5_act_19 rfl ⟨fun h19 => ?_, fun h19 => ?_⟩
  ·
    refine gg_aload_n ok dX5_act_44 rfl rfl ?_
    refine gg_getr ok dX5_act_45 fX5_32 rfl (by decide) rfl ?_
    refine gg_iload_n ok dX5_act_48 rfl rfl ?_
    refine gg_aload_n ok dX5_act_49 rfl rfl ?_
    refine gg_getr ok dX5_act_50 fX5_22 rfl (by decide) rfl ?_
    refine gg_iload_n ok dX5_act_53 rfl rfl ?_
    refine gg_iald ok dX5_act_54 rfl (by decide) (gg_ixn (q := (4 * w) + (a % 4)) (by omega)) rfl ?_
    refine gg_iast ok dX5_act_55 rfl (by decide) (gg_ixn (q := t) (by omega)) ?_
    refine gg_aload_n ok dX5_act_56 rfl rfl ?_
    refine gg_getr ok dX5_act_57 fX5_35 rfl (by decide) rfl ?_
    refine gg_iload_n ok dX5_act_60 rfl rfl ?_
    refine gg_iconst (v := 1) ok dX5_act_61 rfl ?_
    refine gg_zast ok dX5_act_62 rfl (by decide) (gg_ixn (q := t) (by omega)) (by decide) ?_
    exact gg_vret ok hr (fun _ => rfl) dX5_act_63 ⟨rfl, by unfold md_act; rw [if_pos h19] <;> rfl⟩
  ·
    refine gg_aload_n ok dX5_act_22 rfl rfl ?_
    refine gg_getr ok dX5_act_23 fX5_22 rfl (by decide) rfl ?_
    refine gg_iload_n ok dX5_act_26 rfl rfl ?_
    refine gg_aload_n ok dX5_act_27 rfl rfl ?_
    refine gg_getr ok dX5_act_28 fX5_32 rfl (by decide) rfl ?_
    refine gg_iload_n ok dX5_act_31 rfl rfl ?_
    refine gg_iald ok dX5_act_32 rfl (by decide) (gg_ixn (q := t) (by omega)) rfl ?_
    refine gg_iast ok dX5_act_33 rfl (by decide) (gg_ixn (q := (4 * w) + (a % 4)) (by omega)) ?_
    refine gg_aload_n ok dX5_act_34 rfl rfl ?_
    refine gg_getr ok dX5_act_35 fX5_13 rfl (by decide) rfl ?_
    refine gg_iload_n ok dX5_act_38 rfl rfl ?_
    refine gg_iconst (v := 2) ok dX5_act_39 rfl ?_
    refine gg_iast ok dX5_act_40 rfl (by decide) (gg_ixn (q := w) (by omega)) ?_
    refine gg_goto (tgt := 56) ok dX5_act_41 rfl ?_
    refine gg_aload_n ok dX5_act_56 rfl rfl ?_
    refine gg_getr ok dX5_act_57 fX5_35 rfl (by decide) rfl ?_
    refine gg_iload_n ok dX5_act_60 rfl rfl ?_
    refine gg_iconst (v := 1) ok dX5_act_61 rfl ?_
    refine gg_zast ok dX5_act_62 rfl (by decide) (gg_ixn (q := t) (by omega)) (by decide) ?_
    exact gg_vret ok hr (fun _ => rfl) dX5_act_63 ⟨rfl, by unfold md_act; rw [if_neg h19] <;> rfl⟩
set_option maxRecDepth 20000 in
theorem kX5_note (l : Launch) (htr : l.stackTraces = false) (x : gg_X) (T : Nat) (a b v : Int32) (hT : x.1 17 0 7 = nI T) (hT6 : T < 600) (hb : b = 0 ∨ b = 1) : gg_Cd l yX5_note cX5_note 4 (some .int) (gg_rm 0 0 0 0) true [gg_r 17 0, gg_i a, gg_i b, gg_i v] x (.inl (some (gg_i (nI T)))) (md_note x T a b v) := by
  refine gg_of htr (by decide) (Nat.le_of_ble_eq_true rfl) ?_
  intro p e s m args below meth c D cT ad ok okx okt hr hin
  refine gg_wk ?_
  refine gg_aload_n ok dX5_note_0 rfl rfl ?_
  refine gg_getr ok dX5_note_1 fX5_25 rfl (by decide) rfl ?_
  refine gg_aload_n ok dX5_note_4 rfl rfl ?_
  refine gg_geti (v := nI T) ok dX5_note_5 fX5_54 rfl (by decide) rfl hT ?_
  refine gg_iload_n ok dX5_note_8 rfl rfl ?_
  refine gg_iast ok dX5_note_9 rfl (by decide) (gg_ixn (q := T) (by omega)) ?_
  refine gg_aload_n ok dX5_note_10 rfl rfl ?_
  refine gg_getr ok dX5_note_11 fX5_28 rfl (by decide) rfl ?_
  refine gg_aload_n ok dX5_note_14 rfl rfl ?_
  refine gg_geti (v := nI T) ok dX5_note_15 fX5_54 rfl (by decide) rfl hT ?_
  refine gg_iload_n ok dX5_note_18 rfl rfl ?_
  refine gg_zast ok dX5_note_19 rfl (by decide) (gg_ixn (q := T) (by omega)) hb ?_
  refine gg_aload_n ok dX5_note_20 rfl rfl ?_
  refine gg_getr ok dX5_note_21 fX5_32 rfl (by decide) rfl ?_
  refine gg_aload_n ok dX5_note_24 rfl rfl ?_
  refine gg_geti (v := nI T) ok dX5_note_25 fX5_54 rfl (by decide) rfl hT ?_
  refine gg_iload_n ok dX5_note_28 rfl rfl ?_
  refine gg_iast ok dX5_note_29 rfl (by decide) (gg_ixn (q := T) (by omega)) ?_
  refine gg_aload_n ok dX5_note_30 rfl rfl ?_
  refine gg_getr ok dX5_note_31 fX5_35 rfl (by decide) rfl ?_
  refine gg_aload_n ok dX5_note_34 rfl rfl ?_
  refine gg_geti (v := nI T) ok dX5_note_35 fX5_54 rfl (by decide) rfl hT ?_
  refine gg_iconst (v := 0) ok dX5_note_38 rfl ?_
  refine gg_zast ok dX5_note_39 rfl (by decide) (gg_ixn (q := T) (by omega)) (by decide) ?_
  refine gg_aload_n ok dX5_note_40 rfl rfl ?_
  refine gg_dup ok dX5_note_41 rfl ?_
  refine gg_geti (v := nI T) ok dX5_note_42 fX5_54 rfl (by decide) rfl hT ?_
  refine gg_iconst (v := 1) ok dX5_note_45 rfl ?_
  refine gg_iadd (v := nI (T + 1)) ok dX5_note_46 (nI_add T 1) ?_
  refine gg_puti ok dX5_note_47 fX5_54 p5_7 rfl (by decide) rfl ?_
  refine gg_aload_n ok dX5_note_50 rfl rfl ?_
  refine gg_geti (v := nI (T + 1)) ok dX5_note_51 fX5_54 rfl (by decide) rfl rfl ?_
  refine gg_iconst (v := 1) ok dX5_note_54 rfl ?_
  refine gg_isub (v := nI T) ok dX5_note_55 (nI_pred T) ?_
  exact gg_iret ok hr (fun _ => rfl) dX5_note_56 ⟨rfl, rfl⟩
set_option maxRecDepth 20000 in
theorem kX5_stall (l : Launch) (htr : l.stackTraces = false) (x : gg_X)  : gg_Cd l yX5_stall cX5_stall 1 (some .int) (gg_rm 0 0 0 0) true [gg_r 17 0] x (.inl (some (gg_i (-1)))) (md_cnt x 4) := by
  refine gg_of htr (by decide) (Nat.le_of_ble_eq_true rfl) ?_
  intro p e s m args below meth c D cT ad ok okx okt hr hin
  refine gg_wk ?_
  refine gg_aload_n ok dX5_stall_0 rfl rfl ?_
  refine gg_getr ok dX5_stall_1 fX5_48 rfl (by decide) rfl ?_
  refine gg_iconst (v := 4) ok dX5_stall_4 rfl ?_
  refine gg_dup2 ok dX5_stall_5 rfl rfl ?_
  refine gg_iald ok dX5_stall_6 rfl (by decide) (gg_ixn (q := 4) (by decide)) rfl ?_
  refine gg_iconst (v := 1) ok dX5_stall_7 rfl ?_
  refine gg_iadd ok dX5_stall_8 rfl ?_
  refine gg_iast ok dX5_stall_9 rfl (by decide) (gg_ixn (q := 4) (by decide)) ?_
  refine gg_iconst (v := (-1)) ok dX5_stall_10 rfl ?_
  exact gg_iret ok hr (fun _ => rfl) dX5_stall_11 ⟨rfl, rfl⟩
