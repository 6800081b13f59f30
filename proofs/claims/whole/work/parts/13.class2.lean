set_option maxRecDepth 20000 in
theorem lpX0_cw {p : Program} {l : Launch} {e : Env} {s : State} {m : MethodId} {args : Array Value} {below : List Frame} {meth : Method} {c : Code} {Q : State → Prop} {D : va_G} {cT : Nat → ClassId} {ad : Nat → Nat → Nat} (htr : l.stackTraces = false) (x : gg_X) (h n : Nat) (hh : x.1 4 0 1 = nI h) (hh5 : h < 5) (hn : x.1 4 0 2 = nI n) (hn5 : n ≤ 5) (ok : gg_Ok p s m args meth c cX0_countWrites 3 RX0 D cT ad) (kx : gg_G p l e (gg_rm 1 0 0 21) s m args below meth c 3 D cT ad Q false 0 0 x 32 [(2, gg_i (nI n)), (1, gg_i (nI (mr_cw x h n))), (0, gg_r 4 0)] []) : ∀ j k, k + j = n → gg_G p l e (gg_rm 1 0 0 21) s m args below meth c 3 D cT ad Q false 0 0 x 4 [(2, gg_i (nI k)), (1, gg_i (nI (mr_cw x h k))), (0, gg_r 4 0)] [] := by
  intro j
  induction j with
  | zero =>
    intro k hk
    obtain rfl : k = n := by omega
    refine gg_iload_n ok dX0_countWrites_4 rfl rfl ?_
    refine gg_aload_n ok dX0_countWrites_5 rfl rfl ?_
    refine gg_geti (v := nI k) ok dX0_countWrites_6 fX0_21 rfl (by decide) rfl hn ?_
    refine gg_icmp_ge (tgt := 32) ok dX0_countWrites_9 rfl ⟨fun _ => ?_, fun z => absurd (nI_le (Nat.le_refl _) (by omega)) z⟩
    exact kx
  | succ j ih =>
    intro k hk
    have h9 := ih (k + 1) (by omega)
    refine gg_iload_n ok dX0_countWrites_4 rfl rfl ?_
    refine gg_aload_n ok dX0_countWrites_5 rfl rfl ?_
    refine gg_geti (v := nI n) ok dX0_countWrites_6 fX0_21 rfl (by decide) rfl hn ?_
    refine gg_icmp_ge (tgt := 32) ok dX0_countWrites_9 rfl ⟨fun z => absurd z (nI_ge (by omega) (by omega)), fun _ => ?_⟩
    refine gg_aload_n ok dX0_countWrites_12 rfl rfl ?_
    refine gg_iload_n ok dX0_countWrites_13 rfl rfl ?_
    refine gg_callV1 ok dX0_countWrites_14 gX0_31 (kX0_at l htr x h k hh hh5 (by omega)) (fun h => h) rfl (by decide) rfl rfl (Nat.le_of_ble_eq_true rfl) (Nat.le_of_ble_eq_true rfl) (Nat.le_of_ble_eq_true rfl) (Nat.le_of_ble_eq_true rfl) (Nat.le_of_ble_eq_true rfl) ?_
    refine gg_geto15 ok dX0_countWrites_17 fX0_35 rfl (show (h + k) % 5 < 5 by omega) rfl ⟨fun hq => ?_, fun j17 hq => ?_⟩
    ·
      rw [show mr_cw x h (k + 1) = mr_cw x h k + 1 by simp [mr_cw, hq]] at h9
      refine gg_ifnonnullN ok dX0_countWrites_20 ?_
      refine gg_iinc (v := nI (mr_cw x h k + 1)) (lo' := [(1, gg_i (nI (mr_cw x h k + 1))), (2, gg_i (nI k)), (0, gg_r 4 0)]) ok dX0_countWrites_23 rfl (nI_1 (mr_cw x h k)) (by decide) rfl ?_
      refine gg_iinc (v := nI (k + 1)) (lo' := [(2, gg_i (nI (k + 1))), (1, gg_i (nI (mr_cw x h k + 1))), (0, gg_r 4 0)]) ok dX0_countWrites_26 rfl (nI_1 k) (by decide) rfl ?_
      refine gg_goto (tgt := 4) ok dX0_countWrites_29 rfl ?_
      exact h9
    ·
      rw [show mr_cw x h (k + 1) = mr_cw x h k by simp [mr_cw, hq]] at h9
      refine gg_ifnonnull (tgt := 26) ok dX0_countWrites_20 rfl ?_
      refine gg_iinc (v := nI (k + 1)) (lo' := [(2, gg_i (nI (k + 1))), (1, gg_i (nI (mr_cw x h k))), (0, gg_r 4 0)]) ok dX0_countWrites_26 rfl (nI_1 k) (by decide) rfl ?_
      refine gg_goto (tgt := 4) ok dX0_countWrites_29 rfl ?_
      exact h9
set_option maxRecDepth 20000 in
theorem kX0_countWrites (l : Launch) (htr : l.stackTraces = false) (x : gg_X) (h n : Nat) (hh : x.1 4 0 1 = nI h) (hh5 : h < 5) (hn : x.1 4 0 2 = nI n) (hn5 : n ≤ 5) : gg_Cd l yX0_countWrites cX0_countWrites 3 (some .int) (gg_rm 1 0 0 21) false [gg_r 4 0] x (.inl (some (gg_i (nI (mr_cw x h n))))) x := by
  refine gg_of htr (by decide) (Nat.le_of_ble_eq_true rfl) ?_
  intro p e s m args below meth c D cT ad ok okx okt hr hin
  refine gg_iconst (v := 0) ok dX0_countWrites_0 rfl ?_
  refine gg_istore_n (lo' := [(1, gg_i 0), (0, gg_r 4 0)]) ok dX0_countWrites_1 rfl (by decide) rfl ?_
  refine gg_iconst (v := 0) ok dX0_countWrites_2 rfl ?_
  refine gg_istore_n (lo' := [(2, gg_i 0), (1, gg_i 0), (0, gg_r 4 0)]) ok dX0_countWrites_3 rfl (by decide) rfl ?_
  refine lpX0_cw htr x h n hh hh5 hn hn5 ok ?_ n 0 (by omega)
  refine gg_iload_n ok dX0_countWrites_32 rfl rfl ?_
  exact gg_iret ok hr (fun h => h) dX0_countWrites_33 ⟨rfl, rfl⟩
set_option maxRecDepth 20000 in
theorem kX4_fetch (l : Launch) (htr : l.stackTraces = false) (x : gg_X) (h n L i r : Nat) (hi : i < 8) (hr1 : r < 3) (hh : x.1 4 0 1 = nI h) (hh5 : h < 5) (hn : x.1 4 0 2 = nI n) (hn5 : n < 5) : gg_Cd l yX4_fetch cX4_fetch 4 none (gg_rm 1 0 0 23) true [gg_r 0 0, gg_i (nI L), gg_r 9 i, gg_r 11 r] x (.inl none) (mr_fetch x L i r ((h + n) % 5) n) := by
  refine gg_of htr (by decide) (Nat.le_of_ble_eq_true rfl) ?_
  intro p e s m args below meth c D cT ad ok okx okt hr hin
  refine gg_wk ?_
  refine gg_aload_n ok dX4_fetch_0 rfl rfl ?_
  refine gg_iconst (v := 1) ok dX4_fetch_1 rfl ?_
  refine gg_putz ok dX4_fetch_2 fX4_191 p1_3 rfl hr1 rfl (by decide) ?_
  refine gg_aload_n ok dX4_fetch_5 rfl rfl ?_
  refine gg_iconst (v := 0) ok dX4_fetch_6 rfl ?_
  refine gg_puti ok dX4_fetch_7 fX4_122 p1_4 rfl hr1 rfl ?_
  refine gg_aload_n ok dX4_fetch_10 rfl rfl ?_
  refine gg_iload_n ok dX4_fetch_11 rfl rfl ?_
  refine gg_puti ok dX4_fetch_12 fX4_100 p3_1 rfl hi rfl ?_
  refine gg_aload_n ok dX4_fetch_15 rfl rfl ?_
  refine gg_iconst (v := 0) ok dX4_fetch_16 rfl ?_
  refine gg_putz ok dX4_fetch_17 fX4_97 p3_2 rfl hi rfl (by decide) ?_
  refine gg_aload_n ok dX4_fetch_20 rfl rfl ?_
  refine gg_aload_n ok dX4_fetch_21 rfl rfl ?_
  refine gg_put9 ok dX4_fetch_22 fX4_112 p3_3 hi ?_
  refine gg_aload_n ok dX4_fetch_25 rfl rfl ?_
  refine gg_aload_n ok dX4_fetch_26 rfl rfl ?_
  refine gg_callV0 ok dX4_fetch_27 gX4_159 (kX4_use l htr _ i hi) (fun _ => rfl) rfl (by decide) rfl rfl (Nat.le_of_ble_eq_true rfl) (Nat.le_of_ble_eq_true rfl) (Nat.le_of_ble_eq_true rfl) (Nat.le_of_ble_eq_true rfl) (Nat.le_of_ble_eq_true rfl) ?_
  refine gg_aload_n ok dX4_fetch_30 rfl rfl ?_
  refine gg_getr ok dX4_fetch_31 fX4_28 rfl (by decide) rfl ?_
  refine gg_iload_n ok dX4_fetch_34 rfl rfl ?_
  refine gg_aload_n ok dX4_fetch_35 rfl rfl ?_
  refine gg_callV1 ok dX4_fetch_36 gX4_194 (kX0_appenda l htr _ h n (nI L) i hi hh hh5 hn hn5) (fun _ => rfl) rfl (by decide) rfl rfl (Nat.le_of_ble_eq_true rfl) (Nat.le_of_ble_eq_true rfl) (Nat.le_of_ble_eq_true rfl) (Nat.le_of_ble_eq_true rfl) (Nat.le_of_ble_eq_true rfl) ?_
  refine gg_pop ok dX4_fetch_39 rfl ?_
  exact gg_vret ok hr (fun _ => rfl) dX4_fetch_40 ⟨rfl, rfl⟩
set_option maxRecDepth 20000 in
theorem kX4_joinsN (l : Launch) (htr : l.stackTraces = false) (x : gg_X) (i r k : Nat) (t u b : Int32) (hi : i < 8) (hr1 : r < 3) (hk : x.1 11 r 4 = nI k) (hk3 : 3 ≤ k) (hk4 : k < 4) : gg_Cd l yX4_joins cX4_joins 6 (some .boolean) (gg_rm 1 0 0 23) true [gg_r 0 0, gg_r 9 i, gg_r 11 r, gg_i t, gg_i u, gg_i b] x (.inl (some (gg_i 0))) x := by
  refine gg_of htr (by decide) (Nat.le_of_ble_eq_true rfl) ?_
  intro p e s m args below meth c D cT ad ok okx okt hr hin
  refine gg_wk ?_
  refine gg_aload_n ok dX4_joins_0 rfl rfl ?_
  refine gg_geti (v := nI k) ok dX4_joins_1 fX4_122 rfl hr1 rfl hk ?_
  refine gg_iconst (v := 3) ok dX4_joins_4 rfl ?_
  refine gg_icmp_lt (tgt := 10) ok dX4_joins_5 rfl ⟨fun z => absurd z (nI_nlt (b := 3) hk3 (by omega)), fun _ => ?_⟩
  refine gg_iconst (v := 0) ok dX4_joins_8 rfl ?_
  exact gg_zret ok hr (by decide) (fun _ => rfl) dX4_joins_9 ⟨rfl, rfl⟩
set_option maxRecDepth 20000 in
theorem kX4_joinsY (l : Launch) (htr : l.stackTraces = false) (x : gg_X) (i r k : Nat) (t u b : Int32) (hi : i < 8) (hr1 : r < 3) (hk : x.1 11 r 4 = nI k) (hk3 : k < 3) (hb : b = 0 ∨ b = 1) : gg_Cd l yX4_joins cX4_joins 6 (some .boolean) (gg_rm 1 0 0 23) true [gg_r 0 0, gg_r 9 i, gg_r 11 r, gg_i t, gg_i u, gg_i b] x (.inl (some (gg_i 1))) (mr_join x i r k t u b) := by
  refine gg_of htr (by decide) (Nat.le_of_ble_eq_true rfl) ?_
  intro p e s m args below meth c D cT ad ok okx okt hr hin
  refine gg_wk ?_
  refine gg_aload_n ok dX4_joins_0 rfl rfl ?_
  refine gg_geti (v := nI k) ok dX4_joins_1 fX4_122 rfl hr1 rfl hk ?_
  refine gg_iconst (v := 3) ok dX4_joins_4 rfl ?_
  refine gg_icmp_lt (tgt := 10) ok dX4_joins_5 rfl ⟨fun _ => ?_, fun z => absurd (nI_lt (b := 3) hk3 (by decide)) z⟩
  refine gg_aload_n ok dX4_joins_10 rfl rfl ?_
  refine gg_getr ok dX4_joins_11 fX4_39 rfl (by decide) rfl ?_
  refine gg_iconst (v := 2) ok dX4_joins_14 rfl ?_
  refine gg_dup2 ok dX4_joins_15 rfl rfl ?_
  refine gg_iald ok dX4_joins_16 rfl (by decide) (gg_ixn (q := 2) (by decide)) rfl ?_
  refine gg_iconst (v := 1) ok dX4_joins_17 rfl ?_
  refine gg_iadd ok dX4_joins_18 rfl ?_
  refine gg_iast ok dX4_joins_19 rfl (by decide) (gg_ixn (q := 2) (by decide)) ?_
  refine gg_aload_n ok dX4_joins_20 rfl rfl ?_
  refine gg_aload_n ok dX4_joins_21 rfl rfl ?_
  refine gg_callV0 ok dX4_joins_22 gX4_159 (kX4_use l htr _ i hi) (fun _ => rfl) rfl (by decide) rfl rfl (Nat.le_of_ble_eq_true rfl) (Nat.le_of_ble_eq_true rfl) (Nat.le_of_ble_eq_true rfl) (Nat.le_of_ble_eq_true rfl) (Nat.le_of_ble_eq_true rfl) ?_
  refine gg_aload_n ok dX4_joins_25 rfl rfl ?_
  refine gg_iload_n ok dX4_joins_26 rfl rfl ?_
  refine gg_iload ok dX4_joins_27 rfl ?_
  refine gg_iload ok dX4_joins_29 rfl ?_
  refine gg_callV0 ok dX4_joins_31 gX4_167 (kX1_addTarget l htr _ r k t u b hr1 hk hk3 hb) (fun _ => rfl) rfl hr1 rfl rfl (Nat.le_of_ble_eq_true rfl) (Nat.le_of_ble_eq_true rfl) (Nat.le_of_ble_eq_true rfl) (Nat.le_of_ble_eq_true rfl) (Nat.le_of_ble_eq_true rfl) ?_
  refine gg_iconst (v := 1) ok dX4_joins_34 rfl ?_
  exact gg_zret ok hr (by decide) (fun _ => rfl) dX4_joins_35 ⟨rfl, rfl⟩
set_option maxRecDepth 20000 in
theorem kX4_fetchIfWanted (l : Launch) (htr : l.stackTraces = false) (x : gg_X) (h n L : Nat) (hL : L ≤ 64) (hh : x.1 4 0 1 = nI h) (hh5 : h < 5) (hn : x.1 4 0 2 = nI n) (hn5 : ∀ r, mr_free x = some r → n < 5) : gg_Cd l yX4_fetchIfWanted cX4_fetchIfWanted 4 none (gg_rm 2 0 0 46) true [gg_r 0 0, gg_i (nI L)] x (.inl none) (mr_fiw x h n L) := by
  refine gg_of htr (by decide) (Nat.le_of_ble_eq_true rfl) ?_
  intro p e s m args below meth c D cT ad ok okx okt hr hin
  refine gg_wk ?_
  refine gg_iload_n ok dX4_fetchIfWanted_0 rfl rfl ?_
  refine gg_bipush (v := 64) ok dX4_fetchIfWanted_1 rfl ?_
  refine gg_icmp_ge (tgt := 14) ok dX4_fetchIfWanted_3 rfl ⟨fun hl => ?_, fun hl => ?_⟩
  ·
    have hl := (nI_leI (a := 64) (b := L) (by decide) (by omega)).mp hl
    exact gg_vret ok hr (fun _ => rfl) dX4_fetchIfWanted_14 ⟨rfl, by simp [mr_fiw, hl]⟩
  ·
    have hl : ¬ 64 ≤ L := fun z => hl (nI_le (a := 64) z (by omega))
    refine gg_aload_n ok dX4_fetchIfWanted_6 rfl rfl ?_
    refine gg_iload_n ok dX4_fetchIfWanted_7 rfl rfl ?_
    refine gg_callV1 ok dX4_fetchIfWanted_8 gX4_118 (kX4_findWay l htr x L (by omega)) (fun _ => rfl) rfl (by decide) rfl rfl (Nat.le_of_ble_eq_true rfl) (Nat.le_of_ble_eq_true rfl) (Nat.le_of_ble_eq_true rfl) (Nat.le_of_ble_eq_true rfl) (Nat.le_of_ble_eq_true rfl) ?_
    rcases hw : mr_find x L with _ | j
    ·
      refine gg_ifnullN (tgt := 15) ok dX4_fetchIfWanted_11 rfl ?_
      refine gg_aload_n ok dX4_fetchIfWanted_15 rfl rfl ?_
      refine gg_callV1 ok dX4_fetchIfWanted_16 gX4_171 (kX4_findFreeRegister l htr x) (fun _ => rfl) rfl (by decide) rfl rfl (Nat.le_of_ble_eq_true rfl) (Nat.le_of_ble_eq_true rfl) (Nat.le_of_ble_eq_true rfl) (Nat.le_of_ble_eq_true rfl) (Nat.le_of_ble_eq_true rfl) ?_
      rcases hf : mr_free x with _ | r
      ·
        refine gg_astore_nN (lo' := [(2, gg_n), (0, gg_r 0 0), (1, gg_i (nI L))]) ok dX4_fetchIfWanted_19 rfl (by decide) rfl ?_
        refine gg_aload_n ok dX4_fetchIfWanted_20 rfl rfl ?_
        refine gg_iload_n ok dX4_fetchIfWanted_21 rfl rfl ?_
        refine gg_callV1 ok dX4_fetchIfWanted_22 gX4_175 (kX4_chooseWay l htr x L (by omega)) (fun _ => rfl) rfl (by decide) rfl rfl (Nat.le_of_ble_eq_true rfl) (Nat.le_of_ble_eq_true rfl) (Nat.le_of_ble_eq_true rfl) (Nat.le_of_ble_eq_true rfl) (Nat.le_of_ble_eq_true rfl) ?_
        rcases hc : mr_cho x (L % 4 * 2) with _ | i
        ·
          refine gg_astore_nN (lo' := [(3, gg_n), (2, gg_n), (0, gg_r 0 0), (1, gg_i (nI L))]) ok dX4_fetchIfWanted_25 rfl (by decide) rfl ?_
          refine gg_aload_nN ok dX4_fetchIfWanted_26 rfl rfl ?_
          refine gg_ifnullN (tgt := 41) ok dX4_fetchIfWanted_27 rfl ?_
          exact gg_vret ok hr (fun _ => rfl) dX4_fetchIfWanted_41 ⟨rfl, by simp [mr_fiw, hl, hw, hf, hc]⟩
        ·
          refine gg_astore_n (lo' := [(3, gg_r 9 i), (2, gg_n), (0, gg_r 0 0), (1, gg_i (nI L))]) ok dX4_fetchIfWanted_25 rfl (by decide) rfl ?_
          refine gg_aload_nN ok dX4_fetchIfWanted_26 rfl rfl ?_
          refine gg_ifnullN (tgt := 41) ok dX4_fetchIfWanted_27 rfl ?_
          exact gg_vret ok hr (fun _ => rfl) dX4_fetchIfWanted_41 ⟨rfl, by simp [mr_fiw, hl, hw, hf, hc]⟩
      ·
        refine gg_astore_n (lo' := [(2, gg_r 11 r), (0, gg_r 0 0), (1, gg_i (nI L))]) ok dX4_fetchIfWanted_19 rfl (by decide) rfl ?_
        refine gg_aload_n ok dX4_fetchIfWanted_20 rfl rfl ?_
        refine gg_iload_n ok dX4_fetchIfWanted_21 rfl rfl ?_
        refine gg_callV1 ok dX4_fetchIfWanted_22 gX4_175 (kX4_chooseWay l htr x L (by omega)) (fun _ => rfl) rfl (by decide) rfl rfl (Nat.le_of_ble_eq_true rfl) (Nat.le_of_ble_eq_true rfl) (Nat.le_of_ble_eq_true rfl) (Nat.le_of_ble_eq_true rfl) (Nat.le_of_ble_eq_true rfl) ?_
        rcases hc : mr_cho x (L % 4 * 2) with _ | i
        ·
          refine gg_astore_nN (lo' := [(3, gg_n), (2, gg_r 11 r), (0, gg_r 0 0), (1, gg_i (nI L))]) ok dX4_fetchIfWanted_25 rfl (by decide) rfl ?_
          refine gg_aload_n ok dX4_fetchIfWanted_26 rfl rfl ?_
          refine gg_ifnull ok dX4_fetchIfWanted_27 ?_
          refine gg_aload_nN ok dX4_fetchIfWanted_30 rfl rfl ?_
          refine gg_ifnullN (tgt := 41) ok dX4_fetchIfWanted_31 rfl ?_
          exact gg_vret ok hr (fun _ => rfl) dX4_fetchIfWanted_41 ⟨rfl, by simp [mr_fiw, hl, hw, hf, hc]⟩
        ·
          refine gg_astore_n (lo' := [(3, gg_r 9 i), (2, gg_r 11 r), (0, gg_r 0 0), (1, gg_i (nI L))]) ok dX4_fetchIfWanted_25 rfl (by decide) rfl ?_
          refine gg_aload_n ok dX4_fetchIfWanted_26 rfl rfl ?_
          refine gg_ifnull ok dX4_fetchIfWanted_27 ?_
          refine gg_aload_n ok dX4_fetchIfWanted_30 rfl rfl ?_
          refine gg_ifnull ok dX4_fetchIfWanted_31 ?_
          refine gg_aload_n ok dX4_fetchIfWanted_34 rfl rfl ?_
          refine gg_getz (v := x.1 9 i 2) ok dX4_fetchIfWanted_35 fX4_97 rfl (mr_cho_lt (by omega) hc) rfl rfl ?_
          refine gg_if_eq (tgt := 42) ok dX4_fetchIfWanted_38 rfl ⟨fun hd => ?_, fun hd => ?_⟩
          ·
            refine gg_aload_n ok dX4_fetchIfWanted_42 rfl rfl ?_
            refine gg_iload_n ok dX4_fetchIfWanted_43 rfl rfl ?_
            refine gg_aload_n ok dX4_fetchIfWanted_44 rfl rfl ?_
            refine gg_aload_n ok dX4_fetchIfWanted_45 rfl rfl ?_
            refine gg_callV0 ok dX4_fetchIfWanted_46 gX4_184 (kX4_fetch l htr x h n L i r (mr_cho_lt (by omega) hc) (mr_free_lt hf) hh hh5 hn (hn5 r hf)) (fun _ => rfl) rfl (by decide) rfl rfl (Nat.le_of_ble_eq_true rfl) (Nat.le_of_ble_eq_true rfl) (Nat.le_of_ble_eq_true rfl) (Nat.le_of_ble_eq_true rfl) (Nat.le_of_ble_eq_true rfl) ?_
            refine gg_aload_n ok dX4_fetchIfWanted_49 rfl rfl ?_
            refine gg_getr ok dX4_fetchIfWanted_50 fX4_39 rfl (by decide) rfl ?_
            refine gg_iconst (v := 5) ok dX4_fetchIfWanted_53 rfl ?_
            refine gg_dup2 ok dX4_fetchIfWanted_54 rfl rfl ?_
            refine gg_iald ok dX4_fetchIfWanted_55 rfl (by decide) (gg_ixn (q := 5) (by decide)) rfl ?_
            refine gg_iconst (v := 1) ok dX4_fetchIfWanted_56 rfl ?_
            refine gg_iadd ok dX4_fetchIfWanted_57 rfl ?_
            refine gg_iast ok dX4_fetchIfWanted_58 rfl (by decide) (gg_ixn (q := 5) (by decide)) ?_
            exact gg_vret ok hr (fun _ => rfl) dX4_fetchIfWanted_59 ⟨rfl, by simp [mr_fiw, hl, hw, hf, hc, hd] <;> rfl⟩
          ·
            exact gg_vret ok hr (fun _ => rfl) dX4_fetchIfWanted_41 ⟨rfl, by simp [mr_fiw, hl, hw, hf, hc, hd]⟩
    ·
      refine gg_ifnull ok dX4_fetchIfWanted_11 ?_
      exact gg_vret ok hr (fun _ => rfl) dX4_fetchIfWanted_14 ⟨rfl, by simp [mr_fiw, hl, hw]⟩
set_option maxRecDepth 20000 in
set_option maxHeartbeats 1000000 in
theorem kX4_misses (l : Launch) (htr : l.stackTraces = false) (x : gg_X) (h n L : Nat) (t u b : Int32) (hL : L < 64) (hh : x.1 4 0 1 = nI h) (hh5 : h < 5) (hn : x.1 4 0 2 = nI n) (hn5 : n ≤ 5) (hI : n = mr_cw x h n + mr_fl x) (hcw : mr_cw x h n ≤ 2) (hb : b = 0 ∨ b = 1) : gg_Cd l yX4_misses cX4_misses 7 (some .boolean) (gg_rm 3 0 0 69) true [gg_r 0 0, gg_i (nI L), gg_i t, gg_i u, gg_i b] x (.inl (some (gg_i (if (mr_miss x h n L t u b).isSome then 1 else 0)))) ((mr_miss x h n L t u b).getD x) := by
  refine gg_of htr (by decide) (Nat.le_of_ble_eq_true rfl) ?_
  intro p e s m args below meth c D cT ad ok okx okt hr hin
  refine gg_wk ?_
  refine gg_aload_n ok dX4_misses_0 rfl rfl ?_
  refine gg_callV1 ok dX4_misses_1 gX4_171 (kX4_findFreeRegister l htr x) (fun _ => rfl) rfl (by decide) rfl rfl (Nat.le_of_ble_eq_true rfl) (Nat.le_of_ble_eq_true rfl) (Nat.le_of_ble_eq_true rfl) (Nat.le_of_ble_eq_true rfl) (Nat.le_of_ble_eq_true rfl) ?_
  rcases hf : mr_free x with _ | r
  ·
    refine gg_astoreN (lo' := [(5, gg_n), (0, gg_r 0 0), (1, gg_i (nI L)), (2, gg_i t), (3, gg_i u), (4, gg_i b)]) ok dX4_misses_4 (by decide) rfl ?_
    refine gg_aload_n ok dX4_misses_6 rfl rfl ?_
    refine gg_iload_n ok dX4_misses_7 rfl rfl ?_
    refine gg_callV1 ok dX4_misses_8 gX4_175 (kX4_chooseWay l htr x L hL) (fun _ => rfl) rfl (by decide) rfl rfl (Nat.le_of_ble_eq_true rfl) (Nat.le_of_ble_eq_true rfl) (Nat.le_of_ble_eq_true rfl) (Nat.le_of_ble_eq_true rfl) (Nat.le_of_ble_eq_true rfl) ?_
    rcases hc : mr_cho x (L % 4 * 2) with _ | i
    ·
      refine gg_astoreN (lo' := [(6, gg_n), (5, gg_n), (0, gg_r 0 0), (1, gg_i (nI L)), (2, gg_i t), (3, gg_i u), (4, gg_i b)]) ok dX4_misses_11 (by decide) rfl ?_
      refine gg_aloadN ok dX4_misses_13 rfl ?_
      refine gg_ifnullN (tgt := 42) ok dX4_misses_15 rfl ?_
      refine gg_iconst (v := 0) ok dX4_misses_42 rfl ?_
      exact gg_zret ok hr (by decide) (fun _ => rfl) dX4_misses_43 ⟨by simp [mr_miss, hf, hc], by simp [mr_miss, hf, hc]⟩
    ·
      refine gg_astore (lo' := [(6, gg_r 9 i), (5, gg_n), (0, gg_r 0 0), (1, gg_i (nI L)), (2, gg_i t), (3, gg_i u), (4, gg_i b)]) ok dX4_misses_11 (by decide) rfl ?_
      refine gg_aloadN ok dX4_misses_13 rfl ?_
      refine gg_ifnullN (tgt := 42) ok dX4_misses_15 rfl ?_
      refine gg_iconst (v := 0) ok dX4_misses_42 rfl ?_
      exact gg_zret ok hr (by decide) (fun _ => rfl) dX4_misses_43 ⟨by simp [mr_miss, hf, hc], by simp [mr_miss, hf, hc]⟩
  ·
    have hfl := mr_free_fl hf
    refine gg_astore (lo' := [(5, gg_r 11 r), (0, gg_r 0 0), (1, gg_i (nI L)), (2, gg_i t), (3, gg_i u), (4, gg_i b)]) ok dX4_misses_4 (by decide) rfl ?_
    refine gg_aload_n ok dX4_misses_6 rfl rfl ?_
    refine gg_iload_n ok dX4_misses_7 rfl rfl ?_
    refine gg_callV1 ok dX4_misses_8 gX4_175 (kX4_chooseWay l htr x L hL) (fun _ => rfl) rfl (by decide) rfl rfl (Nat.le_of_ble_eq_true rfl) (Nat.le_of_ble_eq_true rfl) (Nat.le_of_ble_eq_true rfl) (Nat.le_of_ble_eq_true rfl) (Nat.le_of_ble_eq_true rfl) ?_
    rcases hc : mr_cho x (L % 4 * 2) with _ | i
    ·
      refine gg_astoreN (lo' := [(6, gg_n), (5, gg_r 11 r), (0, gg_r 0 0), (1, gg_i (nI L)), (2, gg_i t), (3, gg_i u), (4, gg_i b)]) ok dX4_misses_11 (by decide) rfl ?_
      refine gg_aload ok dX4_misses_13 rfl ?_
      refine gg_ifnull ok dX4_misses_15 ?_
      refine gg_aloadN ok dX4_misses_18 rfl ?_
      refine gg_ifnullN (tgt := 42) ok dX4_misses_20 rfl ?_
      refine gg_iconst (v := 0) ok dX4_misses_42 rfl ?_
      exact gg_zret ok hr (by decide) (fun _ => rfl) dX4_misses_43 ⟨by simp [mr_miss, hf, hc], by simp [mr_miss, hf, hc]⟩
    ·
      refine gg_astore (lo' := [(6, gg_r 9 i), (5, gg_r 11 r), (0, gg_r 0 0), (1, gg_i (nI L)), (2, gg_i t), (3, gg_i u), (4, gg_i b)]) ok dX4_misses_11 (by decide) rfl ?_
      refine gg_aload ok dX4_misses_13 rfl ?_
      refine gg_ifnull ok dX4_misses_15 ?_
      refine gg_aload ok dX4_misses_18 rfl ?_
      refine gg_ifnull ok dX4_misses_20 ?_
      refine gg_aload ok dX4_misses_23 rfl ?_
      refine gg_getz (v := x.1 9 i 2) ok dX4_misses_25 fX4_97 rfl (mr_cho_lt (by omega) hc) rfl rfl ?_
      refine gg_if_eq (tgt := 44) ok dX4_misses_28 rfl ⟨fun h28 => ?_, fun h28 => ?_⟩
      ·
        refine gg_aload_n ok dX4_misses_44 rfl rfl ?_
        refine gg_getr ok dX4_misses_45 fX4_39 rfl (by decide) rfl ?_
        refine gg_iconst (v := 3) ok dX4_misses_48 rfl ?_
        refine gg_dup2 ok dX4_misses_49 rfl rfl ?_
        refine gg_iald ok dX4_misses_50 rfl (by decide) (gg_ixn (q := 3) (by decide)) rfl ?_
        refine gg_iconst (v := 1) ok dX4_misses_51 rfl ?_
        refine gg_iadd ok dX4_misses_52 rfl ?_
        refine gg_iast ok dX4_misses_53 rfl (by decide) (gg_ixn (q := 3) (by decide)) ?_
        refine gg_aload ok dX4_misses_54 rfl ?_
        refine gg_getz (v := x.1 9 i 2) ok dX4_misses_56 fX4_97 rfl (mr_cho_lt (by omega) hc) rfl rfl ?_
        refine gg_if_eq (tgt := 90) ok dX4_misses_59 rfl ⟨fun _ => ?_, fun z => absurd (h28) z⟩
        refine gg_aload_n ok dX4_misses_90 rfl rfl ?_
        refine gg_iload_n ok dX4_misses_91 rfl rfl ?_
        refine gg_aload ok dX4_misses_92 rfl ?_
        refine gg_aload ok dX4_misses_94 rfl ?_
        refine gg_callV0 ok dX4_misses_96 gX4_184 (kX4_fetch l htr _ h n L i r (mr_cho_lt (by omega) hc) (mr_free_lt hf) hh hh5 hn (by omega)) (fun _ => rfl) rfl (by decide) rfl rfl (Nat.le_of_ble_eq_true rfl) (Nat.le_of_ble_eq_true rfl) (Nat.le_of_ble_eq_true rfl) (Nat.le_of_ble_eq_true rfl) (Nat.le_of_ble_eq_true rfl) ?_
        refine gg_aload ok dX4_misses_99 rfl ?_
        refine gg_iload_n ok dX4_misses_101 rfl rfl ?_
        refine gg_iload_n ok dX4_misses_102 rfl rfl ?_
        refine gg_iload ok dX4_misses_103 rfl ?_
        refine gg_callV0 ok dX4_misses_105 gX4_167 (kX1_addTarget l htr _ r 0 t u b (mr_free_lt hf) (mr_fetch_4.trans nI_0.symm) (by decide) hb) (fun _ => rfl) rfl (mr_free_lt hf) rfl rfl (Nat.le_of_ble_eq_true rfl) (Nat.le_of_ble_eq_true rfl) (Nat.le_of_ble_eq_true rfl) (Nat.le_of_ble_eq_true rfl) (Nat.le_of_ble_eq_true rfl) ?_
        refine gg_aload_n ok dX4_misses_108 rfl rfl ?_
        refine gg_getz (v := x.1 0 0 7) ok dX4_misses_109 fX4_42 rfl (by decide) rfl mr_z7 ?_
        refine gg_if_eq (tgt := 122) ok dX4_misses_112 rfl ⟨fun h112 => ?_, fun h112 => ?_⟩
        ·
          refine gg_iconst (v := 1) ok dX4_misses_122 rfl ?_
          have hm : mr_miss x h n L t u b = some (mr_miss2 (mr_cnt x 3) h n L i r t u b) := by simp [mr_miss, hf, hc, h28]
          exact gg_zret ok hr (by decide) (fun _ => rfl) dX4_misses_123 ⟨by rw [hm]; rfl, by rw [hm]; exact (mr_miss2_T (y := (mr_cnt x 3)) h112).symm⟩
        ·
          refine gg_aload_n ok dX4_misses_115 rfl rfl ?_
          refine gg_iload_n ok dX4_misses_116 rfl rfl ?_
          refine gg_iconst (v := 1) ok dX4_misses_117 rfl ?_
          refine gg_iadd (v := nI (L + 1)) ok dX4_misses_118 (nI_add L 1) ?_
          refine gg_callV0 ok dX4_misses_119 gX4_188 (kX4_fetchIfWanted l htr _ h (n + 1) (L + 1) (by omega) (mr_fetch_h.trans hh) hh5 mr_fetch_n (fun r2 hr2 => by have h8 : mr_fl (mr_add (mr_fetch (mr_cnt x 3) L i r ((h + n) % 5) n) r 0 t u b) ≤ 2 := mr_free_fl hr2; rw [mr_fl_add (x := x) (y := (mr_cnt x 3)) (mr_free_lt hf) (mr_free_0 hf) (fun a => rfl)] at h8; omega)) (fun _ => rfl) rfl (by decide) rfl rfl (Nat.le_of_ble_eq_true rfl) (Nat.le_of_ble_eq_true rfl) (Nat.le_of_ble_eq_true rfl) (Nat.le_of_ble_eq_true rfl) (Nat.le_of_ble_eq_true rfl) ?_
          refine gg_iconst (v := 1) ok dX4_misses_122 rfl ?_
          have hm : mr_miss x h n L t u b = some (mr_miss2 (mr_cnt x 3) h n L i r t u b) := by simp [mr_miss, hf, hc, h28]
          exact gg_zret ok hr (by decide) (fun _ => rfl) dX4_misses_123 ⟨by rw [hm]; rfl, by rw [hm]; exact (mr_miss2_F (y := (mr_cnt x 3)) h112).symm⟩
      ·
        refine gg_aload_n ok dX4_misses_31 rfl rfl ?_
        refine gg_getr ok dX4_misses_32 fX4_28 rfl (by decide) rfl ?_
        refine gg_callV1 ok dX4_misses_35 gX4_178 (kX0_countWrites l htr x h n hh hh5 hn hn5) (fun _ => rfl) rfl (by decide) rfl rfl (Nat.le_of_ble_eq_true rfl) (Nat.le_of_ble_eq_true rfl) (Nat.le_of_ble_eq_true rfl) (Nat.le_of_ble_eq_true rfl) (Nat.le_of_ble_eq_true rfl) ?_
        refine gg_iconst (v := 2) ok dX4_misses_38 rfl ?_
        refine gg_icmp_lt (tgt := 44) ok dX4_misses_39 rfl ⟨fun h39 => ?_, fun h39 => ?_⟩
        ·
          have h39 := (nI_ltI (a := mr_cw x h n) (b := 2) (by omega) (by decide)).mp h39
          have h7 : (mr_cnt (mr_appw (mr_cnt x 3) ((h + n) % 5) n (x.1 9 i 1) i) 6).1 0 0 7 = x.1 0 0 7 := (mr_appw_o (x := mr_cnt x 3) (f := 0) (a := 0) (k := 7) (by decide) (by decide) (by decide))
          have h41 : (mr_cnt (mr_appw (mr_cnt x 3) ((h + n) % 5) n (x.1 9 i 1) i) 6).1 4 0 1 = nI h := (mr_appw_h (x := mr_cnt x 3)).trans hh
          have h11 : ∀ a, (mr_cnt (mr_appw (mr_cnt x 3) ((h + n) % 5) n (x.1 9 i 1) i) 6).1 11 a 3 = x.1 11 a 3 := fun a => (mr_appw_o (x := mr_cnt x 3) (f := 11) (a := a) (k := 3) (by decide) (by decide) (by decide))
          refine gg_aload_n ok dX4_misses_44 rfl rfl ?_
          refine gg_getr ok dX4_misses_45 fX4_39 rfl (by decide) rfl ?_
          refine gg_iconst (v := 3) ok dX4_misses_48 rfl ?_
          refine gg_dup2 ok dX4_misses_49 rfl rfl ?_
          refine gg_iald ok dX4_misses_50 rfl (by decide) (gg_ixn (q := 3) (by decide)) rfl ?_
          refine gg_iconst (v := 1) ok dX4_misses_51 rfl ?_
          refine gg_iadd ok dX4_misses_52 rfl ?_
          refine gg_iast ok dX4_misses_53 rfl (by decide) (gg_ixn (q := 3) (by decide)) ?_
          refine gg_aload ok dX4_misses_54 rfl ?_
          refine gg_getz (v := x.1 9 i 2) ok dX4_misses_56 fX4_97 rfl (mr_cho_lt (by omega) hc) rfl rfl ?_
          refine gg_if_eq (tgt := 90) ok dX4_misses_59 rfl ⟨fun z => absurd z (h28), fun _ => ?_⟩
          refine gg_aload_n ok dX4_misses_62 rfl rfl ?_
          refine gg_getr ok dX4_misses_63 fX4_28 rfl (by decide) rfl ?_
          refine gg_aload ok dX4_misses_66 rfl ?_
          refine gg_geti (v := x.1 9 i 1) ok dX4_misses_68 fX4_100 rfl (mr_cho_lt (by omega) hc) rfl rfl ?_
          refine gg_aload ok dX4_misses_71 rfl ?_
          refine gg_getr ok dX4_misses_73 fX4_103 rfl (mr_cho_lt (by omega) hc) rfl ?_
          refine gg_callV0 ok dX4_misses_76 gX4_181 (kX0_appendWrite l htr _ h n (x.1 9 i 1) i (mr_cho_lt (by omega) hc) hh hh5 hn (by omega)) (fun _ => rfl) rfl (by decide) rfl rfl (Nat.le_of_ble_eq_true rfl) (Nat.le_of_ble_eq_true rfl) (Nat.le_of_ble_eq_true rfl) (Nat.le_of_ble_eq_true rfl) (Nat.le_of_ble_eq_true rfl) ?_
          refine gg_aload_n ok dX4_misses_79 rfl rfl ?_
          refine gg_getr ok dX4_misses_80 fX4_39 rfl (by decide) rfl ?_
          refine gg_bipush (v := 6) ok dX4_misses_83 rfl ?_
          refine gg_dup2 ok dX4_misses_85 rfl rfl ?_
          refine gg_iald ok dX4_misses_86 rfl (by decide) (gg_ixn (q := 6) (by decide)) rfl ?_
          refine gg_iconst (v := 1) ok dX4_misses_87 rfl ?_
          refine gg_iadd ok dX4_misses_88 rfl ?_
          refine gg_iast ok dX4_misses_89 rfl (by decide) (gg_ixn (q := 6) (by decide)) ?_
          refine gg_aload_n ok dX4_misses_90 rfl rfl ?_
          refine gg_iload_n ok dX4_misses_91 rfl rfl ?_
          refine gg_aload ok dX4_misses_92 rfl ?_
          refine gg_aload ok dX4_misses_94 rfl ?_
          refine gg_callV0 ok dX4_misses_96 gX4_184 (kX4_fetch l htr _ h (n + 1) L i r (mr_cho_lt (by omega) hc) (mr_free_lt hf) (mr_appw_h.trans hh) hh5 mr_appw_n (by omega)) (fun _ => rfl) rfl (by decide) rfl rfl (Nat.le_of_ble_eq_true rfl) (Nat.le_of_ble_eq_true rfl) (Nat.le_of_ble_eq_true rfl) (Nat.le_of_ble_eq_true rfl) (Nat.le_of_ble_eq_true rfl) ?_
          refine gg_aload ok dX4_misses_99 rfl ?_
          refine gg_iload_n ok dX4_misses_101 rfl rfl ?_
          refine gg_iload_n ok dX4_misses_102 rfl rfl ?_
          refine gg_iload ok dX4_misses_103 rfl ?_
          refine gg_callV0 ok dX4_misses_105 gX4_167 (kX1_addTarget l htr _ r 0 t u b (mr_free_lt hf) (mr_fetch_4.trans nI_0.symm) (by decide) hb) (fun _ => rfl) rfl (mr_free_lt hf) rfl rfl (Nat.le_of_ble_eq_true rfl) (Nat.le_of_ble_eq_true rfl) (Nat.le_of_ble_eq_true rfl) (Nat.le_of_ble_eq_true rfl) (Nat.le_of_ble_eq_true rfl) ?_
          refine gg_aload_n ok dX4_misses_108 rfl rfl ?_
          refine gg_getz (v := x.1 0 0 7) ok dX4_misses_109 fX4_42 rfl (by decide) rfl (mr_z7.trans h7) ?_
          refine gg_if_eq (tgt := 122) ok dX4_misses_112 rfl ⟨fun h112 => ?_, fun h112 => ?_⟩
          ·
            refine gg_iconst (v := 1) ok dX4_misses_122 rfl ?_
            have hm : mr_miss x h n L t u b = some (mr_miss2 (mr_cnt (mr_appw (mr_cnt x 3) ((h + n) % 5) n (x.1 9 i 1) i) 6) h (n + 1) L i r t u b) := by simp [mr_miss, hf, hc, h28, h39]
            exact gg_zret ok hr (by decide) (fun _ => rfl) dX4_misses_123 ⟨by rw [hm]; rfl, by rw [hm]; exact (mr_miss2_T (y := (mr_cnt (mr_appw (mr_cnt x 3) ((h + n) % 5) n (x.1 9 i 1) i) 6)) (h7.trans h112)).symm⟩
          ·
            refine gg_aload_n ok dX4_misses_115 rfl rfl ?_
            refine gg_iload_n ok dX4_misses_116 rfl rfl ?_
            refine gg_iconst (v := 1) ok dX4_misses_117 rfl ?_
            refine gg_iadd (v := nI (L + 1)) ok dX4_misses_118 (nI_add L 1) ?_
            refine gg_callV0 ok dX4_misses_119 gX4_188 (kX4_fetchIfWanted l htr _ h (n + 1 + 1) (L + 1) (by omega) ((mr_fetch_h (x := (mr_cnt (mr_appw (mr_cnt x 3) ((h + n) % 5) n (x.1 9 i 1) i) 6)) (L := L) (i := i) (r := r) (q := (h + (n + 1)) % 5) (n := n + 1)).trans h41) hh5 (mr_fetch_n (x := (mr_cnt (mr_appw (mr_cnt x 3) ((h + n) % 5) n (x.1 9 i 1) i) 6)) (L := L) (i := i) (r := r) (q := (h + (n + 1)) % 5) (n := n + 1)) (fun r2 hr2 => by have h8 : mr_fl (mr_add (mr_fetch (mr_cnt (mr_appw (mr_cnt x 3) ((h + n) % 5) n (x.1 9 i 1) i) 6) L i r ((h + (n + 1)) % 5) (n + 1)) r 0 t u b) ≤ 2 := mr_free_fl hr2; rw [mr_fl_add (x := x) (y := (mr_cnt (mr_appw (mr_cnt x 3) ((h + n) % 5) n (x.1 9 i 1) i) 6)) (mr_free_lt hf) (mr_free_0 hf) h11] at h8; omega)) (fun _ => rfl) rfl (by decide) rfl rfl (Nat.le_of_ble_eq_true rfl) (Nat.le_of_ble_eq_true rfl) (Nat.le_of_ble_eq_true rfl) (Nat.le_of_ble_eq_true rfl) (Nat.le_of_ble_eq_true rfl) ?_
            refine gg_iconst (v := 1) ok dX4_misses_122 rfl ?_
            have hm : mr_miss x h n L t u b = some (mr_miss2 (mr_cnt (mr_appw (mr_cnt x 3) ((h + n) % 5) n (x.1 9 i 1) i) 6) h (n + 1) L i r t u b) := by simp [mr_miss, hf, hc, h28, h39]
            exact gg_zret ok hr (by decide) (fun _ => rfl) dX4_misses_123 ⟨by rw [hm]; rfl, by rw [hm]; exact (mr_miss2_F (y := (mr_cnt (mr_appw (mr_cnt x 3) ((h + n) % 5) n (x.1 9 i 1) i) 6)) (fun z => h112 (h7.symm.trans z))).symm⟩
        ·
          have h39 : ¬ mr_cw x h n < 2 := fun z => h39 (nI_lt (b := 2) z (by decide))
          refine gg_iconst (v := 0) ok dX4_misses_42 rfl ?_
          exact gg_zret ok hr (by decide) (fun _ => rfl) dX4_misses_43 ⟨by simp [mr_miss, hf, hc, h28, h39], by simp [mr_miss, hf, hc, h28, h39]⟩
