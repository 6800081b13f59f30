set_option maxRecDepth 20000 in
theorem kX4_isAnswered (l : Launch) (htr : l.stackTraces = false) (x : gg_X) (v : Int32) : gg_Cd l yX4_isAnswered cX4_isAnswered 2 (some .boolean) (gg_rm 0 0 0 0) false [gg_r 0 0, gg_i v] x (.inl (some (gg_i (mr_isa x v)))) x := by
  refine gg_of htr (by decide) (Nat.le_of_ble_eq_true rfl) ?_
  intro p e s m args below meth c D cT ad ok okx okt hr hin
  refine gg_iload_n ok dX4_isAnswered_0 rfl rfl ?_
  refine gg_if_lt (tgt := 24) ok dX4_isAnswered_1 rfl ⟨fun h1 => ?_, fun h1 => ?_⟩
  ·
    refine gg_iconst (v := 0) ok dX4_isAnswered_24 rfl ?_
    exact gg_zret ok hr (by decide) (fun h => h) dX4_isAnswered_25 ⟨by simp [mr_isa, h1], rfl⟩
  ·
    refine gg_iload_n ok dX4_isAnswered_4 rfl rfl ?_
    refine gg_sipush (v := 512) ok dX4_isAnswered_5 rfl ?_
    refine gg_icmp_ge (tgt := 24) ok dX4_isAnswered_8 rfl ⟨fun h8 => ?_, fun h8 => ?_⟩
    ·
      refine gg_iconst (v := 0) ok dX4_isAnswered_24 rfl ?_
      exact gg_zret ok hr (by decide) (fun h => h) dX4_isAnswered_25 ⟨by simp [mr_isa, h1, h8], rfl⟩
    ·
      refine gg_aload_n ok dX4_isAnswered_11 rfl rfl ?_
      refine gg_getr ok dX4_isAnswered_12 fX4_35 rfl (by decide) rfl ?_
      refine gg_iload_n ok dX4_isAnswered_15 rfl rfl ?_
      refine gg_zald (v := x.1 6 0 v.toNatClampNeg) ok dX4_isAnswered_16 rfl (by decide) (gg_ix_of h1 h8 rfl (by decide)) rfl ?_
      refine gg_if_eq (tgt := 24) ok dX4_isAnswered_17 rfl ⟨fun h17 => ?_, fun h17 => ?_⟩
      ·
        refine gg_iconst (v := 0) ok dX4_isAnswered_24 rfl ?_
        exact gg_zret ok hr (by decide) (fun h => h) dX4_isAnswered_25 ⟨by simp [mr_isa, h1, h8, h17], rfl⟩
      ·
        refine gg_iconst (v := 1) ok dX4_isAnswered_20 rfl ?_
        refine gg_goto (tgt := 25) ok dX4_isAnswered_21 rfl ?_
        exact gg_zret ok hr (by decide) (fun h => h) dX4_isAnswered_25 ⟨by simp [mr_isa, h1, h8, h17], rfl⟩
set_option maxRecDepth 20000 in
theorem kX4_checkAddressY (l : Launch) (htr : l.stackTraces = false) (x : gg_X) (a : Nat) (ha : a < 256) : gg_Cd l yX4_checkAddress cX4_checkAddress 1 none (gg_rm 0 0 0 0) false [gg_i (nI a)] x (.inl none) x := by
  refine gg_of htr (by decide) (Nat.le_of_ble_eq_true rfl) ?_
  intro p e s m args below meth c D cT ad ok okx okt hr hin
  refine gg_iload_n ok dX4_checkAddress_0 rfl rfl ?_
  refine gg_if_lt (tgt := 11) ok dX4_checkAddress_1 rfl ⟨fun z => absurd z (nI_pos (by omega)), fun _ => ?_⟩
  refine gg_iload_n ok dX4_checkAddress_4 rfl rfl ?_
  refine gg_sipush (v := 256) ok dX4_checkAddress_5 rfl ?_
  refine gg_icmp_lt (tgt := 21) ok dX4_checkAddress_8 rfl ⟨fun _ => ?_, fun z => absurd (nI_lt (b := 256) ha (by decide)) z⟩
  exact gg_vret ok hr (fun h => h) dX4_checkAddress_21 ⟨rfl, rfl⟩
set_option maxRecDepth 20000 in
theorem kX4_checkAddressN (l : Launch) (htr : l.stackTraces = false) (x : gg_X) (v : Int32) (hv : v < 0 ∨ 256 ≤ v) : gg_Cd l yX4_checkAddress cX4_checkAddress 1 none (gg_rm 6 1 6 82) false [gg_i v] x (.inr 0) x := by
  refine gg_of htr (by decide) (Nat.le_of_ble_eq_true rfl) ?_
  intro p e s m args below meth c D cT ad ok okx okt hr hin
  refine gg_iload_n ok dX4_checkAddress_0 rfl rfl ?_
  refine gg_if_lt (tgt := 11) ok dX4_checkAddress_1 rfl ⟨fun h1 => ?_, fun h1 => ?_⟩
  ·
    exact gg_throw ok okx okt hin xaA_141 (Nat.le_of_ble_eq_true rfl) (Nat.le_of_ble_eq_true rfl) (Nat.le_of_ble_eq_true rfl) (Nat.le_of_ble_eq_true rfl) dX4_checkAddress_11 dX4_checkAddress_14 dX4_checkAddress_15 dX4_checkAddress_17 dX4_checkAddress_20 ⟨rfl, rfl⟩
  ·
    refine gg_iload_n ok dX4_checkAddress_4 rfl rfl ?_
    refine gg_sipush (v := 256) ok dX4_checkAddress_5 rfl ?_
    refine gg_icmp_lt (tgt := 21) ok dX4_checkAddress_8 rfl ⟨fun z => absurd z (fun z => hv.elim h1 (fun y => absurd z (Int32.not_lt.mpr y))), fun _ => ?_⟩
    exact gg_throw ok okx okt hin xaA_141 (Nat.le_of_ble_eq_true rfl) (Nat.le_of_ble_eq_true rfl) (Nat.le_of_ble_eq_true rfl) (Nat.le_of_ble_eq_true rfl) dX4_checkAddress_11 dX4_checkAddress_14 dX4_checkAddress_15 dX4_checkAddress_17 dX4_checkAddress_20 ⟨rfl, rfl⟩
set_option maxRecDepth 20000 in
theorem kX4_checkTicketY (l : Launch) (htr : l.stackTraces = false) (x : gg_X) (t T : Nat) (hT : x.1 7 0 0 = nI T) (ht : t < T) (hT5 : T ≤ 512) : gg_Cd l yX4_checkTicket cX4_checkTicket 2 none (gg_rm 0 0 0 0) false [gg_r 0 0, gg_i (nI t)] x (.inl none) x := by
  refine gg_of htr (by decide) (Nat.le_of_ble_eq_true rfl) ?_
  intro p e s m args below meth c D cT ad ok okx okt hr hin
  refine gg_iload_n ok dX4_checkTicket_0 rfl rfl ?_
  refine gg_if_lt (tgt := 14) ok dX4_checkTicket_1 rfl ⟨fun z => absurd z (nI_pos (by omega)), fun _ => ?_⟩
  refine gg_iload_n ok dX4_checkTicket_4 rfl rfl ?_
  refine gg_aload_n ok dX4_checkTicket_5 rfl rfl ?_
  refine gg_getr ok dX4_checkTicket_6 fX4_39 rfl (by decide) rfl ?_
  refine gg_iconst (v := 0) ok dX4_checkTicket_9 rfl ?_
  refine gg_iald (v := nI T) ok dX4_checkTicket_10 rfl (by decide) (gg_ixn (q := 0) (by decide)) hT ?_
  refine gg_icmp_lt (tgt := 24) ok dX4_checkTicket_11 rfl ⟨fun _ => ?_, fun z => absurd (nI_lt ht (by omega)) z⟩
  exact gg_vret ok hr (fun h => h) dX4_checkTicket_24 ⟨rfl, rfl⟩
set_option maxRecDepth 20000 in
theorem kX4_checkTicketN (l : Launch) (htr : l.stackTraces = false) (x : gg_X) (v : Int32) (hv : v < 0 ∨ x.1 7 0 0 ≤ v) : gg_Cd l yX4_checkTicket cX4_checkTicket 2 none (gg_rm 6 1 6 82) false [gg_r 0 0, gg_i v] x (.inr 0) x := by
  refine gg_of htr (by decide) (Nat.le_of_ble_eq_true rfl) ?_
  intro p e s m args below meth c D cT ad ok okx okt hr hin
  refine gg_iload_n ok dX4_checkTicket_0 rfl rfl ?_
  refine gg_if_lt (tgt := 14) ok dX4_checkTicket_1 rfl ⟨fun h1 => ?_, fun h1 => ?_⟩
  ·
    exact gg_throw ok okx okt hin xaA_143 (Nat.le_of_ble_eq_true rfl) (Nat.le_of_ble_eq_true rfl) (Nat.le_of_ble_eq_true rfl) (Nat.le_of_ble_eq_true rfl) dX4_checkTicket_14 dX4_checkTicket_17 dX4_checkTicket_18 dX4_checkTicket_20 dX4_checkTicket_23 ⟨rfl, rfl⟩
  ·
    refine gg_iload_n ok dX4_checkTicket_4 rfl rfl ?_
    refine gg_aload_n ok dX4_checkTicket_5 rfl rfl ?_
    refine gg_getr ok dX4_checkTicket_6 fX4_39 rfl (by decide) rfl ?_
    refine gg_iconst (v := 0) ok dX4_checkTicket_9 rfl ?_
    refine gg_iald (v := x.1 7 0 0) ok dX4_checkTicket_10 rfl (by decide) (gg_ixn (q := 0) (by decide)) rfl ?_
    refine gg_icmp_lt (tgt := 24) ok dX4_checkTicket_11 rfl ⟨fun z => absurd z (fun z => hv.elim h1 (fun y => absurd z (Int32.not_lt.mpr y))), fun _ => ?_⟩
    exact gg_throw ok okx okt hin xaA_143 (Nat.le_of_ble_eq_true rfl) (Nat.le_of_ble_eq_true rfl) (Nat.le_of_ble_eq_true rfl) (Nat.le_of_ble_eq_true rfl) dX4_checkTicket_14 dX4_checkTicket_17 dX4_checkTicket_18 dX4_checkTicket_20 dX4_checkTicket_23 ⟨rfl, rfl⟩
set_option maxRecDepth 20000 in
theorem kX4_ticketOrStallY (l : Launch) (htr : l.stackTraces = false) (x : gg_X) (v : Int32) (hv : ¬ v = -1) : gg_Cd l yX4_ticketOrStall cX4_ticketOrStall 1 (some .int) (gg_rm 0 0 0 0) false [gg_i v] x (.inl (some (gg_i v))) x := by
  refine gg_of htr (by decide) (Nat.le_of_ble_eq_true rfl) ?_
  intro p e s m args below meth c D cT ad ok okx okt hr hin
  refine gg_iload_n ok dX4_ticketOrStall_0 rfl rfl ?_
  refine gg_iconst (v := (-1)) ok dX4_ticketOrStall_1 rfl ?_
  refine gg_icmp_ne (tgt := 15) ok dX4_ticketOrStall_2 rfl ⟨fun _ => ?_, fun z => absurd z (hv)⟩
  refine gg_iload_n ok dX4_ticketOrStall_15 rfl rfl ?_
  exact gg_iret ok hr (fun h => h) dX4_ticketOrStall_16 ⟨rfl, rfl⟩
set_option maxRecDepth 20000 in
theorem kX4_ticketOrStallN (l : Launch) (htr : l.stackTraces = false) (x : gg_X)  : gg_Cd l yX4_ticketOrStall cX4_ticketOrStall 1 (some .int) (gg_rm 6 1 6 82) false [gg_i ((-1))] x (.inr 1) x := by
  refine gg_of htr (by decide) (Nat.le_of_ble_eq_true rfl) ?_
  intro p e s m args below meth c D cT ad ok okx okt hr hin
  refine gg_iload_n ok dX4_ticketOrStall_0 rfl rfl ?_
  refine gg_iconst (v := (-1)) ok dX4_ticketOrStall_1 rfl ?_
  refine gg_icmp_ne (tgt := 15) ok dX4_ticketOrStall_2 rfl ⟨fun z => absurd (rfl) z, fun _ => ?_⟩
  exact gg_throw ok okx okt hin xaB_145 (Nat.le_of_ble_eq_true rfl) (Nat.le_of_ble_eq_true rfl) (Nat.le_of_ble_eq_true rfl) (Nat.le_of_ble_eq_true rfl) dX4_ticketOrStall_5 dX4_ticketOrStall_8 dX4_ticketOrStall_9 dX4_ticketOrStall_11 dX4_ticketOrStall_14 ⟨rfl, rfl⟩
set_option maxRecDepth 20000 in
set_option maxHeartbeats 1000000 in
theorem kX4_isTaken (l : Launch) (htr : l.stackTraces = false) (x : gg_X) (h n t a : Nat) (b v : Int32) (sz : Nat → Nat) (ht : t < 512) (ha : a < 256) (hb : b = 0 ∨ b = 1) (hh : x.1 4 0 1 = nI h) (hh5 : h < 5) (hn : x.1 4 0 2 = nI n) (hn5 : n ≤ 5) (hI : n = mr_cw x h n + mr_fl x) (hcw : mr_cw x h n ≤ 2) (hsz : ∀ r, r < 3 → x.1 11 r 4 = nI (sz r) ∧ sz r < 4) (hreg : ∀ i r, i < 8 → x.2.1 9 i = some r → r < 3) : gg_Cd l yX4_isTaken cX4_isTaken 8 (some .boolean) (gg_rm 4 0 0 95) true [gg_r 0 0, gg_i (nI t), gg_i (nI a), gg_i b, gg_i v] x (.inl (some (gg_i (if (mr_take x h n t a b v sz).isSome then 1 else 0)))) ((mr_take x h n t a b v sz).getD (gg_up x 5 0 t v)) := by
  refine gg_of htr (by decide) (Nat.le_of_ble_eq_true rfl) ?_
  intro p e s m args below meth c D cT ad ok okx okt hr hin
  refine gg_wk ?_
  refine gg_iload_n ok dX4_isTaken_0 rfl rfl ?_
  refine gg_iconst (v := 4) ok dX4_isTaken_1 rfl ?_
  refine gg_idiv (v := nI (a / 4)) ok dX4_isTaken_2 (pk_div (a := a) (d := 4) (by omega) (by omega) (by omega)) (by decide) ?_
  refine gg_istore (lo' := [(5, gg_i (nI (a / 4))), (0, gg_r 0 0), (1, gg_i (nI t)), (2, gg_i (nI a)), (3, gg_i b), (4, gg_i v)]) ok dX4_isTaken_3 (by decide) rfl ?_
  refine gg_iload_n ok dX4_isTaken_5 rfl rfl ?_
  refine gg_iconst (v := 4) ok dX4_isTaken_6 rfl ?_
  refine gg_irem (v := nI (a % 4)) ok dX4_isTaken_7 (pk_rem (a := a) (d := 4) (by omega) (by omega) (by omega)) (by decide) ?_
  refine gg_istore (lo' := [(6, gg_i (nI (a % 4))), (5, gg_i (nI (a / 4))), (0, gg_r 0 0), (1, gg_i (nI t)), (2, gg_i (nI a)), (3, gg_i b), (4, gg_i v)]) ok dX4_isTaken_8 (by decide) rfl ?_
  refine gg_aload_n ok dX4_isTaken_10 rfl rfl ?_
  refine gg_getr ok dX4_isTaken_11 fX4_32 rfl (by decide) rfl ?_
  refine gg_iload_n ok dX4_isTaken_14 rfl rfl ?_
  refine gg_iload ok dX4_isTaken_15 rfl ?_
  refine gg_iast ok dX4_isTaken_17 rfl (by decide) (gg_ixn (q := t) (by omega)) ?_
  refine gg_aload_n ok dX4_isTaken_18 rfl rfl ?_
  refine gg_iload ok dX4_isTaken_19 rfl ?_
  refine gg_callV1 ok dX4_isTaken_21 gX4_118 (kX4_findWay l htr _ (a / 4) (by omega)) (fun _ => rfl) rfl (by decide) rfl rfl (Nat.le_of_ble_eq_true rfl) (Nat.le_of_ble_eq_true rfl) (Nat.le_of_ble_eq_true rfl) (Nat.le_of_ble_eq_true rfl) (Nat.le_of_ble_eq_true rfl) ?_
  rcases hf : mr_find (gg_up x 5 0 t v) (a / 4) with _ | i
  ·
    have hf : mr_find x (a / 4) = none := hf
    refine gg_astoreN (lo' := [(7, gg_n), (6, gg_i (nI (a % 4))), (5, gg_i (nI (a / 4))), (0, gg_r 0 0), (1, gg_i (nI t)), (2, gg_i (nI a)), (3, gg_i b), (4, gg_i v)]) ok dX4_isTaken_24 (by decide) rfl ?_
    refine gg_aloadN ok dX4_isTaken_26 rfl ?_
    refine gg_ifnonnullN ok dX4_isTaken_28 ?_
    refine gg_aload_n ok dX4_isTaken_31 rfl rfl ?_
    refine gg_iload ok dX4_isTaken_32 rfl ?_
    refine gg_iload_n ok dX4_isTaken_34 rfl rfl ?_
    refine gg_iload ok dX4_isTaken_35 rfl ?_
    refine gg_iload_n ok dX4_isTaken_37 rfl rfl ?_
    refine gg_callV1 ok dX4_isTaken_38 gX4_151 (kX4_misses l htr _ h n (a / 4) (nI t) (nI (a % 4)) b (by omega) hh hh5 hn hn5 (by rw [(mr_cw_p (x := (gg_up x 5 0 t v)) (y := x) rfl n)]; exact hI) (by rw [(mr_cw_p (x := (gg_up x 5 0 t v)) (y := x) rfl n)]; exact hcw) hb) (fun _ => rfl) rfl (by decide) rfl rfl (Nat.le_of_ble_eq_true rfl) (Nat.le_of_ble_eq_true rfl) (Nat.le_of_ble_eq_true rfl) (Nat.le_of_ble_eq_true rfl) (Nat.le_of_ble_eq_true rfl) ?_
    exact gg_zret ok hr (by split <;> simp) (fun _ => rfl) dX4_isTaken_41 ⟨by simp [mr_take, hf], by simp [mr_take, hf]⟩
  ·
    have hf : mr_find x (a / 4) = some i := hf
    refine gg_astore (lo' := [(7, gg_r 9 i), (6, gg_i (nI (a % 4))), (5, gg_i (nI (a / 4))), (0, gg_r 0 0), (1, gg_i (nI t)), (2, gg_i (nI a)), (3, gg_i b), (4, gg_i v)]) ok dX4_isTaken_24 (by decide) rfl ?_
    refine gg_aload ok dX4_isTaken_26 rfl ?_
    refine gg_ifnonnull (tgt := 42) ok dX4_isTaken_28 rfl ?_
    refine gg_aload ok dX4_isTaken_42 rfl ?_
    refine gg_geto9 ok dX4_isTaken_44 fX4_112 rfl (mr_find_lt hf) rfl ⟨fun hq44 => ?_, fun j44 hq44 => ?_⟩
    ·
      have hq44 : x.2.1 9 i = none := hq44
      refine gg_ifnullN (tgt := 66) ok dX4_isTaken_47 rfl ?_
      refine gg_aload_n ok dX4_isTaken_66 rfl rfl ?_
      refine gg_getr ok dX4_isTaken_67 fX4_39 rfl (by decide) rfl ?_
      refine gg_iconst (v := 1) ok dX4_isTaken_70 rfl ?_
      refine gg_dup2 ok dX4_isTaken_71 rfl rfl ?_
      refine gg_iald ok dX4_isTaken_72 rfl (by decide) (gg_ixn (q := 1) (by decide)) rfl ?_
      refine gg_iconst (v := 1) ok dX4_isTaken_73 rfl ?_
      refine gg_iadd ok dX4_isTaken_74 rfl ?_
      refine gg_iast ok dX4_isTaken_75 rfl (by decide) (gg_ixn (q := 1) (by decide)) ?_
      refine gg_aload_n ok dX4_isTaken_76 rfl rfl ?_
      refine gg_aload ok dX4_isTaken_77 rfl ?_
      refine gg_callV0 ok dX4_isTaken_79 gX4_159 (kX4_use l htr _ i (mr_find_lt hf)) (fun _ => rfl) rfl (by decide) rfl rfl (Nat.le_of_ble_eq_true rfl) (Nat.le_of_ble_eq_true rfl) (Nat.le_of_ble_eq_true rfl) (Nat.le_of_ble_eq_true rfl) (Nat.le_of_ble_eq_true rfl) ?_
      refine gg_aload_n ok dX4_isTaken_82 rfl rfl ?_
      refine gg_aload ok dX4_isTaken_83 rfl ?_
      refine gg_iload_n ok dX4_isTaken_85 rfl rfl ?_
      refine gg_iload ok dX4_isTaken_86 rfl ?_
      refine gg_iload_n ok dX4_isTaken_88 rfl rfl ?_
      refine gg_callV0 ok dX4_isTaken_89 gX4_163 (kX4_answer l htr _ i t (a % 4) b (mr_find_lt hf) ht (by omega)) (fun _ => rfl) rfl (by decide) rfl rfl (Nat.le_of_ble_eq_true rfl) (Nat.le_of_ble_eq_true rfl) (Nat.le_of_ble_eq_true rfl) (Nat.le_of_ble_eq_true rfl) (Nat.le_of_ble_eq_true rfl) ?_
      refine gg_iconst (v := 1) ok dX4_isTaken_92 rfl ?_
      exact gg_zret ok hr (by decide) (fun _ => rfl) dX4_isTaken_93 ⟨by simp [mr_take, hf, hq44], by simp [mr_take, hf, hq44] <;> rfl⟩
    ·
      have hq44 : x.2.1 9 i = some j44 := hq44
      refine gg_ifnull ok dX4_isTaken_47 ?_
      refine gg_aload_n ok dX4_isTaken_50 rfl rfl ?_
      refine gg_aload ok dX4_isTaken_51 rfl ?_
      refine gg_aload ok dX4_isTaken_53 rfl ?_
      refine gg_gets9 ok dX4_isTaken_55 fX4_112 rfl (mr_find_lt hf) rfl hq44 ?_
      refine gg_iload_n ok dX4_isTaken_58 rfl rfl ?_
      refine gg_iload ok dX4_isTaken_59 rfl ?_
      refine gg_iload_n ok dX4_isTaken_61 rfl rfl ?_
      by_cases hs3 : sz j44 < 3
      ·
        refine gg_callV1 ok dX4_isTaken_62 gX4_155 (kX4_joinsY l htr _ i j44 (sz j44) (nI t) (nI (a % 4)) b (mr_find_lt hf) (hreg i j44 (mr_find_lt hf) hq44) (hsz j44 (hreg i j44 (mr_find_lt hf) hq44)).1 hs3 hb) (fun _ => rfl) rfl (by decide) rfl rfl (Nat.le_of_ble_eq_true rfl) (Nat.le_of_ble_eq_true rfl) (Nat.le_of_ble_eq_true rfl) (Nat.le_of_ble_eq_true rfl) (Nat.le_of_ble_eq_true rfl) ?_
        exact gg_zret ok hr (by decide) (fun _ => rfl) dX4_isTaken_65 ⟨by simp [mr_take, hf, hq44, hs3], by simp [mr_take, hf, hq44, hs3]⟩
      ·
        refine gg_callV1 ok dX4_isTaken_62 gX4_155 (kX4_joinsN l htr _ i j44 (sz j44) (nI t) (nI (a % 4)) b (mr_find_lt hf) (hreg i j44 (mr_find_lt hf) hq44) (hsz j44 (hreg i j44 (mr_find_lt hf) hq44)).1 (by omega) (hsz j44 (hreg i j44 (mr_find_lt hf) hq44)).2) (fun _ => rfl) rfl (by decide) rfl rfl (Nat.le_of_ble_eq_true rfl) (Nat.le_of_ble_eq_true rfl) (Nat.le_of_ble_eq_true rfl) (Nat.le_of_ble_eq_true rfl) (Nat.le_of_ble_eq_true rfl) ?_
        exact gg_zret ok hr (by decide) (fun _ => rfl) dX4_isTaken_65 ⟨by simp [mr_take, hf, hq44, hs3], by simp [mr_take, hf, hq44, hs3]⟩
set_option maxRecDepth 20000 in
theorem kX4_issue (l : Launch) (htr : l.stackTraces = false) (x : gg_X) (h n t a : Nat) (b v : Int32) (sz : Nat → Nat) (ht : t < 512) (ha : a < 256) (hb : b = 0 ∨ b = 1) (hh : x.1 4 0 1 = nI h) (hh5 : h < 5) (hn : x.1 4 0 2 = nI n) (hn5 : n ≤ 5) (hI : n = mr_cw x h n + mr_fl x) (hcw : mr_cw x h n ≤ 2) (hsz : ∀ r, r < 3 → x.1 11 r 4 = nI (sz r) ∧ sz r < 4) (hreg : ∀ i r, i < 8 → x.2.1 9 i = some r → r < 3) (hT : x.1 7 0 0 = nI t) : gg_Cd l yX4_issue cX4_issue 5 (some .int) (gg_rm 5 0 0 122) true [gg_r 0 0, gg_i (nI a), gg_i b, gg_i v] x (.inl (some (gg_i (mr_iss x h n t a b v sz).1))) (mr_iss x h n t a b v sz).2 := by
  refine gg_of htr (by decide) (Nat.le_of_ble_eq_true rfl) ?_
  intro p e s m args below meth c D cT ad ok okx okt hr hin
  refine gg_wk ?_
  refine gg_aload_n ok dX4_issue_0 rfl rfl ?_
  refine gg_getr ok dX4_issue_1 fX4_39 rfl (by decide) rfl ?_
  refine gg_iconst (v := 0) ok dX4_issue_4 rfl ?_
  refine gg_iald (v := nI t) ok dX4_issue_5 rfl (by decide) (gg_ixn (q := 0) (by decide)) hT ?_
  refine gg_istore (lo' := [(4, gg_i (nI t)), (0, gg_r 0 0), (1, gg_i (nI a)), (2, gg_i b), (3, gg_i v)]) ok dX4_issue_6 (by decide) rfl ?_
  refine gg_iload ok dX4_issue_8 rfl ?_
  refine gg_sipush (v := 512) ok dX4_issue_10 rfl ?_
  refine gg_icmp_ge (tgt := 28) ok dX4_issue_13 rfl ⟨fun z => absurd z (nI_ge (b := 512) ht (by decide)), fun _ => ?_⟩
  refine gg_aload_n ok dX4_issue_16 rfl rfl ?_
  refine gg_iload ok dX4_issue_17 rfl ?_
  refine gg_iload_n ok dX4_issue_19 rfl rfl ?_
  refine gg_iload_n ok dX4_issue_20 rfl rfl ?_
  refine gg_iload_n ok dX4_issue_21 rfl rfl ?_
  refine gg_callV1 ok dX4_issue_22 gX4_147 (kX4_isTaken l htr x h n t a b v sz ht ha hb hh hh5 hn hn5 hI hcw hsz hreg) (fun _ => rfl) rfl (by decide) rfl rfl (Nat.le_of_ble_eq_true rfl) (Nat.le_of_ble_eq_true rfl) (Nat.le_of_ble_eq_true rfl) (Nat.le_of_ble_eq_true rfl) (Nat.le_of_ble_eq_true rfl) ?_
  rcases htk : mr_take x h n t a b v sz with _ | y
  ·
    refine gg_if_ne (tgt := 40) ok dX4_issue_25 rfl ⟨fun z => absurd (by rfl) z, fun _ => ?_⟩
    refine gg_aload_n ok dX4_issue_28 rfl rfl ?_
    refine gg_getr ok dX4_issue_29 fX4_39 rfl (by decide) rfl ?_
    refine gg_iconst (v := 4) ok dX4_issue_32 rfl ?_
    refine gg_dup2 ok dX4_issue_33 rfl rfl ?_
    refine gg_iald ok dX4_issue_34 rfl (by decide) (gg_ixn (q := 4) (by decide)) rfl ?_
    refine gg_iconst (v := 1) ok dX4_issue_35 rfl ?_
    refine gg_iadd ok dX4_issue_36 rfl ?_
    refine gg_iast ok dX4_issue_37 rfl (by decide) (gg_ixn (q := 4) (by decide)) ?_
    refine gg_iconst (v := (-1)) ok dX4_issue_38 rfl ?_
    exact gg_iret ok hr (fun _ => rfl) dX4_issue_39 ⟨by simp [mr_iss, htk], by simp [mr_iss, htk] <;> rfl⟩
  ·
    refine gg_if_ne (tgt := 40) ok dX4_issue_25 rfl ⟨fun _ => ?_, fun z => absurd z (by simp)⟩
    refine gg_aload_n ok dX4_issue_40 rfl rfl ?_
    refine gg_getr ok dX4_issue_41 fX4_39 rfl (by decide) rfl ?_
    refine gg_iconst (v := 0) ok dX4_issue_44 rfl ?_
    refine gg_dup2 ok dX4_issue_45 rfl rfl ?_
    refine gg_iald ok dX4_issue_46 rfl (by decide) (gg_ixn (q := 0) (by decide)) rfl ?_
    refine gg_iconst (v := 1) ok dX4_issue_47 rfl ?_
    refine gg_iadd ok dX4_issue_48 rfl ?_
    refine gg_iast ok dX4_issue_49 rfl (by decide) (gg_ixn (q := 0) (by decide)) ?_
    refine gg_iload ok dX4_issue_50 rfl ?_
    exact gg_iret ok hr (fun _ => rfl) dX4_issue_52 ⟨by simp [mr_iss, htk], by simp [mr_iss, htk] <;> rfl⟩
set_option maxRecDepth 20000 in
theorem lpX4_fill {p : Program} {l : Launch} {e : Env} {s : State} {m : MethodId} {args : Array Value} {below : List Frame} {meth : Method} {c : Code} {Q : State → Prop} {D : va_G} {cT : Nat → ClassId} {ad : Nat → Nat → Nat} (htr : l.stackTraces = false) (y : gg_X) (i r L n : Nat) (T V : Nat → Nat) (hi : i < 8) (hr1 : r < 3) (hn4 : n < 4) (hs : y.1 11 r 4 = nI n) (hT : ∀ j, j < n → y.1 12 r j = nI (T j) ∧ T j < 512) (hV : ∀ j, j < n → y.1 13 r j = nI (V j) ∧ V j < 4) (ok : gg_Ok p s m args meth c cX4_fill 5 RX4 D cT ad) (kx : gg_G p l e (gg_rm 1 0 0 24) s m args below meth c 5 D cT ad Q true 0 0 (mr_fa y i r T V n) 88 [(4, gg_i (nI n)), (3, gg_r 11 r), (0, gg_r 0 0), (1, gg_r 9 i), (2, gg_i (nI L))] []) : ∀ j k, k + j = n → gg_G p l e (gg_rm 1 0 0 24) s m args below meth c 5 D cT ad Q true 0 0 (mr_fa y i r T V k) 47 [(4, gg_i (nI k)), (3, gg_r 11 r), (0, gg_r 0 0), (1, gg_r 9 i), (2, gg_i (nI L))] [] := by
  intro j
  induction j with
  | zero =>
    intro k hk
    obtain rfl : k = n := by omega
    refine gg_iload ok dX4_fill_47 rfl ?_
    refine gg_aload_n ok dX4_fill_49 rfl rfl ?_
    refine gg_geti (v := nI k) ok dX4_fill_50 fX4_122 rfl hr1 rfl ((mr_fa_o (by decide) (by decide) (by decide) (by decide) k).trans hs) ?_
    refine gg_icmp_ge (tgt := 88) ok dX4_fill_53 rfl ⟨fun _ => ?_, fun z => absurd (nI_le (Nat.le_refl _) (by omega)) z⟩
    exact kx
  | succ j ih =>
    intro k hk
    refine gg_iload ok dX4_fill_47 rfl ?_
    refine gg_aload_n ok dX4_fill_49 rfl rfl ?_
    refine gg_geti (v := nI n) ok dX4_fill_50 fX4_122 rfl hr1 rfl ((mr_fa_o (by decide) (by decide) (by decide) (by decide) k).trans hs) ?_
    refine gg_icmp_ge (tgt := 88) ok dX4_fill_53 rfl ⟨fun z => absurd z (nI_ge (by omega) (by omega)), fun _ => ?_⟩
    refine gg_aload_n ok dX4_fill_56 rfl rfl ?_
    refine gg_aload_n ok dX4_fill_57 rfl rfl ?_
    refine gg_aload_n ok dX4_fill_58 rfl rfl ?_
    refine gg_getr ok dX4_fill_59 fX4_209 rfl hr1 rfl ?_
    refine gg_iload ok dX4_fill_62 rfl ?_
    refine gg_iald (v := nI (T k)) ok dX4_fill_64 rfl hr1 (gg_ixn (q := k) (by omega)) ((mr_fa_o (by decide) (by decide) (by decide) (by decide) k).trans (hT k (by omega)).1) ?_
    refine gg_aload_n ok dX4_fill_65 rfl rfl ?_
    refine gg_getr ok dX4_fill_66 fX4_212 rfl hr1 rfl ?_
    refine gg_iload ok dX4_fill_69 rfl ?_
    refine gg_iald (v := nI (V k)) ok dX4_fill_71 rfl hr1 (gg_ixn (q := k) (by omega)) ((mr_fa_o (by decide) (by decide) (by decide) (by decide) k).trans (hV k (by omega)).1) ?_
    refine gg_aload_n ok dX4_fill_72 rfl rfl ?_
    refine gg_getr ok dX4_fill_73 fX4_213 rfl hr1 rfl ?_
    refine gg_iload ok dX4_fill_76 rfl ?_
    refine gg_zald (v := y.1 14 r k) ok dX4_fill_78 rfl hr1 (gg_ixn (q := k) (by omega)) (mr_fa_o (by decide) (by decide) (by decide) (by decide) k) ?_
    refine gg_callV0 ok dX4_fill_79 gX4_163 (kX4_answer l htr _ i (T k) (V k) (y.1 14 r k) hi (hT k (by omega)).2 (hV k (by omega)).2) (fun _ => rfl) rfl (by decide) rfl rfl (Nat.le_of_ble_eq_true rfl) (Nat.le_of_ble_eq_true rfl) (Nat.le_of_ble_eq_true rfl) (Nat.le_of_ble_eq_true rfl) (Nat.le_of_ble_eq_true rfl) ?_
    refine gg_iinc (v := nI (k + 1)) (lo' := [(4, gg_i (nI (k + 1))), (3, gg_r 11 r), (0, gg_r 0 0), (1, gg_r 9 i), (2, gg_i (nI L))]) ok dX4_fill_82 rfl (nI_1 k) (by decide) rfl ?_
    refine gg_goto (tgt := 47) ok dX4_fill_85 rfl ?_
    exact ih (k + 1) (by omega)
set_option maxRecDepth 20000 in
theorem kX4_fill (l : Launch) (htr : l.stackTraces = false) (x : gg_X) (i r L n : Nat) (T V : Nat → Nat) (hi : i < 8) (hr1 : r < 3) (hL : L < 64) (hreg : x.2.1 9 i = some r) (hn4 : n < 4) (hs : x.1 11 r 4 = nI n) (hT : ∀ j, j < n → x.1 12 r j = nI (T j) ∧ T j < 512) (hV : ∀ j, j < n → x.1 13 r j = nI (V j) ∧ V j < 4) : gg_Cd l yX4_fill cX4_fill 5 (some .int) (gg_rm 1 0 0 24) true [gg_r 0 0, gg_r 9 i, gg_i (nI L)] x (.inl (some (gg_i (nI n)))) (mr_fill x i r L n T V) := by
  refine gg_of htr (by decide) (Nat.le_of_ble_eq_true rfl) ?_
  intro p e s m args below meth c D cT ad ok okx okt hr hin
  refine gg_wk ?_
  refine gg_aload_n ok dX4_fill_0 rfl rfl ?_
  refine gg_gets9 ok dX4_fill_1 fX4_112 rfl hi rfl hreg ?_
  refine gg_astore_n (lo' := [(3, gg_r 11 r), (0, gg_r 0 0), (1, gg_r 9 i), (2, gg_i (nI L))]) ok dX4_fill_4 rfl (by decide) rfl ?_
  refine gg_aload_n ok dX4_fill_5 rfl rfl ?_
  refine gg_ifnonnull (tgt := 11) ok dX4_fill_6 rfl ?_
  refine gg_iconst (v := 0) ok dX4_fill_11 rfl ?_
  refine gg_istore (lo' := [(4, gg_i 0), (3, gg_r 11 r), (0, gg_r 0 0), (1, gg_r 9 i), (2, gg_i (nI L))]) ok dX4_fill_12 (by decide) rfl ?_
  refine gg_iload ok dX4_fill_14 rfl ?_
  refine gg_iconst (v := 4) ok dX4_fill_16 rfl ?_
  refine gg_icmp_ge (tgt := 44) ok dX4_fill_17 rfl ⟨fun z => absurd z (by decide), fun _ => ?_⟩
  refine gg_aload_n ok dX4_fill_20 rfl rfl ?_
  refine gg_getr ok dX4_fill_21 fX4_103 rfl hi rfl ?_
  refine gg_iload ok dX4_fill_24 rfl ?_
  refine gg_aload_n ok dX4_fill_26 rfl rfl ?_
  refine gg_getr ok dX4_fill_27 fX4_9 rfl (by decide) rfl ?_
  refine gg_iload_n ok dX4_fill_30 rfl rfl ?_
  refine gg_iconst (v := 4) ok dX4_fill_31 rfl ?_
  refine gg_imul (v := nI (L * 4)) ok dX4_fill_32 (pk_mul L 4) ?_
  refine gg_iload ok dX4_fill_33 rfl ?_
  refine gg_iadd (v := nI ((L * 4) + 0)) ok dX4_fill_35 (nI_add (L * 4) 0) ?_
  refine gg_iald ok dX4_fill_36 rfl (by decide) (gg_ixn (q := (L * 4) + 0) (by omega)) rfl ?_
  refine gg_iast ok dX4_fill_37 rfl hi (gg_ixn (q := 0) (by decide)) ?_
  refine gg_iinc (v := 1) (lo' := [(4, gg_i 1), (3, gg_r 11 r), (0, gg_r 0 0), (1, gg_r 9 i), (2, gg_i (nI L))]) ok dX4_fill_38 rfl rfl (by decide) rfl ?_
  refine gg_goto (tgt := 14) ok dX4_fill_41 rfl ?_
  refine gg_iload ok dX4_fill_14 rfl ?_
  refine gg_iconst (v := 4) ok dX4_fill_16 rfl ?_
  refine gg_icmp_ge (tgt := 44) ok dX4_fill_17 rfl ⟨fun z => absurd z (by decide), fun _ => ?_⟩
  refine gg_aload_n ok dX4_fill_20 rfl rfl ?_
  refine gg_getr ok dX4_fill_21 fX4_103 rfl hi rfl ?_
  refine gg_iload ok dX4_fill_24 rfl ?_
  refine gg_aload_n ok dX4_fill_26 rfl rfl ?_
  refine gg_getr ok dX4_fill_27 fX4_9 rfl (by decide) rfl ?_
  refine gg_iload_n ok dX4_fill_30 rfl rfl ?_
  refine gg_iconst (v := 4) ok dX4_fill_31 rfl ?_
  refine gg_imul (v := nI (L * 4)) ok dX4_fill_32 (pk_mul L 4) ?_
  refine gg_iload ok dX4_fill_33 rfl ?_
  refine gg_iadd (v := nI ((L * 4) + 1)) ok dX4_fill_35 (nI_add (L * 4) 1) ?_
  refine gg_iald ok dX4_fill_36 rfl (by decide) (gg_ixn (q := (L * 4) + 1) (by omega)) rfl ?_
  refine gg_iast ok dX4_fill_37 rfl hi (gg_ixn (q := 1) (by decide)) ?_
  refine gg_iinc (v := 2) (lo' := [(4, gg_i 2), (3, gg_r 11 r), (0, gg_r 0 0), (1, gg_r 9 i), (2, gg_i (nI L))]) ok dX4_fill_38 rfl rfl (by decide) rfl ?_
  refine gg_goto (tgt := 14) ok dX4_fill_41 rfl ?_
  refine gg_iload ok dX4_fill_14 rfl ?_
  refine gg_iconst (v := 4) ok dX4_fill_16 rfl ?_
  refine gg_icmp_ge (tgt := 44) ok dX4_fill_17 rfl ⟨fun z => absurd z (by decide), fun _ => ?_⟩
  refine gg_aload_n ok dX4_fill_20 rfl rfl ?_
  refine gg_getr ok dX4_fill_21 fX4_103 rfl hi rfl ?_
  refine gg_iload ok dX4_fill_24 rfl ?_
  refine gg_aload_n ok dX4_fill_26 rfl rfl ?_
  refine gg_getr ok dX4_fill_27 fX4_9 rfl (by decide) rfl ?_
  refine gg_iload_n ok dX4_fill_30 rfl rfl ?_
  refine gg_iconst (v := 4) ok dX4_fill_31 rfl ?_
  refine gg_imul (v := nI (L * 4)) ok dX4_fill_32 (pk_mul L 4) ?_
  refine gg_iload ok dX4_fill_33 rfl ?_
  refine gg_iadd (v := nI ((L * 4) + 2)) ok dX4_fill_35 (nI_add (L * 4) 2) ?_
  refine gg_iald ok dX4_fill_36 rfl (by decide) (gg_ixn (q := (L * 4) + 2) (by omega)) rfl ?_
  refine gg_iast ok dX4_fill_37 rfl hi (gg_ixn (q := 2) (by decide)) ?_
  refine gg_iinc (v := 3) (lo' := [(4, gg_i 3), (3, gg_r 11 r), (0, gg_r 0 0), (1, gg_r 9 i), (2, gg_i (nI L))]) ok dX4_fill_38 rfl rfl (by decide) rfl ?_
  refine gg_goto (tgt := 14) ok dX4_fill_41 rfl ?_
  refine gg_iload ok dX4_fill_14 rfl ?_
  refine gg_iconst (v := 4) ok dX4_fill_16 rfl ?_
  refine gg_icmp_ge (tgt := 44) ok dX4_fill_17 rfl ⟨fun z => absurd z (by decide), fun _ => ?_⟩
  refine gg_aload_n ok dX4_fill_20 rfl rfl ?_
  refine gg_getr ok dX4_fill_21 fX4_103 rfl hi rfl ?_
  refine gg_iload ok dX4_fill_24 rfl ?_
  refine gg_aload_n ok dX4_fill_26 rfl rfl ?_
  refine gg_getr ok dX4_fill_27 fX4_9 rfl (by decide) rfl ?_
  refine gg_iload_n ok dX4_fill_30 rfl rfl ?_
  refine gg_iconst (v := 4) ok dX4_fill_31 rfl ?_
  refine gg_imul (v := nI (L * 4)) ok dX4_fill_32 (pk_mul L 4) ?_
  refine gg_iload ok dX4_fill_33 rfl ?_
  refine gg_iadd (v := nI ((L * 4) + 3)) ok dX4_fill_35 (nI_add (L * 4) 3) ?_
  refine gg_iald ok dX4_fill_36 rfl (by decide) (gg_ixn (q := (L * 4) + 3) (by omega)) rfl ?_
  refine gg_iast ok dX4_fill_37 rfl hi (gg_ixn (q := 3) (by decide)) ?_
  refine gg_iinc (v := 4) (lo' := [(4, gg_i 4), (3, gg_r 11 r), (0, gg_r 0 0), (1, gg_r 9 i), (2, gg_i (nI L))]) ok dX4_fill_38 rfl rfl (by decide) rfl ?_
  refine gg_goto (tgt := 14) ok dX4_fill_41 rfl ?_
  refine gg_iload ok dX4_fill_14 rfl ?_
  refine gg_iconst (v := 4) ok dX4_fill_16 rfl ?_
  refine gg_icmp_ge (tgt := 44) ok dX4_fill_17 rfl ⟨fun _ => ?_, fun z => absurd (by decide) z⟩
  refine gg_iconst (v := 0) ok dX4_fill_44 rfl ?_
  refine gg_istore (lo' := [(4, gg_i (nI 0)), (3, gg_r 11 r), (0, gg_r 0 0), (1, gg_r 9 i), (2, gg_i (nI L))]) ok dX4_fill_45 (by decide) rfl ?_
  refine lpX4_fill htr (mr_cf x i (L * 4) 4) i r L n T V hi hr1 hn4 ((mr_cf_o (by decide) 4).trans hs) (fun j hj => ⟨(mr_cf_o (by decide) 4).trans (hT j hj).1, (hT j hj).2⟩) (fun j hj => ⟨(mr_cf_o (by decide) 4).trans (hV j hj).1, (hV j hj).2⟩) ok ?_ n 0 (by omega)
  refine gg_aload_n ok dX4_fill_88 rfl rfl ?_
  refine gg_null ok dX4_fill_89 ?_
  refine gg_put9N ok dX4_fill_90 fX4_112 p3_3 hi ?_
  refine gg_aload_n ok dX4_fill_93 rfl rfl ?_
  refine gg_iconst (v := 0) ok dX4_fill_94 rfl ?_
  refine gg_putz ok dX4_fill_95 fX4_191 p1_3 rfl hr1 rfl (by decide) ?_
  refine gg_aload_n ok dX4_fill_98 rfl rfl ?_
  refine gg_geti (v := nI n) ok dX4_fill_99 fX4_122 rfl hr1 rfl ((gg_up_k (by decide)).trans ((mr_fa_o (by decide) (by decide) (by decide) (by decide) n).trans ((mr_cf_o (by decide) 4).trans hs))) ?_
  exact gg_iret ok hr (fun _ => rfl) dX4_fill_102 ⟨rfl, rfl⟩
