abbrev gg_rm (f ce sl lo : Nat) : Room := { frames := f, cells := ce, slots := sl, locals := lo }
set_option maxRecDepth 20000 in
theorem kX4_use (l : Launch) (htr : l.stackTraces = false) (x : gg_X) (i : Nat) (hi : i < 8) : gg_Cd l yX4_use cX4_use 2 none (gg_rm 0 0 0 0) true [gg_r 0 0, gg_r 9 i] x (.inl none) (mr_use x i) := by
  refine gg_of htr (by decide) (Nat.le_of_ble_eq_true rfl) ?_
  intro p e s m args below meth c D cT ad ok okx okt hr hin
  refine gg_wk ?_
  refine gg_aload_n ok dX4_use_0 rfl rfl ?_
  refine gg_dup ok dX4_use_1 rfl ?_
  refine gg_geti ok dX4_use_2 fX4_46 rfl (by decide) rfl rfl ?_
  refine gg_iconst (v := 1) ok dX4_use_5 rfl ?_
  refine gg_iadd ok dX4_use_6 rfl ?_
  refine gg_puti ok dX4_use_7 fX4_46 p4_8 rfl (by decide) rfl ?_
  refine gg_aload_n ok dX4_use_10 rfl rfl ?_
  refine gg_aload_n ok dX4_use_11 rfl rfl ?_
  refine gg_geti ok dX4_use_12 fX4_46 rfl (by decide) rfl rfl ?_
  refine gg_puti ok dX4_use_15 fX4_198 p3_4 rfl hi rfl ?_
  exact gg_vret ok hr (fun _ => rfl) dX4_use_18 ⟨rfl, rfl⟩
set_option maxRecDepth 20000 in
theorem kX4_answer (l : Launch) (htr : l.stackTraces = false) (x : gg_X) (i t k : Nat) (b : Int32) (hi : i < 8) (ht : t < 512) (hk : k < 4) : gg_Cd l yX4_answer cX4_answer 5 none (gg_rm 0 0 0 0) true [gg_r 0 0, gg_r 9 i, gg_i (nI t), gg_i (nI k), gg_i b] x (.inl none) (mr_ans x i t k b) := by
  refine gg_of htr (by decide) (Nat.le_of_ble_eq_true rfl) ?_
  intro p e s m args below meth c D cT ad ok okx okt hr hin
  refine gg_wk ?_
  refine gg_iload ok dX4_answer_0 rfl ?_
  refine gg_if_eq (tgt := 25) ok dX4_answer_2 rfl ⟨fun h2 => ?_, fun h2 => ?_⟩
  ·
    refine gg_aload_n ok dX4_answer_25 rfl rfl ?_
    refine gg_getr ok dX4_answer_26 fX4_32 rfl (by decide) rfl ?_
    refine gg_iload_n ok dX4_answer_29 rfl rfl ?_
    refine gg_aload_n ok dX4_answer_30 rfl rfl ?_
    refine gg_getr ok dX4_answer_31 fX4_103 rfl hi rfl ?_
    refine gg_iload_n ok dX4_answer_34 rfl rfl ?_
    refine gg_iald ok dX4_answer_35 rfl hi (gg_ixn (q := k) (by omega)) rfl ?_
    refine gg_iast ok dX4_answer_36 rfl (by decide) (gg_ixn (q := t) (by omega)) ?_
    refine gg_aload_n ok dX4_answer_37 rfl rfl ?_
    refine gg_getr ok dX4_answer_38 fX4_35 rfl (by decide) rfl ?_
    refine gg_iload_n ok dX4_answer_41 rfl rfl ?_
    refine gg_iconst (v := 1) ok dX4_answer_42 rfl ?_
    refine gg_zast ok dX4_answer_43 rfl (by decide) (gg_ixn (q := t) (by omega)) (by decide) ?_
    exact gg_vret ok hr (fun _ => rfl) dX4_answer_44 ⟨rfl, by unfold mr_ans; rw [if_pos h2] <;> rfl⟩
  ·
    refine gg_aload_n ok dX4_answer_5 rfl rfl ?_
    refine gg_getr ok dX4_answer_6 fX4_103 rfl hi rfl ?_
    refine gg_iload_n ok dX4_answer_9 rfl rfl ?_
    refine gg_aload_n ok dX4_answer_10 rfl rfl ?_
    refine gg_getr ok dX4_answer_11 fX4_32 rfl (by decide) rfl ?_
    refine gg_iload_n ok dX4_answer_14 rfl rfl ?_
    refine gg_iald ok dX4_answer_15 rfl (by decide) (gg_ixn (q := t) (by omega)) rfl ?_
    refine gg_iast ok dX4_answer_16 rfl hi (gg_ixn (q := k) (by omega)) ?_
    refine gg_aload_n ok dX4_answer_17 rfl rfl ?_
    refine gg_iconst (v := 1) ok dX4_answer_18 rfl ?_
    refine gg_putz ok dX4_answer_19 fX4_97 p3_2 rfl hi rfl (by decide) ?_
    refine gg_goto (tgt := 37) ok dX4_answer_22 rfl ?_
    refine gg_aload_n ok dX4_answer_37 rfl rfl ?_
    refine gg_getr ok dX4_answer_38 fX4_35 rfl (by decide) rfl ?_
    refine gg_iload_n ok dX4_answer_41 rfl rfl ?_
    refine gg_iconst (v := 1) ok dX4_answer_42 rfl ?_
    refine gg_zast ok dX4_answer_43 rfl (by decide) (gg_ixn (q := t) (by omega)) (by decide) ?_
    exact gg_vret ok hr (fun _ => rfl) dX4_answer_44 ⟨rfl, by unfold mr_ans; rw [if_neg h2] <;> rfl⟩
set_option maxRecDepth 20000 in
theorem kX4_findWay (l : Launch) (htr : l.stackTraces = false) (x : gg_X) (L : Nat) (hL : L < 64) : gg_Cd l yX4_findWay cX4_findWay 4 (some (.object "MissRegisters$Way")) (gg_rm 0 0 0 0) false [gg_r 0 0, gg_i (nI L)] x (.inl (some (gg_o 9 (mr_find x L)))) x := by
  refine gg_of htr (by decide) (Nat.le_of_ble_eq_true rfl) ?_
  intro p e s m args below meth c D cT ad ok okx okt hr hin
  refine gg_iload_n ok dX4_findWay_0 rfl rfl ?_
  refine gg_iconst (v := 4) ok dX4_findWay_1 rfl ?_
  refine gg_irem (v := nI (L % 4)) ok dX4_findWay_2 (pk_rem (a := L) (d := 4) (by omega) (by omega) (by omega)) (by decide) ?_
  refine gg_iconst (v := 2) ok dX4_findWay_3 rfl ?_
  refine gg_imul (v := nI ((L % 4) * 2)) ok dX4_findWay_4 (pk_mul (L % 4) 2) ?_
  refine gg_istore_n (lo' := [(2, gg_i (nI ((L % 4) * 2))), (0, gg_r 0 0), (1, gg_i (nI L))]) ok dX4_findWay_5 rfl (by decide) rfl ?_
  refine gg_iload_n ok dX4_findWay_6 rfl rfl ?_
  refine gg_istore_n (lo' := [(3, gg_i (nI ((L % 4) * 2))), (2, gg_i (nI ((L % 4) * 2))), (0, gg_r 0 0), (1, gg_i (nI L))]) ok dX4_findWay_7 rfl (by decide) rfl ?_
  refine gg_iload_n ok dX4_findWay_8 rfl rfl ?_
  refine gg_iload_n ok dX4_findWay_9 rfl rfl ?_
  refine gg_iconst (v := 2) ok dX4_findWay_10 rfl ?_
  refine gg_iadd (v := nI (((L % 4) * 2) + 2)) ok dX4_findWay_11 (nI_add ((L % 4) * 2) 2) ?_
  refine gg_icmp_ge (tgt := 41) ok dX4_findWay_12 rfl ⟨fun z => absurd z (nI_ge (by omega) (by omega)), fun _ => ?_⟩
  refine gg_aload_n ok dX4_findWay_15 rfl rfl ?_
  refine gg_getr ok dX4_findWay_16 fX4_15 rfl (by decide) rfl ?_
  refine gg_iload_n ok dX4_findWay_19 rfl rfl ?_
  refine gg_aald ok dX4_findWay_20 rfl rfl (by decide) (gg_ixn (q := (L % 4) * 2) (by omega)) ?_
  refine gg_geti ok dX4_findWay_21 fX4_100 rfl (show (L % 4) * 2 < 8 by omega) rfl rfl ?_
  refine gg_iload_n ok dX4_findWay_24 rfl rfl ?_
  refine gg_icmp_ne (tgt := 35) ok dX4_findWay_25 rfl ⟨fun ha => ?_, fun ha => ?_⟩
  ·
    refine gg_iinc (v := nI ((L % 4) * 2 + 1)) (lo' := [(3, gg_i (nI ((L % 4) * 2 + 1))), (2, gg_i (nI ((L % 4) * 2))), (0, gg_r 0 0), (1, gg_i (nI L))]) ok dX4_findWay_35 rfl (nI_1 ((L % 4) * 2)) (by decide) rfl ?_
    refine gg_goto (tgt := 8) ok dX4_findWay_38 rfl ?_
    refine gg_iload_n ok dX4_findWay_8 rfl rfl ?_
    refine gg_iload_n ok dX4_findWay_9 rfl rfl ?_
    refine gg_iconst (v := 2) ok dX4_findWay_10 rfl ?_
    refine gg_iadd (v := nI (((L % 4) * 2) + 2)) ok dX4_findWay_11 (nI_add ((L % 4) * 2) 2) ?_
    refine gg_icmp_ge (tgt := 41) ok dX4_findWay_12 rfl ⟨fun z => absurd z (nI_ge (by omega) (by omega)), fun _ => ?_⟩
    refine gg_aload_n ok dX4_findWay_15 rfl rfl ?_
    refine gg_getr ok dX4_findWay_16 fX4_15 rfl (by decide) rfl ?_
    refine gg_iload_n ok dX4_findWay_19 rfl rfl ?_
    refine gg_aald ok dX4_findWay_20 rfl rfl (by decide) (gg_ixn (q := (L % 4) * 2 + 1) (by omega)) ?_
    refine gg_geti ok dX4_findWay_21 fX4_100 rfl (show (L % 4) * 2 + 1 < 8 by omega) rfl rfl ?_
    refine gg_iload_n ok dX4_findWay_24 rfl rfl ?_
    refine gg_icmp_ne (tgt := 35) ok dX4_findWay_25 rfl ⟨fun hb => ?_, fun hb => ?_⟩
    ·
      refine gg_iinc (v := nI ((L % 4) * 2 + 1 + 1)) (lo' := [(3, gg_i (nI ((L % 4) * 2 + 1 + 1))), (2, gg_i (nI ((L % 4) * 2))), (0, gg_r 0 0), (1, gg_i (nI L))]) ok dX4_findWay_35 rfl (nI_1 ((L % 4) * 2 + 1)) (by decide) rfl ?_
      refine gg_goto (tgt := 8) ok dX4_findWay_38 rfl ?_
      refine gg_iload_n ok dX4_findWay_8 rfl rfl ?_
      refine gg_iload_n ok dX4_findWay_9 rfl rfl ?_
      refine gg_iconst (v := 2) ok dX4_findWay_10 rfl ?_
      refine gg_iadd (v := nI (((L % 4) * 2) + 2)) ok dX4_findWay_11 (nI_add ((L % 4) * 2) 2) ?_
      refine gg_icmp_ge (tgt := 41) ok dX4_findWay_12 rfl ⟨fun _ => ?_, fun z => absurd (nI_le (by omega) (by omega)) z⟩
      refine gg_null ok dX4_findWay_41 ?_
      exact gg_aret ok hr (fun h => h) dX4_findWay_42 ⟨by simp [mr_find, gg_o, ha, hb], rfl⟩
    ·
      refine gg_aload_n ok dX4_findWay_28 rfl rfl ?_
      refine gg_getr ok dX4_findWay_29 fX4_15 rfl (by decide) rfl ?_
      refine gg_iload_n ok dX4_findWay_32 rfl rfl ?_
      refine gg_aald ok dX4_findWay_33 rfl rfl (by decide) (gg_ixn (q := (L % 4) * 2 + 1) (by omega)) ?_
      exact gg_aret ok hr (fun h => h) dX4_findWay_34 ⟨by simp [mr_find, gg_o, ha, hb], rfl⟩
  ·
    refine gg_aload_n ok dX4_findWay_28 rfl rfl ?_
    refine gg_getr ok dX4_findWay_29 fX4_15 rfl (by decide) rfl ?_
    refine gg_iload_n ok dX4_findWay_32 rfl rfl ?_
    refine gg_aald ok dX4_findWay_33 rfl rfl (by decide) (gg_ixn (q := (L % 4) * 2) (by omega)) ?_
    exact gg_aret ok hr (fun h => h) dX4_findWay_34 ⟨by simp [mr_find, gg_o, ha], rfl⟩
set_option maxRecDepth 20000 in
theorem kX4_chooseWay (l : Launch) (htr : l.stackTraces = false) (x : gg_X) (L : Nat) (hL : L < 64) : gg_Cd l yX4_chooseWay cX4_chooseWay 6 (some (.object "MissRegisters$Way")) (gg_rm 0 0 0 0) false [gg_r 0 0, gg_i (nI L)] x (.inl (some (gg_o 9 (mr_cho x (L % 4 * 2))))) x := by
  refine gg_of htr (by decide) (Nat.le_of_ble_eq_true rfl) ?_
  intro p e s m args below meth c D cT ad ok okx okt hr hin
  refine gg_iload_n ok dX4_chooseWay_0 rfl rfl ?_
  refine gg_iconst (v := 4) ok dX4_chooseWay_1 rfl ?_
  refine gg_irem (v := nI (L % 4)) ok dX4_chooseWay_2 (pk_rem (a := L) (d := 4) (by omega) (by omega) (by omega)) (by decide) ?_
  refine gg_iconst (v := 2) ok dX4_chooseWay_3 rfl ?_
  refine gg_imul (v := nI ((L % 4) * 2)) ok dX4_chooseWay_4 (pk_mul (L % 4) 2) ?_
  refine gg_istore_n (lo' := [(2, gg_i (nI ((L % 4) * 2))), (0, gg_r 0 0), (1, gg_i (nI L))]) ok dX4_chooseWay_5 rfl (by decide) rfl ?_
  refine gg_null ok dX4_chooseWay_6 ?_
  refine gg_astore_nN (lo' := [(3, gg_n), (2, gg_i (nI ((L % 4) * 2))), (0, gg_r 0 0), (1, gg_i (nI L))]) ok dX4_chooseWay_7 rfl (by decide) rfl ?_
  refine gg_iload_n ok dX4_chooseWay_8 rfl rfl ?_
  refine gg_istore (lo' := [(4, gg_i (nI ((L % 4) * 2))), (3, gg_n), (2, gg_i (nI ((L % 4) * 2))), (0, gg_r 0 0), (1, gg_i (nI L))]) ok dX4_chooseWay_9 (by decide) rfl ?_
  refine gg_iload ok dX4_chooseWay_11 rfl ?_
  refine gg_iload_n ok dX4_chooseWay_13 rfl rfl ?_
  refine gg_iconst (v := 2) ok dX4_chooseWay_14 rfl ?_
  refine gg_iadd (v := nI (((L % 4) * 2) + 2)) ok dX4_chooseWay_15 (nI_add ((L % 4) * 2) 2) ?_
  refine gg_icmp_ge (tgt := 73) ok dX4_chooseWay_16 rfl ⟨fun z => absurd z (nI_ge (by omega) (by omega)), fun _ => ?_⟩
  refine gg_aload_n ok dX4_chooseWay_19 rfl rfl ?_
  refine gg_getr ok dX4_chooseWay_20 fX4_15 rfl (by decide) rfl ?_
  refine gg_iload ok dX4_chooseWay_23 rfl ?_
  refine gg_aald ok dX4_chooseWay_25 rfl rfl (by decide) (gg_ixn (q := (L % 4) * 2) (by omega)) ?_
  refine gg_astore (lo' := [(5, gg_r 9 ((L % 4) * 2)), (4, gg_i (nI ((L % 4) * 2))), (3, gg_n), (2, gg_i (nI ((L % 4) * 2))), (0, gg_r 0 0), (1, gg_i (nI L))]) ok dX4_chooseWay_26 (by decide) rfl ?_
  refine gg_aload ok dX4_chooseWay_28 rfl ?_
  refine gg_geti ok dX4_chooseWay_30 fX4_100 rfl (show (L % 4) * 2 < 8 by omega) rfl rfl ?_
  refine gg_iconst (v := (-1)) ok dX4_chooseWay_33 rfl ?_
  refine gg_icmp_ne (tgt := 40) ok dX4_chooseWay_34 rfl ⟨fun ha => ?_, fun ha => ?_⟩
  ·
    refine gg_aload ok dX4_chooseWay_40 rfl ?_
    refine gg_geto9 ok dX4_chooseWay_42 fX4_112 rfl (show (L % 4) * 2 < 8 by omega) rfl ⟨fun hq => ?_, fun ja hq => ?_⟩
    ·
      refine gg_ifnonnullN ok dX4_chooseWay_45 ?_
      refine gg_aload_nN ok dX4_chooseWay_48 rfl rfl ?_
      refine gg_ifnullN (tgt := 64) ok dX4_chooseWay_49 rfl ?_
      refine gg_aload ok dX4_chooseWay_64 rfl ?_
      refine gg_astore_n (lo' := [(3, gg_r 9 ((L % 4) * 2)), (5, gg_r 9 ((L % 4) * 2)), (4, gg_i (nI ((L % 4) * 2))), (2, gg_i (nI ((L % 4) * 2))), (0, gg_r 0 0), (1, gg_i (nI L))]) ok dX4_chooseWay_66 rfl (by decide) rfl ?_
      refine gg_iinc (v := nI ((L % 4) * 2 + 1)) (lo' := [(4, gg_i (nI ((L % 4) * 2 + 1))), (3, gg_r 9 ((L % 4) * 2)), (5, gg_r 9 ((L % 4) * 2)), (2, gg_i (nI ((L % 4) * 2))), (0, gg_r 0 0), (1, gg_i (nI L))]) ok dX4_chooseWay_67 rfl (nI_1 ((L % 4) * 2)) (by decide) rfl ?_
      refine gg_goto (tgt := 11) ok dX4_chooseWay_70 rfl ?_
      refine gg_iload ok dX4_chooseWay_11 rfl ?_
      refine gg_iload_n ok dX4_chooseWay_13 rfl rfl ?_
      refine gg_iconst (v := 2) ok dX4_chooseWay_14 rfl ?_
      refine gg_iadd (v := nI (((L % 4) * 2) + 2)) ok dX4_chooseWay_15 (nI_add ((L % 4) * 2) 2) ?_
      refine gg_icmp_ge (tgt := 73) ok dX4_chooseWay_16 rfl ⟨fun z => absurd z (nI_ge (by omega) (by omega)), fun _ => ?_⟩
      refine gg_aload_n ok dX4_chooseWay_19 rfl rfl ?_
      refine gg_getr ok dX4_chooseWay_20 fX4_15 rfl (by decide) rfl ?_
      refine gg_iload ok dX4_chooseWay_23 rfl ?_
      refine gg_aald ok dX4_chooseWay_25 rfl rfl (by decide) (gg_ixn (q := (L % 4) * 2 + 1) (by omega)) ?_
      refine gg_astore (lo' := [(5, gg_r 9 ((L % 4) * 2 + 1)), (4, gg_i (nI ((L % 4) * 2 + 1))), (3, gg_r 9 ((L % 4) * 2)), (2, gg_i (nI ((L % 4) * 2))), (0, gg_r 0 0), (1, gg_i (nI L))]) ok dX4_chooseWay_26 (by decide) rfl ?_
      refine gg_aload ok dX4_chooseWay_28 rfl ?_
      refine gg_geti ok dX4_chooseWay_30 fX4_100 rfl (show (L % 4) * 2 + 1 < 8 by omega) rfl rfl ?_
      refine gg_iconst (v := (-1)) ok dX4_chooseWay_33 rfl ?_
      refine gg_icmp_ne (tgt := 40) ok dX4_chooseWay_34 rfl ⟨fun hb => ?_, fun hb => ?_⟩
      ·
        refine gg_aload ok dX4_chooseWay_40 rfl ?_
        refine gg_geto9 ok dX4_chooseWay_42 fX4_112 rfl (show (L % 4) * 2 + 1 < 8 by omega) rfl ⟨fun hp => ?_, fun jb hp => ?_⟩
        ·
          refine gg_ifnonnullN ok dX4_chooseWay_45 ?_
          refine gg_aload_n ok dX4_chooseWay_48 rfl rfl ?_
          refine gg_ifnull ok dX4_chooseWay_49 ?_
          refine gg_aload ok dX4_chooseWay_52 rfl ?_
          refine gg_geti ok dX4_chooseWay_54 fX4_198 rfl (show (L % 4) * 2 + 1 < 8 by omega) rfl rfl ?_
          refine gg_aload_n ok dX4_chooseWay_57 rfl rfl ?_
          refine gg_geti ok dX4_chooseWay_58 fX4_198 rfl (show (L % 4) * 2 < 8 by omega) rfl rfl ?_
          refine gg_icmp_ge (tgt := 67) ok dX4_chooseWay_61 rfl ⟨fun hu => ?_, fun hu => ?_⟩
          ·
            have hu := Int32.not_lt.mpr hu
            refine gg_iinc (v := nI ((L % 4) * 2 + 1 + 1)) (lo' := [(4, gg_i (nI ((L % 4) * 2 + 1 + 1))), (5, gg_r 9 ((L % 4) * 2 + 1)), (3, gg_r 9 ((L % 4) * 2)), (2, gg_i (nI ((L % 4) * 2))), (0, gg_r 0 0), (1, gg_i (nI L))]) ok dX4_chooseWay_67 rfl (nI_1 ((L % 4) * 2 + 1)) (by decide) rfl ?_
            refine gg_goto (tgt := 11) ok dX4_chooseWay_70 rfl ?_
            refine gg_iload ok dX4_chooseWay_11 rfl ?_
            refine gg_iload_n ok dX4_chooseWay_13 rfl rfl ?_
            refine gg_iconst (v := 2) ok dX4_chooseWay_14 rfl ?_
            refine gg_iadd (v := nI (((L % 4) * 2) + 2)) ok dX4_chooseWay_15 (nI_add ((L % 4) * 2) 2) ?_
            refine gg_icmp_ge (tgt := 73) ok dX4_chooseWay_16 rfl ⟨fun _ => ?_, fun z => absurd (nI_le (by omega) (by omega)) z⟩
            refine gg_aload_n ok dX4_chooseWay_73 rfl rfl ?_
            exact gg_aret ok hr (fun h => h) dX4_chooseWay_74 ⟨by simp [mr_cho, gg_o, ha, hq, hb, hp, hu], rfl⟩
          ·
            have hu := Int32.not_le.mp hu
            refine gg_aload ok dX4_chooseWay_64 rfl ?_
            refine gg_astore_n (lo' := [(3, gg_r 9 ((L % 4) * 2 + 1)), (5, gg_r 9 ((L % 4) * 2 + 1)), (4, gg_i (nI ((L % 4) * 2 + 1))), (2, gg_i (nI ((L % 4) * 2))), (0, gg_r 0 0), (1, gg_i (nI L))]) ok dX4_chooseWay_66 rfl (by decide) rfl ?_
            refine gg_iinc (v := nI ((L % 4) * 2 + 1 + 1)) (lo' := [(4, gg_i (nI ((L % 4) * 2 + 1 + 1))), (3, gg_r 9 ((L % 4) * 2 + 1)), (5, gg_r 9 ((L % 4) * 2 + 1)), (2, gg_i (nI ((L % 4) * 2))), (0, gg_r 0 0), (1, gg_i (nI L))]) ok dX4_chooseWay_67 rfl (nI_1 ((L % 4) * 2 + 1)) (by decide) rfl ?_
            refine gg_goto (tgt := 11) ok dX4_chooseWay_70 rfl ?_
            refine gg_iload ok dX4_chooseWay_11 rfl ?_
            refine gg_iload_n ok dX4_chooseWay_13 rfl rfl ?_
            refine gg_iconst (v := 2) ok dX4_chooseWay_14 rfl ?_
            refine gg_iadd (v := nI (((L % 4) * 2) + 2)) ok dX4_chooseWay_15 (nI_add ((L % 4) * 2) 2) ?_
            refine gg_icmp_ge (tgt := 73) ok dX4_chooseWay_16 rfl ⟨fun _ => ?_, fun z => absurd (nI_le (by omega) (by omega)) z⟩
            refine gg_aload_n ok dX4_chooseWay_73 rfl rfl ?_
            exact gg_aret ok hr (fun h => h) dX4_chooseWay_74 ⟨by simp [mr_cho, gg_o, ha, hq, hb, hp, hu], rfl⟩
        ·
          refine gg_ifnonnull (tgt := 67) ok dX4_chooseWay_45 rfl ?_
          refine gg_iinc (v := nI ((L % 4) * 2 + 1 + 1)) (lo' := [(4, gg_i (nI ((L % 4) * 2 + 1 + 1))), (5, gg_r 9 ((L % 4) * 2 + 1)), (3, gg_r 9 ((L % 4) * 2)), (2, gg_i (nI ((L % 4) * 2))), (0, gg_r 0 0), (1, gg_i (nI L))]) ok dX4_chooseWay_67 rfl (nI_1 ((L % 4) * 2 + 1)) (by decide) rfl ?_
          refine gg_goto (tgt := 11) ok dX4_chooseWay_70 rfl ?_
          refine gg_iload ok dX4_chooseWay_11 rfl ?_
          refine gg_iload_n ok dX4_chooseWay_13 rfl rfl ?_
          refine gg_iconst (v := 2) ok dX4_chooseWay_14 rfl ?_
          refine gg_iadd (v := nI (((L % 4) * 2) + 2)) ok dX4_chooseWay_15 (nI_add ((L % 4) * 2) 2) ?_
          refine gg_icmp_ge (tgt := 73) ok dX4_chooseWay_16 rfl ⟨fun _ => ?_, fun z => absurd (nI_le (by omega) (by omega)) z⟩
          refine gg_aload_n ok dX4_chooseWay_73 rfl rfl ?_
          exact gg_aret ok hr (fun h => h) dX4_chooseWay_74 ⟨by simp [mr_cho, gg_o, ha, hq, hb, hp], rfl⟩
      ·
        refine gg_aload ok dX4_chooseWay_37 rfl ?_
        exact gg_aret ok hr (fun h => h) dX4_chooseWay_39 ⟨by simp [mr_cho, gg_o, ha, hq, hb], rfl⟩
    ·
      refine gg_ifnonnull (tgt := 67) ok dX4_chooseWay_45 rfl ?_
      refine gg_iinc (v := nI ((L % 4) * 2 + 1)) (lo' := [(4, gg_i (nI ((L % 4) * 2 + 1))), (5, gg_r 9 ((L % 4) * 2)), (3, gg_n), (2, gg_i (nI ((L % 4) * 2))), (0, gg_r 0 0), (1, gg_i (nI L))]) ok dX4_chooseWay_67 rfl (nI_1 ((L % 4) * 2)) (by decide) rfl ?_
      refine gg_goto (tgt := 11) ok dX4_chooseWay_70 rfl ?_
      refine gg_iload ok dX4_chooseWay_11 rfl ?_
      refine gg_iload_n ok dX4_chooseWay_13 rfl rfl ?_
      refine gg_iconst (v := 2) ok dX4_chooseWay_14 rfl ?_
      refine gg_iadd (v := nI (((L % 4) * 2) + 2)) ok dX4_chooseWay_15 (nI_add ((L % 4) * 2) 2) ?_
      refine gg_icmp_ge (tgt := 73) ok dX4_chooseWay_16 rfl ⟨fun z => absurd z (nI_ge (by omega) (by omega)), fun _ => ?_⟩
      refine gg_aload_n ok dX4_chooseWay_19 rfl rfl ?_
      refine gg_getr ok dX4_chooseWay_20 fX4_15 rfl (by decide) rfl ?_
      refine gg_iload ok dX4_chooseWay_23 rfl ?_
      refine gg_aald ok dX4_chooseWay_25 rfl rfl (by decide) (gg_ixn (q := (L % 4) * 2 + 1) (by omega)) ?_
      refine gg_astore (lo' := [(5, gg_r 9 ((L % 4) * 2 + 1)), (4, gg_i (nI ((L % 4) * 2 + 1))), (3, gg_n), (2, gg_i (nI ((L % 4) * 2))), (0, gg_r 0 0), (1, gg_i (nI L))]) ok dX4_chooseWay_26 (by decide) rfl ?_
      refine gg_aload ok dX4_chooseWay_28 rfl ?_
      refine gg_geti ok dX4_chooseWay_30 fX4_100 rfl (show (L % 4) * 2 + 1 < 8 by omega) rfl rfl ?_
      refine gg_iconst (v := (-1)) ok dX4_chooseWay_33 rfl ?_
      refine gg_icmp_ne (tgt := 40) ok dX4_chooseWay_34 rfl ⟨fun hb => ?_, fun hb => ?_⟩
      ·
        refine gg_aload ok dX4_chooseWay_40 rfl ?_
        refine gg_geto9 ok dX4_chooseWay_42 fX4_112 rfl (show (L % 4) * 2 + 1 < 8 by omega) rfl ⟨fun hp => ?_, fun jb hp => ?_⟩
        ·
          refine gg_ifnonnullN ok dX4_chooseWay_45 ?_
          refine gg_aload_nN ok dX4_chooseWay_48 rfl rfl ?_
          refine gg_ifnullN (tgt := 64) ok dX4_chooseWay_49 rfl ?_
          refine gg_aload ok dX4_chooseWay_64 rfl ?_
          refine gg_astore_n (lo' := [(3, gg_r 9 ((L % 4) * 2 + 1)), (5, gg_r 9 ((L % 4) * 2 + 1)), (4, gg_i (nI ((L % 4) * 2 + 1))), (2, gg_i (nI ((L % 4) * 2))), (0, gg_r 0 0), (1, gg_i (nI L))]) ok dX4_chooseWay_66 rfl (by decide) rfl ?_
          refine gg_iinc (v := nI ((L % 4) * 2 + 1 + 1)) (lo' := [(4, gg_i (nI ((L % 4) * 2 + 1 + 1))), (3, gg_r 9 ((L % 4) * 2 + 1)), (5, gg_r 9 ((L % 4) * 2 + 1)), (2, gg_i (nI ((L % 4) * 2))), (0, gg_r 0 0), (1, gg_i (nI L))]) ok dX4_chooseWay_67 rfl (nI_1 ((L % 4) * 2 + 1)) (by decide) rfl ?_
          refine gg_goto (tgt := 11) ok dX4_chooseWay_70 rfl ?_
          refine gg_iload ok dX4_chooseWay_11 rfl ?_
          refine gg_iload_n ok dX4_chooseWay_13 rfl rfl ?_
          refine gg_iconst (v := 2) ok dX4_chooseWay_14 rfl ?_
          refine gg_iadd (v := nI (((L % 4) * 2) + 2)) ok dX4_chooseWay_15 (nI_add ((L % 4) * 2) 2) ?_
          refine gg_icmp_ge (tgt := 73) ok dX4_chooseWay_16 rfl ⟨fun _ => ?_, fun z => absurd (nI_le (by omega) (by omega)) z⟩
          refine gg_aload_n ok dX4_chooseWay_73 rfl rfl ?_
          exact gg_aret ok hr (fun h => h) dX4_chooseWay_74 ⟨by simp [mr_cho, gg_o, ha, hq, hb, hp], rfl⟩
        ·
          refine gg_ifnonnull (tgt := 67) ok dX4_chooseWay_45 rfl ?_
          refine gg_iinc (v := nI ((L % 4) * 2 + 1 + 1)) (lo' := [(4, gg_i (nI ((L % 4) * 2 + 1 + 1))), (5, gg_r 9 ((L % 4) * 2 + 1)), (3, gg_n), (2, gg_i (nI ((L % 4) * 2))), (0, gg_r 0 0), (1, gg_i (nI L))]) ok dX4_chooseWay_67 rfl (nI_1 ((L % 4) * 2 + 1)) (by decide) rfl ?_
          refine gg_goto (tgt := 11) ok dX4_chooseWay_70 rfl ?_
          refine gg_iload ok dX4_chooseWay_11 rfl ?_
          refine gg_iload_n ok dX4_chooseWay_13 rfl rfl ?_
          refine gg_iconst (v := 2) ok dX4_chooseWay_14 rfl ?_
          refine gg_iadd (v := nI (((L % 4) * 2) + 2)) ok dX4_chooseWay_15 (nI_add ((L % 4) * 2) 2) ?_
          refine gg_icmp_ge (tgt := 73) ok dX4_chooseWay_16 rfl ⟨fun _ => ?_, fun z => absurd (nI_le (by omega) (by omega)) z⟩
          refine gg_aload_nN ok dX4_chooseWay_73 rfl rfl ?_
          exact gg_aret ok hr (fun h => h) dX4_chooseWay_74 ⟨by simp [mr_cho, gg_o, ha, hq, hb, hp], rfl⟩
      ·
        refine gg_aload ok dX4_chooseWay_37 rfl ?_
        exact gg_aret ok hr (fun h => h) dX4_chooseWay_39 ⟨by simp [mr_cho, gg_o, ha, hq, hb], rfl⟩
  ·
    refine gg_aload ok dX4_chooseWay_37 rfl ?_
    exact gg_aret ok hr (fun h => h) dX4_chooseWay_39 ⟨by simp [mr_cho, gg_o, ha], rfl⟩
set_option maxRecDepth 20000 in
theorem kX4_findFreeRegister (l : Launch) (htr : l.stackTraces = false) (x : gg_X)  : gg_Cd l yX4_findFreeRegister cX4_findFreeRegister 2 (some (.object "MissRegisters$Register")) (gg_rm 0 0 0 0) false [gg_r 0 0] x (.inl (some (gg_o 11 (mr_free x)))) x := by
  refine gg_of htr (by decide) (Nat.le_of_ble_eq_true rfl) ?_
  intro p e s m args below meth c D cT ad ok okx okt hr hin
  refine gg_iconst (v := 0) ok dX4_findFreeRegister_0 rfl ?_
  refine gg_istore_n (lo' := [(1, gg_i 0), (0, gg_r 0 0)]) ok dX4_findFreeRegister_1 rfl (by decide) rfl ?_
  refine gg_iload_n ok dX4_findFreeRegister_2 rfl rfl ?_
  refine gg_iconst (v := 3) ok dX4_findFreeRegister_3 rfl ?_
  refine gg_icmp_ge (tgt := 32) ok dX4_findFreeRegister_4 rfl ⟨fun z => absurd z (by decide), fun _ => ?_⟩
  refine gg_aload_n ok dX4_findFreeRegister_7 rfl rfl ?_
  refine gg_getr ok dX4_findFreeRegister_8 fX4_21 rfl (by decide) rfl ?_
  refine gg_iload_n ok dX4_findFreeRegister_11 rfl rfl ?_
  refine gg_aald ok dX4_findFreeRegister_12 rfl rfl (by decide) (gg_ixn (q := 0) (by decide)) ?_
  refine gg_getz ok dX4_findFreeRegister_13 fX4_191 rfl (by decide) rfl rfl ?_
  refine gg_if_ne (tgt := 26) ok dX4_findFreeRegister_16 rfl ⟨fun ha => ?_, fun ha => ?_⟩
  ·
    refine gg_iinc (v := 1) (lo' := [(1, gg_i 1), (0, gg_r 0 0)]) ok dX4_findFreeRegister_26 rfl rfl (by decide) rfl ?_
    refine gg_goto (tgt := 2) ok dX4_findFreeRegister_29 rfl ?_
    refine gg_iload_n ok dX4_findFreeRegister_2 rfl rfl ?_
    refine gg_iconst (v := 3) ok dX4_findFreeRegister_3 rfl ?_
    refine gg_icmp_ge (tgt := 32) ok dX4_findFreeRegister_4 rfl ⟨fun z => absurd z (by decide), fun _ => ?_⟩
    refine gg_aload_n ok dX4_findFreeRegister_7 rfl rfl ?_
    refine gg_getr ok dX4_findFreeRegister_8 fX4_21 rfl (by decide) rfl ?_
    refine gg_iload_n ok dX4_findFreeRegister_11 rfl rfl ?_
    refine gg_aald ok dX4_findFreeRegister_12 rfl rfl (by decide) (gg_ixn (q := 1) (by decide)) ?_
    refine gg_getz ok dX4_findFreeRegister_13 fX4_191 rfl (by decide) rfl rfl ?_
    refine gg_if_ne (tgt := 26) ok dX4_findFreeRegister_16 rfl ⟨fun hb => ?_, fun hb => ?_⟩
    ·
      refine gg_iinc (v := 2) (lo' := [(1, gg_i 2), (0, gg_r 0 0)]) ok dX4_findFreeRegister_26 rfl rfl (by decide) rfl ?_
      refine gg_goto (tgt := 2) ok dX4_findFreeRegister_29 rfl ?_
      refine gg_iload_n ok dX4_findFreeRegister_2 rfl rfl ?_
      refine gg_iconst (v := 3) ok dX4_findFreeRegister_3 rfl ?_
      refine gg_icmp_ge (tgt := 32) ok dX4_findFreeRegister_4 rfl ⟨fun z => absurd z (by decide), fun _ => ?_⟩
      refine gg_aload_n ok dX4_findFreeRegister_7 rfl rfl ?_
      refine gg_getr ok dX4_findFreeRegister_8 fX4_21 rfl (by decide) rfl ?_
      refine gg_iload_n ok dX4_findFreeRegister_11 rfl rfl ?_
      refine gg_aald ok dX4_findFreeRegister_12 rfl rfl (by decide) (gg_ixn (q := 2) (by decide)) ?_
      refine gg_getz ok dX4_findFreeRegister_13 fX4_191 rfl (by decide) rfl rfl ?_
      refine gg_if_ne (tgt := 26) ok dX4_findFreeRegister_16 rfl ⟨fun hc => ?_, fun hc => ?_⟩
      ·
        refine gg_iinc (v := 3) (lo' := [(1, gg_i 3), (0, gg_r 0 0)]) ok dX4_findFreeRegister_26 rfl rfl (by decide) rfl ?_
        refine gg_goto (tgt := 2) ok dX4_findFreeRegister_29 rfl ?_
        refine gg_iload_n ok dX4_findFreeRegister_2 rfl rfl ?_
        refine gg_iconst (v := 3) ok dX4_findFreeRegister_3 rfl ?_
        refine gg_icmp_ge (tgt := 32) ok dX4_findFreeRegister_4 rfl ⟨fun _ => ?_, fun z => absurd (by decide) z⟩
        refine gg_null ok dX4_findFreeRegister_32 ?_
        exact gg_aret ok hr (fun h => h) dX4_findFreeRegister_33 ⟨by simp [mr_free, gg_o, ha, hb, hc], rfl⟩
      ·
        refine gg_aload_n ok dX4_findFreeRegister_19 rfl rfl ?_
        refine gg_getr ok dX4_findFreeRegister_20 fX4_21 rfl (by decide) rfl ?_
        refine gg_iload_n ok dX4_findFreeRegister_23 rfl rfl ?_
        refine gg_aald ok dX4_findFreeRegister_24 rfl rfl (by decide) (gg_ixn (q := 2) (by decide)) ?_
        exact gg_aret ok hr (fun h => h) dX4_findFreeRegister_25 ⟨by simp [mr_free, gg_o, ha, hb, hc], rfl⟩
    ·
      refine gg_aload_n ok dX4_findFreeRegister_19 rfl rfl ?_
      refine gg_getr ok dX4_findFreeRegister_20 fX4_21 rfl (by decide) rfl ?_
      refine gg_iload_n ok dX4_findFreeRegister_23 rfl rfl ?_
      refine gg_aald ok dX4_findFreeRegister_24 rfl rfl (by decide) (gg_ixn (q := 1) (by decide)) ?_
      exact gg_aret ok hr (fun h => h) dX4_findFreeRegister_25 ⟨by simp [mr_free, gg_o, ha, hb], rfl⟩
  ·
    refine gg_aload_n ok dX4_findFreeRegister_19 rfl rfl ?_
    refine gg_getr ok dX4_findFreeRegister_20 fX4_21 rfl (by decide) rfl ?_
    refine gg_iload_n ok dX4_findFreeRegister_23 rfl rfl ?_
    refine gg_aald ok dX4_findFreeRegister_24 rfl rfl (by decide) (gg_ixn (q := 0) (by decide)) ?_
    exact gg_aret ok hr (fun h => h) dX4_findFreeRegister_25 ⟨by simp [mr_free, gg_o, ha], rfl⟩
set_option maxRecDepth 20000 in
theorem kX4_copyToMemorya (l : Launch) (htr : l.stackTraces = false) (x : gg_X) (L i : Nat) (hL : L < 64) (hi : i < 8) : gg_Cd l yX4_copyToMemory cX4_copyToMemory 4 none (gg_rm 0 0 0 0) true [gg_r 0 0, gg_i (nI L), gg_r 10 i] x (.inl none) (mr_cp x 1 0 (L * 4) 10 i 4) := by
  refine gg_of htr (by decide) (Nat.le_of_ble_eq_true rfl) ?_
  intro p e s m args below meth c D cT ad ok okx okt hr hin
  refine gg_wk ?_
  refine gg_iconst (v := 0) ok dX4_copyToMemory_0 rfl ?_
  refine gg_istore_n (lo' := [(3, gg_i 0), (0, gg_r 0 0), (1, gg_i (nI L)), (2, gg_r 10 i)]) ok dX4_copyToMemory_1 rfl (by decide) rfl ?_
  refine gg_iload_n ok dX4_copyToMemory_2 rfl rfl ?_
  refine gg_iconst (v := 4) ok dX4_copyToMemory_3 rfl ?_
  refine gg_icmp_ge (tgt := 26) ok dX4_copyToMemory_4 rfl ⟨fun z => absurd z (by decide), fun _ => ?_⟩
  refine gg_aload_n ok dX4_copyToMemory_7 rfl rfl ?_
  refine gg_getr ok dX4_copyToMemory_8 fX4_9 rfl (by decide) rfl ?_
  refine gg_iload_n ok dX4_copyToMemory_11 rfl rfl ?_
  refine gg_iconst (v := 4) ok dX4_copyToMemory_12 rfl ?_
  refine gg_imul (v := nI (L * 4)) ok dX4_copyToMemory_13 (pk_mul L 4) ?_
  refine gg_iload_n ok dX4_copyToMemory_14 rfl rfl ?_
  refine gg_iadd (v := nI ((L * 4) + 0)) ok dX4_copyToMemory_15 (nI_add (L * 4) 0) ?_
  refine gg_aload_n ok dX4_copyToMemory_16 rfl rfl ?_
  refine gg_iload_n ok dX4_copyToMemory_17 rfl rfl ?_
  refine gg_iald ok dX4_copyToMemory_18 rfl hi (gg_ixn (q := 0) (by decide)) rfl ?_
  refine gg_iast ok dX4_copyToMemory_19 rfl (by decide) (gg_ixn (q := (L * 4) + 0) (by omega)) ?_
  refine gg_iinc (v := 1) (lo' := [(3, gg_i 1), (0, gg_r 0 0), (1, gg_i (nI L)), (2, gg_r 10 i)]) ok dX4_copyToMemory_20 rfl rfl (by decide) rfl ?_
  refine gg_goto (tgt := 2) ok dX4_copyToMemory_23 rfl ?_
  refine gg_iload_n ok dX4_copyToMemory_2 rfl rfl ?_
  refine gg_iconst (v := 4) ok dX4_copyToMemory_3 rfl ?_
  refine gg_icmp_ge (tgt := 26) ok dX4_copyToMemory_4 rfl ⟨fun z => absurd z (by decide), fun _ => ?_⟩
  refine gg_aload_n ok dX4_copyToMemory_7 rfl rfl ?_
  refine gg_getr ok dX4_copyToMemory_8 fX4_9 rfl (by decide) rfl ?_
  refine gg_iload_n ok dX4_copyToMemory_11 rfl rfl ?_
  refine gg_iconst (v := 4) ok dX4_copyToMemory_12 rfl ?_
  refine gg_imul (v := nI (L * 4)) ok dX4_copyToMemory_13 (pk_mul L 4) ?_
  refine gg_iload_n ok dX4_copyToMemory_14 rfl rfl ?_
  refine gg_iadd (v := nI ((L * 4) + 1)) ok dX4_copyToMemory_15 (nI_add (L * 4) 1) ?_
  refine gg_aload_n ok dX4_copyToMemory_16 rfl rfl ?_
  refine gg_iload_n ok dX4_copyToMemory_17 rfl rfl ?_
  refine gg_iald ok dX4_copyToMemory_18 rfl hi (gg_ixn (q := 1) (by decide)) rfl ?_
  refine gg_iast ok dX4_copyToMemory_19 rfl (by decide) (gg_ixn (q := (L * 4) + 1) (by omega)) ?_
  refine gg_iinc (v := 2) (lo' := [(3, gg_i 2), (0, gg_r 0 0), (1, gg_i (nI L)), (2, gg_r 10 i)]) ok dX4_copyToMemory_20 rfl rfl (by decide) rfl ?_
  refine gg_goto (tgt := 2) ok dX4_copyToMemory_23 rfl ?_
  refine gg_iload_n ok dX4_copyToMemory_2 rfl rfl ?_
  refine gg_iconst (v := 4) ok dX4_copyToMemory_3 rfl ?_
  refine gg_icmp_ge (tgt := 26) ok dX4_copyToMemory_4 rfl ⟨fun z => absurd z (by decide), fun _ => ?_⟩
  refine gg_aload_n ok dX4_copyToMemory_7 rfl rfl ?_
  refine gg_getr ok dX4_copyToMemory_8 fX4_9 rfl (by decide) rfl ?_
  refine gg_iload_n ok dX4_copyToMemory_11 rfl rfl ?_
  refine gg_iconst (v := 4) ok dX4_copyToMemory_12 rfl ?_
  refine gg_imul (v := nI (L * 4)) ok dX4_copyToMemory_13 (pk_mul L 4) ?_
  refine gg_iload_n ok dX4_copyToMemory_14 rfl rfl ?_
  refine gg_iadd (v := nI ((L * 4) + 2)) ok dX4_copyToMemory_15 (nI_add (L * 4) 2) ?_
  refine gg_aload_n ok dX4_copyToMemory_16 rfl rfl ?_
  refine gg_iload_n ok dX4_copyToMemory_17 rfl rfl ?_
  refine gg_iald ok dX4_copyToMemory_18 rfl hi (gg_ixn (q := 2) (by decide)) rfl ?_
  refine gg_iast ok dX4_copyToMemory_19 rfl (by decide) (gg_ixn (q := (L * 4) + 2) (by omega)) ?_
  refine gg_iinc (v := 3) (lo' := [(3, gg_i 3), (0, gg_r 0 0), (1, gg_i (nI L)), (2, gg_r 10 i)]) ok dX4_copyToMemory_20 rfl rfl (by decide) rfl ?_
  refine gg_goto (tgt := 2) ok dX4_copyToMemory_23 rfl ?_
  refine gg_iload_n ok dX4_copyToMemory_2 rfl rfl ?_
  refine gg_iconst (v := 4) ok dX4_copyToMemory_3 rfl ?_
  refine gg_icmp_ge (tgt := 26) ok dX4_copyToMemory_4 rfl ⟨fun z => absurd z (by decide), fun _ => ?_⟩
  refine gg_aload_n ok dX4_copyToMemory_7 rfl rfl ?_
  refine gg_getr ok dX4_copyToMemory_8 fX4_9 rfl (by decide) rfl ?_
  refine gg_iload_n ok dX4_copyToMemory_11 rfl rfl ?_
  refine gg_iconst (v := 4) ok dX4_copyToMemory_12 rfl ?_
  refine gg_imul (v := nI (L * 4)) ok dX4_copyToMemory_13 (pk_mul L 4) ?_
  refine gg_iload_n ok dX4_copyToMemory_14 rfl rfl ?_
  refine gg_iadd (v := nI ((L * 4) + 3)) ok dX4_copyToMemory_15 (nI_add (L * 4) 3) ?_
  refine gg_aload_n ok dX4_copyToMemory_16 rfl rfl ?_
  refine gg_iload_n ok dX4_copyToMemory_17 rfl rfl ?_
  refine gg_iald ok dX4_copyToMemory_18 rfl hi (gg_ixn (q := 3) (by decide)) rfl ?_
  refine gg_iast ok dX4_copyToMemory_19 rfl (by decide) (gg_ixn (q := (L * 4) + 3) (by omega)) ?_
  refine gg_iinc (v := 4) (lo' := [(3, gg_i 4), (0, gg_r 0 0), (1, gg_i (nI L)), (2, gg_r 10 i)]) ok dX4_copyToMemory_20 rfl rfl (by decide) rfl ?_
  refine gg_goto (tgt := 2) ok dX4_copyToMemory_23 rfl ?_
  refine gg_iload_n ok dX4_copyToMemory_2 rfl rfl ?_
  refine gg_iconst (v := 4) ok dX4_copyToMemory_3 rfl ?_
  refine gg_icmp_ge (tgt := 26) ok dX4_copyToMemory_4 rfl ⟨fun _ => ?_, fun z => absurd (by decide) z⟩
  exact gg_vret ok hr (fun _ => rfl) dX4_copyToMemory_26 ⟨rfl, rfl⟩
set_option maxRecDepth 20000 in
theorem kX4_copyToMemoryb (l : Launch) (htr : l.stackTraces = false) (x : gg_X) (L q : Nat) (hL : L < 64) (hq : q < 5) : gg_Cd l yX4_copyToMemory cX4_copyToMemory 4 none (gg_rm 0 0 0 0) true [gg_r 0 0, gg_i (nI L), gg_r 16 q] x (.inl none) (mr_cp x 1 0 (L * 4) 16 q 4) := by
  refine gg_of htr (by decide) (Nat.le_of_ble_eq_true rfl) ?_
  intro p e s m args below meth c D cT ad ok okx okt hr hin
  refine gg_wk ?_
  refine gg_iconst (v := 0) ok dX4_copyToMemory_0 rfl ?_
  refine gg_istore_n (lo' := [(3, gg_i 0), (0, gg_r 0 0), (1, gg_i (nI L)), (2, gg_r 16 q)]) ok dX4_copyToMemory_1 rfl (by decide) rfl ?_
  refine gg_iload_n ok dX4_copyToMemory_2 rfl rfl ?_
  refine gg_iconst (v := 4) ok dX4_copyToMemory_3 rfl ?_
  refine gg_icmp_ge (tgt := 26) ok dX4_copyToMemory_4 rfl ⟨fun z => absurd z (by decide), fun _ => ?_⟩
  refine gg_aload_n ok dX4_copyToMemory_7 rfl rfl ?_
  refine gg_getr ok dX4_copyToMemory_8 fX4_9 rfl (by decide) rfl ?_
  refine gg_iload_n ok dX4_copyToMemory_11 rfl rfl ?_
  refine gg_iconst (v := 4) ok dX4_copyToMemory_12 rfl ?_
  refine gg_imul (v := nI (L * 4)) ok dX4_copyToMemory_13 (pk_mul L 4) ?_
  refine gg_iload_n ok dX4_copyToMemory_14 rfl rfl ?_
  refine gg_iadd (v := nI ((L * 4) + 0)) ok dX4_copyToMemory_15 (nI_add (L * 4) 0) ?_
  refine gg_aload_n ok dX4_copyToMemory_16 rfl rfl ?_
  refine gg_iload_n ok dX4_copyToMemory_17 rfl rfl ?_
  refine gg_iald ok dX4_copyToMemory_18 rfl hq (gg_ixn (q := 0) (by decide)) rfl ?_
  refine gg_iast ok dX4_copyToMemory_19 rfl (by decide) (gg_ixn (q := (L * 4) + 0) (by omega)) ?_
  refine gg_iinc (v := 1) (lo' := [(3, gg_i 1), (0, gg_r 0 0), (1, gg_i (nI L)), (2, gg_r 16 q)]) ok dX4_copyToMemory_20 rfl rfl (by decide) rfl ?_
  refine gg_goto (tgt := 2) ok dX4_copyToMemory_23 rfl ?_
  refine gg_iload_n ok dX4_copyToMemory_2 rfl rfl ?_
  refine gg_iconst (v := 4) ok dX4_copyToMemory_3 rfl ?_
  refine gg_icmp_ge (tgt := 26) ok dX4_copyToMemory_4 rfl ⟨fun z => absurd z (by decide), fun _ => ?_⟩
  refine gg_aload_n ok dX4_copyToMemory_7 rfl rfl ?_
  refine gg_getr ok dX4_copyToMemory_8 fX4_9 rfl (by decide) rfl ?_
  refine gg_iload_n ok dX4_copyToMemory_11 rfl rfl ?_
  refine gg_iconst (v := 4) ok dX4_copyToMemory_12 rfl ?_
  refine gg_imul (v := nI (L * 4)) ok dX4_copyToMemory_13 (pk_mul L 4) ?_
  refine gg_iload_n ok dX4_copyToMemory_14 rfl rfl ?_
  refine gg_iadd (v := nI ((L * 4) + 1)) ok dX4_copyToMemory_15 (nI_add (L * 4) 1) ?_
  refine gg_aload_n ok dX4_copyToMemory_16 rfl rfl ?_
  refine gg_iload_n ok dX4_copyToMemory_17 rfl rfl ?_
  refine gg_iald ok dX4_copyToMemory_18 rfl hq (gg_ixn (q := 1) (by decide)) rfl ?_
  refine gg_iast ok dX4_copyToMemory_19 rfl (by decide) (gg_ixn (q := (L * 4) + 1) (by omega)) ?_
  refine gg_iinc (v := 2) (lo' := [(3, gg_i 2), (0, gg_r 0 0), (1, gg_i (nI L)), (2, gg_r 16 q)]) ok dX4_copyToMemory_20 rfl rfl (by decide) rfl ?_
  refine gg_goto (tgt := 2) ok dX4_copyToMemory_23 rfl ?_
  refine gg_iload_n ok dX4_copyToMemory_2 rfl rfl ?_
  refine gg_iconst (v := 4) ok dX4_copyToMemory_3 rfl ?_
  refine gg_icmp_ge (tgt := 26) ok dX4_copyToMemory_4 rfl ⟨fun z => absurd z (by decide), fun _ => ?_⟩
  refine gg_aload_n ok dX4_copyToMemory_7 rfl rfl ?_
  refine gg_getr ok dX4_copyToMemory_8 fX4_9 rfl (by decide) rfl ?_
  refine gg_iload_n ok dX4_copyToMemory_11 rfl rfl ?_
  refine gg_iconst (v := 4) ok dX4_copyToMemory_12 rfl ?_
  refine gg_imul (v := nI (L * 4)) ok dX4_copyToMemory_13 (pk_mul L 4) ?_
  refine gg_iload_n ok dX4_copyToMemory_14 rfl rfl ?_
  refine gg_iadd (v := nI ((L * 4) + 2)) ok dX4_copyToMemory_15 (nI_add (L * 4) 2) ?_
  refine gg_aload_n ok dX4_copyToMemory_16 rfl rfl ?_
  refine gg_iload_n ok dX4_copyToMemory_17 rfl rfl ?_
  refine gg_iald ok dX4_copyToMemory_18 rfl hq (gg_ixn (q := 2) (by decide)) rfl ?_
  refine gg_iast ok dX4_copyToMemory_19 rfl (by decide) (gg_ixn (q := (L * 4) + 2) (by omega)) ?_
  refine gg_iinc (v := 3) (lo' := [(3, gg_i 3), (0, gg_r 0 0), (1, gg_i (nI L)), (2, gg_r 16 q)]) ok dX4_copyToMemory_20 rfl rfl (by decide) rfl ?_
  refine gg_goto (tgt := 2) ok dX4_copyToMemory_23 rfl ?_
  refine gg_iload_n ok dX4_copyToMemory_2 rfl rfl ?_
  refine gg_iconst (v := 4) ok dX4_copyToMemory_3 rfl ?_
  refine gg_icmp_ge (tgt := 26) ok dX4_copyToMemory_4 rfl ⟨fun z => absurd z (by decide), fun _ => ?_⟩
  refine gg_aload_n ok dX4_copyToMemory_7 rfl rfl ?_
  refine gg_getr ok dX4_copyToMemory_8 fX4_9 rfl (by decide) rfl ?_
  refine gg_iload_n ok dX4_copyToMemory_11 rfl rfl ?_
  refine gg_iconst (v := 4) ok dX4_copyToMemory_12 rfl ?_
  refine gg_imul (v := nI (L * 4)) ok dX4_copyToMemory_13 (pk_mul L 4) ?_
  refine gg_iload_n ok dX4_copyToMemory_14 rfl rfl ?_
  refine gg_iadd (v := nI ((L * 4) + 3)) ok dX4_copyToMemory_15 (nI_add (L * 4) 3) ?_
  refine gg_aload_n ok dX4_copyToMemory_16 rfl rfl ?_
  refine gg_iload_n ok dX4_copyToMemory_17 rfl rfl ?_
  refine gg_iald ok dX4_copyToMemory_18 rfl hq (gg_ixn (q := 3) (by decide)) rfl ?_
  refine gg_iast ok dX4_copyToMemory_19 rfl (by decide) (gg_ixn (q := (L * 4) + 3) (by omega)) ?_
  refine gg_iinc (v := 4) (lo' := [(3, gg_i 4), (0, gg_r 0 0), (1, gg_i (nI L)), (2, gg_r 16 q)]) ok dX4_copyToMemory_20 rfl rfl (by decide) rfl ?_
  refine gg_goto (tgt := 2) ok dX4_copyToMemory_23 rfl ?_
  refine gg_iload_n ok dX4_copyToMemory_2 rfl rfl ?_
  refine gg_iconst (v := 4) ok dX4_copyToMemory_3 rfl ?_
  refine gg_icmp_ge (tgt := 26) ok dX4_copyToMemory_4 rfl ⟨fun _ => ?_, fun z => absurd (by decide) z⟩
  exact gg_vret ok hr (fun _ => rfl) dX4_copyToMemory_26 ⟨rfl, rfl⟩
set_option maxRecDepth 20000 in
theorem kX1_addTarget (l : Launch) (htr : l.stackTraces = false) (x : gg_X) (r k : Nat) (t u b : Int32) (hr1 : r < 3) (hk : x.1 11 r 4 = nI k) (hk3 : k < 3) (hb : b = 0 ∨ b = 1) : gg_Cd l yX1_addTarget cX1_addTarget 4 none (gg_rm 0 0 0 0) true [gg_r 11 r, gg_i t, gg_i u, gg_i b] x (.inl none) (mr_add x r k t u b) := by
  refine gg_of htr (by decide) (Nat.le_of_ble_eq_true rfl) ?_
  intro p e s m args below meth c D cT ad ok okx okt hr hin
  refine gg_wk ?_
  refine gg_aload_n ok dX1_addTarget_0 rfl rfl ?_
  refine gg_geti (v := nI k) ok dX1_addTarget_1 fX1_26 rfl hr1 rfl hk ?_
  refine gg_iconst (v := 3) ok dX1_addTarget_4 rfl ?_
  refine gg_icmp_ge (tgt := 48) ok dX1_addTarget_5 rfl ⟨fun z => absurd z (nI_ge (b := 3) hk3 (by decide)), fun _ => ?_⟩
  refine gg_aload_n ok dX1_addTarget_8 rfl rfl ?_
  refine gg_getr ok dX1_addTarget_9 fX1_9 rfl hr1 rfl ?_
  refine gg_aload_n ok dX1_addTarget_12 rfl rfl ?_
  refine gg_geti (v := nI k) ok dX1_addTarget_13 fX1_26 rfl hr1 rfl hk ?_
  refine gg_iload_n ok dX1_addTarget_16 rfl rfl ?_
  refine gg_iast ok dX1_addTarget_17 rfl hr1 (gg_ixn (q := k) (by omega)) ?_
  refine gg_aload_n ok dX1_addTarget_18 rfl rfl ?_
  refine gg_getr ok dX1_addTarget_19 fX1_15 rfl hr1 rfl ?_
  refine gg_aload_n ok dX1_addTarget_22 rfl rfl ?_
  refine gg_geti (v := nI k) ok dX1_addTarget_23 fX1_26 rfl hr1 rfl hk ?_
  refine gg_iload_n ok dX1_addTarget_26 rfl rfl ?_
  refine gg_iast ok dX1_addTarget_27 rfl hr1 (gg_ixn (q := k) (by omega)) ?_
  refine gg_aload_n ok dX1_addTarget_28 rfl rfl ?_
  refine gg_getr ok dX1_addTarget_29 fX1_18 rfl hr1 rfl ?_
  refine gg_aload_n ok dX1_addTarget_32 rfl rfl ?_
  refine gg_geti (v := nI k) ok dX1_addTarget_33 fX1_26 rfl hr1 rfl hk ?_
  refine gg_iload_n ok dX1_addTarget_36 rfl rfl ?_
  refine gg_zast ok dX1_addTarget_37 rfl hr1 (gg_ixn (q := k) (by omega)) hb ?_
  refine gg_aload_n ok dX1_addTarget_38 rfl rfl ?_
  refine gg_dup ok dX1_addTarget_39 rfl ?_
  refine gg_geti (v := nI k) ok dX1_addTarget_40 fX1_26 rfl hr1 rfl hk ?_
  refine gg_iconst (v := 1) ok dX1_addTarget_43 rfl ?_
  refine gg_iadd (v := nI (k + 1)) ok dX1_addTarget_44 (nI_add k 1) ?_
  refine gg_puti ok dX1_addTarget_45 fX1_26 p1_4 rfl hr1 rfl ?_
  exact gg_vret ok hr (fun _ => rfl) dX1_addTarget_48 ⟨rfl, rfl⟩
set_option maxRecDepth 20000 in
theorem kX0_at (l : Launch) (htr : l.stackTraces = false) (x : gg_X) (h k : Nat) (hh : x.1 4 0 1 = nI h) (hh5 : h < 5) (hk : k < 5) : gg_Cd l yX0_at cX0_at 2 (some (.object "MissRegisters$Request")) (gg_rm 0 0 0 0) false [gg_r 4 0, gg_i (nI k)] x (.inl (some (gg_r 15 ((h + k) % 5)))) x := by
  refine gg_of htr (by decide) (Nat.le_of_ble_eq_true rfl) ?_
  intro p e s m args below meth c D cT ad ok okx okt hr hin
  refine gg_aload_n ok dX0_at_0 rfl rfl ?_
  refine gg_getr ok dX0_at_1 fX0_11 rfl (by decide) rfl ?_
  refine gg_aload_n ok dX0_at_4 rfl rfl ?_
  refine gg_geti (v := nI h) ok dX0_at_5 fX0_17 rfl (by decide) rfl hh ?_
  refine gg_iload_n ok dX0_at_8 rfl rfl ?_
  refine gg_iadd (v := nI (h + k)) ok dX0_at_9 (nI_add h k) ?_
  refine gg_iconst (v := 5) ok dX0_at_10 rfl ?_
  refine gg_irem (v := nI ((h + k) % 5)) ok dX0_at_11 (pk_rem (a := (h + k)) (d := 5) (by omega) (by omega) (by omega)) (by decide) ?_
  refine gg_aald ok dX0_at_12 rfl rfl (by decide) (gg_ixn (q := (h + k) % 5) (by omega)) ?_
  exact gg_aret ok hr (fun h => h) dX0_at_13 ⟨rfl, rfl⟩
set_option maxRecDepth 20000 in
theorem kX0_appenda (l : Launch) (htr : l.stackTraces = false) (x : gg_X) (h n : Nat) (L : Int32) (i : Nat) (hi : i < 8) (hh : x.1 4 0 1 = nI h) (hh5 : h < 5) (hn : x.1 4 0 2 = nI n) (hn5 : n < 5) : gg_Cd l yX0_append cX0_append 4 (some (.object "MissRegisters$Request")) (gg_rm 0 0 0 0) true [gg_r 4 0, gg_i L, gg_r 9 i] x (.inl (some (gg_r 15 ((h + n) % 5)))) (mr_app x ((h + n) % 5) n L (some i)) := by
  refine gg_of htr (by decide) (Nat.le_of_ble_eq_true rfl) ?_
  intro p e s m args below meth c D cT ad ok okx okt hr hin
  refine gg_wk ?_
  refine gg_aload_n ok dX0_append_0 rfl rfl ?_
  refine gg_getr ok dX0_append_1 fX0_11 rfl (by decide) rfl ?_
  refine gg_aload_n ok dX0_append_4 rfl rfl ?_
  refine gg_geti (v := nI h) ok dX0_append_5 fX0_17 rfl (by decide) rfl hh ?_
  refine gg_aload_n ok dX0_append_8 rfl rfl ?_
  refine gg_geti (v := nI n) ok dX0_append_9 fX0_21 rfl (by decide) rfl hn ?_
  refine gg_iadd (v := nI (h + n)) ok dX0_append_12 (nI_add h n) ?_
  refine gg_iconst (v := 5) ok dX0_append_13 rfl ?_
  refine gg_irem (v := nI ((h + n) % 5)) ok dX0_append_14 (pk_rem (a := (h + n)) (d := 5) (by omega) (by omega) (by omega)) (by decide) ?_
  refine gg_aald ok dX0_append_15 rfl rfl (by decide) (gg_ixn (q := (h + n) % 5) (by omega)) ?_
  refine gg_astore_n (lo' := [(3, gg_r 15 ((h + n) % 5)), (0, gg_r 4 0), (1, gg_i L), (2, gg_r 9 i)]) ok dX0_append_16 rfl (by decide) rfl ?_
  refine gg_aload_n ok dX0_append_17 rfl rfl ?_
  refine gg_iload_n ok dX0_append_18 rfl rfl ?_
  refine gg_puti ok dX0_append_19 fX0_39 p2_1 rfl (show (h + n) % 5 < 5 by omega) rfl ?_
  refine gg_aload_n ok dX0_append_22 rfl rfl ?_
  refine gg_aload_n ok dX0_append_23 rfl rfl ?_
  refine gg_put15 ok dX0_append_24 fX0_35 p2_2 (show (h + n) % 5 < 5 by omega) ?_
  refine gg_aload_n ok dX0_append_27 rfl rfl ?_
  refine gg_dup ok dX0_append_28 rfl ?_
  refine gg_geti (v := nI n) ok dX0_append_29 fX0_21 rfl (by decide) rfl hn ?_
  refine gg_iconst (v := 1) ok dX0_append_32 rfl ?_
  refine gg_iadd (v := nI (n + 1)) ok dX0_append_33 (nI_add n 1) ?_
  refine gg_puti ok dX0_append_34 fX0_21 p0_2 rfl (by decide) rfl ?_
  refine gg_aload_n ok dX0_append_37 rfl rfl ?_
  refine gg_geti (v := nI (n + 1)) ok dX0_append_38 fX0_21 rfl (by decide) rfl rfl ?_
  refine gg_iconst (v := 1) ok dX0_append_41 rfl ?_
  refine gg_icmp_ne (tgt := 53) ok dX0_append_42 rfl ⟨fun h42 => ?_, fun h42 => ?_⟩
  ·
    have hn0 : ¬ n = 0 := fun z => h42 (by rw [z]; rfl)
    refine gg_aload_n ok dX0_append_53 rfl rfl ?_
    exact gg_aret ok hr (fun _ => rfl) dX0_append_54 ⟨rfl, by unfold mr_app; rw [if_neg hn0] <;> rfl⟩
  ·
    have hn0 : n = 0 := by
      have h9 := (nI_eq (a := n + 1) (b := 1) (by omega) (by decide)).mp h42
      omega
    refine gg_aload_n ok dX0_append_45 rfl rfl ?_
    refine gg_aload_n ok dX0_append_46 rfl rfl ?_
    refine gg_geti ok dX0_append_47 fX0_27 rfl (by decide) rfl rfl ?_
    refine gg_puti ok dX0_append_50 fX0_24 p0_3 rfl (by decide) rfl ?_
    refine gg_aload_n ok dX0_append_53 rfl rfl ?_
    exact gg_aret ok hr (fun _ => rfl) dX0_append_54 ⟨rfl, by unfold mr_app; rw [if_pos hn0] <;> rfl⟩
set_option maxRecDepth 20000 in
theorem kX0_appendn (l : Launch) (htr : l.stackTraces = false) (x : gg_X) (h n : Nat) (L : Int32) (hh : x.1 4 0 1 = nI h) (hh5 : h < 5) (hn : x.1 4 0 2 = nI n) (hn5 : n < 5) : gg_Cd l yX0_append cX0_append 4 (some (.object "MissRegisters$Request")) (gg_rm 0 0 0 0) true [gg_r 4 0, gg_i L, gg_n] x (.inl (some (gg_r 15 ((h + n) % 5)))) (mr_app x ((h + n) % 5) n L (none)) := by
  refine gg_of htr (by decide) (Nat.le_of_ble_eq_true rfl) ?_
  intro p e s m args below meth c D cT ad ok okx okt hr hin
  refine gg_wk ?_
  refine gg_aload_n ok dX0_append_0 rfl rfl ?_
  refine gg_getr ok dX0_append_1 fX0_11 rfl (by decide) rfl ?_
  refine gg_aload_n ok dX0_append_4 rfl rfl ?_
  refine gg_geti (v := nI h) ok dX0_append_5 fX0_17 rfl (by decide) rfl hh ?_
  refine gg_aload_n ok dX0_append_8 rfl rfl ?_
  refine gg_geti (v := nI n) ok dX0_append_9 fX0_21 rfl (by decide) rfl hn ?_
  refine gg_iadd (v := nI (h + n)) ok dX0_append_12 (nI_add h n) ?_
  refine gg_iconst (v := 5) ok dX0_append_13 rfl ?_
  refine gg_irem (v := nI ((h + n) % 5)) ok dX0_append_14 (pk_rem (a := (h + n)) (d := 5) (by omega) (by omega) (by omega)) (by decide) ?_
  refine gg_aald ok dX0_append_15 rfl rfl (by decide) (gg_ixn (q := (h + n) % 5) (by omega)) ?_
  refine gg_astore_n (lo' := [(3, gg_r 15 ((h + n) % 5)), (0, gg_r 4 0), (1, gg_i L), (2, gg_n)]) ok dX0_append_16 rfl (by decide) rfl ?_
  refine gg_aload_n ok dX0_append_17 rfl rfl ?_
  refine gg_iload_n ok dX0_append_18 rfl rfl ?_
  refine gg_puti ok dX0_append_19 fX0_39 p2_1 rfl (show (h + n) % 5 < 5 by omega) rfl ?_
  refine gg_aload_n ok dX0_append_22 rfl rfl ?_
  refine gg_aload_nN ok dX0_append_23 rfl rfl ?_
  refine gg_put15N ok dX0_append_24 fX0_35 p2_2 (show (h + n) % 5 < 5 by omega) ?_
  refine gg_aload_n ok dX0_append_27 rfl rfl ?_
  refine gg_dup ok dX0_append_28 rfl ?_
  refine gg_geti (v := nI n) ok dX0_append_29 fX0_21 rfl (by decide) rfl hn ?_
  refine gg_iconst (v := 1) ok dX0_append_32 rfl ?_
  refine gg_iadd (v := nI (n + 1)) ok dX0_append_33 (nI_add n 1) ?_
  refine gg_puti ok dX0_append_34 fX0_21 p0_2 rfl (by decide) rfl ?_
  refine gg_aload_n ok dX0_append_37 rfl rfl ?_
  refine gg_geti (v := nI (n + 1)) ok dX0_append_38 fX0_21 rfl (by decide) rfl rfl ?_
  refine gg_iconst (v := 1) ok dX0_append_41 rfl ?_
  refine gg_icmp_ne (tgt := 53) ok dX0_append_42 rfl ⟨fun h42 => ?_, fun h42 => ?_⟩
  ·
    have hn0 : ¬ n = 0 := fun z => h42 (by rw [z]; rfl)
    refine gg_aload_n ok dX0_append_53 rfl rfl ?_
    exact gg_aret ok hr (fun _ => rfl) dX0_append_54 ⟨rfl, by unfold mr_app; rw [if_neg hn0] <;> rfl⟩
  ·
    have hn0 : n = 0 := by
      have h9 := (nI_eq (a := n + 1) (b := 1) (by omega) (by decide)).mp h42
      omega
    refine gg_aload_n ok dX0_append_45 rfl rfl ?_
    refine gg_aload_n ok dX0_append_46 rfl rfl ?_
    refine gg_geti ok dX0_append_47 fX0_27 rfl (by decide) rfl rfl ?_
    refine gg_puti ok dX0_append_50 fX0_24 p0_3 rfl (by decide) rfl ?_
    refine gg_aload_n ok dX0_append_53 rfl rfl ?_
    exact gg_aret ok hr (fun _ => rfl) dX0_append_54 ⟨rfl, by unfold mr_app; rw [if_pos hn0] <;> rfl⟩
set_option maxRecDepth 20000 in
theorem kX0_appendWrite (l : Launch) (htr : l.stackTraces = false) (x : gg_X) (h n : Nat) (L : Int32) (i : Nat) (hi : i < 8) (hh : x.1 4 0 1 = nI h) (hh5 : h < 5) (hn : x.1 4 0 2 = nI n) (hn5 : n < 5) : gg_Cd l yX0_appendWrite cX0_appendWrite 5 none (gg_rm 1 0 0 23) true [gg_r 4 0, gg_i L, gg_r 10 i] x (.inl none) (mr_appw x ((h + n) % 5) n L i) := by
  refine gg_of htr (by decide) (Nat.le_of_ble_eq_true rfl) ?_
  intro p e s m args below meth c D cT ad ok okx okt hr hin
  refine gg_wk ?_
  refine gg_aload_n ok dX0_appendWrite_0 rfl rfl ?_
  refine gg_iload_n ok dX0_appendWrite_1 rfl rfl ?_
  refine gg_null ok dX0_appendWrite_2 ?_
  refine gg_callV1 ok dX0_appendWrite_3 gX0_42 (kX0_appendn l htr x h n L hh hh5 hn hn5) (fun _ => rfl) rfl (by decide) rfl rfl (Nat.le_of_ble_eq_true rfl) (Nat.le_of_ble_eq_true rfl) (Nat.le_of_ble_eq_true rfl) (Nat.le_of_ble_eq_true rfl) (Nat.le_of_ble_eq_true rfl) ?_
  refine gg_astore_n (lo' := [(3, gg_r 15 ((h + n) % 5)), (0, gg_r 4 0), (1, gg_i L), (2, gg_r 10 i)]) ok dX0_appendWrite_6 rfl (by decide) rfl ?_
  refine gg_iconst (v := 0) ok dX0_appendWrite_7 rfl ?_
  refine gg_istore (lo' := [(4, gg_i 0), (3, gg_r 15 ((h + n) % 5)), (0, gg_r 4 0), (1, gg_i L), (2, gg_r 10 i)]) ok dX0_appendWrite_8 (by decide) rfl ?_
  refine gg_iload ok dX0_appendWrite_10 rfl ?_
  refine gg_iconst (v := 4) ok dX0_appendWrite_12 rfl ?_
  refine gg_icmp_ge (tgt := 33) ok dX0_appendWrite_13 rfl ⟨fun z => absurd z (by decide), fun _ => ?_⟩
  refine gg_aload_n ok dX0_appendWrite_16 rfl rfl ?_
  refine gg_getr ok dX0_appendWrite_17 fX0_46 rfl (show (h + n) % 5 < 5 by omega) rfl ?_
  refine gg_iload ok dX0_appendWrite_20 rfl ?_
  refine gg_aload_n ok dX0_appendWrite_22 rfl rfl ?_
  refine gg_iload ok dX0_appendWrite_23 rfl ?_
  refine gg_iald ok dX0_appendWrite_25 rfl hi (gg_ixn (q := 0) (by decide)) rfl ?_
  refine gg_iast ok dX0_appendWrite_26 rfl (show (h + n) % 5 < 5 by omega) (gg_ixn (q := 0) (by decide)) ?_
  refine gg_iinc (v := 1) (lo' := [(4, gg_i 1), (3, gg_r 15 ((h + n) % 5)), (0, gg_r 4 0), (1, gg_i L), (2, gg_r 10 i)]) ok dX0_appendWrite_27 rfl rfl (by decide) rfl ?_
  refine gg_goto (tgt := 10) ok dX0_appendWrite_30 rfl ?_
  refine gg_iload ok dX0_appendWrite_10 rfl ?_
  refine gg_iconst (v := 4) ok dX0_appendWrite_12 rfl ?_
  refine gg_icmp_ge (tgt := 33) ok dX0_appendWrite_13 rfl ⟨fun z => absurd z (by decide), fun _ => ?_⟩
  refine gg_aload_n ok dX0_appendWrite_16 rfl rfl ?_
  refine gg_getr ok dX0_appendWrite_17 fX0_46 rfl (show (h + n) % 5 < 5 by omega) rfl ?_
  refine gg_iload ok dX0_appendWrite_20 rfl ?_
  refine gg_aload_n ok dX0_appendWrite_22 rfl rfl ?_
  refine gg_iload ok dX0_appendWrite_23 rfl ?_
  refine gg_iald ok dX0_appendWrite_25 rfl hi (gg_ixn (q := 1) (by decide)) rfl ?_
  refine gg_iast ok dX0_appendWrite_26 rfl (show (h + n) % 5 < 5 by omega) (gg_ixn (q := 1) (by decide)) ?_
  refine gg_iinc (v := 2) (lo' := [(4, gg_i 2), (3, gg_r 15 ((h + n) % 5)), (0, gg_r 4 0), (1, gg_i L), (2, gg_r 10 i)]) ok dX0_appendWrite_27 rfl rfl (by decide) rfl ?_
  refine gg_goto (tgt := 10) ok dX0_appendWrite_30 rfl ?_
  refine gg_iload ok dX0_appendWrite_10 rfl ?_
  refine gg_iconst (v := 4) ok dX0_appendWrite_12 rfl ?_
  refine gg_icmp_ge (tgt := 33) ok dX0_appendWrite_13 rfl ⟨fun z => absurd z (by decide), fun _ => ?_⟩
  refine gg_aload_n ok dX0_appendWrite_16 rfl rfl ?_
  refine gg_getr ok dX0_appendWrite_17 fX0_46 rfl (show (h + n) % 5 < 5 by omega) rfl ?_
  refine gg_iload ok dX0_appendWrite_20 rfl ?_
  refine gg_aload_n ok dX0_appendWrite_22 rfl rfl ?_
  refine gg_iload ok dX0_appendWrite_23 rfl ?_
  refine gg_iald ok dX0_appendWrite_25 rfl hi (gg_ixn (q := 2) (by decide)) rfl ?_
  refine gg_iast ok dX0_appendWrite_26 rfl (show (h + n) % 5 < 5 by omega) (gg_ixn (q := 2) (by decide)) ?_
  refine gg_iinc (v := 3) (lo' := [(4, gg_i 3), (3, gg_r 15 ((h + n) % 5)), (0, gg_r 4 0), (1, gg_i L), (2, gg_r 10 i)]) ok dX0_appendWrite_27 rfl rfl (by decide) rfl ?_
  refine gg_goto (tgt := 10) ok dX0_appendWrite_30 rfl ?_
  refine gg_iload ok dX0_appendWrite_10 rfl ?_
  refine gg_iconst (v := 4) ok dX0_appendWrite_12 rfl ?_
  refine gg_icmp_ge (tgt := 33) ok dX0_appendWrite_13 rfl ⟨fun z => absurd z (by decide), fun _ => ?_⟩
  refine gg_aload_n ok dX0_appendWrite_16 rfl rfl ?_
  refine gg_getr ok dX0_appendWrite_17 fX0_46 rfl (show (h + n) % 5 < 5 by omega) rfl ?_
  refine gg_iload ok dX0_appendWrite_20 rfl ?_
  refine gg_aload_n ok dX0_appendWrite_22 rfl rfl ?_
  refine gg_iload ok dX0_appendWrite_23 rfl ?_
  refine gg_iald ok dX0_appendWrite_25 rfl hi (gg_ixn (q := 3) (by decide)) rfl ?_
  refine gg_iast ok dX0_appendWrite_26 rfl (show (h + n) % 5 < 5 by omega) (gg_ixn (q := 3) (by decide)) ?_
  refine gg_iinc (v := 4) (lo' := [(4, gg_i 4), (3, gg_r 15 ((h + n) % 5)), (0, gg_r 4 0), (1, gg_i L), (2, gg_r 10 i)]) ok dX0_appendWrite_27 rfl rfl (by decide) rfl ?_
  refine gg_goto (tgt := 10) ok dX0_appendWrite_30 rfl ?_
  refine gg_iload ok dX0_appendWrite_10 rfl ?_
  refine gg_iconst (v := 4) ok dX0_appendWrite_12 rfl ?_
  refine gg_icmp_ge (tgt := 33) ok dX0_appendWrite_13 rfl ⟨fun _ => ?_, fun z => absurd (by decide) z⟩
  exact gg_vret ok hr (fun _ => rfl) dX0_appendWrite_33 ⟨rfl, rfl⟩
set_option maxRecDepth 20000 in
theorem kX0_dropFirst (l : Launch) (htr : l.stackTraces = false) (x : gg_X) (h n : Nat) (hh : x.1 4 0 1 = nI h) (hh5 : h < 5) (hn : x.1 4 0 2 = nI n) (hn0 : 0 < n) (hn5 : n < 6) : gg_Cd l yX0_dropFirst cX0_dropFirst 1 none (gg_rm 0 0 0 0) true [gg_r 4 0] x (.inl none) (mr_drop x h n) := by
  refine gg_of htr (by decide) (Nat.le_of_ble_eq_true rfl) ?_
  intro p e s m args below meth c D cT ad ok okx okt hr hin
  refine gg_wk ?_
  refine gg_aload_n ok dX0_dropFirst_0 rfl rfl ?_
  refine gg_aload_n ok dX0_dropFirst_1 rfl rfl ?_
  refine gg_geti (v := nI h) ok dX0_dropFirst_2 fX0_17 rfl (by decide) rfl hh ?_
  refine gg_iconst (v := 1) ok dX0_dropFirst_5 rfl ?_
  refine gg_iadd (v := nI (h + 1)) ok dX0_dropFirst_6 (nI_add h 1) ?_
  refine gg_iconst (v := 5) ok dX0_dropFirst_7 rfl ?_
  refine gg_irem (v := nI ((h + 1) % 5)) ok dX0_dropFirst_8 (pk_rem (a := (h + 1)) (d := 5) (by omega) (by omega) (by omega)) (by decide) ?_
  refine gg_puti ok dX0_dropFirst_9 fX0_17 p0_1 rfl (by decide) rfl ?_
  refine gg_aload_n ok dX0_dropFirst_12 rfl rfl ?_
  refine gg_dup ok dX0_dropFirst_13 rfl ?_
  refine gg_geti (v := nI n) ok dX0_dropFirst_14 fX0_21 rfl (by decide) rfl hn ?_
  refine gg_iconst (v := 1) ok dX0_dropFirst_17 rfl ?_
  refine gg_isub (v := nI (n - 1)) ok dX0_dropFirst_18 (pk_sub (a := n) (b := 1) (by omega)) ?_
  refine gg_puti ok dX0_dropFirst_19 fX0_21 p0_2 rfl (by decide) rfl ?_
  refine gg_aload_n ok dX0_dropFirst_22 rfl rfl ?_
  refine gg_aload_n ok dX0_dropFirst_23 rfl rfl ?_
  refine gg_geti (v := nI (n - 1)) ok dX0_dropFirst_24 fX0_21 rfl (by decide) rfl rfl ?_
  refine gg_if_le (tgt := 37) ok dX0_dropFirst_27 rfl ⟨fun h27 => ?_, fun h27 => ?_⟩
  ·
    have hn1 : n = 1 := by
      have h9 := (nI_leI (a := n - 1) (b := 0) (by omega) (by decide)).mp h27
      omega
    refine gg_iconst (v := 0) ok dX0_dropFirst_37 rfl ?_
    refine gg_puti ok dX0_dropFirst_38 fX0_24 p0_3 rfl (by decide) rfl ?_
    exact gg_vret ok hr (fun _ => rfl) dX0_dropFirst_41 ⟨rfl, by unfold mr_drop; rw [if_pos hn1] <;> rfl⟩
  ·
    have hn1 : ¬ n = 1 := fun z => h27 (by subst z; decide)
    refine gg_aload_n ok dX0_dropFirst_30 rfl rfl ?_
    refine gg_geti ok dX0_dropFirst_31 fX0_27 rfl (by decide) rfl rfl ?_
    refine gg_goto (tgt := 38) ok dX0_dropFirst_34 rfl ?_
    refine gg_puti ok dX0_dropFirst_38 fX0_24 p0_3 rfl (by decide) rfl ?_
    exact gg_vret ok hr (fun _ => rfl) dX0_dropFirst_41 ⟨rfl, by unfold mr_drop; rw [if_neg hn1] <;> rfl⟩
