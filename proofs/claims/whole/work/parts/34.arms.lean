set_option maxRecDepth 100000 in
theorem wL_58 : gg_CSW "MissRegistersLaw" 58 yL_load cL_load 4 (some .int) hhL_load 3 := ⟨(gg_mem 204 (by decide +kernel) (by decide +kernel)), (gg_mem 205 (by decide +kernel) (by decide +kernel)), (gg_mem 206 rfl rfl), (gg_mem 34 (by decide +kernel) (by decide +kernel)), by decide +kernel, by decide +kernel⟩
set_option maxRecDepth 100000 in
theorem gL_63 : gg_CV "MissRegistersLaw" 63 yX5_load cX5_load 3 (some .int) 5 1 := ⟨(gg_mem 541 (by decide +kernel) (by decide +kernel)), (gg_mem 542 (by decide +kernel) (by decide +kernel)), (gg_mem 543 (by decide +kernel) (by decide +kernel)), (gg_mem 544 rfl rfl), (gg_mem 40 (by decide +kernel) (by decide +kernel)), by decide +kernel, by decide +kernel, TX5, 19, rfl⟩
set_option maxRecDepth 100000 in
theorem gL_64 : gg_CV "MissRegistersLaw" 64 yX5_thrown cX5_thrown 1 (some .int) 5 0 := ⟨(gg_mem 537 (by decide +kernel) (by decide +kernel)), (gg_mem 538 (by decide +kernel) (by decide +kernel)), (gg_mem 539 (by decide +kernel) (by decide +kernel)), (gg_mem 540 rfl rfl), (gg_mem 40 (by decide +kernel) (by decide +kernel)), by decide +kernel, by decide +kernel, TX5, 19, rfl⟩
set_option maxRecDepth 100000 in
theorem wL_67 : gg_CSW "MissRegistersLaw" 67 yL_store cL_store 5 (some .int) hhL_store 4 := ⟨(gg_mem 364 (by decide +kernel) (by decide +kernel)), (gg_mem 365 (by decide +kernel) (by decide +kernel)), (gg_mem 366 rfl rfl), (gg_mem 34 (by decide +kernel) (by decide +kernel)), by decide +kernel, by decide +kernel⟩
set_option maxRecDepth 100000 in
theorem gL_70 : gg_CV "MissRegistersLaw" 70 yX5_store cX5_store 4 (some .int) 5 2 := ⟨(gg_mem 601 (by decide +kernel) (by decide +kernel)), (gg_mem 602 (by decide +kernel) (by decide +kernel)), (gg_mem 603 (by decide +kernel) (by decide +kernel)), (gg_mem 604 rfl rfl), (gg_mem 40 (by decide +kernel) (by decide +kernel)), by decide +kernel, by decide +kernel, TX5, 19, rfl⟩
set_option maxRecDepth 100000 in
theorem wL_71 : gg_CSW "MissRegistersLaw" 71 yL_await cL_await 4 (some .int) hhL_await 3 := ⟨(gg_mem 371 (by decide +kernel) (by decide +kernel)), (gg_mem 372 (by decide +kernel) (by decide +kernel)), (gg_mem 373 rfl rfl), (gg_mem 34 (by decide +kernel) (by decide +kernel)), by decide +kernel, by decide +kernel⟩
set_option maxRecDepth 100000 in
theorem gL_73 : gg_CV "MissRegistersLaw" 73 yX5_await cX5_await 4 (some .int) 5 1 := ⟨(gg_mem 617 (by decide +kernel) (by decide +kernel)), (gg_mem 618 (by decide +kernel) (by decide +kernel)), (gg_mem 619 (by decide +kernel) (by decide +kernel)), (gg_mem 620 rfl rfl), (gg_mem 40 (by decide +kernel) (by decide +kernel)), by decide +kernel, by decide +kernel, TX5, 19, rfl⟩
set_option maxRecDepth 100000 in
theorem wL_74 : gg_CSW "MissRegistersLaw" 74 yL_tick cL_tick 4 (some .int) hhL_tick 3 := ⟨(gg_mem 398 (by decide +kernel) (by decide +kernel)), (gg_mem 399 (by decide +kernel) (by decide +kernel)), (gg_mem 400 rfl rfl), (gg_mem 34 (by decide +kernel) (by decide +kernel)), by decide +kernel, by decide +kernel⟩
set_option maxRecDepth 100000 in
theorem gL_76 : gg_CV "MissRegistersLaw" 76 yX5_tick cX5_tick 4 (some .int) 5 1 := ⟨(gg_mem 605 (by decide +kernel) (by decide +kernel)), (gg_mem 606 (by decide +kernel) (by decide +kernel)), (gg_mem 607 (by decide +kernel) (by decide +kernel)), (gg_mem 608 rfl rfl), (gg_mem 40 (by decide +kernel) (by decide +kernel)), by decide +kernel, by decide +kernel, TX5, 19, rfl⟩
set_option maxRecDepth 100000 in
theorem wL_77 : gg_CSW "MissRegistersLaw" 77 yL_done cL_done 4 (some .int) hhL_done 3 := ⟨(gg_mem 406 (by decide +kernel) (by decide +kernel)), (gg_mem 407 (by decide +kernel) (by decide +kernel)), (gg_mem 408 rfl rfl), (gg_mem 34 (by decide +kernel) (by decide +kernel)), by decide +kernel, by decide +kernel⟩
set_option maxRecDepth 100000 in
theorem gL_79 : gg_CV "MissRegistersLaw" 79 yX5_done cX5_done 2 (some .boolean) 5 1 := ⟨(gg_mem 621 (by decide +kernel) (by decide +kernel)), (gg_mem 622 (by decide +kernel) (by decide +kernel)), (gg_mem 623 (by decide +kernel) (by decide +kernel)), (gg_mem 624 rfl rfl), (gg_mem 40 (by decide +kernel) (by decide +kernel)), by decide +kernel, by decide +kernel, TX5, 19, rfl⟩
set_option maxRecDepth 100000 in
theorem wL_80 : gg_CSW "MissRegistersLaw" 80 yL_value cL_value 4 (some .int) hhL_value 3 := ⟨(gg_mem 418 (by decide +kernel) (by decide +kernel)), (gg_mem 419 (by decide +kernel) (by decide +kernel)), (gg_mem 420 rfl rfl), (gg_mem 34 (by decide +kernel) (by decide +kernel)), by decide +kernel, by decide +kernel⟩
set_option maxRecDepth 100000 in
theorem gL_82 : gg_CV "MissRegistersLaw" 82 yX5_value cX5_value 2 (some .int) 5 1 := ⟨(gg_mem 629 (by decide +kernel) (by decide +kernel)), (gg_mem 630 (by decide +kernel) (by decide +kernel)), (gg_mem 631 (by decide +kernel) (by decide +kernel)), (gg_mem 632 rfl rfl), (gg_mem 40 (by decide +kernel) (by decide +kernel)), by decide +kernel, by decide +kernel, TX5, 19, rfl⟩
set_option maxRecDepth 100000 in
theorem wL_83 : gg_CSW "MissRegistersLaw" 83 yL_delay cL_delay 3 (some .int) hhL_delay 2 := ⟨(gg_mem 426 (by decide +kernel) (by decide +kernel)), (gg_mem 427 (by decide +kernel) (by decide +kernel)), (gg_mem 428 rfl rfl), (gg_mem 34 (by decide +kernel) (by decide +kernel)), by decide +kernel, by decide +kernel⟩
set_option maxRecDepth 100000 in
theorem gL_86 : gg_CV "MissRegistersLaw" 86 yX5_delay cX5_delay 2 none 5 1 := ⟨(gg_mem 633 (by decide +kernel) (by decide +kernel)), (gg_mem 634 (by decide +kernel) (by decide +kernel)), (gg_mem 635 (by decide +kernel) (by decide +kernel)), (gg_mem 636 rfl rfl), (gg_mem 40 (by decide +kernel) (by decide +kernel)), by decide +kernel, by decide +kernel, TX5, 19, rfl⟩
set_option maxRecDepth 100000 in
theorem gL_87 : gg_CV "MissRegistersLaw" 87 yX4_ahead cX4_ahead 2 none 4 1 := ⟨(gg_mem 188 (by decide +kernel) (by decide +kernel)), (gg_mem 189 (by decide +kernel) (by decide +kernel)), (gg_mem 190 (by decide +kernel) (by decide +kernel)), (gg_mem 191 rfl rfl), (gg_mem 35 (by decide +kernel) (by decide +kernel)), by decide +kernel, by decide +kernel, TX4, 9, rfl⟩
set_option maxRecDepth 100000 in
theorem gL_91 : gg_CV "MissRegistersLaw" 91 yX5_ahead cX5_ahead 2 none 5 1 := ⟨(gg_mem 637 (by decide +kernel) (by decide +kernel)), (gg_mem 638 (by decide +kernel) (by decide +kernel)), (gg_mem 639 (by decide +kernel) (by decide +kernel)), (gg_mem 640 rfl rfl), (gg_mem 40 (by decide +kernel) (by decide +kernel)), by decide +kernel, by decide +kernel, TX5, 19, rfl⟩
set_option maxRecDepth 100000 in
theorem wL_92 : gg_CSW "MissRegistersLaw" 92 yL_flush cL_flush 3 (some .int) hhL_flush 2 := ⟨(gg_mem 434 (by decide +kernel) (by decide +kernel)), (gg_mem 435 (by decide +kernel) (by decide +kernel)), (gg_mem 436 rfl rfl), (gg_mem 34 (by decide +kernel) (by decide +kernel)), by decide +kernel, by decide +kernel⟩
set_option maxRecDepth 100000 in
theorem gL_95 : gg_CV "MissRegistersLaw" 95 yX5_flush cX5_flush 4 (some .int) 5 0 := ⟨(gg_mem 641 (by decide +kernel) (by decide +kernel)), (gg_mem 642 (by decide +kernel) (by decide +kernel)), (gg_mem 643 (by decide +kernel) (by decide +kernel)), (gg_mem 644 rfl rfl), (gg_mem 40 (by decide +kernel) (by decide +kernel)), by decide +kernel, by decide +kernel, TX5, 19, rfl⟩
set_option maxRecDepth 100000 in
theorem wL_96 : gg_CSW "MissRegistersLaw" 96 yL_memory cL_memory 4 (some .int) hhL_memory 3 := ⟨(gg_mem 442 (by decide +kernel) (by decide +kernel)), (gg_mem 443 (by decide +kernel) (by decide +kernel)), (gg_mem 444 rfl rfl), (gg_mem 34 (by decide +kernel) (by decide +kernel)), by decide +kernel, by decide +kernel⟩
set_option maxRecDepth 100000 in
theorem gL_98 : gg_CV "MissRegistersLaw" 98 yX5_memory cX5_memory 2 (some .int) 5 1 := ⟨(gg_mem 645 (by decide +kernel) (by decide +kernel)), (gg_mem 646 (by decide +kernel) (by decide +kernel)), (gg_mem 647 (by decide +kernel) (by decide +kernel)), (gg_mem 648 rfl rfl), (gg_mem 40 (by decide +kernel) (by decide +kernel)), by decide +kernel, by decide +kernel, TX5, 19, rfl⟩
set_option maxRecDepth 100000 in
theorem wL_99 : gg_CSW "MissRegistersLaw" 99 yL_way cL_way 5 (some .int) hhL_way 4 := ⟨(gg_mem 449 (by decide +kernel) (by decide +kernel)), (gg_mem 450 (by decide +kernel) (by decide +kernel)), (gg_mem 451 rfl rfl), (gg_mem 34 (by decide +kernel) (by decide +kernel)), by decide +kernel, by decide +kernel⟩
set_option maxRecDepth 100000 in
theorem gL_101 : gg_CV "MissRegistersLaw" 101 yX5_way cX5_way 4 (some .int) 5 2 := ⟨(gg_mem 649 (by decide +kernel) (by decide +kernel)), (gg_mem 650 (by decide +kernel) (by decide +kernel)), (gg_mem 651 (by decide +kernel) (by decide +kernel)), (gg_mem 652 rfl rfl), (gg_mem 40 (by decide +kernel) (by decide +kernel)), by decide +kernel, by decide +kernel, TX5, 19, rfl⟩
set_option maxRecDepth 100000 in
theorem wL_102 : gg_CSW "MissRegistersLaw" 102 yL_targets cL_targets 4 (some .int) hhL_targets 3 := ⟨(gg_mem 457 (by decide +kernel) (by decide +kernel)), (gg_mem 458 (by decide +kernel) (by decide +kernel)), (gg_mem 459 rfl rfl), (gg_mem 34 (by decide +kernel) (by decide +kernel)), by decide +kernel, by decide +kernel⟩
set_option maxRecDepth 100000 in
theorem gL_104 : gg_CV "MissRegistersLaw" 104 yX5_targets cX5_targets 3 (some .int) 5 1 := ⟨(gg_mem 653 (by decide +kernel) (by decide +kernel)), (gg_mem 654 (by decide +kernel) (by decide +kernel)), (gg_mem 655 (by decide +kernel) (by decide +kernel)), (gg_mem 656 rfl rfl), (gg_mem 40 (by decide +kernel) (by decide +kernel)), by decide +kernel, by decide +kernel, TX5, 19, rfl⟩
set_option maxRecDepth 100000 in
theorem gL_105 : gg_CV "MissRegistersLaw" 105 yX4_request cX4_request 3 (some .int) 4 1 := ⟨(gg_mem 192 (by decide +kernel) (by decide +kernel)), (gg_mem 193 (by decide +kernel) (by decide +kernel)), (gg_mem 194 (by decide +kernel) (by decide +kernel)), (gg_mem 195 rfl rfl), (gg_mem 35 (by decide +kernel) (by decide +kernel)), by decide +kernel, by decide +kernel, TX4, 9, rfl⟩
set_option maxRecDepth 100000 in
theorem gL_108 : gg_CV "MissRegistersLaw" 108 yX5_request cX5_request 2 (some .int) 5 1 := ⟨(gg_mem 657 (by decide +kernel) (by decide +kernel)), (gg_mem 658 (by decide +kernel) (by decide +kernel)), (gg_mem 659 (by decide +kernel) (by decide +kernel)), (gg_mem 660 rfl rfl), (gg_mem 40 (by decide +kernel) (by decide +kernel)), by decide +kernel, by decide +kernel, TX5, 19, rfl⟩
set_option maxRecDepth 100000 in
theorem gL_109 : gg_CV "MissRegistersLaw" 109 yX4_left cX4_left 1 (some .int) 4 0 := ⟨(gg_mem 200 (by decide +kernel) (by decide +kernel)), (gg_mem 201 (by decide +kernel) (by decide +kernel)), (gg_mem 202 (by decide +kernel) (by decide +kernel)), (gg_mem 203 rfl rfl), (gg_mem 35 (by decide +kernel) (by decide +kernel)), by decide +kernel, by decide +kernel, TX4, 9, rfl⟩
set_option maxRecDepth 100000 in
theorem gL_112 : gg_CV "MissRegistersLaw" 112 yX5_left cX5_left 1 (some .int) 5 0 := ⟨(gg_mem 661 (by decide +kernel) (by decide +kernel)), (gg_mem 662 (by decide +kernel) (by decide +kernel)), (gg_mem 663 (by decide +kernel) (by decide +kernel)), (gg_mem 664 rfl rfl), (gg_mem 40 (by decide +kernel) (by decide +kernel)), by decide +kernel, by decide +kernel, TX5, 19, rfl⟩
set_option maxRecDepth 100000 in
theorem wL_113 : gg_CSW "MissRegistersLaw" 113 yL_count cL_count 4 (some .int) hhL_count 3 := ⟨(gg_mem 465 (by decide +kernel) (by decide +kernel)), (gg_mem 466 (by decide +kernel) (by decide +kernel)), (gg_mem 467 rfl rfl), (gg_mem 34 (by decide +kernel) (by decide +kernel)), by decide +kernel, by decide +kernel⟩
set_option maxRecDepth 100000 in
theorem gL_115 : gg_CV "MissRegistersLaw" 115 yX5_count cX5_count 2 (some .int) 5 1 := ⟨(gg_mem 665 (by decide +kernel) (by decide +kernel)), (gg_mem 666 (by decide +kernel) (by decide +kernel)), (gg_mem 667 (by decide +kernel) (by decide +kernel)), (gg_mem 668 rfl rfl), (gg_mem 40 (by decide +kernel) (by decide +kernel)), by decide +kernel, by decide +kernel, TX5, 19, rfl⟩
theorem gg_cmp0 {a b : Int64} (h : a = b) : lg_cmp a b = 0 := by
  subst h
  simp [lg_cmp]
/-- the script, as the law sees it -/
def gg_scr (ad : Nat → Nat → Nat) (s : State) (L : Nat) (xs : Nat → Int32) : Prop := va_X (ad 31 0) L xs s s.heap ∧ ad 31 0 < s.heap.size ∧ ¬ gg_A true ad s.heap.size (ad 31 0) ∧ L ≤ 1536
section GH
variable {p : Program} {l : Launch} {e : Env} {R : Room} {s : State} {m : MethodId} {args : Array Value} {below : List Frame} {meth : Method} {c : Code} {Q : State → Prop} {cc : ByteArray} {nL : Nat} {own : String} {D : va_G} {cT : Nat → ClassId} {ad : Nat → Nat → Nat} {ce sl : Nat} {x : gg_X} {pc : Nat} {lo : List (Nat × gg_V)} {st : List gg_V} {L : Nat} {xs : Nat → Int32}
theorem gg_sld (ok : gg_Ok p s m args meth c cc nL own D cT ad) {q : Nat} (hd : decode cc pc = .ok (.iaload, 1)) (hsc : gg_scr ad s L xs) (hq : q < L) (k : gg_G p l e R s m args below meth c nL D cT ad Q true ce sl x (pc + 1) lo (gg_i (xs q) :: st)) : gg_G p l e R s m args below meth c nL D cT ad Q true ce sl x pc lo (gg_i (nI q) :: gg_r 31 0 :: st) := by
  intro H locs ls hP hS hl
  have h5 := hsc.2.2.2
  have h6 := k H locs ls hP hS hl
  refine va_sld ok.1 ok.2.1 hsc.1 hsc.2.1 hsc.2.2.1 hS (i := nI q) (vp_in_nI hq (by omega)) hd ?_
  rw [nI_clamp (by omega)]
  exact h6
theorem gg_slen (ok : gg_Ok p s m args meth c cc nL own D cT ad) (hd : decode cc pc = .ok (.arraylength, 1)) (hsc : gg_scr ad s L xs) (k : gg_G p l e R s m args below meth c nL D cT ad Q true ce sl x (pc + 1) lo (gg_i (nI L) :: st)) : gg_G p l e R s m args below meth c nL D cT ad Q true ce sl x pc lo (gg_r 31 0 :: st) := fun H locs ls hP hS hl => va_slen ok.1 ok.2.1 hsc.1 hsc.2.1 hsc.2.2.1 hS hd (k H locs ls hP hS hl)
end GH
set_option maxRecDepth 20000 in
theorem arm_load {p : Program} {l : Launch} {e : Env} {s : State} {m : MethodId} {args : Array Value} {below : List Frame} {meth : Method} {c : Code} {Q : State → Prop} {D : va_G} {cT : Nat → ClassId} {ad : Nat → Nat → Nat} {ce sl : Nat} {L : Nat} {xs : Nat → Int32} (htr : l.stackTraces = false) (i : Nat) (hi : i + 3 ≤ L) (hsc : gg_scr ad s L xs) (ok : gg_Ok p s m args meth c code 7 "MissRegistersLaw" D cT ad) (hce : ce + 1 ≤ 601024) (hsl : sl + 6 ≤ 7293033) (rm : Room) (hrf : rm.frames ≤ 9) (hrl : rm.locals ≤ 350) (hrc : rm.cells ≤ 1) (hrs : rm.slots ≤ 6) (x x1 x2 : gg_X) (k b : Int32) (hW : gg_CdW l yL_load cL_load 4 (some .int) hhL_load rm true [gg_r 0 0, gg_i (xs (i + 1)), gg_r 30 0] x (.inl (some (gg_i k))) x1) (hM : gg_Cd l yX5_load cX5_load 3 (some .int) (gg_rm 4 0 0 93) true [gg_r 17 0, gg_i (xs (i + 1))] x1 (.inl (some (gg_i b))) x2) (hth : x2.1 17 0 0 = k) (hO : k = 0 → x2.2.2 0 = b.toInt64) (kx : gg_G p l e room_1 s m args below meth c 7 D cT ad Q true (ce + 1) (sl + 6) x2 860 [(4, gg_i (nI i)), (3, gg_r 30 0), (2, gg_r 17 0), (1, gg_r 0 0), (0, gg_r 31 0)] []) : gg_G p l e room_1 s m args below meth c 7 D cT ad Q true ce sl x 112 [(4, gg_i (nI i)), (3, gg_r 30 0), (2, gg_r 17 0), (1, gg_r 0 0), (0, gg_r 31 0)] [] := by
  refine gg_aload_n ok dL_law_112 rfl rfl ?_
  refine gg_aload_n ok dL_law_113 rfl rfl ?_
  refine gg_iload ok dL_law_114 rfl ?_
  refine gg_iconst (v := 1) ok dL_law_116 rfl ?_
  refine gg_iadd (v := nI (i + 1)) ok dL_law_117 (nI_add i 1) ?_
  refine gg_sld (q := i + 1) ok dL_law_118 hsc (by omega) ?_
  refine gg_aload_n ok dL_law_119 rfl rfl ?_
  refine gg_callW ok dL_law_120 wL_58 hW (fun _ => rfl) rfl rfl (Nat.le_of_ble_eq_true rfl) (by show rm.frames + 1 ≤ 11; omega) (by show 8 + (4 + 11) + rm.locals ≤ 384; omega) (by show ce + rm.cells ≤ 601024; omega) (by show sl + rm.slots ≤ 7293033; omega) ?_
  refine gg_istore (lo' := [(5, gg_i k), (4, gg_i (nI i)), (3, gg_r 30 0), (2, gg_r 17 0), (1, gg_r 0 0), (0, gg_r 31 0)]) ok dL_law_123 (by decide) rfl ?_
  refine gg_aload_n ok dL_law_125 rfl rfl ?_
  refine gg_aload_n ok dL_law_126 rfl rfl ?_
  refine gg_iload ok dL_law_127 rfl ?_
  refine gg_iconst (v := 1) ok dL_law_129 rfl ?_
  refine gg_iadd (v := nI (i + 1)) ok dL_law_130 (nI_add i 1) ?_
  refine gg_sld (q := i + 1) ok dL_law_131 hsc (by omega) ?_
  refine gg_callV1 ok dL_law_132 gL_63 hM (fun _ => rfl) rfl (by decide) rfl rfl (Nat.le_of_ble_eq_true rfl) (Nat.le_of_ble_eq_true rfl) (Nat.le_of_ble_eq_true rfl) (by show ce + rm.cells ≤ 601024; omega) (by show sl + rm.slots ≤ 7293033; omega) ?_
  refine gg_istore (lo' := [(6, gg_i b), (5, gg_i k), (4, gg_i (nI i)), (3, gg_r 30 0), (2, gg_r 17 0), (1, gg_r 0 0), (0, gg_r 31 0)]) ok dL_law_135 (by decide) rfl ?_
  refine gg_aload_n ok dL_law_137 rfl rfl ?_
  refine gg_callV1 ok dL_law_138 gL_64 (kX5_thrown l htr x2) (fun _ => rfl) rfl (by decide) rfl rfl (Nat.le_of_ble_eq_true rfl) (Nat.le_of_ble_eq_true rfl) (Nat.le_of_ble_eq_true rfl) (by show ce + rm.cells ≤ 601024; omega) (by show sl + rm.slots ≤ 7293033; omega) ?_
  refine gg_iload ok dL_law_141 rfl ?_
  refine gg_icmp_eq (tgt := 148) ok dL_law_143 rfl ⟨fun _ => ?_, fun z => absurd (hth) z⟩
  refine gg_iload ok dL_law_148 rfl ?_
  refine gg_if_ne (tgt := 165) ok dL_law_150 rfl ⟨fun hk => ?_, fun hk => ?_⟩
  ·
    refine gg_goto (tgt := 860) ok dL_law_165 rfl ?_
    refine gg_sub (lo' := [(4, gg_i (nI i)), (3, gg_r 30 0), (2, gg_r 17 0), (1, gg_r 0 0), (0, gg_r 31 0)]) [2, 3, 4, 5, 6] rfl ?_
    refine gg_wid (ce' := ce + 1) (sl' := sl + 6) (by show ce + rm.cells ≤ ce + 1; omega) (by show sl + rm.slots ≤ sl + 6; omega) ?_
    exact kx
  ·
    refine gg_aload_n ok dL_law_153 rfl rfl ?_
    refine gg_iconst (v := 0) ok dL_law_154 rfl ?_
    refine gg_lald ok dL_law_155 ?_
    refine gg_iload ok dL_law_156 rfl ?_
    refine gg_i2l ok dL_law_158 rfl ?_
    refine gg_lcmp ok dL_law_159 ?_
    refine gg_if_eq (tgt := 165) ok dL_law_160 rfl ⟨fun _ => ?_, fun z => absurd (gg_cmp0 (hO hk)) z⟩
    refine gg_goto (tgt := 860) ok dL_law_165 rfl ?_
    refine gg_sub (lo' := [(4, gg_i (nI i)), (3, gg_r 30 0), (2, gg_r 17 0), (1, gg_r 0 0), (0, gg_r 31 0)]) [2, 3, 4, 5, 6] rfl ?_
    refine gg_wid (ce' := ce + 1) (sl' := sl + 6) (by show ce + rm.cells ≤ ce + 1; omega) (by show sl + rm.slots ≤ sl + 6; omega) ?_
    exact kx
set_option maxRecDepth 20000 in
theorem arm_store {p : Program} {l : Launch} {e : Env} {s : State} {m : MethodId} {args : Array Value} {below : List Frame} {meth : Method} {c : Code} {Q : State → Prop} {D : va_G} {cT : Nat → ClassId} {ad : Nat → Nat → Nat} {ce sl : Nat} {L : Nat} {xs : Nat → Int32} (htr : l.stackTraces = false) (i : Nat) (hi : i + 3 ≤ L) (hsc : gg_scr ad s L xs) (ok : gg_Ok p s m args meth c code 7 "MissRegistersLaw" D cT ad) (hce : ce + 1 ≤ 601024) (hsl : sl + 6 ≤ 7293033) (rm : Room) (hrf : rm.frames ≤ 9) (hrl : rm.locals ≤ 350) (hrc : rm.cells ≤ 1) (hrs : rm.slots ≤ 6) (x x1 x2 : gg_X) (k b : Int32) (hW : gg_CdW l yL_store cL_store 5 (some .int) hhL_store rm true [gg_r 0 0, gg_i (xs (i + 1)), gg_i (xs (i + 2)), gg_r 30 0] x (.inl (some (gg_i k))) x1) (hM : gg_Cd l yX5_store cX5_store 4 (some .int) (gg_rm 4 0 0 93) true [gg_r 17 0, gg_i (xs (i + 1)), gg_i (xs (i + 2))] x1 (.inl (some (gg_i b))) x2) (hth : x2.1 17 0 0 = k) (hO : k = 0 → x2.2.2 0 = b.toInt64) (kx : gg_G p l e room_1 s m args below meth c 7 D cT ad Q true (ce + 1) (sl + 6) x2 860 [(4, gg_i (nI i)), (3, gg_r 30 0), (2, gg_r 17 0), (1, gg_r 0 0), (0, gg_r 31 0)] []) : gg_G p l e room_1 s m args below meth c 7 D cT ad Q true ce sl x 168 [(4, gg_i (nI i)), (3, gg_r 30 0), (2, gg_r 17 0), (1, gg_r 0 0), (0, gg_r 31 0)] [] := by
  refine gg_aload_n ok dL_law_168 rfl rfl ?_
  refine gg_aload_n ok dL_law_169 rfl rfl ?_
  refine gg_iload ok dL_law_170 rfl ?_
  refine gg_iconst (v := 1) ok dL_law_172 rfl ?_
  refine gg_iadd (v := nI (i + 1)) ok dL_law_173 (nI_add i 1) ?_
  refine gg_sld (q := i + 1) ok dL_law_174 hsc (by omega) ?_
  refine gg_aload_n ok dL_law_175 rfl rfl ?_
  refine gg_iload ok dL_law_176 rfl ?_
  refine gg_iconst (v := 2) ok dL_law_178 rfl ?_
  refine gg_iadd (v := nI (i + 2)) ok dL_law_179 (nI_add i 2) ?_
  refine gg_sld (q := i + 2) ok dL_law_180 hsc (by omega) ?_
  refine gg_aload_n ok dL_law_181 rfl rfl ?_
  refine gg_callW ok dL_law_182 wL_67 hW (fun _ => rfl) rfl rfl (Nat.le_of_ble_eq_true rfl) (by show rm.frames + 1 ≤ 11; omega) (by show 8 + (5 + 11) + rm.locals ≤ 384; omega) (by show ce + rm.cells ≤ 601024; omega) (by show sl + rm.slots ≤ 7293033; omega) ?_
  refine gg_istore (lo' := [(5, gg_i k), (4, gg_i (nI i)), (3, gg_r 30 0), (2, gg_r 17 0), (1, gg_r 0 0), (0, gg_r 31 0)]) ok dL_law_185 (by decide) rfl ?_
  refine gg_aload_n ok dL_law_187 rfl rfl ?_
  refine gg_aload_n ok dL_law_188 rfl rfl ?_
  refine gg_iload ok dL_law_189 rfl ?_
  refine gg_iconst (v := 1) ok dL_law_191 rfl ?_
  refine gg_iadd (v := nI (i + 1)) ok dL_law_192 (nI_add i 1) ?_
  refine gg_sld (q := i + 1) ok dL_law_193 hsc (by omega) ?_
  refine gg_aload_n ok dL_law_194 rfl rfl ?_
  refine gg_iload ok dL_law_195 rfl ?_
  refine gg_iconst (v := 2) ok dL_law_197 rfl ?_
  refine gg_iadd (v := nI (i + 2)) ok dL_law_198 (nI_add i 2) ?_
  refine gg_sld (q := i + 2) ok dL_law_199 hsc (by omega) ?_
  refine gg_callV1 ok dL_law_200 gL_70 hM (fun _ => rfl) rfl (by decide) rfl rfl (Nat.le_of_ble_eq_true rfl) (Nat.le_of_ble_eq_true rfl) (Nat.le_of_ble_eq_true rfl) (by show ce + rm.cells ≤ 601024; omega) (by show sl + rm.slots ≤ 7293033; omega) ?_
  refine gg_istore (lo' := [(6, gg_i b), (5, gg_i k), (4, gg_i (nI i)), (3, gg_r 30 0), (2, gg_r 17 0), (1, gg_r 0 0), (0, gg_r 31 0)]) ok dL_law_203 (by decide) rfl ?_
  refine gg_aload_n ok dL_law_205 rfl rfl ?_
  refine gg_callV1 ok dL_law_206 gL_64 (kX5_thrown l htr x2) (fun _ => rfl) rfl (by decide) rfl rfl (Nat.le_of_ble_eq_true rfl) (Nat.le_of_ble_eq_true rfl) (Nat.le_of_ble_eq_true rfl) (by show ce + rm.cells ≤ 601024; omega) (by show sl + rm.slots ≤ 7293033; omega) ?_
  refine gg_iload ok dL_law_209 rfl ?_
  refine gg_icmp_eq (tgt := 216) ok dL_law_211 rfl ⟨fun _ => ?_, fun z => absurd (hth) z⟩
  refine gg_iload ok dL_law_216 rfl ?_
  refine gg_if_ne (tgt := 233) ok dL_law_218 rfl ⟨fun hk => ?_, fun hk => ?_⟩
  ·
    refine gg_goto (tgt := 860) ok dL_law_233 rfl ?_
    refine gg_sub (lo' := [(4, gg_i (nI i)), (3, gg_r 30 0), (2, gg_r 17 0), (1, gg_r 0 0), (0, gg_r 31 0)]) [2, 3, 4, 5, 6] rfl ?_
    refine gg_wid (ce' := ce + 1) (sl' := sl + 6) (by show ce + rm.cells ≤ ce + 1; omega) (by show sl + rm.slots ≤ sl + 6; omega) ?_
    exact kx
  ·
    refine gg_aload_n ok dL_law_221 rfl rfl ?_
    refine gg_iconst (v := 0) ok dL_law_222 rfl ?_
    refine gg_lald ok dL_law_223 ?_
    refine gg_iload ok dL_law_224 rfl ?_
    refine gg_i2l ok dL_law_226 rfl ?_
    refine gg_lcmp ok dL_law_227 ?_
    refine gg_if_eq (tgt := 233) ok dL_law_228 rfl ⟨fun _ => ?_, fun z => absurd (gg_cmp0 (hO hk)) z⟩
    refine gg_goto (tgt := 860) ok dL_law_233 rfl ?_
    refine gg_sub (lo' := [(4, gg_i (nI i)), (3, gg_r 30 0), (2, gg_r 17 0), (1, gg_r 0 0), (0, gg_r 31 0)]) [2, 3, 4, 5, 6] rfl ?_
    refine gg_wid (ce' := ce + 1) (sl' := sl + 6) (by show ce + rm.cells ≤ ce + 1; omega) (by show sl + rm.slots ≤ sl + 6; omega) ?_
    exact kx
set_option maxRecDepth 20000 in
theorem arm_await {p : Program} {l : Launch} {e : Env} {s : State} {m : MethodId} {args : Array Value} {below : List Frame} {meth : Method} {c : Code} {Q : State → Prop} {D : va_G} {cT : Nat → ClassId} {ad : Nat → Nat → Nat} {ce sl : Nat} {L : Nat} {xs : Nat → Int32} (htr : l.stackTraces = false) (i : Nat) (hi : i + 3 ≤ L) (hsc : gg_scr ad s L xs) (ok : gg_Ok p s m args meth c code 7 "MissRegistersLaw" D cT ad) (hce : ce + 1 ≤ 601024) (hsl : sl + 6 ≤ 7293033) (rm : Room) (hrf : rm.frames ≤ 9) (hrl : rm.locals ≤ 350) (hrc : rm.cells ≤ 1) (hrs : rm.slots ≤ 6) (x x1 x2 : gg_X) (k b : Int32) (hW : gg_CdW l yL_await cL_await 4 (some .int) hhL_await rm true [gg_r 0 0, gg_i (xs (i + 1)), gg_r 30 0] x (.inl (some (gg_i k))) x1) (hM : gg_Cd l yX5_await cX5_await 4 (some .int) (gg_rm 4 0 0 93) true [gg_r 17 0, gg_i (xs (i + 1))] x1 (.inl (some (gg_i b))) x2) (hth : x2.1 17 0 0 = k) (hO : k = 0 → x2.2.2 0 = b.toInt64) (kx : gg_G p l e room_1 s m args below meth c 7 D cT ad Q true (ce + 1) (sl + 6) x2 860 [(4, gg_i (nI i)), (3, gg_r 30 0), (2, gg_r 17 0), (1, gg_r 0 0), (0, gg_r 31 0)] []) : gg_G p l e room_1 s m args below meth c 7 D cT ad Q true ce sl x 236 [(4, gg_i (nI i)), (3, gg_r 30 0), (2, gg_r 17 0), (1, gg_r 0 0), (0, gg_r 31 0)] [] := by
  refine gg_aload_n ok dL_law_236 rfl rfl ?_
  refine gg_aload_n ok dL_law_237 rfl rfl ?_
  refine gg_iload ok dL_law_238 rfl ?_
  refine gg_iconst (v := 1) ok dL_law_240 rfl ?_
  refine gg_iadd (v := nI (i + 1)) ok dL_law_241 (nI_add i 1) ?_
  refine gg_sld (q := i + 1) ok dL_law_242 hsc (by omega) ?_
  refine gg_aload_n ok dL_law_243 rfl rfl ?_
  refine gg_callW ok dL_law_244 wL_71 hW (fun _ => rfl) rfl rfl (Nat.le_of_ble_eq_true rfl) (by show rm.frames + 1 ≤ 11; omega) (by show 8 + (4 + 11) + rm.locals ≤ 384; omega) (by show ce + rm.cells ≤ 601024; omega) (by show sl + rm.slots ≤ 7293033; omega) ?_
  refine gg_istore (lo' := [(5, gg_i k), (4, gg_i (nI i)), (3, gg_r 30 0), (2, gg_r 17 0), (1, gg_r 0 0), (0, gg_r 31 0)]) ok dL_law_247 (by decide) rfl ?_
  refine gg_aload_n ok dL_law_249 rfl rfl ?_
  refine gg_aload_n ok dL_law_250 rfl rfl ?_
  refine gg_iload ok dL_law_251 rfl ?_
  refine gg_iconst (v := 1) ok dL_law_253 rfl ?_
  refine gg_iadd (v := nI (i + 1)) ok dL_law_254 (nI_add i 1) ?_
  refine gg_sld (q := i + 1) ok dL_law_255 hsc (by omega) ?_
  refine gg_callV1 ok dL_law_256 gL_73 hM (fun _ => rfl) rfl (by decide) rfl rfl (Nat.le_of_ble_eq_true rfl) (Nat.le_of_ble_eq_true rfl) (Nat.le_of_ble_eq_true rfl) (by show ce + rm.cells ≤ 601024; omega) (by show sl + rm.slots ≤ 7293033; omega) ?_
  refine gg_istore (lo' := [(6, gg_i b), (5, gg_i k), (4, gg_i (nI i)), (3, gg_r 30 0), (2, gg_r 17 0), (1, gg_r 0 0), (0, gg_r 31 0)]) ok dL_law_259 (by decide) rfl ?_
  refine gg_aload_n ok dL_law_261 rfl rfl ?_
  refine gg_callV1 ok dL_law_262 gL_64 (kX5_thrown l htr x2) (fun _ => rfl) rfl (by decide) rfl rfl (Nat.le_of_ble_eq_true rfl) (Nat.le_of_ble_eq_true rfl) (Nat.le_of_ble_eq_true rfl) (by show ce + rm.cells ≤ 601024; omega) (by show sl + rm.slots ≤ 7293033; omega) ?_
  refine gg_iload ok dL_law_265 rfl ?_
  refine gg_icmp_eq (tgt := 272) ok dL_law_267 rfl ⟨fun _ => ?_, fun z => absurd (hth) z⟩
  refine gg_iload ok dL_law_272 rfl ?_
  refine gg_if_ne (tgt := 289) ok dL_law_274 rfl ⟨fun hk => ?_, fun hk => ?_⟩
  ·
    refine gg_goto (tgt := 860) ok dL_law_289 rfl ?_
    refine gg_sub (lo' := [(4, gg_i (nI i)), (3, gg_r 30 0), (2, gg_r 17 0), (1, gg_r 0 0), (0, gg_r 31 0)]) [2, 3, 4, 5, 6] rfl ?_
    refine gg_wid (ce' := ce + 1) (sl' := sl + 6) (by show ce + rm.cells ≤ ce + 1; omega) (by show sl + rm.slots ≤ sl + 6; omega) ?_
    exact kx
  ·
    refine gg_aload_n ok dL_law_277 rfl rfl ?_
    refine gg_iconst (v := 0) ok dL_law_278 rfl ?_
    refine gg_lald ok dL_law_279 ?_
    refine gg_iload ok dL_law_280 rfl ?_
    refine gg_i2l ok dL_law_282 rfl ?_
    refine gg_lcmp ok dL_law_283 ?_
    refine gg_if_eq (tgt := 289) ok dL_law_284 rfl ⟨fun _ => ?_, fun z => absurd (gg_cmp0 (hO hk)) z⟩
    refine gg_goto (tgt := 860) ok dL_law_289 rfl ?_
    refine gg_sub (lo' := [(4, gg_i (nI i)), (3, gg_r 30 0), (2, gg_r 17 0), (1, gg_r 0 0), (0, gg_r 31 0)]) [2, 3, 4, 5, 6] rfl ?_
    refine gg_wid (ce' := ce + 1) (sl' := sl + 6) (by show ce + rm.cells ≤ ce + 1; omega) (by show sl + rm.slots ≤ sl + 6; omega) ?_
    exact kx
set_option maxRecDepth 20000 in
theorem arm_tick {p : Program} {l : Launch} {e : Env} {s : State} {m : MethodId} {args : Array Value} {below : List Frame} {meth : Method} {c : Code} {Q : State → Prop} {D : va_G} {cT : Nat → ClassId} {ad : Nat → Nat → Nat} {ce sl : Nat} {L : Nat} {xs : Nat → Int32} (htr : l.stackTraces = false) (i : Nat) (hi : i + 3 ≤ L) (hsc : gg_scr ad s L xs) (ok : gg_Ok p s m args meth c code 7 "MissRegistersLaw" D cT ad) (hce : ce + 1 ≤ 601024) (hsl : sl + 6 ≤ 7293033) (rm : Room) (hrf : rm.frames ≤ 9) (hrl : rm.locals ≤ 350) (hrc : rm.cells ≤ 1) (hrs : rm.slots ≤ 6) (x x1 x2 : gg_X) (k b : Int32) (hW : gg_CdW l yL_tick cL_tick 4 (some .int) hhL_tick rm true [gg_r 0 0, gg_i (xs (i + 1)), gg_r 30 0] x (.inl (some (gg_i k))) x1) (hM : gg_Cd l yX5_tick cX5_tick 4 (some .int) (gg_rm 3 0 0 67) true [gg_r 17 0, gg_i (xs (i + 1))] x1 (.inl (some (gg_i b))) x2) (hth : x2.1 17 0 0 = k) (hO : k = 0 → x2.2.2 0 = b.toInt64) (kx : gg_G p l e room_1 s m args below meth c 7 D cT ad Q true (ce + 1) (sl + 6) x2 860 [(4, gg_i (nI i)), (3, gg_r 30 0), (2, gg_r 17 0), (1, gg_r 0 0), (0, gg_r 31 0)] []) : gg_G p l e room_1 s m args below meth c 7 D cT ad Q true ce sl x 292 [(4, gg_i (nI i)), (3, gg_r 30 0), (2, gg_r 17 0), (1, gg_r 0 0), (0, gg_r 31 0)] [] := by
  refine gg_aload_n ok dL_law_292 rfl rfl ?_
  refine gg_aload_n ok dL_law_293 rfl rfl ?_
  refine gg_iload ok dL_law_294 rfl ?_
  refine gg_iconst (v := 1) ok dL_law_296 rfl ?_
  refine gg_iadd (v := nI (i + 1)) ok dL_law_297 (nI_add i 1) ?_
  refine gg_sld (q := i + 1) ok dL_law_298 hsc (by omega) ?_
  refine gg_aload_n ok dL_law_299 rfl rfl ?_
  refine gg_callW ok dL_law_300 wL_74 hW (fun _ => rfl) rfl rfl (Nat.le_of_ble_eq_true rfl) (by show rm.frames + 1 ≤ 11; omega) (by show 8 + (4 + 11) + rm.locals ≤ 384; omega) (by show ce + rm.cells ≤ 601024; omega) (by show sl + rm.slots ≤ 7293033; omega) ?_
  refine gg_istore (lo' := [(5, gg_i k), (4, gg_i (nI i)), (3, gg_r 30 0), (2, gg_r 17 0), (1, gg_r 0 0), (0, gg_r 31 0)]) ok dL_law_303 (by decide) rfl ?_
  refine gg_aload_n ok dL_law_305 rfl rfl ?_
  refine gg_aload_n ok dL_law_306 rfl rfl ?_
  refine gg_iload ok dL_law_307 rfl ?_
  refine gg_iconst (v := 1) ok dL_law_309 rfl ?_
  refine gg_iadd (v := nI (i + 1)) ok dL_law_310 (nI_add i 1) ?_
  refine gg_sld (q := i + 1) ok dL_law_311 hsc (by omega) ?_
  refine gg_callV1 ok dL_law_312 gL_76 hM (fun _ => rfl) rfl (by decide) rfl rfl (Nat.le_of_ble_eq_true rfl) (Nat.le_of_ble_eq_true rfl) (Nat.le_of_ble_eq_true rfl) (by show ce + rm.cells ≤ 601024; omega) (by show sl + rm.slots ≤ 7293033; omega) ?_
  refine gg_istore (lo' := [(6, gg_i b), (5, gg_i k), (4, gg_i (nI i)), (3, gg_r 30 0), (2, gg_r 17 0), (1, gg_r 0 0), (0, gg_r 31 0)]) ok dL_law_315 (by decide) rfl ?_
  refine gg_aload_n ok dL_law_317 rfl rfl ?_
  refine gg_callV1 ok dL_law_318 gL_64 (kX5_thrown l htr x2) (fun _ => rfl) rfl (by decide) rfl rfl (Nat.le_of_ble_eq_true rfl) (Nat.le_of_ble_eq_true rfl) (Nat.le_of_ble_eq_true rfl) (by show ce + rm.cells ≤ 601024; omega) (by show sl + rm.slots ≤ 7293033; omega) ?_
  refine gg_iload ok dL_law_321 rfl ?_
  refine gg_icmp_eq (tgt := 328) ok dL_law_323 rfl ⟨fun _ => ?_, fun z => absurd (hth) z⟩
  refine gg_iload ok dL_law_328 rfl ?_
  refine gg_if_ne (tgt := 345) ok dL_law_330 rfl ⟨fun hk => ?_, fun hk => ?_⟩
  ·
    refine gg_goto (tgt := 860) ok dL_law_345 rfl ?_
    refine gg_sub (lo' := [(4, gg_i (nI i)), (3, gg_r 30 0), (2, gg_r 17 0), (1, gg_r 0 0), (0, gg_r 31 0)]) [2, 3, 4, 5, 6] rfl ?_
    refine gg_wid (ce' := ce + 1) (sl' := sl + 6) (by show ce + rm.cells ≤ ce + 1; omega) (by show sl + rm.slots ≤ sl + 6; omega) ?_
    exact kx
  ·
    refine gg_aload_n ok dL_law_333 rfl rfl ?_
    refine gg_iconst (v := 0) ok dL_law_334 rfl ?_
    refine gg_lald ok dL_law_335 ?_
    refine gg_iload ok dL_law_336 rfl ?_
    refine gg_i2l ok dL_law_338 rfl ?_
    refine gg_lcmp ok dL_law_339 ?_
    refine gg_if_eq (tgt := 345) ok dL_law_340 rfl ⟨fun _ => ?_, fun z => absurd (gg_cmp0 (hO hk)) z⟩
    refine gg_goto (tgt := 860) ok dL_law_345 rfl ?_
    refine gg_sub (lo' := [(4, gg_i (nI i)), (3, gg_r 30 0), (2, gg_r 17 0), (1, gg_r 0 0), (0, gg_r 31 0)]) [2, 3, 4, 5, 6] rfl ?_
    refine gg_wid (ce' := ce + 1) (sl' := sl + 6) (by show ce + rm.cells ≤ ce + 1; omega) (by show sl + rm.slots ≤ sl + 6; omega) ?_
    exact kx
set_option maxRecDepth 20000 in
theorem arm_done {p : Program} {l : Launch} {e : Env} {s : State} {m : MethodId} {args : Array Value} {below : List Frame} {meth : Method} {c : Code} {Q : State → Prop} {D : va_G} {cT : Nat → ClassId} {ad : Nat → Nat → Nat} {ce sl : Nat} {L : Nat} {xs : Nat → Int32} (htr : l.stackTraces = false) (i : Nat) (hi : i + 3 ≤ L) (hsc : gg_scr ad s L xs) (ok : gg_Ok p s m args meth c code 7 "MissRegistersLaw" D cT ad) (hce : ce + 1 ≤ 601024) (hsl : sl + 6 ≤ 7293033) (rm : Room) (hrf : rm.frames ≤ 9) (hrl : rm.locals ≤ 350) (hrc : rm.cells ≤ 1) (hrs : rm.slots ≤ 6) (x x1 x2 : gg_X) (k b : Int32) (hW : gg_CdW l yL_done cL_done 4 (some .int) hhL_done rm true [gg_r 0 0, gg_i (xs (i + 1)), gg_r 30 0] x (.inl (some (gg_i k))) x1) (hM : gg_Cd l yX5_done cX5_done 2 (some .boolean) (gg_rm 1 0 0 21) true [gg_r 17 0, gg_i (xs (i + 1))] x1 (.inl (some (gg_i b))) x2) (hth : x2.1 17 0 0 = k) (hO : k = 0 → x2.2.2 0 = (if b = 0 then 0 else 1)) (kx : gg_G p l e room_1 s m args below meth c 7 D cT ad Q true (ce + 1) (sl + 6) x2 860 [(4, gg_i (nI i)), (3, gg_r 30 0), (2, gg_r 17 0), (1, gg_r 0 0), (0, gg_r 31 0)] []) : gg_G p l e room_1 s m args below meth c 7 D cT ad Q true ce sl x 348 [(4, gg_i (nI i)), (3, gg_r 30 0), (2, gg_r 17 0), (1, gg_r 0 0), (0, gg_r 31 0)] [] := by
  refine gg_aload_n ok dL_law_348 rfl rfl ?_
  refine gg_aload_n ok dL_law_349 rfl rfl ?_
  refine gg_iload ok dL_law_350 rfl ?_
  refine gg_iconst (v := 1) ok dL_law_352 rfl ?_
  refine gg_iadd (v := nI (i + 1)) ok dL_law_353 (nI_add i 1) ?_
  refine gg_sld (q := i + 1) ok dL_law_354 hsc (by omega) ?_
  refine gg_aload_n ok dL_law_355 rfl rfl ?_
  refine gg_callW ok dL_law_356 wL_77 hW (fun _ => rfl) rfl rfl (Nat.le_of_ble_eq_true rfl) (by show rm.frames + 1 ≤ 11; omega) (by show 8 + (4 + 11) + rm.locals ≤ 384; omega) (by show ce + rm.cells ≤ 601024; omega) (by show sl + rm.slots ≤ 7293033; omega) ?_
  refine gg_istore (lo' := [(5, gg_i k), (4, gg_i (nI i)), (3, gg_r 30 0), (2, gg_r 17 0), (1, gg_r 0 0), (0, gg_r 31 0)]) ok dL_law_359 (by decide) rfl ?_
  refine gg_aload_n ok dL_law_361 rfl rfl ?_
  refine gg_aload_n ok dL_law_362 rfl rfl ?_
  refine gg_iload ok dL_law_363 rfl ?_
  refine gg_iconst (v := 1) ok dL_law_365 rfl ?_
  refine gg_iadd (v := nI (i + 1)) ok dL_law_366 (nI_add i 1) ?_
  refine gg_sld (q := i + 1) ok dL_law_367 hsc (by omega) ?_
  refine gg_callV1 ok dL_law_368 gL_79 hM (fun _ => rfl) rfl (by decide) rfl rfl (Nat.le_of_ble_eq_true rfl) (Nat.le_of_ble_eq_true rfl) (Nat.le_of_ble_eq_true rfl) (by show ce + rm.cells ≤ 601024; omega) (by show sl + rm.slots ≤ 7293033; omega) ?_
  refine gg_istore (lo' := [(6, gg_i b), (5, gg_i k), (4, gg_i (nI i)), (3, gg_r 30 0), (2, gg_r 17 0), (1, gg_r 0 0), (0, gg_r 31 0)]) ok dL_law_371 (by decide) rfl ?_
  refine gg_aload_n ok dL_law_373 rfl rfl ?_
  refine gg_callV1 ok dL_law_374 gL_64 (kX5_thrown l htr x2) (fun _ => rfl) rfl (by decide) rfl rfl (Nat.le_of_ble_eq_true rfl) (Nat.le_of_ble_eq_true rfl) (Nat.le_of_ble_eq_true rfl) (by show ce + rm.cells ≤ 601024; omega) (by show sl + rm.slots ≤ 7293033; omega) ?_
  refine gg_iload ok dL_law_377 rfl ?_
  refine gg_icmp_eq (tgt := 384) ok dL_law_379 rfl ⟨fun _ => ?_, fun z => absurd (hth) z⟩
  refine gg_iload ok dL_law_384 rfl ?_
  refine gg_if_ne (tgt := 408) ok dL_law_386 rfl ⟨fun hk => ?_, fun hk => ?_⟩
  ·
    refine gg_goto (tgt := 860) ok dL_law_408 rfl ?_
    refine gg_sub (lo' := [(4, gg_i (nI i)), (3, gg_r 30 0), (2, gg_r 17 0), (1, gg_r 0 0), (0, gg_r 31 0)]) [2, 3, 4, 5, 6] rfl ?_
    refine gg_wid (ce' := ce + 1) (sl' := sl + 6) (by show ce + rm.cells ≤ ce + 1; omega) (by show sl + rm.slots ≤ sl + 6; omega) ?_
    exact kx
  ·
    refine gg_aload_n ok dL_law_389 rfl rfl ?_
    refine gg_iconst (v := 0) ok dL_law_390 rfl ?_
    refine gg_lald ok dL_law_391 ?_
    refine gg_iload ok dL_law_392 rfl ?_
    refine gg_if_eq (tgt := 401) ok dL_law_394 rfl ⟨fun hb => ?_, fun hb => ?_⟩
    ·
      refine gg_lconst (v := 0) ok dL_law_401 rfl ?_
      refine gg_lcmp ok dL_law_402 ?_
      refine gg_if_eq (tgt := 408) ok dL_law_403 rfl ⟨fun _ => ?_, fun z => absurd (gg_cmp0 (by rw [hO hk, if_pos hb])) z⟩
      refine gg_goto (tgt := 860) ok dL_law_408 rfl ?_
      refine gg_sub (lo' := [(4, gg_i (nI i)), (3, gg_r 30 0), (2, gg_r 17 0), (1, gg_r 0 0), (0, gg_r 31 0)]) [2, 3, 4, 5, 6] rfl ?_
      refine gg_wid (ce' := ce + 1) (sl' := sl + 6) (by show ce + rm.cells ≤ ce + 1; omega) (by show sl + rm.slots ≤ sl + 6; omega) ?_
      exact kx
    ·
      refine gg_lconst (v := 1) ok dL_law_397 rfl ?_
      refine gg_goto (tgt := 402) ok dL_law_398 rfl ?_
      refine gg_lcmp ok dL_law_402 ?_
      refine gg_if_eq (tgt := 408) ok dL_law_403 rfl ⟨fun _ => ?_, fun z => absurd (gg_cmp0 (by rw [hO hk, if_neg hb])) z⟩
      refine gg_goto (tgt := 860) ok dL_law_408 rfl ?_
      refine gg_sub (lo' := [(4, gg_i (nI i)), (3, gg_r 30 0), (2, gg_r 17 0), (1, gg_r 0 0), (0, gg_r 31 0)]) [2, 3, 4, 5, 6] rfl ?_
      refine gg_wid (ce' := ce + 1) (sl' := sl + 6) (by show ce + rm.cells ≤ ce + 1; omega) (by show sl + rm.slots ≤ sl + 6; omega) ?_
      exact kx
set_option maxRecDepth 20000 in
theorem arm_value {p : Program} {l : Launch} {e : Env} {s : State} {m : MethodId} {args : Array Value} {below : List Frame} {meth : Method} {c : Code} {Q : State → Prop} {D : va_G} {cT : Nat → ClassId} {ad : Nat → Nat → Nat} {ce sl : Nat} {L : Nat} {xs : Nat → Int32} (htr : l.stackTraces = false) (i : Nat) (hi : i + 3 ≤ L) (hsc : gg_scr ad s L xs) (ok : gg_Ok p s m args meth c code 7 "MissRegistersLaw" D cT ad) (hce : ce + 1 ≤ 601024) (hsl : sl + 6 ≤ 7293033) (rm : Room) (hrf : rm.frames ≤ 9) (hrl : rm.locals ≤ 350) (hrc : rm.cells ≤ 1) (hrs : rm.slots ≤ 6) (x x1 x2 : gg_X) (k b : Int32) (hW : gg_CdW l yL_value cL_value 4 (some .int) hhL_value rm true [gg_r 0 0, gg_i (xs (i + 1)), gg_r 30 0] x (.inl (some (gg_i k))) x1) (hM : gg_Cd l yX5_value cX5_value 2 (some .int) (gg_rm 1 0 0 21) true [gg_r 17 0, gg_i (xs (i + 1))] x1 (.inl (some (gg_i b))) x2) (hth : x2.1 17 0 0 = k) (hO : k = 0 → x2.2.2 0 = b.toInt64) (kx : gg_G p l e room_1 s m args below meth c 7 D cT ad Q true (ce + 1) (sl + 6) x2 860 [(4, gg_i (nI i)), (3, gg_r 30 0), (2, gg_r 17 0), (1, gg_r 0 0), (0, gg_r 31 0)] []) : gg_G p l e room_1 s m args below meth c 7 D cT ad Q true ce sl x 411 [(4, gg_i (nI i)), (3, gg_r 30 0), (2, gg_r 17 0), (1, gg_r 0 0), (0, gg_r 31 0)] [] := by
  refine gg_aload_n ok dL_law_411 rfl rfl ?_
  refine gg_aload_n ok dL_law_412 rfl rfl ?_
  refine gg_iload ok dL_law_413 rfl ?_
  refine gg_iconst (v := 1) ok dL_law_415 rfl ?_
  refine gg_iadd (v := nI (i + 1)) ok dL_law_416 (nI_add i 1) ?_
  refine gg_sld (q := i + 1) ok dL_law_417 hsc (by omega) ?_
  refine gg_aload_n ok dL_law_418 rfl rfl ?_
  refine gg_callW ok dL_law_419 wL_80 hW (fun _ => rfl) rfl rfl (Nat.le_of_ble_eq_true rfl) (by show rm.frames + 1 ≤ 11; omega) (by show 8 + (4 + 11) + rm.locals ≤ 384; omega) (by show ce + rm.cells ≤ 601024; omega) (by show sl + rm.slots ≤ 7293033; omega) ?_
  refine gg_istore (lo' := [(5, gg_i k), (4, gg_i (nI i)), (3, gg_r 30 0), (2, gg_r 17 0), (1, gg_r 0 0), (0, gg_r 31 0)]) ok dL_law_422 (by decide) rfl ?_
  refine gg_aload_n ok dL_law_424 rfl rfl ?_
  refine gg_aload_n ok dL_law_425 rfl rfl ?_
  refine gg_iload ok dL_law_426 rfl ?_
  refine gg_iconst (v := 1) ok dL_law_428 rfl ?_
  refine gg_iadd (v := nI (i + 1)) ok dL_law_429 (nI_add i 1) ?_
  refine gg_sld (q := i + 1) ok dL_law_430 hsc (by omega) ?_
  refine gg_callV1 ok dL_law_431 gL_82 hM (fun _ => rfl) rfl (by decide) rfl rfl (Nat.le_of_ble_eq_true rfl) (Nat.le_of_ble_eq_true rfl) (Nat.le_of_ble_eq_true rfl) (by show ce + rm.cells ≤ 601024; omega) (by show sl + rm.slots ≤ 7293033; omega) ?_
  refine gg_istore (lo' := [(6, gg_i b), (5, gg_i k), (4, gg_i (nI i)), (3, gg_r 30 0), (2, gg_r 17 0), (1, gg_r 0 0), (0, gg_r 31 0)]) ok dL_law_434 (by decide) rfl ?_
  refine gg_aload_n ok dL_law_436 rfl rfl ?_
  refine gg_callV1 ok dL_law_437 gL_64 (kX5_thrown l htr x2) (fun _ => rfl) rfl (by decide) rfl rfl (Nat.le_of_ble_eq_true rfl) (Nat.le_of_ble_eq_true rfl) (Nat.le_of_ble_eq_true rfl) (by show ce + rm.cells ≤ 601024; omega) (by show sl + rm.slots ≤ 7293033; omega) ?_
  refine gg_iload ok dL_law_440 rfl ?_
  refine gg_icmp_eq (tgt := 447) ok dL_law_442 rfl ⟨fun _ => ?_, fun z => absurd (hth) z⟩
  refine gg_iload ok dL_law_447 rfl ?_
  refine gg_if_ne (tgt := 464) ok dL_law_449 rfl ⟨fun hk => ?_, fun hk => ?_⟩
  ·
    refine gg_goto (tgt := 860) ok dL_law_464 rfl ?_
    refine gg_sub (lo' := [(4, gg_i (nI i)), (3, gg_r 30 0), (2, gg_r 17 0), (1, gg_r 0 0), (0, gg_r 31 0)]) [2, 3, 4, 5, 6] rfl ?_
    refine gg_wid (ce' := ce + 1) (sl' := sl + 6) (by show ce + rm.cells ≤ ce + 1; omega) (by show sl + rm.slots ≤ sl + 6; omega) ?_
    exact kx
  ·
    refine gg_aload_n ok dL_law_452 rfl rfl ?_
    refine gg_iconst (v := 0) ok dL_law_453 rfl ?_
    refine gg_lald ok dL_law_454 ?_
    refine gg_iload ok dL_law_455 rfl ?_
    refine gg_i2l ok dL_law_457 rfl ?_
    refine gg_lcmp ok dL_law_458 ?_
    refine gg_if_eq (tgt := 464) ok dL_law_459 rfl ⟨fun _ => ?_, fun z => absurd (gg_cmp0 (hO hk)) z⟩
    refine gg_goto (tgt := 860) ok dL_law_464 rfl ?_
    refine gg_sub (lo' := [(4, gg_i (nI i)), (3, gg_r 30 0), (2, gg_r 17 0), (1, gg_r 0 0), (0, gg_r 31 0)]) [2, 3, 4, 5, 6] rfl ?_
    refine gg_wid (ce' := ce + 1) (sl' := sl + 6) (by show ce + rm.cells ≤ ce + 1; omega) (by show sl + rm.slots ≤ sl + 6; omega) ?_
    exact kx
set_option maxRecDepth 20000 in
theorem arm_delay {p : Program} {l : Launch} {e : Env} {s : State} {m : MethodId} {args : Array Value} {below : List Frame} {meth : Method} {c : Code} {Q : State → Prop} {D : va_G} {cT : Nat → ClassId} {ad : Nat → Nat → Nat} {ce sl : Nat} {L : Nat} {xs : Nat → Int32} (htr : l.stackTraces = false) (i : Nat) (hi : i + 3 ≤ L) (hsc : gg_scr ad s L xs) (ok : gg_Ok p s m args meth c code 7 "MissRegistersLaw" D cT ad) (hce : ce + 1 ≤ 601024) (hsl : sl + 6 ≤ 7293033) (rm : Room) (hrf : rm.frames ≤ 9) (hrl : rm.locals ≤ 350) (hrc : rm.cells ≤ 1) (hrs : rm.slots ≤ 6) (x x1 x2 : gg_X) (k : Int32) (hW : gg_CdW l yL_delay cL_delay 3 (some .int) hhL_delay rm true [gg_r 0 0, gg_i (xs (i + 1))] x (.inl (some (gg_i k))) x1) (hM : gg_Cd l yX5_delay cX5_delay 2 none (gg_rm 0 0 0 0) true [gg_r 17 0, gg_i (xs (i + 1))] x1 (.inl none) x2) (hth : x2.1 17 0 0 = k)  (kx : gg_G p l e room_1 s m args below meth c 7 D cT ad Q true (ce + 1) (sl + 6) x2 860 [(4, gg_i (nI i)), (3, gg_r 30 0), (2, gg_r 17 0), (1, gg_r 0 0), (0, gg_r 31 0)] []) : gg_G p l e room_1 s m args below meth c 7 D cT ad Q true ce sl x 467 [(4, gg_i (nI i)), (3, gg_r 30 0), (2, gg_r 17 0), (1, gg_r 0 0), (0, gg_r 31 0)] [] := by
  refine gg_aload_n ok dL_law_467 rfl rfl ?_
  refine gg_aload_n ok dL_law_468 rfl rfl ?_
  refine gg_iload ok dL_law_469 rfl ?_
  refine gg_iconst (v := 1) ok dL_law_471 rfl ?_
  refine gg_iadd (v := nI (i + 1)) ok dL_law_472 (nI_add i 1) ?_
  refine gg_sld (q := i + 1) ok dL_law_473 hsc (by omega) ?_
  refine gg_callW ok dL_law_474 wL_83 hW (fun _ => rfl) rfl rfl (Nat.le_of_ble_eq_true rfl) (by show rm.frames + 1 ≤ 11; omega) (by show 8 + (3 + 11) + rm.locals ≤ 384; omega) (by show ce + rm.cells ≤ 601024; omega) (by show sl + rm.slots ≤ 7293033; omega) ?_
  refine gg_istore (lo' := [(5, gg_i k), (4, gg_i (nI i)), (3, gg_r 30 0), (2, gg_r 17 0), (1, gg_r 0 0), (0, gg_r 31 0)]) ok dL_law_477 (by decide) rfl ?_
  refine gg_aload_n ok dL_law_479 rfl rfl ?_
  refine gg_aload_n ok dL_law_480 rfl rfl ?_
  refine gg_iload ok dL_law_481 rfl ?_
  refine gg_iconst (v := 1) ok dL_law_483 rfl ?_
  refine gg_iadd (v := nI (i + 1)) ok dL_law_484 (nI_add i 1) ?_
  refine gg_sld (q := i + 1) ok dL_law_485 hsc (by omega) ?_
  refine gg_callV0 ok dL_law_486 gL_86 hM (fun _ => rfl) rfl (by decide) rfl rfl (Nat.le_of_ble_eq_true rfl) (Nat.le_of_ble_eq_true rfl) (Nat.le_of_ble_eq_true rfl) (by show ce + rm.cells ≤ 601024; omega) (by show sl + rm.slots ≤ 7293033; omega) ?_
  refine gg_aload_n ok dL_law_489 rfl rfl ?_
  refine gg_callV1 ok dL_law_490 gL_64 (kX5_thrown l htr x2) (fun _ => rfl) rfl (by decide) rfl rfl (Nat.le_of_ble_eq_true rfl) (Nat.le_of_ble_eq_true rfl) (Nat.le_of_ble_eq_true rfl) (by show ce + rm.cells ≤ 601024; omega) (by show sl + rm.slots ≤ 7293033; omega) ?_
  refine gg_iload ok dL_law_493 rfl ?_
  refine gg_icmp_eq (tgt := 500) ok dL_law_495 rfl ⟨fun _ => ?_, fun z => absurd (hth) z⟩
  refine gg_goto (tgt := 860) ok dL_law_500 rfl ?_
  refine gg_sub (lo' := [(4, gg_i (nI i)), (3, gg_r 30 0), (2, gg_r 17 0), (1, gg_r 0 0), (0, gg_r 31 0)]) [1, 2, 3, 4, 5] rfl ?_
  refine gg_wid (ce' := ce + 1) (sl' := sl + 6) (by show ce + rm.cells ≤ ce + 1; omega) (by show sl + rm.slots ≤ sl + 6; omega) ?_
  exact kx
set_option maxRecDepth 20000 in
theorem arm_flush {p : Program} {l : Launch} {e : Env} {s : State} {m : MethodId} {args : Array Value} {below : List Frame} {meth : Method} {c : Code} {Q : State → Prop} {D : va_G} {cT : Nat → ClassId} {ad : Nat → Nat → Nat} {ce sl : Nat} {L : Nat} {xs : Nat → Int32} (htr : l.stackTraces = false) (i : Nat) (hi : i + 3 ≤ L) (hsc : gg_scr ad s L xs) (ok : gg_Ok p s m args meth c code 7 "MissRegistersLaw" D cT ad) (hce : ce + 1 ≤ 601024) (hsl : sl + 6 ≤ 7293033) (rm : Room) (hrf : rm.frames ≤ 9) (hrl : rm.locals ≤ 350) (hrc : rm.cells ≤ 1) (hrs : rm.slots ≤ 6) (x x1 x2 : gg_X) (k b : Int32) (hW : gg_CdW l yL_flush cL_flush 3 (some .int) hhL_flush rm true [gg_r 0 0, gg_r 30 0] x (.inl (some (gg_i k))) x1) (hM : gg_Cd l yX5_flush cX5_flush 4 (some .int) (gg_rm 0 0 0 0) true [gg_r 17 0] x1 (.inl (some (gg_i b))) x2) (hth : x2.1 17 0 0 = k) (hO : k = 0 → x2.2.2 0 = b.toInt64) (kx : gg_G p l e room_1 s m args below meth c 7 D cT ad Q true (ce + 1) (sl + 6) x2 860 [(4, gg_i (nI i)), (3, gg_r 30 0), (2, gg_r 17 0), (1, gg_r 0 0), (0, gg_r 31 0)] []) : gg_G p l e room_1 s m args below meth c 7 D cT ad Q true ce sl x 542 [(4, gg_i (nI i)), (3, gg_r 30 0), (2, gg_r 17 0), (1, gg_r 0 0), (0, gg_r 31 0)] [] := by
  refine gg_aload_n ok dL_law_542 rfl rfl ?_
  refine gg_aload_n ok dL_law_543 rfl rfl ?_
  refine gg_callW ok dL_law_544 wL_92 hW (fun _ => rfl) rfl rfl (Nat.le_of_ble_eq_true rfl) (by show rm.frames + 1 ≤ 11; omega) (by show 8 + (3 + 11) + rm.locals ≤ 384; omega) (by show ce + rm.cells ≤ 601024; omega) (by show sl + rm.slots ≤ 7293033; omega) ?_
  refine gg_istore (lo' := [(5, gg_i k), (4, gg_i (nI i)), (3, gg_r 30 0), (2, gg_r 17 0), (1, gg_r 0 0), (0, gg_r 31 0)]) ok dL_law_547 (by decide) rfl ?_
  refine gg_aload_n ok dL_law_549 rfl rfl ?_
  refine gg_callV1 ok dL_law_550 gL_95 hM (fun _ => rfl) rfl (by decide) rfl rfl (Nat.le_of_ble_eq_true rfl) (Nat.le_of_ble_eq_true rfl) (Nat.le_of_ble_eq_true rfl) (by show ce + rm.cells ≤ 601024; omega) (by show sl + rm.slots ≤ 7293033; omega) ?_
  refine gg_istore (lo' := [(6, gg_i b), (5, gg_i k), (4, gg_i (nI i)), (3, gg_r 30 0), (2, gg_r 17 0), (1, gg_r 0 0), (0, gg_r 31 0)]) ok dL_law_553 (by decide) rfl ?_
  refine gg_aload_n ok dL_law_555 rfl rfl ?_
  refine gg_callV1 ok dL_law_556 gL_64 (kX5_thrown l htr x2) (fun _ => rfl) rfl (by decide) rfl rfl (Nat.le_of_ble_eq_true rfl) (Nat.le_of_ble_eq_true rfl) (Nat.le_of_ble_eq_true rfl) (by show ce + rm.cells ≤ 601024; omega) (by show sl + rm.slots ≤ 7293033; omega) ?_
  refine gg_iload ok dL_law_559 rfl ?_
  refine gg_icmp_eq (tgt := 566) ok dL_law_561 rfl ⟨fun _ => ?_, fun z => absurd (hth) z⟩
  refine gg_iload ok dL_law_566 rfl ?_
  refine gg_if_ne (tgt := 583) ok dL_law_568 rfl ⟨fun hk => ?_, fun hk => ?_⟩
  ·
    refine gg_goto (tgt := 860) ok dL_law_583 rfl ?_
    refine gg_sub (lo' := [(4, gg_i (nI i)), (3, gg_r 30 0), (2, gg_r 17 0), (1, gg_r 0 0), (0, gg_r 31 0)]) [2, 3, 4, 5, 6] rfl ?_
    refine gg_wid (ce' := ce + 1) (sl' := sl + 6) (by show ce + rm.cells ≤ ce + 1; omega) (by show sl + rm.slots ≤ sl + 6; omega) ?_
    exact kx
  ·
    refine gg_aload_n ok dL_law_571 rfl rfl ?_
    refine gg_iconst (v := 0) ok dL_law_572 rfl ?_
    refine gg_lald ok dL_law_573 ?_
    refine gg_iload ok dL_law_574 rfl ?_
    refine gg_i2l ok dL_law_576 rfl ?_
    refine gg_lcmp ok dL_law_577 ?_
    refine gg_if_eq (tgt := 583) ok dL_law_578 rfl ⟨fun _ => ?_, fun z => absurd (gg_cmp0 (hO hk)) z⟩
    refine gg_goto (tgt := 860) ok dL_law_583 rfl ?_
    refine gg_sub (lo' := [(4, gg_i (nI i)), (3, gg_r 30 0), (2, gg_r 17 0), (1, gg_r 0 0), (0, gg_r 31 0)]) [2, 3, 4, 5, 6] rfl ?_
    refine gg_wid (ce' := ce + 1) (sl' := sl + 6) (by show ce + rm.cells ≤ ce + 1; omega) (by show sl + rm.slots ≤ sl + 6; omega) ?_
    exact kx
set_option maxRecDepth 20000 in
theorem arm_memory {p : Program} {l : Launch} {e : Env} {s : State} {m : MethodId} {args : Array Value} {below : List Frame} {meth : Method} {c : Code} {Q : State → Prop} {D : va_G} {cT : Nat → ClassId} {ad : Nat → Nat → Nat} {ce sl : Nat} {L : Nat} {xs : Nat → Int32} (htr : l.stackTraces = false) (i : Nat) (hi : i + 3 ≤ L) (hsc : gg_scr ad s L xs) (ok : gg_Ok p s m args meth c code 7 "MissRegistersLaw" D cT ad) (hce : ce + 1 ≤ 601024) (hsl : sl + 6 ≤ 7293033) (rm : Room) (hrf : rm.frames ≤ 9) (hrl : rm.locals ≤ 350) (hrc : rm.cells ≤ 1) (hrs : rm.slots ≤ 6) (x x1 x2 : gg_X) (k b : Int32) (hW : gg_CdW l yL_memory cL_memory 4 (some .int) hhL_memory rm true [gg_r 0 0, gg_i (xs (i + 1)), gg_r 30 0] x (.inl (some (gg_i k))) x1) (hM : gg_Cd l yX5_memory cX5_memory 2 (some .int) (gg_rm 1 0 0 21) true [gg_r 17 0, gg_i (xs (i + 1))] x1 (.inl (some (gg_i b))) x2) (hth : x2.1 17 0 0 = k) (hO : k = 0 → x2.2.2 0 = b.toInt64) (kx : gg_G p l e room_1 s m args below meth c 7 D cT ad Q true (ce + 1) (sl + 6) x2 860 [(4, gg_i (nI i)), (3, gg_r 30 0), (2, gg_r 17 0), (1, gg_r 0 0), (0, gg_r 31 0)] []) : gg_G p l e room_1 s m args below meth c 7 D cT ad Q true ce sl x 586 [(4, gg_i (nI i)), (3, gg_r 30 0), (2, gg_r 17 0), (1, gg_r 0 0), (0, gg_r 31 0)] [] := by
  refine gg_aload_n ok dL_law_586 rfl rfl ?_
  refine gg_aload_n ok dL_law_587 rfl rfl ?_
  refine gg_iload ok dL_law_588 rfl ?_
  refine gg_iconst (v := 1) ok dL_law_590 rfl ?_
  refine gg_iadd (v := nI (i + 1)) ok dL_law_591 (nI_add i 1) ?_
  refine gg_sld (q := i + 1) ok dL_law_592 hsc (by omega) ?_
  refine gg_aload_n ok dL_law_593 rfl rfl ?_
  refine gg_callW ok dL_law_594 wL_96 hW (fun _ => rfl) rfl rfl (Nat.le_of_ble_eq_true rfl) (by show rm.frames + 1 ≤ 11; omega) (by show 8 + (4 + 11) + rm.locals ≤ 384; omega) (by show ce + rm.cells ≤ 601024; omega) (by show sl + rm.slots ≤ 7293033; omega) ?_
  refine gg_istore (lo' := [(5, gg_i k), (4, gg_i (nI i)), (3, gg_r 30 0), (2, gg_r 17 0), (1, gg_r 0 0), (0, gg_r 31 0)]) ok dL_law_597 (by decide) rfl ?_
  refine gg_aload_n ok dL_law_599 rfl rfl ?_
  refine gg_aload_n ok dL_law_600 rfl rfl ?_
  refine gg_iload ok dL_law_601 rfl ?_
  refine gg_iconst (v := 1) ok dL_law_603 rfl ?_
  refine gg_iadd (v := nI (i + 1)) ok dL_law_604 (nI_add i 1) ?_
  refine gg_sld (q := i + 1) ok dL_law_605 hsc (by omega) ?_
  refine gg_callV1 ok dL_law_606 gL_98 hM (fun _ => rfl) rfl (by decide) rfl rfl (Nat.le_of_ble_eq_true rfl) (Nat.le_of_ble_eq_true rfl) (Nat.le_of_ble_eq_true rfl) (by show ce + rm.cells ≤ 601024; omega) (by show sl + rm.slots ≤ 7293033; omega) ?_
  refine gg_istore (lo' := [(6, gg_i b), (5, gg_i k), (4, gg_i (nI i)), (3, gg_r 30 0), (2, gg_r 17 0), (1, gg_r 0 0), (0, gg_r 31 0)]) ok dL_law_609 (by decide) rfl ?_
  refine gg_aload_n ok dL_law_611 rfl rfl ?_
  refine gg_callV1 ok dL_law_612 gL_64 (kX5_thrown l htr x2) (fun _ => rfl) rfl (by decide) rfl rfl (Nat.le_of_ble_eq_true rfl) (Nat.le_of_ble_eq_true rfl) (Nat.le_of_ble_eq_true rfl) (by show ce + rm.cells ≤ 601024; omega) (by show sl + rm.slots ≤ 7293033; omega) ?_
  refine gg_iload ok dL_law_615 rfl ?_
  refine gg_icmp_eq (tgt := 622) ok dL_law_617 rfl ⟨fun _ => ?_, fun z => absurd (hth) z⟩
  refine gg_iload ok dL_law_622 rfl ?_
  refine gg_if_ne (tgt := 639) ok dL_law_624 rfl ⟨fun hk => ?_, fun hk => ?_⟩
  ·
    refine gg_goto (tgt := 860) ok dL_law_639 rfl ?_
    refine gg_sub (lo' := [(4, gg_i (nI i)), (3, gg_r 30 0), (2, gg_r 17 0), (1, gg_r 0 0), (0, gg_r 31 0)]) [2, 3, 4, 5, 6] rfl ?_
    refine gg_wid (ce' := ce + 1) (sl' := sl + 6) (by show ce + rm.cells ≤ ce + 1; omega) (by show sl + rm.slots ≤ sl + 6; omega) ?_
    exact kx
  ·
    refine gg_aload_n ok dL_law_627 rfl rfl ?_
    refine gg_iconst (v := 0) ok dL_law_628 rfl ?_
    refine gg_lald ok dL_law_629 ?_
    refine gg_iload ok dL_law_630 rfl ?_
    refine gg_i2l ok dL_law_632 rfl ?_
    refine gg_lcmp ok dL_law_633 ?_
    refine gg_if_eq (tgt := 639) ok dL_law_634 rfl ⟨fun _ => ?_, fun z => absurd (gg_cmp0 (hO hk)) z⟩
    refine gg_goto (tgt := 860) ok dL_law_639 rfl ?_
    refine gg_sub (lo' := [(4, gg_i (nI i)), (3, gg_r 30 0), (2, gg_r 17 0), (1, gg_r 0 0), (0, gg_r 31 0)]) [2, 3, 4, 5, 6] rfl ?_
    refine gg_wid (ce' := ce + 1) (sl' := sl + 6) (by show ce + rm.cells ≤ ce + 1; omega) (by show sl + rm.slots ≤ sl + 6; omega) ?_
    exact kx
set_option maxRecDepth 20000 in
theorem arm_way {p : Program} {l : Launch} {e : Env} {s : State} {m : MethodId} {args : Array Value} {below : List Frame} {meth : Method} {c : Code} {Q : State → Prop} {D : va_G} {cT : Nat → ClassId} {ad : Nat → Nat → Nat} {ce sl : Nat} {L : Nat} {xs : Nat → Int32} (htr : l.stackTraces = false) (i : Nat) (hi : i + 3 ≤ L) (hsc : gg_scr ad s L xs) (ok : gg_Ok p s m args meth c code 7 "MissRegistersLaw" D cT ad) (hce : ce + 1 ≤ 601024) (hsl : sl + 6 ≤ 7293033) (rm : Room) (hrf : rm.frames ≤ 9) (hrl : rm.locals ≤ 350) (hrc : rm.cells ≤ 1) (hrs : rm.slots ≤ 6) (x x1 x2 : gg_X) (k b : Int32) (hW : gg_CdW l yL_way cL_way 5 (some .int) hhL_way rm true [gg_r 0 0, gg_i (xs (i + 1)), gg_i (xs (i + 2)), gg_r 30 0] x (.inl (some (gg_i k))) x1) (hM : gg_Cd l yX5_way cX5_way 4 (some .int) (gg_rm 0 0 0 0) true [gg_r 17 0, gg_i (xs (i + 1)), gg_i (xs (i + 2))] x1 (.inl (some (gg_i b))) x2) (hth : x2.1 17 0 0 = k) (hO : k = 0 → x2.2.2 0 = b.toInt64) (kx : gg_G p l e room_1 s m args below meth c 7 D cT ad Q true (ce + 1) (sl + 6) x2 860 [(4, gg_i (nI i)), (3, gg_r 30 0), (2, gg_r 17 0), (1, gg_r 0 0), (0, gg_r 31 0)] []) : gg_G p l e room_1 s m args below meth c 7 D cT ad Q true ce sl x 642 [(4, gg_i (nI i)), (3, gg_r 30 0), (2, gg_r 17 0), (1, gg_r 0 0), (0, gg_r 31 0)] [] := by
  refine gg_aload_n ok dL_law_642 rfl rfl ?_
  refine gg_aload_n ok dL_law_643 rfl rfl ?_
  refine gg_iload ok dL_law_644 rfl ?_
  refine gg_iconst (v := 1) ok dL_law_646 rfl ?_
  refine gg_iadd (v := nI (i + 1)) ok dL_law_647 (nI_add i 1) ?_
  refine gg_sld (q := i + 1) ok dL_law_648 hsc (by omega) ?_
  refine gg_aload_n ok dL_law_649 rfl rfl ?_
  refine gg_iload ok dL_law_650 rfl ?_
  refine gg_iconst (v := 2) ok dL_law_652 rfl ?_
  refine gg_iadd (v := nI (i + 2)) ok dL_law_653 (nI_add i 2) ?_
  refine gg_sld (q := i + 2) ok dL_law_654 hsc (by omega) ?_
  refine gg_aload_n ok dL_law_655 rfl rfl ?_
  refine gg_callW ok dL_law_656 wL_99 hW (fun _ => rfl) rfl rfl (Nat.le_of_ble_eq_true rfl) (by show rm.frames + 1 ≤ 11; omega) (by show 8 + (5 + 11) + rm.locals ≤ 384; omega) (by show ce + rm.cells ≤ 601024; omega) (by show sl + rm.slots ≤ 7293033; omega) ?_
  refine gg_istore (lo' := [(5, gg_i k), (4, gg_i (nI i)), (3, gg_r 30 0), (2, gg_r 17 0), (1, gg_r 0 0), (0, gg_r 31 0)]) ok dL_law_659 (by decide) rfl ?_
  refine gg_aload_n ok dL_law_661 rfl rfl ?_
  refine gg_aload_n ok dL_law_662 rfl rfl ?_
  refine gg_iload ok dL_law_663 rfl ?_
  refine gg_iconst (v := 1) ok dL_law_665 rfl ?_
  refine gg_iadd (v := nI (i + 1)) ok dL_law_666 (nI_add i 1) ?_
  refine gg_sld (q := i + 1) ok dL_law_667 hsc (by omega) ?_
  refine gg_aload_n ok dL_law_668 rfl rfl ?_
  refine gg_iload ok dL_law_669 rfl ?_
  refine gg_iconst (v := 2) ok dL_law_671 rfl ?_
  refine gg_iadd (v := nI (i + 2)) ok dL_law_672 (nI_add i 2) ?_
  refine gg_sld (q := i + 2) ok dL_law_673 hsc (by omega) ?_
  refine gg_callV1 ok dL_law_674 gL_101 hM (fun _ => rfl) rfl (by decide) rfl rfl (Nat.le_of_ble_eq_true rfl) (Nat.le_of_ble_eq_true rfl) (Nat.le_of_ble_eq_true rfl) (by show ce + rm.cells ≤ 601024; omega) (by show sl + rm.slots ≤ 7293033; omega) ?_
  refine gg_istore (lo' := [(6, gg_i b), (5, gg_i k), (4, gg_i (nI i)), (3, gg_r 30 0), (2, gg_r 17 0), (1, gg_r 0 0), (0, gg_r 31 0)]) ok dL_law_677 (by decide) rfl ?_
  refine gg_aload_n ok dL_law_679 rfl rfl ?_
  refine gg_callV1 ok dL_law_680 gL_64 (kX5_thrown l htr x2) (fun _ => rfl) rfl (by decide) rfl rfl (Nat.le_of_ble_eq_true rfl) (Nat.le_of_ble_eq_true rfl) (Nat.le_of_ble_eq_true rfl) (by show ce + rm.cells ≤ 601024; omega) (by show sl + rm.slots ≤ 7293033; omega) ?_
  refine gg_iload ok dL_law_683 rfl ?_
  refine gg_icmp_eq (tgt := 690) ok dL_law_685 rfl ⟨fun _ => ?_, fun z => absurd (hth) z⟩
  refine gg_iload ok dL_law_690 rfl ?_
  refine gg_if_ne (tgt := 707) ok dL_law_692 rfl ⟨fun hk => ?_, fun hk => ?_⟩
  ·
    refine gg_goto (tgt := 860) ok dL_law_707 rfl ?_
    refine gg_sub (lo' := [(4, gg_i (nI i)), (3, gg_r 30 0), (2, gg_r 17 0), (1, gg_r 0 0), (0, gg_r 31 0)]) [2, 3, 4, 5, 6] rfl ?_
    refine gg_wid (ce' := ce + 1) (sl' := sl + 6) (by show ce + rm.cells ≤ ce + 1; omega) (by show sl + rm.slots ≤ sl + 6; omega) ?_
    exact kx
  ·
    refine gg_aload_n ok dL_law_695 rfl rfl ?_
    refine gg_iconst (v := 0) ok dL_law_696 rfl ?_
    refine gg_lald ok dL_law_697 ?_
    refine gg_iload ok dL_law_698 rfl ?_
    refine gg_i2l ok dL_law_700 rfl ?_
    refine gg_lcmp ok dL_law_701 ?_
    refine gg_if_eq (tgt := 707) ok dL_law_702 rfl ⟨fun _ => ?_, fun z => absurd (gg_cmp0 (hO hk)) z⟩
    refine gg_goto (tgt := 860) ok dL_law_707 rfl ?_
    refine gg_sub (lo' := [(4, gg_i (nI i)), (3, gg_r 30 0), (2, gg_r 17 0), (1, gg_r 0 0), (0, gg_r 31 0)]) [2, 3, 4, 5, 6] rfl ?_
    refine gg_wid (ce' := ce + 1) (sl' := sl + 6) (by show ce + rm.cells ≤ ce + 1; omega) (by show sl + rm.slots ≤ sl + 6; omega) ?_
    exact kx
set_option maxRecDepth 20000 in
theorem arm_targets {p : Program} {l : Launch} {e : Env} {s : State} {m : MethodId} {args : Array Value} {below : List Frame} {meth : Method} {c : Code} {Q : State → Prop} {D : va_G} {cT : Nat → ClassId} {ad : Nat → Nat → Nat} {ce sl : Nat} {L : Nat} {xs : Nat → Int32} (htr : l.stackTraces = false) (i : Nat) (hi : i + 3 ≤ L) (hsc : gg_scr ad s L xs) (ok : gg_Ok p s m args meth c code 7 "MissRegistersLaw" D cT ad) (hce : ce + 1 ≤ 601024) (hsl : sl + 6 ≤ 7293033) (rm : Room) (hrf : rm.frames ≤ 9) (hrl : rm.locals ≤ 350) (hrc : rm.cells ≤ 1) (hrs : rm.slots ≤ 6) (x x1 x2 : gg_X) (k b : Int32) (hW : gg_CdW l yL_targets cL_targets 4 (some .int) hhL_targets rm true [gg_r 0 0, gg_i (xs (i + 1)), gg_r 30 0] x (.inl (some (gg_i k))) x1) (hM : gg_Cd l yX5_targets cX5_targets 3 (some .int) (gg_rm 1 0 0 23) true [gg_r 17 0, gg_i (xs (i + 1))] x1 (.inl (some (gg_i b))) x2) (hth : x2.1 17 0 0 = k) (hO : k = 0 → x2.2.2 0 = b.toInt64) (kx : gg_G p l e room_1 s m args below meth c 7 D cT ad Q true (ce + 1) (sl + 6) x2 860 [(4, gg_i (nI i)), (3, gg_r 30 0), (2, gg_r 17 0), (1, gg_r 0 0), (0, gg_r 31 0)] []) : gg_G p l e room_1 s m args below meth c 7 D cT ad Q true ce sl x 710 [(4, gg_i (nI i)), (3, gg_r 30 0), (2, gg_r 17 0), (1, gg_r 0 0), (0, gg_r 31 0)] [] := by
  refine gg_aload_n ok dL_law_710 rfl rfl ?_
  refine gg_aload_n ok dL_law_711 rfl rfl ?_
  refine gg_iload ok dL_law_712 rfl ?_
  refine gg_iconst (v := 1) ok dL_law_714 rfl ?_
  refine gg_iadd (v := nI (i + 1)) ok dL_law_715 (nI_add i 1) ?_
  refine gg_sld (q := i + 1) ok dL_law_716 hsc (by omega) ?_
  refine gg_aload_n ok dL_law_717 rfl rfl ?_
  refine gg_callW ok dL_law_718 wL_102 hW (fun _ => rfl) rfl rfl (Nat.le_of_ble_eq_true rfl) (by show rm.frames + 1 ≤ 11; omega) (by show 8 + (4 + 11) + rm.locals ≤ 384; omega) (by show ce + rm.cells ≤ 601024; omega) (by show sl + rm.slots ≤ 7293033; omega) ?_
  refine gg_istore (lo' := [(5, gg_i k), (4, gg_i (nI i)), (3, gg_r 30 0), (2, gg_r 17 0), (1, gg_r 0 0), (0, gg_r 31 0)]) ok dL_law_721 (by decide) rfl ?_
  refine gg_aload_n ok dL_law_723 rfl rfl ?_
  refine gg_aload_n ok dL_law_724 rfl rfl ?_
  refine gg_iload ok dL_law_725 rfl ?_
  refine gg_iconst (v := 1) ok dL_law_727 rfl ?_
  refine gg_iadd (v := nI (i + 1)) ok dL_law_728 (nI_add i 1) ?_
  refine gg_sld (q := i + 1) ok dL_law_729 hsc (by omega) ?_
  refine gg_callV1 ok dL_law_730 gL_104 hM (fun _ => rfl) rfl (by decide) rfl rfl (Nat.le_of_ble_eq_true rfl) (Nat.le_of_ble_eq_true rfl) (Nat.le_of_ble_eq_true rfl) (by show ce + rm.cells ≤ 601024; omega) (by show sl + rm.slots ≤ 7293033; omega) ?_
  refine gg_istore (lo' := [(6, gg_i b), (5, gg_i k), (4, gg_i (nI i)), (3, gg_r 30 0), (2, gg_r 17 0), (1, gg_r 0 0), (0, gg_r 31 0)]) ok dL_law_733 (by decide) rfl ?_
  refine gg_aload_n ok dL_law_735 rfl rfl ?_
  refine gg_callV1 ok dL_law_736 gL_64 (kX5_thrown l htr x2) (fun _ => rfl) rfl (by decide) rfl rfl (Nat.le_of_ble_eq_true rfl) (Nat.le_of_ble_eq_true rfl) (Nat.le_of_ble_eq_true rfl) (by show ce + rm.cells ≤ 601024; omega) (by show sl + rm.slots ≤ 7293033; omega) ?_
  refine gg_iload ok dL_law_739 rfl ?_
  refine gg_icmp_eq (tgt := 746) ok dL_law_741 rfl ⟨fun _ => ?_, fun z => absurd (hth) z⟩
  refine gg_iload ok dL_law_746 rfl ?_
  refine gg_if_ne (tgt := 763) ok dL_law_748 rfl ⟨fun hk => ?_, fun hk => ?_⟩
  ·
    refine gg_goto (tgt := 860) ok dL_law_763 rfl ?_
    refine gg_sub (lo' := [(4, gg_i (nI i)), (3, gg_r 30 0), (2, gg_r 17 0), (1, gg_r 0 0), (0, gg_r 31 0)]) [2, 3, 4, 5, 6] rfl ?_
    refine gg_wid (ce' := ce + 1) (sl' := sl + 6) (by show ce + rm.cells ≤ ce + 1; omega) (by show sl + rm.slots ≤ sl + 6; omega) ?_
    exact kx
  ·
    refine gg_aload_n ok dL_law_751 rfl rfl ?_
    refine gg_iconst (v := 0) ok dL_law_752 rfl ?_
    refine gg_lald ok dL_law_753 ?_
    refine gg_iload ok dL_law_754 rfl ?_
    refine gg_i2l ok dL_law_756 rfl ?_
    refine gg_lcmp ok dL_law_757 ?_
    refine gg_if_eq (tgt := 763) ok dL_law_758 rfl ⟨fun _ => ?_, fun z => absurd (gg_cmp0 (hO hk)) z⟩
    refine gg_goto (tgt := 860) ok dL_law_763 rfl ?_
    refine gg_sub (lo' := [(4, gg_i (nI i)), (3, gg_r 30 0), (2, gg_r 17 0), (1, gg_r 0 0), (0, gg_r 31 0)]) [2, 3, 4, 5, 6] rfl ?_
    refine gg_wid (ce' := ce + 1) (sl' := sl + 6) (by show ce + rm.cells ≤ ce + 1; omega) (by show sl + rm.slots ≤ sl + 6; omega) ?_
    exact kx
set_option maxRecDepth 20000 in
theorem arm_count {p : Program} {l : Launch} {e : Env} {s : State} {m : MethodId} {args : Array Value} {below : List Frame} {meth : Method} {c : Code} {Q : State → Prop} {D : va_G} {cT : Nat → ClassId} {ad : Nat → Nat → Nat} {ce sl : Nat} {L : Nat} {xs : Nat → Int32} (htr : l.stackTraces = false) (i : Nat) (hi : i + 3 ≤ L) (hsc : gg_scr ad s L xs) (ok : gg_Ok p s m args meth c code 7 "MissRegistersLaw" D cT ad) (hce : ce + 1 ≤ 601024) (hsl : sl + 6 ≤ 7293033) (rm : Room) (hrf : rm.frames ≤ 9) (hrl : rm.locals ≤ 350) (hrc : rm.cells ≤ 1) (hrs : rm.slots ≤ 6) (x x1 x2 : gg_X) (k b : Int32) (hW : gg_CdW l yL_count cL_count 4 (some .int) hhL_count rm true [gg_r 0 0, gg_i (xs (i + 1)), gg_r 30 0] x (.inl (some (gg_i k))) x1) (hM : gg_Cd l yX5_count cX5_count 2 (some .int) (gg_rm 0 0 0 0) true [gg_r 17 0, gg_i (xs (i + 1))] x1 (.inl (some (gg_i b))) x2) (hth : x2.1 17 0 0 = k) (hO : k = 0 → x2.2.2 0 = b.toInt64) (kx : gg_G p l e room_1 s m args below meth c 7 D cT ad Q true (ce + 1) (sl + 6) x2 860 [(4, gg_i (nI i)), (3, gg_r 30 0), (2, gg_r 17 0), (1, gg_r 0 0), (0, gg_r 31 0)] []) : gg_G p l e room_1 s m args below meth c 7 D cT ad Q true ce sl x 804 [(4, gg_i (nI i)), (3, gg_r 30 0), (2, gg_r 17 0), (1, gg_r 0 0), (0, gg_r 31 0)] [] := by
  refine gg_aload_n ok dL_law_804 rfl rfl ?_
  refine gg_aload_n ok dL_law_805 rfl rfl ?_
  refine gg_iload ok dL_law_806 rfl ?_
  refine gg_iconst (v := 1) ok dL_law_808 rfl ?_
  refine gg_iadd (v := nI (i + 1)) ok dL_law_809 (nI_add i 1) ?_
  refine gg_sld (q := i + 1) ok dL_law_810 hsc (by omega) ?_
  refine gg_aload_n ok dL_law_811 rfl rfl ?_
  refine gg_callW ok dL_law_812 wL_113 hW (fun _ => rfl) rfl rfl (Nat.le_of_ble_eq_true rfl) (by show rm.frames + 1 ≤ 11; omega) (by show 8 + (4 + 11) + rm.locals ≤ 384; omega) (by show ce + rm.cells ≤ 601024; omega) (by show sl + rm.slots ≤ 7293033; omega) ?_
  refine gg_istore (lo' := [(5, gg_i k), (4, gg_i (nI i)), (3, gg_r 30 0), (2, gg_r 17 0), (1, gg_r 0 0), (0, gg_r 31 0)]) ok dL_law_815 (by decide) rfl ?_
  refine gg_aload_n ok dL_law_817 rfl rfl ?_
  refine gg_aload_n ok dL_law_818 rfl rfl ?_
  refine gg_iload ok dL_law_819 rfl ?_
  refine gg_iconst (v := 1) ok dL_law_821 rfl ?_
  refine gg_iadd (v := nI (i + 1)) ok dL_law_822 (nI_add i 1) ?_
  refine gg_sld (q := i + 1) ok dL_law_823 hsc (by omega) ?_
  refine gg_callV1 ok dL_law_824 gL_115 hM (fun _ => rfl) rfl (by decide) rfl rfl (Nat.le_of_ble_eq_true rfl) (Nat.le_of_ble_eq_true rfl) (Nat.le_of_ble_eq_true rfl) (by show ce + rm.cells ≤ 601024; omega) (by show sl + rm.slots ≤ 7293033; omega) ?_
  refine gg_istore (lo' := [(6, gg_i b), (5, gg_i k), (4, gg_i (nI i)), (3, gg_r 30 0), (2, gg_r 17 0), (1, gg_r 0 0), (0, gg_r 31 0)]) ok dL_law_827 (by decide) rfl ?_
  refine gg_aload_n ok dL_law_829 rfl rfl ?_
  refine gg_callV1 ok dL_law_830 gL_64 (kX5_thrown l htr x2) (fun _ => rfl) rfl (by decide) rfl rfl (Nat.le_of_ble_eq_true rfl) (Nat.le_of_ble_eq_true rfl) (Nat.le_of_ble_eq_true rfl) (by show ce + rm.cells ≤ 601024; omega) (by show sl + rm.slots ≤ 7293033; omega) ?_
  refine gg_iload ok dL_law_833 rfl ?_
  refine gg_icmp_eq (tgt := 840) ok dL_law_835 rfl ⟨fun _ => ?_, fun z => absurd (hth) z⟩
  refine gg_iload ok dL_law_840 rfl ?_
  refine gg_if_ne (tgt := 857) ok dL_law_842 rfl ⟨fun hk => ?_, fun hk => ?_⟩
  ·
    refine gg_goto (tgt := 860) ok dL_law_857 rfl ?_
    refine gg_sub (lo' := [(4, gg_i (nI i)), (3, gg_r 30 0), (2, gg_r 17 0), (1, gg_r 0 0), (0, gg_r 31 0)]) [2, 3, 4, 5, 6] rfl ?_
    refine gg_wid (ce' := ce + 1) (sl' := sl + 6) (by show ce + rm.cells ≤ ce + 1; omega) (by show sl + rm.slots ≤ sl + 6; omega) ?_
    exact kx
  ·
    refine gg_aload_n ok dL_law_845 rfl rfl ?_
    refine gg_iconst (v := 0) ok dL_law_846 rfl ?_
    refine gg_lald ok dL_law_847 ?_
    refine gg_iload ok dL_law_848 rfl ?_
    refine gg_i2l ok dL_law_850 rfl ?_
    refine gg_lcmp ok dL_law_851 ?_
    refine gg_if_eq (tgt := 857) ok dL_law_852 rfl ⟨fun _ => ?_, fun z => absurd (gg_cmp0 (hO hk)) z⟩
    refine gg_goto (tgt := 860) ok dL_law_857 rfl ?_
    refine gg_sub (lo' := [(4, gg_i (nI i)), (3, gg_r 30 0), (2, gg_r 17 0), (1, gg_r 0 0), (0, gg_r 31 0)]) [2, 3, 4, 5, 6] rfl ?_
    refine gg_wid (ce' := ce + 1) (sl' := sl + 6) (by show ce + rm.cells ≤ ce + 1; omega) (by show sl + rm.slots ≤ sl + 6; omega) ?_
    exact kx
