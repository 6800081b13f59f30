set_option maxRecDepth 20000 in
theorem arm_ahead {p : Program} {l : Launch} {e : Env} {s : State} {m : MethodId} {args : Array Value} {below : List Frame} {meth : Method} {c : Code} {Q : State → Prop} {D : va_G} {cT : Nat → ClassId} {ad : Nat → Nat → Nat} {ce sl : Nat} {L : Nat} {xs : Nat → Int32} (htr : l.stackTraces = false) (i : Nat) (hi : i + 3 ≤ L) (hsc : gg_scr ad s L xs) (ok : gg_Ok p s m args meth c code 7 "MissRegistersLaw" D cT ad) (hce : ce + 1 ≤ 601024) (hsl : sl + 6 ≤ 7293033) (x x1 x2 : gg_X) (hW : gg_Cd l yX4_ahead cX4_ahead 2 none (gg_rm 0 0 0 0) true [gg_r 0 0, gg_i (if (xs (i + 1)) = 0 then 0 else 1)] x (.inl none) x1) (hM : gg_Cd l yX5_ahead cX5_ahead 2 none (gg_rm 0 0 0 0) true [gg_r 17 0, gg_i (if (xs (i + 1)) = 0 then 0 else 1)] x1 (.inl none) x2) (kx : gg_G p l e room_1 s m args below meth c 7 D cT ad Q true (ce + 1) (sl + 6) x2 860 [(4, gg_i (nI i)), (3, gg_r 30 0), (2, gg_r 17 0), (1, gg_r 0 0), (0, gg_r 31 0)] []) : gg_G p l e room_1 s m args below meth c 7 D cT ad Q true ce sl x 503 [(4, gg_i (nI i)), (3, gg_r 30 0), (2, gg_r 17 0), (1, gg_r 0 0), (0, gg_r 31 0)] [] := by
  refine gg_aload_n ok dL_law_503 rfl rfl ?_
  refine gg_aload_n ok dL_law_504 rfl rfl ?_
  refine gg_iload ok dL_law_505 rfl ?_
  refine gg_iconst (v := 1) ok dL_law_507 rfl ?_
  refine gg_iadd (v := nI (i + 1)) ok dL_law_508 (nI_add i 1) ?_
  refine gg_sld (q := i + 1) ok dL_law_509 hsc (by omega) ?_
  refine gg_if_eq (tgt := 517) ok dL_law_510 rfl ⟨fun hz => ?_, fun hz => ?_⟩
  ·
    rw [if_pos hz] at hW hM
    refine gg_iconst (v := 0) ok dL_law_517 rfl ?_
    refine gg_callV0 ok dL_law_518 gL_87 hW (fun _ => rfl) rfl (by decide) rfl rfl (Nat.le_of_ble_eq_true rfl) (Nat.le_of_ble_eq_true rfl) (Nat.le_of_ble_eq_true rfl) (by show ce ≤ 601024; omega) (by show sl ≤ 7293033; omega) ?_
    refine gg_aload_n ok dL_law_521 rfl rfl ?_
    refine gg_aload_n ok dL_law_522 rfl rfl ?_
    refine gg_iload ok dL_law_523 rfl ?_
    refine gg_iconst (v := 1) ok dL_law_525 rfl ?_
    refine gg_iadd (v := nI (i + 1)) ok dL_law_526 (nI_add i 1) ?_
    refine gg_sld (q := i + 1) ok dL_law_527 hsc (by omega) ?_
    refine gg_if_eq (tgt := 535) ok dL_law_528 rfl ⟨fun _ => ?_, fun z => absurd (hz) z⟩
    refine gg_iconst (v := 0) ok dL_law_535 rfl ?_
    refine gg_callV0 ok dL_law_536 gL_91 hM (fun _ => rfl) rfl (by decide) rfl rfl (Nat.le_of_ble_eq_true rfl) (Nat.le_of_ble_eq_true rfl) (Nat.le_of_ble_eq_true rfl) (by show ce ≤ 601024; omega) (by show sl ≤ 7293033; omega) ?_
    refine gg_goto (tgt := 860) ok dL_law_539 rfl ?_
    refine gg_sub (lo' := [(4, gg_i (nI i)), (3, gg_r 30 0), (2, gg_r 17 0), (1, gg_r 0 0), (0, gg_r 31 0)]) [0, 1, 2, 3, 4] rfl ?_
    refine gg_wid (ce' := ce + 1) (sl' := sl + 6) (by show ce ≤ ce + 1; omega) (by show sl ≤ sl + 6; omega) ?_
    exact kx
  ·
    rw [if_neg hz] at hW hM
    refine gg_iconst (v := 1) ok dL_law_513 rfl ?_
    refine gg_goto (tgt := 518) ok dL_law_514 rfl ?_
    refine gg_callV0 ok dL_law_518 gL_87 hW (fun _ => rfl) rfl (by decide) rfl rfl (Nat.le_of_ble_eq_true rfl) (Nat.le_of_ble_eq_true rfl) (Nat.le_of_ble_eq_true rfl) (by show ce ≤ 601024; omega) (by show sl ≤ 7293033; omega) ?_
    refine gg_aload_n ok dL_law_521 rfl rfl ?_
    refine gg_aload_n ok dL_law_522 rfl rfl ?_
    refine gg_iload ok dL_law_523 rfl ?_
    refine gg_iconst (v := 1) ok dL_law_525 rfl ?_
    refine gg_iadd (v := nI (i + 1)) ok dL_law_526 (nI_add i 1) ?_
    refine gg_sld (q := i + 1) ok dL_law_527 hsc (by omega) ?_
    refine gg_if_eq (tgt := 535) ok dL_law_528 rfl ⟨fun z => absurd z (hz), fun _ => ?_⟩
    refine gg_iconst (v := 1) ok dL_law_531 rfl ?_
    refine gg_goto (tgt := 536) ok dL_law_532 rfl ?_
    refine gg_callV0 ok dL_law_536 gL_91 hM (fun _ => rfl) rfl (by decide) rfl rfl (Nat.le_of_ble_eq_true rfl) (Nat.le_of_ble_eq_true rfl) (Nat.le_of_ble_eq_true rfl) (by show ce ≤ 601024; omega) (by show sl ≤ 7293033; omega) ?_
    refine gg_goto (tgt := 860) ok dL_law_539 rfl ?_
    refine gg_sub (lo' := [(4, gg_i (nI i)), (3, gg_r 30 0), (2, gg_r 17 0), (1, gg_r 0 0), (0, gg_r 31 0)]) [0, 1, 2, 3, 4] rfl ?_
    refine gg_wid (ce' := ce + 1) (sl' := sl + 6) (by show ce ≤ ce + 1; omega) (by show sl ≤ sl + 6; omega) ?_
    exact kx
set_option maxRecDepth 20000 in
theorem arm_request {p : Program} {l : Launch} {e : Env} {s : State} {m : MethodId} {args : Array Value} {below : List Frame} {meth : Method} {c : Code} {Q : State → Prop} {D : va_G} {cT : Nat → ClassId} {ad : Nat → Nat → Nat} {ce sl : Nat} {L : Nat} {xs : Nat → Int32} (htr : l.stackTraces = false) (i : Nat) (hi : i + 3 ≤ L) (hsc : gg_scr ad s L xs) (ok : gg_Ok p s m args meth c code 7 "MissRegistersLaw" D cT ad) (hce : ce + 1 ≤ 601024) (hsl : sl + 6 ≤ 7293033) (x x2 : gg_X) (r : Int32) (hW : gg_Cd l yX4_request cX4_request 3 (some .int) (gg_rm 1 0 0 21) false [gg_r 0 0, gg_i (xs (i + 1))] x (.inl (some (gg_i r))) x) (hM : gg_Cd l yX5_request cX5_request 2 (some .int) (gg_rm 0 0 0 0) true [gg_r 17 0, gg_i (xs (i + 1))] x (.inl (some (gg_i r))) x2) (kx : gg_G p l e room_1 s m args below meth c 7 D cT ad Q true (ce + 1) (sl + 6) x2 860 [(4, gg_i (nI i)), (3, gg_r 30 0), (2, gg_r 17 0), (1, gg_r 0 0), (0, gg_r 31 0)] []) : gg_G p l e room_1 s m args below meth c 7 D cT ad Q true ce sl x 766 [(4, gg_i (nI i)), (3, gg_r 30 0), (2, gg_r 17 0), (1, gg_r 0 0), (0, gg_r 31 0)] [] := by
  refine gg_aload_n ok dL_law_766 rfl rfl ?_
  refine gg_aload_n ok dL_law_767 rfl rfl ?_
  refine gg_iload ok dL_law_768 rfl ?_
  refine gg_iconst (v := 1) ok dL_law_770 rfl ?_
  refine gg_iadd (v := nI (i + 1)) ok dL_law_771 (nI_add i 1) ?_
  refine gg_sld (q := i + 1) ok dL_law_772 hsc (by omega) ?_
  refine gg_callV1 ok dL_law_773 gL_105 hW (fun _ => rfl) rfl (by decide) rfl rfl (Nat.le_of_ble_eq_true rfl) (Nat.le_of_ble_eq_true rfl) (Nat.le_of_ble_eq_true rfl) (by show ce ≤ 601024; omega) (by show sl ≤ 7293033; omega) ?_
  refine gg_aload_n ok dL_law_776 rfl rfl ?_
  refine gg_aload_n ok dL_law_777 rfl rfl ?_
  refine gg_iload ok dL_law_778 rfl ?_
  refine gg_iconst (v := 1) ok dL_law_780 rfl ?_
  refine gg_iadd (v := nI (i + 1)) ok dL_law_781 (nI_add i 1) ?_
  refine gg_sld (q := i + 1) ok dL_law_782 hsc (by omega) ?_
  refine gg_callV1 ok dL_law_783 gL_108 hM (fun _ => rfl) rfl (by decide) rfl rfl (Nat.le_of_ble_eq_true rfl) (Nat.le_of_ble_eq_true rfl) (Nat.le_of_ble_eq_true rfl) (by show ce ≤ 601024; omega) (by show sl ≤ 7293033; omega) ?_
  refine gg_icmp_eq (tgt := 860) ok dL_law_786 rfl ⟨fun _ => ?_, fun z => absurd (rfl) z⟩
  refine gg_sub (lo' := [(4, gg_i (nI i)), (3, gg_r 30 0), (2, gg_r 17 0), (1, gg_r 0 0), (0, gg_r 31 0)]) [0, 1, 2, 3, 4] rfl ?_
  refine gg_wid (ce' := ce + 1) (sl' := sl + 6) (by show ce ≤ ce + 1; omega) (by show sl ≤ sl + 6; omega) ?_
  exact kx
set_option maxRecDepth 20000 in
theorem arm_left {p : Program} {l : Launch} {e : Env} {s : State} {m : MethodId} {args : Array Value} {below : List Frame} {meth : Method} {c : Code} {Q : State → Prop} {D : va_G} {cT : Nat → ClassId} {ad : Nat → Nat → Nat} {ce sl : Nat} {L : Nat} {xs : Nat → Int32} (htr : l.stackTraces = false) (i : Nat) (hi : i + 3 ≤ L) (hsc : gg_scr ad s L xs) (ok : gg_Ok p s m args meth c code 7 "MissRegistersLaw" D cT ad) (hce : ce + 1 ≤ 601024) (hsl : sl + 6 ≤ 7293033) (x x2 : gg_X) (r : Int32) (hW : gg_Cd l yX4_left cX4_left 1 (some .int) (gg_rm 0 0 0 0) false [gg_r 0 0] x (.inl (some (gg_i r))) x) (hM : gg_Cd l yX5_left cX5_left 1 (some .int) (gg_rm 0 0 0 0) true [gg_r 17 0] x (.inl (some (gg_i r))) x2) (kx : gg_G p l e room_1 s m args below meth c 7 D cT ad Q true (ce + 1) (sl + 6) x2 860 [(4, gg_i (nI i)), (3, gg_r 30 0), (2, gg_r 17 0), (1, gg_r 0 0), (0, gg_r 31 0)] []) : gg_G p l e room_1 s m args below meth c 7 D cT ad Q true ce sl x 791 [(4, gg_i (nI i)), (3, gg_r 30 0), (2, gg_r 17 0), (1, gg_r 0 0), (0, gg_r 31 0)] [] := by
  refine gg_aload_n ok dL_law_791 rfl rfl ?_
  refine gg_callV1 ok dL_law_792 gL_109 hW (fun _ => rfl) rfl (by decide) rfl rfl (Nat.le_of_ble_eq_true rfl) (Nat.le_of_ble_eq_true rfl) (Nat.le_of_ble_eq_true rfl) (by show ce ≤ 601024; omega) (by show sl ≤ 7293033; omega) ?_
  refine gg_aload_n ok dL_law_795 rfl rfl ?_
  refine gg_callV1 ok dL_law_796 gL_112 hM (fun _ => rfl) rfl (by decide) rfl rfl (Nat.le_of_ble_eq_true rfl) (Nat.le_of_ble_eq_true rfl) (Nat.le_of_ble_eq_true rfl) (by show ce ≤ 601024; omega) (by show sl ≤ 7293033; omega) ?_
  refine gg_icmp_eq (tgt := 860) ok dL_law_799 rfl ⟨fun _ => ?_, fun z => absurd (rfl) z⟩
  refine gg_sub (lo' := [(4, gg_i (nI i)), (3, gg_r 30 0), (2, gg_r 17 0), (1, gg_r 0 0), (0, gg_r 31 0)]) [0, 1, 2, 3, 4] rfl ?_
  refine gg_wid (ce' := ce + 1) (sl' := sl + 6) (by show ce ≤ ce + 1; omega) (by show sl ≤ sl + 6; omega) ?_
  exact kx
def ax_load (l : Launch) (x : gg_X) (v : Int32) (P : gg_X → Prop) : Prop := ∃ (rm : Room) (x1 x2 : gg_X) (k b : Int32), rm.frames ≤ 9 ∧ rm.locals ≤ 350 ∧ rm.cells ≤ 1 ∧ rm.slots ≤ 6 ∧ gg_CdW l yL_load cL_load 4 (some .int) hhL_load rm true [gg_r 0 0, gg_i v, gg_r 30 0] x (.inl (some (gg_i k))) x1 ∧ gg_Cd l yX5_load cX5_load 3 (some .int) (gg_rm 4 0 0 93) true [gg_r 17 0, gg_i v] x1 (.inl (some (gg_i b))) x2 ∧ x2.1 17 0 0 = k ∧ (k = 0 → x2.2.2 0 = b.toInt64) ∧ P x2
def ax_store (l : Launch) (x : gg_X) (v u : Int32) (P : gg_X → Prop) : Prop := ∃ (rm : Room) (x1 x2 : gg_X) (k b : Int32), rm.frames ≤ 9 ∧ rm.locals ≤ 350 ∧ rm.cells ≤ 1 ∧ rm.slots ≤ 6 ∧ gg_CdW l yL_store cL_store 5 (some .int) hhL_store rm true [gg_r 0 0, gg_i v, gg_i u, gg_r 30 0] x (.inl (some (gg_i k))) x1 ∧ gg_Cd l yX5_store cX5_store 4 (some .int) (gg_rm 4 0 0 93) true [gg_r 17 0, gg_i v, gg_i u] x1 (.inl (some (gg_i b))) x2 ∧ x2.1 17 0 0 = k ∧ (k = 0 → x2.2.2 0 = b.toInt64) ∧ P x2
def ax_await (l : Launch) (x : gg_X) (v : Int32) (P : gg_X → Prop) : Prop := ∃ (rm : Room) (x1 x2 : gg_X) (k b : Int32), rm.frames ≤ 9 ∧ rm.locals ≤ 350 ∧ rm.cells ≤ 1 ∧ rm.slots ≤ 6 ∧ gg_CdW l yL_await cL_await 4 (some .int) hhL_await rm true [gg_r 0 0, gg_i v, gg_r 30 0] x (.inl (some (gg_i k))) x1 ∧ gg_Cd l yX5_await cX5_await 4 (some .int) (gg_rm 4 0 0 93) true [gg_r 17 0, gg_i v] x1 (.inl (some (gg_i b))) x2 ∧ x2.1 17 0 0 = k ∧ (k = 0 → x2.2.2 0 = b.toInt64) ∧ P x2
def ax_tick (l : Launch) (x : gg_X) (v : Int32) (P : gg_X → Prop) : Prop := ∃ (rm : Room) (x1 x2 : gg_X) (k b : Int32), rm.frames ≤ 9 ∧ rm.locals ≤ 350 ∧ rm.cells ≤ 1 ∧ rm.slots ≤ 6 ∧ gg_CdW l yL_tick cL_tick 4 (some .int) hhL_tick rm true [gg_r 0 0, gg_i v, gg_r 30 0] x (.inl (some (gg_i k))) x1 ∧ gg_Cd l yX5_tick cX5_tick 4 (some .int) (gg_rm 3 0 0 67) true [gg_r 17 0, gg_i v] x1 (.inl (some (gg_i b))) x2 ∧ x2.1 17 0 0 = k ∧ (k = 0 → x2.2.2 0 = b.toInt64) ∧ P x2
def ax_done (l : Launch) (x : gg_X) (v : Int32) (P : gg_X → Prop) : Prop := ∃ (rm : Room) (x1 x2 : gg_X) (k b : Int32), rm.frames ≤ 9 ∧ rm.locals ≤ 350 ∧ rm.cells ≤ 1 ∧ rm.slots ≤ 6 ∧ gg_CdW l yL_done cL_done 4 (some .int) hhL_done rm true [gg_r 0 0, gg_i v, gg_r 30 0] x (.inl (some (gg_i k))) x1 ∧ gg_Cd l yX5_done cX5_done 2 (some .boolean) (gg_rm 1 0 0 21) true [gg_r 17 0, gg_i v] x1 (.inl (some (gg_i b))) x2 ∧ x2.1 17 0 0 = k ∧ (k = 0 → x2.2.2 0 = (if b = 0 then 0 else 1)) ∧ P x2
def ax_value (l : Launch) (x : gg_X) (v : Int32) (P : gg_X → Prop) : Prop := ∃ (rm : Room) (x1 x2 : gg_X) (k b : Int32), rm.frames ≤ 9 ∧ rm.locals ≤ 350 ∧ rm.cells ≤ 1 ∧ rm.slots ≤ 6 ∧ gg_CdW l yL_value cL_value 4 (some .int) hhL_value rm true [gg_r 0 0, gg_i v, gg_r 30 0] x (.inl (some (gg_i k))) x1 ∧ gg_Cd l yX5_value cX5_value 2 (some .int) (gg_rm 1 0 0 21) true [gg_r 17 0, gg_i v] x1 (.inl (some (gg_i b))) x2 ∧ x2.1 17 0 0 = k ∧ (k = 0 → x2.2.2 0 = b.toInt64) ∧ P x2
def ax_delay (l : Launch) (x : gg_X) (v : Int32) (P : gg_X → Prop) : Prop := ∃ (rm : Room) (x1 x2 : gg_X) (k b : Int32), rm.frames ≤ 9 ∧ rm.locals ≤ 350 ∧ rm.cells ≤ 1 ∧ rm.slots ≤ 6 ∧ gg_CdW l yL_delay cL_delay 3 (some .int) hhL_delay rm true [gg_r 0 0, gg_i v] x (.inl (some (gg_i k))) x1 ∧ gg_Cd l yX5_delay cX5_delay 2 none (gg_rm 0 0 0 0) true [gg_r 17 0, gg_i v] x1 (.inl none) x2 ∧ x2.1 17 0 0 = k ∧ True ∧ P x2
def ax_ahead (l : Launch) (x : gg_X) (v : Int32) (P : gg_X → Prop) : Prop := ∃ (x1 x2 : gg_X), gg_Cd l yX4_ahead cX4_ahead 2 none (gg_rm 0 0 0 0) true [gg_r 0 0, gg_i (if v = 0 then 0 else 1)] x (.inl none) x1 ∧ gg_Cd l yX5_ahead cX5_ahead 2 none (gg_rm 0 0 0 0) true [gg_r 17 0, gg_i (if v = 0 then 0 else 1)] x1 (.inl none) x2 ∧ P x2
def ax_flush (l : Launch) (x : gg_X)  (P : gg_X → Prop) : Prop := ∃ (rm : Room) (x1 x2 : gg_X) (k b : Int32), rm.frames ≤ 9 ∧ rm.locals ≤ 350 ∧ rm.cells ≤ 1 ∧ rm.slots ≤ 6 ∧ gg_CdW l yL_flush cL_flush 3 (some .int) hhL_flush rm true [gg_r 0 0, gg_r 30 0] x (.inl (some (gg_i k))) x1 ∧ gg_Cd l yX5_flush cX5_flush 4 (some .int) (gg_rm 0 0 0 0) true [gg_r 17 0] x1 (.inl (some (gg_i b))) x2 ∧ x2.1 17 0 0 = k ∧ (k = 0 → x2.2.2 0 = b.toInt64) ∧ P x2
def ax_memory (l : Launch) (x : gg_X) (v : Int32) (P : gg_X → Prop) : Prop := ∃ (rm : Room) (x1 x2 : gg_X) (k b : Int32), rm.frames ≤ 9 ∧ rm.locals ≤ 350 ∧ rm.cells ≤ 1 ∧ rm.slots ≤ 6 ∧ gg_CdW l yL_memory cL_memory 4 (some .int) hhL_memory rm true [gg_r 0 0, gg_i v, gg_r 30 0] x (.inl (some (gg_i k))) x1 ∧ gg_Cd l yX5_memory cX5_memory 2 (some .int) (gg_rm 1 0 0 21) true [gg_r 17 0, gg_i v] x1 (.inl (some (gg_i b))) x2 ∧ x2.1 17 0 0 = k ∧ (k = 0 → x2.2.2 0 = b.toInt64) ∧ P x2
def ax_way (l : Launch) (x : gg_X) (v u : Int32) (P : gg_X → Prop) : Prop := ∃ (rm : Room) (x1 x2 : gg_X) (k b : Int32), rm.frames ≤ 9 ∧ rm.locals ≤ 350 ∧ rm.cells ≤ 1 ∧ rm.slots ≤ 6 ∧ gg_CdW l yL_way cL_way 5 (some .int) hhL_way rm true [gg_r 0 0, gg_i v, gg_i u, gg_r 30 0] x (.inl (some (gg_i k))) x1 ∧ gg_Cd l yX5_way cX5_way 4 (some .int) (gg_rm 0 0 0 0) true [gg_r 17 0, gg_i v, gg_i u] x1 (.inl (some (gg_i b))) x2 ∧ x2.1 17 0 0 = k ∧ (k = 0 → x2.2.2 0 = b.toInt64) ∧ P x2
def ax_targets (l : Launch) (x : gg_X) (v : Int32) (P : gg_X → Prop) : Prop := ∃ (rm : Room) (x1 x2 : gg_X) (k b : Int32), rm.frames ≤ 9 ∧ rm.locals ≤ 350 ∧ rm.cells ≤ 1 ∧ rm.slots ≤ 6 ∧ gg_CdW l yL_targets cL_targets 4 (some .int) hhL_targets rm true [gg_r 0 0, gg_i v, gg_r 30 0] x (.inl (some (gg_i k))) x1 ∧ gg_Cd l yX5_targets cX5_targets 3 (some .int) (gg_rm 1 0 0 23) true [gg_r 17 0, gg_i v] x1 (.inl (some (gg_i b))) x2 ∧ x2.1 17 0 0 = k ∧ (k = 0 → x2.2.2 0 = b.toInt64) ∧ P x2
def ax_request (l : Launch) (x : gg_X) (v : Int32) (P : gg_X → Prop) : Prop := ∃ (x2 : gg_X) (r : Int32), gg_Cd l yX4_request cX4_request 3 (some .int) (gg_rm 1 0 0 21) false [gg_r 0 0, gg_i v] x (.inl (some (gg_i r))) x ∧ gg_Cd l yX5_request cX5_request 2 (some .int) (gg_rm 0 0 0 0) true [gg_r 17 0, gg_i v] x (.inl (some (gg_i r))) x2 ∧ P x2
def ax_left (l : Launch) (x : gg_X)  (P : gg_X → Prop) : Prop := ∃ (x2 : gg_X) (r : Int32), gg_Cd l yX4_left cX4_left 1 (some .int) (gg_rm 0 0 0 0) false [gg_r 0 0] x (.inl (some (gg_i r))) x ∧ gg_Cd l yX5_left cX5_left 1 (some .int) (gg_rm 0 0 0 0) true [gg_r 17 0] x (.inl (some (gg_i r))) x2 ∧ P x2
def ax_count (l : Launch) (x : gg_X) (v : Int32) (P : gg_X → Prop) : Prop := ∃ (rm : Room) (x1 x2 : gg_X) (k b : Int32), rm.frames ≤ 9 ∧ rm.locals ≤ 350 ∧ rm.cells ≤ 1 ∧ rm.slots ≤ 6 ∧ gg_CdW l yL_count cL_count 4 (some .int) hhL_count rm true [gg_r 0 0, gg_i v, gg_r 30 0] x (.inl (some (gg_i k))) x1 ∧ gg_Cd l yX5_count cX5_count 2 (some .int) (gg_rm 0 0 0 0) true [gg_r 17 0, gg_i v] x1 (.inl (some (gg_i b))) x2 ∧ x2.1 17 0 0 = k ∧ (k = 0 → x2.2.2 0 = b.toInt64) ∧ P x2
theorem gg_tsw {p : Program} {l : Launch} {e : Env} {R : Room} {s : State} {m : MethodId} {args : Array Value} {below : List Frame} {meth : Method} {c : Code} {Q : State → Prop} {cc : ByteArray} {nL : Nat} {own : String} {D : va_G} {cT : Nat → ClassId} {ad : Nat → Nat → Nat} {w : Bool} {ce sl : Nat} {x : gg_X} {pc : Nat} {lo : List (Nat × gg_V)} {st : List gg_V} (ok : gg_Ok p s m args meth c cc nL own D cT ad) {dflt : Int} {offs : Array Int} {len o tgt : Nat} {off : Int} (hd : decode cc pc = .ok (.tableswitch dflt 0 14 offs, len)) (h : o < 15) (ho : offs[o]? = some off) (ht : (pc : Int) + off = (tgt : Int)) (k : gg_G p l e R s m args below meth c nL D cT ad Q w ce sl x tgt lo st) : gg_G p l e R s m args below meth c nL D cT ad Q w ce sl x pc lo (gg_i (nI o) :: st) := by
  intro H locs ls hP hS hl
  have h1 : (nI o).toInt = (o : Int) := nI_toInt (by omega)
  exact lv_tableIn ok.1 ok.2.1 hd (by rw [h1]; omega) (by rw [h1]; omega) (by rw [h1]; simpa using ho) ht (k H locs ls hP hS hl)
theorem gg_tswO {p : Program} {l : Launch} {e : Env} {R : Room} {s : State} {m : MethodId} {args : Array Value} {below : List Frame} {meth : Method} {c : Code} {Q : State → Prop} {cc : ByteArray} {nL : Nat} {own : String} {D : va_G} {cT : Nat → ClassId} {ad : Nat → Nat → Nat} {w : Bool} {ce sl : Nat} {x : gg_X} {pc : Nat} {lo : List (Nat × gg_V)} {st : List gg_V} (ok : gg_Ok p s m args meth c cc nL own D cT ad) {dflt : Int} {offs : Array Int} {len o tgt : Nat} (hd : decode cc pc = .ok (.tableswitch dflt 0 14 offs, len)) (h : 15 ≤ o) (h2 : o < 100) (ht : (pc : Int) + dflt = (tgt : Int)) (k : gg_G p l e R s m args below meth c nL D cT ad Q w ce sl x tgt lo st) : gg_G p l e R s m args below meth c nL D cT ad Q w ce sl x pc lo (gg_i (nI o) :: st) := by
  intro H locs ls hP hS hl
  have h1 : (nI o).toInt = (o : Int) := nI_toInt (by omega)
  exact lv_tableOut ok.1 ok.2.1 hd (Or.inr (by rw [h1]; omega)) ht (k H locs ls hP hS hl)
theorem gg_gt3 {i L : Nat} (h : L < i + 3) (hL : L ≤ 1536) (hi : i < 3000) : nI L - 3 < nI i := by
  rw [Int32.lt_iff_toInt_lt, show (3 : Int32) = nI 3 from rfl, pk_sub_toInt (by omega) (by omega), nI_toInt (by omega)]
  omega
theorem gg_ngt3 {i L : Nat} (h : i + 3 ≤ L) (hL : L ≤ 1536) : ¬ nI L - 3 < nI i := by
  rw [Int32.lt_iff_toInt_lt, show (3 : Int32) = nI 3 from rfl, pk_sub_toInt (by omega) (by omega), nI_toInt (by omega)]
  omega
set_option maxRecDepth 20000 in
set_option maxHeartbeats 1000000 in
theorem lpL_law {p : Program} {l : Launch} {e : Env} {s : State} {m : MethodId} {args : Array Value} {below : List Frame} {meth : Method} {c : Code} {Q : State → Prop} {D : va_G} {cT : Nat → ClassId} {ad : Nat → Nat → Nat} {L : Nat} {xs : Nat → Int32} (htr : l.stackTraces = false) (C S : Nat) (hC : C + 600 ≤ 601024) (hS : S + 3600 ≤ 7293033) (St : gg_X → Nat → Prop) (hload : ∀ x n v, n < 512 → St x n → ax_load l x v (fun y => St y (n + 1))) (hstore : ∀ x n v u, n < 512 → St x n → ax_store l x v u (fun y => St y (n + 1))) (hawait : ∀ x n v, n < 512 → St x n → ax_await l x v (fun y => St y (n + 1))) (htick : ∀ x n v, n < 512 → St x n → ax_tick l x v (fun y => St y (n + 1))) (hdone : ∀ x n v, n < 512 → St x n → ax_done l x v (fun y => St y (n + 1))) (hvalue : ∀ x n v, n < 512 → St x n → ax_value l x v (fun y => St y (n + 1))) (hdelay : ∀ x n v, n < 512 → St x n → ax_delay l x v (fun y => St y (n + 1))) (hahead : ∀ x n v, n < 512 → St x n → ax_ahead l x v (fun y => St y (n + 1))) (hflush : ∀ x n, n < 512 → St x n → ax_flush l x (fun y => St y (n + 1))) (hmemory : ∀ x n v, n < 512 → St x n → ax_memory l x v (fun y => St y (n + 1))) (hway : ∀ x n v u, n < 512 → St x n → ax_way l x v u (fun y => St y (n + 1))) (htargets : ∀ x n v, n < 512 → St x n → ax_targets l x v (fun y => St y (n + 1))) (hrequest : ∀ x n v, n < 512 → St x n → ax_request l x v (fun y => St y (n + 1))) (hleft : ∀ x n, n < 512 → St x n → ax_left l x (fun y => St y (n + 1))) (hcount : ∀ x n v, n < 512 → St x n → ax_count l x v (fun y => St y (n + 1))) (hdef : ∀ x n, St x n → St x (n + 1)) (hsc : gg_scr ad s L xs) (ok : gg_Ok p s m args meth c code 7 "MissRegistersLaw" D cT ad)
    (kx : ∀ (x : gg_X) (n i : Nat), n ≤ 513 → gg_G p l e room_1 s m args below meth c 7 D cT ad Q true (C + n) (S + 6 * n) x 866 [(4, gg_i (nI i)), (3, gg_r 30 0), (2, gg_r 17 0), (1, gg_r 0 0), (0, gg_r 31 0)] []) : ∀ (j n : Nat) (x : gg_X), L + 3 ≤ 3 * n + 3 * j → 3 * n ≤ L + 2 → St x n → gg_G p l e room_1 s m args below meth c 7 D cT ad Q true (C + n) (S + 6 * n) x 23 [(4, gg_i (nI (3 * n))), (3, gg_r 30 0), (2, gg_r 17 0), (1, gg_r 0 0), (0, gg_r 31 0)] [] := by
  intro j
  induction j with
  | zero =>
    intro n x hj hn hst
    have hL := hsc.2.2.2
    exfalso
    omega
  | succ j ih =>
    intro n x hj hn hst
    have hL := hsc.2.2.2
    refine gg_iload ok dL_law_23 rfl ?_
    refine gg_aload_n ok dL_law_25 rfl rfl ?_
    refine gg_slen ok dL_law_26 hsc ?_
    refine gg_iconst (v := 3) ok dL_law_27 rfl ?_
    refine gg_isub (v := nI L - 3) ok dL_law_28 rfl ?_
    by_cases hi : 3 * n + 3 ≤ L
    · refine gg_icmp_gt (tgt := 866) ok dL_law_29 rfl ⟨fun z => absurd z (gg_ngt3 hi hL), fun _ => ?_⟩
      refine gg_aload_n ok dL_law_32 rfl rfl ?_
      refine gg_iload ok dL_law_33 rfl ?_
      refine gg_sld (q := 3 * n) ok dL_law_35 hsc (by omega) ?_
      refine gg_bipush (v := 15) ok dL_law_36 rfl ?_
      obtain ⟨o, ho, he⟩ := pk_andE (xs (3 * n)) (m := 15) 4 (by decide)
      refine gg_iand (v := nI o) ok dL_law_38 he ?_
      have back : ∀ (y : gg_X), St y (n + 1) → gg_G p l e room_1 s m args below meth c 7 D cT ad Q true (C + n + 1) (S + 6 * n + 6) y 860 [(4, gg_i (nI (3 * n))), (3, gg_r 30 0), (2, gg_r 17 0), (1, gg_r 0 0), (0, gg_r 31 0)] [] := by
        intro y hy
        refine gg_iinc (v := nI (3 * (n + 1))) (lo' := [(4, gg_i (nI (3 * (n + 1)))), (3, gg_r 30 0), (2, gg_r 17 0), (1, gg_r 0 0), (0, gg_r 31 0)]) ok dL_law_860 rfl (by rw [show (Int32.ofInt 3 : Int32) = nI 3 from rfl, nI_add]; rfl) (by decide) rfl ?_
        refine gg_goto (tgt := 23) ok dL_law_863 rfl ?_
        have h9 := ih (n + 1) y (by omega) (by omega) hy
        exact h9
      have hce1 : C + n + 1 ≤ 601024 := by omega
      have hsl1 : S + 6 * n + 6 ≤ 7293033 := by omega
      have hn5 : n < 512 := by omega
      have ho : o < 16 := by simpa using ho
      rcases (show o = 0 ∨ o = 1 ∨ o = 2 ∨ o = 3 ∨ o = 4 ∨ o = 5 ∨ o = 6 ∨ o = 7 ∨ o = 8 ∨ o = 9 ∨ o = 10 ∨ o = 11 ∨ o = 12 ∨ o = 13 ∨ o = 14 ∨ o = 15 by omega) with rfl | rfl | rfl | rfl | rfl | rfl | rfl | rfl | rfl | rfl | rfl | rfl | rfl | rfl | rfl | rfl
      · refine gg_tsw (o := 0) (tgt := 112) ok dL_law_39 (by decide) rfl rfl ?_
        have ha := hload x n (xs (3 * n + 1)) hn5 hst
        obtain ⟨rm, x1, x2, k, b, r1, r2, r3, r4, hW, hM, hth, hO, hP⟩ := ha
        exact arm_load htr (3 * n) hi hsc ok hce1 hsl1 rm r1 r2 r3 r4 x x1 x2 k b hW hM hth hO (back x2 hP)
      · refine gg_tsw (o := 1) (tgt := 168) ok dL_law_39 (by decide) rfl rfl ?_
        have ha := hstore x n (xs (3 * n + 1)) (xs (3 * n + 2)) hn5 hst
        obtain ⟨rm, x1, x2, k, b, r1, r2, r3, r4, hW, hM, hth, hO, hP⟩ := ha
        exact arm_store htr (3 * n) hi hsc ok hce1 hsl1 rm r1 r2 r3 r4 x x1 x2 k b hW hM hth hO (back x2 hP)
      · refine gg_tsw (o := 2) (tgt := 236) ok dL_law_39 (by decide) rfl rfl ?_
        have ha := hawait x n (xs (3 * n + 1)) hn5 hst
        obtain ⟨rm, x1, x2, k, b, r1, r2, r3, r4, hW, hM, hth, hO, hP⟩ := ha
        exact arm_await htr (3 * n) hi hsc ok hce1 hsl1 rm r1 r2 r3 r4 x x1 x2 k b hW hM hth hO (back x2 hP)
      · refine gg_tsw (o := 3) (tgt := 292) ok dL_law_39 (by decide) rfl rfl ?_
        have ha := htick x n (xs (3 * n + 1)) hn5 hst
        obtain ⟨rm, x1, x2, k, b, r1, r2, r3, r4, hW, hM, hth, hO, hP⟩ := ha
        exact arm_tick htr (3 * n) hi hsc ok hce1 hsl1 rm r1 r2 r3 r4 x x1 x2 k b hW hM hth hO (back x2 hP)
      · refine gg_tsw (o := 4) (tgt := 348) ok dL_law_39 (by decide) rfl rfl ?_
        have ha := hdone x n (xs (3 * n + 1)) hn5 hst
        obtain ⟨rm, x1, x2, k, b, r1, r2, r3, r4, hW, hM, hth, hO, hP⟩ := ha
        exact arm_done htr (3 * n) hi hsc ok hce1 hsl1 rm r1 r2 r3 r4 x x1 x2 k b hW hM hth hO (back x2 hP)
      · refine gg_tsw (o := 5) (tgt := 411) ok dL_law_39 (by decide) rfl rfl ?_
        have ha := hvalue x n (xs (3 * n + 1)) hn5 hst
        obtain ⟨rm, x1, x2, k, b, r1, r2, r3, r4, hW, hM, hth, hO, hP⟩ := ha
        exact arm_value htr (3 * n) hi hsc ok hce1 hsl1 rm r1 r2 r3 r4 x x1 x2 k b hW hM hth hO (back x2 hP)
      · refine gg_tsw (o := 6) (tgt := 467) ok dL_law_39 (by decide) rfl rfl ?_
        have ha := hdelay x n (xs (3 * n + 1)) hn5 hst
        obtain ⟨rm, x1, x2, k, b, r1, r2, r3, r4, hW, hM, hth, -, hP⟩ := ha
        exact arm_delay htr (3 * n) hi hsc ok hce1 hsl1 rm r1 r2 r3 r4 x x1 x2 k hW hM hth (back x2 hP)
      · refine gg_tsw (o := 7) (tgt := 503) ok dL_law_39 (by decide) rfl rfl ?_
        have ha := hahead x n (xs (3 * n + 1)) hn5 hst
        obtain ⟨x1, x2, hW, hM, hP⟩ := ha
        exact arm_ahead htr (3 * n) hi hsc ok hce1 hsl1 x x1 x2 hW hM (back x2 hP)
      · refine gg_tsw (o := 8) (tgt := 542) ok dL_law_39 (by decide) rfl rfl ?_
        have ha := hflush x n  hn5 hst
        obtain ⟨rm, x1, x2, k, b, r1, r2, r3, r4, hW, hM, hth, hO, hP⟩ := ha
        exact arm_flush htr (3 * n) hi hsc ok hce1 hsl1 rm r1 r2 r3 r4 x x1 x2 k b hW hM hth hO (back x2 hP)
      · refine gg_tsw (o := 9) (tgt := 586) ok dL_law_39 (by decide) rfl rfl ?_
        have ha := hmemory x n (xs (3 * n + 1)) hn5 hst
        obtain ⟨rm, x1, x2, k, b, r1, r2, r3, r4, hW, hM, hth, hO, hP⟩ := ha
        exact arm_memory htr (3 * n) hi hsc ok hce1 hsl1 rm r1 r2 r3 r4 x x1 x2 k b hW hM hth hO (back x2 hP)
      · refine gg_tsw (o := 10) (tgt := 642) ok dL_law_39 (by decide) rfl rfl ?_
        have ha := hway x n (xs (3 * n + 1)) (xs (3 * n + 2)) hn5 hst
        obtain ⟨rm, x1, x2, k, b, r1, r2, r3, r4, hW, hM, hth, hO, hP⟩ := ha
        exact arm_way htr (3 * n) hi hsc ok hce1 hsl1 rm r1 r2 r3 r4 x x1 x2 k b hW hM hth hO (back x2 hP)
      · refine gg_tsw (o := 11) (tgt := 710) ok dL_law_39 (by decide) rfl rfl ?_
        have ha := htargets x n (xs (3 * n + 1)) hn5 hst
        obtain ⟨rm, x1, x2, k, b, r1, r2, r3, r4, hW, hM, hth, hO, hP⟩ := ha
        exact arm_targets htr (3 * n) hi hsc ok hce1 hsl1 rm r1 r2 r3 r4 x x1 x2 k b hW hM hth hO (back x2 hP)
      · refine gg_tsw (o := 12) (tgt := 766) ok dL_law_39 (by decide) rfl rfl ?_
        have ha := hrequest x n (xs (3 * n + 1)) hn5 hst
        obtain ⟨x2, r, hW, hM, hP⟩ := ha
        exact arm_request htr (3 * n) hi hsc ok hce1 hsl1 x x2 r hW hM (back x2 hP)
      · refine gg_tsw (o := 13) (tgt := 791) ok dL_law_39 (by decide) rfl rfl ?_
        have ha := hleft x n  hn5 hst
        obtain ⟨x2, r, hW, hM, hP⟩ := ha
        exact arm_left htr (3 * n) hi hsc ok hce1 hsl1 x x2 r hW hM (back x2 hP)
      · refine gg_tsw (o := 14) (tgt := 804) ok dL_law_39 (by decide) rfl rfl ?_
        have ha := hcount x n (xs (3 * n + 1)) hn5 hst
        obtain ⟨rm, x1, x2, k, b, r1, r2, r3, r4, hW, hM, hth, hO, hP⟩ := ha
        exact arm_count htr (3 * n) hi hsc ok hce1 hsl1 rm r1 r2 r3 r4 x x1 x2 k b hW hM hth hO (back x2 hP)
      · refine gg_tswO (o := 15) (tgt := 860) ok dL_law_39 (by decide) (by decide) rfl ?_
        exact gg_wid (Nat.le_succ _) (by omega) (back x (hdef x n hst))
    · refine gg_icmp_gt (tgt := 866) ok dL_law_29 rfl ⟨fun _ => ?_, fun z => absurd (gg_gt3 (by omega) hL (by omega)) z⟩
      exact kx x n (3 * n) (by omega)
