theorem cl13 : Cond.classLink "MissRegistersLaw" 13 "java/lang/IllegalArgumentException" ∈ gg_gt := (gg_mem 207 (by decide +kernel) (by decide +kernel))
theorem cl15 : Cond.classLink "MissRegistersLaw" 15 "java/lang/IllegalStateException" ∈ gg_gt := (gg_mem 208 (by decide +kernel) (by decide +kernel))
def hhL_load : List (Nat × Nat × Nat × Nat) := [(0, 9, 12, 13), (0, 9, 15, 15)]
set_option maxRecDepth 20000 in
theorem kL_loadY (l : Launch) (x x1 : gg_X) (v : Int32) (r : Int32) (hC : gg_Cd l yX4_load cX4_load 2 (some .int) (gg_rm 6 0 0 146) true [gg_r 0 0, gg_i v] x (.inl (some (gg_i r))) x1) : gg_CdW l yL_load cL_load 4 (some .int) hhL_load (gg_rm 7 0 0 167) true [gg_r 0 0, gg_i v, gg_r 30 0] x (.inl (some (gg_i 0))) (gg_lu x1 0 r.toInt64) := by
  refine gg_ofH (by decide) (Nat.le_of_ble_eq_true rfl) ?_
  intro p e s m args below meth c D cT ad ok htab hr
  refine gg_wk ?_
  refine gg_aload_n ok dL_load_0 rfl rfl ?_
  refine gg_iconst (v := 0) ok dL_load_1 rfl ?_
  refine gg_aload_n ok dL_load_2 rfl rfl ?_
  refine gg_iload_n ok dL_load_3 rfl rfl ?_
  refine gg_callV1 ok dL_load_4 gL_7 hC (fun _ => rfl) rfl (by decide) rfl rfl (Nat.le_of_ble_eq_true rfl) (Nat.le_of_ble_eq_true rfl) (Nat.le_of_ble_eq_true rfl) (Nat.le_of_ble_eq_true rfl) (Nat.le_of_ble_eq_true rfl) ?_
  refine gg_i2l ok dL_load_7 rfl ?_
  refine gg_last ok dL_load_8 ?_
  refine gg_goto (tgt := 18) ok dL_load_9 rfl ?_
  refine gg_iconst (v := 0) ok dL_load_18 rfl ?_
  exact gg_iret ok hr (fun _ => rfl) dL_load_19 ⟨rfl, rfl⟩
set_option maxRecDepth 20000 in
theorem kL_loadS (l : Launch) (x x1 : gg_X) (v : Int32) (hC : gg_Cd l yX4_load cX4_load 2 (some .int) (gg_rm 7 1 6 146) true [gg_r 0 0, gg_i v] x (.inr 1) x1) : gg_CdW l yL_load cL_load 4 (some .int) hhL_load (gg_rm 8 1 6 167) true [gg_r 0 0, gg_i v, gg_r 30 0] x (.inl (some (gg_i 2))) x1 := by
  refine gg_ofH (by decide) (Nat.le_of_ble_eq_true rfl) ?_
  intro p e s m args below meth c D cT ad ok htab hr
  refine gg_wk ?_
  refine gg_aload_n ok dL_load_0 rfl rfl ?_
  refine gg_iconst (v := 0) ok dL_load_1 rfl ?_
  refine gg_aload_n ok dL_load_2 rfl rfl ?_
  refine gg_iload_n ok dL_load_3 rfl rfl ?_
  refine gg_callVt ok dL_load_4 gL_7 hC (fun _ => rfl) rfl (by decide) rfl rfl (Nat.le_of_ble_eq_true rfl) (Nat.le_of_ble_eq_true rfl) (Nat.le_of_ble_eq_true rfl) (Nat.le_of_ble_eq_true rfl) (Nat.le_of_ble_eq_true rfl) (gg_catch ok [⟨0, 9, 12, 13⟩] ⟨0, 9, 15, 15⟩ [] (name := "java/lang/IllegalStateException") htab (fun u hu => by rcases List.mem_singleton.mp hu with rfl; exact Or.inr ⟨by decide, "java/lang/IllegalArgumentException", cl13, ok.2.2.2.2.2.2.2.2.2.2.2.2.2.2⟩) (by decide) (by decide) cl15 (by decide +kernel) (Or.inl ⟨3, rfl, dL_load_15, rfl⟩) (by decide) rfl ?_)
  refine gg_iconst (v := 2) ok dL_load_16 rfl ?_
  exact gg_iret ok hr (fun _ => rfl) dL_load_17 ⟨rfl, rfl⟩
set_option maxRecDepth 20000 in
theorem kL_loadN (l : Launch) (x x1 : gg_X) (v : Int32) (hC : gg_Cd l yX4_load cX4_load 2 (some .int) (gg_rm 7 1 6 102) false [gg_r 0 0, gg_i v] x (.inr 0) x1) : gg_CdW l yL_load cL_load 4 (some .int) hhL_load (gg_rm 8 1 6 123) true [gg_r 0 0, gg_i v, gg_r 30 0] x (.inl (some (gg_i 1))) x1 := by
  refine gg_ofH (by decide) (Nat.le_of_ble_eq_true rfl) ?_
  intro p e s m args below meth c D cT ad ok htab hr
  refine gg_wk ?_
  refine gg_aload_n ok dL_load_0 rfl rfl ?_
  refine gg_iconst (v := 0) ok dL_load_1 rfl ?_
  refine gg_aload_n ok dL_load_2 rfl rfl ?_
  refine gg_iload_n ok dL_load_3 rfl rfl ?_
  refine gg_callVt ok dL_load_4 gL_7 hC (fun _ => rfl) rfl (by decide) rfl rfl (Nat.le_of_ble_eq_true rfl) (Nat.le_of_ble_eq_true rfl) (Nat.le_of_ble_eq_true rfl) (Nat.le_of_ble_eq_true rfl) (Nat.le_of_ble_eq_true rfl) (gg_catch ok [] ⟨0, 9, 12, 13⟩ [⟨0, 9, 15, 15⟩] (name := "java/lang/IllegalArgumentException") htab (fun u hu => by cases hu) (by decide) (by decide) cl13 (by decide +kernel) (Or.inl ⟨3, rfl, dL_load_12, rfl⟩) (by decide) rfl ?_)
  refine gg_iconst (v := 1) ok dL_load_13 rfl ?_
  exact gg_iret ok hr (fun _ => rfl) dL_load_14 ⟨rfl, rfl⟩
def hhL_store : List (Nat × Nat × Nat × Nat) := [(0, 10, 13, 13), (0, 10, 17, 15)]
set_option maxRecDepth 20000 in
theorem kL_storeY (l : Launch) (x x1 : gg_X) (v u : Int32) (r : Int32) (hC : gg_Cd l yX4_store cX4_store 3 (some .int) (gg_rm 6 0 0 146) true [gg_r 0 0, gg_i v, gg_i u] x (.inl (some (gg_i r))) x1) : gg_CdW l yL_store cL_store 5 (some .int) hhL_store (gg_rm 7 0 0 168) true [gg_r 0 0, gg_i v, gg_i u, gg_r 30 0] x (.inl (some (gg_i 0))) (gg_lu x1 0 r.toInt64) := by
  refine gg_ofH (by decide) (Nat.le_of_ble_eq_true rfl) ?_
  intro p e s m args below meth c D cT ad ok htab hr
  refine gg_wk ?_
  refine gg_aload_n ok dL_store_0 rfl rfl ?_
  refine gg_iconst (v := 0) ok dL_store_1 rfl ?_
  refine gg_aload_n ok dL_store_2 rfl rfl ?_
  refine gg_iload_n ok dL_store_3 rfl rfl ?_
  refine gg_iload_n ok dL_store_4 rfl rfl ?_
  refine gg_callV1 ok dL_store_5 gL_17 hC (fun _ => rfl) rfl (by decide) rfl rfl (Nat.le_of_ble_eq_true rfl) (Nat.le_of_ble_eq_true rfl) (Nat.le_of_ble_eq_true rfl) (Nat.le_of_ble_eq_true rfl) (Nat.le_of_ble_eq_true rfl) ?_
  refine gg_i2l ok dL_store_8 rfl ?_
  refine gg_last ok dL_store_9 ?_
  refine gg_goto (tgt := 21) ok dL_store_10 rfl ?_
  refine gg_iconst (v := 0) ok dL_store_21 rfl ?_
  exact gg_iret ok hr (fun _ => rfl) dL_store_22 ⟨rfl, rfl⟩
set_option maxRecDepth 20000 in
theorem kL_storeS (l : Launch) (x x1 : gg_X) (v u : Int32) (hC : gg_Cd l yX4_store cX4_store 3 (some .int) (gg_rm 7 1 6 146) true [gg_r 0 0, gg_i v, gg_i u] x (.inr 1) x1) : gg_CdW l yL_store cL_store 5 (some .int) hhL_store (gg_rm 8 1 6 168) true [gg_r 0 0, gg_i v, gg_i u, gg_r 30 0] x (.inl (some (gg_i 2))) x1 := by
  refine gg_ofH (by decide) (Nat.le_of_ble_eq_true rfl) ?_
  intro p e s m args below meth c D cT ad ok htab hr
  refine gg_wk ?_
  refine gg_aload_n ok dL_store_0 rfl rfl ?_
  refine gg_iconst (v := 0) ok dL_store_1 rfl ?_
  refine gg_aload_n ok dL_store_2 rfl rfl ?_
  refine gg_iload_n ok dL_store_3 rfl rfl ?_
  refine gg_iload_n ok dL_store_4 rfl rfl ?_
  refine gg_callVt ok dL_store_5 gL_17 hC (fun _ => rfl) rfl (by decide) rfl rfl (Nat.le_of_ble_eq_true rfl) (Nat.le_of_ble_eq_true rfl) (Nat.le_of_ble_eq_true rfl) (Nat.le_of_ble_eq_true rfl) (Nat.le_of_ble_eq_true rfl) (gg_catch ok [⟨0, 10, 13, 13⟩] ⟨0, 10, 17, 15⟩ [] (name := "java/lang/IllegalStateException") htab (fun u hu => by rcases List.mem_singleton.mp hu with rfl; exact Or.inr ⟨by decide, "java/lang/IllegalArgumentException", cl13, ok.2.2.2.2.2.2.2.2.2.2.2.2.2.2⟩) (by decide) (by decide) cl15 (by decide +kernel) (Or.inr ⟨dL_store_17, rfl⟩) (by decide) rfl ?_)
  refine gg_iconst (v := 2) ok dL_store_19 rfl ?_
  exact gg_iret ok hr (fun _ => rfl) dL_store_20 ⟨rfl, rfl⟩
set_option maxRecDepth 20000 in
theorem kL_storeN (l : Launch) (x x1 : gg_X) (v u : Int32) (hC : gg_Cd l yX4_store cX4_store 3 (some .int) (gg_rm 7 1 6 102) false [gg_r 0 0, gg_i v, gg_i u] x (.inr 0) x1) : gg_CdW l yL_store cL_store 5 (some .int) hhL_store (gg_rm 8 1 6 124) true [gg_r 0 0, gg_i v, gg_i u, gg_r 30 0] x (.inl (some (gg_i 1))) x1 := by
  refine gg_ofH (by decide) (Nat.le_of_ble_eq_true rfl) ?_
  intro p e s m args below meth c D cT ad ok htab hr
  refine gg_wk ?_
  refine gg_aload_n ok dL_store_0 rfl rfl ?_
  refine gg_iconst (v := 0) ok dL_store_1 rfl ?_
  refine gg_aload_n ok dL_store_2 rfl rfl ?_
  refine gg_iload_n ok dL_store_3 rfl rfl ?_
  refine gg_iload_n ok dL_store_4 rfl rfl ?_
  refine gg_callVt ok dL_store_5 gL_17 hC (fun _ => rfl) rfl (by decide) rfl rfl (Nat.le_of_ble_eq_true rfl) (Nat.le_of_ble_eq_true rfl) (Nat.le_of_ble_eq_true rfl) (Nat.le_of_ble_eq_true rfl) (Nat.le_of_ble_eq_true rfl) (gg_catch ok [] ⟨0, 10, 13, 13⟩ [⟨0, 10, 17, 15⟩] (name := "java/lang/IllegalArgumentException") htab (fun u hu => by cases hu) (by decide) (by decide) cl13 (by decide +kernel) (Or.inr ⟨dL_store_13, rfl⟩) (by decide) rfl ?_)
  refine gg_iconst (v := 1) ok dL_store_15 rfl ?_
  exact gg_iret ok hr (fun _ => rfl) dL_store_16 ⟨rfl, rfl⟩
def hhL_await : List (Nat × Nat × Nat × Nat) := [(0, 9, 12, 13)]
set_option maxRecDepth 20000 in
theorem kL_awaitY (l : Launch) (x x1 : gg_X) (v : Int32) (r : Int32) (hC : gg_Cd l yX4_await cX4_await 4 (some .int) (gg_rm 6 0 0 146) true [gg_r 0 0, gg_i v] x (.inl (some (gg_i r))) x1) : gg_CdW l yL_await cL_await 4 (some .int) hhL_await (gg_rm 7 0 0 169) true [gg_r 0 0, gg_i v, gg_r 30 0] x (.inl (some (gg_i 0))) (gg_lu x1 0 r.toInt64) := by
  refine gg_ofH (by decide) (Nat.le_of_ble_eq_true rfl) ?_
  intro p e s m args below meth c D cT ad ok htab hr
  refine gg_wk ?_
  refine gg_aload_n ok dL_await_0 rfl rfl ?_
  refine gg_iconst (v := 0) ok dL_await_1 rfl ?_
  refine gg_aload_n ok dL_await_2 rfl rfl ?_
  refine gg_iload_n ok dL_await_3 rfl rfl ?_
  refine gg_callV1 ok dL_await_4 gL_21 hC (fun _ => rfl) rfl (by decide) rfl rfl (Nat.le_of_ble_eq_true rfl) (Nat.le_of_ble_eq_true rfl) (Nat.le_of_ble_eq_true rfl) (Nat.le_of_ble_eq_true rfl) (Nat.le_of_ble_eq_true rfl) ?_
  refine gg_i2l ok dL_await_7 rfl ?_
  refine gg_last ok dL_await_8 ?_
  refine gg_goto (tgt := 15) ok dL_await_9 rfl ?_
  refine gg_iconst (v := 0) ok dL_await_15 rfl ?_
  exact gg_iret ok hr (fun _ => rfl) dL_await_16 ⟨rfl, rfl⟩
set_option maxRecDepth 20000 in
theorem kL_awaitN (l : Launch) (x x1 : gg_X) (v : Int32) (hC : gg_Cd l yX4_await cX4_await 4 (some .int) (gg_rm 7 1 6 102) false [gg_r 0 0, gg_i v] x (.inr 0) x1) : gg_CdW l yL_await cL_await 4 (some .int) hhL_await (gg_rm 8 1 6 125) true [gg_r 0 0, gg_i v, gg_r 30 0] x (.inl (some (gg_i 1))) x1 := by
  refine gg_ofH (by decide) (Nat.le_of_ble_eq_true rfl) ?_
  intro p e s m args below meth c D cT ad ok htab hr
  refine gg_wk ?_
  refine gg_aload_n ok dL_await_0 rfl rfl ?_
  refine gg_iconst (v := 0) ok dL_await_1 rfl ?_
  refine gg_aload_n ok dL_await_2 rfl rfl ?_
  refine gg_iload_n ok dL_await_3 rfl rfl ?_
  refine gg_callVt ok dL_await_4 gL_21 hC (fun _ => rfl) rfl (by decide) rfl rfl (Nat.le_of_ble_eq_true rfl) (Nat.le_of_ble_eq_true rfl) (Nat.le_of_ble_eq_true rfl) (Nat.le_of_ble_eq_true rfl) (Nat.le_of_ble_eq_true rfl) (gg_catch ok [] ⟨0, 9, 12, 13⟩ [] (name := "java/lang/IllegalArgumentException") htab (fun u hu => by cases hu) (by decide) (by decide) cl13 (by decide +kernel) (Or.inl ⟨3, rfl, dL_await_12, rfl⟩) (by decide) rfl ?_)
  refine gg_iconst (v := 1) ok dL_await_13 rfl ?_
  exact gg_iret ok hr (fun _ => rfl) dL_await_14 ⟨rfl, rfl⟩
def hhL_tick : List (Nat × Nat × Nat × Nat) := [(0, 9, 12, 13)]
set_option maxRecDepth 20000 in
theorem kL_tickY (l : Launch) (x x1 : gg_X) (v : Int32) (r : Int32) (hC : gg_Cd l yX4_tick cX4_tick 4 (some .int) (gg_rm 3 0 0 69) true [gg_r 0 0, gg_i v] x (.inl (some (gg_i r))) x1) : gg_CdW l yL_tick cL_tick 4 (some .int) hhL_tick (gg_rm 4 0 0 92) true [gg_r 0 0, gg_i v, gg_r 30 0] x (.inl (some (gg_i 0))) (gg_lu x1 0 r.toInt64) := by
  refine gg_ofH (by decide) (Nat.le_of_ble_eq_true rfl) ?_
  intro p e s m args below meth c D cT ad ok htab hr
  refine gg_wk ?_
  refine gg_aload_n ok dL_tick_0 rfl rfl ?_
  refine gg_iconst (v := 0) ok dL_tick_1 rfl ?_
  refine gg_aload_n ok dL_tick_2 rfl rfl ?_
  refine gg_iload_n ok dL_tick_3 rfl rfl ?_
  refine gg_callV1 ok dL_tick_4 gL_24 hC (fun _ => rfl) rfl (by decide) rfl rfl (Nat.le_of_ble_eq_true rfl) (Nat.le_of_ble_eq_true rfl) (Nat.le_of_ble_eq_true rfl) (Nat.le_of_ble_eq_true rfl) (Nat.le_of_ble_eq_true rfl) ?_
  refine gg_i2l ok dL_tick_7 rfl ?_
  refine gg_last ok dL_tick_8 ?_
  refine gg_goto (tgt := 15) ok dL_tick_9 rfl ?_
  refine gg_iconst (v := 0) ok dL_tick_15 rfl ?_
  exact gg_iret ok hr (fun _ => rfl) dL_tick_16 ⟨rfl, rfl⟩
set_option maxRecDepth 20000 in
theorem kL_tickN (l : Launch) (x x1 : gg_X) (v : Int32) (hC : gg_Cd l yX4_tick cX4_tick 4 (some .int) (gg_rm 6 1 6 82) false [gg_r 0 0, gg_i v] x (.inr 0) x1) : gg_CdW l yL_tick cL_tick 4 (some .int) hhL_tick (gg_rm 7 1 6 105) true [gg_r 0 0, gg_i v, gg_r 30 0] x (.inl (some (gg_i 1))) x1 := by
  refine gg_ofH (by decide) (Nat.le_of_ble_eq_true rfl) ?_
  intro p e s m args below meth c D cT ad ok htab hr
  refine gg_wk ?_
  refine gg_aload_n ok dL_tick_0 rfl rfl ?_
  refine gg_iconst (v := 0) ok dL_tick_1 rfl ?_
  refine gg_aload_n ok dL_tick_2 rfl rfl ?_
  refine gg_iload_n ok dL_tick_3 rfl rfl ?_
  refine gg_callVt ok dL_tick_4 gL_24 hC (fun _ => rfl) rfl (by decide) rfl rfl (Nat.le_of_ble_eq_true rfl) (Nat.le_of_ble_eq_true rfl) (Nat.le_of_ble_eq_true rfl) (Nat.le_of_ble_eq_true rfl) (Nat.le_of_ble_eq_true rfl) (gg_catch ok [] ⟨0, 9, 12, 13⟩ [] (name := "java/lang/IllegalArgumentException") htab (fun u hu => by cases hu) (by decide) (by decide) cl13 (by decide +kernel) (Or.inl ⟨3, rfl, dL_tick_12, rfl⟩) (by decide) rfl ?_)
  refine gg_iconst (v := 1) ok dL_tick_13 rfl ?_
  exact gg_iret ok hr (fun _ => rfl) dL_tick_14 ⟨rfl, rfl⟩
def hhL_done : List (Nat × Nat × Nat × Nat) := [(0, 16, 19, 13)]
set_option maxRecDepth 20000 in
theorem kL_doneY (l : Launch) (x x1 : gg_X) (v : Int32) (r : Int32) (hC : gg_Cd l yX4_done cX4_done 2 (some .boolean) (gg_rm 1 0 0 21) false [gg_r 0 0, gg_i v] x (.inl (some (gg_i r))) x1) : gg_CdW l yL_done cL_done 4 (some .int) hhL_done (gg_rm 2 0 0 42) true [gg_r 0 0, gg_i v, gg_r 30 0] x (.inl (some (gg_i 0))) (gg_lu x1 0 (if r = 0 then 0 else 1)) := by
  refine gg_ofH (by decide) (Nat.le_of_ble_eq_true rfl) ?_
  intro p e s m args below meth c D cT ad ok htab hr
  refine gg_wk ?_
  refine gg_aload_n ok dL_done_0 rfl rfl ?_
  refine gg_iconst (v := 0) ok dL_done_1 rfl ?_
  refine gg_aload_n ok dL_done_2 rfl rfl ?_
  refine gg_iload_n ok dL_done_3 rfl rfl ?_
  refine gg_callV1 ok dL_done_4 gL_27 hC (fun _ => rfl) rfl (by decide) rfl rfl (Nat.le_of_ble_eq_true rfl) (Nat.le_of_ble_eq_true rfl) (Nat.le_of_ble_eq_true rfl) (Nat.le_of_ble_eq_true rfl) (Nat.le_of_ble_eq_true rfl) ?_
  refine gg_if_eq (tgt := 14) ok dL_done_7 rfl ⟨fun hz => ?_, fun hz => ?_⟩
  ·
    refine gg_lconst (v := 0) ok dL_done_14 rfl ?_
    refine gg_last ok dL_done_15 ?_
    refine gg_goto (tgt := 22) ok dL_done_16 rfl ?_
    refine gg_iconst (v := 0) ok dL_done_22 rfl ?_
    exact gg_iret ok hr (fun _ => rfl) dL_done_23 ⟨rfl, by rw [if_pos hz]⟩
  ·
    refine gg_lconst (v := 1) ok dL_done_10 rfl ?_
    refine gg_goto (tgt := 15) ok dL_done_11 rfl ?_
    refine gg_last ok dL_done_15 ?_
    refine gg_goto (tgt := 22) ok dL_done_16 rfl ?_
    refine gg_iconst (v := 0) ok dL_done_22 rfl ?_
    exact gg_iret ok hr (fun _ => rfl) dL_done_23 ⟨rfl, by rw [if_neg hz]⟩
set_option maxRecDepth 20000 in
theorem kL_doneN (l : Launch) (x x1 : gg_X) (v : Int32) (hC : gg_Cd l yX4_done cX4_done 2 (some .boolean) (gg_rm 7 1 6 103) false [gg_r 0 0, gg_i v] x (.inr 0) x1) : gg_CdW l yL_done cL_done 4 (some .int) hhL_done (gg_rm 8 1 6 124) true [gg_r 0 0, gg_i v, gg_r 30 0] x (.inl (some (gg_i 1))) x1 := by
  refine gg_ofH (by decide) (Nat.le_of_ble_eq_true rfl) ?_
  intro p e s m args below meth c D cT ad ok htab hr
  refine gg_wk ?_
  refine gg_aload_n ok dL_done_0 rfl rfl ?_
  refine gg_iconst (v := 0) ok dL_done_1 rfl ?_
  refine gg_aload_n ok dL_done_2 rfl rfl ?_
  refine gg_iload_n ok dL_done_3 rfl rfl ?_
  refine gg_callVt ok dL_done_4 gL_27 hC (fun _ => rfl) rfl (by decide) rfl rfl (Nat.le_of_ble_eq_true rfl) (Nat.le_of_ble_eq_true rfl) (Nat.le_of_ble_eq_true rfl) (Nat.le_of_ble_eq_true rfl) (Nat.le_of_ble_eq_true rfl) (gg_catch ok [] ⟨0, 16, 19, 13⟩ [] (name := "java/lang/IllegalArgumentException") htab (fun u hu => by cases hu) (by decide) (by decide) cl13 (by decide +kernel) (Or.inl ⟨3, rfl, dL_done_19, rfl⟩) (by decide) rfl ?_)
  refine gg_iconst (v := 1) ok dL_done_20 rfl ?_
  exact gg_iret ok hr (fun _ => rfl) dL_done_21 ⟨rfl, rfl⟩
def hhL_value : List (Nat × Nat × Nat × Nat) := [(0, 9, 12, 13), (0, 9, 15, 15)]
set_option maxRecDepth 20000 in
theorem kL_valueY (l : Launch) (x x1 : gg_X) (v : Int32) (r : Int32) (hC : gg_Cd l yX4_value cX4_value 2 (some .int) (gg_rm 1 0 0 21) false [gg_r 0 0, gg_i v] x (.inl (some (gg_i r))) x1) : gg_CdW l yL_value cL_value 4 (some .int) hhL_value (gg_rm 2 0 0 42) true [gg_r 0 0, gg_i v, gg_r 30 0] x (.inl (some (gg_i 0))) (gg_lu x1 0 r.toInt64) := by
  refine gg_ofH (by decide) (Nat.le_of_ble_eq_true rfl) ?_
  intro p e s m args below meth c D cT ad ok htab hr
  refine gg_wk ?_
  refine gg_aload_n ok dL_value_0 rfl rfl ?_
  refine gg_iconst (v := 0) ok dL_value_1 rfl ?_
  refine gg_aload_n ok dL_value_2 rfl rfl ?_
  refine gg_iload_n ok dL_value_3 rfl rfl ?_
  refine gg_callV1 ok dL_value_4 gL_31 hC (fun _ => rfl) rfl (by decide) rfl rfl (Nat.le_of_ble_eq_true rfl) (Nat.le_of_ble_eq_true rfl) (Nat.le_of_ble_eq_true rfl) (Nat.le_of_ble_eq_true rfl) (Nat.le_of_ble_eq_true rfl) ?_
  refine gg_i2l ok dL_value_7 rfl ?_
  refine gg_last ok dL_value_8 ?_
  refine gg_goto (tgt := 18) ok dL_value_9 rfl ?_
  refine gg_iconst (v := 0) ok dL_value_18 rfl ?_
  exact gg_iret ok hr (fun _ => rfl) dL_value_19 ⟨rfl, rfl⟩
set_option maxRecDepth 20000 in
theorem kL_valueS (l : Launch) (x x1 : gg_X) (v : Int32) (hC : gg_Cd l yX4_value cX4_value 2 (some .int) (gg_rm 6 1 6 82) false [gg_r 0 0, gg_i v] x (.inr 1) x1) : gg_CdW l yL_value cL_value 4 (some .int) hhL_value (gg_rm 7 1 6 103) true [gg_r 0 0, gg_i v, gg_r 30 0] x (.inl (some (gg_i 2))) x1 := by
  refine gg_ofH (by decide) (Nat.le_of_ble_eq_true rfl) ?_
  intro p e s m args below meth c D cT ad ok htab hr
  refine gg_wk ?_
  refine gg_aload_n ok dL_value_0 rfl rfl ?_
  refine gg_iconst (v := 0) ok dL_value_1 rfl ?_
  refine gg_aload_n ok dL_value_2 rfl rfl ?_
  refine gg_iload_n ok dL_value_3 rfl rfl ?_
  refine gg_callVt ok dL_value_4 gL_31 hC (fun _ => rfl) rfl (by decide) rfl rfl (Nat.le_of_ble_eq_true rfl) (Nat.le_of_ble_eq_true rfl) (Nat.le_of_ble_eq_true rfl) (Nat.le_of_ble_eq_true rfl) (Nat.le_of_ble_eq_true rfl) (gg_catch ok [⟨0, 9, 12, 13⟩] ⟨0, 9, 15, 15⟩ [] (name := "java/lang/IllegalStateException") htab (fun u hu => by rcases List.mem_singleton.mp hu with rfl; exact Or.inr ⟨by decide, "java/lang/IllegalArgumentException", cl13, ok.2.2.2.2.2.2.2.2.2.2.2.2.2.2⟩) (by decide) (by decide) cl15 (by decide +kernel) (Or.inl ⟨3, rfl, dL_value_15, rfl⟩) (by decide) rfl ?_)
  refine gg_iconst (v := 2) ok dL_value_16 rfl ?_
  exact gg_iret ok hr (fun _ => rfl) dL_value_17 ⟨rfl, rfl⟩
set_option maxRecDepth 20000 in
theorem kL_valueN (l : Launch) (x x1 : gg_X) (v : Int32) (hC : gg_Cd l yX4_value cX4_value 2 (some .int) (gg_rm 7 1 6 103) false [gg_r 0 0, gg_i v] x (.inr 0) x1) : gg_CdW l yL_value cL_value 4 (some .int) hhL_value (gg_rm 8 1 6 124) true [gg_r 0 0, gg_i v, gg_r 30 0] x (.inl (some (gg_i 1))) x1 := by
  refine gg_ofH (by decide) (Nat.le_of_ble_eq_true rfl) ?_
  intro p e s m args below meth c D cT ad ok htab hr
  refine gg_wk ?_
  refine gg_aload_n ok dL_value_0 rfl rfl ?_
  refine gg_iconst (v := 0) ok dL_value_1 rfl ?_
  refine gg_aload_n ok dL_value_2 rfl rfl ?_
  refine gg_iload_n ok dL_value_3 rfl rfl ?_
  refine gg_callVt ok dL_value_4 gL_31 hC (fun _ => rfl) rfl (by decide) rfl rfl (Nat.le_of_ble_eq_true rfl) (Nat.le_of_ble_eq_true rfl) (Nat.le_of_ble_eq_true rfl) (Nat.le_of_ble_eq_true rfl) (Nat.le_of_ble_eq_true rfl) (gg_catch ok [] ⟨0, 9, 12, 13⟩ [⟨0, 9, 15, 15⟩] (name := "java/lang/IllegalArgumentException") htab (fun u hu => by cases hu) (by decide) (by decide) cl13 (by decide +kernel) (Or.inl ⟨3, rfl, dL_value_12, rfl⟩) (by decide) rfl ?_)
  refine gg_iconst (v := 1) ok dL_value_13 rfl ?_
  exact gg_iret ok hr (fun _ => rfl) dL_value_14 ⟨rfl, rfl⟩
def hhL_delay : List (Nat × Nat × Nat × Nat) := [(0, 5, 8, 13)]
set_option maxRecDepth 20000 in
theorem kL_delayY (l : Launch) (x x1 : gg_X) (v : Int32) (hC : gg_Cd l yX4_delay cX4_delay 2 none (gg_rm 0 0 0 0) true [gg_r 0 0, gg_i v] x (.inl none) x1) : gg_CdW l yL_delay cL_delay 3 (some .int) hhL_delay (gg_rm 1 0 0 21) true [gg_r 0 0, gg_i v] x (.inl (some (gg_i 0))) x1 := by
  refine gg_ofH (by decide) (Nat.le_of_ble_eq_true rfl) ?_
  intro p e s m args below meth c D cT ad ok htab hr
  refine gg_wk ?_
  refine gg_aload_n ok dL_delay_0 rfl rfl ?_
  refine gg_iload_n ok dL_delay_1 rfl rfl ?_
  refine gg_callV0 ok dL_delay_2 gL_34 hC (fun _ => rfl) rfl (by decide) rfl rfl (Nat.le_of_ble_eq_true rfl) (Nat.le_of_ble_eq_true rfl) (Nat.le_of_ble_eq_true rfl) (Nat.le_of_ble_eq_true rfl) (Nat.le_of_ble_eq_true rfl) ?_
  refine gg_goto (tgt := 11) ok dL_delay_5 rfl ?_
  refine gg_iconst (v := 0) ok dL_delay_11 rfl ?_
  exact gg_iret ok hr (fun _ => rfl) dL_delay_12 ⟨rfl, rfl⟩
set_option maxRecDepth 20000 in
theorem kL_delayN (l : Launch) (x x1 : gg_X) (v : Int32) (hC : gg_Cd l yX4_delay cX4_delay 2 none (gg_rm 6 1 6 82) false [gg_r 0 0, gg_i v] x (.inr 0) x1) : gg_CdW l yL_delay cL_delay 3 (some .int) hhL_delay (gg_rm 7 1 6 103) true [gg_r 0 0, gg_i v] x (.inl (some (gg_i 1))) x1 := by
  refine gg_ofH (by decide) (Nat.le_of_ble_eq_true rfl) ?_
  intro p e s m args below meth c D cT ad ok htab hr
  refine gg_wk ?_
  refine gg_aload_n ok dL_delay_0 rfl rfl ?_
  refine gg_iload_n ok dL_delay_1 rfl rfl ?_
  refine gg_callVt ok dL_delay_2 gL_34 hC (fun _ => rfl) rfl (by decide) rfl rfl (Nat.le_of_ble_eq_true rfl) (Nat.le_of_ble_eq_true rfl) (Nat.le_of_ble_eq_true rfl) (Nat.le_of_ble_eq_true rfl) (Nat.le_of_ble_eq_true rfl) (gg_catch ok [] ⟨0, 5, 8, 13⟩ [] (name := "java/lang/IllegalArgumentException") htab (fun u hu => by cases hu) (by decide) (by decide) cl13 (by decide +kernel) (Or.inl ⟨2, rfl, dL_delay_8, rfl⟩) (by decide) rfl ?_)
  refine gg_iconst (v := 1) ok dL_delay_9 rfl ?_
  exact gg_iret ok hr (fun _ => rfl) dL_delay_10 ⟨rfl, rfl⟩
def hhL_flush : List (Nat × Nat × Nat × Nat) := [(0, 8, 11, 15)]
set_option maxRecDepth 20000 in
theorem kL_flushY (l : Launch) (x x1 : gg_X)  (r : Int32) (hC : gg_Cd l yX4_flush cX4_flush 3 (some .int) (gg_rm 1 0 0 23) true [gg_r 0 0] x (.inl (some (gg_i r))) x1) : gg_CdW l yL_flush cL_flush 3 (some .int) hhL_flush (gg_rm 2 0 0 45) true [gg_r 0 0, gg_r 30 0] x (.inl (some (gg_i 0))) (gg_lu x1 0 r.toInt64) := by
  refine gg_ofH (by decide) (Nat.le_of_ble_eq_true rfl) ?_
  intro p e s m args below meth c D cT ad ok htab hr
  refine gg_wk ?_
  refine gg_aload_n ok dL_flush_0 rfl rfl ?_
  refine gg_iconst (v := 0) ok dL_flush_1 rfl ?_
  refine gg_aload_n ok dL_flush_2 rfl rfl ?_
  refine gg_callV1 ok dL_flush_3 gL_38 hC (fun _ => rfl) rfl (by decide) rfl rfl (Nat.le_of_ble_eq_true rfl) (Nat.le_of_ble_eq_true rfl) (Nat.le_of_ble_eq_true rfl) (Nat.le_of_ble_eq_true rfl) (Nat.le_of_ble_eq_true rfl) ?_
  refine gg_i2l ok dL_flush_6 rfl ?_
  refine gg_last ok dL_flush_7 ?_
  refine gg_goto (tgt := 14) ok dL_flush_8 rfl ?_
  refine gg_iconst (v := 0) ok dL_flush_14 rfl ?_
  exact gg_iret ok hr (fun _ => rfl) dL_flush_15 ⟨rfl, rfl⟩
set_option maxRecDepth 20000 in
theorem kL_flushN (l : Launch) (x x1 : gg_X)  (hC : gg_Cd l yX4_flush cX4_flush 3 (some .int) (gg_rm 6 1 6 82) false [gg_r 0 0] x (.inr 1) x1) : gg_CdW l yL_flush cL_flush 3 (some .int) hhL_flush (gg_rm 7 1 6 104) true [gg_r 0 0, gg_r 30 0] x (.inl (some (gg_i 1))) x1 := by
  refine gg_ofH (by decide) (Nat.le_of_ble_eq_true rfl) ?_
  intro p e s m args below meth c D cT ad ok htab hr
  refine gg_wk ?_
  refine gg_aload_n ok dL_flush_0 rfl rfl ?_
  refine gg_iconst (v := 0) ok dL_flush_1 rfl ?_
  refine gg_aload_n ok dL_flush_2 rfl rfl ?_
  refine gg_callVt ok dL_flush_3 gL_38 hC (fun _ => rfl) rfl (by decide) rfl rfl (Nat.le_of_ble_eq_true rfl) (Nat.le_of_ble_eq_true rfl) (Nat.le_of_ble_eq_true rfl) (Nat.le_of_ble_eq_true rfl) (Nat.le_of_ble_eq_true rfl) (gg_catch ok [] ⟨0, 8, 11, 15⟩ [] (name := "java/lang/IllegalStateException") htab (fun u hu => by cases hu) (by decide) (by decide) cl15 (by decide +kernel) (Or.inl ⟨2, rfl, dL_flush_11, rfl⟩) (by decide) rfl ?_)
  refine gg_iconst (v := 1) ok dL_flush_12 rfl ?_
  exact gg_iret ok hr (fun _ => rfl) dL_flush_13 ⟨rfl, rfl⟩
def hhL_memory : List (Nat × Nat × Nat × Nat) := [(0, 9, 12, 13)]
set_option maxRecDepth 20000 in
theorem kL_memoryY (l : Launch) (x x1 : gg_X) (v : Int32) (r : Int32) (hC : gg_Cd l yX4_memory cX4_memory 2 (some .int) (gg_rm 1 0 0 20) false [gg_r 0 0, gg_i v] x (.inl (some (gg_i r))) x1) : gg_CdW l yL_memory cL_memory 4 (some .int) hhL_memory (gg_rm 2 0 0 41) true [gg_r 0 0, gg_i v, gg_r 30 0] x (.inl (some (gg_i 0))) (gg_lu x1 0 r.toInt64) := by
  refine gg_ofH (by decide) (Nat.le_of_ble_eq_true rfl) ?_
  intro p e s m args below meth c D cT ad ok htab hr
  refine gg_wk ?_
  refine gg_aload_n ok dL_memory_0 rfl rfl ?_
  refine gg_iconst (v := 0) ok dL_memory_1 rfl ?_
  refine gg_aload_n ok dL_memory_2 rfl rfl ?_
  refine gg_iload_n ok dL_memory_3 rfl rfl ?_
  refine gg_callV1 ok dL_memory_4 gL_42 hC (fun _ => rfl) rfl (by decide) rfl rfl (Nat.le_of_ble_eq_true rfl) (Nat.le_of_ble_eq_true rfl) (Nat.le_of_ble_eq_true rfl) (Nat.le_of_ble_eq_true rfl) (Nat.le_of_ble_eq_true rfl) ?_
  refine gg_i2l ok dL_memory_7 rfl ?_
  refine gg_last ok dL_memory_8 ?_
  refine gg_goto (tgt := 15) ok dL_memory_9 rfl ?_
  refine gg_iconst (v := 0) ok dL_memory_15 rfl ?_
  exact gg_iret ok hr (fun _ => rfl) dL_memory_16 ⟨rfl, rfl⟩
set_option maxRecDepth 20000 in
theorem kL_memoryN (l : Launch) (x x1 : gg_X) (v : Int32) (hC : gg_Cd l yX4_memory cX4_memory 2 (some .int) (gg_rm 7 1 6 102) false [gg_r 0 0, gg_i v] x (.inr 0) x1) : gg_CdW l yL_memory cL_memory 4 (some .int) hhL_memory (gg_rm 8 1 6 123) true [gg_r 0 0, gg_i v, gg_r 30 0] x (.inl (some (gg_i 1))) x1 := by
  refine gg_ofH (by decide) (Nat.le_of_ble_eq_true rfl) ?_
  intro p e s m args below meth c D cT ad ok htab hr
  refine gg_wk ?_
  refine gg_aload_n ok dL_memory_0 rfl rfl ?_
  refine gg_iconst (v := 0) ok dL_memory_1 rfl ?_
  refine gg_aload_n ok dL_memory_2 rfl rfl ?_
  refine gg_iload_n ok dL_memory_3 rfl rfl ?_
  refine gg_callVt ok dL_memory_4 gL_42 hC (fun _ => rfl) rfl (by decide) rfl rfl (Nat.le_of_ble_eq_true rfl) (Nat.le_of_ble_eq_true rfl) (Nat.le_of_ble_eq_true rfl) (Nat.le_of_ble_eq_true rfl) (Nat.le_of_ble_eq_true rfl) (gg_catch ok [] ⟨0, 9, 12, 13⟩ [] (name := "java/lang/IllegalArgumentException") htab (fun u hu => by cases hu) (by decide) (by decide) cl13 (by decide +kernel) (Or.inl ⟨3, rfl, dL_memory_12, rfl⟩) (by decide) rfl ?_)
  refine gg_iconst (v := 1) ok dL_memory_13 rfl ?_
  exact gg_iret ok hr (fun _ => rfl) dL_memory_14 ⟨rfl, rfl⟩
def hhL_way : List (Nat × Nat × Nat × Nat) := [(0, 10, 13, 13)]
set_option maxRecDepth 20000 in
theorem kL_wayY (l : Launch) (x x1 : gg_X) (v u : Int32) (r : Int32) (hC : gg_Cd l yX4_way cX4_way 4 (some .int) (gg_rm 0 0 0 0) false [gg_r 0 0, gg_i v, gg_i u] x (.inl (some (gg_i r))) x1) : gg_CdW l yL_way cL_way 5 (some .int) hhL_way (gg_rm 1 0 0 23) true [gg_r 0 0, gg_i v, gg_i u, gg_r 30 0] x (.inl (some (gg_i 0))) (gg_lu x1 0 r.toInt64) := by
  refine gg_ofH (by decide) (Nat.le_of_ble_eq_true rfl) ?_
  intro p e s m args below meth c D cT ad ok htab hr
  refine gg_wk ?_
  refine gg_aload_n ok dL_way_0 rfl rfl ?_
  refine gg_iconst (v := 0) ok dL_way_1 rfl ?_
  refine gg_aload_n ok dL_way_2 rfl rfl ?_
  refine gg_iload_n ok dL_way_3 rfl rfl ?_
  refine gg_iload_n ok dL_way_4 rfl rfl ?_
  refine gg_callV1 ok dL_way_5 gL_45 hC (fun _ => rfl) rfl (by decide) rfl rfl (Nat.le_of_ble_eq_true rfl) (Nat.le_of_ble_eq_true rfl) (Nat.le_of_ble_eq_true rfl) (Nat.le_of_ble_eq_true rfl) (Nat.le_of_ble_eq_true rfl) ?_
  refine gg_i2l ok dL_way_8 rfl ?_
  refine gg_last ok dL_way_9 ?_
  refine gg_goto (tgt := 17) ok dL_way_10 rfl ?_
  refine gg_iconst (v := 0) ok dL_way_17 rfl ?_
  exact gg_iret ok hr (fun _ => rfl) dL_way_18 ⟨rfl, rfl⟩
set_option maxRecDepth 20000 in
theorem kL_wayN (l : Launch) (x x1 : gg_X) (v u : Int32) (hC : gg_Cd l yX4_way cX4_way 4 (some .int) (gg_rm 6 1 6 82) false [gg_r 0 0, gg_i v, gg_i u] x (.inr 0) x1) : gg_CdW l yL_way cL_way 5 (some .int) hhL_way (gg_rm 7 1 6 105) true [gg_r 0 0, gg_i v, gg_i u, gg_r 30 0] x (.inl (some (gg_i 1))) x1 := by
  refine gg_ofH (by decide) (Nat.le_of_ble_eq_true rfl) ?_
  intro p e s m args below meth c D cT ad ok htab hr
  refine gg_wk ?_
  refine gg_aload_n ok dL_way_0 rfl rfl ?_
  refine gg_iconst (v := 0) ok dL_way_1 rfl ?_
  refine gg_aload_n ok dL_way_2 rfl rfl ?_
  refine gg_iload_n ok dL_way_3 rfl rfl ?_
  refine gg_iload_n ok dL_way_4 rfl rfl ?_
  refine gg_callVt ok dL_way_5 gL_45 hC (fun _ => rfl) rfl (by decide) rfl rfl (Nat.le_of_ble_eq_true rfl) (Nat.le_of_ble_eq_true rfl) (Nat.le_of_ble_eq_true rfl) (Nat.le_of_ble_eq_true rfl) (Nat.le_of_ble_eq_true rfl) (gg_catch ok [] ⟨0, 10, 13, 13⟩ [] (name := "java/lang/IllegalArgumentException") htab (fun u hu => by cases hu) (by decide) (by decide) cl13 (by decide +kernel) (Or.inr ⟨dL_way_13, rfl⟩) (by decide) rfl ?_)
  refine gg_iconst (v := 1) ok dL_way_15 rfl ?_
  exact gg_iret ok hr (fun _ => rfl) dL_way_16 ⟨rfl, rfl⟩
def hhL_targets : List (Nat × Nat × Nat × Nat) := [(0, 9, 12, 13)]
set_option maxRecDepth 20000 in
theorem kL_targetsY (l : Launch) (x x1 : gg_X) (v : Int32) (r : Int32) (hC : gg_Cd l yX4_targets cX4_targets 3 (some .int) (gg_rm 1 0 0 23) false [gg_r 0 0, gg_i v] x (.inl (some (gg_i r))) x1) : gg_CdW l yL_targets cL_targets 4 (some .int) hhL_targets (gg_rm 2 0 0 45) true [gg_r 0 0, gg_i v, gg_r 30 0] x (.inl (some (gg_i 0))) (gg_lu x1 0 r.toInt64) := by
  refine gg_ofH (by decide) (Nat.le_of_ble_eq_true rfl) ?_
  intro p e s m args below meth c D cT ad ok htab hr
  refine gg_wk ?_
  refine gg_aload_n ok dL_targets_0 rfl rfl ?_
  refine gg_iconst (v := 0) ok dL_targets_1 rfl ?_
  refine gg_aload_n ok dL_targets_2 rfl rfl ?_
  refine gg_iload_n ok dL_targets_3 rfl rfl ?_
  refine gg_callV1 ok dL_targets_4 gL_48 hC (fun _ => rfl) rfl (by decide) rfl rfl (Nat.le_of_ble_eq_true rfl) (Nat.le_of_ble_eq_true rfl) (Nat.le_of_ble_eq_true rfl) (Nat.le_of_ble_eq_true rfl) (Nat.le_of_ble_eq_true rfl) ?_
  refine gg_i2l ok dL_targets_7 rfl ?_
  refine gg_last ok dL_targets_8 ?_
  refine gg_goto (tgt := 15) ok dL_targets_9 rfl ?_
  refine gg_iconst (v := 0) ok dL_targets_15 rfl ?_
  exact gg_iret ok hr (fun _ => rfl) dL_targets_16 ⟨rfl, rfl⟩
set_option maxRecDepth 20000 in
theorem kL_targetsN (l : Launch) (x x1 : gg_X) (v : Int32) (hC : gg_Cd l yX4_targets cX4_targets 3 (some .int) (gg_rm 6 1 6 82) false [gg_r 0 0, gg_i v] x (.inr 0) x1) : gg_CdW l yL_targets cL_targets 4 (some .int) hhL_targets (gg_rm 7 1 6 104) true [gg_r 0 0, gg_i v, gg_r 30 0] x (.inl (some (gg_i 1))) x1 := by
  refine gg_ofH (by decide) (Nat.le_of_ble_eq_true rfl) ?_
  intro p e s m args below meth c D cT ad ok htab hr
  refine gg_wk ?_
  refine gg_aload_n ok dL_targets_0 rfl rfl ?_
  refine gg_iconst (v := 0) ok dL_targets_1 rfl ?_
  refine gg_aload_n ok dL_targets_2 rfl rfl ?_
  refine gg_iload_n ok dL_targets_3 rfl rfl ?_
  refine gg_callVt ok dL_targets_4 gL_48 hC (fun _ => rfl) rfl (by decide) rfl rfl (Nat.le_of_ble_eq_true rfl) (Nat.le_of_ble_eq_true rfl) (Nat.le_of_ble_eq_true rfl) (Nat.le_of_ble_eq_true rfl) (Nat.le_of_ble_eq_true rfl) (gg_catch ok [] ⟨0, 9, 12, 13⟩ [] (name := "java/lang/IllegalArgumentException") htab (fun u hu => by cases hu) (by decide) (by decide) cl13 (by decide +kernel) (Or.inl ⟨3, rfl, dL_targets_12, rfl⟩) (by decide) rfl ?_)
  refine gg_iconst (v := 1) ok dL_targets_13 rfl ?_
  exact gg_iret ok hr (fun _ => rfl) dL_targets_14 ⟨rfl, rfl⟩
def hhL_count : List (Nat × Nat × Nat × Nat) := [(0, 9, 12, 13)]
set_option maxRecDepth 20000 in
theorem kL_countY (l : Launch) (x x1 : gg_X) (v : Int32) (r : Int32) (hC : gg_Cd l yX4_count cX4_count 2 (some .int) (gg_rm 0 0 0 0) false [gg_r 0 0, gg_i v] x (.inl (some (gg_i r))) x1) : gg_CdW l yL_count cL_count 4 (some .int) hhL_count (gg_rm 1 0 0 21) true [gg_r 0 0, gg_i v, gg_r 30 0] x (.inl (some (gg_i 0))) (gg_lu x1 0 r.toInt64) := by
  refine gg_ofH (by decide) (Nat.le_of_ble_eq_true rfl) ?_
  intro p e s m args below meth c D cT ad ok htab hr
  refine gg_wk ?_
  refine gg_aload_n ok dL_count_0 rfl rfl ?_
  refine gg_iconst (v := 0) ok dL_count_1 rfl ?_
  refine gg_aload_n ok dL_count_2 rfl rfl ?_
  refine gg_iload_n ok dL_count_3 rfl rfl ?_
  refine gg_callV1 ok dL_count_4 gL_51 hC (fun _ => rfl) rfl (by decide) rfl rfl (Nat.le_of_ble_eq_true rfl) (Nat.le_of_ble_eq_true rfl) (Nat.le_of_ble_eq_true rfl) (Nat.le_of_ble_eq_true rfl) (Nat.le_of_ble_eq_true rfl) ?_
  refine gg_i2l ok dL_count_7 rfl ?_
  refine gg_last ok dL_count_8 ?_
  refine gg_goto (tgt := 15) ok dL_count_9 rfl ?_
  refine gg_iconst (v := 0) ok dL_count_15 rfl ?_
  exact gg_iret ok hr (fun _ => rfl) dL_count_16 ⟨rfl, rfl⟩
set_option maxRecDepth 20000 in
theorem kL_countN (l : Launch) (x x1 : gg_X) (v : Int32) (hC : gg_Cd l yX4_count cX4_count 2 (some .int) (gg_rm 6 1 6 82) false [gg_r 0 0, gg_i v] x (.inr 0) x1) : gg_CdW l yL_count cL_count 4 (some .int) hhL_count (gg_rm 7 1 6 103) true [gg_r 0 0, gg_i v, gg_r 30 0] x (.inl (some (gg_i 1))) x1 := by
  refine gg_ofH (by decide) (Nat.le_of_ble_eq_true rfl) ?_
  intro p e s m args below meth c D cT ad ok htab hr
  refine gg_wk ?_
  refine gg_aload_n ok dL_count_0 rfl rfl ?_
  refine gg_iconst (v := 0) ok dL_count_1 rfl ?_
  refine gg_aload_n ok dL_count_2 rfl rfl ?_
  refine gg_iload_n ok dL_count_3 rfl rfl ?_
  refine gg_callVt ok dL_count_4 gL_51 hC (fun _ => rfl) rfl (by decide) rfl rfl (Nat.le_of_ble_eq_true rfl) (Nat.le_of_ble_eq_true rfl) (Nat.le_of_ble_eq_true rfl) (Nat.le_of_ble_eq_true rfl) (Nat.le_of_ble_eq_true rfl) (gg_catch ok [] ⟨0, 9, 12, 13⟩ [] (name := "java/lang/IllegalArgumentException") htab (fun u hu => by cases hu) (by decide) (by decide) cl13 (by decide +kernel) (Or.inl ⟨3, rfl, dL_count_12, rfl⟩) (by decide) rfl ?_)
  refine gg_iconst (v := 1) ok dL_count_13 rfl ?_
  exact gg_iret ok hr (fun _ => rfl) dL_count_14 ⟨rfl, rfl⟩
