set_option maxRecDepth 20000 in
theorem lpX5_sh {p : Program} {l : Launch} {e : Env} {s : State} {m : MethodId} {args : Array Value} {below : List Frame} {meth : Method} {c : Code} {Q : State → Prop} {D : va_G} {cT : Nat → ClassId} {ad : Nat → Nat → Nat} (htr : l.stackTraces = false) (x : gg_X) (q : Int32) (n : Nat) (hn : x.1 17 0 12 = nI n) (hn5 : n < 5) (ok : gg_Ok p s m args meth c cX5_finish 5 RX5 D cT ad) (kx : gg_G p l e (gg_rm 1 0 0 23) s m args below meth c 5 D cT ad Q true 0 0 (md_sh x n) 196 [(3, gg_i (nI n)), (2, gg_i q), (0, gg_r 17 0)] []) : ∀ j k, k + j = n → gg_G p l e (gg_rm 1 0 0 23) s m args below meth c 5 D cT ad Q true 0 0 (md_sh x k) 168 [(3, gg_i (nI k)), (2, gg_i q), (0, gg_r 17 0)] [] := by
  intro j
  induction j with
  | zero =>
    intro k hk
    obtain rfl : k = n := by omega
    refine gg_iload_n ok dX5_finish_168 rfl rfl ?_
    refine gg_aload_n ok dX5_finish_169 rfl rfl ?_
    refine gg_geti (v := nI k) ok dX5_finish_170 fX5_57 rfl (by decide) rfl ((md_sh_o (by decide) k).trans hn) ?_
    refine gg_icmp_ge (tgt := 196) ok dX5_finish_173 rfl ⟨fun _ => ?_, fun z => absurd (nI_le (Nat.le_refl _) (by omega)) z⟩
    exact kx
  | succ j ih =>
    intro k hk
    have h9 := ih (k + 1) (by omega)
    refine gg_iload_n ok dX5_finish_168 rfl rfl ?_
    refine gg_aload_n ok dX5_finish_169 rfl rfl ?_
    refine gg_geti (v := nI n) ok dX5_finish_170 fX5_57 rfl (by decide) rfl ((md_sh_o (by decide) k).trans hn) ?_
    refine gg_icmp_ge (tgt := 196) ok dX5_finish_173 rfl ⟨fun z => absurd z (nI_ge (by omega) (by omega)), fun _ => ?_⟩
    refine gg_aload_n ok dX5_finish_176 rfl rfl ?_
    refine gg_getr ok dX5_finish_177 fX5_38 rfl (by decide) rfl ?_
    refine gg_iload_n ok dX5_finish_180 rfl rfl ?_
    refine gg_aload_n ok dX5_finish_181 rfl rfl ?_
    refine gg_getr ok dX5_finish_182 fX5_38 rfl (by decide) rfl ?_
    refine gg_iload_n ok dX5_finish_185 rfl rfl ?_
    refine gg_iconst (v := 1) ok dX5_finish_186 rfl ?_
    refine gg_iadd (v := nI (k + 1)) ok dX5_finish_187 (nI_add k 1) ?_
    refine gg_iald ok dX5_finish_188 rfl (by decide) (gg_ixn (q := k + 1) (by omega)) rfl ?_
    refine gg_iast ok dX5_finish_189 rfl (by decide) (gg_ixn (q := k) (by omega)) ?_
    refine gg_iinc (v := nI (k + 1)) (lo' := [(3, gg_i (nI (k + 1))), (2, gg_i q), (0, gg_r 17 0)]) ok dX5_finish_190 rfl (nI_1 k) (by decide) rfl ?_
    refine gg_goto (tgt := 168) ok dX5_finish_193 rfl ?_
    exact h9
set_option maxRecDepth 20000 in
theorem lpX5_sw {p : Program} {l : Launch} {e : Env} {s : State} {m : MethodId} {args : Array Value} {below : List Frame} {meth : Method} {c : Code} {Q : State → Prop} {D : va_G} {cT : Nat → ClassId} {ad : Nat → Nat → Nat} (htr : l.stackTraces = false) (x : gg_X) (q : Int32) (n : Nat) (hn : x.1 17 0 12 = nI n) (hn5 : n < 5) (ok : gg_Ok p s m args meth c cX5_finish 5 RX5 D cT ad) (kx : gg_G p l e (gg_rm 1 0 0 23) s m args below meth c 5 D cT ad Q true 0 0 (md_sw x (4 * n)) 228 [(3, gg_i (nI (4 * n))), (2, gg_i q), (0, gg_r 17 0)] []) : ∀ j k, k + j = 4 * n → gg_G p l e (gg_rm 1 0 0 23) s m args below meth c 5 D cT ad Q true 0 0 (md_sw x k) 198 [(3, gg_i (nI k)), (2, gg_i q), (0, gg_r 17 0)] [] := by
  intro j
  induction j with
  | zero =>
    intro k hk
    obtain rfl : k = 4 * n := by omega
    refine gg_iload_n ok dX5_finish_198 rfl rfl ?_
    refine gg_iconst (v := 4) ok dX5_finish_199 rfl ?_
    refine gg_aload_n ok dX5_finish_200 rfl rfl ?_
    refine gg_geti (v := nI n) ok dX5_finish_201 fX5_57 rfl (by decide) rfl ((md_sw_o (by decide) (4 * n)).trans hn) ?_
    refine gg_imul (v := nI (4 * n)) ok dX5_finish_204 (pk_mul 4 n) ?_
    refine gg_icmp_ge (tgt := 228) ok dX5_finish_205 rfl ⟨fun _ => ?_, fun z => absurd (nI_le (Nat.le_refl _) (by omega)) z⟩
    exact kx
  | succ j ih =>
    intro k hk
    have h9 := ih (k + 1) (by omega)
    refine gg_iload_n ok dX5_finish_198 rfl rfl ?_
    refine gg_iconst (v := 4) ok dX5_finish_199 rfl ?_
    refine gg_aload_n ok dX5_finish_200 rfl rfl ?_
    refine gg_geti (v := nI n) ok dX5_finish_201 fX5_57 rfl (by decide) rfl ((md_sw_o (by decide) k).trans hn) ?_
    refine gg_imul (v := nI (4 * n)) ok dX5_finish_204 (pk_mul 4 n) ?_
    refine gg_icmp_ge (tgt := 228) ok dX5_finish_205 rfl ⟨fun z => absurd z (nI_ge (by omega) (by omega)), fun _ => ?_⟩
    refine gg_aload_n ok dX5_finish_208 rfl rfl ?_
    refine gg_getr ok dX5_finish_209 fX5_41 rfl (by decide) rfl ?_
    refine gg_iload_n ok dX5_finish_212 rfl rfl ?_
    refine gg_aload_n ok dX5_finish_213 rfl rfl ?_
    refine gg_getr ok dX5_finish_214 fX5_41 rfl (by decide) rfl ?_
    refine gg_iload_n ok dX5_finish_217 rfl rfl ?_
    refine gg_iconst (v := 4) ok dX5_finish_218 rfl ?_
    refine gg_iadd (v := nI (k + 4)) ok dX5_finish_219 (nI_add k 4) ?_
    refine gg_iald ok dX5_finish_220 rfl (by decide) (gg_ixn (q := k + 4) (by omega)) rfl ?_
    refine gg_iast ok dX5_finish_221 rfl (by decide) (gg_ixn (q := k) (by omega)) ?_
    refine gg_iinc (v := nI (k + 1)) (lo' := [(3, gg_i (nI (k + 1))), (2, gg_i q), (0, gg_r 17 0)]) ok dX5_finish_222 rfl (nI_1 k) (by decide) rfl ?_
    refine gg_goto (tgt := 198) ok dX5_finish_225 rfl ?_
    exact h9
set_option maxRecDepth 20000 in
theorem tlX5_fin {p : Program} {l : Launch} {e : Env} {s : State} {m : MethodId} {args : Array Value} {below : List Frame} {meth : Method} {c : Code} {Q : State → Prop} {D : va_G} {cT : Nat → ClassId} {ad : Nat → Nat → Nat} (htr : l.stackTraces = false) (x : gg_X) (q : Int32) (n : Nat) (hn : x.1 17 0 12 = nI n) (hn0 : 0 < n) (hn6 : n < 6) (ok : gg_Ok p s m args meth c cX5_finish 5 RX5 D cT ad) (kx : gg_G p l e (gg_rm 1 0 0 23) s m args below meth c 5 D cT ad Q true 0 0 (md_tail x n) 247 [(3, gg_i (nI (4 * (n - 1)))), (2, gg_i q), (0, gg_r 17 0)] []) : gg_G p l e (gg_rm 1 0 0 23) s m args below meth c 5 D cT ad Q true 0 0 x 156 [(2, gg_i q), (0, gg_r 17 0)] [] := by
  refine gg_aload_n ok dX5_finish_156 rfl rfl ?_
  refine gg_dup ok dX5_finish_157 rfl ?_
  refine gg_geti (v := nI n) ok dX5_finish_158 fX5_57 rfl (by decide) rfl hn ?_
  refine gg_iconst (v := 1) ok dX5_finish_161 rfl ?_
  refine gg_isub (v := nI (n - 1)) ok dX5_finish_162 (pk_sub (a := n) (b := 1) (by omega)) ?_
  refine gg_puti ok dX5_finish_163 fX5_57 p5_12 rfl (by decide) rfl ?_
  refine gg_iconst (v := 0) ok dX5_finish_166 rfl ?_
  refine gg_istore_n (lo' := [(3, gg_i 0), (2, gg_i q), (0, gg_r 17 0)]) ok dX5_finish_167 rfl (by decide) rfl ?_
  refine lpX5_sh htr (gg_up x 17 0 12 (nI (n - 1))) q (n - 1) rfl (by omega) ok ?_ (n - 1) 0 (by omega)
  refine gg_iconst (v := 0) ok dX5_finish_196 rfl ?_
  refine gg_istore_n (lo' := [(3, gg_i 0), (2, gg_i q), (0, gg_r 17 0)]) ok dX5_finish_197 rfl (by decide) rfl ?_
  refine lpX5_sw htr (md_sh (gg_up x 17 0 12 (nI (n - 1))) (n - 1)) q (n - 1) ((md_sh_o (by decide) (n - 1)).trans rfl) (by omega) ok ?_ (4 * (n - 1)) 0 (by omega)
  refine gg_aload_n ok dX5_finish_228 rfl rfl ?_
  refine gg_aload_n ok dX5_finish_229 rfl rfl ?_
  refine gg_geti (v := nI (n - 1)) ok dX5_finish_230 fX5_57 rfl (by decide) rfl ((md_sw_o (by decide) _).trans ((md_sh_o (by decide) _).trans rfl)) ?_
  refine gg_if_le (tgt := 243) ok dX5_finish_233 rfl ⟨fun h233 => ?_, fun h233 => ?_⟩
  ·
    have hn1 : n = 1 := by
      have h9 := (nI_leI (a := n - 1) (b := 0) (by omega) (by decide)).mp h233
      omega
    refine gg_iconst (v := 0) ok dX5_finish_243 rfl ?_
    refine gg_puti ok dX5_finish_244 fX5_63 p5_15 rfl (by decide) rfl ?_
    rw [show md_tail x n = gg_up (md_sw (md_sh (gg_up x 17 0 12 (nI (n - 1))) (n - 1)) (4 * (n - 1))) 17 0 15 (0) by unfold md_tail; rw [if_pos hn1]] at kx
    exact kx
  ·
    have hn1 : ¬ n = 1 := fun z => h233 (by subst z; decide)
    refine gg_aload_n ok dX5_finish_236 rfl rfl ?_
    refine gg_geti (v := x.1 17 0 16) ok dX5_finish_237 fX5_44 rfl (by decide) rfl ((md_sw_o (by decide) _).trans ((md_sh_o (by decide) _).trans rfl)) ?_
    refine gg_goto (tgt := 244) ok dX5_finish_240 rfl ?_
    refine gg_puti ok dX5_finish_244 fX5_63 p5_15 rfl (by decide) rfl ?_
    rw [show md_tail x n = gg_up (md_sw (md_sh (gg_up x 17 0 12 (nI (n - 1))) (n - 1)) (4 * (n - 1))) 17 0 15 (x.1 17 0 16) by unfold md_tail; rw [if_neg hn1]] at kx
    exact kx
set_option maxRecDepth 20000 in
theorem lpX5_fa {p : Program} {l : Launch} {e : Env} {s : State} {m : MethodId} {args : Array Value} {below : List Frame} {meth : Method} {c : Code} {Q : State → Prop} {D : va_G} {cT : Nat → ClassId} {ad : Nat → Nat → Nat} (htr : l.stackTraces = false) (x : gg_X) (A : Nat → Nat) (w L T : Nat) (hw : w < 8) (hL : L < 64) (hT : x.1 17 0 7 = nI T) (hT5 : T ≤ 512) (hA : ∀ t, t < T → x.1 23 0 t = nI (A t) ∧ A t < 256) (ok : gg_Ok p s m args meth c cX5_finish 5 RX5 D cT ad) (kx : gg_G p l e (gg_rm 1 0 0 23) s m args below meth c 5 D cT ad Q true 0 0 (md_fa x w L A T) 156 [(4, gg_i (nI T)), (2, gg_i (nI (md_tg x A L T))), (3, gg_i (nI w)), (1, gg_i (nI L)), (0, gg_r 17 0)] []) : ∀ j k, k + j = T → gg_G p l e (gg_rm 1 0 0 23) s m args below meth c 5 D cT ad Q true 0 0 (md_fa x w L A k) 108 [(4, gg_i (nI k)), (2, gg_i (nI (md_tg x A L k))), (3, gg_i (nI w)), (1, gg_i (nI L)), (0, gg_r 17 0)] [] := by
  intro j
  induction j with
  | zero =>
    intro k hk
    obtain rfl : k = T := by omega
    refine gg_iload ok dX5_finish_108 rfl ?_
    refine gg_aload_n ok dX5_finish_110 rfl rfl ?_
    refine gg_geti (v := nI k) ok dX5_finish_111 fX5_54 rfl (by decide) rfl ((md_fa_o (by decide) (by decide) (by decide) k (fun z => absurd z (by decide))).trans hT) ?_
    refine gg_icmp_ge (tgt := 156) ok dX5_finish_114 rfl ⟨fun _ => ?_, fun z => absurd (nI_le (Nat.le_refl _) (by omega)) z⟩
    exact kx
  | succ j ih =>
    intro k hk
    have h9 := ih (k + 1) (by omega)
    have hA1 := hA k (by omega)
    have hA2 := hA1.2
    refine gg_iload ok dX5_finish_108 rfl ?_
    refine gg_aload_n ok dX5_finish_110 rfl rfl ?_
    refine gg_geti (v := nI T) ok dX5_finish_111 fX5_54 rfl (by decide) rfl ((md_fa_o (by decide) (by decide) (by decide) k (fun z => absurd z (by decide))).trans hT) ?_
    refine gg_icmp_ge (tgt := 156) ok dX5_finish_114 rfl ⟨fun z => absurd z (nI_ge (by omega) (by omega)), fun _ => ?_⟩
    refine gg_aload_n ok dX5_finish_117 rfl rfl ?_
    refine gg_getr ok dX5_finish_118 fX5_35 rfl (by decide) rfl ?_
    refine gg_iload ok dX5_finish_121 rfl ?_
    refine gg_zald (v := x.1 26 0 k) ok dX5_finish_123 rfl (by decide) (gg_ixn (q := k) (by omega)) (md_fa_o (by decide) (by decide) (by decide) k (fun _ => Nat.le_refl _)) ?_
    refine gg_if_ne (tgt := 150) ok dX5_finish_124 rfl ⟨fun ha => ?_, fun ha => ?_⟩
    ·
      rw [show md_tg x A L (k + 1) = md_tg x A L k by simp [md_tg, ha], show md_fa x w L A (k + 1) = md_fa x w L A k by simp [md_fa, ha]] at h9
      refine gg_iinc (v := nI (k + 1)) (lo' := [(4, gg_i (nI (k + 1))), (2, gg_i (nI (md_tg x A L k))), (3, gg_i (nI w)), (1, gg_i (nI L)), (0, gg_r 17 0)]) ok dX5_finish_150 rfl (nI_1 k) (by decide) rfl ?_
      refine gg_goto (tgt := 108) ok dX5_finish_153 rfl ?_
      exact h9
    ·
      refine gg_aload_n ok dX5_finish_127 rfl rfl ?_
      refine gg_getr ok dX5_finish_128 fX5_25 rfl (by decide) rfl ?_
      refine gg_iload ok dX5_finish_131 rfl ?_
      refine gg_iald (v := nI (A k)) ok dX5_finish_133 rfl (by decide) (gg_ixn (q := k) (by omega)) ((md_fa_o (by decide) (by decide) (by decide) k (fun z => absurd z (by decide))).trans hA1.1) ?_
      refine gg_iconst (v := 4) ok dX5_finish_134 rfl ?_
      refine gg_idiv (v := nI ((A k) / 4)) ok dX5_finish_135 (pk_div (a := (A k)) (d := 4) (by omega) (by omega) (by omega)) (by decide) ?_
      refine gg_iload_n ok dX5_finish_136 rfl rfl ?_
      refine gg_icmp_ne (tgt := 150) ok dX5_finish_137 rfl ⟨fun hb => ?_, fun hb => ?_⟩
      ·
        have hb : ¬ A k / 4 = L := fun z => hb (by rw [z])
        rw [show md_tg x A L (k + 1) = md_tg x A L k by simp [md_tg, ha, hb], show md_fa x w L A (k + 1) = md_fa x w L A k by simp [md_fa, ha, hb]] at h9
        refine gg_iinc (v := nI (k + 1)) (lo' := [(4, gg_i (nI (k + 1))), (2, gg_i (nI (md_tg x A L k))), (3, gg_i (nI w)), (1, gg_i (nI L)), (0, gg_r 17 0)]) ok dX5_finish_150 rfl (nI_1 k) (by decide) rfl ?_
        refine gg_goto (tgt := 108) ok dX5_finish_153 rfl ?_
        exact h9
      ·
        have hb := (nI_eq (by omega) (by omega)).mp hb
        rw [show md_tg x A L (k + 1) = md_tg x A L k + 1 by simp [md_tg, ha, hb], show md_fa x w L A (k + 1) = md_act (md_fa x w L A k) k w (A k) by simp [md_fa, ha, hb]] at h9
        refine gg_aload_n ok dX5_finish_140 rfl rfl ?_
        refine gg_iload ok dX5_finish_141 rfl ?_
        refine gg_iload_n ok dX5_finish_143 rfl rfl ?_
        refine gg_callV0 ok dX5_finish_144 gX5_96 (kX5_act l htr _ k w (A k) (by omega) hw ((md_fa_o (by decide) (by decide) (by decide) k (fun z => absurd z (by decide))).trans hA1.1) hA2) (fun _ => rfl) rfl (by decide) rfl rfl (Nat.le_of_ble_eq_true rfl) (Nat.le_of_ble_eq_true rfl) (Nat.le_of_ble_eq_true rfl) (Nat.le_of_ble_eq_true rfl) (Nat.le_of_ble_eq_true rfl) ?_
        refine gg_iinc (v := nI (md_tg x A L k + 1)) (lo' := [(2, gg_i (nI (md_tg x A L k + 1))), (4, gg_i (nI k)), (3, gg_i (nI w)), (1, gg_i (nI L)), (0, gg_r 17 0)]) ok dX5_finish_147 rfl (nI_1 (md_tg x A L k)) (by decide) rfl ?_
        refine gg_iinc (v := nI (k + 1)) (lo' := [(4, gg_i (nI (k + 1))), (2, gg_i (nI (md_tg x A L k + 1))), (3, gg_i (nI w)), (1, gg_i (nI L)), (0, gg_r 17 0)]) ok dX5_finish_150 rfl (nI_1 k) (by decide) rfl ?_
        refine gg_goto (tgt := 108) ok dX5_finish_153 rfl ?_
        exact h9
set_option maxRecDepth 20000 in
theorem kX5_finW (l : Launch) (htr : l.stackTraces = false) (x : gg_X) (n L : Nat) (hn : x.1 17 0 12 = nI n) (hn0 : 0 < n) (hn6 : n < 6) (hL : L < 64) (hr0 : x.1 27 0 0 = nI (100 + L)) : gg_Cd l yX5_finish cX5_finish 5 (some .int) (gg_rm 1 0 0 23) true [gg_r 17 0] x (.inl (some (gg_i 0))) (md_finW x n L) := by
  refine gg_of htr (by decide) (Nat.le_of_ble_eq_true rfl) ?_
  intro p e s m args below meth c D cT ad ok okx okt hr hin
  refine gg_wk ?_
  refine gg_aload_n ok dX5_finish_0 rfl rfl ?_
  refine gg_getr ok dX5_finish_1 fX5_38 rfl (by decide) rfl ?_
  refine gg_iconst (v := 0) ok dX5_finish_4 rfl ?_
  refine gg_iald (v := nI (100 + L)) ok dX5_finish_5 rfl (by decide) (gg_ixn (q := 0) (by decide)) hr0 ?_
  refine gg_bipush (v := 100) ok dX5_finish_6 rfl ?_
  refine gg_irem (v := nI L) ok dX5_finish_8 ((pk_rem (a := 100 + L) (d := 100) (by omega) (by omega) (by omega)).trans (congrArg nI (by omega))) (by decide) ?_
  refine gg_istore_n (lo' := [(1, gg_i (nI L)), (0, gg_r 17 0)]) ok dX5_finish_9 rfl (by decide) rfl ?_
  refine gg_iconst (v := 0) ok dX5_finish_10 rfl ?_
  refine gg_istore_n (lo' := [(2, gg_i 0), (1, gg_i (nI L)), (0, gg_r 17 0)]) ok dX5_finish_11 rfl (by decide) rfl ?_
  refine gg_aload_n ok dX5_finish_12 rfl rfl ?_
  refine gg_getr ok dX5_finish_13 fX5_38 rfl (by decide) rfl ?_
  refine gg_iconst (v := 0) ok dX5_finish_16 rfl ?_
  refine gg_iald (v := nI (100 + L)) ok dX5_finish_17 rfl (by decide) (gg_ixn (q := 0) (by decide)) hr0 ?_
  refine gg_bipush (v := 99) ok dX5_finish_18 rfl ?_
  refine gg_icmp_le (tgt := 55) ok dX5_finish_20 rfl ⟨fun z => absurd z (nI_ge (a := 99) (by omega) (by omega)), fun _ => ?_⟩
  refine gg_iconst (v := 0) ok dX5_finish_23 rfl ?_
  refine gg_istore_n (lo' := [(3, gg_i 0), (2, gg_i 0), (1, gg_i (nI L)), (0, gg_r 17 0)]) ok dX5_finish_24 rfl (by decide) rfl ?_
  refine gg_iload_n ok dX5_finish_25 rfl rfl ?_
  refine gg_iconst (v := 4) ok dX5_finish_26 rfl ?_
  refine gg_icmp_ge (tgt := 52) ok dX5_finish_27 rfl ⟨fun z => absurd z (by decide), fun _ => ?_⟩
  refine gg_aload_n ok dX5_finish_30 rfl rfl ?_
  refine gg_getr ok dX5_finish_31 fX5_7 rfl (by decide) rfl ?_
  refine gg_iconst (v := 4) ok dX5_finish_34 rfl ?_
  refine gg_iload_n ok dX5_finish_35 rfl rfl ?_
  refine gg_imul (v := nI (4 * L)) ok dX5_finish_36 (pk_mul 4 L) ?_
  refine gg_iload_n ok dX5_finish_37 rfl rfl ?_
  refine gg_iadd (v := nI ((4 * L) + 0)) ok dX5_finish_38 (nI_add (4 * L) 0) ?_
  refine gg_aload_n ok dX5_finish_39 rfl rfl ?_
  refine gg_getr ok dX5_finish_40 fX5_41 rfl (by decide) rfl ?_
  refine gg_iload_n ok dX5_finish_43 rfl rfl ?_
  refine gg_iald ok dX5_finish_44 rfl (by decide) (gg_ixn (q := 0) (by decide)) rfl ?_
  refine gg_iast ok dX5_finish_45 rfl (by decide) (gg_ixn (q := (4 * L) + 0) (by omega)) ?_
  refine gg_iinc (v := 1) (lo' := [(3, gg_i 1), (2, gg_i 0), (1, gg_i (nI L)), (0, gg_r 17 0)]) ok dX5_finish_46 rfl rfl (by decide) rfl ?_
  refine gg_goto (tgt := 25) ok dX5_finish_49 rfl ?_
  refine gg_iload_n ok dX5_finish_25 rfl rfl ?_
  refine gg_iconst (v := 4) ok dX5_finish_26 rfl ?_
  refine gg_icmp_ge (tgt := 52) ok dX5_finish_27 rfl ⟨fun z => absurd z (by decide), fun _ => ?_⟩
  refine gg_aload_n ok dX5_finish_30 rfl rfl ?_
  refine gg_getr ok dX5_finish_31 fX5_7 rfl (by decide) rfl ?_
  refine gg_iconst (v := 4) ok dX5_finish_34 rfl ?_
  refine gg_iload_n ok dX5_finish_35 rfl rfl ?_
  refine gg_imul (v := nI (4 * L)) ok dX5_finish_36 (pk_mul 4 L) ?_
  refine gg_iload_n ok dX5_finish_37 rfl rfl ?_
  refine gg_iadd (v := nI ((4 * L) + 1)) ok dX5_finish_38 (nI_add (4 * L) 1) ?_
  refine gg_aload_n ok dX5_finish_39 rfl rfl ?_
  refine gg_getr ok dX5_finish_40 fX5_41 rfl (by decide) rfl ?_
  refine gg_iload_n ok dX5_finish_43 rfl rfl ?_
  refine gg_iald ok dX5_finish_44 rfl (by decide) (gg_ixn (q := 1) (by decide)) rfl ?_
  refine gg_iast ok dX5_finish_45 rfl (by decide) (gg_ixn (q := (4 * L) + 1) (by omega)) ?_
  refine gg_iinc (v := 2) (lo' := [(3, gg_i 2), (2, gg_i 0), (1, gg_i (nI L)), (0, gg_r 17 0)]) ok dX5_finish_46 rfl rfl (by decide) rfl ?_
  refine gg_goto (tgt := 25) ok dX5_finish_49 rfl ?_
  refine gg_iload_n ok dX5_finish_25 rfl rfl ?_
  refine gg_iconst (v := 4) ok dX5_finish_26 rfl ?_
  refine gg_icmp_ge (tgt := 52) ok dX5_finish_27 rfl ⟨fun z => absurd z (by decide), fun _ => ?_⟩
  refine gg_aload_n ok dX5_finish_30 rfl rfl ?_
  refine gg_getr ok dX5_finish_31 fX5_7 rfl (by decide) rfl ?_
  refine gg_iconst (v := 4) ok dX5_finish_34 rfl ?_
  refine gg_iload_n ok dX5_finish_35 rfl rfl ?_
  refine gg_imul (v := nI (4 * L)) ok dX5_finish_36 (pk_mul 4 L) ?_
  refine gg_iload_n ok dX5_finish_37 rfl rfl ?_
  refine gg_iadd (v := nI ((4 * L) + 2)) ok dX5_finish_38 (nI_add (4 * L) 2) ?_
  refine gg_aload_n ok dX5_finish_39 rfl rfl ?_
  refine gg_getr ok dX5_finish_40 fX5_41 rfl (by decide) rfl ?_
  refine gg_iload_n ok dX5_finish_43 rfl rfl ?_
  refine gg_iald ok dX5_finish_44 rfl (by decide) (gg_ixn (q := 2) (by decide)) rfl ?_
  refine gg_iast ok dX5_finish_45 rfl (by decide) (gg_ixn (q := (4 * L) + 2) (by omega)) ?_
  refine gg_iinc (v := 3) (lo' := [(3, gg_i 3), (2, gg_i 0), (1, gg_i (nI L)), (0, gg_r 17 0)]) ok dX5_finish_46 rfl rfl (by decide) rfl ?_
  refine gg_goto (tgt := 25) ok dX5_finish_49 rfl ?_
  refine gg_iload_n ok dX5_finish_25 rfl rfl ?_
  refine gg_iconst (v := 4) ok dX5_finish_26 rfl ?_
  refine gg_icmp_ge (tgt := 52) ok dX5_finish_27 rfl ⟨fun z => absurd z (by decide), fun _ => ?_⟩
  refine gg_aload_n ok dX5_finish_30 rfl rfl ?_
  refine gg_getr ok dX5_finish_31 fX5_7 rfl (by decide) rfl ?_
  refine gg_iconst (v := 4) ok dX5_finish_34 rfl ?_
  refine gg_iload_n ok dX5_finish_35 rfl rfl ?_
  refine gg_imul (v := nI (4 * L)) ok dX5_finish_36 (pk_mul 4 L) ?_
  refine gg_iload_n ok dX5_finish_37 rfl rfl ?_
  refine gg_iadd (v := nI ((4 * L) + 3)) ok dX5_finish_38 (nI_add (4 * L) 3) ?_
  refine gg_aload_n ok dX5_finish_39 rfl rfl ?_
  refine gg_getr ok dX5_finish_40 fX5_41 rfl (by decide) rfl ?_
  refine gg_iload_n ok dX5_finish_43 rfl rfl ?_
  refine gg_iald ok dX5_finish_44 rfl (by decide) (gg_ixn (q := 3) (by decide)) rfl ?_
  refine gg_iast ok dX5_finish_45 rfl (by decide) (gg_ixn (q := (4 * L) + 3) (by omega)) ?_
  refine gg_iinc (v := 4) (lo' := [(3, gg_i 4), (2, gg_i 0), (1, gg_i (nI L)), (0, gg_r 17 0)]) ok dX5_finish_46 rfl rfl (by decide) rfl ?_
  refine gg_goto (tgt := 25) ok dX5_finish_49 rfl ?_
  refine gg_iload_n ok dX5_finish_25 rfl rfl ?_
  refine gg_iconst (v := 4) ok dX5_finish_26 rfl ?_
  refine gg_icmp_ge (tgt := 52) ok dX5_finish_27 rfl ⟨fun _ => ?_, fun z => absurd (by decide) z⟩
  refine gg_goto (tgt := 156) ok dX5_finish_52 rfl ?_
  refine gg_sub (lo' := [(2, gg_i 0), (0, gg_r 17 0)]) [1, 3] rfl ?_
  refine tlX5_fin htr (md_cm x L 4) 0 n ((md_cm_o (by decide) 4).trans hn) hn0 hn6 ok ?_
  refine gg_iload_n ok dX5_finish_247 rfl rfl ?_
  exact gg_iret ok hr (fun _ => rfl) dX5_finish_248 ⟨rfl, rfl⟩
set_option maxRecDepth 20000 in
theorem kX5_finR (l : Launch) (htr : l.stackTraces = false) (x : gg_X) (n L : Nat) (hn : x.1 17 0 12 = nI n) (hn0 : 0 < n) (hn6 : n < 6) (hL : L < 64) (w T : Nat) (A : Nat → Nat) (hw : w < 8) (hf : md_way x L = some w) (hr0 : x.1 27 0 0 = nI L) (hT : x.1 17 0 7 = nI T) (hT5 : T ≤ 512) (hA : ∀ t, t < T → x.1 23 0 t = nI (A t) ∧ A t < 256) : gg_Cd l yX5_finish cX5_finish 5 (some .int) (gg_rm 1 0 0 23) true [gg_r 17 0] x (.inl (some (gg_i (nI (md_tg x A L T))))) (md_finR x n L w T A) := by
  refine gg_of htr (by decide) (Nat.le_of_ble_eq_true rfl) ?_
  intro p e s m args below meth c D cT ad ok okx okt hr hin
  refine gg_wk ?_
  refine gg_aload_n ok dX5_finish_0 rfl rfl ?_
  refine gg_getr ok dX5_finish_1 fX5_38 rfl (by decide) rfl ?_
  refine gg_iconst (v := 0) ok dX5_finish_4 rfl ?_
  refine gg_iald (v := nI L) ok dX5_finish_5 rfl (by decide) (gg_ixn (q := 0) (by decide)) hr0 ?_
  refine gg_bipush (v := 100) ok dX5_finish_6 rfl ?_
  refine gg_irem (v := nI L) ok dX5_finish_8 ((pk_rem (a := L) (d := 100) (by omega) (by omega) (by omega)).trans (congrArg nI (by omega))) (by decide) ?_
  refine gg_istore_n (lo' := [(1, gg_i (nI L)), (0, gg_r 17 0)]) ok dX5_finish_9 rfl (by decide) rfl ?_
  refine gg_iconst (v := 0) ok dX5_finish_10 rfl ?_
  refine gg_istore_n (lo' := [(2, gg_i 0), (1, gg_i (nI L)), (0, gg_r 17 0)]) ok dX5_finish_11 rfl (by decide) rfl ?_
  refine gg_aload_n ok dX5_finish_12 rfl rfl ?_
  refine gg_getr ok dX5_finish_13 fX5_38 rfl (by decide) rfl ?_
  refine gg_iconst (v := 0) ok dX5_finish_16 rfl ?_
  refine gg_iald (v := nI L) ok dX5_finish_17 rfl (by decide) (gg_ixn (q := 0) (by decide)) hr0 ?_
  refine gg_bipush (v := 99) ok dX5_finish_18 rfl ?_
  refine gg_icmp_le (tgt := 55) ok dX5_finish_20 rfl ⟨fun _ => ?_, fun z => absurd (nI_le (b := 99) (by omega) (by decide)) z⟩
  refine gg_aload_n ok dX5_finish_55 rfl rfl ?_
  refine gg_iload_n ok dX5_finish_56 rfl rfl ?_
  refine gg_callV1 ok dX5_finish_57 gX5_78 (by have h9 := kX5_wayOf l htr x L hL; rw [hf] at h9; exact h9) (fun _ => rfl) rfl (by decide) rfl rfl (Nat.le_of_ble_eq_true rfl) (Nat.le_of_ble_eq_true rfl) (Nat.le_of_ble_eq_true rfl) (Nat.le_of_ble_eq_true rfl) (Nat.le_of_ble_eq_true rfl) ?_
  refine gg_istore_n (lo' := [(3, gg_i (nI w)), (2, gg_i 0), (1, gg_i (nI L)), (0, gg_r 17 0)]) ok dX5_finish_60 rfl (by decide) rfl ?_
  refine gg_iconst (v := 0) ok dX5_finish_61 rfl ?_
  refine gg_istore (lo' := [(4, gg_i 0), (3, gg_i (nI w)), (2, gg_i 0), (1, gg_i (nI L)), (0, gg_r 17 0)]) ok dX5_finish_62 (by decide) rfl ?_
  refine gg_iload ok dX5_finish_64 rfl ?_
  refine gg_iconst (v := 4) ok dX5_finish_66 rfl ?_
  refine gg_icmp_ge (tgt := 98) ok dX5_finish_67 rfl ⟨fun z => absurd z (by decide), fun _ => ?_⟩
  refine gg_aload_n ok dX5_finish_70 rfl rfl ?_
  refine gg_getr ok dX5_finish_71 fX5_22 rfl (by decide) rfl ?_
  refine gg_iconst (v := 4) ok dX5_finish_74 rfl ?_
  refine gg_iload_n ok dX5_finish_75 rfl rfl ?_
  refine gg_imul (v := nI (4 * w)) ok dX5_finish_76 (pk_mul 4 w) ?_
  refine gg_iload ok dX5_finish_77 rfl ?_
  refine gg_iadd (v := nI ((4 * w) + 0)) ok dX5_finish_79 (nI_add (4 * w) 0) ?_
  refine gg_aload_n ok dX5_finish_80 rfl rfl ?_
  refine gg_getr ok dX5_finish_81 fX5_7 rfl (by decide) rfl ?_
  refine gg_iconst (v := 4) ok dX5_finish_84 rfl ?_
  refine gg_iload_n ok dX5_finish_85 rfl rfl ?_
  refine gg_imul (v := nI (4 * L)) ok dX5_finish_86 (pk_mul 4 L) ?_
  refine gg_iload ok dX5_finish_87 rfl ?_
  refine gg_iadd (v := nI ((4 * L) + 0)) ok dX5_finish_89 (nI_add (4 * L) 0) ?_
  refine gg_iald ok dX5_finish_90 rfl (by decide) (gg_ixn (q := (4 * L) + 0) (by omega)) rfl ?_
  refine gg_iast ok dX5_finish_91 rfl (by decide) (gg_ixn (q := (4 * w) + 0) (by omega)) ?_
  refine gg_iinc (v := 1) (lo' := [(4, gg_i 1), (3, gg_i (nI w)), (2, gg_i 0), (1, gg_i (nI L)), (0, gg_r 17 0)]) ok dX5_finish_92 rfl rfl (by decide) rfl ?_
  refine gg_goto (tgt := 64) ok dX5_finish_95 rfl ?_
  refine gg_iload ok dX5_finish_64 rfl ?_
  refine gg_iconst (v := 4) ok dX5_finish_66 rfl ?_
  refine gg_icmp_ge (tgt := 98) ok dX5_finish_67 rfl ⟨fun z => absurd z (by decide), fun _ => ?_⟩
  refine gg_aload_n ok dX5_finish_70 rfl rfl ?_
  refine gg_getr ok dX5_finish_71 fX5_22 rfl (by decide) rfl ?_
  refine gg_iconst (v := 4) ok dX5_finish_74 rfl ?_
  refine gg_iload_n ok dX5_finish_75 rfl rfl ?_
  refine gg_imul (v := nI (4 * w)) ok dX5_finish_76 (pk_mul 4 w) ?_
  refine gg_iload ok dX5_finish_77 rfl ?_
  refine gg_iadd (v := nI ((4 * w) + 1)) ok dX5_finish_79 (nI_add (4 * w) 1) ?_
  refine gg_aload_n ok dX5_finish_80 rfl rfl ?_
  refine gg_getr ok dX5_finish_81 fX5_7 rfl (by decide) rfl ?_
  refine gg_iconst (v := 4) ok dX5_finish_84 rfl ?_
  refine gg_iload_n ok dX5_finish_85 rfl rfl ?_
  refine gg_imul (v := nI (4 * L)) ok dX5_finish_86 (pk_mul 4 L) ?_
  refine gg_iload ok dX5_finish_87 rfl ?_
  refine gg_iadd (v := nI ((4 * L) + 1)) ok dX5_finish_89 (nI_add (4 * L) 1) ?_
  refine gg_iald ok dX5_finish_90 rfl (by decide) (gg_ixn (q := (4 * L) + 1) (by omega)) rfl ?_
  refine gg_iast ok dX5_finish_91 rfl (by decide) (gg_ixn (q := (4 * w) + 1) (by omega)) ?_
  refine gg_iinc (v := 2) (lo' := [(4, gg_i 2), (3, gg_i (nI w)), (2, gg_i 0), (1, gg_i (nI L)), (0, gg_r 17 0)]) ok dX5_finish_92 rfl rfl (by decide) rfl ?_
  refine gg_goto (tgt := 64) ok dX5_finish_95 rfl ?_
  refine gg_iload ok dX5_finish_64 rfl ?_
  refine gg_iconst (v := 4) ok dX5_finish_66 rfl ?_
  refine gg_icmp_ge (tgt := 98) ok dX5_finish_67 rfl ⟨fun z => absurd z (by decide), fun _ => ?_⟩
  refine gg_aload_n ok dX5_finish_70 rfl rfl ?_
  refine gg_getr ok dX5_finish_71 fX5_22 rfl (by decide) rfl ?_
  refine gg_iconst (v := 4) ok dX5_finish_74 rfl ?_
  refine gg_iload_n ok dX5_finish_75 rfl rfl ?_
  refine gg_imul (v := nI (4 * w)) ok dX5_finish_76 (pk_mul 4 w) ?_
  refine gg_iload ok dX5_finish_77 rfl ?_
  refine gg_iadd (v := nI ((4 * w) + 2)) ok dX5_finish_79 (nI_add (4 * w) 2) ?_
  refine gg_aload_n ok dX5_finish_80 rfl rfl ?_
  refine gg_getr ok dX5_finish_81 fX5_7 rfl (by decide) rfl ?_
  refine gg_iconst (v := 4) ok dX5_finish_84 rfl ?_
  refine gg_iload_n ok dX5_finish_85 rfl rfl ?_
  refine gg_imul (v := nI (4 * L)) ok dX5_finish_86 (pk_mul 4 L) ?_
  refine gg_iload ok dX5_finish_87 rfl ?_
  refine gg_iadd (v := nI ((4 * L) + 2)) ok dX5_finish_89 (nI_add (4 * L) 2) ?_
  refine gg_iald ok dX5_finish_90 rfl (by decide) (gg_ixn (q := (4 * L) + 2) (by omega)) rfl ?_
  refine gg_iast ok dX5_finish_91 rfl (by decide) (gg_ixn (q := (4 * w) + 2) (by omega)) ?_
  refine gg_iinc (v := 3) (lo' := [(4, gg_i 3), (3, gg_i (nI w)), (2, gg_i 0), (1, gg_i (nI L)), (0, gg_r 17 0)]) ok dX5_finish_92 rfl rfl (by decide) rfl ?_
  refine gg_goto (tgt := 64) ok dX5_finish_95 rfl ?_
  refine gg_iload ok dX5_finish_64 rfl ?_
  refine gg_iconst (v := 4) ok dX5_finish_66 rfl ?_
  refine gg_icmp_ge (tgt := 98) ok dX5_finish_67 rfl ⟨fun z => absurd z (by decide), fun _ => ?_⟩
  refine gg_aload_n ok dX5_finish_70 rfl rfl ?_
  refine gg_getr ok dX5_finish_71 fX5_22 rfl (by decide) rfl ?_
  refine gg_iconst (v := 4) ok dX5_finish_74 rfl ?_
  refine gg_iload_n ok dX5_finish_75 rfl rfl ?_
  refine gg_imul (v := nI (4 * w)) ok dX5_finish_76 (pk_mul 4 w) ?_
  refine gg_iload ok dX5_finish_77 rfl ?_
  refine gg_iadd (v := nI ((4 * w) + 3)) ok dX5_finish_79 (nI_add (4 * w) 3) ?_
  refine gg_aload_n ok dX5_finish_80 rfl rfl ?_
  refine gg_getr ok dX5_finish_81 fX5_7 rfl (by decide) rfl ?_
  refine gg_iconst (v := 4) ok dX5_finish_84 rfl ?_
  refine gg_iload_n ok dX5_finish_85 rfl rfl ?_
  refine gg_imul (v := nI (4 * L)) ok dX5_finish_86 (pk_mul 4 L) ?_
  refine gg_iload ok dX5_finish_87 rfl ?_
  refine gg_iadd (v := nI ((4 * L) + 3)) ok dX5_finish_89 (nI_add (4 * L) 3) ?_
  refine gg_iald ok dX5_finish_90 rfl (by decide) (gg_ixn (q := (4 * L) + 3) (by omega)) rfl ?_
  refine gg_iast ok dX5_finish_91 rfl (by decide) (gg_ixn (q := (4 * w) + 3) (by omega)) ?_
  refine gg_iinc (v := 4) (lo' := [(4, gg_i 4), (3, gg_i (nI w)), (2, gg_i 0), (1, gg_i (nI L)), (0, gg_r 17 0)]) ok dX5_finish_92 rfl rfl (by decide) rfl ?_
  refine gg_goto (tgt := 64) ok dX5_finish_95 rfl ?_
  refine gg_iload ok dX5_finish_64 rfl ?_
  refine gg_iconst (v := 4) ok dX5_finish_66 rfl ?_
  refine gg_icmp_ge (tgt := 98) ok dX5_finish_67 rfl ⟨fun _ => ?_, fun z => absurd (by decide) z⟩
  refine gg_aload_n ok dX5_finish_98 rfl rfl ?_
  refine gg_getr ok dX5_finish_99 fX5_13 rfl (by decide) rfl ?_
  refine gg_iload_n ok dX5_finish_102 rfl rfl ?_
  refine gg_iconst (v := 1) ok dX5_finish_103 rfl ?_
  refine gg_iast ok dX5_finish_104 rfl (by decide) (gg_ixn (q := w) (by omega)) ?_
  refine gg_iconst (v := 0) ok dX5_finish_105 rfl ?_
  refine gg_istore (lo' := [(4, gg_i 0), (3, gg_i (nI w)), (2, gg_i 0), (1, gg_i (nI L)), (0, gg_r 17 0)]) ok dX5_finish_106 (by decide) rfl ?_
  refine gg_sub (lo' := [(4, gg_i 0), (2, gg_i 0), (3, gg_i (nI w)), (1, gg_i (nI L)), (0, gg_r 17 0)]) [0, 2, 1, 3, 4] rfl ?_
  refine lpX5_fa htr (gg_up (md_mw x w L 4) 19 0 w 1) A w L T hw hL ((md_mw_o (by decide) 4).trans hT) hT5 (fun t ht => ⟨(md_mw_o (by decide) 4).trans (hA t ht).1, (hA t ht).2⟩) ok ?_ T 0 (by omega)
  refine gg_sub (lo' := [(2, gg_i (nI (md_tg (gg_up (md_mw x w L 4) 19 0 w 1) A L T))), (0, gg_r 17 0)]) [1, 4] rfl ?_
  refine tlX5_fin htr (md_fa (gg_up (md_mw x w L 4) 19 0 w 1) w L A T) _ n ((md_fa_o (by decide) (by decide) (by decide) T (fun z => absurd z (by decide))).trans ((md_mw_o (by decide) 4).trans hn)) hn0 hn6 ok ?_
  refine gg_iload_n ok dX5_finish_247 rfl rfl ?_
  exact gg_iret ok hr (fun _ => rfl) dX5_finish_248 ⟨by rw [md_tg_f (x := gg_up (md_mw x w L 4) 19 0 w 1) (y := x) (fun t => md_mw_o (x := x) (w := w) (L := L) (a := 26) (b := 0) (c := t) (by decide) 4) T], rfl⟩
set_option maxRecDepth 20000 in
theorem kX5_pass0 (l : Launch) (htr : l.stackTraces = false) (x : gg_X) (hn : x.1 17 0 12 = 0) : gg_Cd l yX5_pass cX5_pass 1 (some .int) (gg_rm 2 0 0 47) true [gg_r 17 0] x (.inl (some (gg_i 0))) (md_cnt x 7) := by
  refine gg_of htr (by decide) (Nat.le_of_ble_eq_true rfl) ?_
  intro p e s m args below meth c D cT ad ok okx okt hr hin
  refine gg_wk ?_
  refine gg_aload_n ok dX5_pass_0 rfl rfl ?_
  refine gg_getr ok dX5_pass_1 fX5_48 rfl (by decide) rfl ?_
  refine gg_bipush (v := 7) ok dX5_pass_4 rfl ?_
  refine gg_dup2 ok dX5_pass_6 rfl rfl ?_
  refine gg_iald ok dX5_pass_7 rfl (by decide) (gg_ixn (q := 7) (by decide)) rfl ?_
  refine gg_iconst (v := 1) ok dX5_pass_8 rfl ?_
  refine gg_iadd ok dX5_pass_9 rfl ?_
  refine gg_iast ok dX5_pass_10 rfl (by decide) (gg_ixn (q := 7) (by decide)) ?_
  refine gg_aload_n ok dX5_pass_11 rfl rfl ?_
  refine gg_geti (v := 0) ok dX5_pass_12 fX5_57 rfl (by decide) rfl hn ?_
  refine gg_if_ne (tgt := 20) ok dX5_pass_15 rfl ⟨fun z => absurd (by decide) z, fun _ => ?_⟩
  refine gg_iconst (v := 0) ok dX5_pass_18 rfl ?_
  exact gg_iret ok hr (fun _ => rfl) dX5_pass_19 ⟨rfl, rfl⟩
set_option maxRecDepth 20000 in
theorem kX5_pass1 (l : Launch) (htr : l.stackTraces = false) (x : gg_X) (n d : Nat) (hn : x.1 17 0 12 = nI n) (hn0 : 0 < n) (hn6 : n < 6) (hl : x.1 17 0 15 = nI d) (hd1 : 1 < d) (hd9 : d < 10) : gg_Cd l yX5_pass cX5_pass 1 (some .int) (gg_rm 2 0 0 47) true [gg_r 17 0] x (.inl (some (gg_i 0))) (gg_up (md_cnt x 7) 17 0 15 (nI (d - 1))) := by
  refine gg_of htr (by decide) (Nat.le_of_ble_eq_true rfl) ?_
  intro p e s m args below meth c D cT ad ok okx okt hr hin
  refine gg_wk ?_
  refine gg_aload_n ok dX5_pass_0 rfl rfl ?_
  refine gg_getr ok dX5_pass_1 fX5_48 rfl (by decide) rfl ?_
  refine gg_bipush (v := 7) ok dX5_pass_4 rfl ?_
  refine gg_dup2 ok dX5_pass_6 rfl rfl ?_
  refine gg_iald ok dX5_pass_7 rfl (by decide) (gg_ixn (q := 7) (by decide)) rfl ?_
  refine gg_iconst (v := 1) ok dX5_pass_8 rfl ?_
  refine gg_iadd ok dX5_pass_9 rfl ?_
  refine gg_iast ok dX5_pass_10 rfl (by decide) (gg_ixn (q := 7) (by decide)) ?_
  refine gg_aload_n ok dX5_pass_11 rfl rfl ?_
  refine gg_geti (v := nI n) ok dX5_pass_12 fX5_57 rfl (by decide) rfl hn ?_
  refine gg_if_ne (tgt := 20) ok dX5_pass_15 rfl ⟨fun _ => ?_, fun z => absurd z (nI_ne0 hn0 (by omega))⟩
  refine gg_aload_n ok dX5_pass_20 rfl rfl ?_
  refine gg_dup ok dX5_pass_21 rfl ?_
  refine gg_geti (v := nI d) ok dX5_pass_22 fX5_63 rfl (by decide) rfl hl ?_
  refine gg_iconst (v := 1) ok dX5_pass_25 rfl ?_
  refine gg_isub (v := nI (d - 1)) ok dX5_pass_26 (pk_sub (a := d) (b := 1) (by omega)) ?_
  refine gg_puti ok dX5_pass_27 fX5_63 p5_15 rfl (by decide) rfl ?_
  refine gg_aload_n ok dX5_pass_30 rfl rfl ?_
  refine gg_geti (v := nI (d - 1)) ok dX5_pass_31 fX5_63 rfl (by decide) rfl rfl ?_
  refine gg_if_ne (tgt := 44) ok dX5_pass_34 rfl ⟨fun _ => ?_, fun z => absurd z (nI_ne0 (by omega) (by omega))⟩
  refine gg_iconst (v := 0) ok dX5_pass_44 rfl ?_
  exact gg_iret ok hr (fun _ => rfl) dX5_pass_45 ⟨rfl, rfl⟩
set_option maxRecDepth 20000 in
theorem kX5_passW (l : Launch) (htr : l.stackTraces = false) (x : gg_X) (n d L : Nat) (hn : x.1 17 0 12 = nI n) (hn0 : 0 < n) (hn6 : n < 6) (hL : L < 64) (hl : x.1 17 0 15 = nI d) (hd1 : d = 1) (hr0 : x.1 27 0 0 = nI (100 + L)) : gg_Cd l yX5_pass cX5_pass 1 (some .int) (gg_rm 2 0 0 47) true [gg_r 17 0] x (.inl (some (gg_i 0))) (md_finW (gg_up (md_cnt x 7) 17 0 15 (nI (d - 1))) n L) := by
  refine gg_of htr (by decide) (Nat.le_of_ble_eq_true rfl) ?_
  intro p e s m args below meth c D cT ad ok okx okt hr hin
  refine gg_wk ?_
  refine gg_aload_n ok dX5_pass_0 rfl rfl ?_
  refine gg_getr ok dX5_pass_1 fX5_48 rfl (by decide) rfl ?_
  refine gg_bipush (v := 7) ok dX5_pass_4 rfl ?_
  refine gg_dup2 ok dX5_pass_6 rfl rfl ?_
  refine gg_iald ok dX5_pass_7 rfl (by decide) (gg_ixn (q := 7) (by decide)) rfl ?_
  refine gg_iconst (v := 1) ok dX5_pass_8 rfl ?_
  refine gg_iadd ok dX5_pass_9 rfl ?_
  refine gg_iast ok dX5_pass_10 rfl (by decide) (gg_ixn (q := 7) (by decide)) ?_
  refine gg_aload_n ok dX5_pass_11 rfl rfl ?_
  refine gg_geti (v := nI n) ok dX5_pass_12 fX5_57 rfl (by decide) rfl hn ?_
  refine gg_if_ne (tgt := 20) ok dX5_pass_15 rfl ⟨fun _ => ?_, fun z => absurd z (nI_ne0 hn0 (by omega))⟩
  refine gg_aload_n ok dX5_pass_20 rfl rfl ?_
  refine gg_dup ok dX5_pass_21 rfl ?_
  refine gg_geti (v := nI d) ok dX5_pass_22 fX5_63 rfl (by decide) rfl hl ?_
  refine gg_iconst (v := 1) ok dX5_pass_25 rfl ?_
  refine gg_isub (v := nI (d - 1)) ok dX5_pass_26 (pk_sub (a := d) (b := 1) (by omega)) ?_
  refine gg_puti ok dX5_pass_27 fX5_63 p5_15 rfl (by decide) rfl ?_
  refine gg_aload_n ok dX5_pass_30 rfl rfl ?_
  refine gg_geti (v := nI (d - 1)) ok dX5_pass_31 fX5_63 rfl (by decide) rfl rfl ?_
  refine gg_if_ne (tgt := 44) ok dX5_pass_34 rfl ⟨fun z => absurd (by subst hd1; decide) z, fun _ => ?_⟩
  refine gg_aload_n ok dX5_pass_37 rfl rfl ?_
  refine gg_callV1 ok dX5_pass_38 gX5_118 (kX5_finW l htr _ n L hn hn0 hn6 hL hr0) (fun _ => rfl) rfl (by decide) rfl rfl (Nat.le_of_ble_eq_true rfl) (Nat.le_of_ble_eq_true rfl) (Nat.le_of_ble_eq_true rfl) (Nat.le_of_ble_eq_true rfl) (Nat.le_of_ble_eq_true rfl) ?_
  refine gg_goto (tgt := 45) ok dX5_pass_41 rfl ?_
  exact gg_iret ok hr (fun _ => rfl) dX5_pass_45 ⟨rfl, rfl⟩
set_option maxRecDepth 20000 in
theorem kX5_passR (l : Launch) (htr : l.stackTraces = false) (x : gg_X) (n d L : Nat) (hn : x.1 17 0 12 = nI n) (hn0 : 0 < n) (hn6 : n < 6) (hL : L < 64) (hl : x.1 17 0 15 = nI d) (hd1 : d = 1) (w T : Nat) (A : Nat → Nat) (hw : w < 8) (hf : md_way x L = some w) (hr0 : x.1 27 0 0 = nI L) (hT : x.1 17 0 7 = nI T) (hT5 : T ≤ 512) (hA : ∀ t, t < T → x.1 23 0 t = nI (A t) ∧ A t < 256) : gg_Cd l yX5_pass cX5_pass 1 (some .int) (gg_rm 2 0 0 47) true [gg_r 17 0] x (.inl (some (gg_i (nI (md_tg x A L T))))) (md_finR (gg_up (md_cnt x 7) 17 0 15 (nI (d - 1))) n L w T A) := by
  refine gg_of htr (by decide) (Nat.le_of_ble_eq_true rfl) ?_
  intro p e s m args below meth c D cT ad ok okx okt hr hin
  refine gg_wk ?_
  refine gg_aload_n ok dX5_pass_0 rfl rfl ?_
  refine gg_getr ok dX5_pass_1 fX5_48 rfl (by decide) rfl ?_
  refine gg_bipush (v := 7) ok dX5_pass_4 rfl ?_
  refine gg_dup2 ok dX5_pass_6 rfl rfl ?_
  refine gg_iald ok dX5_pass_7 rfl (by decide) (gg_ixn (q := 7) (by decide)) rfl ?_
  refine gg_iconst (v := 1) ok dX5_pass_8 rfl ?_
  refine gg_iadd ok dX5_pass_9 rfl ?_
  refine gg_iast ok dX5_pass_10 rfl (by decide) (gg_ixn (q := 7) (by decide)) ?_
  refine gg_aload_n ok dX5_pass_11 rfl rfl ?_
  refine gg_geti (v := nI n) ok dX5_pass_12 fX5_57 rfl (by decide) rfl hn ?_
  refine gg_if_ne (tgt := 20) ok dX5_pass_15 rfl ⟨fun _ => ?_, fun z => absurd z (nI_ne0 hn0 (by omega))⟩
  refine gg_aload_n ok dX5_pass_20 rfl rfl ?_
  refine gg_dup ok dX5_pass_21 rfl ?_
  refine gg_geti (v := nI d) ok dX5_pass_22 fX5_63 rfl (by decide) rfl hl ?_
  refine gg_iconst (v := 1) ok dX5_pass_25 rfl ?_
  refine gg_isub (v := nI (d - 1)) ok dX5_pass_26 (pk_sub (a := d) (b := 1) (by omega)) ?_
  refine gg_puti ok dX5_pass_27 fX5_63 p5_15 rfl (by decide) rfl ?_
  refine gg_aload_n ok dX5_pass_30 rfl rfl ?_
  refine gg_geti (v := nI (d - 1)) ok dX5_pass_31 fX5_63 rfl (by decide) rfl rfl ?_
  refine gg_if_ne (tgt := 44) ok dX5_pass_34 rfl ⟨fun z => absurd (by subst hd1; decide) z, fun _ => ?_⟩
  refine gg_aload_n ok dX5_pass_37 rfl rfl ?_
  refine gg_callV1 ok dX5_pass_38 gX5_118 (kX5_finR l htr (gg_up (md_cnt x 7) 17 0 15 (nI (d - 1))) n L hn hn0 hn6 hL w T A hw (show md_way (gg_up (md_cnt x 7) 17 0 15 (nI (d - 1))) L = some w from hf) hr0 hT hT5 hA) (fun _ => rfl) rfl (by decide) rfl rfl (Nat.le_of_ble_eq_true rfl) (Nat.le_of_ble_eq_true rfl) (Nat.le_of_ble_eq_true rfl) (Nat.le_of_ble_eq_true rfl) (Nat.le_of_ble_eq_true rfl) ?_
  refine gg_goto (tgt := 45) ok dX5_pass_41 rfl ?_
  exact gg_iret ok hr (fun _ => rfl) dX5_pass_45 ⟨by rw [md_tg_x (x := (gg_up (md_cnt x 7) 17 0 15 (nI (d - 1)))) (y := x) rfl T], rfl⟩
