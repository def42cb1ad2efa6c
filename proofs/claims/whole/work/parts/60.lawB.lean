theorem ndL_format : yL_format.cls ≠ "java/lang/invoke/MethodHandle" ∧ yL_format.cls ≠ "java/lang/invoke/VarHandle" ∧ (parseMethodDescriptor yL_format.desc).map (fun d => d.parameters.length) = some 4 := by decide +kernel
set_option maxHeartbeats 4000000 in
set_option maxRecDepth 100000 in
theorem lw_c_format {p : Program} {l : Launch} {e : Env} {s : State} {m : MethodId} {below : List Frame} {meth : Method} {c : Code} {H : Heap} {locs : List Loc} {cells slots : Nat} {Q : State → Prop} {dC : Nat → ClassId} {dI : Nat → Nat → Nat} {cA : ClassId} {b L x o mo k : Nat} {xs : Nat → Int32} {ls : Array Slot} (C : lw_C p l s m c dC dI cA b L xs) (HP : pf_format) (hk : 5 * k + 5 ≤ L) (hcells : cells + 6 ≤ room_1.cells) (hslots : slots + 26 ≤ room_1.slots) (hJ : lw_J (dC, dI) cA s x o mo H locs) (hl : lv_has ls 7 (lw_L b x mo o k))
    (kk : ∀ (H1 : Heap) (locs1 : List Loc) (ls1 : Array Slot), lw_J (dC, dI) cA s x o mo H1 locs1 → lv_has ls1 7 (lw_L b x mo o k) → W p l e room_1 s m #[Value.ref b] below meth c H1 locs1 (cells + 6) (slots + 26) Q (F0 m 894 ls1 [])) : W p l e room_1 s m #[Value.ref b] below meth c H locs cells slots Q (F0 m 88 ls []) := by
  obtain ⟨hx, hb, hml, hown, htf, hE, hK, hX, hbl, hL, hl9⟩ := C
  obtain ⟨xf, ee, ff, g, v, hok, hv, ⟨n1, n2, n3, n4, n5, n6⟩, ⟨a1, a2, a3, a4⟩, hP, hS⟩ := hJ
  have hxl : x < H.size := vx_lt hP (k := 0) rfl
  have hfl : xf < H.size := vx_lt hP (k := 1) rfl
  have hol : o < H.size := vx_lt hP (k := 2) rfl
  have hml9 : mo < H.size := vx_lt hP (k := 3) rfl
  refine lv_aload_n hx hb dL_law_88 rfl (lv_at hl 1 rfl) ?_
  refine fw_arg (j := 1) hx hb hX hbl hL hS (by omega) (lv_at hl 0 rfl) (lv_at hl 4 rfl) (by decide) dL_law_89 dL_law_90 dL_law_92 dL_law_93 dL_law_94 ?_
  refine fw_arg (j := 2) hx hb hX hbl hL hS (by omega) (lv_at hl 0 rfl) (lv_at hl 4 rfl) (by decide) dL_law_95 dL_law_96 dL_law_98 dL_law_99 dL_law_100 ?_
  refine lv_aload_n hx hb dL_law_101 rfl (lv_at hl 3 rfl) ?_
  refine va_calli (vx_runSW (As := [.ref x, .int (xs (5 * k + 1)), .int (xs (5 * k + 2)), .ref o]) (rest := []) ⟨hx, hb, hml, hown, htf⟩ (k_L_format l hl9 dC dI H.size x xf o cA g (nI ee) (nI ff) (xs (5 * k + 1)) (xs (5 * k + 2)) (Ne.symm n2) (Ne.symm n4)) (vx_cwSW 4 htf (gd_S wk38 wk39 wk0 wk40) rfl rfl rfl ndL_format ⟨Nat.le_of_ble_eq_true rfl, Nat.le_of_ble_eq_true rfl⟩) (fw_HS (fun U hU hW => hE.at (fw_S_pre hS) hU hW) (hP.sub (ws' := [(x, .inr (2, [.ref xf])), (xf, .inr (0, fw_Fl (nI ee) (nI ff))), (o, .inl (cA, 1, .inr (.inl g)))]) [0, 1, 2] rfl) hK) rfl rfl hl.1 rfl (lv_room (Nat.le_of_ble_eq_true rfl)) dL_law_102 ⟨(show cells + 2 ≤ room_1.cells by omega), (show slots + 12 ≤ room_1.slots by omega)⟩) hS (fun q _ h => h.elim (fun h9 => by rw [h9]; exact a1) (fun h => h.elim (fun h9 => by rw [h9]; exact a2) (fun h9 => Nat.le_trans hS.1 h9))) (fun q h => h.elim (fun h9 => by rw [h9]; exact a1) (fun h => h.elim (fun h9 => by rw [h9]; exact a2) (fun h9 => Nat.le_trans hS.1 h9))) (fun r u t H1 locs hH1 hAl hpost hB9 hz hkeep hS => ?_)
  obtain ⟨hr9, hu1, hu0⟩ := hpost
  subst hr9
  have hB9 : va_P (dC, dI) vwCl [(x, .inr (2, [.ref u.1])), (u.1, .inr (0, fw_Fl u.2.1 u.2.2.1)), fw_oc o cA u.2.2.2] H1 := by rw [← hH1]; exact hB9
  obtain ⟨q2, q0, q1⟩ := HP v (xs (5 * k + 1)) (xs (5 * k + 2))
  have key : ∃ e2 f2 : Nat, fw_ok e2 f2 ∧ u.2.1 = nI e2 ∧ u.2.2.1 = nI f2 ∧ (fm_X6_format v.1 v.2.1 v.2.2.1 v.2.2.2.1 v.2.2.2.2.1 v.2.2.2.2.2.1 v.2.2.2.2.2.2 (xs (5 * k + 1)) (xs (5 * k + 2))).2.1 = nI (1000 + 100 * e2 + f2) ∧ (u.1 = xf ∨ H.size ≤ u.1) := by
    cases hB : fc_X5_format (xs (5 * k + 1)) (xs (5 * k + 2)) with
    | true =>
      obtain ⟨y1, y2, y3, -⟩ := hu1 hB
      obtain ⟨-, e2, f2, z1, z2, z3, z4⟩ := q1 hB
      exact ⟨e2, f2, z1, y2.trans z2, y3.trans z3, z4, Or.inr y1⟩
    | false =>
      obtain ⟨y1, y2, y3⟩ := hu0 hB
      exact ⟨ee, ff, hok, y2, y3, (q0 hB).trans hv, Or.inl y1⟩
  obtain ⟨e2, f2, hok2, w1, w2, w3, w4⟩ := key
  have m1 : x ≠ u.1 := by rcases w4 with h | h <;> omega
  have m4 : u.1 ≠ o := by rcases w4 with h | h <;> omega
  have m5 : u.1 ≠ mo := by rcases w4 with h | h <;> omega
  have a4 : s.heap.size ≤ u.1 := w4.elim (fun h => by rw [h]; exact a4) (fun h => Nat.le_trans (Nat.le_trans a1 (Nat.le_of_lt hxl)) h)
  rw [w1, w2] at hB9
  have hP : va_P (dC, dI) vwCl [(x, .inr (2, [.ref u.1])), (u.1, .inr (0, fw_Fl (nI e2) (nI f2))), (o, .inl (cA, 1, .inr (.inl u.2.2.2))), (mo, .inr (3, fw_sl v))] H1 := hB9.app (fw_P1 (hP.sub (ws' := [(mo, .inr (3, fw_sl v))]) [3] rfl) (hkeep mo hml9 (fw_nA2 (Ne.symm n3) (Ne.symm n6) hml9)))
  refine lv_istore (lv' := [(5, .int (jb (!fc_X5_format (xs (5 * k + 1)) (xs (5 * k + 2))))), (0, .ref b), (1, .ref x), (2, .ref mo), (3, .ref o), (4, .int (nI (5 * k)))]) hx hb dL_law_105 hl (by decide) rfl (fun ls hl => ?_)
  refine lv_aload_n hx hb dL_law_107 rfl (lv_at hl 3 rfl) ?_
  refine fw_arg (j := 1) hx hb hX hbl hL hS (by omega) (lv_at hl 1 rfl) (lv_at hl 5 rfl) (by decide) dL_law_108 dL_law_109 dL_law_111 dL_law_112 dL_law_113 ?_
  refine fw_arg (j := 2) hx hb hX hbl hL hS (by omega) (lv_at hl 1 rfl) (lv_at hl 5 rfl) (by decide) dL_law_114 dL_law_115 dL_law_117 dL_law_118 dL_law_119 ?_
  refine fw_callM (va_runV (As := [.int (xs (5 * k + 1)), .int (xs (5 * k + 2))]) (rest := []) ⟨hx, hb, hml, hown, htf⟩ (k_X6_format l dC dI mo v.1 v.2.1 v.2.2.1 v.2.2.2.1 v.2.2.2.2.1 v.2.2.2.2.2.1 v.2.2.2.2.2.2 (xs (5 * k + 1)) (xs (5 * k + 2))) (cwV 2 htf (gd_V wk362 wk363 wk364 wk3 wk365) rfl rfl rfl ndX6_format ⟨Nat.le_of_ble_eq_true rfl, Nat.le_of_ble_eq_true rfl⟩) (fw_RV (va_recv hK hP (ci := 3) (q0 := 3) rfl rfl) (hP.sub (ws' := [(mo, .inr (3, fw_sl v))]) [3] rfl) hK) rfl rfl hl.1 rfl (lv_room (Nat.le_of_ble_eq_true rfl)) dL_law_120 ⟨(show cells + 2 + 0 ≤ room_1.cells by omega), (show slots + 12 + 0 ≤ room_1.slots by omega)⟩) hS a3 (fun H2 locs hn hz2 hk2 hS => ?_)
  generalize fm_X6_format v.1 v.2.1 v.2.2.1 v.2.2.2.1 v.2.2.2.2.1 v.2.2.2.2.2.1 v.2.2.2.2.2.2 (xs (5 * k + 1)) (xs (5 * k + 2)) = rr at hn q1 q2 w3 ⊢
  have hP : va_P (dC, dI) vwCl [(x, .inr (2, [.ref u.1])), (u.1, .inr (0, fw_Fl (nI e2) (nI f2))), (o, .inl (cA, 1, .inr (.inl u.2.2.2))), (mo, .inr (3, fw_sl rr.2))] H2 := (((fw_P1 (hP.sub (ws' := [(x, .inr (2, [.ref u.1]))]) [0] rfl) (hk2 x (vx_lt hP (k := 0) rfl) n3)).app (fw_P1 (hP.sub (ws' := [(u.1, .inr (0, fw_Fl (nI e2) (nI f2)))]) [1] rfl) (hk2 u.1 (vx_lt hP (k := 1) rfl) m5))).app (fw_P1 (hP.sub (ws' := [fw_oc o cA u.2.2.2]) [2] rfl) (hk2 o (vx_lt hP (k := 2) rfl) n6))).app hn
  refine lv_istore (lv' := [(6, .int (rr.1)), (5, .int (jb (!fc_X5_format (xs (5 * k + 1)) (xs (5 * k + 2))))), (0, .ref b), (1, .ref x), (2, .ref mo), (3, .ref o), (4, .int (nI (5 * k)))]) hx hb dL_law_123 hl (by decide) rfl (fun ls hl => ?_)
  refine lv_aload_n hx hb dL_law_125 rfl (lv_at hl 4 rfl) ?_
  refine fw_call (va_runV (As := []) (rest := []) ⟨hx, hb, hml, hown, htf⟩ (k_X6_thrown l dC dI mo rr.2.1 rr.2.2.1 rr.2.2.2.1 rr.2.2.2.2.1 rr.2.2.2.2.2.1 rr.2.2.2.2.2.2.1 rr.2.2.2.2.2.2.2) (cwV 0 htf (gd_V wk358 wk359 wk360 wk3 wk361) rfl rfl rfl ndX6_thrown ⟨Nat.le_of_ble_eq_true rfl, Nat.le_of_ble_eq_true rfl⟩) (fw_RV (va_recv hK hP (ci := 3) (q0 := 3) rfl rfl) (hP.sub (ws' := [(mo, .inr (3, fw_sl rr.2))]) [3] rfl) hK) rfl rfl hl.1 rfl (lv_room (Nat.le_of_ble_eq_true rfl)) dL_law_126 ⟨(show cells + 2 + 0 ≤ room_1.cells by omega), (show slots + 12 + 0 ≤ room_1.slots by omega)⟩) ?_
  refine lv_iload hx hb dL_law_129 (lv_at hl 1 rfl) ?_
  refine lv_icmp_eq (tgt := 136) hx hb dL_law_131 (by decide) (fun c1 => ?_) (fun c1 => absurd (show fm_X6_thrown rr.2.1 rr.2.2.1 rr.2.2.2.1 rr.2.2.2.2.1 rr.2.2.2.2.2.1 rr.2.2.2.2.2.2.1 rr.2.2.2.2.2.2.2 = _ from q2) c1)
  have fin : W p l e room_1 s m #[Value.ref b] below meth c H2 locs (cells + 2) (slots + 12) Q (F0 m 894 ls []) := by
    refine W.widen (k := cells + 6) (n := slots + 26) (by omega) (by omega) ?_
    exact kk H2 locs ls ⟨u.1, e2, f2, u.2.2.2, rr.2, hok2, w3, ⟨m1, n2, n3, m4, m5, n6⟩, ⟨a1, a2, a3, a4⟩, hP, hS⟩ (lv_sub hl [2, 3, 4, 5, 6] rfl)
  refine lv_iload hx hb dL_law_136 (lv_at hl 1 rfl) ?_
  refine lv_if_ne (tgt := 153) hx hb dL_law_138 (by decide) (fun c2 => lv_goto (tgt := 894) hx hb dL_law_153 (by decide) fin) (fun c2 => ?_)
  have hB : fc_X5_format (xs (5 * k + 1)) (xs (5 * k + 2)) = true := by
    have h9 := (jb_0 _).mp c2
    cases h8 : fc_X5_format (xs (5 * k + 1)) (xs (5 * k + 2)) with
    | true => rfl
    | false => rw [h8] at h9; cases h9
  refine lv_aload_n hx hb dL_law_141 rfl (lv_at hl 5 rfl) ?_
  refine lv_iconst (v := 0) hx hb dL_law_142 (by decide) ?_
  refine va_lald hx hb hK hP 2 0 rfl rfl (i := 0) vp_in0 dL_law_143 ?_
  refine lv_iload hx hb dL_law_144 (lv_at hl 0 rfl) ?_
  refine lv_i2l (v := rr.1.toInt64) hx hb dL_law_146 rfl ?_
  refine W.lcmp hx hb dL_law_147 ?_
  refine lv_if_eq (tgt := 153) hx hb dL_law_148 (by decide) (fun c3 => lv_goto (tgt := 894) hx hb dL_law_153 (by decide) fin) (fun c3 => absurd (by rw [(show u.2.2.2 (0 : Int32).toNatClampNeg = rr.1.toInt64 from (hu1 hB).2.2.2.trans (by rw [(q1 hB).1]))]; exact fw_cmp _) c3)
theorem ndL_reckon : yL_reckon.cls ≠ "java/lang/invoke/MethodHandle" ∧ yL_reckon.cls ≠ "java/lang/invoke/VarHandle" ∧ (parseMethodDescriptor yL_reckon.desc).map (fun d => d.parameters.length) = some 6 := by decide +kernel
set_option maxHeartbeats 4000000 in
set_option maxRecDepth 100000 in
theorem lw_c_reckon {p : Program} {l : Launch} {e : Env} {s : State} {m : MethodId} {below : List Frame} {meth : Method} {c : Code} {H : Heap} {locs : List Loc} {cells slots : Nat} {Q : State → Prop} {dC : Nat → ClassId} {dI : Nat → Nat → Nat} {cA : ClassId} {b L x o mo k : Nat} {xs : Nat → Int32} {ls : Array Slot} (C : lw_C p l s m c dC dI cA b L xs) (HP : pf_reckon) (hk : 5 * k + 5 ≤ L) (hcells : cells + 6 ≤ room_1.cells) (hslots : slots + 26 ≤ room_1.slots) (hJ : lw_J (dC, dI) cA s x o mo H locs) (hl : lv_has ls 7 (lw_L b x mo o k))
    (kk : ∀ (H1 : Heap) (locs1 : List Loc) (ls1 : Array Slot), lw_J (dC, dI) cA s x o mo H1 locs1 → lv_has ls1 7 (lw_L b x mo o k) → W p l e room_1 s m #[Value.ref b] below meth c H1 locs1 (cells + 6) (slots + 26) Q (F0 m 894 ls1 [])) : W p l e room_1 s m #[Value.ref b] below meth c H locs cells slots Q (F0 m 156 ls []) := by
  obtain ⟨hx, hb, hml, hown, htf, hE, hK, hX, hbl, hL, hl9⟩ := C
  obtain ⟨xf, ee, ff, g, v, hok, hv, ⟨n1, n2, n3, n4, n5, n6⟩, ⟨a1, a2, a3, a4⟩, hP, hS⟩ := hJ
  have hxl : x < H.size := vx_lt hP (k := 0) rfl
  have hfl : xf < H.size := vx_lt hP (k := 1) rfl
  have hol : o < H.size := vx_lt hP (k := 2) rfl
  have hml9 : mo < H.size := vx_lt hP (k := 3) rfl
  refine lv_aload_n hx hb dL_law_156 rfl (lv_at hl 1 rfl) ?_
  refine fw_arg (j := 1) hx hb hX hbl hL hS (by omega) (lv_at hl 0 rfl) (lv_at hl 4 rfl) (by decide) dL_law_157 dL_law_158 dL_law_160 dL_law_161 dL_law_162 ?_
  refine fw_arg (j := 2) hx hb hX hbl hL hS (by omega) (lv_at hl 0 rfl) (lv_at hl 4 rfl) (by decide) dL_law_163 dL_law_164 dL_law_166 dL_law_167 dL_law_168 ?_
  refine fw_arg (j := 3) hx hb hX hbl hL hS (by omega) (lv_at hl 0 rfl) (lv_at hl 4 rfl) (by decide) dL_law_169 dL_law_170 dL_law_172 dL_law_173 dL_law_174 ?_
  refine fw_arg (j := 4) hx hb hX hbl hL hS (by omega) (lv_at hl 0 rfl) (lv_at hl 4 rfl) (by decide) dL_law_175 dL_law_176 dL_law_178 dL_law_179 dL_law_180 ?_
  refine lv_aload_n hx hb dL_law_181 rfl (lv_at hl 3 rfl) ?_
  refine va_calli (vx_runSW (As := [.ref x, .int (xs (5 * k + 1)), .int (xs (5 * k + 2)), .int (xs (5 * k + 3)), .int (xs (5 * k + 4)), .ref o]) (rest := []) ⟨hx, hb, hml, hown, htf⟩ (k_L_reckon l hl9 dC dI H.size x xf o cA g (fm_X0_init_0 (nI ee) (nI ff)) (fm_X0_init_1 (nI ee) (nI ff)) (fm_X0_init_2 (nI ee) (nI ff)) (fm_X0_init_3 (nI ee) (nI ff)) (fm_X0_init_4 (nI ee) (nI ff)) (fm_X0_init_5 (nI ee) (nI ff)) (xs (5 * k + 1)) (xs (5 * k + 2)) (xs (5 * k + 3)) (xs (5 * k + 4))) (vx_cwSW 6 htf (gd_S wk84 wk85 wk0 wk86) rfl rfl rfl ndL_reckon ⟨Nat.le_of_ble_eq_true rfl, Nat.le_of_ble_eq_true rfl⟩) (fw_HS (fun U hU hW => hE.at (fw_S_pre hS) hU hW) (hP.sub (ws' := [(x, .inr (2, [.ref xf])), (xf, .inr (0, fw_Fl (nI ee) (nI ff))), (o, .inl (cA, 1, .inr (.inl g)))]) [0, 1, 2] rfl) hK) rfl rfl hl.1 rfl (lv_room (Nat.le_of_ble_eq_true rfl)) dL_law_182 ⟨(show cells + 5 ≤ room_1.cells by omega), (show slots + 26 ≤ room_1.slots by omega)⟩) hS (fun q _ h => h.elim (fun h9 => by rw [h9]; exact a2) (fun h9 => Nat.le_trans hS.1 h9)) (fun q h => h.elim (fun h9 => by rw [h9]; exact a2) (fun h9 => Nat.le_trans hS.1 h9)) (fun r u t H1 locs hH1 hAl hpost hB9 hz hkeep hS => ?_)
  obtain ⟨hr9, hv9⟩ := hpost
  subst hr9
  have hPo : va_P (dC, dI) vwCl [fw_oc o cA u] H1 := by rw [← hH1]; exact hB9
  obtain ⟨q2, q1, q3⟩ := HP ee ff hok v hv (xs (5 * k + 1)) (xs (5 * k + 2)) (xs (5 * k + 3)) (xs (5 * k + 4))
  have hP : va_P (dC, dI) vwCl [(x, .inr (2, [.ref xf])), (xf, .inr (0, fw_Fl (nI ee) (nI ff))), (o, .inl (cA, 1, .inr (.inl u))), (mo, .inr (3, fw_sl v))] H1 := (((fw_P1 (hP.sub (ws' := [(x, .inr (2, [.ref xf]))]) [0] rfl) (hkeep x hxl (fw_nA n2 hxl))).app (fw_P1 (hP.sub (ws' := [(xf, .inr (0, fw_Fl (nI ee) (nI ff)))]) [1] rfl) (hkeep xf hfl (fw_nA n4 hfl)))).app hPo).app (fw_P1 (hP.sub (ws' := [(mo, .inr (3, fw_sl v))]) [3] rfl) (hkeep mo hml9 (fw_nA (Ne.symm n6) hml9)))
  refine lv_istore (lv' := [(5, .int (jb (!fc_X5_reckon (fm_X0_init_0 (nI ee) (nI ff)) (fm_X0_init_1 (nI ee) (nI ff)) (fm_X0_init_2 (nI ee) (nI ff)) (fm_X0_init_3 (nI ee) (nI ff)) (fm_X0_init_4 (nI ee) (nI ff)) (fm_X0_init_5 (nI ee) (nI ff)) (xs (5 * k + 1)) (xs (5 * k + 2)) (xs (5 * k + 3)) (xs (5 * k + 4))))), (0, .ref b), (1, .ref x), (2, .ref mo), (3, .ref o), (4, .int (nI (5 * k)))]) hx hb dL_law_185 hl (by decide) rfl (fun ls hl => ?_)
  refine lv_aload_n hx hb dL_law_187 rfl (lv_at hl 3 rfl) ?_
  refine fw_arg (j := 1) hx hb hX hbl hL hS (by omega) (lv_at hl 1 rfl) (lv_at hl 5 rfl) (by decide) dL_law_188 dL_law_189 dL_law_191 dL_law_192 dL_law_193 ?_
  refine fw_arg (j := 2) hx hb hX hbl hL hS (by omega) (lv_at hl 1 rfl) (lv_at hl 5 rfl) (by decide) dL_law_194 dL_law_195 dL_law_197 dL_law_198 dL_law_199 ?_
  refine fw_arg (j := 3) hx hb hX hbl hL hS (by omega) (lv_at hl 1 rfl) (lv_at hl 5 rfl) (by decide) dL_law_200 dL_law_201 dL_law_203 dL_law_204 dL_law_205 ?_
  refine fw_arg (j := 4) hx hb hX hbl hL hS (by omega) (lv_at hl 1 rfl) (lv_at hl 5 rfl) (by decide) dL_law_206 dL_law_207 dL_law_209 dL_law_210 dL_law_211 ?_
  refine fw_callM (va_runV (As := [.int (xs (5 * k + 1)), .int (xs (5 * k + 2)), .int (xs (5 * k + 3)), .int (xs (5 * k + 4))]) (rest := []) ⟨hx, hb, hml, hown, htf⟩ (k_X6_reckon l dC dI mo v.1 v.2.1 v.2.2.1 v.2.2.2.1 v.2.2.2.2.1 v.2.2.2.2.2.1 v.2.2.2.2.2.2 (xs (5 * k + 1)) (xs (5 * k + 2)) (xs (5 * k + 3)) (xs (5 * k + 4))) (cwV 4 htf (gd_V wk375 wk376 wk377 wk3 wk378) rfl rfl rfl ndX6_reckon ⟨Nat.le_of_ble_eq_true rfl, Nat.le_of_ble_eq_true rfl⟩) (fw_RV (va_recv hK hP (ci := 3) (q0 := 3) rfl rfl) (hP.sub (ws' := [(mo, .inr (3, fw_sl v))]) [3] rfl) hK) rfl rfl hl.1 rfl (lv_room (Nat.le_of_ble_eq_true rfl)) dL_law_212 ⟨(show cells + 5 + 0 ≤ room_1.cells by omega), (show slots + 26 + 0 ≤ room_1.slots by omega)⟩) hS a3 (fun H2 locs hn hz2 hk2 hS => ?_)
  generalize fm_X6_reckon v.1 v.2.1 v.2.2.1 v.2.2.2.1 v.2.2.2.2.1 v.2.2.2.2.2.1 v.2.2.2.2.2.2 (xs (5 * k + 1)) (xs (5 * k + 2)) (xs (5 * k + 3)) (xs (5 * k + 4)) = rr at hn q1 q2 q3 ⊢
  have hP : va_P (dC, dI) vwCl [(x, .inr (2, [.ref xf])), (xf, .inr (0, fw_Fl (nI ee) (nI ff))), (o, .inl (cA, 1, .inr (.inl u))), (mo, .inr (3, fw_sl rr.2))] H2 := (((fw_P1 (hP.sub (ws' := [(x, .inr (2, [.ref xf]))]) [0] rfl) (hk2 x (vx_lt hP (k := 0) rfl) n3)).app (fw_P1 (hP.sub (ws' := [(xf, .inr (0, fw_Fl (nI ee) (nI ff)))]) [1] rfl) (hk2 xf (vx_lt hP (k := 1) rfl) n5))).app (fw_P1 (hP.sub (ws' := [fw_oc o cA u]) [2] rfl) (hk2 o (vx_lt hP (k := 2) rfl) n6))).app hn
  refine lv_istore (lv' := [(6, .int (rr.1)), (5, .int (jb (!fc_X5_reckon (fm_X0_init_0 (nI ee) (nI ff)) (fm_X0_init_1 (nI ee) (nI ff)) (fm_X0_init_2 (nI ee) (nI ff)) (fm_X0_init_3 (nI ee) (nI ff)) (fm_X0_init_4 (nI ee) (nI ff)) (fm_X0_init_5 (nI ee) (nI ff)) (xs (5 * k + 1)) (xs (5 * k + 2)) (xs (5 * k + 3)) (xs (5 * k + 4))))), (0, .ref b), (1, .ref x), (2, .ref mo), (3, .ref o), (4, .int (nI (5 * k)))]) hx hb dL_law_215 hl (by decide) rfl (fun ls hl => ?_)
  refine lv_aload_n hx hb dL_law_217 rfl (lv_at hl 4 rfl) ?_
  refine fw_call (va_runV (As := []) (rest := []) ⟨hx, hb, hml, hown, htf⟩ (k_X6_thrown l dC dI mo rr.2.1 rr.2.2.1 rr.2.2.2.1 rr.2.2.2.2.1 rr.2.2.2.2.2.1 rr.2.2.2.2.2.2.1 rr.2.2.2.2.2.2.2) (cwV 0 htf (gd_V wk358 wk359 wk360 wk3 wk361) rfl rfl rfl ndX6_thrown ⟨Nat.le_of_ble_eq_true rfl, Nat.le_of_ble_eq_true rfl⟩) (fw_RV (va_recv hK hP (ci := 3) (q0 := 3) rfl rfl) (hP.sub (ws' := [(mo, .inr (3, fw_sl rr.2))]) [3] rfl) hK) rfl rfl hl.1 rfl (lv_room (Nat.le_of_ble_eq_true rfl)) dL_law_218 ⟨(show cells + 5 + 0 ≤ room_1.cells by omega), (show slots + 26 + 0 ≤ room_1.slots by omega)⟩) ?_
  refine lv_iload hx hb dL_law_221 (lv_at hl 1 rfl) ?_
  refine lv_icmp_eq (tgt := 228) hx hb dL_law_223 (by decide) (fun c1 => ?_) (fun c1 => absurd (show fm_X6_thrown rr.2.1 rr.2.2.1 rr.2.2.2.1 rr.2.2.2.2.1 rr.2.2.2.2.2.1 rr.2.2.2.2.2.2.1 rr.2.2.2.2.2.2.2 = _ from q2) c1)
  have fin : W p l e room_1 s m #[Value.ref b] below meth c H2 locs (cells + 5) (slots + 26) Q (F0 m 894 ls []) := by
    refine W.widen (k := cells + 6) (n := slots + 26) (by omega) (by omega) ?_
    exact kk H2 locs ls ⟨xf, ee, ff, u, rr.2, hok, q1, ⟨n1, n2, n3, n4, n5, n6⟩, ⟨a1, a2, a3, a4⟩, hP, hS⟩ (lv_sub hl [2, 3, 4, 5, 6] rfl)
  refine lv_iload hx hb dL_law_228 (lv_at hl 1 rfl) ?_
  refine lv_if_ne (tgt := 245) hx hb dL_law_230 (by decide) (fun c2 => lv_goto (tgt := 894) hx hb dL_law_245 (by decide) fin) (fun c2 => ?_)
  have hB : fc_X5_reckon (fm_X0_init_0 (nI ee) (nI ff)) (fm_X0_init_1 (nI ee) (nI ff)) (fm_X0_init_2 (nI ee) (nI ff)) (fm_X0_init_3 (nI ee) (nI ff)) (fm_X0_init_4 (nI ee) (nI ff)) (fm_X0_init_5 (nI ee) (nI ff)) (xs (5 * k + 1)) (xs (5 * k + 2)) (xs (5 * k + 3)) (xs (5 * k + 4)) = true := by
    have h9 := (jb_0 _).mp c2
    cases h8 : fc_X5_reckon (fm_X0_init_0 (nI ee) (nI ff)) (fm_X0_init_1 (nI ee) (nI ff)) (fm_X0_init_2 (nI ee) (nI ff)) (fm_X0_init_3 (nI ee) (nI ff)) (fm_X0_init_4 (nI ee) (nI ff)) (fm_X0_init_5 (nI ee) (nI ff)) (xs (5 * k + 1)) (xs (5 * k + 2)) (xs (5 * k + 3)) (xs (5 * k + 4)) with
    | true => rfl
    | false => rw [h8] at h9; cases h9
  refine lv_aload_n hx hb dL_law_233 rfl (lv_at hl 5 rfl) ?_
  refine lv_iconst (v := 0) hx hb dL_law_234 (by decide) ?_
  refine va_lald hx hb hK hP 2 0 rfl rfl (i := 0) vp_in0 dL_law_235 ?_
  refine lv_iload hx hb dL_law_236 (lv_at hl 0 rfl) ?_
  refine lv_i2l (v := rr.1.toInt64) hx hb dL_law_238 rfl ?_
  refine W.lcmp hx hb dL_law_239 ?_
  refine lv_if_eq (tgt := 245) hx hb dL_law_240 (by decide) (fun c3 => lv_goto (tgt := 894) hx hb dL_law_245 (by decide) fin) (fun c3 => absurd (by rw [(show u (0 : Int32).toNatClampNeg = rr.1.toInt64 from (hv9 hB).trans (by rw [q3 hB]))]; exact fw_cmp _) c3)
theorem ndL_change : yL_change.cls ≠ "java/lang/invoke/MethodHandle" ∧ yL_change.cls ≠ "java/lang/invoke/VarHandle" ∧ (parseMethodDescriptor yL_change.desc).map (fun d => d.parameters.length) = some 5 := by decide +kernel
set_option maxHeartbeats 4000000 in
set_option maxRecDepth 100000 in
theorem lw_c_change {p : Program} {l : Launch} {e : Env} {s : State} {m : MethodId} {below : List Frame} {meth : Method} {c : Code} {H : Heap} {locs : List Loc} {cells slots : Nat} {Q : State → Prop} {dC : Nat → ClassId} {dI : Nat → Nat → Nat} {cA : ClassId} {b L x o mo k : Nat} {xs : Nat → Int32} {ls : Array Slot} (C : lw_C p l s m c dC dI cA b L xs) (HP : pf_change) (hk : 5 * k + 5 ≤ L) (hcells : cells + 6 ≤ room_1.cells) (hslots : slots + 26 ≤ room_1.slots) (hJ : lw_J (dC, dI) cA s x o mo H locs) (hl : lv_has ls 7 (lw_L b x mo o k))
    (kk : ∀ (H1 : Heap) (locs1 : List Loc) (ls1 : Array Slot), lw_J (dC, dI) cA s x o mo H1 locs1 → lv_has ls1 7 (lw_L b x mo o k) → W p l e room_1 s m #[Value.ref b] below meth c H1 locs1 (cells + 6) (slots + 26) Q (F0 m 894 ls1 [])) : W p l e room_1 s m #[Value.ref b] below meth c H locs cells slots Q (F0 m 248 ls []) := by
  obtain ⟨hx, hb, hml, hown, htf, hE, hK, hX, hbl, hL, hl9⟩ := C
  obtain ⟨xf, ee, ff, g, v, hok, hv, ⟨n1, n2, n3, n4, n5, n6⟩, ⟨a1, a2, a3, a4⟩, hP, hS⟩ := hJ
  have hxl : x < H.size := vx_lt hP (k := 0) rfl
  have hfl : xf < H.size := vx_lt hP (k := 1) rfl
  have hol : o < H.size := vx_lt hP (k := 2) rfl
  have hml9 : mo < H.size := vx_lt hP (k := 3) rfl
  refine lv_aload_n hx hb dL_law_248 rfl (lv_at hl 1 rfl) ?_
  refine fw_arg (j := 1) hx hb hX hbl hL hS (by omega) (lv_at hl 0 rfl) (lv_at hl 4 rfl) (by decide) dL_law_249 dL_law_250 dL_law_252 dL_law_253 dL_law_254 ?_
  refine fw_arg (j := 2) hx hb hX hbl hL hS (by omega) (lv_at hl 0 rfl) (lv_at hl 4 rfl) (by decide) dL_law_255 dL_law_256 dL_law_258 dL_law_259 dL_law_260 ?_
  refine fw_arg (j := 3) hx hb hX hbl hL hS (by omega) (lv_at hl 0 rfl) (lv_at hl 4 rfl) (by decide) dL_law_261 dL_law_262 dL_law_264 dL_law_265 dL_law_266 ?_
  refine lv_aload_n hx hb dL_law_267 rfl (lv_at hl 3 rfl) ?_
  refine va_calli (vx_runSW (As := [.ref x, .int (xs (5 * k + 1)), .int (xs (5 * k + 2)), .int (xs (5 * k + 3)), .ref o]) (rest := []) ⟨hx, hb, hml, hown, htf⟩ (k_L_change l hl9 dC dI H.size x xf o cA g (fm_X0_init_0 (nI ee) (nI ff)) (fm_X0_init_1 (nI ee) (nI ff)) (fm_X0_init_2 (nI ee) (nI ff)) (fm_X0_init_3 (nI ee) (nI ff)) (fm_X0_init_4 (nI ee) (nI ff)) (fm_X0_init_5 (nI ee) (nI ff)) (xs (5 * k + 1)) (xs (5 * k + 2)) (xs (5 * k + 3))) (vx_cwSW 5 htf (gd_S wk260 wk261 wk0 wk262) rfl rfl rfl ndL_change ⟨Nat.le_of_ble_eq_true rfl, Nat.le_of_ble_eq_true rfl⟩) (fw_HS (fun U hU hW => hE.at (fw_S_pre hS) hU hW) (hP.sub (ws' := [(x, .inr (2, [.ref xf])), (xf, .inr (0, fw_Fl (nI ee) (nI ff))), (o, .inl (cA, 1, .inr (.inl g)))]) [0, 1, 2] rfl) hK) rfl rfl hl.1 rfl (lv_room (Nat.le_of_ble_eq_true rfl)) dL_law_268 ⟨(show cells + 3 ≤ room_1.cells by omega), (show slots + 16 ≤ room_1.slots by omega)⟩) hS (fun q _ h => h.elim (fun h9 => by rw [h9]; exact a2) (fun h9 => Nat.le_trans hS.1 h9)) (fun q h => h.elim (fun h9 => by rw [h9]; exact a2) (fun h9 => Nat.le_trans hS.1 h9)) (fun r u t H1 locs hH1 hAl hpost hB9 hz hkeep hS => ?_)
  obtain ⟨hr9, hv9⟩ := hpost
  subst hr9
  have hPo : va_P (dC, dI) vwCl [fw_oc o cA u] H1 := by rw [← hH1]; exact hB9
  obtain ⟨q2, q1, q3⟩ := HP ee ff hok v hv (xs (5 * k + 1)) (xs (5 * k + 2)) (xs (5 * k + 3))
  have hP : va_P (dC, dI) vwCl [(x, .inr (2, [.ref xf])), (xf, .inr (0, fw_Fl (nI ee) (nI ff))), (o, .inl (cA, 1, .inr (.inl u))), (mo, .inr (3, fw_sl v))] H1 := (((fw_P1 (hP.sub (ws' := [(x, .inr (2, [.ref xf]))]) [0] rfl) (hkeep x hxl (fw_nA n2 hxl))).app (fw_P1 (hP.sub (ws' := [(xf, .inr (0, fw_Fl (nI ee) (nI ff)))]) [1] rfl) (hkeep xf hfl (fw_nA n4 hfl)))).app hPo).app (fw_P1 (hP.sub (ws' := [(mo, .inr (3, fw_sl v))]) [3] rfl) (hkeep mo hml9 (fw_nA (Ne.symm n6) hml9)))
  refine lv_istore (lv' := [(5, .int (jb (!fc_X5_change (fm_X0_init_0 (nI ee) (nI ff)) (fm_X0_init_1 (nI ee) (nI ff)) (fm_X0_init_2 (nI ee) (nI ff)) (fm_X0_init_3 (nI ee) (nI ff)) (fm_X0_init_4 (nI ee) (nI ff)) (fm_X0_init_5 (nI ee) (nI ff)) (xs (5 * k + 1)) (xs (5 * k + 2)) (xs (5 * k + 3))))), (0, .ref b), (1, .ref x), (2, .ref mo), (3, .ref o), (4, .int (nI (5 * k)))]) hx hb dL_law_271 hl (by decide) rfl (fun ls hl => ?_)
  refine lv_aload_n hx hb dL_law_273 rfl (lv_at hl 3 rfl) ?_
  refine fw_arg (j := 1) hx hb hX hbl hL hS (by omega) (lv_at hl 1 rfl) (lv_at hl 5 rfl) (by decide) dL_law_274 dL_law_275 dL_law_277 dL_law_278 dL_law_279 ?_
  refine fw_arg (j := 2) hx hb hX hbl hL hS (by omega) (lv_at hl 1 rfl) (lv_at hl 5 rfl) (by decide) dL_law_280 dL_law_281 dL_law_283 dL_law_284 dL_law_285 ?_
  refine fw_arg (j := 3) hx hb hX hbl hL hS (by omega) (lv_at hl 1 rfl) (lv_at hl 5 rfl) (by decide) dL_law_286 dL_law_287 dL_law_289 dL_law_290 dL_law_291 ?_
  refine fw_callM (va_runV (As := [.int (xs (5 * k + 1)), .int (xs (5 * k + 2)), .int (xs (5 * k + 3))]) (rest := []) ⟨hx, hb, hml, hown, htf⟩ (k_X6_change l dC dI mo v.1 v.2.1 v.2.2.1 v.2.2.2.1 v.2.2.2.2.1 v.2.2.2.2.2.1 v.2.2.2.2.2.2 (xs (5 * k + 1)) (xs (5 * k + 2)) (xs (5 * k + 3))) (cwV 3 htf (gd_V wk419 wk420 wk421 wk3 wk422) rfl rfl rfl ndX6_change ⟨Nat.le_of_ble_eq_true rfl, Nat.le_of_ble_eq_true rfl⟩) (fw_RV (va_recv hK hP (ci := 3) (q0 := 3) rfl rfl) (hP.sub (ws' := [(mo, .inr (3, fw_sl v))]) [3] rfl) hK) rfl rfl hl.1 rfl (lv_room (Nat.le_of_ble_eq_true rfl)) dL_law_292 ⟨(show cells + 3 + 0 ≤ room_1.cells by omega), (show slots + 16 + 0 ≤ room_1.slots by omega)⟩) hS a3 (fun H2 locs hn hz2 hk2 hS => ?_)
  generalize fm_X6_change v.1 v.2.1 v.2.2.1 v.2.2.2.1 v.2.2.2.2.1 v.2.2.2.2.2.1 v.2.2.2.2.2.2 (xs (5 * k + 1)) (xs (5 * k + 2)) (xs (5 * k + 3)) = rr at hn q1 q2 q3 ⊢
  have hP : va_P (dC, dI) vwCl [(x, .inr (2, [.ref xf])), (xf, .inr (0, fw_Fl (nI ee) (nI ff))), (o, .inl (cA, 1, .inr (.inl u))), (mo, .inr (3, fw_sl rr.2))] H2 := (((fw_P1 (hP.sub (ws' := [(x, .inr (2, [.ref xf]))]) [0] rfl) (hk2 x (vx_lt hP (k := 0) rfl) n3)).app (fw_P1 (hP.sub (ws' := [(xf, .inr (0, fw_Fl (nI ee) (nI ff)))]) [1] rfl) (hk2 xf (vx_lt hP (k := 1) rfl) n5))).app (fw_P1 (hP.sub (ws' := [fw_oc o cA u]) [2] rfl) (hk2 o (vx_lt hP (k := 2) rfl) n6))).app hn
  refine lv_istore (lv' := [(6, .int (rr.1)), (5, .int (jb (!fc_X5_change (fm_X0_init_0 (nI ee) (nI ff)) (fm_X0_init_1 (nI ee) (nI ff)) (fm_X0_init_2 (nI ee) (nI ff)) (fm_X0_init_3 (nI ee) (nI ff)) (fm_X0_init_4 (nI ee) (nI ff)) (fm_X0_init_5 (nI ee) (nI ff)) (xs (5 * k + 1)) (xs (5 * k + 2)) (xs (5 * k + 3))))), (0, .ref b), (1, .ref x), (2, .ref mo), (3, .ref o), (4, .int (nI (5 * k)))]) hx hb dL_law_295 hl (by decide) rfl (fun ls hl => ?_)
  refine lv_aload_n hx hb dL_law_297 rfl (lv_at hl 4 rfl) ?_
  refine fw_call (va_runV (As := []) (rest := []) ⟨hx, hb, hml, hown, htf⟩ (k_X6_thrown l dC dI mo rr.2.1 rr.2.2.1 rr.2.2.2.1 rr.2.2.2.2.1 rr.2.2.2.2.2.1 rr.2.2.2.2.2.2.1 rr.2.2.2.2.2.2.2) (cwV 0 htf (gd_V wk358 wk359 wk360 wk3 wk361) rfl rfl rfl ndX6_thrown ⟨Nat.le_of_ble_eq_true rfl, Nat.le_of_ble_eq_true rfl⟩) (fw_RV (va_recv hK hP (ci := 3) (q0 := 3) rfl rfl) (hP.sub (ws' := [(mo, .inr (3, fw_sl rr.2))]) [3] rfl) hK) rfl rfl hl.1 rfl (lv_room (Nat.le_of_ble_eq_true rfl)) dL_law_298 ⟨(show cells + 3 + 0 ≤ room_1.cells by omega), (show slots + 16 + 0 ≤ room_1.slots by omega)⟩) ?_
  refine lv_iload hx hb dL_law_301 (lv_at hl 1 rfl) ?_
  refine lv_icmp_eq (tgt := 308) hx hb dL_law_303 (by decide) (fun c1 => ?_) (fun c1 => absurd (show fm_X6_thrown rr.2.1 rr.2.2.1 rr.2.2.2.1 rr.2.2.2.2.1 rr.2.2.2.2.2.1 rr.2.2.2.2.2.2.1 rr.2.2.2.2.2.2.2 = _ from q2) c1)
  have fin : W p l e room_1 s m #[Value.ref b] below meth c H2 locs (cells + 3) (slots + 16) Q (F0 m 894 ls []) := by
    refine W.widen (k := cells + 6) (n := slots + 26) (by omega) (by omega) ?_
    exact kk H2 locs ls ⟨xf, ee, ff, u, rr.2, hok, q1, ⟨n1, n2, n3, n4, n5, n6⟩, ⟨a1, a2, a3, a4⟩, hP, hS⟩ (lv_sub hl [2, 3, 4, 5, 6] rfl)
  refine lv_iload hx hb dL_law_308 (lv_at hl 1 rfl) ?_
  refine lv_if_ne (tgt := 325) hx hb dL_law_310 (by decide) (fun c2 => lv_goto (tgt := 894) hx hb dL_law_325 (by decide) fin) (fun c2 => ?_)
  have hB : fc_X5_change (fm_X0_init_0 (nI ee) (nI ff)) (fm_X0_init_1 (nI ee) (nI ff)) (fm_X0_init_2 (nI ee) (nI ff)) (fm_X0_init_3 (nI ee) (nI ff)) (fm_X0_init_4 (nI ee) (nI ff)) (fm_X0_init_5 (nI ee) (nI ff)) (xs (5 * k + 1)) (xs (5 * k + 2)) (xs (5 * k + 3)) = true := by
    have h9 := (jb_0 _).mp c2
    cases h8 : fc_X5_change (fm_X0_init_0 (nI ee) (nI ff)) (fm_X0_init_1 (nI ee) (nI ff)) (fm_X0_init_2 (nI ee) (nI ff)) (fm_X0_init_3 (nI ee) (nI ff)) (fm_X0_init_4 (nI ee) (nI ff)) (fm_X0_init_5 (nI ee) (nI ff)) (xs (5 * k + 1)) (xs (5 * k + 2)) (xs (5 * k + 3)) with
    | true => rfl
    | false => rw [h8] at h9; cases h9
  refine lv_aload_n hx hb dL_law_313 rfl (lv_at hl 5 rfl) ?_
  refine lv_iconst (v := 0) hx hb dL_law_314 (by decide) ?_
  refine va_lald hx hb hK hP 2 0 rfl rfl (i := 0) vp_in0 dL_law_315 ?_
  refine lv_iload hx hb dL_law_316 (lv_at hl 0 rfl) ?_
  refine lv_i2l (v := rr.1.toInt64) hx hb dL_law_318 rfl ?_
  refine W.lcmp hx hb dL_law_319 ?_
  refine lv_if_eq (tgt := 325) hx hb dL_law_320 (by decide) (fun c3 => lv_goto (tgt := 894) hx hb dL_law_325 (by decide) fin) (fun c3 => absurd (by rw [(show u (0 : Int32).toNatClampNeg = rr.1.toInt64 from (hv9 hB).trans (by rw [q3 hB]))]; exact fw_cmp _) c3)
theorem ndL_least : yL_least.cls ≠ "java/lang/invoke/MethodHandle" ∧ yL_least.cls ≠ "java/lang/invoke/VarHandle" ∧ (parseMethodDescriptor yL_least.desc).map (fun d => d.parameters.length) = some 5 := by decide +kernel
set_option maxHeartbeats 4000000 in
set_option maxRecDepth 100000 in
theorem lw_c_least {p : Program} {l : Launch} {e : Env} {s : State} {m : MethodId} {below : List Frame} {meth : Method} {c : Code} {H : Heap} {locs : List Loc} {cells slots : Nat} {Q : State → Prop} {dC : Nat → ClassId} {dI : Nat → Nat → Nat} {cA : ClassId} {b L x o mo k : Nat} {xs : Nat → Int32} {ls : Array Slot} (C : lw_C p l s m c dC dI cA b L xs) (HP : pf_least) (hk : 5 * k + 5 ≤ L) (hcells : cells + 6 ≤ room_1.cells) (hslots : slots + 26 ≤ room_1.slots) (hJ : lw_J (dC, dI) cA s x o mo H locs) (hl : lv_has ls 7 (lw_L b x mo o k))
    (kk : ∀ (H1 : Heap) (locs1 : List Loc) (ls1 : Array Slot), lw_J (dC, dI) cA s x o mo H1 locs1 → lv_has ls1 7 (lw_L b x mo o k) → W p l e room_1 s m #[Value.ref b] below meth c H1 locs1 (cells + 6) (slots + 26) Q (F0 m 894 ls1 [])) : W p l e room_1 s m #[Value.ref b] below meth c H locs cells slots Q (F0 m 328 ls []) := by
  obtain ⟨hx, hb, hml, hown, htf, hE, hK, hX, hbl, hL, hl9⟩ := C
  obtain ⟨xf, ee, ff, g, v, hok, hv, ⟨n1, n2, n3, n4, n5, n6⟩, ⟨a1, a2, a3, a4⟩, hP, hS⟩ := hJ
  have hxl : x < H.size := vx_lt hP (k := 0) rfl
  have hfl : xf < H.size := vx_lt hP (k := 1) rfl
  have hol : o < H.size := vx_lt hP (k := 2) rfl
  have hml9 : mo < H.size := vx_lt hP (k := 3) rfl
  refine lv_aload_n hx hb dL_law_328 rfl (lv_at hl 1 rfl) ?_
  refine fw_arg (j := 1) hx hb hX hbl hL hS (by omega) (lv_at hl 0 rfl) (lv_at hl 4 rfl) (by decide) dL_law_329 dL_law_330 dL_law_332 dL_law_333 dL_law_334 ?_
  refine fw_arg (j := 2) hx hb hX hbl hL hS (by omega) (lv_at hl 0 rfl) (lv_at hl 4 rfl) (by decide) dL_law_335 dL_law_336 dL_law_338 dL_law_339 dL_law_340 ?_
  refine fw_arg (j := 3) hx hb hX hbl hL hS (by omega) (lv_at hl 0 rfl) (lv_at hl 4 rfl) (by decide) dL_law_341 dL_law_342 dL_law_344 dL_law_345 dL_law_346 ?_
  refine fw_rnz hx hb dL_law_347 dL_law_350 dL_law_351 dL_law_354 ?_
  refine lv_aload_n hx hb dL_law_355 rfl (lv_at hl 3 rfl) ?_
  refine va_calli (vx_runSW (As := [.ref x, .int (xs (5 * k + 1)), .int (xs (5 * k + 2)), .int (jb (nz (xs (5 * k + 3)))), .ref o]) (rest := []) ⟨hx, hb, hml, hown, htf⟩ (k_L_least l hl9 dC dI H.size x xf o cA g (fm_X0_init_0 (nI ee) (nI ff)) (fm_X0_init_1 (nI ee) (nI ff)) (fm_X0_init_2 (nI ee) (nI ff)) (fm_X0_init_3 (nI ee) (nI ff)) (fm_X0_init_4 (nI ee) (nI ff)) (fm_X0_init_5 (nI ee) (nI ff)) (xs (5 * k + 1)) (xs (5 * k + 2)) (nz (xs (5 * k + 3)))) (vx_cwSW 5 htf (gd_S wk279 wk280 wk0 wk281) rfl rfl rfl ndL_least ⟨Nat.le_of_ble_eq_true rfl, Nat.le_of_ble_eq_true rfl⟩) (fw_HS (fun U hU hW => hE.at (fw_S_pre hS) hU hW) (hP.sub (ws' := [(x, .inr (2, [.ref xf])), (xf, .inr (0, fw_Fl (nI ee) (nI ff))), (o, .inl (cA, 1, .inr (.inl g)))]) [0, 1, 2] rfl) hK) rfl rfl hl.1 rfl (lv_room (Nat.le_of_ble_eq_true rfl)) dL_law_356 ⟨(show cells + 1 ≤ room_1.cells by omega), (show slots + 6 ≤ room_1.slots by omega)⟩) hS (fun q _ h => h.elim (fun h9 => by rw [h9]; exact a2) (fun h9 => Nat.le_trans hS.1 h9)) (fun q h => h.elim (fun h9 => by rw [h9]; exact a2) (fun h9 => Nat.le_trans hS.1 h9)) (fun r u t H1 locs hH1 hAl hpost hB9 hz hkeep hS => ?_)
  obtain ⟨hr9, hv9⟩ := hpost
  subst hr9
  have hPo : va_P (dC, dI) vwCl [fw_oc o cA u] H1 := by rw [← hH1]; exact hB9
  obtain ⟨q2, q1, q3⟩ := HP ee ff hok v hv (xs (5 * k + 1)) (xs (5 * k + 2)) (nz (xs (5 * k + 3)))
  have hP : va_P (dC, dI) vwCl [(x, .inr (2, [.ref xf])), (xf, .inr (0, fw_Fl (nI ee) (nI ff))), (o, .inl (cA, 1, .inr (.inl u))), (mo, .inr (3, fw_sl v))] H1 := (((fw_P1 (hP.sub (ws' := [(x, .inr (2, [.ref xf]))]) [0] rfl) (hkeep x hxl (fw_nA n2 hxl))).app (fw_P1 (hP.sub (ws' := [(xf, .inr (0, fw_Fl (nI ee) (nI ff)))]) [1] rfl) (hkeep xf hfl (fw_nA n4 hfl)))).app hPo).app (fw_P1 (hP.sub (ws' := [(mo, .inr (3, fw_sl v))]) [3] rfl) (hkeep mo hml9 (fw_nA (Ne.symm n6) hml9)))
  refine lv_istore (lv' := [(5, .int (jb (!fc_X5_least (fm_X0_init_0 (nI ee) (nI ff)) (fm_X0_init_1 (nI ee) (nI ff)) (fm_X0_init_2 (nI ee) (nI ff)) (fm_X0_init_3 (nI ee) (nI ff)) (fm_X0_init_4 (nI ee) (nI ff)) (fm_X0_init_5 (nI ee) (nI ff)) (xs (5 * k + 1)) (xs (5 * k + 2)) (nz (xs (5 * k + 3)))))), (0, .ref b), (1, .ref x), (2, .ref mo), (3, .ref o), (4, .int (nI (5 * k)))]) hx hb dL_law_359 hl (by decide) rfl (fun ls hl => ?_)
  refine lv_aload_n hx hb dL_law_361 rfl (lv_at hl 3 rfl) ?_
  refine fw_arg (j := 1) hx hb hX hbl hL hS (by omega) (lv_at hl 1 rfl) (lv_at hl 5 rfl) (by decide) dL_law_362 dL_law_363 dL_law_365 dL_law_366 dL_law_367 ?_
  refine fw_arg (j := 2) hx hb hX hbl hL hS (by omega) (lv_at hl 1 rfl) (lv_at hl 5 rfl) (by decide) dL_law_368 dL_law_369 dL_law_371 dL_law_372 dL_law_373 ?_
  refine fw_arg (j := 3) hx hb hX hbl hL hS (by omega) (lv_at hl 1 rfl) (lv_at hl 5 rfl) (by decide) dL_law_374 dL_law_375 dL_law_377 dL_law_378 dL_law_379 ?_
  refine fw_rnz hx hb dL_law_380 dL_law_383 dL_law_384 dL_law_387 ?_
  refine fw_callM (va_runV (As := [.int (xs (5 * k + 1)), .int (xs (5 * k + 2)), .int (jb (nz (xs (5 * k + 3))))]) (rest := []) ⟨hx, hb, hml, hown, htf⟩ (k_X6_least l dC dI mo v.1 v.2.1 v.2.2.1 v.2.2.2.1 v.2.2.2.2.1 v.2.2.2.2.2.1 v.2.2.2.2.2.2 (xs (5 * k + 1)) (xs (5 * k + 2)) (nz (xs (5 * k + 3)))) (cwV 3 htf (gd_V wk434 wk435 wk436 wk3 wk437) rfl rfl rfl ndX6_least ⟨Nat.le_of_ble_eq_true rfl, Nat.le_of_ble_eq_true rfl⟩) (fw_RV (va_recv hK hP (ci := 3) (q0 := 3) rfl rfl) (hP.sub (ws' := [(mo, .inr (3, fw_sl v))]) [3] rfl) hK) rfl rfl hl.1 rfl (lv_room (Nat.le_of_ble_eq_true rfl)) dL_law_388 ⟨(show cells + 1 + 0 ≤ room_1.cells by omega), (show slots + 6 + 0 ≤ room_1.slots by omega)⟩) hS a3 (fun H2 locs hn hz2 hk2 hS => ?_)
  generalize fm_X6_least v.1 v.2.1 v.2.2.1 v.2.2.2.1 v.2.2.2.2.1 v.2.2.2.2.2.1 v.2.2.2.2.2.2 (xs (5 * k + 1)) (xs (5 * k + 2)) (nz (xs (5 * k + 3))) = rr at hn q1 q2 q3 ⊢
  have hP : va_P (dC, dI) vwCl [(x, .inr (2, [.ref xf])), (xf, .inr (0, fw_Fl (nI ee) (nI ff))), (o, .inl (cA, 1, .inr (.inl u))), (mo, .inr (3, fw_sl rr.2))] H2 := (((fw_P1 (hP.sub (ws' := [(x, .inr (2, [.ref xf]))]) [0] rfl) (hk2 x (vx_lt hP (k := 0) rfl) n3)).app (fw_P1 (hP.sub (ws' := [(xf, .inr (0, fw_Fl (nI ee) (nI ff)))]) [1] rfl) (hk2 xf (vx_lt hP (k := 1) rfl) n5))).app (fw_P1 (hP.sub (ws' := [fw_oc o cA u]) [2] rfl) (hk2 o (vx_lt hP (k := 2) rfl) n6))).app hn
  refine lv_istore (lv' := [(6, .int (rr.1)), (5, .int (jb (!fc_X5_least (fm_X0_init_0 (nI ee) (nI ff)) (fm_X0_init_1 (nI ee) (nI ff)) (fm_X0_init_2 (nI ee) (nI ff)) (fm_X0_init_3 (nI ee) (nI ff)) (fm_X0_init_4 (nI ee) (nI ff)) (fm_X0_init_5 (nI ee) (nI ff)) (xs (5 * k + 1)) (xs (5 * k + 2)) (nz (xs (5 * k + 3)))))), (0, .ref b), (1, .ref x), (2, .ref mo), (3, .ref o), (4, .int (nI (5 * k)))]) hx hb dL_law_391 hl (by decide) rfl (fun ls hl => ?_)
  refine lv_aload_n hx hb dL_law_393 rfl (lv_at hl 4 rfl) ?_
  refine fw_call (va_runV (As := []) (rest := []) ⟨hx, hb, hml, hown, htf⟩ (k_X6_thrown l dC dI mo rr.2.1 rr.2.2.1 rr.2.2.2.1 rr.2.2.2.2.1 rr.2.2.2.2.2.1 rr.2.2.2.2.2.2.1 rr.2.2.2.2.2.2.2) (cwV 0 htf (gd_V wk358 wk359 wk360 wk3 wk361) rfl rfl rfl ndX6_thrown ⟨Nat.le_of_ble_eq_true rfl, Nat.le_of_ble_eq_true rfl⟩) (fw_RV (va_recv hK hP (ci := 3) (q0 := 3) rfl rfl) (hP.sub (ws' := [(mo, .inr (3, fw_sl rr.2))]) [3] rfl) hK) rfl rfl hl.1 rfl (lv_room (Nat.le_of_ble_eq_true rfl)) dL_law_394 ⟨(show cells + 1 + 0 ≤ room_1.cells by omega), (show slots + 6 + 0 ≤ room_1.slots by omega)⟩) ?_
  refine lv_iload hx hb dL_law_397 (lv_at hl 1 rfl) ?_
  refine lv_icmp_eq (tgt := 404) hx hb dL_law_399 (by decide) (fun c1 => ?_) (fun c1 => absurd (show fm_X6_thrown rr.2.1 rr.2.2.1 rr.2.2.2.1 rr.2.2.2.2.1 rr.2.2.2.2.2.1 rr.2.2.2.2.2.2.1 rr.2.2.2.2.2.2.2 = _ from q2) c1)
  have fin : W p l e room_1 s m #[Value.ref b] below meth c H2 locs (cells + 1) (slots + 6) Q (F0 m 894 ls []) := by
    refine W.widen (k := cells + 6) (n := slots + 26) (by omega) (by omega) ?_
    exact kk H2 locs ls ⟨xf, ee, ff, u, rr.2, hok, q1, ⟨n1, n2, n3, n4, n5, n6⟩, ⟨a1, a2, a3, a4⟩, hP, hS⟩ (lv_sub hl [2, 3, 4, 5, 6] rfl)
  refine lv_iload hx hb dL_law_404 (lv_at hl 1 rfl) ?_
  refine lv_if_ne (tgt := 421) hx hb dL_law_406 (by decide) (fun c2 => lv_goto (tgt := 894) hx hb dL_law_421 (by decide) fin) (fun c2 => ?_)
  have hB : fc_X5_least (fm_X0_init_0 (nI ee) (nI ff)) (fm_X0_init_1 (nI ee) (nI ff)) (fm_X0_init_2 (nI ee) (nI ff)) (fm_X0_init_3 (nI ee) (nI ff)) (fm_X0_init_4 (nI ee) (nI ff)) (fm_X0_init_5 (nI ee) (nI ff)) (xs (5 * k + 1)) (xs (5 * k + 2)) (nz (xs (5 * k + 3))) = true := by
    have h9 := (jb_0 _).mp c2
    cases h8 : fc_X5_least (fm_X0_init_0 (nI ee) (nI ff)) (fm_X0_init_1 (nI ee) (nI ff)) (fm_X0_init_2 (nI ee) (nI ff)) (fm_X0_init_3 (nI ee) (nI ff)) (fm_X0_init_4 (nI ee) (nI ff)) (fm_X0_init_5 (nI ee) (nI ff)) (xs (5 * k + 1)) (xs (5 * k + 2)) (nz (xs (5 * k + 3))) with
    | true => rfl
    | false => rw [h8] at h9; cases h9
  refine lv_aload_n hx hb dL_law_409 rfl (lv_at hl 5 rfl) ?_
  refine lv_iconst (v := 0) hx hb dL_law_410 (by decide) ?_
  refine va_lald hx hb hK hP 2 0 rfl rfl (i := 0) vp_in0 dL_law_411 ?_
  refine lv_iload hx hb dL_law_412 (lv_at hl 0 rfl) ?_
  refine lv_i2l (v := rr.1.toInt64) hx hb dL_law_414 rfl ?_
  refine W.lcmp hx hb dL_law_415 ?_
  refine lv_if_eq (tgt := 421) hx hb dL_law_416 (by decide) (fun c3 => lv_goto (tgt := 894) hx hb dL_law_421 (by decide) fin) (fun c3 => absurd (by rw [(show u (0 : Int32).toNatClampNeg = rr.1.toInt64 from (hv9 hB).trans (by rw [q3 hB]))]; exact fw_cmp _) c3)
theorem ndL_compare : yL_compare.cls ≠ "java/lang/invoke/MethodHandle" ∧ yL_compare.cls ≠ "java/lang/invoke/VarHandle" ∧ (parseMethodDescriptor yL_compare.desc).map (fun d => d.parameters.length) = some 5 := by decide +kernel
set_option maxHeartbeats 4000000 in
set_option maxRecDepth 100000 in
theorem lw_c_compare {p : Program} {l : Launch} {e : Env} {s : State} {m : MethodId} {below : List Frame} {meth : Method} {c : Code} {H : Heap} {locs : List Loc} {cells slots : Nat} {Q : State → Prop} {dC : Nat → ClassId} {dI : Nat → Nat → Nat} {cA : ClassId} {b L x o mo k : Nat} {xs : Nat → Int32} {ls : Array Slot} (C : lw_C p l s m c dC dI cA b L xs) (HP : pf_compare) (hk : 5 * k + 5 ≤ L) (hcells : cells + 6 ≤ room_1.cells) (hslots : slots + 26 ≤ room_1.slots) (hJ : lw_J (dC, dI) cA s x o mo H locs) (hl : lv_has ls 7 (lw_L b x mo o k))
    (kk : ∀ (H1 : Heap) (locs1 : List Loc) (ls1 : Array Slot), lw_J (dC, dI) cA s x o mo H1 locs1 → lv_has ls1 7 (lw_L b x mo o k) → W p l e room_1 s m #[Value.ref b] below meth c H1 locs1 (cells + 6) (slots + 26) Q (F0 m 894 ls1 [])) : W p l e room_1 s m #[Value.ref b] below meth c H locs cells slots Q (F0 m 424 ls []) := by
  obtain ⟨hx, hb, hml, hown, htf, hE, hK, hX, hbl, hL, hl9⟩ := C
  obtain ⟨xf, ee, ff, g, v, hok, hv, ⟨n1, n2, n3, n4, n5, n6⟩, ⟨a1, a2, a3, a4⟩, hP, hS⟩ := hJ
  have hxl : x < H.size := vx_lt hP (k := 0) rfl
  have hfl : xf < H.size := vx_lt hP (k := 1) rfl
  have hol : o < H.size := vx_lt hP (k := 2) rfl
  have hml9 : mo < H.size := vx_lt hP (k := 3) rfl
  refine lv_aload_n hx hb dL_law_424 rfl (lv_at hl 1 rfl) ?_
  refine fw_arg (j := 1) hx hb hX hbl hL hS (by omega) (lv_at hl 0 rfl) (lv_at hl 4 rfl) (by decide) dL_law_425 dL_law_426 dL_law_428 dL_law_429 dL_law_430 ?_
  refine fw_arg (j := 2) hx hb hX hbl hL hS (by omega) (lv_at hl 0 rfl) (lv_at hl 4 rfl) (by decide) dL_law_431 dL_law_432 dL_law_434 dL_law_435 dL_law_436 ?_
  refine fw_arg (j := 3) hx hb hX hbl hL hS (by omega) (lv_at hl 0 rfl) (lv_at hl 4 rfl) (by decide) dL_law_437 dL_law_438 dL_law_440 dL_law_441 dL_law_442 ?_
  refine lv_aload_n hx hb dL_law_443 rfl (lv_at hl 3 rfl) ?_
  refine va_calli (vx_runSW (As := [.ref x, .int (xs (5 * k + 1)), .int (xs (5 * k + 2)), .int (xs (5 * k + 3)), .ref o]) (rest := []) ⟨hx, hb, hml, hown, htf⟩ (k_L_compare l hl9 dC dI H.size x xf o cA g (fm_X0_init_0 (nI ee) (nI ff)) (fm_X0_init_1 (nI ee) (nI ff)) (fm_X0_init_2 (nI ee) (nI ff)) (fm_X0_init_3 (nI ee) (nI ff)) (fm_X0_init_4 (nI ee) (nI ff)) (fm_X0_init_5 (nI ee) (nI ff)) (xs (5 * k + 1)) (xs (5 * k + 2)) (xs (5 * k + 3))) (vx_cwSW 5 htf (gd_S wk295 wk296 wk0 wk297) rfl rfl rfl ndL_compare ⟨Nat.le_of_ble_eq_true rfl, Nat.le_of_ble_eq_true rfl⟩) (fw_HS (fun U hU hW => hE.at (fw_S_pre hS) hU hW) (hP.sub (ws' := [(x, .inr (2, [.ref xf])), (xf, .inr (0, fw_Fl (nI ee) (nI ff))), (o, .inl (cA, 1, .inr (.inl g)))]) [0, 1, 2] rfl) hK) rfl rfl hl.1 rfl (lv_room (Nat.le_of_ble_eq_true rfl)) dL_law_444 ⟨(show cells + 1 ≤ room_1.cells by omega), (show slots + 6 ≤ room_1.slots by omega)⟩) hS (fun q _ h => h.elim (fun h9 => by rw [h9]; exact a2) (fun h9 => Nat.le_trans hS.1 h9)) (fun q h => h.elim (fun h9 => by rw [h9]; exact a2) (fun h9 => Nat.le_trans hS.1 h9)) (fun r u t H1 locs hH1 hAl hpost hB9 hz hkeep hS => ?_)
  obtain ⟨hr9, hv9⟩ := hpost
  subst hr9
  have hPo : va_P (dC, dI) vwCl [fw_oc o cA u] H1 := by rw [← hH1]; exact hB9
  obtain ⟨q2, q1, q3⟩ := HP ee ff hok v hv (xs (5 * k + 1)) (xs (5 * k + 2)) (xs (5 * k + 3))
  have hP : va_P (dC, dI) vwCl [(x, .inr (2, [.ref xf])), (xf, .inr (0, fw_Fl (nI ee) (nI ff))), (o, .inl (cA, 1, .inr (.inl u))), (mo, .inr (3, fw_sl v))] H1 := (((fw_P1 (hP.sub (ws' := [(x, .inr (2, [.ref xf]))]) [0] rfl) (hkeep x hxl (fw_nA n2 hxl))).app (fw_P1 (hP.sub (ws' := [(xf, .inr (0, fw_Fl (nI ee) (nI ff)))]) [1] rfl) (hkeep xf hfl (fw_nA n4 hfl)))).app hPo).app (fw_P1 (hP.sub (ws' := [(mo, .inr (3, fw_sl v))]) [3] rfl) (hkeep mo hml9 (fw_nA (Ne.symm n6) hml9)))
  refine lv_istore (lv' := [(5, .int (jb (!fc_X5_compare (fm_X0_init_0 (nI ee) (nI ff)) (fm_X0_init_1 (nI ee) (nI ff)) (fm_X0_init_2 (nI ee) (nI ff)) (fm_X0_init_3 (nI ee) (nI ff)) (fm_X0_init_4 (nI ee) (nI ff)) (fm_X0_init_5 (nI ee) (nI ff)) (xs (5 * k + 1)) (xs (5 * k + 2)) (xs (5 * k + 3))))), (0, .ref b), (1, .ref x), (2, .ref mo), (3, .ref o), (4, .int (nI (5 * k)))]) hx hb dL_law_447 hl (by decide) rfl (fun ls hl => ?_)
  refine lv_aload_n hx hb dL_law_449 rfl (lv_at hl 3 rfl) ?_
  refine fw_arg (j := 1) hx hb hX hbl hL hS (by omega) (lv_at hl 1 rfl) (lv_at hl 5 rfl) (by decide) dL_law_450 dL_law_451 dL_law_453 dL_law_454 dL_law_455 ?_
  refine fw_arg (j := 2) hx hb hX hbl hL hS (by omega) (lv_at hl 1 rfl) (lv_at hl 5 rfl) (by decide) dL_law_456 dL_law_457 dL_law_459 dL_law_460 dL_law_461 ?_
  refine fw_arg (j := 3) hx hb hX hbl hL hS (by omega) (lv_at hl 1 rfl) (lv_at hl 5 rfl) (by decide) dL_law_462 dL_law_463 dL_law_465 dL_law_466 dL_law_467 ?_
  refine fw_callM (va_runV (As := [.int (xs (5 * k + 1)), .int (xs (5 * k + 2)), .int (xs (5 * k + 3))]) (rest := []) ⟨hx, hb, hml, hown, htf⟩ (k_X6_compare l dC dI mo v.1 v.2.1 v.2.2.1 v.2.2.2.1 v.2.2.2.2.1 v.2.2.2.2.2.1 v.2.2.2.2.2.2 (xs (5 * k + 1)) (xs (5 * k + 2)) (xs (5 * k + 3))) (cwV 3 htf (gd_V wk444 wk445 wk446 wk3 wk447) rfl rfl rfl ndX6_compare ⟨Nat.le_of_ble_eq_true rfl, Nat.le_of_ble_eq_true rfl⟩) (fw_RV (va_recv hK hP (ci := 3) (q0 := 3) rfl rfl) (hP.sub (ws' := [(mo, .inr (3, fw_sl v))]) [3] rfl) hK) rfl rfl hl.1 rfl (lv_room (Nat.le_of_ble_eq_true rfl)) dL_law_468 ⟨(show cells + 1 + 0 ≤ room_1.cells by omega), (show slots + 6 + 0 ≤ room_1.slots by omega)⟩) hS a3 (fun H2 locs hn hz2 hk2 hS => ?_)
  generalize fm_X6_compare v.1 v.2.1 v.2.2.1 v.2.2.2.1 v.2.2.2.2.1 v.2.2.2.2.2.1 v.2.2.2.2.2.2 (xs (5 * k + 1)) (xs (5 * k + 2)) (xs (5 * k + 3)) = rr at hn q1 q2 q3 ⊢
  have hP : va_P (dC, dI) vwCl [(x, .inr (2, [.ref xf])), (xf, .inr (0, fw_Fl (nI ee) (nI ff))), (o, .inl (cA, 1, .inr (.inl u))), (mo, .inr (3, fw_sl rr.2))] H2 := (((fw_P1 (hP.sub (ws' := [(x, .inr (2, [.ref xf]))]) [0] rfl) (hk2 x (vx_lt hP (k := 0) rfl) n3)).app (fw_P1 (hP.sub (ws' := [(xf, .inr (0, fw_Fl (nI ee) (nI ff)))]) [1] rfl) (hk2 xf (vx_lt hP (k := 1) rfl) n5))).app (fw_P1 (hP.sub (ws' := [fw_oc o cA u]) [2] rfl) (hk2 o (vx_lt hP (k := 2) rfl) n6))).app hn
  refine lv_istore (lv' := [(6, .int (jb rr.1)), (5, .int (jb (!fc_X5_compare (fm_X0_init_0 (nI ee) (nI ff)) (fm_X0_init_1 (nI ee) (nI ff)) (fm_X0_init_2 (nI ee) (nI ff)) (fm_X0_init_3 (nI ee) (nI ff)) (fm_X0_init_4 (nI ee) (nI ff)) (fm_X0_init_5 (nI ee) (nI ff)) (xs (5 * k + 1)) (xs (5 * k + 2)) (xs (5 * k + 3))))), (0, .ref b), (1, .ref x), (2, .ref mo), (3, .ref o), (4, .int (nI (5 * k)))]) hx hb dL_law_471 hl (by decide) rfl (fun ls hl => ?_)
  refine lv_aload_n hx hb dL_law_473 rfl (lv_at hl 4 rfl) ?_
  refine fw_call (va_runV (As := []) (rest := []) ⟨hx, hb, hml, hown, htf⟩ (k_X6_thrown l dC dI mo rr.2.1 rr.2.2.1 rr.2.2.2.1 rr.2.2.2.2.1 rr.2.2.2.2.2.1 rr.2.2.2.2.2.2.1 rr.2.2.2.2.2.2.2) (cwV 0 htf (gd_V wk358 wk359 wk360 wk3 wk361) rfl rfl rfl ndX6_thrown ⟨Nat.le_of_ble_eq_true rfl, Nat.le_of_ble_eq_true rfl⟩) (fw_RV (va_recv hK hP (ci := 3) (q0 := 3) rfl rfl) (hP.sub (ws' := [(mo, .inr (3, fw_sl rr.2))]) [3] rfl) hK) rfl rfl hl.1 rfl (lv_room (Nat.le_of_ble_eq_true rfl)) dL_law_474 ⟨(show cells + 1 + 0 ≤ room_1.cells by omega), (show slots + 6 + 0 ≤ room_1.slots by omega)⟩) ?_
  refine lv_iload hx hb dL_law_477 (lv_at hl 1 rfl) ?_
  refine lv_icmp_eq (tgt := 484) hx hb dL_law_479 (by decide) (fun c1 => ?_) (fun c1 => absurd (show fm_X6_thrown rr.2.1 rr.2.2.1 rr.2.2.2.1 rr.2.2.2.2.1 rr.2.2.2.2.2.1 rr.2.2.2.2.2.2.1 rr.2.2.2.2.2.2.2 = _ from q2) c1)
  have fin : W p l e room_1 s m #[Value.ref b] below meth c H2 locs (cells + 1) (slots + 6) Q (F0 m 894 ls []) := by
    refine W.widen (k := cells + 6) (n := slots + 26) (by omega) (by omega) ?_
    exact kk H2 locs ls ⟨xf, ee, ff, u, rr.2, hok, q1, ⟨n1, n2, n3, n4, n5, n6⟩, ⟨a1, a2, a3, a4⟩, hP, hS⟩ (lv_sub hl [2, 3, 4, 5, 6] rfl)
  refine lv_iload hx hb dL_law_484 (lv_at hl 1 rfl) ?_
  refine lv_if_ne (tgt := 508) hx hb dL_law_486 (by decide) (fun c2 => lv_goto (tgt := 894) hx hb dL_law_508 (by decide) fin) (fun c2 => ?_)
  have hB : fc_X5_compare (fm_X0_init_0 (nI ee) (nI ff)) (fm_X0_init_1 (nI ee) (nI ff)) (fm_X0_init_2 (nI ee) (nI ff)) (fm_X0_init_3 (nI ee) (nI ff)) (fm_X0_init_4 (nI ee) (nI ff)) (fm_X0_init_5 (nI ee) (nI ff)) (xs (5 * k + 1)) (xs (5 * k + 2)) (xs (5 * k + 3)) = true := by
    have h9 := (jb_0 _).mp c2
    cases h8 : fc_X5_compare (fm_X0_init_0 (nI ee) (nI ff)) (fm_X0_init_1 (nI ee) (nI ff)) (fm_X0_init_2 (nI ee) (nI ff)) (fm_X0_init_3 (nI ee) (nI ff)) (fm_X0_init_4 (nI ee) (nI ff)) (fm_X0_init_5 (nI ee) (nI ff)) (xs (5 * k + 1)) (xs (5 * k + 2)) (xs (5 * k + 3)) with
    | true => rfl
    | false => rw [h8] at h9; cases h9
  refine lv_aload_n hx hb dL_law_489 rfl (lv_at hl 5 rfl) ?_
  refine lv_iconst (v := 0) hx hb dL_law_490 (by decide) ?_
  refine va_lald hx hb hK hP 2 0 rfl rfl (i := 0) vp_in0 dL_law_491 ?_
  refine lv_iload hx hb dL_law_492 (lv_at hl 0 rfl) ?_
  refine fw_rbl hx hb dL_law_494 dL_law_497 dL_law_498 dL_law_501 ?_
  refine W.lcmp hx hb dL_law_502 ?_
  refine lv_if_eq (tgt := 508) hx hb dL_law_503 (by decide) (fun c3 => lv_goto (tgt := 894) hx hb dL_law_508 (by decide) fin) (fun c3 => absurd (by rw [(show u (0 : Int32).toNatClampNeg = jl rr.1 from (hv9 hB).trans (by rw [q3 hB]))]; exact fw_cmp _) c3)
theorem ndL_is : yL_is.cls ≠ "java/lang/invoke/MethodHandle" ∧ yL_is.cls ≠ "java/lang/invoke/VarHandle" ∧ (parseMethodDescriptor yL_is.desc).map (fun d => d.parameters.length) = some 4 := by decide +kernel
set_option maxHeartbeats 4000000 in
set_option maxRecDepth 100000 in
theorem lw_c_is {p : Program} {l : Launch} {e : Env} {s : State} {m : MethodId} {below : List Frame} {meth : Method} {c : Code} {H : Heap} {locs : List Loc} {cells slots : Nat} {Q : State → Prop} {dC : Nat → ClassId} {dI : Nat → Nat → Nat} {cA : ClassId} {b L x o mo k : Nat} {xs : Nat → Int32} {ls : Array Slot} (C : lw_C p l s m c dC dI cA b L xs) (HP : pf_is) (hk : 5 * k + 5 ≤ L) (hcells : cells + 6 ≤ room_1.cells) (hslots : slots + 26 ≤ room_1.slots) (hJ : lw_J (dC, dI) cA s x o mo H locs) (hl : lv_has ls 7 (lw_L b x mo o k))
    (kk : ∀ (H1 : Heap) (locs1 : List Loc) (ls1 : Array Slot), lw_J (dC, dI) cA s x o mo H1 locs1 → lv_has ls1 7 (lw_L b x mo o k) → W p l e room_1 s m #[Value.ref b] below meth c H1 locs1 (cells + 6) (slots + 26) Q (F0 m 894 ls1 [])) : W p l e room_1 s m #[Value.ref b] below meth c H locs cells slots Q (F0 m 511 ls []) := by
  obtain ⟨hx, hb, hml, hown, htf, hE, hK, hX, hbl, hL, hl9⟩ := C
  obtain ⟨xf, ee, ff, g, v, hok, hv, ⟨n1, n2, n3, n4, n5, n6⟩, ⟨a1, a2, a3, a4⟩, hP, hS⟩ := hJ
  have hxl : x < H.size := vx_lt hP (k := 0) rfl
  have hfl : xf < H.size := vx_lt hP (k := 1) rfl
  have hol : o < H.size := vx_lt hP (k := 2) rfl
  have hml9 : mo < H.size := vx_lt hP (k := 3) rfl
  refine lv_aload_n hx hb dL_law_511 rfl (lv_at hl 1 rfl) ?_
  refine fw_arg (j := 1) hx hb hX hbl hL hS (by omega) (lv_at hl 0 rfl) (lv_at hl 4 rfl) (by decide) dL_law_512 dL_law_513 dL_law_515 dL_law_516 dL_law_517 ?_
  refine fw_arg (j := 2) hx hb hX hbl hL hS (by omega) (lv_at hl 0 rfl) (lv_at hl 4 rfl) (by decide) dL_law_518 dL_law_519 dL_law_521 dL_law_522 dL_law_523 ?_
  refine lv_aload_n hx hb dL_law_524 rfl (lv_at hl 3 rfl) ?_
  refine va_calli (vx_runSW (As := [.ref x, .int (xs (5 * k + 1)), .int (xs (5 * k + 2)), .ref o]) (rest := []) ⟨hx, hb, hml, hown, htf⟩ (k_L_is l hl9 dC dI H.size x xf o cA g (fm_X0_init_0 (nI ee) (nI ff)) (fm_X0_init_1 (nI ee) (nI ff)) (fm_X0_init_2 (nI ee) (nI ff)) (fm_X0_init_3 (nI ee) (nI ff)) (fm_X0_init_4 (nI ee) (nI ff)) (fm_X0_init_5 (nI ee) (nI ff)) (xs (5 * k + 1)) (xs (5 * k + 2))) (vx_cwSW 4 htf (gd_S wk303 wk304 wk0 wk305) rfl rfl rfl ndL_is ⟨Nat.le_of_ble_eq_true rfl, Nat.le_of_ble_eq_true rfl⟩) (fw_HS (fun U hU hW => hE.at (fw_S_pre hS) hU hW) (hP.sub (ws' := [(x, .inr (2, [.ref xf])), (xf, .inr (0, fw_Fl (nI ee) (nI ff))), (o, .inl (cA, 1, .inr (.inl g)))]) [0, 1, 2] rfl) hK) rfl rfl hl.1 rfl (lv_room (Nat.le_of_ble_eq_true rfl)) dL_law_525 ⟨(show cells + 2 ≤ room_1.cells by omega), (show slots + 11 ≤ room_1.slots by omega)⟩) hS (fun q _ h => h.elim (fun h9 => by rw [h9]; exact a2) (fun h9 => Nat.le_trans hS.1 h9)) (fun q h => h.elim (fun h9 => by rw [h9]; exact a2) (fun h9 => Nat.le_trans hS.1 h9)) (fun r u t H1 locs hH1 hAl hpost hB9 hz hkeep hS => ?_)
  obtain ⟨hr9, hv9⟩ := hpost
  subst hr9
  have hPo : va_P (dC, dI) vwCl [fw_oc o cA u] H1 := by rw [← hH1]; exact hB9
  obtain ⟨q2, q1, q3⟩ := HP ee ff hok v hv (xs (5 * k + 1)) (xs (5 * k + 2))
  have hP : va_P (dC, dI) vwCl [(x, .inr (2, [.ref xf])), (xf, .inr (0, fw_Fl (nI ee) (nI ff))), (o, .inl (cA, 1, .inr (.inl u))), (mo, .inr (3, fw_sl v))] H1 := (((fw_P1 (hP.sub (ws' := [(x, .inr (2, [.ref xf]))]) [0] rfl) (hkeep x hxl (fw_nA n2 hxl))).app (fw_P1 (hP.sub (ws' := [(xf, .inr (0, fw_Fl (nI ee) (nI ff)))]) [1] rfl) (hkeep xf hfl (fw_nA n4 hfl)))).app hPo).app (fw_P1 (hP.sub (ws' := [(mo, .inr (3, fw_sl v))]) [3] rfl) (hkeep mo hml9 (fw_nA (Ne.symm n6) hml9)))
  refine lv_istore (lv' := [(5, .int (jb (!fc_X5_is (fm_X0_init_0 (nI ee) (nI ff)) (fm_X0_init_1 (nI ee) (nI ff)) (fm_X0_init_2 (nI ee) (nI ff)) (fm_X0_init_3 (nI ee) (nI ff)) (fm_X0_init_4 (nI ee) (nI ff)) (fm_X0_init_5 (nI ee) (nI ff)) (xs (5 * k + 1)) (xs (5 * k + 2))))), (0, .ref b), (1, .ref x), (2, .ref mo), (3, .ref o), (4, .int (nI (5 * k)))]) hx hb dL_law_528 hl (by decide) rfl (fun ls hl => ?_)
  refine lv_aload_n hx hb dL_law_530 rfl (lv_at hl 3 rfl) ?_
  refine fw_arg (j := 1) hx hb hX hbl hL hS (by omega) (lv_at hl 1 rfl) (lv_at hl 5 rfl) (by decide) dL_law_531 dL_law_532 dL_law_534 dL_law_535 dL_law_536 ?_
  refine fw_arg (j := 2) hx hb hX hbl hL hS (by omega) (lv_at hl 1 rfl) (lv_at hl 5 rfl) (by decide) dL_law_537 dL_law_538 dL_law_540 dL_law_541 dL_law_542 ?_
  refine fw_callM (va_runV (As := [.int (xs (5 * k + 1)), .int (xs (5 * k + 2))]) (rest := []) ⟨hx, hb, hml, hown, htf⟩ (k_X6_is l dC dI mo v.1 v.2.1 v.2.2.1 v.2.2.2.1 v.2.2.2.2.1 v.2.2.2.2.2.1 v.2.2.2.2.2.2 (xs (5 * k + 1)) (xs (5 * k + 2))) (cwV 2 htf (gd_V wk451 wk452 wk453 wk3 wk454) rfl rfl rfl ndX6_is ⟨Nat.le_of_ble_eq_true rfl, Nat.le_of_ble_eq_true rfl⟩) (fw_RV (va_recv hK hP (ci := 3) (q0 := 3) rfl rfl) (hP.sub (ws' := [(mo, .inr (3, fw_sl v))]) [3] rfl) hK) rfl rfl hl.1 rfl (lv_room (Nat.le_of_ble_eq_true rfl)) dL_law_543 ⟨(show cells + 2 + 0 ≤ room_1.cells by omega), (show slots + 11 + 0 ≤ room_1.slots by omega)⟩) hS a3 (fun H2 locs hn hz2 hk2 hS => ?_)
  generalize fm_X6_is v.1 v.2.1 v.2.2.1 v.2.2.2.1 v.2.2.2.2.1 v.2.2.2.2.2.1 v.2.2.2.2.2.2 (xs (5 * k + 1)) (xs (5 * k + 2)) = rr at hn q1 q2 q3 ⊢
  have hP : va_P (dC, dI) vwCl [(x, .inr (2, [.ref xf])), (xf, .inr (0, fw_Fl (nI ee) (nI ff))), (o, .inl (cA, 1, .inr (.inl u))), (mo, .inr (3, fw_sl rr.2))] H2 := (((fw_P1 (hP.sub (ws' := [(x, .inr (2, [.ref xf]))]) [0] rfl) (hk2 x (vx_lt hP (k := 0) rfl) n3)).app (fw_P1 (hP.sub (ws' := [(xf, .inr (0, fw_Fl (nI ee) (nI ff)))]) [1] rfl) (hk2 xf (vx_lt hP (k := 1) rfl) n5))).app (fw_P1 (hP.sub (ws' := [fw_oc o cA u]) [2] rfl) (hk2 o (vx_lt hP (k := 2) rfl) n6))).app hn
  refine lv_istore (lv' := [(6, .int (jb rr.1)), (5, .int (jb (!fc_X5_is (fm_X0_init_0 (nI ee) (nI ff)) (fm_X0_init_1 (nI ee) (nI ff)) (fm_X0_init_2 (nI ee) (nI ff)) (fm_X0_init_3 (nI ee) (nI ff)) (fm_X0_init_4 (nI ee) (nI ff)) (fm_X0_init_5 (nI ee) (nI ff)) (xs (5 * k + 1)) (xs (5 * k + 2))))), (0, .ref b), (1, .ref x), (2, .ref mo), (3, .ref o), (4, .int (nI (5 * k)))]) hx hb dL_law_546 hl (by decide) rfl (fun ls hl => ?_)
  refine lv_aload_n hx hb dL_law_548 rfl (lv_at hl 4 rfl) ?_
  refine fw_call (va_runV (As := []) (rest := []) ⟨hx, hb, hml, hown, htf⟩ (k_X6_thrown l dC dI mo rr.2.1 rr.2.2.1 rr.2.2.2.1 rr.2.2.2.2.1 rr.2.2.2.2.2.1 rr.2.2.2.2.2.2.1 rr.2.2.2.2.2.2.2) (cwV 0 htf (gd_V wk358 wk359 wk360 wk3 wk361) rfl rfl rfl ndX6_thrown ⟨Nat.le_of_ble_eq_true rfl, Nat.le_of_ble_eq_true rfl⟩) (fw_RV (va_recv hK hP (ci := 3) (q0 := 3) rfl rfl) (hP.sub (ws' := [(mo, .inr (3, fw_sl rr.2))]) [3] rfl) hK) rfl rfl hl.1 rfl (lv_room (Nat.le_of_ble_eq_true rfl)) dL_law_549 ⟨(show cells + 2 + 0 ≤ room_1.cells by omega), (show slots + 11 + 0 ≤ room_1.slots by omega)⟩) ?_
  refine lv_iload hx hb dL_law_552 (lv_at hl 1 rfl) ?_
  refine lv_icmp_eq (tgt := 559) hx hb dL_law_554 (by decide) (fun c1 => ?_) (fun c1 => absurd (show fm_X6_thrown rr.2.1 rr.2.2.1 rr.2.2.2.1 rr.2.2.2.2.1 rr.2.2.2.2.2.1 rr.2.2.2.2.2.2.1 rr.2.2.2.2.2.2.2 = _ from q2) c1)
  have fin : W p l e room_1 s m #[Value.ref b] below meth c H2 locs (cells + 2) (slots + 11) Q (F0 m 894 ls []) := by
    refine W.widen (k := cells + 6) (n := slots + 26) (by omega) (by omega) ?_
    exact kk H2 locs ls ⟨xf, ee, ff, u, rr.2, hok, q1, ⟨n1, n2, n3, n4, n5, n6⟩, ⟨a1, a2, a3, a4⟩, hP, hS⟩ (lv_sub hl [2, 3, 4, 5, 6] rfl)
  refine lv_iload hx hb dL_law_559 (lv_at hl 1 rfl) ?_
  refine lv_if_ne (tgt := 583) hx hb dL_law_561 (by decide) (fun c2 => lv_goto (tgt := 894) hx hb dL_law_583 (by decide) fin) (fun c2 => ?_)
  have hB : fc_X5_is (fm_X0_init_0 (nI ee) (nI ff)) (fm_X0_init_1 (nI ee) (nI ff)) (fm_X0_init_2 (nI ee) (nI ff)) (fm_X0_init_3 (nI ee) (nI ff)) (fm_X0_init_4 (nI ee) (nI ff)) (fm_X0_init_5 (nI ee) (nI ff)) (xs (5 * k + 1)) (xs (5 * k + 2)) = true := by
    have h9 := (jb_0 _).mp c2
    cases h8 : fc_X5_is (fm_X0_init_0 (nI ee) (nI ff)) (fm_X0_init_1 (nI ee) (nI ff)) (fm_X0_init_2 (nI ee) (nI ff)) (fm_X0_init_3 (nI ee) (nI ff)) (fm_X0_init_4 (nI ee) (nI ff)) (fm_X0_init_5 (nI ee) (nI ff)) (xs (5 * k + 1)) (xs (5 * k + 2)) with
    | true => rfl
    | false => rw [h8] at h9; cases h9
  refine lv_aload_n hx hb dL_law_564 rfl (lv_at hl 5 rfl) ?_
  refine lv_iconst (v := 0) hx hb dL_law_565 (by decide) ?_
  refine va_lald hx hb hK hP 2 0 rfl rfl (i := 0) vp_in0 dL_law_566 ?_
  refine lv_iload hx hb dL_law_567 (lv_at hl 0 rfl) ?_
  refine fw_rbl hx hb dL_law_569 dL_law_572 dL_law_573 dL_law_576 ?_
  refine W.lcmp hx hb dL_law_577 ?_
  refine lv_if_eq (tgt := 583) hx hb dL_law_578 (by decide) (fun c3 => lv_goto (tgt := 894) hx hb dL_law_583 (by decide) fin) (fun c3 => absurd (by rw [(show u (0 : Int32).toNatClampNeg = jl rr.1 from (hv9 hB).trans (by rw [q3 hB]))]; exact fw_cmp _) c3)
theorem ndL_from : yL_from.cls ≠ "java/lang/invoke/MethodHandle" ∧ yL_from.cls ≠ "java/lang/invoke/VarHandle" ∧ (parseMethodDescriptor yL_from.desc).map (fun d => d.parameters.length) = some 6 := by decide +kernel
set_option maxHeartbeats 4000000 in
set_option maxRecDepth 100000 in
theorem lw_c_from {p : Program} {l : Launch} {e : Env} {s : State} {m : MethodId} {below : List Frame} {meth : Method} {c : Code} {H : Heap} {locs : List Loc} {cells slots : Nat} {Q : State → Prop} {dC : Nat → ClassId} {dI : Nat → Nat → Nat} {cA : ClassId} {b L x o mo k : Nat} {xs : Nat → Int32} {ls : Array Slot} (C : lw_C p l s m c dC dI cA b L xs) (HP : pf_from) (hk : 5 * k + 5 ≤ L) (hcells : cells + 6 ≤ room_1.cells) (hslots : slots + 26 ≤ room_1.slots) (hJ : lw_J (dC, dI) cA s x o mo H locs) (hl : lv_has ls 7 (lw_L b x mo o k))
    (kk : ∀ (H1 : Heap) (locs1 : List Loc) (ls1 : Array Slot), lw_J (dC, dI) cA s x o mo H1 locs1 → lv_has ls1 7 (lw_L b x mo o k) → W p l e room_1 s m #[Value.ref b] below meth c H1 locs1 (cells + 6) (slots + 26) Q (F0 m 894 ls1 [])) : W p l e room_1 s m #[Value.ref b] below meth c H locs cells slots Q (F0 m 586 ls []) := by
  obtain ⟨hx, hb, hml, hown, htf, hE, hK, hX, hbl, hL, hl9⟩ := C
  obtain ⟨xf, ee, ff, g, v, hok, hv, ⟨n1, n2, n3, n4, n5, n6⟩, ⟨a1, a2, a3, a4⟩, hP, hS⟩ := hJ
  have hxl : x < H.size := vx_lt hP (k := 0) rfl
  have hfl : xf < H.size := vx_lt hP (k := 1) rfl
  have hol : o < H.size := vx_lt hP (k := 2) rfl
  have hml9 : mo < H.size := vx_lt hP (k := 3) rfl
  refine lv_aload_n hx hb dL_law_586 rfl (lv_at hl 1 rfl) ?_
  refine fw_arg (j := 1) hx hb hX hbl hL hS (by omega) (lv_at hl 0 rfl) (lv_at hl 4 rfl) (by decide) dL_law_587 dL_law_588 dL_law_590 dL_law_591 dL_law_592 ?_
  refine fw_arg (j := 2) hx hb hX hbl hL hS (by omega) (lv_at hl 0 rfl) (lv_at hl 4 rfl) (by decide) dL_law_593 dL_law_594 dL_law_596 dL_law_597 dL_law_598 ?_
  refine fw_arg (j := 3) hx hb hX hbl hL hS (by omega) (lv_at hl 0 rfl) (lv_at hl 4 rfl) (by decide) dL_law_599 dL_law_600 dL_law_602 dL_law_603 dL_law_604 ?_
  refine fw_arg (j := 4) hx hb hX hbl hL hS (by omega) (lv_at hl 0 rfl) (lv_at hl 4 rfl) (by decide) dL_law_605 dL_law_606 dL_law_608 dL_law_609 dL_law_610 ?_
  refine lv_aload_n hx hb dL_law_611 rfl (lv_at hl 3 rfl) ?_
  refine va_calli (vx_runSW (As := [.ref x, .int (xs (5 * k + 1)), .int (xs (5 * k + 2)), .int (xs (5 * k + 3)), .int (xs (5 * k + 4)), .ref o]) (rest := []) ⟨hx, hb, hml, hown, htf⟩ (k_L_from l hl9 dC dI H.size x xf o cA g (fm_X0_init_0 (nI ee) (nI ff)) (fm_X0_init_1 (nI ee) (nI ff)) (fm_X0_init_2 (nI ee) (nI ff)) (fm_X0_init_3 (nI ee) (nI ff)) (fm_X0_init_4 (nI ee) (nI ff)) (fm_X0_init_5 (nI ee) (nI ff)) (xs (5 * k + 1)) (xs (5 * k + 2)) (xs (5 * k + 3)) (xs (5 * k + 4))) (vx_cwSW 6 htf (gd_S wk315 wk316 wk0 wk317) rfl rfl rfl ndL_from ⟨Nat.le_of_ble_eq_true rfl, Nat.le_of_ble_eq_true rfl⟩) (fw_HS (fun U hU hW => hE.at (fw_S_pre hS) hU hW) (hP.sub (ws' := [(x, .inr (2, [.ref xf])), (xf, .inr (0, fw_Fl (nI ee) (nI ff))), (o, .inl (cA, 1, .inr (.inl g)))]) [0, 1, 2] rfl) hK) rfl rfl hl.1 rfl (lv_room (Nat.le_of_ble_eq_true rfl)) dL_law_612 ⟨(show cells + 4 ≤ room_1.cells by omega), (show slots + 23 ≤ room_1.slots by omega)⟩) hS (fun q _ h => h.elim (fun h9 => by rw [h9]; exact a2) (fun h9 => Nat.le_trans hS.1 h9)) (fun q h => h.elim (fun h9 => by rw [h9]; exact a2) (fun h9 => Nat.le_trans hS.1 h9)) (fun r u t H1 locs hH1 hAl hpost hB9 hz hkeep hS => ?_)
  obtain ⟨hr9, hv9⟩ := hpost
  subst hr9
  have hPo : va_P (dC, dI) vwCl [fw_oc o cA u] H1 := by rw [← hH1]; exact hB9
  obtain ⟨q2, q1, q3⟩ := HP ee ff hok v hv (xs (5 * k + 1)) (xs (5 * k + 2)) (xs (5 * k + 3)) (xs (5 * k + 4))
  have hP : va_P (dC, dI) vwCl [(x, .inr (2, [.ref xf])), (xf, .inr (0, fw_Fl (nI ee) (nI ff))), (o, .inl (cA, 1, .inr (.inl u))), (mo, .inr (3, fw_sl v))] H1 := (((fw_P1 (hP.sub (ws' := [(x, .inr (2, [.ref xf]))]) [0] rfl) (hkeep x hxl (fw_nA n2 hxl))).app (fw_P1 (hP.sub (ws' := [(xf, .inr (0, fw_Fl (nI ee) (nI ff)))]) [1] rfl) (hkeep xf hfl (fw_nA n4 hfl)))).app hPo).app (fw_P1 (hP.sub (ws' := [(mo, .inr (3, fw_sl v))]) [3] rfl) (hkeep mo hml9 (fw_nA (Ne.symm n6) hml9)))
  refine lv_istore (lv' := [(5, .int (jb (!fc_X5_from (fm_X0_init_0 (nI ee) (nI ff)) (fm_X0_init_1 (nI ee) (nI ff)) (fm_X0_init_2 (nI ee) (nI ff)) (fm_X0_init_3 (nI ee) (nI ff)) (fm_X0_init_4 (nI ee) (nI ff)) (fm_X0_init_5 (nI ee) (nI ff)) (xs (5 * k + 1)) (xs (5 * k + 2)) (xs (5 * k + 3)) (xs (5 * k + 4))))), (0, .ref b), (1, .ref x), (2, .ref mo), (3, .ref o), (4, .int (nI (5 * k)))]) hx hb dL_law_615 hl (by decide) rfl (fun ls hl => ?_)
  refine lv_aload_n hx hb dL_law_617 rfl (lv_at hl 3 rfl) ?_
  refine fw_arg (j := 1) hx hb hX hbl hL hS (by omega) (lv_at hl 1 rfl) (lv_at hl 5 rfl) (by decide) dL_law_618 dL_law_619 dL_law_621 dL_law_622 dL_law_623 ?_
  refine fw_arg (j := 2) hx hb hX hbl hL hS (by omega) (lv_at hl 1 rfl) (lv_at hl 5 rfl) (by decide) dL_law_624 dL_law_625 dL_law_627 dL_law_628 dL_law_629 ?_
  refine fw_arg (j := 3) hx hb hX hbl hL hS (by omega) (lv_at hl 1 rfl) (lv_at hl 5 rfl) (by decide) dL_law_630 dL_law_631 dL_law_633 dL_law_634 dL_law_635 ?_
  refine fw_arg (j := 4) hx hb hX hbl hL hS (by omega) (lv_at hl 1 rfl) (lv_at hl 5 rfl) (by decide) dL_law_636 dL_law_637 dL_law_639 dL_law_640 dL_law_641 ?_
  refine fw_callM (va_runV (As := [.int (xs (5 * k + 1)), .int (xs (5 * k + 2)), .int (xs (5 * k + 3)), .int (xs (5 * k + 4))]) (rest := []) ⟨hx, hb, hml, hown, htf⟩ (k_X6_from l dC dI mo v.1 v.2.1 v.2.2.1 v.2.2.2.1 v.2.2.2.2.1 v.2.2.2.2.2.1 v.2.2.2.2.2.2 (xs (5 * k + 1)) (xs (5 * k + 2)) (xs (5 * k + 3)) (xs (5 * k + 4))) (cwV 4 htf (gd_V wk458 wk459 wk460 wk3 wk461) rfl rfl rfl ndX6_from ⟨Nat.le_of_ble_eq_true rfl, Nat.le_of_ble_eq_true rfl⟩) (fw_RV (va_recv hK hP (ci := 3) (q0 := 3) rfl rfl) (hP.sub (ws' := [(mo, .inr (3, fw_sl v))]) [3] rfl) hK) rfl rfl hl.1 rfl (lv_room (Nat.le_of_ble_eq_true rfl)) dL_law_642 ⟨(show cells + 4 + 0 ≤ room_1.cells by omega), (show slots + 23 + 0 ≤ room_1.slots by omega)⟩) hS a3 (fun H2 locs hn hz2 hk2 hS => ?_)
  generalize fm_X6_from v.1 v.2.1 v.2.2.1 v.2.2.2.1 v.2.2.2.2.1 v.2.2.2.2.2.1 v.2.2.2.2.2.2 (xs (5 * k + 1)) (xs (5 * k + 2)) (xs (5 * k + 3)) (xs (5 * k + 4)) = rr at hn q1 q2 q3 ⊢
  have hP : va_P (dC, dI) vwCl [(x, .inr (2, [.ref xf])), (xf, .inr (0, fw_Fl (nI ee) (nI ff))), (o, .inl (cA, 1, .inr (.inl u))), (mo, .inr (3, fw_sl rr.2))] H2 := (((fw_P1 (hP.sub (ws' := [(x, .inr (2, [.ref xf]))]) [0] rfl) (hk2 x (vx_lt hP (k := 0) rfl) n3)).app (fw_P1 (hP.sub (ws' := [(xf, .inr (0, fw_Fl (nI ee) (nI ff)))]) [1] rfl) (hk2 xf (vx_lt hP (k := 1) rfl) n5))).app (fw_P1 (hP.sub (ws' := [fw_oc o cA u]) [2] rfl) (hk2 o (vx_lt hP (k := 2) rfl) n6))).app hn
  refine lv_istore (lv' := [(6, .int (rr.1)), (5, .int (jb (!fc_X5_from (fm_X0_init_0 (nI ee) (nI ff)) (fm_X0_init_1 (nI ee) (nI ff)) (fm_X0_init_2 (nI ee) (nI ff)) (fm_X0_init_3 (nI ee) (nI ff)) (fm_X0_init_4 (nI ee) (nI ff)) (fm_X0_init_5 (nI ee) (nI ff)) (xs (5 * k + 1)) (xs (5 * k + 2)) (xs (5 * k + 3)) (xs (5 * k + 4))))), (0, .ref b), (1, .ref x), (2, .ref mo), (3, .ref o), (4, .int (nI (5 * k)))]) hx hb dL_law_645 hl (by decide) rfl (fun ls hl => ?_)
  refine lv_aload_n hx hb dL_law_647 rfl (lv_at hl 4 rfl) ?_
  refine fw_call (va_runV (As := []) (rest := []) ⟨hx, hb, hml, hown, htf⟩ (k_X6_thrown l dC dI mo rr.2.1 rr.2.2.1 rr.2.2.2.1 rr.2.2.2.2.1 rr.2.2.2.2.2.1 rr.2.2.2.2.2.2.1 rr.2.2.2.2.2.2.2) (cwV 0 htf (gd_V wk358 wk359 wk360 wk3 wk361) rfl rfl rfl ndX6_thrown ⟨Nat.le_of_ble_eq_true rfl, Nat.le_of_ble_eq_true rfl⟩) (fw_RV (va_recv hK hP (ci := 3) (q0 := 3) rfl rfl) (hP.sub (ws' := [(mo, .inr (3, fw_sl rr.2))]) [3] rfl) hK) rfl rfl hl.1 rfl (lv_room (Nat.le_of_ble_eq_true rfl)) dL_law_648 ⟨(show cells + 4 + 0 ≤ room_1.cells by omega), (show slots + 23 + 0 ≤ room_1.slots by omega)⟩) ?_
  refine lv_iload hx hb dL_law_651 (lv_at hl 1 rfl) ?_
  refine lv_icmp_eq (tgt := 658) hx hb dL_law_653 (by decide) (fun c1 => ?_) (fun c1 => absurd (show fm_X6_thrown rr.2.1 rr.2.2.1 rr.2.2.2.1 rr.2.2.2.2.1 rr.2.2.2.2.2.1 rr.2.2.2.2.2.2.1 rr.2.2.2.2.2.2.2 = _ from q2) c1)
  have fin : W p l e room_1 s m #[Value.ref b] below meth c H2 locs (cells + 4) (slots + 23) Q (F0 m 894 ls []) := by
    refine W.widen (k := cells + 6) (n := slots + 26) (by omega) (by omega) ?_
    exact kk H2 locs ls ⟨xf, ee, ff, u, rr.2, hok, q1, ⟨n1, n2, n3, n4, n5, n6⟩, ⟨a1, a2, a3, a4⟩, hP, hS⟩ (lv_sub hl [2, 3, 4, 5, 6] rfl)
  refine lv_iload hx hb dL_law_658 (lv_at hl 1 rfl) ?_
  refine lv_if_ne (tgt := 675) hx hb dL_law_660 (by decide) (fun c2 => lv_goto (tgt := 894) hx hb dL_law_675 (by decide) fin) (fun c2 => ?_)
  have hB : fc_X5_from (fm_X0_init_0 (nI ee) (nI ff)) (fm_X0_init_1 (nI ee) (nI ff)) (fm_X0_init_2 (nI ee) (nI ff)) (fm_X0_init_3 (nI ee) (nI ff)) (fm_X0_init_4 (nI ee) (nI ff)) (fm_X0_init_5 (nI ee) (nI ff)) (xs (5 * k + 1)) (xs (5 * k + 2)) (xs (5 * k + 3)) (xs (5 * k + 4)) = true := by
    have h9 := (jb_0 _).mp c2
    cases h8 : fc_X5_from (fm_X0_init_0 (nI ee) (nI ff)) (fm_X0_init_1 (nI ee) (nI ff)) (fm_X0_init_2 (nI ee) (nI ff)) (fm_X0_init_3 (nI ee) (nI ff)) (fm_X0_init_4 (nI ee) (nI ff)) (fm_X0_init_5 (nI ee) (nI ff)) (xs (5 * k + 1)) (xs (5 * k + 2)) (xs (5 * k + 3)) (xs (5 * k + 4)) with
    | true => rfl
    | false => rw [h8] at h9; cases h9
  refine lv_aload_n hx hb dL_law_663 rfl (lv_at hl 5 rfl) ?_
  refine lv_iconst (v := 0) hx hb dL_law_664 (by decide) ?_
  refine va_lald hx hb hK hP 2 0 rfl rfl (i := 0) vp_in0 dL_law_665 ?_
  refine lv_iload hx hb dL_law_666 (lv_at hl 0 rfl) ?_
  refine lv_i2l (v := rr.1.toInt64) hx hb dL_law_668 rfl ?_
  refine W.lcmp hx hb dL_law_669 ?_
  refine lv_if_eq (tgt := 675) hx hb dL_law_670 (by decide) (fun c3 => lv_goto (tgt := 894) hx hb dL_law_675 (by decide) fin) (fun c3 => absurd (by rw [(show u (0 : Int32).toNatClampNeg = rr.1.toInt64 from (hv9 hB).trans (by rw [q3 hB]))]; exact fw_cmp _) c3)
theorem ndL_ofWhole : yL_ofWhole.cls ≠ "java/lang/invoke/MethodHandle" ∧ yL_ofWhole.cls ≠ "java/lang/invoke/VarHandle" ∧ (parseMethodDescriptor yL_ofWhole.desc).map (fun d => d.parameters.length) = some 6 := by decide +kernel
set_option maxHeartbeats 4000000 in
set_option maxRecDepth 100000 in
theorem lw_c_ofWhole {p : Program} {l : Launch} {e : Env} {s : State} {m : MethodId} {below : List Frame} {meth : Method} {c : Code} {H : Heap} {locs : List Loc} {cells slots : Nat} {Q : State → Prop} {dC : Nat → ClassId} {dI : Nat → Nat → Nat} {cA : ClassId} {b L x o mo k : Nat} {xs : Nat → Int32} {ls : Array Slot} (C : lw_C p l s m c dC dI cA b L xs) (HP : pf_ofWhole) (hk : 5 * k + 5 ≤ L) (hcells : cells + 6 ≤ room_1.cells) (hslots : slots + 26 ≤ room_1.slots) (hJ : lw_J (dC, dI) cA s x o mo H locs) (hl : lv_has ls 7 (lw_L b x mo o k))
    (kk : ∀ (H1 : Heap) (locs1 : List Loc) (ls1 : Array Slot), lw_J (dC, dI) cA s x o mo H1 locs1 → lv_has ls1 7 (lw_L b x mo o k) → W p l e room_1 s m #[Value.ref b] below meth c H1 locs1 (cells + 6) (slots + 26) Q (F0 m 894 ls1 [])) : W p l e room_1 s m #[Value.ref b] below meth c H locs cells slots Q (F0 m 678 ls []) := by
  obtain ⟨hx, hb, hml, hown, htf, hE, hK, hX, hbl, hL, hl9⟩ := C
  obtain ⟨xf, ee, ff, g, v, hok, hv, ⟨n1, n2, n3, n4, n5, n6⟩, ⟨a1, a2, a3, a4⟩, hP, hS⟩ := hJ
  have hxl : x < H.size := vx_lt hP (k := 0) rfl
  have hfl : xf < H.size := vx_lt hP (k := 1) rfl
  have hol : o < H.size := vx_lt hP (k := 2) rfl
  have hml9 : mo < H.size := vx_lt hP (k := 3) rfl
  refine lv_aload_n hx hb dL_law_678 rfl (lv_at hl 1 rfl) ?_
  refine fw_arg (j := 1) hx hb hX hbl hL hS (by omega) (lv_at hl 0 rfl) (lv_at hl 4 rfl) (by decide) dL_law_679 dL_law_680 dL_law_682 dL_law_683 dL_law_684 ?_
  refine fw_arg (j := 2) hx hb hX hbl hL hS (by omega) (lv_at hl 0 rfl) (lv_at hl 4 rfl) (by decide) dL_law_685 dL_law_686 dL_law_688 dL_law_689 dL_law_690 ?_
  refine fw_arg (j := 3) hx hb hX hbl hL hS (by omega) (lv_at hl 0 rfl) (lv_at hl 4 rfl) (by decide) dL_law_691 dL_law_692 dL_law_694 dL_law_695 dL_law_696 ?_
  refine fw_arg (j := 4) hx hb hX hbl hL hS (by omega) (lv_at hl 0 rfl) (lv_at hl 4 rfl) (by decide) dL_law_697 dL_law_698 dL_law_700 dL_law_701 dL_law_702 ?_
  refine fw_rnz hx hb dL_law_703 dL_law_706 dL_law_707 dL_law_710 ?_
  refine lv_aload_n hx hb dL_law_711 rfl (lv_at hl 3 rfl) ?_
  refine va_calli (vx_runSW (As := [.ref x, .int (xs (5 * k + 1)), .int (xs (5 * k + 2)), .int (xs (5 * k + 3)), .int (jb (nz (xs (5 * k + 4)))), .ref o]) (rest := []) ⟨hx, hb, hml, hown, htf⟩ (k_L_ofWhole l hl9 dC dI H.size x xf o cA g (fm_X0_init_0 (nI ee) (nI ff)) (fm_X0_init_1 (nI ee) (nI ff)) (fm_X0_init_2 (nI ee) (nI ff)) (fm_X0_init_3 (nI ee) (nI ff)) (fm_X0_init_4 (nI ee) (nI ff)) (fm_X0_init_5 (nI ee) (nI ff)) (xs (5 * k + 1)) (xs (5 * k + 2)) (xs (5 * k + 3)) (nz (xs (5 * k + 4)))) (vx_cwSW 6 htf (gd_S wk322 wk323 wk0 wk324) rfl rfl rfl ndL_ofWhole ⟨Nat.le_of_ble_eq_true rfl, Nat.le_of_ble_eq_true rfl⟩) (fw_HS (fun U hU hW => hE.at (fw_S_pre hS) hU hW) (hP.sub (ws' := [(x, .inr (2, [.ref xf])), (xf, .inr (0, fw_Fl (nI ee) (nI ff))), (o, .inl (cA, 1, .inr (.inl g)))]) [0, 1, 2] rfl) hK) rfl rfl hl.1 rfl (lv_room (Nat.le_of_ble_eq_true rfl)) dL_law_712 ⟨(show cells + 2 ≤ room_1.cells by omega), (show slots + 11 ≤ room_1.slots by omega)⟩) hS (fun q _ h => h.elim (fun h9 => by rw [h9]; exact a2) (fun h9 => Nat.le_trans hS.1 h9)) (fun q h => h.elim (fun h9 => by rw [h9]; exact a2) (fun h9 => Nat.le_trans hS.1 h9)) (fun r u t H1 locs hH1 hAl hpost hB9 hz hkeep hS => ?_)
  obtain ⟨hr9, hv9⟩ := hpost
  subst hr9
  have hPo : va_P (dC, dI) vwCl [fw_oc o cA u] H1 := by rw [← hH1]; exact hB9
  obtain ⟨q2, q1, q3⟩ := HP ee ff hok v hv (xs (5 * k + 1)) (xs (5 * k + 2)) (xs (5 * k + 3)) (nz (xs (5 * k + 4)))
  have hP : va_P (dC, dI) vwCl [(x, .inr (2, [.ref xf])), (xf, .inr (0, fw_Fl (nI ee) (nI ff))), (o, .inl (cA, 1, .inr (.inl u))), (mo, .inr (3, fw_sl v))] H1 := (((fw_P1 (hP.sub (ws' := [(x, .inr (2, [.ref xf]))]) [0] rfl) (hkeep x hxl (fw_nA n2 hxl))).app (fw_P1 (hP.sub (ws' := [(xf, .inr (0, fw_Fl (nI ee) (nI ff)))]) [1] rfl) (hkeep xf hfl (fw_nA n4 hfl)))).app hPo).app (fw_P1 (hP.sub (ws' := [(mo, .inr (3, fw_sl v))]) [3] rfl) (hkeep mo hml9 (fw_nA (Ne.symm n6) hml9)))
  refine lv_istore (lv' := [(5, .int (jb (!fc_X5_ofWhole (fm_X0_init_0 (nI ee) (nI ff)) (fm_X0_init_1 (nI ee) (nI ff)) (fm_X0_init_2 (nI ee) (nI ff)) (fm_X0_init_3 (nI ee) (nI ff)) (fm_X0_init_4 (nI ee) (nI ff)) (fm_X0_init_5 (nI ee) (nI ff)) (xs (5 * k + 1)) (xs (5 * k + 2)) (xs (5 * k + 3)) (nz (xs (5 * k + 4)))))), (0, .ref b), (1, .ref x), (2, .ref mo), (3, .ref o), (4, .int (nI (5 * k)))]) hx hb dL_law_715 hl (by decide) rfl (fun ls hl => ?_)
  refine lv_aload_n hx hb dL_law_717 rfl (lv_at hl 3 rfl) ?_
  refine fw_arg (j := 1) hx hb hX hbl hL hS (by omega) (lv_at hl 1 rfl) (lv_at hl 5 rfl) (by decide) dL_law_718 dL_law_719 dL_law_721 dL_law_722 dL_law_723 ?_
  refine fw_arg (j := 2) hx hb hX hbl hL hS (by omega) (lv_at hl 1 rfl) (lv_at hl 5 rfl) (by decide) dL_law_724 dL_law_725 dL_law_727 dL_law_728 dL_law_729 ?_
  refine fw_arg (j := 3) hx hb hX hbl hL hS (by omega) (lv_at hl 1 rfl) (lv_at hl 5 rfl) (by decide) dL_law_730 dL_law_731 dL_law_733 dL_law_734 dL_law_735 ?_
  refine fw_arg (j := 4) hx hb hX hbl hL hS (by omega) (lv_at hl 1 rfl) (lv_at hl 5 rfl) (by decide) dL_law_736 dL_law_737 dL_law_739 dL_law_740 dL_law_741 ?_
  refine fw_rnz hx hb dL_law_742 dL_law_745 dL_law_746 dL_law_749 ?_
  refine fw_callM (va_runV (As := [.int (xs (5 * k + 1)), .int (xs (5 * k + 2)), .int (xs (5 * k + 3)), .int (jb (nz (xs (5 * k + 4))))]) (rest := []) ⟨hx, hb, hml, hown, htf⟩ (k_X6_ofWhole l dC dI mo v.1 v.2.1 v.2.2.1 v.2.2.2.1 v.2.2.2.2.1 v.2.2.2.2.2.1 v.2.2.2.2.2.2 (xs (5 * k + 1)) (xs (5 * k + 2)) (xs (5 * k + 3)) (nz (xs (5 * k + 4)))) (cwV 4 htf (gd_V wk462 wk463 wk464 wk3 wk465) rfl rfl rfl ndX6_ofWhole ⟨Nat.le_of_ble_eq_true rfl, Nat.le_of_ble_eq_true rfl⟩) (fw_RV (va_recv hK hP (ci := 3) (q0 := 3) rfl rfl) (hP.sub (ws' := [(mo, .inr (3, fw_sl v))]) [3] rfl) hK) rfl rfl hl.1 rfl (lv_room (Nat.le_of_ble_eq_true rfl)) dL_law_750 ⟨(show cells + 2 + 0 ≤ room_1.cells by omega), (show slots + 11 + 0 ≤ room_1.slots by omega)⟩) hS a3 (fun H2 locs hn hz2 hk2 hS => ?_)
  generalize fm_X6_ofWhole v.1 v.2.1 v.2.2.1 v.2.2.2.1 v.2.2.2.2.1 v.2.2.2.2.2.1 v.2.2.2.2.2.2 (xs (5 * k + 1)) (xs (5 * k + 2)) (xs (5 * k + 3)) (nz (xs (5 * k + 4))) = rr at hn q1 q2 q3 ⊢
  have hP : va_P (dC, dI) vwCl [(x, .inr (2, [.ref xf])), (xf, .inr (0, fw_Fl (nI ee) (nI ff))), (o, .inl (cA, 1, .inr (.inl u))), (mo, .inr (3, fw_sl rr.2))] H2 := (((fw_P1 (hP.sub (ws' := [(x, .inr (2, [.ref xf]))]) [0] rfl) (hk2 x (vx_lt hP (k := 0) rfl) n3)).app (fw_P1 (hP.sub (ws' := [(xf, .inr (0, fw_Fl (nI ee) (nI ff)))]) [1] rfl) (hk2 xf (vx_lt hP (k := 1) rfl) n5))).app (fw_P1 (hP.sub (ws' := [fw_oc o cA u]) [2] rfl) (hk2 o (vx_lt hP (k := 2) rfl) n6))).app hn
  refine lv_istore (lv' := [(6, .int (rr.1)), (5, .int (jb (!fc_X5_ofWhole (fm_X0_init_0 (nI ee) (nI ff)) (fm_X0_init_1 (nI ee) (nI ff)) (fm_X0_init_2 (nI ee) (nI ff)) (fm_X0_init_3 (nI ee) (nI ff)) (fm_X0_init_4 (nI ee) (nI ff)) (fm_X0_init_5 (nI ee) (nI ff)) (xs (5 * k + 1)) (xs (5 * k + 2)) (xs (5 * k + 3)) (nz (xs (5 * k + 4)))))), (0, .ref b), (1, .ref x), (2, .ref mo), (3, .ref o), (4, .int (nI (5 * k)))]) hx hb dL_law_753 hl (by decide) rfl (fun ls hl => ?_)
  refine lv_aload_n hx hb dL_law_755 rfl (lv_at hl 4 rfl) ?_
  refine fw_call (va_runV (As := []) (rest := []) ⟨hx, hb, hml, hown, htf⟩ (k_X6_thrown l dC dI mo rr.2.1 rr.2.2.1 rr.2.2.2.1 rr.2.2.2.2.1 rr.2.2.2.2.2.1 rr.2.2.2.2.2.2.1 rr.2.2.2.2.2.2.2) (cwV 0 htf (gd_V wk358 wk359 wk360 wk3 wk361) rfl rfl rfl ndX6_thrown ⟨Nat.le_of_ble_eq_true rfl, Nat.le_of_ble_eq_true rfl⟩) (fw_RV (va_recv hK hP (ci := 3) (q0 := 3) rfl rfl) (hP.sub (ws' := [(mo, .inr (3, fw_sl rr.2))]) [3] rfl) hK) rfl rfl hl.1 rfl (lv_room (Nat.le_of_ble_eq_true rfl)) dL_law_756 ⟨(show cells + 2 + 0 ≤ room_1.cells by omega), (show slots + 11 + 0 ≤ room_1.slots by omega)⟩) ?_
  refine lv_iload hx hb dL_law_759 (lv_at hl 1 rfl) ?_
  refine lv_icmp_eq (tgt := 766) hx hb dL_law_761 (by decide) (fun c1 => ?_) (fun c1 => absurd (show fm_X6_thrown rr.2.1 rr.2.2.1 rr.2.2.2.1 rr.2.2.2.2.1 rr.2.2.2.2.2.1 rr.2.2.2.2.2.2.1 rr.2.2.2.2.2.2.2 = _ from q2) c1)
  have fin : W p l e room_1 s m #[Value.ref b] below meth c H2 locs (cells + 2) (slots + 11) Q (F0 m 894 ls []) := by
    refine W.widen (k := cells + 6) (n := slots + 26) (by omega) (by omega) ?_
    exact kk H2 locs ls ⟨xf, ee, ff, u, rr.2, hok, q1, ⟨n1, n2, n3, n4, n5, n6⟩, ⟨a1, a2, a3, a4⟩, hP, hS⟩ (lv_sub hl [2, 3, 4, 5, 6] rfl)
  refine lv_iload hx hb dL_law_766 (lv_at hl 1 rfl) ?_
  refine lv_if_ne (tgt := 783) hx hb dL_law_768 (by decide) (fun c2 => lv_goto (tgt := 894) hx hb dL_law_783 (by decide) fin) (fun c2 => ?_)
  have hB : fc_X5_ofWhole (fm_X0_init_0 (nI ee) (nI ff)) (fm_X0_init_1 (nI ee) (nI ff)) (fm_X0_init_2 (nI ee) (nI ff)) (fm_X0_init_3 (nI ee) (nI ff)) (fm_X0_init_4 (nI ee) (nI ff)) (fm_X0_init_5 (nI ee) (nI ff)) (xs (5 * k + 1)) (xs (5 * k + 2)) (xs (5 * k + 3)) (nz (xs (5 * k + 4))) = true := by
    have h9 := (jb_0 _).mp c2
    cases h8 : fc_X5_ofWhole (fm_X0_init_0 (nI ee) (nI ff)) (fm_X0_init_1 (nI ee) (nI ff)) (fm_X0_init_2 (nI ee) (nI ff)) (fm_X0_init_3 (nI ee) (nI ff)) (fm_X0_init_4 (nI ee) (nI ff)) (fm_X0_init_5 (nI ee) (nI ff)) (xs (5 * k + 1)) (xs (5 * k + 2)) (xs (5 * k + 3)) (nz (xs (5 * k + 4))) with
    | true => rfl
    | false => rw [h8] at h9; cases h9
  refine lv_aload_n hx hb dL_law_771 rfl (lv_at hl 5 rfl) ?_
  refine lv_iconst (v := 0) hx hb dL_law_772 (by decide) ?_
  refine va_lald hx hb hK hP 2 0 rfl rfl (i := 0) vp_in0 dL_law_773 ?_
  refine lv_iload hx hb dL_law_774 (lv_at hl 0 rfl) ?_
  refine lv_i2l (v := rr.1.toInt64) hx hb dL_law_776 rfl ?_
  refine W.lcmp hx hb dL_law_777 ?_
  refine lv_if_eq (tgt := 783) hx hb dL_law_778 (by decide) (fun c3 => lv_goto (tgt := 894) hx hb dL_law_783 (by decide) fin) (fun c3 => absurd (by rw [(show u (0 : Int32).toNatClampNeg = rr.1.toInt64 from (hv9 hB).trans (by rw [q3 hB]))]; exact fw_cmp _) c3)
theorem ndL_toWhole : yL_toWhole.cls ≠ "java/lang/invoke/MethodHandle" ∧ yL_toWhole.cls ≠ "java/lang/invoke/VarHandle" ∧ (parseMethodDescriptor yL_toWhole.desc).map (fun d => d.parameters.length) = some 6 := by decide +kernel
set_option maxHeartbeats 4000000 in
set_option maxRecDepth 100000 in
theorem lw_c_toWhole {p : Program} {l : Launch} {e : Env} {s : State} {m : MethodId} {below : List Frame} {meth : Method} {c : Code} {H : Heap} {locs : List Loc} {cells slots : Nat} {Q : State → Prop} {dC : Nat → ClassId} {dI : Nat → Nat → Nat} {cA : ClassId} {b L x o mo k : Nat} {xs : Nat → Int32} {ls : Array Slot} (C : lw_C p l s m c dC dI cA b L xs) (HP : pf_toWhole) (hk : 5 * k + 5 ≤ L) (hcells : cells + 6 ≤ room_1.cells) (hslots : slots + 26 ≤ room_1.slots) (hJ : lw_J (dC, dI) cA s x o mo H locs) (hl : lv_has ls 7 (lw_L b x mo o k))
    (kk : ∀ (H1 : Heap) (locs1 : List Loc) (ls1 : Array Slot), lw_J (dC, dI) cA s x o mo H1 locs1 → lv_has ls1 7 (lw_L b x mo o k) → W p l e room_1 s m #[Value.ref b] below meth c H1 locs1 (cells + 6) (slots + 26) Q (F0 m 894 ls1 [])) : W p l e room_1 s m #[Value.ref b] below meth c H locs cells slots Q (F0 m 786 ls []) := by
  obtain ⟨hx, hb, hml, hown, htf, hE, hK, hX, hbl, hL, hl9⟩ := C
  obtain ⟨xf, ee, ff, g, v, hok, hv, ⟨n1, n2, n3, n4, n5, n6⟩, ⟨a1, a2, a3, a4⟩, hP, hS⟩ := hJ
  have hxl : x < H.size := vx_lt hP (k := 0) rfl
  have hfl : xf < H.size := vx_lt hP (k := 1) rfl
  have hol : o < H.size := vx_lt hP (k := 2) rfl
  have hml9 : mo < H.size := vx_lt hP (k := 3) rfl
  refine lv_aload_n hx hb dL_law_786 rfl (lv_at hl 1 rfl) ?_
  refine fw_arg (j := 1) hx hb hX hbl hL hS (by omega) (lv_at hl 0 rfl) (lv_at hl 4 rfl) (by decide) dL_law_787 dL_law_788 dL_law_790 dL_law_791 dL_law_792 ?_
  refine fw_arg (j := 2) hx hb hX hbl hL hS (by omega) (lv_at hl 0 rfl) (lv_at hl 4 rfl) (by decide) dL_law_793 dL_law_794 dL_law_796 dL_law_797 dL_law_798 ?_
  refine fw_arg (j := 3) hx hb hX hbl hL hS (by omega) (lv_at hl 0 rfl) (lv_at hl 4 rfl) (by decide) dL_law_799 dL_law_800 dL_law_802 dL_law_803 dL_law_804 ?_
  refine fw_arg (j := 4) hx hb hX hbl hL hS (by omega) (lv_at hl 0 rfl) (lv_at hl 4 rfl) (by decide) dL_law_805 dL_law_806 dL_law_808 dL_law_809 dL_law_810 ?_
  refine fw_rnz hx hb dL_law_811 dL_law_814 dL_law_815 dL_law_818 ?_
  refine lv_aload_n hx hb dL_law_819 rfl (lv_at hl 3 rfl) ?_
  refine va_calli (vx_runSW (As := [.ref x, .int (xs (5 * k + 1)), .int (xs (5 * k + 2)), .int (xs (5 * k + 3)), .int (jb (nz (xs (5 * k + 4)))), .ref o]) (rest := []) ⟨hx, hb, hml, hown, htf⟩ (k_L_toWhole l hl9 dC dI H.size x xf o cA g (fm_X0_init_0 (nI ee) (nI ff)) (fm_X0_init_1 (nI ee) (nI ff)) (fm_X0_init_2 (nI ee) (nI ff)) (fm_X0_init_3 (nI ee) (nI ff)) (fm_X0_init_4 (nI ee) (nI ff)) (fm_X0_init_5 (nI ee) (nI ff)) (xs (5 * k + 1)) (xs (5 * k + 2)) (xs (5 * k + 3)) (nz (xs (5 * k + 4)))) (vx_cwSW 6 htf (gd_S wk334 wk335 wk0 wk336) rfl rfl rfl ndL_toWhole ⟨Nat.le_of_ble_eq_true rfl, Nat.le_of_ble_eq_true rfl⟩) (fw_HS (fun U hU hW => hE.at (fw_S_pre hS) hU hW) (hP.sub (ws' := [(x, .inr (2, [.ref xf])), (xf, .inr (0, fw_Fl (nI ee) (nI ff))), (o, .inl (cA, 1, .inr (.inl g)))]) [0, 1, 2] rfl) hK) rfl rfl hl.1 rfl (lv_room (Nat.le_of_ble_eq_true rfl)) dL_law_820 ⟨(show cells + 3 ≤ room_1.cells by omega), (show slots + 16 ≤ room_1.slots by omega)⟩) hS (fun q _ h => h.elim (fun h9 => by rw [h9]; exact a2) (fun h9 => Nat.le_trans hS.1 h9)) (fun q h => h.elim (fun h9 => by rw [h9]; exact a2) (fun h9 => Nat.le_trans hS.1 h9)) (fun r u t H1 locs hH1 hAl hpost hB9 hz hkeep hS => ?_)
  obtain ⟨hr9, hv9⟩ := hpost
  subst hr9
  have hPo : va_P (dC, dI) vwCl [fw_oc o cA u] H1 := by rw [← hH1]; exact hB9
  obtain ⟨q2, q1, q3⟩ := HP ee ff hok v hv (xs (5 * k + 1)) (xs (5 * k + 2)) (xs (5 * k + 3)) (nz (xs (5 * k + 4)))
  have hP : va_P (dC, dI) vwCl [(x, .inr (2, [.ref xf])), (xf, .inr (0, fw_Fl (nI ee) (nI ff))), (o, .inl (cA, 1, .inr (.inl u))), (mo, .inr (3, fw_sl v))] H1 := (((fw_P1 (hP.sub (ws' := [(x, .inr (2, [.ref xf]))]) [0] rfl) (hkeep x hxl (fw_nA n2 hxl))).app (fw_P1 (hP.sub (ws' := [(xf, .inr (0, fw_Fl (nI ee) (nI ff)))]) [1] rfl) (hkeep xf hfl (fw_nA n4 hfl)))).app hPo).app (fw_P1 (hP.sub (ws' := [(mo, .inr (3, fw_sl v))]) [3] rfl) (hkeep mo hml9 (fw_nA (Ne.symm n6) hml9)))
  refine lv_istore (lv' := [(5, .int (jb (!fc_X5_toWhole (fm_X0_init_0 (nI ee) (nI ff)) (fm_X0_init_1 (nI ee) (nI ff)) (fm_X0_init_2 (nI ee) (nI ff)) (fm_X0_init_3 (nI ee) (nI ff)) (fm_X0_init_4 (nI ee) (nI ff)) (fm_X0_init_5 (nI ee) (nI ff)) (xs (5 * k + 1)) (xs (5 * k + 2)) (xs (5 * k + 3)) (nz (xs (5 * k + 4)))))), (0, .ref b), (1, .ref x), (2, .ref mo), (3, .ref o), (4, .int (nI (5 * k)))]) hx hb dL_law_823 hl (by decide) rfl (fun ls hl => ?_)
  refine lv_aload_n hx hb dL_law_825 rfl (lv_at hl 3 rfl) ?_
  refine fw_arg (j := 1) hx hb hX hbl hL hS (by omega) (lv_at hl 1 rfl) (lv_at hl 5 rfl) (by decide) dL_law_826 dL_law_827 dL_law_829 dL_law_830 dL_law_831 ?_
  refine fw_arg (j := 2) hx hb hX hbl hL hS (by omega) (lv_at hl 1 rfl) (lv_at hl 5 rfl) (by decide) dL_law_832 dL_law_833 dL_law_835 dL_law_836 dL_law_837 ?_
  refine fw_arg (j := 3) hx hb hX hbl hL hS (by omega) (lv_at hl 1 rfl) (lv_at hl 5 rfl) (by decide) dL_law_838 dL_law_839 dL_law_841 dL_law_842 dL_law_843 ?_
  refine fw_arg (j := 4) hx hb hX hbl hL hS (by omega) (lv_at hl 1 rfl) (lv_at hl 5 rfl) (by decide) dL_law_844 dL_law_845 dL_law_847 dL_law_848 dL_law_849 ?_
  refine fw_rnz hx hb dL_law_850 dL_law_853 dL_law_854 dL_law_857 ?_
  refine fw_callM (va_runV (As := [.int (xs (5 * k + 1)), .int (xs (5 * k + 2)), .int (xs (5 * k + 3)), .int (jb (nz (xs (5 * k + 4))))]) (rest := []) ⟨hx, hb, hml, hown, htf⟩ (k_X6_toWhole l dC dI mo v.1 v.2.1 v.2.2.1 v.2.2.2.1 v.2.2.2.2.1 v.2.2.2.2.2.1 v.2.2.2.2.2.2 (xs (5 * k + 1)) (xs (5 * k + 2)) (xs (5 * k + 3)) (nz (xs (5 * k + 4)))) (cwV 4 htf (gd_V wk469 wk470 wk471 wk3 wk472) rfl rfl rfl ndX6_toWhole ⟨Nat.le_of_ble_eq_true rfl, Nat.le_of_ble_eq_true rfl⟩) (fw_RV (va_recv hK hP (ci := 3) (q0 := 3) rfl rfl) (hP.sub (ws' := [(mo, .inr (3, fw_sl v))]) [3] rfl) hK) rfl rfl hl.1 rfl (lv_room (Nat.le_of_ble_eq_true rfl)) dL_law_858 ⟨(show cells + 3 + 0 ≤ room_1.cells by omega), (show slots + 16 + 0 ≤ room_1.slots by omega)⟩) hS a3 (fun H2 locs hn hz2 hk2 hS => ?_)
  generalize fm_X6_toWhole v.1 v.2.1 v.2.2.1 v.2.2.2.1 v.2.2.2.2.1 v.2.2.2.2.2.1 v.2.2.2.2.2.2 (xs (5 * k + 1)) (xs (5 * k + 2)) (xs (5 * k + 3)) (nz (xs (5 * k + 4))) = rr at hn q1 q2 q3 ⊢
  have hP : va_P (dC, dI) vwCl [(x, .inr (2, [.ref xf])), (xf, .inr (0, fw_Fl (nI ee) (nI ff))), (o, .inl (cA, 1, .inr (.inl u))), (mo, .inr (3, fw_sl rr.2))] H2 := (((fw_P1 (hP.sub (ws' := [(x, .inr (2, [.ref xf]))]) [0] rfl) (hk2 x (vx_lt hP (k := 0) rfl) n3)).app (fw_P1 (hP.sub (ws' := [(xf, .inr (0, fw_Fl (nI ee) (nI ff)))]) [1] rfl) (hk2 xf (vx_lt hP (k := 1) rfl) n5))).app (fw_P1 (hP.sub (ws' := [fw_oc o cA u]) [2] rfl) (hk2 o (vx_lt hP (k := 2) rfl) n6))).app hn
  refine lv_istore (lv' := [(6, .int (rr.1)), (5, .int (jb (!fc_X5_toWhole (fm_X0_init_0 (nI ee) (nI ff)) (fm_X0_init_1 (nI ee) (nI ff)) (fm_X0_init_2 (nI ee) (nI ff)) (fm_X0_init_3 (nI ee) (nI ff)) (fm_X0_init_4 (nI ee) (nI ff)) (fm_X0_init_5 (nI ee) (nI ff)) (xs (5 * k + 1)) (xs (5 * k + 2)) (xs (5 * k + 3)) (nz (xs (5 * k + 4)))))), (0, .ref b), (1, .ref x), (2, .ref mo), (3, .ref o), (4, .int (nI (5 * k)))]) hx hb dL_law_861 hl (by decide) rfl (fun ls hl => ?_)
  refine lv_aload_n hx hb dL_law_863 rfl (lv_at hl 4 rfl) ?_
  refine fw_call (va_runV (As := []) (rest := []) ⟨hx, hb, hml, hown, htf⟩ (k_X6_thrown l dC dI mo rr.2.1 rr.2.2.1 rr.2.2.2.1 rr.2.2.2.2.1 rr.2.2.2.2.2.1 rr.2.2.2.2.2.2.1 rr.2.2.2.2.2.2.2) (cwV 0 htf (gd_V wk358 wk359 wk360 wk3 wk361) rfl rfl rfl ndX6_thrown ⟨Nat.le_of_ble_eq_true rfl, Nat.le_of_ble_eq_true rfl⟩) (fw_RV (va_recv hK hP (ci := 3) (q0 := 3) rfl rfl) (hP.sub (ws' := [(mo, .inr (3, fw_sl rr.2))]) [3] rfl) hK) rfl rfl hl.1 rfl (lv_room (Nat.le_of_ble_eq_true rfl)) dL_law_864 ⟨(show cells + 3 + 0 ≤ room_1.cells by omega), (show slots + 16 + 0 ≤ room_1.slots by omega)⟩) ?_
  refine lv_iload hx hb dL_law_867 (lv_at hl 1 rfl) ?_
  refine lv_icmp_eq (tgt := 874) hx hb dL_law_869 (by decide) (fun c1 => ?_) (fun c1 => absurd (show fm_X6_thrown rr.2.1 rr.2.2.1 rr.2.2.2.1 rr.2.2.2.2.1 rr.2.2.2.2.2.1 rr.2.2.2.2.2.2.1 rr.2.2.2.2.2.2.2 = _ from q2) c1)
  have fin : W p l e room_1 s m #[Value.ref b] below meth c H2 locs (cells + 3) (slots + 16) Q (F0 m 894 ls []) := by
    refine W.widen (k := cells + 6) (n := slots + 26) (by omega) (by omega) ?_
    exact kk H2 locs ls ⟨xf, ee, ff, u, rr.2, hok, q1, ⟨n1, n2, n3, n4, n5, n6⟩, ⟨a1, a2, a3, a4⟩, hP, hS⟩ (lv_sub hl [2, 3, 4, 5, 6] rfl)
  refine lv_iload hx hb dL_law_874 (lv_at hl 1 rfl) ?_
  refine lv_if_ne (tgt := 891) hx hb dL_law_876 (by decide) (fun c2 => lv_goto (tgt := 894) hx hb dL_law_891 (by decide) fin) (fun c2 => ?_)
  have hB : fc_X5_toWhole (fm_X0_init_0 (nI ee) (nI ff)) (fm_X0_init_1 (nI ee) (nI ff)) (fm_X0_init_2 (nI ee) (nI ff)) (fm_X0_init_3 (nI ee) (nI ff)) (fm_X0_init_4 (nI ee) (nI ff)) (fm_X0_init_5 (nI ee) (nI ff)) (xs (5 * k + 1)) (xs (5 * k + 2)) (xs (5 * k + 3)) (nz (xs (5 * k + 4))) = true := by
    have h9 := (jb_0 _).mp c2
    cases h8 : fc_X5_toWhole (fm_X0_init_0 (nI ee) (nI ff)) (fm_X0_init_1 (nI ee) (nI ff)) (fm_X0_init_2 (nI ee) (nI ff)) (fm_X0_init_3 (nI ee) (nI ff)) (fm_X0_init_4 (nI ee) (nI ff)) (fm_X0_init_5 (nI ee) (nI ff)) (xs (5 * k + 1)) (xs (5 * k + 2)) (xs (5 * k + 3)) (nz (xs (5 * k + 4))) with
    | true => rfl
    | false => rw [h8] at h9; cases h9
  refine lv_aload_n hx hb dL_law_879 rfl (lv_at hl 5 rfl) ?_
  refine lv_iconst (v := 0) hx hb dL_law_880 (by decide) ?_
  refine va_lald hx hb hK hP 2 0 rfl rfl (i := 0) vp_in0 dL_law_881 ?_
  refine lv_iload hx hb dL_law_882 (lv_at hl 0 rfl) ?_
  refine lv_i2l (v := rr.1.toInt64) hx hb dL_law_884 rfl ?_
  refine W.lcmp hx hb dL_law_885 ?_
  refine lv_if_eq (tgt := 891) hx hb dL_law_886 (by decide) (fun c3 => lv_goto (tgt := 894) hx hb dL_law_891 (by decide) fin) (fun c3 => absurd (by rw [(show u (0 : Int32).toNatClampNeg = rr.1.toInt64 from (hv9 hB).trans (by rw [q3 hB]))]; exact fw_cmp _) c3)
