theorem ndX1_ones : yX1_ones.cls ≠ "java/lang/invoke/MethodHandle" ∧ yX1_ones.cls ≠ "java/lang/invoke/VarHandle" ∧ (parseMethodDescriptor yX1_ones.desc).map (fun d => d.parameters.length) = some 1 := by decide +kernel
set_option maxHeartbeats 4000000 in
set_option maxRecDepth 100000 in
theorem k_X1_ones (l : Launch) (p0 : Int32) : Met l yX1_ones wsX1_ones { frames := 0, cells := 0, slots := 0, locals := 0 } (fw_P [.int p0]) (fw_Q (.long (fg_ones p0))) 0 0 (fun _ => False) := by
  refine Met.ofW (cc := cX1_ones) (maxL := 1) (ret := (some .long)) (by decide) rfl ?_
  intro p e s m args below meth c s₁ B hml hv
  obtain ⟨rfl, -⟩ := hv
  have hx := B.exec
  have hb := B.bytes
  have hr := B.returns
  have hts := atoms_spec (ws := wsX1_ones) B.pre
  have htf : ∀ w ∈ fc_all, w.before _ s = true := fun w h => hts w (List.mem_cons_of_mem _ h)
  have hown : s.vm.findClass RX1 = some m.cls := findClass_of_methodNamed B.named
  have hlocks := B.notSynchronized
  have hl := lv_entry ([.int p0]) (n := 1) (Nat.le_of_ble_eq_true rfl)
  rw [lg_entry_eq]
  generalize (lg_sl ([.int p0]) ++ List.replicate (1 - (lg_sl ([.int p0])).length) Slot.unset).toArray = ls at hl ⊢
  have hl : lv_has ls 1 [(0, .int p0)] := hl
  refine lv_ldc2 (v := (-1)) hx hb hown (htf _ wk118) dX1_ones_0 ?_
  refine lv_iload_n hx hb dX1_ones_3 rfl (lv_at hl 0 rfl) ?_
  refine lv_lshl (v := fc_shl (-1) p0) hx hb dX1_ones_4 rfl ?_
  refine lv_ldc2 (v := (-1)) hx hb hown (htf _ wk118) dX1_ones_5 ?_
  refine lv_lxor hx hb dX1_ones_8 ?_
  exact W.lret (v := (fc_shl (-1) p0) ^^^ (-1)) hx hb hr (fun t ht hW => ⟨congrArg (fun z => Outcome.returned (some (Value.long z))) (show (fc_shl (-1) p0) ^^^ (-1) = fg_ones p0 from by rfl), ht⟩) (fun q h => nomatch h) dX1_ones_9
theorem ndX1_fan : yX1_fan.cls ≠ "java/lang/invoke/MethodHandle" ∧ yX1_fan.cls ≠ "java/lang/invoke/VarHandle" ∧ (parseMethodDescriptor yX1_fan.desc).map (fun d => d.parameters.length) = some 1 := by decide +kernel
set_option maxHeartbeats 4000000 in
set_option maxRecDepth 100000 in
theorem k_X1_fan (l : Launch) (p0 : Int64) : Met l yX1_fan wsX1_fan { frames := 0, cells := 0, slots := 0, locals := 0 } (fw_P [.long p0]) (fw_Q (.long (fg_fan p0))) 0 0 (fun _ => False) := by
  refine Met.ofW (cc := cX1_fan) (maxL := 2) (ret := (some .long)) (by decide) rfl ?_
  intro p e s m args below meth c s₁ B hml hv
  obtain ⟨rfl, -⟩ := hv
  have hx := B.exec
  have hb := B.bytes
  have hr := B.returns
  have hts := atoms_spec (ws := wsX1_fan) B.pre
  have htf : ∀ w ∈ fc_all, w.before _ s = true := fun w h => hts w (List.mem_cons_of_mem _ h)
  have hown : s.vm.findClass RX1 = some m.cls := findClass_of_methodNamed B.named
  have hlocks := B.notSynchronized
  have hl := lv_entry ([.long p0]) (n := 2) (Nat.le_of_ble_eq_true rfl)
  rw [lg_entry_eq]
  generalize (lg_sl ([.long p0]) ++ List.replicate (2 - (lg_sl ([.long p0])).length) Slot.unset).toArray = ls at hl ⊢
  have hl : lv_has ls 2 [(0, .long p0)] := hl
  refine lv_lload_n hx hb dX1_fan_0 rfl (lv_at hl 0 rfl) ?_
  refine lv_bipush (v := 63) hx hb dX1_fan_1 (by decide) ?_
  refine lv_lshl (v := fc_shl p0 63) hx hb dX1_fan_3 rfl ?_
  refine lv_bipush (v := 63) hx hb dX1_fan_4 (by decide) ?_
  refine lv_lshr (v := fc_shr (fc_shl p0 63) 63) hx hb dX1_fan_6 rfl ?_
  exact W.lret (v := fc_shr (fc_shl p0 63) 63) hx hb hr (fun t ht hW => ⟨congrArg (fun z => Outcome.returned (some (Value.long z))) (show fc_shr (fc_shl p0 63) 63 = fg_fan p0 from by rfl), ht⟩) (fun q h => nomatch h) dX1_fan_7
theorem ndX1_choose : yX1_choose.cls ≠ "java/lang/invoke/MethodHandle" ∧ yX1_choose.cls ≠ "java/lang/invoke/VarHandle" ∧ (parseMethodDescriptor yX1_choose.desc).map (fun d => d.parameters.length) = some 3 := by decide +kernel
set_option maxHeartbeats 4000000 in
set_option maxRecDepth 100000 in
theorem k_X1_choose (l : Launch) (p0 : Int64) (p1 : Int64) (p2 : Int64) : Met l yX1_choose wsX1_choose { frames := 1, cells := 0, slots := 0, locals := 21 } (fw_P [.long p0, .long p1, .long p2]) (fw_Q (.long (fg_choose p0 p1 p2))) 0 0 (fun _ => False) := by
  refine Met.ofW (cc := cX1_choose) (maxL := 8) (ret := (some .long)) (by decide) rfl ?_
  intro p e s m args below meth c s₁ B hml hv
  obtain ⟨rfl, -⟩ := hv
  have hx := B.exec
  have hb := B.bytes
  have hr := B.returns
  have hts := atoms_spec (ws := wsX1_choose) B.pre
  have htf : ∀ w ∈ fc_all, w.before _ s = true := fun w h => hts w (List.mem_cons_of_mem _ h)
  have hown : s.vm.findClass RX1 = some m.cls := findClass_of_methodNamed B.named
  have hlocks := B.notSynchronized
  have hl := lv_entry ([.long p0, .long p1, .long p2]) (n := 8) (Nat.le_of_ble_eq_true rfl)
  rw [lg_entry_eq]
  generalize (lg_sl ([.long p0, .long p1, .long p2]) ++ List.replicate (8 - (lg_sl ([.long p0, .long p1, .long p2])).length) Slot.unset).toArray = ls at hl ⊢
  have hl : lv_has ls 8 [(0, .long p0), (2, .long p1), (4, .long p2)] := hl
  refine lv_lload_n hx hb dX1_choose_0 rfl (lv_at hl 0 rfl) ?_
  refine fw_call (va_runS (As := [.long p0]) (rest := []) ⟨hx, hb, hml, hown, htf⟩ (k_X1_fan l p0) (va_cwS 1 htf (gd_S wk180 wk181 wk8 wk182) rfl rfl rfl ndX1_fan ⟨Nat.le_of_ble_eq_true rfl, Nat.le_of_ble_eq_true rfl⟩) fw_PS rfl rfl hl.1 rfl (lv_room (Nat.le_of_ble_eq_true rfl)) dX1_choose_1 ⟨Nat.le_refl _, Nat.le_refl _⟩) ?_
  refine lv_topl (fun x1 ex1 => ?_)
  refine lv_lstore (lv' := [(6, .long x1), (0, .long p0), (2, .long p1), (4, .long p2)]) hx hb dX1_choose_4 hl (by decide) rfl (fun ls hl => ?_)
  refine lv_lload_n hx hb dX1_choose_6 rfl (lv_at hl 2 rfl) ?_
  refine lv_lload hx hb dX1_choose_7 (lv_at hl 0 rfl) ?_
  refine lv_land hx hb dX1_choose_9 ?_
  refine lv_lload hx hb dX1_choose_10 (lv_at hl 3 rfl) ?_
  refine lv_lload hx hb dX1_choose_12 (lv_at hl 0 rfl) ?_
  refine lv_ldc2 (v := (-1)) hx hb hown (htf _ wk118) dX1_choose_14 ?_
  refine lv_lxor hx hb dX1_choose_17 ?_
  refine lv_land hx hb dX1_choose_18 ?_
  refine lv_lor hx hb dX1_choose_19 ?_
  exact W.lret (v := (p1 &&& x1) ||| (p2 &&& (x1 ^^^ (-1)))) hx hb hr (fun t ht hW => ⟨congrArg (fun z => Outcome.returned (some (Value.long z))) (show (p1 &&& x1) ||| (p2 &&& (x1 ^^^ (-1))) = fg_choose p0 p1 p2 from by subst ex1; rfl), ht⟩) (fun q h => nomatch h) dX1_choose_20
theorem ndX1_any : yX1_any.cls ≠ "java/lang/invoke/MethodHandle" ∧ yX1_any.cls ≠ "java/lang/invoke/VarHandle" ∧ (parseMethodDescriptor yX1_any.desc).map (fun d => d.parameters.length) = some 1 := by decide +kernel
set_option maxHeartbeats 4000000 in
set_option maxRecDepth 100000 in
theorem k_X1_any (l : Launch) (p0 : Int64) : Met l yX1_any wsX1_any { frames := 0, cells := 0, slots := 0, locals := 0 } (fw_P [.long p0]) (fw_Q (.long (fg_any p0))) 0 0 (fun _ => False) := by
  refine Met.ofW (cc := cX1_any) (maxL := 5) (ret := (some .long)) (by decide) rfl ?_
  intro p e s m args below meth c s₁ B hml hv
  obtain ⟨rfl, -⟩ := hv
  have hx := B.exec
  have hb := B.bytes
  have hr := B.returns
  have hts := atoms_spec (ws := wsX1_any) B.pre
  have htf : ∀ w ∈ fc_all, w.before _ s = true := fun w h => hts w (List.mem_cons_of_mem _ h)
  have hown : s.vm.findClass RX1 = some m.cls := findClass_of_methodNamed B.named
  have hlocks := B.notSynchronized
  have hl := lv_entry ([.long p0]) (n := 5) (Nat.le_of_ble_eq_true rfl)
  rw [lg_entry_eq]
  generalize (lg_sl ([.long p0]) ++ List.replicate (5 - (lg_sl ([.long p0])).length) Slot.unset).toArray = ls at hl ⊢
  have hl : lv_has ls 5 [(0, .long p0)] := hl
  refine lv_lload_n hx hb dX1_any_0 rfl (lv_at hl 0 rfl) ?_
  refine lv_lstore_n (lv' := [(2, .long p0), (0, .long p0)]) hx hb dX1_any_1 rfl hl (by decide) rfl (fun ls hl => ?_)
  refine lv_iconst (v := 0) hx hb dX1_any_2 (by decide) ?_
  refine lv_istore (lv' := [(4, .int 0), (2, .long p0), (0, .long p0)]) hx hb dX1_any_3 hl (by decide) rfl (fun ls hl => ?_)
  refine fw_up (head := 5) (N := 6) (LS := fun k ls => lv_has ls 5 [(0, .long p0), (2, .long (fg_any_it p0 k)), (4, .int (nI k))]) ?_ ?_ (lv_sub hl [2, 1, 0] rfl)
  · intro ls hl
    refine lv_iload hx hb dX1_any_5 (lv_at hl 2 rfl) ?_
    refine lv_bipush (v := 6) hx hb dX1_any_7 (by decide) ?_
    refine lv_icmp_ge (tgt := 27) hx hb dX1_any_9 (by decide) (fun c1 => ?_) (fun c1 => ?_)
    · refine lv_lload_n hx hb dX1_any_27 rfl (lv_at hl 1 rfl) ?_
      refine lv_lconst (v := 1) hx hb dX1_any_28 (by decide) ?_
      refine lv_land hx hb dX1_any_29 ?_
      exact W.lret (v := (fg_any_it p0 6) &&& 1) hx hb hr (fun t ht hW => ⟨congrArg (fun z => Outcome.returned (some (Value.long z))) (show (fg_any_it p0 6) &&& 1 = fg_any p0 from by rfl), ht⟩) (fun q h => nomatch h) dX1_any_30
    · exact absurd (by decide) c1
  · intro k ls hk hl ih
    refine lv_iload hx hb dX1_any_5 (lv_at hl 2 rfl) ?_
    refine lv_bipush (v := 6) hx hb dX1_any_7 (by decide) ?_
    refine lv_icmp_ge (tgt := 27) hx hb dX1_any_9 (by decide) (fun c2 => ?_) (fun c2 => ?_)
    · exact absurd c2 (nI_ge (b := 6) hk (by decide))
    refine lv_lload_n hx hb dX1_any_12 rfl (lv_at hl 1 rfl) ?_
    refine lv_lload_n hx hb dX1_any_13 rfl (lv_at hl 1 rfl) ?_
    refine lv_iconst (v := 1) hx hb dX1_any_14 (by decide) ?_
    refine lv_iload hx hb dX1_any_15 (lv_at hl 2 rfl) ?_
    refine lv_ishl hx hb dX1_any_17 ?_
    refine fw_topi (x := fc_ishl 1 (nI k)) ?_
    refine lv_lushr (v := fc_ushr (fg_any_it p0 k) (fc_ishl 1 (nI k))) hx hb dX1_any_18 rfl ?_
    refine lv_lor hx hb dX1_any_19 ?_
    refine lv_lstore_n (lv' := [(2, .long ((fg_any_it p0 k) ||| (fc_ushr (fg_any_it p0 k) (fc_ishl 1 (nI k))))), (0, .long p0), (4, .int (nI k))]) hx hb dX1_any_20 rfl hl (by decide) rfl (fun ls hl => ?_)
    refine lv_iinc (v := nI (k + 1)) (lv' := [(4, .int (nI (k + 1))), (2, .long ((fg_any_it p0 k) ||| (fc_ushr (fg_any_it p0 k) (fc_ishl 1 (nI k))))), (0, .long p0)]) hx hb dX1_any_21 hl (k := 2) rfl (nI_1 k) (by decide) rfl (fun ls hl => ?_)
    refine lv_goto (tgt := 5) hx hb dX1_any_24 (by decide) ?_
    exact ih ls (lv_sub hl [2, 1, 0] rfl)
theorem ndX1_isNegative : yX1_isNegative.cls ≠ "java/lang/invoke/MethodHandle" ∧ yX1_isNegative.cls ≠ "java/lang/invoke/VarHandle" ∧ (parseMethodDescriptor yX1_isNegative.desc).map (fun d => d.parameters.length) = some 1 := by decide +kernel
set_option maxHeartbeats 4000000 in
set_option maxRecDepth 100000 in
theorem k_X1_isNegative (l : Launch) (p0 : Int64) : Met l yX1_isNegative wsX1_isNegative { frames := 0, cells := 0, slots := 0, locals := 0 } (fw_P [.long p0]) (fw_Q (.long (fg_neg p0))) 0 0 (fun _ => False) := by
  refine Met.ofW (cc := cX1_isNegative) (maxL := 2) (ret := (some .long)) (by decide) rfl ?_
  intro p e s m args below meth c s₁ B hml hv
  obtain ⟨rfl, -⟩ := hv
  have hx := B.exec
  have hb := B.bytes
  have hr := B.returns
  have hts := atoms_spec (ws := wsX1_isNegative) B.pre
  have htf : ∀ w ∈ fc_all, w.before _ s = true := fun w h => hts w (List.mem_cons_of_mem _ h)
  have hown : s.vm.findClass RX1 = some m.cls := findClass_of_methodNamed B.named
  have hlocks := B.notSynchronized
  have hl := lv_entry ([.long p0]) (n := 2) (Nat.le_of_ble_eq_true rfl)
  rw [lg_entry_eq]
  generalize (lg_sl ([.long p0]) ++ List.replicate (2 - (lg_sl ([.long p0])).length) Slot.unset).toArray = ls at hl ⊢
  have hl : lv_has ls 2 [(0, .long p0)] := hl
  refine lv_lload_n hx hb dX1_isNegative_0 rfl (lv_at hl 0 rfl) ?_
  refine lv_bipush (v := 63) hx hb dX1_isNegative_1 (by decide) ?_
  refine lv_lushr (v := fc_ushr p0 63) hx hb dX1_isNegative_3 rfl ?_
  exact W.lret (v := fc_ushr p0 63) hx hb hr (fun t ht hW => ⟨congrArg (fun z => Outcome.returned (some (Value.long z))) (show fc_ushr p0 63 = fg_neg p0 from by rfl), ht⟩) (fun q h => nomatch h) dX1_isNegative_4
theorem ndX1_add : yX1_add.cls ≠ "java/lang/invoke/MethodHandle" ∧ yX1_add.cls ≠ "java/lang/invoke/VarHandle" ∧ (parseMethodDescriptor yX1_add.desc).map (fun d => d.parameters.length) = some 3 := by decide +kernel
set_option maxHeartbeats 4000000 in
set_option maxRecDepth 100000 in
theorem k_X1_add (l : Launch) (p0 : Int64) (p1 : Int64) (p2 : Int64) : Met l yX1_add wsX1_add { frames := 0, cells := 0, slots := 0, locals := 0 } (fw_P [.long p0, .long p1, .long p2]) (fw_Q (.long (fg_add p0 p1 p2))) 0 0 (fun _ => False) := by
  refine Met.ofW (cc := cX1_add) (maxL := 13) (ret := (some .long)) (by decide) rfl ?_
  intro p e s m args below meth c s₁ B hml hv
  obtain ⟨rfl, -⟩ := hv
  have hx := B.exec
  have hb := B.bytes
  have hr := B.returns
  have hts := atoms_spec (ws := wsX1_add) B.pre
  have htf : ∀ w ∈ fc_all, w.before _ s = true := fun w h => hts w (List.mem_cons_of_mem _ h)
  have hown : s.vm.findClass RX1 = some m.cls := findClass_of_methodNamed B.named
  have hlocks := B.notSynchronized
  have hl := lv_entry ([.long p0, .long p1, .long p2]) (n := 13) (Nat.le_of_ble_eq_true rfl)
  rw [lg_entry_eq]
  generalize (lg_sl ([.long p0, .long p1, .long p2]) ++ List.replicate (13 - (lg_sl ([.long p0, .long p1, .long p2])).length) Slot.unset).toArray = ls at hl ⊢
  have hl : lv_has ls 13 [(0, .long p0), (2, .long p1), (4, .long p2)] := hl
  refine lv_lload_n hx hb dX1_add_0 rfl (lv_at hl 0 rfl) ?_
  refine lv_lload_n hx hb dX1_add_1 rfl (lv_at hl 1 rfl) ?_
  refine lv_lxor hx hb dX1_add_2 ?_
  refine lv_lstore (lv' := [(6, .long (p0 ^^^ p1)), (0, .long p0), (2, .long p1), (4, .long p2)]) hx hb dX1_add_3 hl (by decide) rfl (fun ls hl => ?_)
  refine lv_lload_n hx hb dX1_add_5 rfl (lv_at hl 1 rfl) ?_
  refine lv_lload_n hx hb dX1_add_6 rfl (lv_at hl 2 rfl) ?_
  refine lv_land hx hb dX1_add_7 ?_
  refine lv_lload hx hb dX1_add_8 (lv_at hl 0 rfl) ?_
  refine lv_lload hx hb dX1_add_10 (lv_at hl 3 rfl) ?_
  refine lv_land hx hb dX1_add_12 ?_
  refine lv_lor hx hb dX1_add_13 ?_
  refine lv_lstore (lv' := [(8, .long ((p0 &&& p1) ||| ((p0 ^^^ p1) &&& p2))), (6, .long (p0 ^^^ p1)), (0, .long p0), (2, .long p1), (4, .long p2)]) hx hb dX1_add_14 hl (by decide) rfl (fun ls hl => ?_)
  refine lv_lload hx hb dX1_add_16 (lv_at hl 1 rfl) ?_
  refine lv_lstore (lv' := [(10, .long (p0 ^^^ p1)), (8, .long ((p0 &&& p1) ||| ((p0 ^^^ p1) &&& p2))), (6, .long (p0 ^^^ p1)), (0, .long p0), (2, .long p1), (4, .long p2)]) hx hb dX1_add_18 hl (by decide) rfl (fun ls hl => ?_)
  refine lv_iconst (v := 0) hx hb dX1_add_20 (by decide) ?_
  refine lv_istore (lv' := [(12, .int 0), (10, .long (p0 ^^^ p1)), (8, .long ((p0 &&& p1) ||| ((p0 ^^^ p1) &&& p2))), (6, .long (p0 ^^^ p1)), (0, .long p0), (2, .long p1), (4, .long p2)]) hx hb dX1_add_21 hl (by decide) rfl (fun ls hl => ?_)
  refine fw_up (head := 23) (N := 6) (LS := fun k ls => lv_has ls 13 [(6, .long (p0 ^^^ p1)), (0, .long p0), (2, .long p1), (4, .long p2), (8, .long ((fg_add_it p0 p1 p2 k).1)), (10, .long ((fg_add_it p0 p1 p2 k).2)), (12, .int (nI k))]) ?_ ?_ (lv_sub hl [3, 4, 5, 6, 2, 1, 0] rfl)
  · intro ls hl
    refine lv_iload hx hb dX1_add_23 (lv_at hl 6 rfl) ?_
    refine lv_bipush (v := 6) hx hb dX1_add_25 (by decide) ?_
    refine lv_icmp_ge (tgt := 63) hx hb dX1_add_27 (by decide) (fun c1 => ?_) (fun c1 => ?_)
    · refine lv_lload hx hb dX1_add_63 (lv_at hl 0 rfl) ?_
      refine lv_lload hx hb dX1_add_65 (lv_at hl 4 rfl) ?_
      refine lv_iconst (v := 1) hx hb dX1_add_67 (by decide) ?_
      refine lv_lshl (v := fc_shl ((fg_add_it p0 p1 p2 6).1) 1) hx hb dX1_add_68 rfl ?_
      refine lv_lxor hx hb dX1_add_69 ?_
      refine lv_lload hx hb dX1_add_70 (lv_at hl 3 rfl) ?_
      refine lv_lxor hx hb dX1_add_72 ?_
      exact W.lret (v := ((p0 ^^^ p1) ^^^ (fc_shl ((fg_add_it p0 p1 p2 6).1) 1)) ^^^ p2) hx hb hr (fun t ht hW => ⟨congrArg (fun z => Outcome.returned (some (Value.long z))) (show ((p0 ^^^ p1) ^^^ (fc_shl ((fg_add_it p0 p1 p2 6).1) 1)) ^^^ p2 = fg_add p0 p1 p2 from by rfl), ht⟩) (fun q h => nomatch h) dX1_add_73
    · exact absurd (by decide) c1
  · intro k ls hk hl ih
    refine lv_iload hx hb dX1_add_23 (lv_at hl 6 rfl) ?_
    refine lv_bipush (v := 6) hx hb dX1_add_25 (by decide) ?_
    refine lv_icmp_ge (tgt := 63) hx hb dX1_add_27 (by decide) (fun c2 => ?_) (fun c2 => ?_)
    · exact absurd c2 (nI_ge (b := 6) hk (by decide))
    refine lv_lload hx hb dX1_add_30 (lv_at hl 4 rfl) ?_
    refine lv_lload hx hb dX1_add_32 (lv_at hl 5 rfl) ?_
    refine lv_lload hx hb dX1_add_34 (lv_at hl 4 rfl) ?_
    refine lv_iconst (v := 1) hx hb dX1_add_36 (by decide) ?_
    refine lv_iload hx hb dX1_add_37 (lv_at hl 6 rfl) ?_
    refine lv_ishl hx hb dX1_add_39 ?_
    refine fw_topi (x := fc_ishl 1 (nI k)) ?_
    refine lv_lshl (v := fc_shl ((fg_add_it p0 p1 p2 k).1) (fc_ishl 1 (nI k))) hx hb dX1_add_40 rfl ?_
    refine lv_land hx hb dX1_add_41 ?_
    refine lv_lor hx hb dX1_add_42 ?_
    refine lv_lstore (lv' := [(8, .long (((fg_add_it p0 p1 p2 k).1) ||| (((fg_add_it p0 p1 p2 k).2) &&& (fc_shl ((fg_add_it p0 p1 p2 k).1) (fc_ishl 1 (nI k)))))), (6, .long (p0 ^^^ p1)), (0, .long p0), (2, .long p1), (4, .long p2), (10, .long ((fg_add_it p0 p1 p2 k).2)), (12, .int (nI k))]) hx hb dX1_add_43 hl (by decide) rfl (fun ls hl => ?_)
    refine lv_lload hx hb dX1_add_45 (lv_at hl 5 rfl) ?_
    refine lv_lload hx hb dX1_add_47 (lv_at hl 5 rfl) ?_
    refine lv_iconst (v := 1) hx hb dX1_add_49 (by decide) ?_
    refine lv_iload hx hb dX1_add_50 (lv_at hl 6 rfl) ?_
    refine lv_ishl hx hb dX1_add_52 ?_
    refine fw_topi (x := fc_ishl 1 (nI k)) ?_
    refine lv_lshl (v := fc_shl ((fg_add_it p0 p1 p2 k).2) (fc_ishl 1 (nI k))) hx hb dX1_add_53 rfl ?_
    refine lv_land hx hb dX1_add_54 ?_
    refine lv_lstore (lv' := [(10, .long (((fg_add_it p0 p1 p2 k).2) &&& (fc_shl ((fg_add_it p0 p1 p2 k).2) (fc_ishl 1 (nI k))))), (8, .long (((fg_add_it p0 p1 p2 k).1) ||| (((fg_add_it p0 p1 p2 k).2) &&& (fc_shl ((fg_add_it p0 p1 p2 k).1) (fc_ishl 1 (nI k)))))), (6, .long (p0 ^^^ p1)), (0, .long p0), (2, .long p1), (4, .long p2), (12, .int (nI k))]) hx hb dX1_add_55 hl (by decide) rfl (fun ls hl => ?_)
    refine lv_iinc (v := nI (k + 1)) (lv' := [(12, .int (nI (k + 1))), (10, .long (((fg_add_it p0 p1 p2 k).2) &&& (fc_shl ((fg_add_it p0 p1 p2 k).2) (fc_ishl 1 (nI k))))), (8, .long (((fg_add_it p0 p1 p2 k).1) ||| (((fg_add_it p0 p1 p2 k).2) &&& (fc_shl ((fg_add_it p0 p1 p2 k).1) (fc_ishl 1 (nI k)))))), (6, .long (p0 ^^^ p1)), (0, .long p0), (2, .long p1), (4, .long p2)]) hx hb dX1_add_57 hl (k := 6) rfl (nI_1 k) (by decide) rfl (fun ls hl => ?_)
    refine lv_goto (tgt := 23) hx hb dX1_add_60 (by decide) ?_
    exact ih ls (lv_sub hl [3, 4, 5, 6, 2, 1, 0] rfl)
theorem ndX1_sum : yX1_sum.cls ≠ "java/lang/invoke/MethodHandle" ∧ yX1_sum.cls ≠ "java/lang/invoke/VarHandle" ∧ (parseMethodDescriptor yX1_sum.desc).map (fun d => d.parameters.length) = some 2 := by decide +kernel
set_option maxHeartbeats 4000000 in
set_option maxRecDepth 100000 in
theorem k_X1_sum (l : Launch) (p0 : Int64) (p1 : Int64) : Met l yX1_sum wsX1_sum { frames := 1, cells := 0, slots := 0, locals := 32 } (fw_P [.long p0, .long p1]) (fw_Q (.long (fg_sum p0 p1))) 0 0 (fun _ => False) := by
  refine Met.ofW (cc := cX1_sum) (maxL := 4) (ret := (some .long)) (by decide) rfl ?_
  intro p e s m args below meth c s₁ B hml hv
  obtain ⟨rfl, -⟩ := hv
  have hx := B.exec
  have hb := B.bytes
  have hr := B.returns
  have hts := atoms_spec (ws := wsX1_sum) B.pre
  have htf : ∀ w ∈ fc_all, w.before _ s = true := fun w h => hts w (List.mem_cons_of_mem _ h)
  have hown : s.vm.findClass RX1 = some m.cls := findClass_of_methodNamed B.named
  have hlocks := B.notSynchronized
  have hl := lv_entry ([.long p0, .long p1]) (n := 4) (Nat.le_of_ble_eq_true rfl)
  rw [lg_entry_eq]
  generalize (lg_sl ([.long p0, .long p1]) ++ List.replicate (4 - (lg_sl ([.long p0, .long p1])).length) Slot.unset).toArray = ls at hl ⊢
  have hl : lv_has ls 4 [(0, .long p0), (2, .long p1)] := hl
  refine lv_lload_n hx hb dX1_sum_0 rfl (lv_at hl 0 rfl) ?_
  refine lv_lload_n hx hb dX1_sum_1 rfl (lv_at hl 1 rfl) ?_
  refine lv_lconst (v := 0) hx hb dX1_sum_2 (by decide) ?_
  refine fw_call (va_runS (As := [.long p0, .long p1, .long 0]) (rest := []) ⟨hx, hb, hml, hown, htf⟩ (k_X1_add l p0 p1 0) (va_cwS 3 htf (gd_S wk119 wk120 wk8 wk121) rfl rfl rfl ndX1_add ⟨Nat.le_of_ble_eq_true rfl, Nat.le_of_ble_eq_true rfl⟩) fw_PS rfl rfl hl.1 rfl (lv_room (Nat.le_of_ble_eq_true rfl)) dX1_sum_3 ⟨Nat.le_refl _, Nat.le_refl _⟩) ?_
  exact W.lret (v := fg_add p0 p1 0) hx hb hr (fun t ht hW => ⟨congrArg (fun z => Outcome.returned (some (Value.long z))) (show fg_add p0 p1 0 = fg_sum p0 p1 from by rfl), ht⟩) (fun q h => nomatch h) dX1_sum_6
theorem ndX1_difference : yX1_difference.cls ≠ "java/lang/invoke/MethodHandle" ∧ yX1_difference.cls ≠ "java/lang/invoke/VarHandle" ∧ (parseMethodDescriptor yX1_difference.desc).map (fun d => d.parameters.length) = some 2 := by decide +kernel
set_option maxHeartbeats 4000000 in
set_option maxRecDepth 100000 in
theorem k_X1_difference (l : Launch) (p0 : Int64) (p1 : Int64) : Met l yX1_difference wsX1_difference { frames := 1, cells := 0, slots := 0, locals := 32 } (fw_P [.long p0, .long p1]) (fw_Q (.long (fg_diff p0 p1))) 0 0 (fun _ => False) := by
  refine Met.ofW (cc := cX1_difference) (maxL := 4) (ret := (some .long)) (by decide) rfl ?_
  intro p e s m args below meth c s₁ B hml hv
  obtain ⟨rfl, -⟩ := hv
  have hx := B.exec
  have hb := B.bytes
  have hr := B.returns
  have hts := atoms_spec (ws := wsX1_difference) B.pre
  have htf : ∀ w ∈ fc_all, w.before _ s = true := fun w h => hts w (List.mem_cons_of_mem _ h)
  have hown : s.vm.findClass RX1 = some m.cls := findClass_of_methodNamed B.named
  have hlocks := B.notSynchronized
  have hl := lv_entry ([.long p0, .long p1]) (n := 4) (Nat.le_of_ble_eq_true rfl)
  rw [lg_entry_eq]
  generalize (lg_sl ([.long p0, .long p1]) ++ List.replicate (4 - (lg_sl ([.long p0, .long p1])).length) Slot.unset).toArray = ls at hl ⊢
  have hl : lv_has ls 4 [(0, .long p0), (2, .long p1)] := hl
  refine lv_lload_n hx hb dX1_difference_0 rfl (lv_at hl 0 rfl) ?_
  refine lv_lload_n hx hb dX1_difference_1 rfl (lv_at hl 1 rfl) ?_
  refine lv_ldc2 (v := (-1)) hx hb hown (htf _ wk118) dX1_difference_2 ?_
  refine lv_lxor hx hb dX1_difference_5 ?_
  refine lv_lconst (v := 1) hx hb dX1_difference_6 (by decide) ?_
  refine fw_call (va_runS (As := [.long p0, .long (p1 ^^^ (-1)), .long 1]) (rest := []) ⟨hx, hb, hml, hown, htf⟩ (k_X1_add l p0 (p1 ^^^ (-1)) 1) (va_cwS 3 htf (gd_S wk119 wk120 wk8 wk121) rfl rfl rfl ndX1_add ⟨Nat.le_of_ble_eq_true rfl, Nat.le_of_ble_eq_true rfl⟩) fw_PS rfl rfl hl.1 rfl (lv_room (Nat.le_of_ble_eq_true rfl)) dX1_difference_7 ⟨Nat.le_refl _, Nat.le_refl _⟩) ?_
  exact W.lret (v := fg_add p0 (p1 ^^^ (-1)) 1) hx hb hr (fun t ht hW => ⟨congrArg (fun z => Outcome.returned (some (Value.long z))) (show fg_add p0 (p1 ^^^ (-1)) 1 = fg_diff p0 p1 from by rfl), ht⟩) (fun q h => nomatch h) dX1_difference_10
theorem ndX1_negateIf : yX1_negateIf.cls ≠ "java/lang/invoke/MethodHandle" ∧ yX1_negateIf.cls ≠ "java/lang/invoke/VarHandle" ∧ (parseMethodDescriptor yX1_negateIf.desc).map (fun d => d.parameters.length) = some 2 := by decide +kernel
set_option maxHeartbeats 4000000 in
set_option maxRecDepth 100000 in
theorem k_X1_negateIf (l : Launch) (p0 : Int64) (p1 : Int64) : Met l yX1_negateIf wsX1_negateIf { frames := 1, cells := 0, slots := 0, locals := 32 } (fw_P [.long p0, .long p1]) (fw_Q (.long (fg_negif p0 p1))) 0 0 (fun _ => False) := by
  refine Met.ofW (cc := cX1_negateIf) (maxL := 4) (ret := (some .long)) (by decide) rfl ?_
  intro p e s m args below meth c s₁ B hml hv
  obtain ⟨rfl, -⟩ := hv
  have hx := B.exec
  have hb := B.bytes
  have hr := B.returns
  have hts := atoms_spec (ws := wsX1_negateIf) B.pre
  have htf : ∀ w ∈ fc_all, w.before _ s = true := fun w h => hts w (List.mem_cons_of_mem _ h)
  have hown : s.vm.findClass RX1 = some m.cls := findClass_of_methodNamed B.named
  have hlocks := B.notSynchronized
  have hl := lv_entry ([.long p0, .long p1]) (n := 4) (Nat.le_of_ble_eq_true rfl)
  rw [lg_entry_eq]
  generalize (lg_sl ([.long p0, .long p1]) ++ List.replicate (4 - (lg_sl ([.long p0, .long p1])).length) Slot.unset).toArray = ls at hl ⊢
  have hl : lv_has ls 4 [(0, .long p0), (2, .long p1)] := hl
  refine lv_lload_n hx hb dX1_negateIf_0 rfl (lv_at hl 1 rfl) ?_
  refine lv_lload_n hx hb dX1_negateIf_1 rfl (lv_at hl 0 rfl) ?_
  refine fw_call (va_runS (As := [.long p0]) (rest := [.long p1]) ⟨hx, hb, hml, hown, htf⟩ (k_X1_fan l p0) (va_cwS 1 htf (gd_S wk180 wk181 wk8 wk182) rfl rfl rfl ndX1_fan ⟨Nat.le_of_ble_eq_true rfl, Nat.le_of_ble_eq_true rfl⟩) fw_PS rfl rfl hl.1 rfl (lv_room (Nat.le_of_ble_eq_true rfl)) dX1_negateIf_2 ⟨Nat.le_refl _, Nat.le_refl _⟩) ?_
  refine lv_lxor hx hb dX1_negateIf_5 ?_
  refine lv_lconst (v := 0) hx hb dX1_negateIf_6 (by decide) ?_
  refine lv_lload_n hx hb dX1_negateIf_7 rfl (lv_at hl 0 rfl) ?_
  refine fw_call (va_runS (As := [.long (p1 ^^^ (fg_fan p0)), .long 0, .long p0]) (rest := []) ⟨hx, hb, hml, hown, htf⟩ (k_X1_add l (p1 ^^^ (fg_fan p0)) 0 p0) (va_cwS 3 htf (gd_S wk119 wk120 wk8 wk121) rfl rfl rfl ndX1_add ⟨Nat.le_of_ble_eq_true rfl, Nat.le_of_ble_eq_true rfl⟩) fw_PS rfl rfl hl.1 rfl (lv_room (Nat.le_of_ble_eq_true rfl)) dX1_negateIf_8 ⟨Nat.le_refl _, Nat.le_refl _⟩) ?_
  exact W.lret (v := fg_add (p1 ^^^ (fg_fan p0)) 0 p0) hx hb hr (fun t ht hW => ⟨congrArg (fun z => Outcome.returned (some (Value.long z))) (show fg_add (p1 ^^^ (fg_fan p0)) 0 p0 = fg_negif p0 p1 from by rfl), ht⟩) (fun q h => nomatch h) dX1_negateIf_11
theorem ndX1_below : yX1_below.cls ≠ "java/lang/invoke/MethodHandle" ∧ yX1_below.cls ≠ "java/lang/invoke/VarHandle" ∧ (parseMethodDescriptor yX1_below.desc).map (fun d => d.parameters.length) = some 2 := by decide +kernel
set_option maxHeartbeats 4000000 in
set_option maxRecDepth 100000 in
theorem k_X1_below (l : Launch) (p0 : Int64) (p1 : Int64) : Met l yX1_below wsX1_below { frames := 2, cells := 0, slots := 0, locals := 55 } (fw_P [.long p0, .long p1]) (fw_Q (.long (fg_below p0 p1))) 0 0 (fun _ => False) := by
  refine Met.ofW (cc := cX1_below) (maxL := 4) (ret := (some .long)) (by decide) rfl ?_
  intro p e s m args below meth c s₁ B hml hv
  obtain ⟨rfl, -⟩ := hv
  have hx := B.exec
  have hb := B.bytes
  have hr := B.returns
  have hts := atoms_spec (ws := wsX1_below) B.pre
  have htf : ∀ w ∈ fc_all, w.before _ s = true := fun w h => hts w (List.mem_cons_of_mem _ h)
  have hown : s.vm.findClass RX1 = some m.cls := findClass_of_methodNamed B.named
  have hlocks := B.notSynchronized
  have hl := lv_entry ([.long p0, .long p1]) (n := 4) (Nat.le_of_ble_eq_true rfl)
  rw [lg_entry_eq]
  generalize (lg_sl ([.long p0, .long p1]) ++ List.replicate (4 - (lg_sl ([.long p0, .long p1])).length) Slot.unset).toArray = ls at hl ⊢
  have hl : lv_has ls 4 [(0, .long p0), (2, .long p1)] := hl
  refine lv_lload_n hx hb dX1_below_0 rfl (lv_at hl 0 rfl) ?_
  refine lv_lload_n hx hb dX1_below_1 rfl (lv_at hl 1 rfl) ?_
  refine fw_call (va_runS (As := [.long p0, .long p1]) (rest := []) ⟨hx, hb, hml, hown, htf⟩ (k_X1_difference l p0 p1) (va_cwS 2 htf (gd_S wk115 wk116 wk8 wk117) rfl rfl rfl ndX1_difference ⟨Nat.le_of_ble_eq_true rfl, Nat.le_of_ble_eq_true rfl⟩) fw_PS rfl rfl hl.1 rfl (lv_room (Nat.le_of_ble_eq_true rfl)) dX1_below_2 ⟨Nat.le_refl _, Nat.le_refl _⟩) ?_
  refine fw_call (va_runS (As := [.long (fg_diff p0 p1)]) (rest := []) ⟨hx, hb, hml, hown, htf⟩ (k_X1_isNegative l (fg_diff p0 p1)) (va_cwS 1 htf (gd_S wk122 wk123 wk8 wk124) rfl rfl rfl ndX1_isNegative ⟨Nat.le_of_ble_eq_true rfl, Nat.le_of_ble_eq_true rfl⟩) fw_PS rfl rfl hl.1 rfl (lv_room (Nat.le_of_ble_eq_true rfl)) dX1_below_5 ⟨Nat.le_refl _, Nat.le_refl _⟩) ?_
  exact W.lret (v := fg_neg (fg_diff p0 p1)) hx hb hr (fun t ht hW => ⟨congrArg (fun z => Outcome.returned (some (Value.long z))) (show fg_neg (fg_diff p0 p1) = fg_below p0 p1 from by rfl), ht⟩) (fun q h => nomatch h) dX1_below_8
theorem ndX1_shiftLeft : yX1_shiftLeft.cls ≠ "java/lang/invoke/MethodHandle" ∧ yX1_shiftLeft.cls ≠ "java/lang/invoke/VarHandle" ∧ (parseMethodDescriptor yX1_shiftLeft.desc).map (fun d => d.parameters.length) = some 2 := by decide +kernel
set_option maxHeartbeats 4000000 in
set_option maxRecDepth 100000 in
theorem k_X1_shiftLeft (l : Launch) (p0 : Int64) (p1 : Int64) : Met l yX1_shiftLeft wsX1_shiftLeft { frames := 2, cells := 0, slots := 0, locals := 48 } (fw_P [.long p0, .long p1]) (fw_Q (.long (fg_sl p0 p1))) 0 0 (fun _ => False) := by
  refine Met.ofW (cc := cX1_shiftLeft) (maxL := 7) (ret := (some .long)) (by decide) rfl ?_
  intro p e s m args below meth c s₁ B hml hv
  obtain ⟨rfl, -⟩ := hv
  have hx := B.exec
  have hb := B.bytes
  have hr := B.returns
  have hts := atoms_spec (ws := wsX1_shiftLeft) B.pre
  have htf : ∀ w ∈ fc_all, w.before _ s = true := fun w h => hts w (List.mem_cons_of_mem _ h)
  have hown : s.vm.findClass RX1 = some m.cls := findClass_of_methodNamed B.named
  have hlocks := B.notSynchronized
  have hl := lv_entry ([.long p0, .long p1]) (n := 7) (Nat.le_of_ble_eq_true rfl)
  rw [lg_entry_eq]
  generalize (lg_sl ([.long p0, .long p1]) ++ List.replicate (7 - (lg_sl ([.long p0, .long p1])).length) Slot.unset).toArray = ls at hl ⊢
  have hl : lv_has ls 7 [(0, .long p0), (2, .long p1)] := hl
  refine lv_lload_n hx hb dX1_shiftLeft_0 rfl (lv_at hl 0 rfl) ?_
  refine lv_lstore (lv' := [(4, .long p0), (0, .long p0), (2, .long p1)]) hx hb dX1_shiftLeft_1 hl (by decide) rfl (fun ls hl => ?_)
  refine lv_iconst (v := 0) hx hb dX1_shiftLeft_3 (by decide) ?_
  refine lv_istore (lv' := [(6, .int 0), (4, .long p0), (0, .long p0), (2, .long p1)]) hx hb dX1_shiftLeft_4 hl (by decide) rfl (fun ls hl => ?_)
  refine fw_up (head := 6) (N := 6) (LS := fun k ls => lv_has ls 7 [(0, .long p0), (2, .long p1), (4, .long (fg_sl_it p0 p1 k)), (6, .int (nI k))]) ?_ ?_ (lv_sub hl [2, 3, 1, 0] rfl)
  · intro ls hl
    refine lv_iload hx hb dX1_shiftLeft_6 (lv_at hl 3 rfl) ?_
    refine lv_bipush (v := 6) hx hb dX1_shiftLeft_8 (by decide) ?_
    refine lv_icmp_ge (tgt := 37) hx hb dX1_shiftLeft_10 (by decide) (fun c1 => ?_) (fun c1 => ?_)
    · refine lv_lload hx hb dX1_shiftLeft_37 (lv_at hl 2 rfl) ?_
      exact W.lret (v := fg_sl_it p0 p1 6) hx hb hr (fun t ht hW => ⟨congrArg (fun z => Outcome.returned (some (Value.long z))) (show fg_sl_it p0 p1 6 = fg_sl p0 p1 from by rfl), ht⟩) (fun q h => nomatch h) dX1_shiftLeft_39
    · exact absurd (by decide) c1
  · intro k ls hk hl ih
    refine lv_iload hx hb dX1_shiftLeft_6 (lv_at hl 3 rfl) ?_
    refine lv_bipush (v := 6) hx hb dX1_shiftLeft_8 (by decide) ?_
    refine lv_icmp_ge (tgt := 37) hx hb dX1_shiftLeft_10 (by decide) (fun c2 => ?_) (fun c2 => ?_)
    · exact absurd c2 (nI_ge (b := 6) hk (by decide))
    refine lv_lload_n hx hb dX1_shiftLeft_13 rfl (lv_at hl 1 rfl) ?_
    refine lv_iload hx hb dX1_shiftLeft_14 (lv_at hl 3 rfl) ?_
    refine lv_lushr (v := fc_ushr p1 (nI k)) hx hb dX1_shiftLeft_16 rfl ?_
    refine lv_lload hx hb dX1_shiftLeft_17 (lv_at hl 2 rfl) ?_
    refine lv_iconst (v := 1) hx hb dX1_shiftLeft_19 (by decide) ?_
    refine lv_iload hx hb dX1_shiftLeft_20 (lv_at hl 3 rfl) ?_
    refine lv_ishl hx hb dX1_shiftLeft_22 ?_
    refine fw_topi (x := fc_ishl 1 (nI k)) ?_
    refine lv_lshl (v := fc_shl (fg_sl_it p0 p1 k) (fc_ishl 1 (nI k))) hx hb dX1_shiftLeft_23 rfl ?_
    refine lv_lload hx hb dX1_shiftLeft_24 (lv_at hl 2 rfl) ?_
    refine fw_call (va_runS (As := [.long (fc_ushr p1 (nI k)), .long (fc_shl (fg_sl_it p0 p1 k) (fc_ishl 1 (nI k))), .long (fg_sl_it p0 p1 k)]) (rest := []) ⟨hx, hb, hml, hown, htf⟩ (k_X1_choose l (fc_ushr p1 (nI k)) (fc_shl (fg_sl_it p0 p1 k) (fc_ishl 1 (nI k))) (fg_sl_it p0 p1 k)) (va_cwS 3 htf (gd_S wk190 wk178 wk8 wk179) rfl rfl rfl ndX1_choose ⟨Nat.le_of_ble_eq_true rfl, Nat.le_of_ble_eq_true rfl⟩) fw_PS rfl rfl hl.1 rfl (lv_room (Nat.le_of_ble_eq_true rfl)) dX1_shiftLeft_26 ⟨Nat.le_refl _, Nat.le_refl _⟩) ?_
    refine lv_lstore (lv' := [(4, .long (fg_choose (fc_ushr p1 (nI k)) (fc_shl (fg_sl_it p0 p1 k) (fc_ishl 1 (nI k))) (fg_sl_it p0 p1 k))), (0, .long p0), (2, .long p1), (6, .int (nI k))]) hx hb dX1_shiftLeft_29 hl (by decide) rfl (fun ls hl => ?_)
    refine lv_iinc (v := nI (k + 1)) (lv' := [(6, .int (nI (k + 1))), (4, .long (fg_choose (fc_ushr p1 (nI k)) (fc_shl (fg_sl_it p0 p1 k) (fc_ishl 1 (nI k))) (fg_sl_it p0 p1 k))), (0, .long p0), (2, .long p1)]) hx hb dX1_shiftLeft_31 hl (k := 3) rfl (nI_1 k) (by decide) rfl (fun ls hl => ?_)
    refine lv_goto (tgt := 6) hx hb dX1_shiftLeft_34 (by decide) ?_
    exact ih ls (lv_sub hl [2, 3, 1, 0] rfl)
theorem ndX1_shiftRightMarking : yX1_shiftRightMarking.cls ≠ "java/lang/invoke/MethodHandle" ∧ yX1_shiftRightMarking.cls ≠ "java/lang/invoke/VarHandle" ∧ (parseMethodDescriptor yX1_shiftRightMarking.desc).map (fun d => d.parameters.length) = some 2 := by decide +kernel
set_option maxHeartbeats 4000000 in
set_option maxRecDepth 100000 in
theorem k_X1_shiftRightMarking (l : Launch) (p0 : Int64) (p1 : Int64) : Met l yX1_shiftRightMarking wsX1_shiftRightMarking { frames := 2, cells := 0, slots := 0, locals := 48 } (fw_P [.long p0, .long p1]) (fw_Q (.long (fg_sr p0 p1))) 0 0 (fun _ => False) := by
  refine Met.ofW (cc := cX1_shiftRightMarking) (maxL := 10) (ret := (some .long)) (by decide) rfl ?_
  intro p e s m args below meth c s₁ B hml hv
  obtain ⟨rfl, -⟩ := hv
  have hx := B.exec
  have hb := B.bytes
  have hr := B.returns
  have hts := atoms_spec (ws := wsX1_shiftRightMarking) B.pre
  have htf : ∀ w ∈ fc_all, w.before _ s = true := fun w h => hts w (List.mem_cons_of_mem _ h)
  have hown : s.vm.findClass RX1 = some m.cls := findClass_of_methodNamed B.named
  have hlocks := B.notSynchronized
  have hl := lv_entry ([.long p0, .long p1]) (n := 10) (Nat.le_of_ble_eq_true rfl)
  rw [lg_entry_eq]
  generalize (lg_sl ([.long p0, .long p1]) ++ List.replicate (10 - (lg_sl ([.long p0, .long p1])).length) Slot.unset).toArray = ls at hl ⊢
  have hl : lv_has ls 10 [(0, .long p0), (2, .long p1)] := hl
  refine lv_lload_n hx hb dX1_shiftRightMarking_0 rfl (lv_at hl 0 rfl) ?_
  refine lv_lstore (lv' := [(4, .long p0), (0, .long p0), (2, .long p1)]) hx hb dX1_shiftRightMarking_1 hl (by decide) rfl (fun ls hl => ?_)
  refine lv_iconst (v := 0) hx hb dX1_shiftRightMarking_3 (by decide) ?_
  refine lv_istore (lv' := [(6, .int 0), (4, .long p0), (0, .long p0), (2, .long p1)]) hx hb dX1_shiftRightMarking_4 hl (by decide) rfl (fun ls hl => ?_)
  refine fw_up (head := 6) (N := 6) (LS := fun k ls => lv_has ls 10 [(0, .long p0), (2, .long p1), (4, .long (fg_sr_it p0 p1 k)), (6, .int (nI k))]) ?_ ?_ (lv_sub hl [2, 3, 1, 0] rfl)
  · intro ls hl
    refine lv_iload hx hb dX1_shiftRightMarking_6 (lv_at hl 3 rfl) ?_
    refine lv_bipush (v := 6) hx hb dX1_shiftRightMarking_8 (by decide) ?_
    refine lv_icmp_ge (tgt := 57) hx hb dX1_shiftRightMarking_10 (by decide) (fun c1 => ?_) (fun c1 => ?_)
    · refine lv_lload hx hb dX1_shiftRightMarking_57 (lv_at hl 2 rfl) ?_
      exact W.lret (v := fg_sr_it p0 p1 6) hx hb hr (fun t ht hW => ⟨congrArg (fun z => Outcome.returned (some (Value.long z))) (show fg_sr_it p0 p1 6 = fg_sr p0 p1 from by rfl), ht⟩) (fun q h => nomatch h) dX1_shiftRightMarking_59
    · exact absurd (by decide) c1
  · intro k ls hk hl ih
    refine lv_iload hx hb dX1_shiftRightMarking_6 (lv_at hl 3 rfl) ?_
    refine lv_bipush (v := 6) hx hb dX1_shiftRightMarking_8 (by decide) ?_
    refine lv_icmp_ge (tgt := 57) hx hb dX1_shiftRightMarking_10 (by decide) (fun c2 => ?_) (fun c2 => ?_)
    · exact absurd c2 (nI_ge (b := 6) hk (by decide))
    refine lv_iconst (v := 1) hx hb dX1_shiftRightMarking_13 (by decide) ?_
    refine lv_iload hx hb dX1_shiftRightMarking_14 (lv_at hl 3 rfl) ?_
    refine lv_ishl hx hb dX1_shiftRightMarking_16 ?_
    refine fw_topi (x := fc_ishl 1 (nI k)) ?_
    refine lv_istore (lv' := [(7, .int (fc_ishl 1 (nI k))), (0, .long p0), (2, .long p1), (4, .long (fg_sr_it p0 p1 k)), (6, .int (nI k))]) hx hb dX1_shiftRightMarking_17 hl (by decide) rfl (fun ls hl => ?_)
    refine lv_lload hx hb dX1_shiftRightMarking_19 (lv_at hl 3 rfl) ?_
    refine lv_iload hx hb dX1_shiftRightMarking_21 (lv_at hl 0 rfl) ?_
    refine lv_lushr (v := fc_ushr (fg_sr_it p0 p1 k) (fc_ishl 1 (nI k))) hx hb dX1_shiftRightMarking_23 rfl ?_
    refine lv_lload hx hb dX1_shiftRightMarking_24 (lv_at hl 3 rfl) ?_
    refine lv_iload hx hb dX1_shiftRightMarking_26 (lv_at hl 0 rfl) ?_
    refine fw_call (va_runS (As := [.int (fc_ishl 1 (nI k))]) (rest := [.long (fg_sr_it p0 p1 k), .long (fc_ushr (fg_sr_it p0 p1 k) (fc_ishl 1 (nI k)))]) ⟨hx, hb, hml, hown, htf⟩ (k_X1_ones l (fc_ishl 1 (nI k))) (va_cwS 1 htf (gd_S wk230 wk163 wk8 wk164) rfl rfl rfl ndX1_ones ⟨Nat.le_of_ble_eq_true rfl, Nat.le_of_ble_eq_true rfl⟩) fw_PS rfl rfl hl.1 rfl (lv_room (Nat.le_of_ble_eq_true rfl)) dX1_shiftRightMarking_28 ⟨Nat.le_refl _, Nat.le_refl _⟩) ?_
    refine lv_land hx hb dX1_shiftRightMarking_31 ?_
    refine fw_call (va_runS (As := [.long ((fg_sr_it p0 p1 k) &&& (fg_ones (fc_ishl 1 (nI k))))]) (rest := [.long (fc_ushr (fg_sr_it p0 p1 k) (fc_ishl 1 (nI k)))]) ⟨hx, hb, hml, hown, htf⟩ (k_X1_any l ((fg_sr_it p0 p1 k) &&& (fg_ones (fc_ishl 1 (nI k))))) (va_cwS 1 htf (gd_S wk219 wk157 wk8 wk158) rfl rfl rfl ndX1_any ⟨Nat.le_of_ble_eq_true rfl, Nat.le_of_ble_eq_true rfl⟩) fw_PS rfl rfl hl.1 rfl (lv_room (Nat.le_of_ble_eq_true rfl)) dX1_shiftRightMarking_32 ⟨Nat.le_refl _, Nat.le_refl _⟩) ?_
    refine lv_lor hx hb dX1_shiftRightMarking_35 ?_
    refine lv_lstore (lv' := [(8, .long ((fc_ushr (fg_sr_it p0 p1 k) (fc_ishl 1 (nI k))) ||| (fg_any ((fg_sr_it p0 p1 k) &&& (fg_ones (fc_ishl 1 (nI k))))))), (7, .int (fc_ishl 1 (nI k))), (0, .long p0), (2, .long p1), (4, .long (fg_sr_it p0 p1 k)), (6, .int (nI k))]) hx hb dX1_shiftRightMarking_36 hl (by decide) rfl (fun ls hl => ?_)
    refine lv_lload_n hx hb dX1_shiftRightMarking_38 rfl (lv_at hl 3 rfl) ?_
    refine lv_iload hx hb dX1_shiftRightMarking_39 (lv_at hl 5 rfl) ?_
    refine lv_lushr (v := fc_ushr p1 (nI k)) hx hb dX1_shiftRightMarking_41 rfl ?_
    refine lv_lload hx hb dX1_shiftRightMarking_42 (lv_at hl 0 rfl) ?_
    refine lv_lload hx hb dX1_shiftRightMarking_44 (lv_at hl 4 rfl) ?_
    refine fw_call (va_runS (As := [.long (fc_ushr p1 (nI k)), .long ((fc_ushr (fg_sr_it p0 p1 k) (fc_ishl 1 (nI k))) ||| (fg_any ((fg_sr_it p0 p1 k) &&& (fg_ones (fc_ishl 1 (nI k)))))), .long (fg_sr_it p0 p1 k)]) (rest := []) ⟨hx, hb, hml, hown, htf⟩ (k_X1_choose l (fc_ushr p1 (nI k)) ((fc_ushr (fg_sr_it p0 p1 k) (fc_ishl 1 (nI k))) ||| (fg_any ((fg_sr_it p0 p1 k) &&& (fg_ones (fc_ishl 1 (nI k)))))) (fg_sr_it p0 p1 k)) (va_cwS 3 htf (gd_S wk190 wk178 wk8 wk179) rfl rfl rfl ndX1_choose ⟨Nat.le_of_ble_eq_true rfl, Nat.le_of_ble_eq_true rfl⟩) fw_PS rfl rfl hl.1 rfl (lv_room (Nat.le_of_ble_eq_true rfl)) dX1_shiftRightMarking_46 ⟨Nat.le_refl _, Nat.le_refl _⟩) ?_
    refine lv_lstore (lv' := [(4, .long (fg_choose (fc_ushr p1 (nI k)) ((fc_ushr (fg_sr_it p0 p1 k) (fc_ishl 1 (nI k))) ||| (fg_any ((fg_sr_it p0 p1 k) &&& (fg_ones (fc_ishl 1 (nI k)))))) (fg_sr_it p0 p1 k))), (8, .long ((fc_ushr (fg_sr_it p0 p1 k) (fc_ishl 1 (nI k))) ||| (fg_any ((fg_sr_it p0 p1 k) &&& (fg_ones (fc_ishl 1 (nI k))))))), (7, .int (fc_ishl 1 (nI k))), (0, .long p0), (2, .long p1), (6, .int (nI k))]) hx hb dX1_shiftRightMarking_49 hl (by decide) rfl (fun ls hl => ?_)
    refine lv_iinc (v := nI (k + 1)) (lv' := [(6, .int (nI (k + 1))), (4, .long (fg_choose (fc_ushr p1 (nI k)) ((fc_ushr (fg_sr_it p0 p1 k) (fc_ishl 1 (nI k))) ||| (fg_any ((fg_sr_it p0 p1 k) &&& (fg_ones (fc_ishl 1 (nI k)))))) (fg_sr_it p0 p1 k))), (8, .long ((fc_ushr (fg_sr_it p0 p1 k) (fc_ishl 1 (nI k))) ||| (fg_any ((fg_sr_it p0 p1 k) &&& (fg_ones (fc_ishl 1 (nI k))))))), (7, .int (fc_ishl 1 (nI k))), (0, .long p0), (2, .long p1)]) hx hb dX1_shiftRightMarking_51 hl (k := 5) rfl (nI_1 k) (by decide) rfl (fun ls hl => ?_)
    refine lv_goto (tgt := 6) hx hb dX1_shiftRightMarking_54 (by decide) ?_
    exact ih ls (lv_sub hl [4, 5, 1, 0] rfl)
theorem ndX1_top : yX1_top.cls ≠ "java/lang/invoke/MethodHandle" ∧ yX1_top.cls ≠ "java/lang/invoke/VarHandle" ∧ (parseMethodDescriptor yX1_top.desc).map (fun d => d.parameters.length) = some 1 := by decide +kernel
set_option maxHeartbeats 4000000 in
set_option maxRecDepth 100000 in
theorem k_X1_top (l : Launch) (p0 : Int64) : Met l yX1_top wsX1_top { frames := 2, cells := 0, slots := 0, locals := 48 } (fw_P [.long p0]) (fw_Q (.long (fg_top p0))) 0 0 (fun _ => False) := by
  refine Met.ofW (cc := cX1_top) (maxL := 11) (ret := (some .long)) (by decide) rfl ?_
  intro p e s m args below meth c s₁ B hml hv
  obtain ⟨rfl, -⟩ := hv
  have hx := B.exec
  have hb := B.bytes
  have hr := B.returns
  have hts := atoms_spec (ws := wsX1_top) B.pre
  have htf : ∀ w ∈ fc_all, w.before _ s = true := fun w h => hts w (List.mem_cons_of_mem _ h)
  have hown : s.vm.findClass RX1 = some m.cls := findClass_of_methodNamed B.named
  have hlocks := B.notSynchronized
  have hl := lv_entry ([.long p0]) (n := 11) (Nat.le_of_ble_eq_true rfl)
  rw [lg_entry_eq]
  generalize (lg_sl ([.long p0]) ++ List.replicate (11 - (lg_sl ([.long p0])).length) Slot.unset).toArray = ls at hl ⊢
  have hl : lv_has ls 11 [(0, .long p0)] := hl
  refine lv_lconst (v := 0) hx hb dX1_top_0 (by decide) ?_
  refine lv_lstore_n (lv' := [(2, .long 0), (0, .long p0)]) hx hb dX1_top_1 rfl hl (by decide) rfl (fun ls hl => ?_)
  refine lv_lload_n hx hb dX1_top_2 rfl (lv_at hl 1 rfl) ?_
  refine lv_lstore (lv' := [(4, .long p0), (2, .long 0), (0, .long p0)]) hx hb dX1_top_3 hl (by decide) rfl (fun ls hl => ?_)
  refine lv_iconst (v := 5) hx hb dX1_top_5 (by decide) ?_
  refine lv_istore (lv' := [(6, .int 5), (4, .long p0), (2, .long 0), (0, .long p0)]) hx hb dX1_top_6 hl (by decide) rfl (fun ls hl => ?_)
  refine fw_down (head := 8) (σ := Int64 × Int64) (LS := fun jj i ls => jj ≤ 6 ∧ fg_top_it jj i.1 i.2 = fg_top_it 6 0 p0 ∧ lv_has ls 11 [(0, .long p0), (2, .long i.1), (4, .long i.2), (6, .int (nI jj - 1))]) ?_ ?_ 6 (0, p0) ls ⟨Nat.le_refl _, rfl, lv_sub hl [3, 2, 1, 0] rfl⟩
  · rintro ⟨y0, y1⟩ ls ⟨hn, hi, hl⟩
    dsimp only at hi hl
    refine lv_iload hx hb dX1_top_8 (lv_at hl 3 rfl) ?_
    refine lv_if_lt (tgt := 54) hx hb dX1_top_10 (by decide) (fun c1 => ?_) (fun c1 => ?_)
    · refine lv_lload_n hx hb dX1_top_54 rfl (lv_at hl 1 rfl) ?_
      exact W.lret (v := y0) hx hb hr (fun t ht hW => ⟨congrArg (fun z => Outcome.returned (some (Value.long z))) (show y0 = fg_top p0 from hi), ht⟩) (fun q h => nomatch h) dX1_top_55
    · exact absurd (by decide) c1
  · rintro jj ⟨y0, y1⟩ ls ⟨hn, hi, hl⟩ ih
    dsimp only at hi hl
    rw [nI_pred] at hl
    refine lv_iload hx hb dX1_top_8 (lv_at hl 3 rfl) ?_
    refine lv_if_lt (tgt := 54) hx hb dX1_top_10 (by decide) (fun c2 => ?_) (fun c2 => ?_)
    · exact absurd c2 (nI_pos (by omega))
    refine lv_lload hx hb dX1_top_13 (lv_at hl 2 rfl) ?_
    refine lv_iconst (v := 1) hx hb dX1_top_15 (by decide) ?_
    refine lv_iload hx hb dX1_top_16 (lv_at hl 3 rfl) ?_
    refine lv_ishl hx hb dX1_top_18 ?_
    refine fw_topi (x := fc_ishl 1 (nI jj)) ?_
    refine lv_lushr (v := fc_ushr y1 (fc_ishl 1 (nI jj))) hx hb dX1_top_19 rfl ?_
    refine lv_lstore (lv' := [(7, .long (fc_ushr y1 (fc_ishl 1 (nI jj)))), (0, .long p0), (2, .long y0), (4, .long y1), (6, .int (nI jj))]) hx hb dX1_top_20 hl (by decide) rfl (fun ls hl => ?_)
    refine lv_lload hx hb dX1_top_22 (lv_at hl 0 rfl) ?_
    refine fw_call (va_runS (As := [.long (fc_ushr y1 (fc_ishl 1 (nI jj)))]) (rest := []) ⟨hx, hb, hml, hown, htf⟩ (k_X1_any l (fc_ushr y1 (fc_ishl 1 (nI jj)))) (va_cwS 1 htf (gd_S wk219 wk157 wk8 wk158) rfl rfl rfl ndX1_any ⟨Nat.le_of_ble_eq_true rfl, Nat.le_of_ble_eq_true rfl⟩) fw_PS rfl rfl hl.1 rfl (lv_room (Nat.le_of_ble_eq_true rfl)) dX1_top_24 ⟨Nat.le_refl _, Nat.le_refl _⟩) ?_
    refine lv_lstore (lv' := [(9, .long (fg_any (fc_ushr y1 (fc_ishl 1 (nI jj))))), (7, .long (fc_ushr y1 (fc_ishl 1 (nI jj)))), (0, .long p0), (2, .long y0), (4, .long y1), (6, .int (nI jj))]) hx hb dX1_top_27 hl (by decide) rfl (fun ls hl => ?_)
    refine lv_lload_n hx hb dX1_top_29 rfl (lv_at hl 3 rfl) ?_
    refine lv_lload hx hb dX1_top_30 (lv_at hl 0 rfl) ?_
    refine lv_iload hx hb dX1_top_32 (lv_at hl 5 rfl) ?_
    refine lv_lshl (v := fc_shl (fg_any (fc_ushr y1 (fc_ishl 1 (nI jj)))) (nI jj)) hx hb dX1_top_34 rfl ?_
    refine lv_lor hx hb dX1_top_35 ?_
    refine lv_lstore_n (lv' := [(2, .long (y0 ||| (fc_shl (fg_any (fc_ushr y1 (fc_ishl 1 (nI jj)))) (nI jj)))), (9, .long (fg_any (fc_ushr y1 (fc_ishl 1 (nI jj))))), (7, .long (fc_ushr y1 (fc_ishl 1 (nI jj)))), (0, .long p0), (4, .long y1), (6, .int (nI jj))]) hx hb dX1_top_36 rfl hl (by decide) rfl (fun ls hl => ?_)
    refine lv_lload hx hb dX1_top_37 (lv_at hl 1 rfl) ?_
    refine lv_lload hx hb dX1_top_39 (lv_at hl 2 rfl) ?_
    refine lv_lload hx hb dX1_top_41 (lv_at hl 4 rfl) ?_
    refine fw_call (va_runS (As := [.long (fg_any (fc_ushr y1 (fc_ishl 1 (nI jj)))), .long (fc_ushr y1 (fc_ishl 1 (nI jj))), .long y1]) (rest := []) ⟨hx, hb, hml, hown, htf⟩ (k_X1_choose l (fg_any (fc_ushr y1 (fc_ishl 1 (nI jj)))) (fc_ushr y1 (fc_ishl 1 (nI jj))) y1) (va_cwS 3 htf (gd_S wk190 wk178 wk8 wk179) rfl rfl rfl ndX1_choose ⟨Nat.le_of_ble_eq_true rfl, Nat.le_of_ble_eq_true rfl⟩) fw_PS rfl rfl hl.1 rfl (lv_room (Nat.le_of_ble_eq_true rfl)) dX1_top_43 ⟨Nat.le_refl _, Nat.le_refl _⟩) ?_
    refine lv_lstore (lv' := [(4, .long (fg_choose (fg_any (fc_ushr y1 (fc_ishl 1 (nI jj)))) (fc_ushr y1 (fc_ishl 1 (nI jj))) y1)), (2, .long (y0 ||| (fc_shl (fg_any (fc_ushr y1 (fc_ishl 1 (nI jj)))) (nI jj)))), (9, .long (fg_any (fc_ushr y1 (fc_ishl 1 (nI jj))))), (7, .long (fc_ushr y1 (fc_ishl 1 (nI jj)))), (0, .long p0), (6, .int (nI jj))]) hx hb dX1_top_46 hl (by decide) rfl (fun ls hl => ?_)
    refine lv_iinc (v := nI jj - 1) (lv' := [(6, .int (nI jj - 1)), (4, .long (fg_choose (fg_any (fc_ushr y1 (fc_ishl 1 (nI jj)))) (fc_ushr y1 (fc_ishl 1 (nI jj))) y1)), (2, .long (y0 ||| (fc_shl (fg_any (fc_ushr y1 (fc_ishl 1 (nI jj)))) (nI jj)))), (9, .long (fg_any (fc_ushr y1 (fc_ishl 1 (nI jj))))), (7, .long (fc_ushr y1 (fc_ishl 1 (nI jj)))), (0, .long p0)]) hx hb dX1_top_48 hl (k := 5) rfl (fw_m1 _) (by decide) rfl (fun ls hl => ?_)
    refine lv_goto (tgt := 8) hx hb dX1_top_51 (by decide) ?_
    exact ih (y0 ||| (fc_shl (fg_any (fc_ushr y1 (fc_ishl 1 (nI jj)))) (nI jj)), fg_choose (fg_any (fc_ushr y1 (fc_ishl 1 (nI jj)))) (fc_ushr y1 (fc_ishl 1 (nI jj))) y1) ls ⟨by omega, hi, lv_sub hl [5, 2, 1, 0] rfl⟩
theorem ndX1_product : yX1_product.cls ≠ "java/lang/invoke/MethodHandle" ∧ yX1_product.cls ≠ "java/lang/invoke/VarHandle" ∧ (parseMethodDescriptor yX1_product.desc).map (fun d => d.parameters.length) = some 3 := by decide +kernel
set_option maxHeartbeats 4000000 in
set_option maxRecDepth 100000 in
theorem k_X1_product (l : Launch) (p0 : Int64) (p1 : Int64) (n : Nat) (hn0 : n < 2 ^ 31) : Met l yX1_product wsX1_product { frames := 2, cells := 0, slots := 0, locals := 55 } (fw_P [.long p0, .long p1, .int (nI n)]) (fw_Q (.long (fg_prod_it p0 p1 n))) 0 0 (fun _ => False) := by
  refine Met.ofW (cc := cX1_product) (maxL := 8) (ret := (some .long)) (by decide) rfl ?_
  intro p e s m args below meth c s₁ B hml hv
  obtain ⟨rfl, -⟩ := hv
  have hx := B.exec
  have hb := B.bytes
  have hr := B.returns
  have hts := atoms_spec (ws := wsX1_product) B.pre
  have htf : ∀ w ∈ fc_all, w.before _ s = true := fun w h => hts w (List.mem_cons_of_mem _ h)
  have hown : s.vm.findClass RX1 = some m.cls := findClass_of_methodNamed B.named
  have hlocks := B.notSynchronized
  have hl := lv_entry ([.long p0, .long p1, .int (nI n)]) (n := 8) (Nat.le_of_ble_eq_true rfl)
  rw [lg_entry_eq]
  generalize (lg_sl ([.long p0, .long p1, .int (nI n)]) ++ List.replicate (8 - (lg_sl ([.long p0, .long p1, .int (nI n)])).length) Slot.unset).toArray = ls at hl ⊢
  have hl : lv_has ls 8 [(0, .long p0), (2, .long p1), (4, .int (nI n))] := hl
  refine lv_lconst (v := 0) hx hb dX1_product_0 (by decide) ?_
  refine lv_lstore (lv' := [(5, .long 0), (0, .long p0), (2, .long p1), (4, .int (nI n))]) hx hb dX1_product_1 hl (by decide) rfl (fun ls hl => ?_)
  refine lv_iconst (v := 0) hx hb dX1_product_3 (by decide) ?_
  refine lv_istore (lv' := [(7, .int 0), (5, .long 0), (0, .long p0), (2, .long p1), (4, .int (nI n))]) hx hb dX1_product_4 hl (by decide) rfl (fun ls hl => ?_)
  refine fw_up (head := 6) (N := n) (LS := fun k ls => lv_has ls 8 [(0, .long p0), (2, .long p1), (4, .int (nI n)), (5, .long (fg_prod_it p0 p1 k)), (7, .int (nI k))]) ?_ ?_ (lv_sub hl [2, 3, 4, 1, 0] rfl)
  · intro ls hl
    refine lv_iload hx hb dX1_product_6 (lv_at hl 4 rfl) ?_
    refine lv_iload hx hb dX1_product_8 (lv_at hl 2 rfl) ?_
    refine lv_icmp_ge (tgt := 38) hx hb dX1_product_10 (by decide) (fun c1 => ?_) (fun c1 => ?_)
    · refine lv_lload hx hb dX1_product_38 (lv_at hl 3 rfl) ?_
      exact W.lret (v := fg_prod_it p0 p1 n) hx hb hr (fun t ht hW => ⟨congrArg (fun z => Outcome.returned (some (Value.long z))) (show fg_prod_it p0 p1 n = fg_prod_it p0 p1 n from by rfl), ht⟩) (fun q h => nomatch h) dX1_product_40
    · exact absurd (nI_le (Nat.le_refl _) hn0) c1
  · intro k ls hk hl ih
    refine lv_iload hx hb dX1_product_6 (lv_at hl 4 rfl) ?_
    refine lv_iload hx hb dX1_product_8 (lv_at hl 2 rfl) ?_
    refine lv_icmp_ge (tgt := 38) hx hb dX1_product_10 (by decide) (fun c2 => ?_) (fun c2 => ?_)
    · exact absurd c2 (nI_ge hk hn0)
    refine lv_lload hx hb dX1_product_13 (lv_at hl 3 rfl) ?_
    refine lv_lload_n hx hb dX1_product_15 rfl (lv_at hl 0 rfl) ?_
    refine lv_iload hx hb dX1_product_16 (lv_at hl 4 rfl) ?_
    refine lv_lshl (v := fc_shl p0 (nI k)) hx hb dX1_product_18 rfl ?_
    refine lv_lload_n hx hb dX1_product_19 rfl (lv_at hl 1 rfl) ?_
    refine lv_iload hx hb dX1_product_20 (lv_at hl 4 rfl) ?_
    refine lv_lushr (v := fc_ushr p1 (nI k)) hx hb dX1_product_22 rfl ?_
    refine fw_call (va_runS (As := [.long (fc_ushr p1 (nI k))]) (rest := [.long (fc_shl p0 (nI k)), .long (fg_prod_it p0 p1 k)]) ⟨hx, hb, hml, hown, htf⟩ (k_X1_fan l (fc_ushr p1 (nI k))) (va_cwS 1 htf (gd_S wk180 wk181 wk8 wk182) rfl rfl rfl ndX1_fan ⟨Nat.le_of_ble_eq_true rfl, Nat.le_of_ble_eq_true rfl⟩) fw_PS rfl rfl hl.1 rfl (lv_room (Nat.le_of_ble_eq_true rfl)) dX1_product_23 ⟨Nat.le_refl _, Nat.le_refl _⟩) ?_
    refine lv_land hx hb dX1_product_26 ?_
    refine fw_call (va_runS (As := [.long (fg_prod_it p0 p1 k), .long ((fc_shl p0 (nI k)) &&& (fg_fan (fc_ushr p1 (nI k))))]) (rest := []) ⟨hx, hb, hml, hown, htf⟩ (k_X1_sum l (fg_prod_it p0 p1 k) ((fc_shl p0 (nI k)) &&& (fg_fan (fc_ushr p1 (nI k))))) (va_cwS 2 htf (gd_S wk252 wk167 wk8 wk168) rfl rfl rfl ndX1_sum ⟨Nat.le_of_ble_eq_true rfl, Nat.le_of_ble_eq_true rfl⟩) fw_PS rfl rfl hl.1 rfl (lv_room (Nat.le_of_ble_eq_true rfl)) dX1_product_27 ⟨Nat.le_refl _, Nat.le_refl _⟩) ?_
    refine lv_lstore (lv' := [(5, .long (fg_sum (fg_prod_it p0 p1 k) ((fc_shl p0 (nI k)) &&& (fg_fan (fc_ushr p1 (nI k)))))), (0, .long p0), (2, .long p1), (4, .int (nI n)), (7, .int (nI k))]) hx hb dX1_product_30 hl (by decide) rfl (fun ls hl => ?_)
    refine lv_iinc (v := nI (k + 1)) (lv' := [(7, .int (nI (k + 1))), (5, .long (fg_sum (fg_prod_it p0 p1 k) ((fc_shl p0 (nI k)) &&& (fg_fan (fc_ushr p1 (nI k)))))), (0, .long p0), (2, .long p1), (4, .int (nI n))]) hx hb dX1_product_32 hl (k := 4) rfl (nI_1 k) (by decide) rfl (fun ls hl => ?_)
    refine lv_goto (tgt := 6) hx hb dX1_product_35 (by decide) ?_
    exact ih ls (lv_sub hl [2, 3, 4, 1, 0] rfl)
theorem ndX1_quotient : yX1_quotient.cls ≠ "java/lang/invoke/MethodHandle" ∧ yX1_quotient.cls ≠ "java/lang/invoke/VarHandle" ∧ (parseMethodDescriptor yX1_quotient.desc).map (fun d => d.parameters.length) = some 3 := by decide +kernel
set_option maxHeartbeats 4000000 in
set_option maxRecDepth 100000 in
theorem k_X1_quotient (l : Launch) (p0 : Int64) (p1 : Int64) (n : Nat) (hn0 : n < 2 ^ 31) : Met l yX1_quotient wsX1_quotient { frames := 2, cells := 0, slots := 0, locals := 55 } (fw_P [.long p0, .long p1, .int (nI n)]) (fw_Q (.long (fg_quo p0 p1 n))) 0 0 (fun _ => False) := by
  refine Met.ofW (cc := cX1_quotient) (maxL := 14) (ret := (some .long)) (by decide) rfl ?_
  intro p e s m args below meth c s₁ B hml hv
  obtain ⟨rfl, -⟩ := hv
  have hx := B.exec
  have hb := B.bytes
  have hr := B.returns
  have hts := atoms_spec (ws := wsX1_quotient) B.pre
  have htf : ∀ w ∈ fc_all, w.before _ s = true := fun w h => hts w (List.mem_cons_of_mem _ h)
  have hown : s.vm.findClass RX1 = some m.cls := findClass_of_methodNamed B.named
  have hlocks := B.notSynchronized
  have hl := lv_entry ([.long p0, .long p1, .int (nI n)]) (n := 14) (Nat.le_of_ble_eq_true rfl)
  rw [lg_entry_eq]
  generalize (lg_sl ([.long p0, .long p1, .int (nI n)]) ++ List.replicate (14 - (lg_sl ([.long p0, .long p1, .int (nI n)])).length) Slot.unset).toArray = ls at hl ⊢
  have hl : lv_has ls 14 [(0, .long p0), (2, .long p1), (4, .int (nI n))] := hl
  refine lv_lconst (v := 0) hx hb dX1_quotient_0 (by decide) ?_
  refine lv_lstore (lv' := [(5, .long 0), (0, .long p0), (2, .long p1), (4, .int (nI n))]) hx hb dX1_quotient_1 hl (by decide) rfl (fun ls hl => ?_)
  refine lv_lconst (v := 0) hx hb dX1_quotient_3 (by decide) ?_
  refine lv_lstore (lv' := [(7, .long 0), (5, .long 0), (0, .long p0), (2, .long p1), (4, .int (nI n))]) hx hb dX1_quotient_4 hl (by decide) rfl (fun ls hl => ?_)
  refine lv_iload hx hb dX1_quotient_6 (lv_at hl 4 rfl) ?_
  refine lv_iconst (v := 1) hx hb dX1_quotient_8 (by decide) ?_
  refine lv_isub hx hb dX1_quotient_9 ?_
  refine lv_istore (lv' := [(9, .int ((nI n) - 1)), (7, .long 0), (5, .long 0), (0, .long p0), (2, .long p1), (4, .int (nI n))]) hx hb dX1_quotient_10 hl (by decide) rfl (fun ls hl => ?_)
  refine fw_down (head := 12) (σ := Int64 × Int64) (LS := fun jj i ls => jj ≤ n ∧ fg_quo_it p0 p1 jj i.1 i.2 = fg_quo_it p0 p1 n 0 0 ∧ lv_has ls 14 [(0, .long p0), (2, .long p1), (5, .long i.1), (7, .long i.2), (9, .int (nI jj - 1))]) ?_ ?_ n (0, 0) ls ⟨Nat.le_refl _, rfl, lv_sub hl [3, 4, 2, 1, 0] rfl⟩
  · rintro ⟨y0, y1⟩ ls ⟨hn, hi, hl⟩
    dsimp only at hi hl
    refine lv_iload hx hb dX1_quotient_12 (lv_at hl 4 rfl) ?_
    refine lv_if_lt (tgt := 73) hx hb dX1_quotient_14 (by decide) (fun c1 => ?_) (fun c1 => ?_)
    · refine lv_lload hx hb dX1_quotient_73 (lv_at hl 2 rfl) ?_
      refine lv_iconst (v := 1) hx hb dX1_quotient_75 (by decide) ?_
      refine lv_lshl (v := fc_shl y0 1) hx hb dX1_quotient_76 rfl ?_
      refine lv_lload hx hb dX1_quotient_77 (lv_at hl 3 rfl) ?_
      refine fw_call (va_runS (As := [.long y1]) (rest := [.long (fc_shl y0 1)]) ⟨hx, hb, hml, hown, htf⟩ (k_X1_any l y1) (va_cwS 1 htf (gd_S wk219 wk157 wk8 wk158) rfl rfl rfl ndX1_any ⟨Nat.le_of_ble_eq_true rfl, Nat.le_of_ble_eq_true rfl⟩) fw_PS rfl rfl hl.1 rfl (lv_room (Nat.le_of_ble_eq_true rfl)) dX1_quotient_79 ⟨Nat.le_refl _, Nat.le_refl _⟩) ?_
      refine lv_lor hx hb dX1_quotient_82 ?_
      exact W.lret (v := (fc_shl y0 1) ||| (fg_any y1)) hx hb hr (fun t ht hW => ⟨congrArg (fun z => Outcome.returned (some (Value.long z))) (show (fc_shl y0 1) ||| (fg_any y1) = fg_quo p0 p1 n from by unfold fg_quo; rw [← hi]; rfl), ht⟩) (fun q h => nomatch h) dX1_quotient_83
    · exact absurd (by decide) c1
  · rintro jj ⟨y0, y1⟩ ls ⟨hn, hi, hl⟩ ih
    dsimp only at hi hl
    rw [nI_pred] at hl
    refine lv_iload hx hb dX1_quotient_12 (lv_at hl 4 rfl) ?_
    refine lv_if_lt (tgt := 73) hx hb dX1_quotient_14 (by decide) (fun c2 => ?_) (fun c2 => ?_)
    · exact absurd c2 (nI_pos (by omega))
    refine lv_lload hx hb dX1_quotient_17 (lv_at hl 3 rfl) ?_
    refine lv_iconst (v := 1) hx hb dX1_quotient_19 (by decide) ?_
    refine lv_lshl (v := fc_shl y1 1) hx hb dX1_quotient_20 rfl ?_
    refine lv_lload_n hx hb dX1_quotient_21 rfl (lv_at hl 0 rfl) ?_
    refine lv_iload hx hb dX1_quotient_22 (lv_at hl 4 rfl) ?_
    refine lv_lushr (v := fc_ushr p0 (nI jj)) hx hb dX1_quotient_24 rfl ?_
    refine lv_lconst (v := 1) hx hb dX1_quotient_25 (by decide) ?_
    refine lv_land hx hb dX1_quotient_26 ?_
    refine lv_lor hx hb dX1_quotient_27 ?_
    refine lv_lstore (lv' := [(7, .long ((fc_shl y1 1) ||| ((fc_ushr p0 (nI jj)) &&& 1))), (0, .long p0), (2, .long p1), (5, .long y0), (9, .int (nI jj))]) hx hb dX1_quotient_28 hl (by decide) rfl (fun ls hl => ?_)
    refine lv_lload hx hb dX1_quotient_30 (lv_at hl 0 rfl) ?_
    refine lv_lload_n hx hb dX1_quotient_32 rfl (lv_at hl 2 rfl) ?_
    refine fw_call (va_runS (As := [.long ((fc_shl y1 1) ||| ((fc_ushr p0 (nI jj)) &&& 1)), .long p1]) (rest := []) ⟨hx, hb, hml, hown, htf⟩ (k_X1_difference l ((fc_shl y1 1) ||| ((fc_ushr p0 (nI jj)) &&& 1)) p1) (va_cwS 2 htf (gd_S wk115 wk116 wk8 wk117) rfl rfl rfl ndX1_difference ⟨Nat.le_of_ble_eq_true rfl, Nat.le_of_ble_eq_true rfl⟩) fw_PS rfl rfl hl.1 rfl (lv_room (Nat.le_of_ble_eq_true rfl)) dX1_quotient_33 ⟨Nat.le_refl _, Nat.le_refl _⟩) ?_
    refine lv_lstore (lv' := [(10, .long (fg_diff ((fc_shl y1 1) ||| ((fc_ushr p0 (nI jj)) &&& 1)) p1)), (7, .long ((fc_shl y1 1) ||| ((fc_ushr p0 (nI jj)) &&& 1))), (0, .long p0), (2, .long p1), (5, .long y0), (9, .int (nI jj))]) hx hb dX1_quotient_36 hl (by decide) rfl (fun ls hl => ?_)
    refine lv_lload hx hb dX1_quotient_38 (lv_at hl 0 rfl) ?_
    refine fw_call (va_runS (As := [.long (fg_diff ((fc_shl y1 1) ||| ((fc_ushr p0 (nI jj)) &&& 1)) p1)]) (rest := []) ⟨hx, hb, hml, hown, htf⟩ (k_X1_isNegative l (fg_diff ((fc_shl y1 1) ||| ((fc_ushr p0 (nI jj)) &&& 1)) p1)) (va_cwS 1 htf (gd_S wk122 wk123 wk8 wk124) rfl rfl rfl ndX1_isNegative ⟨Nat.le_of_ble_eq_true rfl, Nat.le_of_ble_eq_true rfl⟩) fw_PS rfl rfl hl.1 rfl (lv_room (Nat.le_of_ble_eq_true rfl)) dX1_quotient_40 ⟨Nat.le_refl _, Nat.le_refl _⟩) ?_
    refine lv_lconst (v := 1) hx hb dX1_quotient_43 (by decide) ?_
    refine lv_lxor hx hb dX1_quotient_44 ?_
    refine lv_lstore (lv' := [(12, .long ((fg_neg (fg_diff ((fc_shl y1 1) ||| ((fc_ushr p0 (nI jj)) &&& 1)) p1)) ^^^ 1)), (10, .long (fg_diff ((fc_shl y1 1) ||| ((fc_ushr p0 (nI jj)) &&& 1)) p1)), (7, .long ((fc_shl y1 1) ||| ((fc_ushr p0 (nI jj)) &&& 1))), (0, .long p0), (2, .long p1), (5, .long y0), (9, .int (nI jj))]) hx hb dX1_quotient_45 hl (by decide) rfl (fun ls hl => ?_)
    refine lv_lload hx hb dX1_quotient_47 (lv_at hl 0 rfl) ?_
    refine lv_lload hx hb dX1_quotient_49 (lv_at hl 1 rfl) ?_
    refine lv_lload hx hb dX1_quotient_51 (lv_at hl 2 rfl) ?_
    refine fw_call (va_runS (As := [.long ((fg_neg (fg_diff ((fc_shl y1 1) ||| ((fc_ushr p0 (nI jj)) &&& 1)) p1)) ^^^ 1), .long (fg_diff ((fc_shl y1 1) ||| ((fc_ushr p0 (nI jj)) &&& 1)) p1), .long ((fc_shl y1 1) ||| ((fc_ushr p0 (nI jj)) &&& 1))]) (rest := []) ⟨hx, hb, hml, hown, htf⟩ (k_X1_choose l ((fg_neg (fg_diff ((fc_shl y1 1) ||| ((fc_ushr p0 (nI jj)) &&& 1)) p1)) ^^^ 1) (fg_diff ((fc_shl y1 1) ||| ((fc_ushr p0 (nI jj)) &&& 1)) p1) ((fc_shl y1 1) ||| ((fc_ushr p0 (nI jj)) &&& 1))) (va_cwS 3 htf (gd_S wk190 wk178 wk8 wk179) rfl rfl rfl ndX1_choose ⟨Nat.le_of_ble_eq_true rfl, Nat.le_of_ble_eq_true rfl⟩) fw_PS rfl rfl hl.1 rfl (lv_room (Nat.le_of_ble_eq_true rfl)) dX1_quotient_53 ⟨Nat.le_refl _, Nat.le_refl _⟩) ?_
    refine lv_lstore (lv' := [(7, .long (fg_choose ((fg_neg (fg_diff ((fc_shl y1 1) ||| ((fc_ushr p0 (nI jj)) &&& 1)) p1)) ^^^ 1) (fg_diff ((fc_shl y1 1) ||| ((fc_ushr p0 (nI jj)) &&& 1)) p1) ((fc_shl y1 1) ||| ((fc_ushr p0 (nI jj)) &&& 1)))), (12, .long ((fg_neg (fg_diff ((fc_shl y1 1) ||| ((fc_ushr p0 (nI jj)) &&& 1)) p1)) ^^^ 1)), (10, .long (fg_diff ((fc_shl y1 1) ||| ((fc_ushr p0 (nI jj)) &&& 1)) p1)), (0, .long p0), (2, .long p1), (5, .long y0), (9, .int (nI jj))]) hx hb dX1_quotient_56 hl (by decide) rfl (fun ls hl => ?_)
    refine lv_lload hx hb dX1_quotient_58 (lv_at hl 5 rfl) ?_
    refine lv_iconst (v := 1) hx hb dX1_quotient_60 (by decide) ?_
    refine lv_lshl (v := fc_shl y0 1) hx hb dX1_quotient_61 rfl ?_
    refine lv_lload hx hb dX1_quotient_62 (lv_at hl 1 rfl) ?_
    refine lv_lor hx hb dX1_quotient_64 ?_
    refine lv_lstore (lv' := [(5, .long ((fc_shl y0 1) ||| ((fg_neg (fg_diff ((fc_shl y1 1) ||| ((fc_ushr p0 (nI jj)) &&& 1)) p1)) ^^^ 1))), (7, .long (fg_choose ((fg_neg (fg_diff ((fc_shl y1 1) ||| ((fc_ushr p0 (nI jj)) &&& 1)) p1)) ^^^ 1) (fg_diff ((fc_shl y1 1) ||| ((fc_ushr p0 (nI jj)) &&& 1)) p1) ((fc_shl y1 1) ||| ((fc_ushr p0 (nI jj)) &&& 1)))), (12, .long ((fg_neg (fg_diff ((fc_shl y1 1) ||| ((fc_ushr p0 (nI jj)) &&& 1)) p1)) ^^^ 1)), (10, .long (fg_diff ((fc_shl y1 1) ||| ((fc_ushr p0 (nI jj)) &&& 1)) p1)), (0, .long p0), (2, .long p1), (9, .int (nI jj))]) hx hb dX1_quotient_65 hl (by decide) rfl (fun ls hl => ?_)
    refine lv_iinc (v := nI jj - 1) (lv' := [(9, .int (nI jj - 1)), (5, .long ((fc_shl y0 1) ||| ((fg_neg (fg_diff ((fc_shl y1 1) ||| ((fc_ushr p0 (nI jj)) &&& 1)) p1)) ^^^ 1))), (7, .long (fg_choose ((fg_neg (fg_diff ((fc_shl y1 1) ||| ((fc_ushr p0 (nI jj)) &&& 1)) p1)) ^^^ 1) (fg_diff ((fc_shl y1 1) ||| ((fc_ushr p0 (nI jj)) &&& 1)) p1) ((fc_shl y1 1) ||| ((fc_ushr p0 (nI jj)) &&& 1)))), (12, .long ((fg_neg (fg_diff ((fc_shl y1 1) ||| ((fc_ushr p0 (nI jj)) &&& 1)) p1)) ^^^ 1)), (10, .long (fg_diff ((fc_shl y1 1) ||| ((fc_ushr p0 (nI jj)) &&& 1)) p1)), (0, .long p0), (2, .long p1)]) hx hb dX1_quotient_67 hl (k := 6) rfl (fw_m1 _) (by decide) rfl (fun ls hl => ?_)
    refine lv_goto (tgt := 12) hx hb dX1_quotient_70 (by decide) ?_
    exact ih ((fc_shl y0 1) ||| ((fg_neg (fg_diff ((fc_shl y1 1) ||| ((fc_ushr p0 (nI jj)) &&& 1)) p1)) ^^^ 1), fg_choose ((fg_neg (fg_diff ((fc_shl y1 1) ||| ((fc_ushr p0 (nI jj)) &&& 1)) p1)) ^^^ 1) (fg_diff ((fc_shl y1 1) ||| ((fc_ushr p0 (nI jj)) &&& 1)) p1) ((fc_shl y1 1) ||| ((fc_ushr p0 (nI jj)) &&& 1))) ls ⟨by omega, hi, lv_sub hl [5, 6, 1, 2, 0] rfl⟩
theorem ndX1_root : yX1_root.cls ≠ "java/lang/invoke/MethodHandle" ∧ yX1_root.cls ≠ "java/lang/invoke/VarHandle" ∧ (parseMethodDescriptor yX1_root.desc).map (fun d => d.parameters.length) = some 2 := by decide +kernel
set_option maxHeartbeats 4000000 in
set_option maxRecDepth 100000 in
theorem k_X1_root (l : Launch) (p0 : Int64) (n : Nat) (hn0 : n < 2 ^ 31) : Met l yX1_root wsX1_root { frames := 2, cells := 0, slots := 0, locals := 55 } (fw_P [.long p0, .int (nI n)]) (fw_Q (.long (fg_root p0 n))) 0 0 (fun _ => False) := by
  refine Met.ofW (cc := cX1_root) (maxL := 12) (ret := (some .long)) (by decide) rfl ?_
  intro p e s m args below meth c s₁ B hml hv
  obtain ⟨rfl, -⟩ := hv
  have hx := B.exec
  have hb := B.bytes
  have hr := B.returns
  have hts := atoms_spec (ws := wsX1_root) B.pre
  have htf : ∀ w ∈ fc_all, w.before _ s = true := fun w h => hts w (List.mem_cons_of_mem _ h)
  have hown : s.vm.findClass RX1 = some m.cls := findClass_of_methodNamed B.named
  have hlocks := B.notSynchronized
  have hl := lv_entry ([.long p0, .int (nI n)]) (n := 12) (Nat.le_of_ble_eq_true rfl)
  rw [lg_entry_eq]
  generalize (lg_sl ([.long p0, .int (nI n)]) ++ List.replicate (12 - (lg_sl ([.long p0, .int (nI n)])).length) Slot.unset).toArray = ls at hl ⊢
  have hl : lv_has ls 12 [(0, .long p0), (2, .int (nI n))] := hl
  refine lv_lconst (v := 0) hx hb dX1_root_0 (by decide) ?_
  refine lv_lstore_n (lv' := [(3, .long 0), (0, .long p0), (2, .int (nI n))]) hx hb dX1_root_1 rfl hl (by decide) rfl (fun ls hl => ?_)
  refine lv_lconst (v := 0) hx hb dX1_root_2 (by decide) ?_
  refine lv_lstore (lv' := [(5, .long 0), (3, .long 0), (0, .long p0), (2, .int (nI n))]) hx hb dX1_root_3 hl (by decide) rfl (fun ls hl => ?_)
  refine lv_iload_n hx hb dX1_root_5 rfl (lv_at hl 3 rfl) ?_
  refine lv_iconst (v := 1) hx hb dX1_root_6 (by decide) ?_
  refine lv_isub hx hb dX1_root_7 ?_
  refine lv_istore (lv' := [(7, .int ((nI n) - 1)), (5, .long 0), (3, .long 0), (0, .long p0), (2, .int (nI n))]) hx hb dX1_root_8 hl (by decide) rfl (fun ls hl => ?_)
  refine fw_down (head := 10) (σ := Int64 × Int64) (LS := fun jj i ls => jj ≤ n ∧ fg_root_it p0 jj i.1 i.2 = fg_root_it p0 n 0 0 ∧ lv_has ls 12 [(0, .long p0), (3, .long i.1), (5, .long i.2), (7, .int (nI jj - 1))]) ?_ ?_ n (0, 0) ls ⟨Nat.le_refl _, rfl, lv_sub hl [3, 2, 1, 0] rfl⟩
  · rintro ⟨y0, y1⟩ ls ⟨hn, hi, hl⟩
    dsimp only at hi hl
    refine lv_iload hx hb dX1_root_10 (lv_at hl 3 rfl) ?_
    refine lv_if_lt (tgt := 77) hx hb dX1_root_12 (by decide) (fun c1 => ?_) (fun c1 => ?_)
    · refine lv_lload_n hx hb dX1_root_77 rfl (lv_at hl 1 rfl) ?_
      refine lv_iconst (v := 1) hx hb dX1_root_78 (by decide) ?_
      refine lv_lshl (v := fc_shl y0 1) hx hb dX1_root_79 rfl ?_
      refine lv_lload hx hb dX1_root_80 (lv_at hl 2 rfl) ?_
      refine fw_call (va_runS (As := [.long y1]) (rest := [.long (fc_shl y0 1)]) ⟨hx, hb, hml, hown, htf⟩ (k_X1_any l y1) (va_cwS 1 htf (gd_S wk219 wk157 wk8 wk158) rfl rfl rfl ndX1_any ⟨Nat.le_of_ble_eq_true rfl, Nat.le_of_ble_eq_true rfl⟩) fw_PS rfl rfl hl.1 rfl (lv_room (Nat.le_of_ble_eq_true rfl)) dX1_root_82 ⟨Nat.le_refl _, Nat.le_refl _⟩) ?_
      refine lv_lor hx hb dX1_root_85 ?_
      exact W.lret (v := (fc_shl y0 1) ||| (fg_any y1)) hx hb hr (fun t ht hW => ⟨congrArg (fun z => Outcome.returned (some (Value.long z))) (show (fc_shl y0 1) ||| (fg_any y1) = fg_root p0 n from by unfold fg_root; rw [← hi]; rfl), ht⟩) (fun q h => nomatch h) dX1_root_86
    · exact absurd (by decide) c1
  · rintro jj ⟨y0, y1⟩ ls ⟨hn, hi, hl⟩ ih
    dsimp only at hi hl
    rw [nI_pred] at hl
    refine lv_iload hx hb dX1_root_10 (lv_at hl 3 rfl) ?_
    refine lv_if_lt (tgt := 77) hx hb dX1_root_12 (by decide) (fun c2 => ?_) (fun c2 => ?_)
    · exact absurd c2 (nI_pos (by omega))
    refine lv_lload hx hb dX1_root_15 (lv_at hl 2 rfl) ?_
    refine lv_iconst (v := 2) hx hb dX1_root_17 (by decide) ?_
    refine lv_lshl (v := fc_shl y1 2) hx hb dX1_root_18 rfl ?_
    refine lv_lload_n hx hb dX1_root_19 rfl (lv_at hl 0 rfl) ?_
    refine lv_iconst (v := 2) hx hb dX1_root_20 (by decide) ?_
    refine lv_iload hx hb dX1_root_21 (lv_at hl 3 rfl) ?_
    refine lv_imul hx hb dX1_root_23 ?_
    refine lv_lushr (v := fc_ushr p0 (2 * (nI jj))) hx hb dX1_root_24 rfl ?_
    refine lv_ldc2 (v := 3) hx hb hown (htf _ wk274) dX1_root_25 ?_
    refine lv_land hx hb dX1_root_28 ?_
    refine lv_lor hx hb dX1_root_29 ?_
    refine lv_lstore (lv' := [(5, .long ((fc_shl y1 2) ||| ((fc_ushr p0 (2 * (nI jj))) &&& 3))), (0, .long p0), (3, .long y0), (7, .int (nI jj))]) hx hb dX1_root_30 hl (by decide) rfl (fun ls hl => ?_)
    refine lv_lload hx hb dX1_root_32 (lv_at hl 0 rfl) ?_
    refine lv_lload_n hx hb dX1_root_34 rfl (lv_at hl 2 rfl) ?_
    refine lv_iconst (v := 2) hx hb dX1_root_35 (by decide) ?_
    refine lv_lshl (v := fc_shl y0 2) hx hb dX1_root_36 rfl ?_
    refine lv_lconst (v := 1) hx hb dX1_root_37 (by decide) ?_
    refine lv_lor hx hb dX1_root_38 ?_
    refine fw_call (va_runS (As := [.long ((fc_shl y1 2) ||| ((fc_ushr p0 (2 * (nI jj))) &&& 3)), .long ((fc_shl y0 2) ||| 1)]) (rest := []) ⟨hx, hb, hml, hown, htf⟩ (k_X1_difference l ((fc_shl y1 2) ||| ((fc_ushr p0 (2 * (nI jj))) &&& 3)) ((fc_shl y0 2) ||| 1)) (va_cwS 2 htf (gd_S wk115 wk116 wk8 wk117) rfl rfl rfl ndX1_difference ⟨Nat.le_of_ble_eq_true rfl, Nat.le_of_ble_eq_true rfl⟩) fw_PS rfl rfl hl.1 rfl (lv_room (Nat.le_of_ble_eq_true rfl)) dX1_root_39 ⟨Nat.le_refl _, Nat.le_refl _⟩) ?_
    refine lv_lstore (lv' := [(8, .long (fg_diff ((fc_shl y1 2) ||| ((fc_ushr p0 (2 * (nI jj))) &&& 3)) ((fc_shl y0 2) ||| 1))), (5, .long ((fc_shl y1 2) ||| ((fc_ushr p0 (2 * (nI jj))) &&& 3))), (0, .long p0), (3, .long y0), (7, .int (nI jj))]) hx hb dX1_root_42 hl (by decide) rfl (fun ls hl => ?_)
    refine lv_lload hx hb dX1_root_44 (lv_at hl 0 rfl) ?_
    refine fw_call (va_runS (As := [.long (fg_diff ((fc_shl y1 2) ||| ((fc_ushr p0 (2 * (nI jj))) &&& 3)) ((fc_shl y0 2) ||| 1))]) (rest := []) ⟨hx, hb, hml, hown, htf⟩ (k_X1_isNegative l (fg_diff ((fc_shl y1 2) ||| ((fc_ushr p0 (2 * (nI jj))) &&& 3)) ((fc_shl y0 2) ||| 1))) (va_cwS 1 htf (gd_S wk122 wk123 wk8 wk124) rfl rfl rfl ndX1_isNegative ⟨Nat.le_of_ble_eq_true rfl, Nat.le_of_ble_eq_true rfl⟩) fw_PS rfl rfl hl.1 rfl (lv_room (Nat.le_of_ble_eq_true rfl)) dX1_root_46 ⟨Nat.le_refl _, Nat.le_refl _⟩) ?_
    refine lv_lconst (v := 1) hx hb dX1_root_49 (by decide) ?_
    refine lv_lxor hx hb dX1_root_50 ?_
    refine lv_lstore (lv' := [(10, .long ((fg_neg (fg_diff ((fc_shl y1 2) ||| ((fc_ushr p0 (2 * (nI jj))) &&& 3)) ((fc_shl y0 2) ||| 1))) ^^^ 1)), (8, .long (fg_diff ((fc_shl y1 2) ||| ((fc_ushr p0 (2 * (nI jj))) &&& 3)) ((fc_shl y0 2) ||| 1))), (5, .long ((fc_shl y1 2) ||| ((fc_ushr p0 (2 * (nI jj))) &&& 3))), (0, .long p0), (3, .long y0), (7, .int (nI jj))]) hx hb dX1_root_51 hl (by decide) rfl (fun ls hl => ?_)
    refine lv_lload hx hb dX1_root_53 (lv_at hl 0 rfl) ?_
    refine lv_lload hx hb dX1_root_55 (lv_at hl 1 rfl) ?_
    refine lv_lload hx hb dX1_root_57 (lv_at hl 2 rfl) ?_
    refine fw_call (va_runS (As := [.long ((fg_neg (fg_diff ((fc_shl y1 2) ||| ((fc_ushr p0 (2 * (nI jj))) &&& 3)) ((fc_shl y0 2) ||| 1))) ^^^ 1), .long (fg_diff ((fc_shl y1 2) ||| ((fc_ushr p0 (2 * (nI jj))) &&& 3)) ((fc_shl y0 2) ||| 1)), .long ((fc_shl y1 2) ||| ((fc_ushr p0 (2 * (nI jj))) &&& 3))]) (rest := []) ⟨hx, hb, hml, hown, htf⟩ (k_X1_choose l ((fg_neg (fg_diff ((fc_shl y1 2) ||| ((fc_ushr p0 (2 * (nI jj))) &&& 3)) ((fc_shl y0 2) ||| 1))) ^^^ 1) (fg_diff ((fc_shl y1 2) ||| ((fc_ushr p0 (2 * (nI jj))) &&& 3)) ((fc_shl y0 2) ||| 1)) ((fc_shl y1 2) ||| ((fc_ushr p0 (2 * (nI jj))) &&& 3))) (va_cwS 3 htf (gd_S wk190 wk178 wk8 wk179) rfl rfl rfl ndX1_choose ⟨Nat.le_of_ble_eq_true rfl, Nat.le_of_ble_eq_true rfl⟩) fw_PS rfl rfl hl.1 rfl (lv_room (Nat.le_of_ble_eq_true rfl)) dX1_root_59 ⟨Nat.le_refl _, Nat.le_refl _⟩) ?_
    refine lv_lstore (lv' := [(5, .long (fg_choose ((fg_neg (fg_diff ((fc_shl y1 2) ||| ((fc_ushr p0 (2 * (nI jj))) &&& 3)) ((fc_shl y0 2) ||| 1))) ^^^ 1) (fg_diff ((fc_shl y1 2) ||| ((fc_ushr p0 (2 * (nI jj))) &&& 3)) ((fc_shl y0 2) ||| 1)) ((fc_shl y1 2) ||| ((fc_ushr p0 (2 * (nI jj))) &&& 3)))), (10, .long ((fg_neg (fg_diff ((fc_shl y1 2) ||| ((fc_ushr p0 (2 * (nI jj))) &&& 3)) ((fc_shl y0 2) ||| 1))) ^^^ 1)), (8, .long (fg_diff ((fc_shl y1 2) ||| ((fc_ushr p0 (2 * (nI jj))) &&& 3)) ((fc_shl y0 2) ||| 1))), (0, .long p0), (3, .long y0), (7, .int (nI jj))]) hx hb dX1_root_62 hl (by decide) rfl (fun ls hl => ?_)
    refine lv_lload_n hx hb dX1_root_64 rfl (lv_at hl 4 rfl) ?_
    refine lv_iconst (v := 1) hx hb dX1_root_65 (by decide) ?_
    refine lv_lshl (v := fc_shl y0 1) hx hb dX1_root_66 rfl ?_
    refine lv_lload hx hb dX1_root_67 (lv_at hl 1 rfl) ?_
    refine lv_lor hx hb dX1_root_69 ?_
    refine lv_lstore_n (lv' := [(3, .long ((fc_shl y0 1) ||| ((fg_neg (fg_diff ((fc_shl y1 2) ||| ((fc_ushr p0 (2 * (nI jj))) &&& 3)) ((fc_shl y0 2) ||| 1))) ^^^ 1))), (5, .long (fg_choose ((fg_neg (fg_diff ((fc_shl y1 2) ||| ((fc_ushr p0 (2 * (nI jj))) &&& 3)) ((fc_shl y0 2) ||| 1))) ^^^ 1) (fg_diff ((fc_shl y1 2) ||| ((fc_ushr p0 (2 * (nI jj))) &&& 3)) ((fc_shl y0 2) ||| 1)) ((fc_shl y1 2) ||| ((fc_ushr p0 (2 * (nI jj))) &&& 3)))), (10, .long ((fg_neg (fg_diff ((fc_shl y1 2) ||| ((fc_ushr p0 (2 * (nI jj))) &&& 3)) ((fc_shl y0 2) ||| 1))) ^^^ 1)), (8, .long (fg_diff ((fc_shl y1 2) ||| ((fc_ushr p0 (2 * (nI jj))) &&& 3)) ((fc_shl y0 2) ||| 1))), (0, .long p0), (7, .int (nI jj))]) hx hb dX1_root_70 rfl hl (by decide) rfl (fun ls hl => ?_)
    refine lv_iinc (v := nI jj - 1) (lv' := [(7, .int (nI jj - 1)), (3, .long ((fc_shl y0 1) ||| ((fg_neg (fg_diff ((fc_shl y1 2) ||| ((fc_ushr p0 (2 * (nI jj))) &&& 3)) ((fc_shl y0 2) ||| 1))) ^^^ 1))), (5, .long (fg_choose ((fg_neg (fg_diff ((fc_shl y1 2) ||| ((fc_ushr p0 (2 * (nI jj))) &&& 3)) ((fc_shl y0 2) ||| 1))) ^^^ 1) (fg_diff ((fc_shl y1 2) ||| ((fc_ushr p0 (2 * (nI jj))) &&& 3)) ((fc_shl y0 2) ||| 1)) ((fc_shl y1 2) ||| ((fc_ushr p0 (2 * (nI jj))) &&& 3)))), (10, .long ((fg_neg (fg_diff ((fc_shl y1 2) ||| ((fc_ushr p0 (2 * (nI jj))) &&& 3)) ((fc_shl y0 2) ||| 1))) ^^^ 1)), (8, .long (fg_diff ((fc_shl y1 2) ||| ((fc_ushr p0 (2 * (nI jj))) &&& 3)) ((fc_shl y0 2) ||| 1))), (0, .long p0)]) hx hb dX1_root_71 hl (k := 5) rfl (fw_m1 _) (by decide) rfl (fun ls hl => ?_)
    refine lv_goto (tgt := 10) hx hb dX1_root_74 (by decide) ?_
    exact ih ((fc_shl y0 1) ||| ((fg_neg (fg_diff ((fc_shl y1 2) ||| ((fc_ushr p0 (2 * (nI jj))) &&& 3)) ((fc_shl y0 2) ||| 1))) ^^^ 1), fg_choose ((fg_neg (fg_diff ((fc_shl y1 2) ||| ((fc_ushr p0 (2 * (nI jj))) &&& 3)) ((fc_shl y0 2) ||| 1))) ^^^ 1) (fg_diff ((fc_shl y1 2) ||| ((fc_ushr p0 (2 * (nI jj))) &&& 3)) ((fc_shl y0 2) ||| 1)) ((fc_shl y1 2) ||| ((fc_ushr p0 (2 * (nI jj))) &&& 3))) ls ⟨by omega, hi, lv_sub hl [5, 1, 2, 0] rfl⟩
