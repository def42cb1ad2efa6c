theorem ndJ0_numberOfLeadingZeros : yJ0_numberOfLeadingZeros.cls ≠ "java/lang/invoke/MethodHandle" ∧ yJ0_numberOfLeadingZeros.cls ≠ "java/lang/invoke/VarHandle" ∧ (parseMethodDescriptor yJ0_numberOfLeadingZeros.desc).map (fun d => d.parameters.length) = some 1 := by decide +kernel
def fm_J0_numberOfLeadingZeros (p0 : Int32) : Int32 := if 0 < p0 then (let x2 := if p0 < 65536 then 31 else 31 + (-16); let x3 := if p0 < 65536 then p0 else fc_iushr p0 16; let x6 := if x3 < 256 then x2 else x2 + (-8); let x7 := if x3 < 256 then x3 else fc_iushr x3 8; let x10 := if x7 < 16 then x6 else x6 + (-4); let x11 := if x7 < 16 then x7 else fc_iushr x7 4; let x14 := if x11 < 4 then x10 else x10 + (-2); let x15 := if x11 < 4 then x11 else fc_iushr x11 2; x14 - (fc_iushr x15 1)) else (if p0 = 0 then (32) else (0))
set_option maxHeartbeats 4000000 in
set_option maxRecDepth 100000 in
theorem k_J0_numberOfLeadingZeros (l : Launch) (p0 : Int32) : Met l yJ0_numberOfLeadingZeros wsJ0_numberOfLeadingZeros { frames := 0, cells := 0, slots := 0, locals := 0 } (fw_P [.int p0]) (fw_Q (.int (fm_J0_numberOfLeadingZeros p0))) 0 0 (fun _ => False) := by
  refine Met.ofW (cc := cJ0_numberOfLeadingZeros) (maxL := 2) (ret := (some .int)) (by decide) rfl ?_
  intro p e s m args below meth c s₁ B hml hv
  obtain ⟨rfl, -⟩ := hv
  have hx := B.exec
  have hb := B.bytes
  have hr := B.returns
  have hts := atoms_spec (ws := wsJ0_numberOfLeadingZeros) B.pre
  have htf : ∀ w ∈ fc_all, w.before _ s = true := fun w h => hts w (List.mem_cons_of_mem _ h)
  have hown : s.vm.findClass RJ0 = some m.cls := findClass_of_methodNamed B.named
  have hlocks := B.notSynchronized
  have hl := lv_entry ([.int p0]) (n := 2) (Nat.le_of_ble_eq_true rfl)
  rw [lg_entry_eq]
  generalize (lg_sl ([.int p0]) ++ List.replicate (2 - (lg_sl ([.int p0])).length) Slot.unset).toArray = ls at hl ⊢
  have hl : lv_has ls 2 [(0, .int p0)] := hl
  refine lv_iload_n hx hb dJ0_numberOfLeadingZeros_0 rfl (lv_at hl 0 rfl) ?_
  refine lv_if_gt (tgt := 15) hx hb dJ0_numberOfLeadingZeros_1 (by decide) (fun c1 => ?_) (fun c1 => ?_)
  · refine lv_bipush (v := 31) hx hb dJ0_numberOfLeadingZeros_15 (by decide) ?_
    refine lv_istore_n (lv' := [(1, .int 31), (0, .int p0)]) hx hb dJ0_numberOfLeadingZeros_17 rfl hl (by decide) rfl (fun ls hl => ?_)
    refine lv_iload_n hx hb dJ0_numberOfLeadingZeros_18 rfl (lv_at hl 1 rfl) ?_
    refine lv_ldcw (v := 65536) hx hb hown (htf _ wk412) dJ0_numberOfLeadingZeros_19 ?_
    refine fw_join (j := 33) (ι := Int32 × Int32) (LS := fun i ls => lv_has ls 2 [(1, .int i.1), (0, .int i.2)] ∧ i.1 = (if p0 < 65536 then 31 else 31 + (-16)) ∧ i.2 = (if p0 < 65536 then p0 else fc_iushr p0 16)) (ST := fun i => []) ?_ (fun J4 => ?_)
    rotate_left
    · refine lv_icmp_lt (tgt := 33) hx hb dJ0_numberOfLeadingZeros_22 (by decide) (fun c5 => ?_) (fun c5 => ?_)
      · exact J4 (31, p0) ls ⟨lv_sub hl [0, 1] rfl, by simp only [if_pos c5] <;> first | assumption | contradiction, by simp only [if_pos c5] <;> first | assumption | contradiction⟩
      · refine lv_iinc (v := 31 + (-16)) (lv' := [(1, .int (31 + (-16))), (0, .int p0)]) hx hb dJ0_numberOfLeadingZeros_25 hl (k := 0) rfl rfl (by decide) rfl (fun ls hl => ?_)
        refine lv_iload_n hx hb dJ0_numberOfLeadingZeros_28 rfl (lv_at hl 1 rfl) ?_
        refine lv_bipush (v := 16) hx hb dJ0_numberOfLeadingZeros_29 (by decide) ?_
        refine lv_iushr (v := fc_iushr p0 16) hx hb dJ0_numberOfLeadingZeros_31 rfl ?_
        refine lv_istore_n (lv' := [(0, .int (fc_iushr p0 16)), (1, .int (31 + (-16)))]) hx hb dJ0_numberOfLeadingZeros_32 rfl hl (by decide) rfl (fun ls hl => ?_)
        exact J4 (31 + (-16), fc_iushr p0 16) ls ⟨lv_sub hl [1, 0] rfl, by simp only [if_neg c5] <;> first | assumption | contradiction, by simp only [if_neg c5] <;> first | assumption | contradiction⟩
    rintro ⟨x2, x3⟩ ls ⟨hl, ex2, ex3⟩
    try dsimp only at hl ex2 ex3 ⊢
    refine lv_iload_n hx hb dJ0_numberOfLeadingZeros_33 rfl (lv_at hl 1 rfl) ?_
    refine lv_sipush (v := 256) hx hb dJ0_numberOfLeadingZeros_34 (by decide) ?_
    refine fw_join (j := 48) (ι := Int32 × Int32) (LS := fun i ls => lv_has ls 2 [(1, .int i.1), (0, .int i.2)] ∧ i.1 = (if x3 < 256 then x2 else x2 + (-8)) ∧ i.2 = (if x3 < 256 then x3 else fc_iushr x3 8)) (ST := fun i => []) ?_ (fun J8 => ?_)
    rotate_left
    · refine lv_icmp_lt (tgt := 48) hx hb dJ0_numberOfLeadingZeros_37 (by decide) (fun c9 => ?_) (fun c9 => ?_)
      · exact J8 (x2, x3) ls ⟨lv_sub hl [0, 1] rfl, by simp only [if_pos c9] <;> first | assumption | contradiction, by simp only [if_pos c9] <;> first | assumption | contradiction⟩
      · refine lv_iinc (v := x2 + (-8)) (lv' := [(1, .int (x2 + (-8))), (0, .int x3)]) hx hb dJ0_numberOfLeadingZeros_40 hl (k := 0) rfl rfl (by decide) rfl (fun ls hl => ?_)
        refine lv_iload_n hx hb dJ0_numberOfLeadingZeros_43 rfl (lv_at hl 1 rfl) ?_
        refine lv_bipush (v := 8) hx hb dJ0_numberOfLeadingZeros_44 (by decide) ?_
        refine lv_iushr (v := fc_iushr x3 8) hx hb dJ0_numberOfLeadingZeros_46 rfl ?_
        refine lv_istore_n (lv' := [(0, .int (fc_iushr x3 8)), (1, .int (x2 + (-8)))]) hx hb dJ0_numberOfLeadingZeros_47 rfl hl (by decide) rfl (fun ls hl => ?_)
        exact J8 (x2 + (-8), fc_iushr x3 8) ls ⟨lv_sub hl [1, 0] rfl, by simp only [if_neg c9] <;> first | assumption | contradiction, by simp only [if_neg c9] <;> first | assumption | contradiction⟩
    rintro ⟨x6, x7⟩ ls ⟨hl, ex6, ex7⟩
    try dsimp only at hl ex6 ex7 ⊢
    refine lv_iload_n hx hb dJ0_numberOfLeadingZeros_48 rfl (lv_at hl 1 rfl) ?_
    refine lv_bipush (v := 16) hx hb dJ0_numberOfLeadingZeros_49 (by decide) ?_
    refine fw_join (j := 61) (ι := Int32 × Int32) (LS := fun i ls => lv_has ls 2 [(1, .int i.1), (0, .int i.2)] ∧ i.1 = (if x7 < 16 then x6 else x6 + (-4)) ∧ i.2 = (if x7 < 16 then x7 else fc_iushr x7 4)) (ST := fun i => []) ?_ (fun J12 => ?_)
    rotate_left
    · refine lv_icmp_lt (tgt := 61) hx hb dJ0_numberOfLeadingZeros_51 (by decide) (fun c13 => ?_) (fun c13 => ?_)
      · exact J12 (x6, x7) ls ⟨lv_sub hl [0, 1] rfl, by simp only [if_pos c13] <;> first | assumption | contradiction, by simp only [if_pos c13] <;> first | assumption | contradiction⟩
      · refine lv_iinc (v := x6 + (-4)) (lv' := [(1, .int (x6 + (-4))), (0, .int x7)]) hx hb dJ0_numberOfLeadingZeros_54 hl (k := 0) rfl rfl (by decide) rfl (fun ls hl => ?_)
        refine lv_iload_n hx hb dJ0_numberOfLeadingZeros_57 rfl (lv_at hl 1 rfl) ?_
        refine lv_iconst (v := 4) hx hb dJ0_numberOfLeadingZeros_58 (by decide) ?_
        refine lv_iushr (v := fc_iushr x7 4) hx hb dJ0_numberOfLeadingZeros_59 rfl ?_
        refine lv_istore_n (lv' := [(0, .int (fc_iushr x7 4)), (1, .int (x6 + (-4)))]) hx hb dJ0_numberOfLeadingZeros_60 rfl hl (by decide) rfl (fun ls hl => ?_)
        exact J12 (x6 + (-4), fc_iushr x7 4) ls ⟨lv_sub hl [1, 0] rfl, by simp only [if_neg c13] <;> first | assumption | contradiction, by simp only [if_neg c13] <;> first | assumption | contradiction⟩
    rintro ⟨x10, x11⟩ ls ⟨hl, ex10, ex11⟩
    try dsimp only at hl ex10 ex11 ⊢
    refine lv_iload_n hx hb dJ0_numberOfLeadingZeros_61 rfl (lv_at hl 1 rfl) ?_
    refine lv_iconst (v := 4) hx hb dJ0_numberOfLeadingZeros_62 (by decide) ?_
    refine fw_join (j := 73) (ι := Int32 × Int32) (LS := fun i ls => lv_has ls 2 [(1, .int i.1), (0, .int i.2)] ∧ i.1 = (if x11 < 4 then x10 else x10 + (-2)) ∧ i.2 = (if x11 < 4 then x11 else fc_iushr x11 2)) (ST := fun i => []) ?_ (fun J16 => ?_)
    rotate_left
    · refine lv_icmp_lt (tgt := 73) hx hb dJ0_numberOfLeadingZeros_63 (by decide) (fun c17 => ?_) (fun c17 => ?_)
      · exact J16 (x10, x11) ls ⟨lv_sub hl [0, 1] rfl, by simp only [if_pos c17] <;> first | assumption | contradiction, by simp only [if_pos c17] <;> first | assumption | contradiction⟩
      · refine lv_iinc (v := x10 + (-2)) (lv' := [(1, .int (x10 + (-2))), (0, .int x11)]) hx hb dJ0_numberOfLeadingZeros_66 hl (k := 0) rfl rfl (by decide) rfl (fun ls hl => ?_)
        refine lv_iload_n hx hb dJ0_numberOfLeadingZeros_69 rfl (lv_at hl 1 rfl) ?_
        refine lv_iconst (v := 2) hx hb dJ0_numberOfLeadingZeros_70 (by decide) ?_
        refine lv_iushr (v := fc_iushr x11 2) hx hb dJ0_numberOfLeadingZeros_71 rfl ?_
        refine lv_istore_n (lv' := [(0, .int (fc_iushr x11 2)), (1, .int (x10 + (-2)))]) hx hb dJ0_numberOfLeadingZeros_72 rfl hl (by decide) rfl (fun ls hl => ?_)
        exact J16 (x10 + (-2), fc_iushr x11 2) ls ⟨lv_sub hl [1, 0] rfl, by simp only [if_neg c17] <;> first | assumption | contradiction, by simp only [if_neg c17] <;> first | assumption | contradiction⟩
    rintro ⟨x14, x15⟩ ls ⟨hl, ex14, ex15⟩
    try dsimp only at hl ex14 ex15 ⊢
    refine lv_iload_n hx hb dJ0_numberOfLeadingZeros_73 rfl (lv_at hl 0 rfl) ?_
    refine lv_iload_n hx hb dJ0_numberOfLeadingZeros_74 rfl (lv_at hl 1 rfl) ?_
    refine lv_iconst (v := 1) hx hb dJ0_numberOfLeadingZeros_75 (by decide) ?_
    refine lv_iushr (v := fc_iushr x15 1) hx hb dJ0_numberOfLeadingZeros_76 rfl ?_
    refine lv_isub hx hb dJ0_numberOfLeadingZeros_77 ?_
    exact W.iret (v := x14 - (fc_iushr x15 1)) hx hb hr (fun t ht hW => ⟨congrArg (fun z => Outcome.returned (some (Value.int z))) (show x14 - (fc_iushr x15 1) = fm_J0_numberOfLeadingZeros p0 from by subst ex15 ex14 ex11 ex10 ex7 ex6 ex3 ex2; first | (simp only [fm_J0_numberOfLeadingZeros, if_pos c1]; done) | contradiction), ht⟩) (fun q h => nomatch h) dJ0_numberOfLeadingZeros_78
  · refine lv_iload_n hx hb dJ0_numberOfLeadingZeros_4 rfl (lv_at hl 0 rfl) ?_
    refine lv_if_ne (tgt := 13) hx hb dJ0_numberOfLeadingZeros_5 (by decide) (fun c18 => ?_) (fun c18 => ?_)
    · refine lv_iconst (v := 0) hx hb dJ0_numberOfLeadingZeros_13 (by decide) ?_
      exact W.iret (v := 0) hx hb hr (fun t ht hW => ⟨congrArg (fun z => Outcome.returned (some (Value.int z))) (show 0 = fm_J0_numberOfLeadingZeros p0 from by first | (simp only [fm_J0_numberOfLeadingZeros, if_neg c1, if_neg c18]; done) | contradiction), ht⟩) (fun q h => nomatch h) dJ0_numberOfLeadingZeros_14
    · refine lv_bipush (v := 32) hx hb dJ0_numberOfLeadingZeros_8 (by decide) ?_
      refine lv_goto (tgt := 14) hx hb dJ0_numberOfLeadingZeros_10 (by decide) ?_
      exact W.iret (v := 32) hx hb hr (fun t ht hW => ⟨congrArg (fun z => Outcome.returned (some (Value.int z))) (show 32 = fm_J0_numberOfLeadingZeros p0 from by first | (simp only [fm_J0_numberOfLeadingZeros, if_neg c1, if_pos c18]; done) | contradiction), ht⟩) (fun q h => nomatch h) dJ0_numberOfLeadingZeros_14
theorem ndJ1_numberOfLeadingZeros : yJ1_numberOfLeadingZeros.cls ≠ "java/lang/invoke/MethodHandle" ∧ yJ1_numberOfLeadingZeros.cls ≠ "java/lang/invoke/VarHandle" ∧ (parseMethodDescriptor yJ1_numberOfLeadingZeros.desc).map (fun d => d.parameters.length) = some 1 := by decide +kernel
def fm_J1_numberOfLeadingZeros (p0 : Int64) : Int32 := let x1 := (fc_ushr p0 32).toInt32; if x1 = 0 then (32 + (fm_J0_numberOfLeadingZeros p0.toInt32)) else (fm_J0_numberOfLeadingZeros x1)
set_option maxHeartbeats 4000000 in
set_option maxRecDepth 100000 in
theorem k_J1_numberOfLeadingZeros (l : Launch) (p0 : Int64) : Met l yJ1_numberOfLeadingZeros wsJ1_numberOfLeadingZeros { frames := 1, cells := 0, slots := 0, locals := 21 } (fw_P [.long p0]) (fw_Q (.int (fm_J1_numberOfLeadingZeros p0))) 0 0 (fun _ => False) := by
  refine Met.ofW (cc := cJ1_numberOfLeadingZeros) (maxL := 3) (ret := (some .int)) (by decide) rfl ?_
  intro p e s m args below meth c s₁ B hml hv
  obtain ⟨rfl, -⟩ := hv
  have hx := B.exec
  have hb := B.bytes
  have hr := B.returns
  have hts := atoms_spec (ws := wsJ1_numberOfLeadingZeros) B.pre
  have htf : ∀ w ∈ fc_all, w.before _ s = true := fun w h => hts w (List.mem_cons_of_mem _ h)
  have hown : s.vm.findClass RJ1 = some m.cls := findClass_of_methodNamed B.named
  have hlocks := B.notSynchronized
  have hl := lv_entry ([.long p0]) (n := 3) (Nat.le_of_ble_eq_true rfl)
  rw [lg_entry_eq]
  generalize (lg_sl ([.long p0]) ++ List.replicate (3 - (lg_sl ([.long p0])).length) Slot.unset).toArray = ls at hl ⊢
  have hl : lv_has ls 3 [(0, .long p0)] := hl
  refine lv_lload_n hx hb dJ1_numberOfLeadingZeros_0 rfl (lv_at hl 0 rfl) ?_
  refine lv_bipush (v := 32) hx hb dJ1_numberOfLeadingZeros_1 (by decide) ?_
  refine lv_lushr (v := fc_ushr p0 32) hx hb dJ1_numberOfLeadingZeros_3 rfl ?_
  refine lv_l2i (v := (fc_ushr p0 32).toInt32) hx hb dJ1_numberOfLeadingZeros_4 rfl ?_
  refine lv_topi (fun x1 ex1 => ?_)
  refine lv_istore_n (lv' := [(2, .int x1), (0, .long p0)]) hx hb dJ1_numberOfLeadingZeros_5 rfl hl (by decide) rfl (fun ls hl => ?_)
  refine lv_iload_n hx hb dJ1_numberOfLeadingZeros_6 rfl (lv_at hl 0 rfl) ?_
  refine lv_if_ne (tgt := 21) hx hb dJ1_numberOfLeadingZeros_7 (by decide) (fun c2 => ?_) (fun c2 => ?_)
  · refine lv_iload_n hx hb dJ1_numberOfLeadingZeros_21 rfl (lv_at hl 0 rfl) ?_
    refine fw_call (va_runS (As := [.int x1]) (rest := []) ⟨hx, hb, hml, hown, htf⟩ (k_J0_numberOfLeadingZeros l x1) (va_cwS 1 htf (gd_S wk409 wk410 wk13 wk411) rfl rfl rfl ndJ0_numberOfLeadingZeros ⟨Nat.le_of_ble_eq_true rfl, Nat.le_of_ble_eq_true rfl⟩) fw_PS rfl rfl hl.1 rfl (lv_room (Nat.le_of_ble_eq_true rfl)) dJ1_numberOfLeadingZeros_22 ⟨Nat.le_refl _, Nat.le_refl _⟩) ?_
    exact W.iret (v := fm_J0_numberOfLeadingZeros x1) hx hb hr (fun t ht hW => ⟨congrArg (fun z => Outcome.returned (some (Value.int z))) (show fm_J0_numberOfLeadingZeros x1 = fm_J1_numberOfLeadingZeros p0 from by subst ex1; first | (simp only [fm_J1_numberOfLeadingZeros, if_neg c2]; done) | contradiction), ht⟩) (fun q h => nomatch h) dJ1_numberOfLeadingZeros_25
  · refine lv_bipush (v := 32) hx hb dJ1_numberOfLeadingZeros_10 (by decide) ?_
    refine lv_lload_n hx hb dJ1_numberOfLeadingZeros_12 rfl (lv_at hl 1 rfl) ?_
    refine lv_l2i (v := p0.toInt32) hx hb dJ1_numberOfLeadingZeros_13 rfl ?_
    refine fw_call (va_runS (As := [.int p0.toInt32]) (rest := [.int 32]) ⟨hx, hb, hml, hown, htf⟩ (k_J0_numberOfLeadingZeros l p0.toInt32) (va_cwS 1 htf (gd_S wk409 wk410 wk13 wk411) rfl rfl rfl ndJ0_numberOfLeadingZeros ⟨Nat.le_of_ble_eq_true rfl, Nat.le_of_ble_eq_true rfl⟩) fw_PS rfl rfl hl.1 rfl (lv_room (Nat.le_of_ble_eq_true rfl)) dJ1_numberOfLeadingZeros_14 ⟨Nat.le_refl _, Nat.le_refl _⟩) ?_
    refine lv_iadd hx hb dJ1_numberOfLeadingZeros_17 ?_
    refine lv_goto (tgt := 25) hx hb dJ1_numberOfLeadingZeros_18 (by decide) ?_
    exact W.iret (v := 32 + (fm_J0_numberOfLeadingZeros p0.toInt32)) hx hb hr (fun t ht hW => ⟨congrArg (fun z => Outcome.returned (some (Value.int z))) (show 32 + (fm_J0_numberOfLeadingZeros p0.toInt32) = fm_J1_numberOfLeadingZeros p0 from by subst ex1; first | (simp only [fm_J1_numberOfLeadingZeros, if_pos c2]; done) | contradiction), ht⟩) (fun q h => nomatch h) dJ1_numberOfLeadingZeros_25
theorem ndX6_in : yX6_in.cls ≠ "java/lang/invoke/MethodHandle" ∧ yX6_in.cls ≠ "java/lang/invoke/VarHandle" ∧ (parseMethodDescriptor yX6_in.desc).map (fun d => d.parameters.length) = some 3 := by decide +kernel
def fm_X6_in (p0 : Int32) (p1 : Int32) (p2 : Int32) : Bool := if p0 < p1 then (false) else (if p2 < p0 then (false) else (true))
set_option maxHeartbeats 4000000 in
set_option maxRecDepth 100000 in
theorem k_X6_in (l : Launch) (p0 : Int32) (p1 : Int32) (p2 : Int32) : Met l yX6_in wsX6_in { frames := 0, cells := 0, slots := 0, locals := 0 } (fw_P [.int p0, .int p1, .int p2]) (fw_Q (.int (jb (fm_X6_in p0 p1 p2)))) 0 0 (fun _ => False) := by
  refine Met.ofW (cc := cX6_in) (maxL := 3) (ret := (some .boolean)) (by decide) rfl ?_
  intro p e s m args below meth c s₁ B hml hv
  obtain ⟨rfl, -⟩ := hv
  have hx := B.exec
  have hb := B.bytes
  have hr := B.returns
  have hts := atoms_spec (ws := wsX6_in) B.pre
  have htf : ∀ w ∈ fc_all, w.before _ s = true := fun w h => hts w (List.mem_cons_of_mem _ h)
  have hown : s.vm.findClass RX6 = some m.cls := findClass_of_methodNamed B.named
  have hlocks := B.notSynchronized
  have hl := lv_entry ([.int p0, .int p1, .int p2]) (n := 3) (Nat.le_of_ble_eq_true rfl)
  rw [lg_entry_eq]
  generalize (lg_sl ([.int p0, .int p1, .int p2]) ++ List.replicate (3 - (lg_sl ([.int p0, .int p1, .int p2])).length) Slot.unset).toArray = ls at hl ⊢
  have hl : lv_has ls 3 [(0, .int p0), (1, .int p1), (2, .int p2)] := hl
  refine lv_iload_n hx hb dX6_in_0 rfl (lv_at hl 0 rfl) ?_
  refine lv_iload_n hx hb dX6_in_1 rfl (lv_at hl 1 rfl) ?_
  refine lv_icmp_lt (tgt := 14) hx hb dX6_in_2 (by decide) (fun c1 => ?_) (fun c1 => ?_)
  · refine lv_iconst (v := 0) hx hb dX6_in_14 (by decide) ?_
    exact W.zret (v := jb false) (ty := .boolean) hx hb hr (jb_n _) (fun t ht hW => ⟨congrArg (fun z => Outcome.returned (some (Value.int (jb z)))) (show false = fm_X6_in p0 p1 p2 from by first | (simp only [fm_X6_in, if_pos c1]; done) | contradiction), ht⟩) (fun q h => nomatch h) dX6_in_15
  · refine lv_iload_n hx hb dX6_in_5 rfl (lv_at hl 0 rfl) ?_
    refine lv_iload_n hx hb dX6_in_6 rfl (lv_at hl 2 rfl) ?_
    refine lv_icmp_gt (tgt := 14) hx hb dX6_in_7 (by decide) (fun c2 => ?_) (fun c2 => ?_)
    · refine lv_iconst (v := 0) hx hb dX6_in_14 (by decide) ?_
      exact W.zret (v := jb false) (ty := .boolean) hx hb hr (jb_n _) (fun t ht hW => ⟨congrArg (fun z => Outcome.returned (some (Value.int (jb z)))) (show false = fm_X6_in p0 p1 p2 from by first | (simp only [fm_X6_in, if_neg c1, if_pos c2]; done) | contradiction), ht⟩) (fun q h => nomatch h) dX6_in_15
    · refine lv_iconst (v := 1) hx hb dX6_in_10 (by decide) ?_
      refine lv_goto (tgt := 15) hx hb dX6_in_11 (by decide) ?_
      exact W.zret (v := jb true) (ty := .boolean) hx hb hr (jb_n _) (fun t ht hW => ⟨congrArg (fun z => Outcome.returned (some (Value.int (jb z)))) (show true = fm_X6_in p0 p1 p2 from by first | (simp only [fm_X6_in, if_neg c1, if_neg c2]; done) | contradiction), ht⟩) (fun q h => nomatch h) dX6_in_15
theorem ndX6_isFormat : yX6_isFormat.cls ≠ "java/lang/invoke/MethodHandle" ∧ yX6_isFormat.cls ≠ "java/lang/invoke/VarHandle" ∧ (parseMethodDescriptor yX6_isFormat.desc).map (fun d => d.parameters.length) = some 2 := by decide +kernel
def fm_X6_isFormat (p0 : Int32) (p1 : Int32) : Bool := if (jb (fm_X6_in p0 2 5)) = 0 then (false) else (if (jb (fm_X6_in p1 2 11)) = 0 then (false) else (true))
set_option maxHeartbeats 4000000 in
set_option maxRecDepth 100000 in
theorem k_X6_isFormat (l : Launch) (p0 : Int32) (p1 : Int32) : Met l yX6_isFormat wsX6_isFormat { frames := 1, cells := 0, slots := 0, locals := 22 } (fw_P [.int p0, .int p1]) (fw_Q (.int (jb (fm_X6_isFormat p0 p1)))) 0 0 (fun _ => False) := by
  refine Met.ofW (cc := cX6_isFormat) (maxL := 2) (ret := (some .boolean)) (by decide) rfl ?_
  intro p e s m args below meth c s₁ B hml hv
  obtain ⟨rfl, -⟩ := hv
  have hx := B.exec
  have hb := B.bytes
  have hr := B.returns
  have hts := atoms_spec (ws := wsX6_isFormat) B.pre
  have htf : ∀ w ∈ fc_all, w.before _ s = true := fun w h => hts w (List.mem_cons_of_mem _ h)
  have hown : s.vm.findClass RX6 = some m.cls := findClass_of_methodNamed B.named
  have hlocks := B.notSynchronized
  have hl := lv_entry ([.int p0, .int p1]) (n := 2) (Nat.le_of_ble_eq_true rfl)
  rw [lg_entry_eq]
  generalize (lg_sl ([.int p0, .int p1]) ++ List.replicate (2 - (lg_sl ([.int p0, .int p1])).length) Slot.unset).toArray = ls at hl ⊢
  have hl : lv_has ls 2 [(0, .int p0), (1, .int p1)] := hl
  refine lv_iload_n hx hb dX6_isFormat_0 rfl (lv_at hl 0 rfl) ?_
  refine lv_iconst (v := 2) hx hb dX6_isFormat_1 (by decide) ?_
  refine lv_iconst (v := 5) hx hb dX6_isFormat_2 (by decide) ?_
  refine fw_call (va_runS (As := [.int p0, .int 2, .int 5]) (rest := []) ⟨hx, hb, hml, hown, htf⟩ (k_X6_in l p0 2 5) (va_cwS 3 htf (gd_S wk369 wk370 wk3 wk371) rfl rfl rfl ndX6_in ⟨Nat.le_of_ble_eq_true rfl, Nat.le_of_ble_eq_true rfl⟩) fw_PS rfl rfl hl.1 rfl (lv_room (Nat.le_of_ble_eq_true rfl)) dX6_isFormat_3 ⟨Nat.le_refl _, Nat.le_refl _⟩) ?_
  refine lv_if_eq (tgt := 23) hx hb dX6_isFormat_6 (by decide) (fun c1 => ?_) (fun c1 => ?_)
  · refine lv_iconst (v := 0) hx hb dX6_isFormat_23 (by decide) ?_
    exact W.zret (v := jb false) (ty := .boolean) hx hb hr (jb_n _) (fun t ht hW => ⟨congrArg (fun z => Outcome.returned (some (Value.int (jb z)))) (show false = fm_X6_isFormat p0 p1 from by first | (simp only [fm_X6_isFormat, if_pos c1]; done) | contradiction), ht⟩) (fun q h => nomatch h) dX6_isFormat_24
  · refine lv_iload_n hx hb dX6_isFormat_9 rfl (lv_at hl 1 rfl) ?_
    refine lv_iconst (v := 2) hx hb dX6_isFormat_10 (by decide) ?_
    refine lv_bipush (v := 11) hx hb dX6_isFormat_11 (by decide) ?_
    refine fw_call (va_runS (As := [.int p1, .int 2, .int 11]) (rest := []) ⟨hx, hb, hml, hown, htf⟩ (k_X6_in l p1 2 11) (va_cwS 3 htf (gd_S wk369 wk370 wk3 wk371) rfl rfl rfl ndX6_in ⟨Nat.le_of_ble_eq_true rfl, Nat.le_of_ble_eq_true rfl⟩) fw_PS rfl rfl hl.1 rfl (lv_room (Nat.le_of_ble_eq_true rfl)) dX6_isFormat_13 ⟨Nat.le_refl _, Nat.le_refl _⟩) ?_
    refine lv_if_eq (tgt := 23) hx hb dX6_isFormat_16 (by decide) (fun c2 => ?_) (fun c2 => ?_)
    · refine lv_iconst (v := 0) hx hb dX6_isFormat_23 (by decide) ?_
      exact W.zret (v := jb false) (ty := .boolean) hx hb hr (jb_n _) (fun t ht hW => ⟨congrArg (fun z => Outcome.returned (some (Value.int (jb z)))) (show false = fm_X6_isFormat p0 p1 from by first | (simp only [fm_X6_isFormat, if_neg c1, if_pos c2]; done) | contradiction), ht⟩) (fun q h => nomatch h) dX6_isFormat_24
    · refine lv_iconst (v := 1) hx hb dX6_isFormat_19 (by decide) ?_
      refine lv_goto (tgt := 24) hx hb dX6_isFormat_20 (by decide) ?_
      exact W.zret (v := jb true) (ty := .boolean) hx hb hr (jb_n _) (fun t ht hW => ⟨congrArg (fun z => Outcome.returned (some (Value.int (jb z)))) (show true = fm_X6_isFormat p0 p1 from by first | (simp only [fm_X6_isFormat, if_neg c1, if_neg c2]; done) | contradiction), ht⟩) (fun q h => nomatch h) dX6_isFormat_24
theorem ndX6_exponent : yX6_exponent.cls ≠ "java/lang/invoke/MethodHandle" ∧ yX6_exponent.cls ≠ "java/lang/invoke/VarHandle" ∧ (parseMethodDescriptor yX6_exponent.desc).map (fun d => d.parameters.length) = some 1 := by decide +kernel
def fm_X6_exponent (p0 : Int32) : Int32 := (p0 - 1000) / 100
set_option maxHeartbeats 4000000 in
set_option maxRecDepth 100000 in
theorem k_X6_exponent (l : Launch) (p0 : Int32) : Met l yX6_exponent wsX6_exponent { frames := 0, cells := 0, slots := 0, locals := 0 } (fw_P [.int p0]) (fw_Q (.int (fm_X6_exponent p0))) 0 0 (fun _ => False) := by
  refine Met.ofW (cc := cX6_exponent) (maxL := 1) (ret := (some .int)) (by decide) rfl ?_
  intro p e s m args below meth c s₁ B hml hv
  obtain ⟨rfl, -⟩ := hv
  have hx := B.exec
  have hb := B.bytes
  have hr := B.returns
  have hts := atoms_spec (ws := wsX6_exponent) B.pre
  have htf : ∀ w ∈ fc_all, w.before _ s = true := fun w h => hts w (List.mem_cons_of_mem _ h)
  have hown : s.vm.findClass RX6 = some m.cls := findClass_of_methodNamed B.named
  have hlocks := B.notSynchronized
  have hl := lv_entry ([.int p0]) (n := 1) (Nat.le_of_ble_eq_true rfl)
  rw [lg_entry_eq]
  generalize (lg_sl ([.int p0]) ++ List.replicate (1 - (lg_sl ([.int p0])).length) Slot.unset).toArray = ls at hl ⊢
  have hl : lv_has ls 1 [(0, .int p0)] := hl
  refine lv_iload_n hx hb dX6_exponent_0 rfl (lv_at hl 0 rfl) ?_
  refine lv_sipush (v := 1000) hx hb dX6_exponent_1 (by decide) ?_
  refine lv_isub hx hb dX6_exponent_4 ?_
  refine lv_bipush (v := 100) hx hb dX6_exponent_5 (by decide) ?_
  refine lv_idiv hx hb dX6_exponent_7 (by decide) ?_
  exact W.iret (v := (p0 - 1000) / 100) hx hb hr (fun t ht hW => ⟨congrArg (fun z => Outcome.returned (some (Value.int z))) (show (p0 - 1000) / 100 = fm_X6_exponent p0 from by rfl), ht⟩) (fun q h => nomatch h) dX6_exponent_8
theorem ndX6_significand : yX6_significand.cls ≠ "java/lang/invoke/MethodHandle" ∧ yX6_significand.cls ≠ "java/lang/invoke/VarHandle" ∧ (parseMethodDescriptor yX6_significand.desc).map (fun d => d.parameters.length) = some 1 := by decide +kernel
def fm_X6_significand (p0 : Int32) : Int32 := (p0 - 1000) - (p0 - 1000) / 100 * 100
set_option maxHeartbeats 4000000 in
set_option maxRecDepth 100000 in
theorem k_X6_significand (l : Launch) (p0 : Int32) : Met l yX6_significand wsX6_significand { frames := 0, cells := 0, slots := 0, locals := 0 } (fw_P [.int p0]) (fw_Q (.int (fm_X6_significand p0))) 0 0 (fun _ => False) := by
  refine Met.ofW (cc := cX6_significand) (maxL := 1) (ret := (some .int)) (by decide) rfl ?_
  intro p e s m args below meth c s₁ B hml hv
  obtain ⟨rfl, -⟩ := hv
  have hx := B.exec
  have hb := B.bytes
  have hr := B.returns
  have hts := atoms_spec (ws := wsX6_significand) B.pre
  have htf : ∀ w ∈ fc_all, w.before _ s = true := fun w h => hts w (List.mem_cons_of_mem _ h)
  have hown : s.vm.findClass RX6 = some m.cls := findClass_of_methodNamed B.named
  have hlocks := B.notSynchronized
  have hl := lv_entry ([.int p0]) (n := 1) (Nat.le_of_ble_eq_true rfl)
  rw [lg_entry_eq]
  generalize (lg_sl ([.int p0]) ++ List.replicate (1 - (lg_sl ([.int p0])).length) Slot.unset).toArray = ls at hl ⊢
  have hl : lv_has ls 1 [(0, .int p0)] := hl
  refine lv_iload_n hx hb dX6_significand_0 rfl (lv_at hl 0 rfl) ?_
  refine lv_sipush (v := 1000) hx hb dX6_significand_1 (by decide) ?_
  refine lv_isub hx hb dX6_significand_4 ?_
  refine lv_bipush (v := 100) hx hb dX6_significand_5 (by decide) ?_
  refine lv_irem hx hb dX6_significand_7 (by decide) ?_
  exact W.iret (v := (p0 - 1000) - (p0 - 1000) / 100 * 100) hx hb hr (fun t ht hW => ⟨congrArg (fun z => Outcome.returned (some (Value.int z))) (show (p0 - 1000) - (p0 - 1000) / 100 * 100 = fm_X6_significand p0 from by rfl), ht⟩) (fun q h => nomatch h) dX6_significand_8
theorem ndX6_width : yX6_width.cls ≠ "java/lang/invoke/MethodHandle" ∧ yX6_width.cls ≠ "java/lang/invoke/VarHandle" ∧ (parseMethodDescriptor yX6_width.desc).map (fun d => d.parameters.length) = some 1 := by decide +kernel
def fm_X6_width (p0 : Int32) : Int32 := (fm_X6_exponent p0) + (fm_X6_significand p0)
set_option maxHeartbeats 4000000 in
set_option maxRecDepth 100000 in
theorem k_X6_width (l : Launch) (p0 : Int32) : Met l yX6_width wsX6_width { frames := 1, cells := 0, slots := 0, locals := 20 } (fw_P [.int p0]) (fw_Q (.int (fm_X6_width p0))) 0 0 (fun _ => False) := by
  refine Met.ofW (cc := cX6_width) (maxL := 1) (ret := (some .int)) (by decide) rfl ?_
  intro p e s m args below meth c s₁ B hml hv
  obtain ⟨rfl, -⟩ := hv
  have hx := B.exec
  have hb := B.bytes
  have hr := B.returns
  have hts := atoms_spec (ws := wsX6_width) B.pre
  have htf : ∀ w ∈ fc_all, w.before _ s = true := fun w h => hts w (List.mem_cons_of_mem _ h)
  have hown : s.vm.findClass RX6 = some m.cls := findClass_of_methodNamed B.named
  have hlocks := B.notSynchronized
  have hl := lv_entry ([.int p0]) (n := 1) (Nat.le_of_ble_eq_true rfl)
  rw [lg_entry_eq]
  generalize (lg_sl ([.int p0]) ++ List.replicate (1 - (lg_sl ([.int p0])).length) Slot.unset).toArray = ls at hl ⊢
  have hl : lv_has ls 1 [(0, .int p0)] := hl
  refine lv_iload_n hx hb dX6_width_0 rfl (lv_at hl 0 rfl) ?_
  refine fw_call (va_runS (As := [.int p0]) (rest := []) ⟨hx, hb, hml, hown, htf⟩ (k_X6_exponent l p0) (va_cwS 1 htf (gd_S wk385 wk386 wk3 wk387) rfl rfl rfl ndX6_exponent ⟨Nat.le_of_ble_eq_true rfl, Nat.le_of_ble_eq_true rfl⟩) fw_PS rfl rfl hl.1 rfl (lv_room (Nat.le_of_ble_eq_true rfl)) dX6_width_1 ⟨Nat.le_refl _, Nat.le_refl _⟩) ?_
  refine lv_iload_n hx hb dX6_width_4 rfl (lv_at hl 0 rfl) ?_
  refine fw_call (va_runS (As := [.int p0]) (rest := [.int (fm_X6_exponent p0)]) ⟨hx, hb, hml, hown, htf⟩ (k_X6_significand l p0) (va_cwS 1 htf (gd_S wk388 wk389 wk3 wk390) rfl rfl rfl ndX6_significand ⟨Nat.le_of_ble_eq_true rfl, Nat.le_of_ble_eq_true rfl⟩) fw_PS rfl rfl hl.1 rfl (lv_room (Nat.le_of_ble_eq_true rfl)) dX6_width_5 ⟨Nat.le_refl _, Nat.le_refl _⟩) ?_
  refine lv_iadd hx hb dX6_width_8 ?_
  exact W.iret (v := (fm_X6_exponent p0) + (fm_X6_significand p0)) hx hb hr (fun t ht hW => ⟨congrArg (fun z => Outcome.returned (some (Value.int z))) (show (fm_X6_exponent p0) + (fm_X6_significand p0) = fm_X6_width p0 from by rfl), ht⟩) (fun q h => nomatch h) dX6_width_9
theorem ndX6_mask : yX6_mask.cls ≠ "java/lang/invoke/MethodHandle" ∧ yX6_mask.cls ≠ "java/lang/invoke/VarHandle" ∧ (parseMethodDescriptor yX6_mask.desc).map (fun d => d.parameters.length) = some 1 := by decide +kernel
def fm_X6_mask (p0 : Int32) : Int64 := (fc_shl 1 p0) - 1
set_option maxHeartbeats 4000000 in
set_option maxRecDepth 100000 in
theorem k_X6_mask (l : Launch) (p0 : Int32) : Met l yX6_mask wsX6_mask { frames := 0, cells := 0, slots := 0, locals := 0 } (fw_P [.int p0]) (fw_Q (.long (fm_X6_mask p0))) 0 0 (fun _ => False) := by
  refine Met.ofW (cc := cX6_mask) (maxL := 1) (ret := (some .long)) (by decide) rfl ?_
  intro p e s m args below meth c s₁ B hml hv
  obtain ⟨rfl, -⟩ := hv
  have hx := B.exec
  have hb := B.bytes
  have hr := B.returns
  have hts := atoms_spec (ws := wsX6_mask) B.pre
  have htf : ∀ w ∈ fc_all, w.before _ s = true := fun w h => hts w (List.mem_cons_of_mem _ h)
  have hown : s.vm.findClass RX6 = some m.cls := findClass_of_methodNamed B.named
  have hlocks := B.notSynchronized
  have hl := lv_entry ([.int p0]) (n := 1) (Nat.le_of_ble_eq_true rfl)
  rw [lg_entry_eq]
  generalize (lg_sl ([.int p0]) ++ List.replicate (1 - (lg_sl ([.int p0])).length) Slot.unset).toArray = ls at hl ⊢
  have hl : lv_has ls 1 [(0, .int p0)] := hl
  refine lv_lconst (v := 1) hx hb dX6_mask_0 (by decide) ?_
  refine lv_iload_n hx hb dX6_mask_1 rfl (lv_at hl 0 rfl) ?_
  refine lv_lshl (v := fc_shl 1 p0) hx hb dX6_mask_2 rfl ?_
  refine lv_lconst (v := 1) hx hb dX6_mask_3 (by decide) ?_
  refine lv_lsub hx hb dX6_mask_4 ?_
  exact W.lret (v := (fc_shl 1 p0) - 1) hx hb hr (fun t ht hW => ⟨congrArg (fun z => Outcome.returned (some (Value.long z))) (show (fc_shl 1 p0) - 1 = fm_X6_mask p0 from by rfl), ht⟩) (fun q h => nomatch h) dX6_mask_5
theorem ndX6_signed : yX6_signed.cls ≠ "java/lang/invoke/MethodHandle" ∧ yX6_signed.cls ≠ "java/lang/invoke/VarHandle" ∧ (parseMethodDescriptor yX6_signed.desc).map (fun d => d.parameters.length) = some 2 := by decide +kernel
def fm_X6_signed (p0 : Int64) (p1 : Int32) : Int64 := fc_shr (fc_shl p0 (64 - p1)) (64 - p1)
set_option maxHeartbeats 4000000 in
set_option maxRecDepth 100000 in
theorem k_X6_signed (l : Launch) (p0 : Int64) (p1 : Int32) : Met l yX6_signed wsX6_signed { frames := 0, cells := 0, slots := 0, locals := 0 } (fw_P [.long p0, .int p1]) (fw_Q (.long (fm_X6_signed p0 p1))) 0 0 (fun _ => False) := by
  refine Met.ofW (cc := cX6_signed) (maxL := 3) (ret := (some .long)) (by decide) rfl ?_
  intro p e s m args below meth c s₁ B hml hv
  obtain ⟨rfl, -⟩ := hv
  have hx := B.exec
  have hb := B.bytes
  have hr := B.returns
  have hts := atoms_spec (ws := wsX6_signed) B.pre
  have htf : ∀ w ∈ fc_all, w.before _ s = true := fun w h => hts w (List.mem_cons_of_mem _ h)
  have hown : s.vm.findClass RX6 = some m.cls := findClass_of_methodNamed B.named
  have hlocks := B.notSynchronized
  have hl := lv_entry ([.long p0, .int p1]) (n := 3) (Nat.le_of_ble_eq_true rfl)
  rw [lg_entry_eq]
  generalize (lg_sl ([.long p0, .int p1]) ++ List.replicate (3 - (lg_sl ([.long p0, .int p1])).length) Slot.unset).toArray = ls at hl ⊢
  have hl : lv_has ls 3 [(0, .long p0), (2, .int p1)] := hl
  refine lv_lload_n hx hb dX6_signed_0 rfl (lv_at hl 0 rfl) ?_
  refine lv_bipush (v := 64) hx hb dX6_signed_1 (by decide) ?_
  refine lv_iload_n hx hb dX6_signed_3 rfl (lv_at hl 1 rfl) ?_
  refine lv_isub hx hb dX6_signed_4 ?_
  refine lv_lshl (v := fc_shl p0 (64 - p1)) hx hb dX6_signed_5 rfl ?_
  refine lv_bipush (v := 64) hx hb dX6_signed_6 (by decide) ?_
  refine lv_iload_n hx hb dX6_signed_8 rfl (lv_at hl 1 rfl) ?_
  refine lv_isub hx hb dX6_signed_9 ?_
  refine lv_lshr (v := fc_shr (fc_shl p0 (64 - p1)) (64 - p1)) hx hb dX6_signed_10 rfl ?_
  exact W.lret (v := fc_shr (fc_shl p0 (64 - p1)) (64 - p1)) hx hb hr (fun t ht hW => ⟨congrArg (fun z => Outcome.returned (some (Value.long z))) (show fc_shr (fc_shl p0 (64 - p1)) (64 - p1) = fm_X6_signed p0 p1 from by rfl), ht⟩) (fun q h => nomatch h) dX6_signed_11
theorem ndX6_nan : yX6_nan.cls ≠ "java/lang/invoke/MethodHandle" ∧ yX6_nan.cls ≠ "java/lang/invoke/VarHandle" ∧ (parseMethodDescriptor yX6_nan.desc).map (fun d => d.parameters.length) = some 2 := by decide +kernel
def fm_X6_nan (p0 : Int32) (p1 : Int32) : Int64 := (fc_shl (fm_X6_mask p0) (p1 - 1)) ||| (fc_shl 1 (p1 - 2))
set_option maxHeartbeats 4000000 in
set_option maxRecDepth 100000 in
theorem k_X6_nan (l : Launch) (p0 : Int32) (p1 : Int32) : Met l yX6_nan wsX6_nan { frames := 1, cells := 0, slots := 0, locals := 20 } (fw_P [.int p0, .int p1]) (fw_Q (.long (fm_X6_nan p0 p1))) 0 0 (fun _ => False) := by
  refine Met.ofW (cc := cX6_nan) (maxL := 2) (ret := (some .long)) (by decide) rfl ?_
  intro p e s m args below meth c s₁ B hml hv
  obtain ⟨rfl, -⟩ := hv
  have hx := B.exec
  have hb := B.bytes
  have hr := B.returns
  have hts := atoms_spec (ws := wsX6_nan) B.pre
  have htf : ∀ w ∈ fc_all, w.before _ s = true := fun w h => hts w (List.mem_cons_of_mem _ h)
  have hown : s.vm.findClass RX6 = some m.cls := findClass_of_methodNamed B.named
  have hlocks := B.notSynchronized
  have hl := lv_entry ([.int p0, .int p1]) (n := 2) (Nat.le_of_ble_eq_true rfl)
  rw [lg_entry_eq]
  generalize (lg_sl ([.int p0, .int p1]) ++ List.replicate (2 - (lg_sl ([.int p0, .int p1])).length) Slot.unset).toArray = ls at hl ⊢
  have hl : lv_has ls 2 [(0, .int p0), (1, .int p1)] := hl
  refine lv_iload_n hx hb dX6_nan_0 rfl (lv_at hl 0 rfl) ?_
  refine fw_call (va_runS (As := [.int p0]) (rest := []) ⟨hx, hb, hml, hown, htf⟩ (k_X6_mask l p0) (va_cwS 1 htf (gd_S wk391 wk392 wk3 wk393) rfl rfl rfl ndX6_mask ⟨Nat.le_of_ble_eq_true rfl, Nat.le_of_ble_eq_true rfl⟩) fw_PS rfl rfl hl.1 rfl (lv_room (Nat.le_of_ble_eq_true rfl)) dX6_nan_1 ⟨Nat.le_refl _, Nat.le_refl _⟩) ?_
  refine lv_iload_n hx hb dX6_nan_4 rfl (lv_at hl 1 rfl) ?_
  refine lv_iconst (v := 1) hx hb dX6_nan_5 (by decide) ?_
  refine lv_isub hx hb dX6_nan_6 ?_
  refine lv_lshl (v := fc_shl (fm_X6_mask p0) (p1 - 1)) hx hb dX6_nan_7 rfl ?_
  refine lv_lconst (v := 1) hx hb dX6_nan_8 (by decide) ?_
  refine lv_iload_n hx hb dX6_nan_9 rfl (lv_at hl 1 rfl) ?_
  refine lv_iconst (v := 2) hx hb dX6_nan_10 (by decide) ?_
  refine lv_isub hx hb dX6_nan_11 ?_
  refine lv_lshl (v := fc_shl 1 (p1 - 2)) hx hb dX6_nan_12 rfl ?_
  refine lv_lor hx hb dX6_nan_13 ?_
  exact W.lret (v := (fc_shl (fm_X6_mask p0) (p1 - 1)) ||| (fc_shl 1 (p1 - 2))) hx hb hr (fun t ht hW => ⟨congrArg (fun z => Outcome.returned (some (Value.long z))) (show (fc_shl (fm_X6_mask p0) (p1 - 1)) ||| (fc_shl 1 (p1 - 2)) = fm_X6_nan p0 p1 from by rfl), ht⟩) (fun q h => nomatch h) dX6_nan_14
theorem ndX6_away : yX6_away.cls ≠ "java/lang/invoke/MethodHandle" ∧ yX6_away.cls ≠ "java/lang/invoke/VarHandle" ∧ (parseMethodDescriptor yX6_away.desc).map (fun d => d.parameters.length) = some 5 := by decide +kernel
def fm_X6_away (p0 : Int32) (p1 : Bool) (p2 : Bool) (p3 : Bool) (p4 : Int32) : Bool := if p0 = 0 then (if 0 < p4 then (true) else (if p4 = 0 then (if (jb p2) = 0 then (false) else (true)) else (false))) else (if p0 = 1 then (if p4 < 0 then (false) else (true)) else (if p0 = 2 then (if (jb p3) = 0 then (false) else (if (jb p1) = 0 then (true) else (false))) else (if p0 = 3 then (if (jb p3) = 0 then (false) else (if (jb p1) = 0 then (false) else (true))) else (false))))
set_option maxHeartbeats 4000000 in
set_option maxRecDepth 100000 in
theorem k_X6_away (l : Launch) (p0 : Int32) (p1 : Bool) (p2 : Bool) (p3 : Bool) (p4 : Int32) : Met l yX6_away wsX6_away { frames := 0, cells := 0, slots := 0, locals := 0 } (fw_P [.int p0, .int (jb p1), .int (jb p2), .int (jb p3), .int p4]) (fw_Q (.int (jb (fm_X6_away p0 p1 p2 p3 p4)))) 0 0 (fun _ => False) := by
  refine Met.ofW (cc := cX6_away) (maxL := 5) (ret := (some .boolean)) (by decide) rfl ?_
  intro p e s m args below meth c s₁ B hml hv
  obtain ⟨rfl, -⟩ := hv
  have hx := B.exec
  have hb := B.bytes
  have hr := B.returns
  have hts := atoms_spec (ws := wsX6_away) B.pre
  have htf : ∀ w ∈ fc_all, w.before _ s = true := fun w h => hts w (List.mem_cons_of_mem _ h)
  have hown : s.vm.findClass RX6 = some m.cls := findClass_of_methodNamed B.named
  have hlocks := B.notSynchronized
  have hl := lv_entry ([.int p0, .int (jb p1), .int (jb p2), .int (jb p3), .int p4]) (n := 5) (Nat.le_of_ble_eq_true rfl)
  rw [lg_entry_eq]
  generalize (lg_sl ([.int p0, .int (jb p1), .int (jb p2), .int (jb p3), .int p4]) ++ List.replicate (5 - (lg_sl ([.int p0, .int (jb p1), .int (jb p2), .int (jb p3), .int p4])).length) Slot.unset).toArray = ls at hl ⊢
  have hl : lv_has ls 5 [(0, .int p0), (1, .int (jb p1)), (2, .int (jb p2)), (3, .int (jb p3)), (4, .int p4)] := hl
  refine lv_iload_n hx hb dX6_away_0 rfl (lv_at hl 0 rfl) ?_
  by_cases c1 : p0 = 0
  · refine lv_tableIn (tgt := 32) hx hb dX6_away_1 (by rw [c1]; decide) (by rw [c1]; decide) (by rw [c1]; rfl) (by decide) ?_
    refine lv_iload hx hb dX6_away_32 (lv_at hl 4 rfl) ?_
    refine lv_if_gt (tgt := 46) hx hb dX6_away_34 (by decide) (fun c2 => ?_) (fun c2 => ?_)
    · refine lv_iconst (v := 1) hx hb dX6_away_46 (by decide) ?_
      refine lv_goto (tgt := 51) hx hb dX6_away_47 (by decide) ?_
      exact W.zret (v := jb true) (ty := .boolean) hx hb hr (jb_n _) (fun t ht hW => ⟨congrArg (fun z => Outcome.returned (some (Value.int (jb z)))) (show true = fm_X6_away p0 p1 p2 p3 p4 from by first | (simp only [fm_X6_away, if_pos c1, if_pos c2]; done) | contradiction), ht⟩) (fun q h => nomatch h) dX6_away_51
    · refine lv_iload hx hb dX6_away_37 (lv_at hl 4 rfl) ?_
      refine lv_if_ne (tgt := 50) hx hb dX6_away_39 (by decide) (fun c3 => ?_) (fun c3 => ?_)
      · refine lv_iconst (v := 0) hx hb dX6_away_50 (by decide) ?_
        exact W.zret (v := jb false) (ty := .boolean) hx hb hr (jb_n _) (fun t ht hW => ⟨congrArg (fun z => Outcome.returned (some (Value.int (jb z)))) (show false = fm_X6_away p0 p1 p2 p3 p4 from by first | (simp only [fm_X6_away, if_pos c1, if_neg c2, if_neg c3]; done) | contradiction), ht⟩) (fun q h => nomatch h) dX6_away_51
      · refine lv_iload_n hx hb dX6_away_42 rfl (lv_at hl 2 rfl) ?_
        refine lv_if_eq (tgt := 50) hx hb dX6_away_43 (by decide) (fun c4 => ?_) (fun c4 => ?_)
        · refine lv_iconst (v := 0) hx hb dX6_away_50 (by decide) ?_
          exact W.zret (v := jb false) (ty := .boolean) hx hb hr (jb_n _) (fun t ht hW => ⟨congrArg (fun z => Outcome.returned (some (Value.int (jb z)))) (show false = fm_X6_away p0 p1 p2 p3 p4 from by first | (simp only [fm_X6_away, if_pos c1, if_neg c2, if_pos c3, if_pos c4]; done) | contradiction), ht⟩) (fun q h => nomatch h) dX6_away_51
        · refine lv_iconst (v := 1) hx hb dX6_away_46 (by decide) ?_
          refine lv_goto (tgt := 51) hx hb dX6_away_47 (by decide) ?_
          exact W.zret (v := jb true) (ty := .boolean) hx hb hr (jb_n _) (fun t ht hW => ⟨congrArg (fun z => Outcome.returned (some (Value.int (jb z)))) (show true = fm_X6_away p0 p1 p2 p3 p4 from by first | (simp only [fm_X6_away, if_pos c1, if_neg c2, if_pos c3, if_neg c4]; done) | contradiction), ht⟩) (fun q h => nomatch h) dX6_away_51
  by_cases c5 : p0 = 1
  · refine lv_tableIn (tgt := 52) hx hb dX6_away_1 (by rw [c5]; decide) (by rw [c5]; decide) (by rw [c5]; rfl) (by decide) ?_
    refine lv_iload hx hb dX6_away_52 (lv_at hl 4 rfl) ?_
    refine lv_if_lt (tgt := 61) hx hb dX6_away_54 (by decide) (fun c6 => ?_) (fun c6 => ?_)
    · refine lv_iconst (v := 0) hx hb dX6_away_61 (by decide) ?_
      exact W.zret (v := jb false) (ty := .boolean) hx hb hr (jb_n _) (fun t ht hW => ⟨congrArg (fun z => Outcome.returned (some (Value.int (jb z)))) (show false = fm_X6_away p0 p1 p2 p3 p4 from by first | (simp only [fm_X6_away, if_neg c1, if_pos c5, if_pos c6]; done) | contradiction), ht⟩) (fun q h => nomatch h) dX6_away_62
    · refine lv_iconst (v := 1) hx hb dX6_away_57 (by decide) ?_
      refine lv_goto (tgt := 62) hx hb dX6_away_58 (by decide) ?_
      exact W.zret (v := jb true) (ty := .boolean) hx hb hr (jb_n _) (fun t ht hW => ⟨congrArg (fun z => Outcome.returned (some (Value.int (jb z)))) (show true = fm_X6_away p0 p1 p2 p3 p4 from by first | (simp only [fm_X6_away, if_neg c1, if_pos c5, if_neg c6]; done) | contradiction), ht⟩) (fun q h => nomatch h) dX6_away_62
  by_cases c7 : p0 = 2
  · refine lv_tableIn (tgt := 63) hx hb dX6_away_1 (by rw [c7]; decide) (by rw [c7]; decide) (by rw [c7]; rfl) (by decide) ?_
    refine lv_iload_n hx hb dX6_away_63 rfl (lv_at hl 3 rfl) ?_
    refine lv_if_eq (tgt := 75) hx hb dX6_away_64 (by decide) (fun c8 => ?_) (fun c8 => ?_)
    · refine lv_iconst (v := 0) hx hb dX6_away_75 (by decide) ?_
      exact W.zret (v := jb false) (ty := .boolean) hx hb hr (jb_n _) (fun t ht hW => ⟨congrArg (fun z => Outcome.returned (some (Value.int (jb z)))) (show false = fm_X6_away p0 p1 p2 p3 p4 from by first | (simp only [fm_X6_away, if_neg c1, if_neg c5, if_pos c7, if_pos c8]; done) | contradiction), ht⟩) (fun q h => nomatch h) dX6_away_76
    · refine lv_iload_n hx hb dX6_away_67 rfl (lv_at hl 1 rfl) ?_
      refine lv_if_ne (tgt := 75) hx hb dX6_away_68 (by decide) (fun c9 => ?_) (fun c9 => ?_)
      · refine lv_iconst (v := 0) hx hb dX6_away_75 (by decide) ?_
        exact W.zret (v := jb false) (ty := .boolean) hx hb hr (jb_n _) (fun t ht hW => ⟨congrArg (fun z => Outcome.returned (some (Value.int (jb z)))) (show false = fm_X6_away p0 p1 p2 p3 p4 from by first | (simp only [fm_X6_away, if_neg c1, if_neg c5, if_pos c7, if_neg c8, if_neg c9]; done) | contradiction), ht⟩) (fun q h => nomatch h) dX6_away_76
      · refine lv_iconst (v := 1) hx hb dX6_away_71 (by decide) ?_
        refine lv_goto (tgt := 76) hx hb dX6_away_72 (by decide) ?_
        exact W.zret (v := jb true) (ty := .boolean) hx hb hr (jb_n _) (fun t ht hW => ⟨congrArg (fun z => Outcome.returned (some (Value.int (jb z)))) (show true = fm_X6_away p0 p1 p2 p3 p4 from by first | (simp only [fm_X6_away, if_neg c1, if_neg c5, if_pos c7, if_neg c8, if_pos c9]; done) | contradiction), ht⟩) (fun q h => nomatch h) dX6_away_76
  by_cases c10 : p0 = 3
  · refine lv_tableIn (tgt := 77) hx hb dX6_away_1 (by rw [c10]; decide) (by rw [c10]; decide) (by rw [c10]; rfl) (by decide) ?_
    refine lv_iload_n hx hb dX6_away_77 rfl (lv_at hl 3 rfl) ?_
    refine lv_if_eq (tgt := 89) hx hb dX6_away_78 (by decide) (fun c11 => ?_) (fun c11 => ?_)
    · refine lv_iconst (v := 0) hx hb dX6_away_89 (by decide) ?_
      exact W.zret (v := jb false) (ty := .boolean) hx hb hr (jb_n _) (fun t ht hW => ⟨congrArg (fun z => Outcome.returned (some (Value.int (jb z)))) (show false = fm_X6_away p0 p1 p2 p3 p4 from by first | (simp only [fm_X6_away, if_neg c1, if_neg c5, if_neg c7, if_pos c10, if_pos c11]; done) | contradiction), ht⟩) (fun q h => nomatch h) dX6_away_90
    · refine lv_iload_n hx hb dX6_away_81 rfl (lv_at hl 1 rfl) ?_
      refine lv_if_eq (tgt := 89) hx hb dX6_away_82 (by decide) (fun c12 => ?_) (fun c12 => ?_)
      · refine lv_iconst (v := 0) hx hb dX6_away_89 (by decide) ?_
        exact W.zret (v := jb false) (ty := .boolean) hx hb hr (jb_n _) (fun t ht hW => ⟨congrArg (fun z => Outcome.returned (some (Value.int (jb z)))) (show false = fm_X6_away p0 p1 p2 p3 p4 from by first | (simp only [fm_X6_away, if_neg c1, if_neg c5, if_neg c7, if_pos c10, if_neg c11, if_pos c12]; done) | contradiction), ht⟩) (fun q h => nomatch h) dX6_away_90
      · refine lv_iconst (v := 1) hx hb dX6_away_85 (by decide) ?_
        refine lv_goto (tgt := 90) hx hb dX6_away_86 (by decide) ?_
        exact W.zret (v := jb true) (ty := .boolean) hx hb hr (jb_n _) (fun t ht hW => ⟨congrArg (fun z => Outcome.returned (some (Value.int (jb z)))) (show true = fm_X6_away p0 p1 p2 p3 p4 from by first | (simp only [fm_X6_away, if_neg c1, if_neg c5, if_neg c7, if_pos c10, if_neg c11, if_neg c12]; done) | contradiction), ht⟩) (fun q h => nomatch h) dX6_away_90
  refine lv_tableOut (tgt := 91) hx hb dX6_away_1 (fw_out (by have q0 := fw_ne c1 (v := 0) rfl; have q1 := fw_ne c5 (v := 1) rfl; have q2 := fw_ne c7 (v := 2) rfl; have q3 := fw_ne c10 (v := 3) rfl; omega)) (by decide) ?_
  refine lv_iconst (v := 0) hx hb dX6_away_91 (by decide) ?_
  exact W.zret (v := jb false) (ty := .boolean) hx hb hr (jb_n _) (fun t ht hW => ⟨congrArg (fun z => Outcome.returned (some (Value.int (jb z)))) (show false = fm_X6_away p0 p1 p2 p3 p4 from by first | (simp only [fm_X6_away, if_neg c1, if_neg c5, if_neg c7, if_neg c10]; done) | contradiction), ht⟩) (fun q h => nomatch h) dX6_away_92
theorem ndX6_cut : yX6_cut.cls ≠ "java/lang/invoke/MethodHandle" ∧ yX6_cut.cls ≠ "java/lang/invoke/VarHandle" ∧ (parseMethodDescriptor yX6_cut.desc).map (fun d => d.parameters.length) = some 5 := by decide +kernel
def fm_X6_cut (p0 : Int64) (p1 : Int32) (p2 : Bool) (p3 : Int32) (p4 : Bool) : Int64 := if 0 < p1 then (let x2 := if p1 ≤ 62 then (fc_ushr p0 p1) else 0; let x5 := if p1 ≤ 62 then (p0 &&& (fm_X6_mask p1)) else p0; let x8 := if p1 ≤ 62 then (if (lg_cmp x5 (fc_shl 1 (p1 - 1))) = 0 then (if (jb p2) = 0 then 0 else 1) else (if (lg_cmp x5 (fc_shl 1 (p1 - 1))) ≤ 0 then (-1) else 1)) else (if (lg_cmp p0 0) = 0 then (if (jb p2) = 0 then (-2) else (-1)) else (-1)); let x16 := if (lg_cmp x5 0) = 0 then (if (jb p2) = 0 then false else true) else true; let x20 := if (lg_cmp (x2 &&& 1) 1) = 0 then true else false; let x23 := if (jb x16) = 0 then (-2) else x8; if (jb (fm_X6_away p3 p4 x20 x16 x23)) = 0 then (x2) else (x2 + 1)) else (fc_shl p0 (-p1))
set_option maxHeartbeats 4000000 in
set_option maxRecDepth 100000 in
theorem k_X6_cut (l : Launch) (p0 : Int64) (p1 : Int32) (p2 : Bool) (p3 : Int32) (p4 : Bool) : Met l yX6_cut wsX6_cut { frames := 1, cells := 0, slots := 0, locals := 24 } (fw_P [.long p0, .int p1, .int (jb p2), .int p3, .int (jb p4)]) (fw_Q (.long (fm_X6_cut p0 p1 p2 p3 p4))) 0 0 (fun _ => False) := by
  refine Met.ofW (cc := cX6_cut) (maxL := 12) (ret := (some .long)) (by decide) rfl ?_
  intro p e s m args below meth c s₁ B hml hv
  obtain ⟨rfl, -⟩ := hv
  have hx := B.exec
  have hb := B.bytes
  have hr := B.returns
  have hts := atoms_spec (ws := wsX6_cut) B.pre
  have htf : ∀ w ∈ fc_all, w.before _ s = true := fun w h => hts w (List.mem_cons_of_mem _ h)
  have hown : s.vm.findClass RX6 = some m.cls := findClass_of_methodNamed B.named
  have hlocks := B.notSynchronized
  have hl := lv_entry ([.long p0, .int p1, .int (jb p2), .int p3, .int (jb p4)]) (n := 12) (Nat.le_of_ble_eq_true rfl)
  rw [lg_entry_eq]
  generalize (lg_sl ([.long p0, .int p1, .int (jb p2), .int p3, .int (jb p4)]) ++ List.replicate (12 - (lg_sl ([.long p0, .int p1, .int (jb p2), .int p3, .int (jb p4)])).length) Slot.unset).toArray = ls at hl ⊢
  have hl : lv_has ls 12 [(0, .long p0), (2, .int p1), (3, .int (jb p2)), (4, .int p3), (5, .int (jb p4))] := hl
  refine lv_iload_n hx hb dX6_cut_0 rfl (lv_at hl 1 rfl) ?_
  refine lv_if_gt (tgt := 9) hx hb dX6_cut_1 (by decide) (fun c1 => ?_) (fun c1 => ?_)
  · refine lv_iload_n hx hb dX6_cut_9 rfl (lv_at hl 1 rfl) ?_
    refine lv_bipush (v := 62) hx hb dX6_cut_10 (by decide) ?_
    refine fw_join (j := 22) (ι := Int64) (LS := fun i ls => lv_has ls 12 [(0, .long p0), (2, .int p1), (3, .int (jb p2)), (4, .int p3), (5, .int (jb p4))] ∧ i = (if p1 ≤ 62 then (fc_ushr p0 p1) else 0)) (ST := fun i => [.long i]) ?_ (fun J3 => ?_)
    rotate_left
    · refine lv_icmp_le (tgt := 19) hx hb dX6_cut_12 (by decide) (fun c4 => ?_) (fun c4 => ?_)
      · refine lv_lload_n hx hb dX6_cut_19 rfl (lv_at hl 0 rfl) ?_
        refine lv_iload_n hx hb dX6_cut_20 rfl (lv_at hl 1 rfl) ?_
        refine lv_lushr (v := fc_ushr p0 p1) hx hb dX6_cut_21 rfl ?_
        exact J3 (fc_ushr p0 p1) ls ⟨lv_sub hl [0, 1, 2, 3, 4] rfl, by simp only [if_pos c4] <;> first | assumption | contradiction⟩
      · refine lv_lconst (v := 0) hx hb dX6_cut_15 (by decide) ?_
        refine lv_goto (tgt := 22) hx hb dX6_cut_16 (by decide) ?_
        exact J3 0 ls ⟨lv_sub hl [0, 1, 2, 3, 4] rfl, by simp only [if_neg c4] <;> first | assumption | contradiction⟩
    rintro x2 ls ⟨hl, ex2⟩
    try dsimp only at hl ex2 ⊢
    refine lv_lstore (lv' := [(6, .long x2), (0, .long p0), (2, .int p1), (3, .int (jb p2)), (4, .int p3), (5, .int (jb p4))]) hx hb dX6_cut_22 hl (by decide) rfl (fun ls hl => ?_)
    refine lv_iload_n hx hb dX6_cut_24 rfl (lv_at hl 2 rfl) ?_
    refine lv_bipush (v := 62) hx hb dX6_cut_25 (by decide) ?_
    refine fw_join (j := 40) (ι := Int64) (LS := fun i ls => lv_has ls 12 [(6, .long x2), (0, .long p0), (2, .int p1), (3, .int (jb p2)), (4, .int p3), (5, .int (jb p4))] ∧ i = (if p1 ≤ 62 then (p0 &&& (fm_X6_mask p1)) else p0)) (ST := fun i => [.long i]) ?_ (fun J6 => ?_)
    rotate_left
    · refine lv_icmp_le (tgt := 34) hx hb dX6_cut_27 (by decide) (fun c7 => ?_) (fun c7 => ?_)
      · refine lv_lload_n hx hb dX6_cut_34 rfl (lv_at hl 1 rfl) ?_
        refine lv_iload_n hx hb dX6_cut_35 rfl (lv_at hl 2 rfl) ?_
        refine fw_call (va_runS (As := [.int p1]) (rest := [.long p0]) ⟨hx, hb, hml, hown, htf⟩ (k_X6_mask l p1) (va_cwS 1 htf (gd_S wk391 wk392 wk3 wk393) rfl rfl rfl ndX6_mask ⟨Nat.le_of_ble_eq_true rfl, Nat.le_of_ble_eq_true rfl⟩) fw_PS rfl rfl hl.1 rfl (lv_room (Nat.le_of_ble_eq_true rfl)) dX6_cut_36 ⟨Nat.le_refl _, Nat.le_refl _⟩) ?_
        refine lv_land hx hb dX6_cut_39 ?_
        exact J6 (p0 &&& (fm_X6_mask p1)) ls ⟨lv_sub hl [0, 1, 2, 3, 4, 5] rfl, by simp only [if_pos c7] <;> first | assumption | contradiction⟩
      · refine lv_lload_n hx hb dX6_cut_30 rfl (lv_at hl 1 rfl) ?_
        refine lv_goto (tgt := 40) hx hb dX6_cut_31 (by decide) ?_
        exact J6 p0 ls ⟨lv_sub hl [0, 1, 2, 3, 4, 5] rfl, by simp only [if_neg c7] <;> first | assumption | contradiction⟩
    rintro x5 ls ⟨hl, ex5⟩
    try dsimp only at hl ex5 ⊢
    refine lv_lstore (lv' := [(8, .long x5), (6, .long x2), (0, .long p0), (2, .int p1), (3, .int (jb p2)), (4, .int p3), (5, .int (jb p4))]) hx hb dX6_cut_40 hl (by decide) rfl (fun ls hl => ?_)
    refine lv_iload_n hx hb dX6_cut_42 rfl (lv_at hl 3 rfl) ?_
    refine lv_bipush (v := 62) hx hb dX6_cut_43 (by decide) ?_
    refine fw_join (j := 106) (ι := Int32) (LS := fun i ls => lv_has ls 12 [(8, .long x5), (6, .long x2), (0, .long p0), (2, .int p1), (3, .int (jb p2)), (4, .int p3), (5, .int (jb p4))] ∧ i = (if p1 ≤ 62 then (if (lg_cmp x5 (fc_shl 1 (p1 - 1))) = 0 then (if (jb p2) = 0 then 0 else 1) else (if (lg_cmp x5 (fc_shl 1 (p1 - 1))) ≤ 0 then (-1) else 1)) else (if (lg_cmp p0 0) = 0 then (if (jb p2) = 0 then (-2) else (-1)) else (-1)))) (ST := fun i => [.int i]) ?_ (fun J9 => ?_)
    rotate_left
    · refine lv_icmp_le (tgt := 67) hx hb dX6_cut_45 (by decide) (fun c10 => ?_) (fun c10 => ?_)
      · refine lv_lload hx hb dX6_cut_67 (lv_at hl 0 rfl) ?_
        refine lv_lconst (v := 1) hx hb dX6_cut_69 (by decide) ?_
        refine lv_iload_n hx hb dX6_cut_70 rfl (lv_at hl 3 rfl) ?_
        refine lv_iconst (v := 1) hx hb dX6_cut_71 (by decide) ?_
        refine lv_isub hx hb dX6_cut_72 ?_
        refine lv_lshl (v := fc_shl 1 (p1 - 1)) hx hb dX6_cut_73 rfl ?_
        refine W.lcmp hx hb dX6_cut_74 ?_
        refine lv_if_ne (tgt := 90) hx hb dX6_cut_75 (by decide) (fun c11 => ?_) (fun c11 => ?_)
        · refine lv_lload hx hb dX6_cut_90 (lv_at hl 0 rfl) ?_
          refine lv_lconst (v := 1) hx hb dX6_cut_92 (by decide) ?_
          refine lv_iload_n hx hb dX6_cut_93 rfl (lv_at hl 3 rfl) ?_
          refine lv_iconst (v := 1) hx hb dX6_cut_94 (by decide) ?_
          refine lv_isub hx hb dX6_cut_95 ?_
          refine lv_lshl (v := fc_shl 1 (p1 - 1)) hx hb dX6_cut_96 rfl ?_
          refine W.lcmp hx hb dX6_cut_97 ?_
          refine lv_if_le (tgt := 105) hx hb dX6_cut_98 (by decide) (fun c12 => ?_) (fun c12 => ?_)
          · refine lv_iconst (v := (-1)) hx hb dX6_cut_105 (by decide) ?_
            exact J9 (-1) ls ⟨lv_sub hl [0, 1, 2, 3, 4, 5, 6] rfl, by simp only [if_pos c10, if_neg c11, if_pos c12] <;> first | assumption | contradiction⟩
          · refine lv_iconst (v := 1) hx hb dX6_cut_101 (by decide) ?_
            refine lv_goto (tgt := 106) hx hb dX6_cut_102 (by decide) ?_
            exact J9 1 ls ⟨lv_sub hl [0, 1, 2, 3, 4, 5, 6] rfl, by simp only [if_pos c10, if_neg c11, if_neg c12] <;> first | assumption | contradiction⟩
        · refine lv_iload_n hx hb dX6_cut_78 rfl (lv_at hl 4 rfl) ?_
          refine lv_if_eq (tgt := 86) hx hb dX6_cut_79 (by decide) (fun c13 => ?_) (fun c13 => ?_)
          · refine lv_iconst (v := 0) hx hb dX6_cut_86 (by decide) ?_
            refine lv_goto (tgt := 106) hx hb dX6_cut_87 (by decide) ?_
            exact J9 0 ls ⟨lv_sub hl [0, 1, 2, 3, 4, 5, 6] rfl, by simp only [if_pos c10, if_pos c11, if_pos c13] <;> first | assumption | contradiction⟩
          · refine lv_iconst (v := 1) hx hb dX6_cut_82 (by decide) ?_
            refine lv_goto (tgt := 106) hx hb dX6_cut_83 (by decide) ?_
            exact J9 1 ls ⟨lv_sub hl [0, 1, 2, 3, 4, 5, 6] rfl, by simp only [if_pos c10, if_pos c11, if_neg c13] <;> first | assumption | contradiction⟩
      · refine lv_lload_n hx hb dX6_cut_48 rfl (lv_at hl 2 rfl) ?_
        refine lv_lconst (v := 0) hx hb dX6_cut_49 (by decide) ?_
        refine W.lcmp hx hb dX6_cut_50 ?_
        refine lv_if_ne (tgt := 63) hx hb dX6_cut_51 (by decide) (fun c14 => ?_) (fun c14 => ?_)
        · refine lv_iconst (v := (-1)) hx hb dX6_cut_63 (by decide) ?_
          refine lv_goto (tgt := 106) hx hb dX6_cut_64 (by decide) ?_
          exact J9 (-1) ls ⟨lv_sub hl [0, 1, 2, 3, 4, 5, 6] rfl, by simp only [if_neg c10, if_neg c14] <;> first | assumption | contradiction⟩
        · refine lv_iload_n hx hb dX6_cut_54 rfl (lv_at hl 4 rfl) ?_
          refine lv_if_ne (tgt := 63) hx hb dX6_cut_55 (by decide) (fun c15 => ?_) (fun c15 => ?_)
          · refine lv_iconst (v := (-1)) hx hb dX6_cut_63 (by decide) ?_
            refine lv_goto (tgt := 106) hx hb dX6_cut_64 (by decide) ?_
            exact J9 (-1) ls ⟨lv_sub hl [0, 1, 2, 3, 4, 5, 6] rfl, by simp only [if_neg c10, if_pos c14, if_neg c15] <;> first | assumption | contradiction⟩
          · refine lv_bipush (v := (-2)) hx hb dX6_cut_58 (by decide) ?_
            refine lv_goto (tgt := 106) hx hb dX6_cut_60 (by decide) ?_
            exact J9 (-2) ls ⟨lv_sub hl [0, 1, 2, 3, 4, 5, 6] rfl, by simp only [if_neg c10, if_pos c14, if_pos c15] <;> first | assumption | contradiction⟩
    rintro x8 ls ⟨hl, ex8⟩
    try dsimp only at hl ex8 ⊢
    refine lv_istore (lv' := [(10, .int x8), (8, .long x5), (6, .long x2), (0, .long p0), (2, .int p1), (3, .int (jb p2)), (4, .int p3), (5, .int (jb p4))]) hx hb dX6_cut_106 hl (by decide) rfl (fun ls hl => ?_)
    refine lv_lload hx hb dX6_cut_108 (lv_at hl 1 rfl) ?_
    refine lv_lconst (v := 0) hx hb dX6_cut_110 (by decide) ?_
    refine W.lcmp hx hb dX6_cut_111 ?_
    refine fw_join (j := 124) (ι := Bool) (LS := fun i ls => lv_has ls 12 [(10, .int x8), (8, .long x5), (6, .long x2), (0, .long p0), (2, .int p1), (3, .int (jb p2)), (4, .int p3), (5, .int (jb p4))] ∧ i = (if (lg_cmp x5 0) = 0 then (if (jb p2) = 0 then false else true) else true)) (ST := fun i => [.int (jb i)]) ?_ (fun J17 => ?_)
    rotate_left
    · refine lv_if_ne (tgt := 119) hx hb dX6_cut_112 (by decide) (fun c18 => ?_) (fun c18 => ?_)
      · refine lv_iconst (v := 1) hx hb dX6_cut_119 (by decide) ?_
        refine lv_goto (tgt := 124) hx hb dX6_cut_120 (by decide) ?_
        exact J17 true ls ⟨lv_sub hl [0, 1, 2, 3, 4, 5, 6, 7] rfl, by simp only [if_neg c18] <;> first | assumption | contradiction⟩
      · refine lv_iload_n hx hb dX6_cut_115 rfl (lv_at hl 5 rfl) ?_
        refine lv_if_eq (tgt := 123) hx hb dX6_cut_116 (by decide) (fun c19 => ?_) (fun c19 => ?_)
        · refine lv_iconst (v := 0) hx hb dX6_cut_123 (by decide) ?_
          exact J17 false ls ⟨lv_sub hl [0, 1, 2, 3, 4, 5, 6, 7] rfl, by simp only [if_pos c18, if_pos c19] <;> first | assumption | contradiction⟩
        · refine lv_iconst (v := 1) hx hb dX6_cut_119 (by decide) ?_
          refine lv_goto (tgt := 124) hx hb dX6_cut_120 (by decide) ?_
          exact J17 true ls ⟨lv_sub hl [0, 1, 2, 3, 4, 5, 6, 7] rfl, by simp only [if_pos c18, if_neg c19] <;> first | assumption | contradiction⟩
    rintro x16 ls ⟨hl, ex16⟩
    try dsimp only at hl ex16 ⊢
    refine lv_istore (lv' := [(11, .int (jb x16)), (10, .int x8), (8, .long x5), (6, .long x2), (0, .long p0), (2, .int p1), (3, .int (jb p2)), (4, .int p3), (5, .int (jb p4))]) hx hb dX6_cut_124 hl (by decide) rfl (fun ls hl => ?_)
    refine lv_iload hx hb dX6_cut_126 (lv_at hl 7 rfl) ?_
    refine lv_iload hx hb dX6_cut_128 (lv_at hl 8 rfl) ?_
    refine lv_lload hx hb dX6_cut_130 (lv_at hl 3 rfl) ?_
    refine lv_lconst (v := 1) hx hb dX6_cut_132 (by decide) ?_
    refine lv_land hx hb dX6_cut_133 ?_
    refine lv_lconst (v := 1) hx hb dX6_cut_134 (by decide) ?_
    refine W.lcmp hx hb dX6_cut_135 ?_
    refine fw_join (j := 144) (ι := Bool) (LS := fun i ls => lv_has ls 12 [(11, .int (jb x16)), (10, .int x8), (8, .long x5), (6, .long x2), (0, .long p0), (2, .int p1), (3, .int (jb p2)), (4, .int p3), (5, .int (jb p4))] ∧ i = (if (lg_cmp (x2 &&& 1) 1) = 0 then true else false)) (ST := fun i => [.int (jb i), .int (jb p4), .int p3]) ?_ (fun J21 => ?_)
    rotate_left
    · refine lv_if_ne (tgt := 143) hx hb dX6_cut_136 (by decide) (fun c22 => ?_) (fun c22 => ?_)
      · refine lv_iconst (v := 0) hx hb dX6_cut_143 (by decide) ?_
        exact J21 false ls ⟨lv_sub hl [0, 1, 2, 3, 4, 5, 6, 7, 8] rfl, by simp only [if_neg c22] <;> first | assumption | contradiction⟩
      · refine lv_iconst (v := 1) hx hb dX6_cut_139 (by decide) ?_
        refine lv_goto (tgt := 144) hx hb dX6_cut_140 (by decide) ?_
        exact J21 true ls ⟨lv_sub hl [0, 1, 2, 3, 4, 5, 6, 7, 8] rfl, by simp only [if_pos c22] <;> first | assumption | contradiction⟩
    rintro x20 ls ⟨hl, ex20⟩
    try dsimp only at hl ex20 ⊢
    refine lv_iload hx hb dX6_cut_144 (lv_at hl 0 rfl) ?_
    refine lv_iload hx hb dX6_cut_146 (lv_at hl 0 rfl) ?_
    refine fw_join (j := 158) (ι := Int32) (LS := fun i ls => lv_has ls 12 [(11, .int (jb x16)), (10, .int x8), (8, .long x5), (6, .long x2), (0, .long p0), (2, .int p1), (3, .int (jb p2)), (4, .int p3), (5, .int (jb p4))] ∧ i = (if (jb x16) = 0 then (-2) else x8)) (ST := fun i => [.int i, .int (jb x16), .int (jb x20), .int (jb p4), .int p3]) ?_ (fun J24 => ?_)
    rotate_left
    · refine lv_if_eq (tgt := 156) hx hb dX6_cut_148 (by decide) (fun c25 => ?_) (fun c25 => ?_)
      · refine lv_bipush (v := (-2)) hx hb dX6_cut_156 (by decide) ?_
        exact J24 (-2) ls ⟨lv_sub hl [0, 1, 2, 3, 4, 5, 6, 7, 8] rfl, by simp only [if_pos c25] <;> first | assumption | contradiction⟩
      · refine lv_iload hx hb dX6_cut_151 (lv_at hl 1 rfl) ?_
        refine lv_goto (tgt := 158) hx hb dX6_cut_153 (by decide) ?_
        exact J24 x8 ls ⟨lv_sub hl [0, 1, 2, 3, 4, 5, 6, 7, 8] rfl, by simp only [if_neg c25] <;> first | assumption | contradiction⟩
    rintro x23 ls ⟨hl, ex23⟩
    try dsimp only at hl ex23 ⊢
    refine fw_call (va_runS (As := [.int p3, .int (jb p4), .int (jb x20), .int (jb x16), .int x23]) (rest := []) ⟨hx, hb, hml, hown, htf⟩ (k_X6_away l p3 p4 x20 x16 x23) (va_cwS 5 htf (gd_S wk416 wk417 wk3 wk418) rfl rfl rfl ndX6_away ⟨Nat.le_of_ble_eq_true rfl, Nat.le_of_ble_eq_true rfl⟩) fw_PS rfl rfl hl.1 rfl (lv_room (Nat.le_of_ble_eq_true rfl)) dX6_cut_158 ⟨Nat.le_refl _, Nat.le_refl _⟩) ?_
    refine lv_if_eq (tgt := 171) hx hb dX6_cut_161 (by decide) (fun c26 => ?_) (fun c26 => ?_)
    · refine lv_lload hx hb dX6_cut_171 (lv_at hl 3 rfl) ?_
      exact W.lret (v := x2) hx hb hr (fun t ht hW => ⟨congrArg (fun z => Outcome.returned (some (Value.long z))) (show x2 = fm_X6_cut p0 p1 p2 p3 p4 from by subst ex23 ex20 ex16 ex8 ex5 ex2; first | (simp only [fm_X6_cut, if_pos c1, if_pos c26]; done) | contradiction), ht⟩) (fun q h => nomatch h) dX6_cut_173
    · refine lv_lload hx hb dX6_cut_164 (lv_at hl 3 rfl) ?_
      refine lv_lconst (v := 1) hx hb dX6_cut_166 (by decide) ?_
      refine lv_ladd hx hb dX6_cut_167 ?_
      refine lv_goto (tgt := 173) hx hb dX6_cut_168 (by decide) ?_
      exact W.lret (v := x2 + 1) hx hb hr (fun t ht hW => ⟨congrArg (fun z => Outcome.returned (some (Value.long z))) (show x2 + 1 = fm_X6_cut p0 p1 p2 p3 p4 from by subst ex23 ex20 ex16 ex8 ex5 ex2; first | (simp only [fm_X6_cut, if_pos c1, if_neg c26]; done) | contradiction), ht⟩) (fun q h => nomatch h) dX6_cut_173
  · refine lv_lload_n hx hb dX6_cut_4 rfl (lv_at hl 0 rfl) ?_
    refine lv_iload_n hx hb dX6_cut_5 rfl (lv_at hl 1 rfl) ?_
    refine lv_ineg hx hb dX6_cut_6 ?_
    refine lv_lshl (v := fc_shl p0 (-p1)) hx hb dX6_cut_7 rfl ?_
    exact W.lret (v := fc_shl p0 (-p1)) hx hb hr (fun t ht hW => ⟨congrArg (fun z => Outcome.returned (some (Value.long z))) (show fc_shl p0 (-p1) = fm_X6_cut p0 p1 p2 p3 p4 from by first | (simp only [fm_X6_cut, if_neg c1]; done) | contradiction), ht⟩) (fun q h => nomatch h) dX6_cut_8
theorem ndX6_round : yX6_round.cls ≠ "java/lang/invoke/MethodHandle" ∧ yX6_round.cls ≠ "java/lang/invoke/VarHandle" ∧ (parseMethodDescriptor yX6_round.desc).map (fun d => d.parameters.length) = some 6 := by decide +kernel
def fm_X6_round_229 (p0 : Int32) (p1 : Bool) (p2 : Int64) (p3 : Int32) (p4 : Bool) (p5 : Int32) (x1 : Int32) (x2 : Int32) (x3 : Int32) (x4 : Int64) (x11 : Int32) (x12 : Int32) (x13 : Int32) (x16 : Int64) (x17 : Int32) (x18 : Int64) : Int64 := if 0 ≤ (lg_cmp x18 (fc_shl 1 x2)) then ((x4 ||| (fc_shl (((x17 + x2) + x3).toInt64) x2)) ||| (x18 &&& (fm_X6_mask x2))) else (x4 ||| x18)
def fm_X6_round_57 (p0 : Int32) (p1 : Bool) (p2 : Int64) (p3 : Int32) (p4 : Bool) (p5 : Int32) (x1 : Int32) (x2 : Int32) (x3 : Int32) (x4 : Int64) : Int64 := let x11 := 64 - (fm_J1_numberOfLeadingZeros p2); let x12 := (1 - x3) - x2; let x13 := if (((p3 + x11) - 1) - x2) ≤ x12 then x12 else ((p3 + x11) - 1) - x2; let x16 := fm_X6_cut p2 (x13 - p3) p4 p0 p1; let x17 := if (lg_cmp x16 (fc_shl 1 (x2 + 1))) = 0 then (x13 + 1) else x13; let x18 := if (lg_cmp x16 (fc_shl 1 (x2 + 1))) = 0 then (fc_shr x16 1) else x16; if (lg_cmp x18 (fc_shl 1 x2)) < 0 then (fm_X6_round_229 p0 p1 p2 p3 p4 p5 x1 x2 x3 x4 x11 x12 x13 x16 x17 x18) else (if (x17 + x2) ≤ x3 then (fm_X6_round_229 p0 p1 p2 p3 p4 p5 x1 x2 x3 x4 x11 x12 x13 x16 x17 x18) else (let x25 := if p0 < 2 then true else (if p0 = 2 then (if (jb p1) = 0 then true else (if p0 = 3 then (if (jb p1) = 0 then false else true) else false)) else (if p0 = 3 then (if (jb p1) = 0 then false else true) else false)); let x34 := if (jb x25) = 0 then ((fc_shl ((fm_X6_mask x1) - 1) x2) ||| (fm_X6_mask x2)) else fc_shl (fm_X6_mask x1) x2; x4 ||| x34))
def fm_X6_round (p0 : Int32) (p1 : Bool) (p2 : Int64) (p3 : Int32) (p4 : Bool) (p5 : Int32) : Int64 := let x1 := fm_X6_exponent p5; let x2 := (fm_X6_significand p5) - 1; let x3 := (fc_ishl 1 (x1 - 1)) - 1; let x4 := if (jb p1) = 0 then 0 else fc_shl 1 (x1 + x2); if (lg_cmp p2 0) = 0 then (if (jb p4) = 0 then (x4) else (fm_X6_round_57 p0 p1 p2 p3 p4 p5 x1 x2 x3 x4)) else (fm_X6_round_57 p0 p1 p2 p3 p4 p5 x1 x2 x3 x4)
set_option maxHeartbeats 4000000 in
set_option maxRecDepth 100000 in
theorem k_X6_round (l : Launch) (p0 : Int32) (p1 : Bool) (p2 : Int64) (p3 : Int32) (p4 : Bool) (p5 : Int32) : Met l yX6_round wsX6_round { frames := 2, cells := 0, slots := 0, locals := 55 } (fw_P [.int p0, .int (jb p1), .long p2, .int p3, .int (jb p4), .int p5]) (fw_Q (.long (fm_X6_round p0 p1 p2 p3 p4 p5))) 0 0 (fun _ => False) := by
  refine Met.ofW (cc := cX6_round) (maxL := 18) (ret := (some .long)) (by decide) rfl ?_
  intro p e s m args below meth c s₁ B hml hv
  obtain ⟨rfl, -⟩ := hv
  have hx := B.exec
  have hb := B.bytes
  have hr := B.returns
  have hts := atoms_spec (ws := wsX6_round) B.pre
  have htf : ∀ w ∈ fc_all, w.before _ s = true := fun w h => hts w (List.mem_cons_of_mem _ h)
  have hown : s.vm.findClass RX6 = some m.cls := findClass_of_methodNamed B.named
  have hlocks := B.notSynchronized
  have hl := lv_entry ([.int p0, .int (jb p1), .long p2, .int p3, .int (jb p4), .int p5]) (n := 18) (Nat.le_of_ble_eq_true rfl)
  rw [lg_entry_eq]
  generalize (lg_sl ([.int p0, .int (jb p1), .long p2, .int p3, .int (jb p4), .int p5]) ++ List.replicate (18 - (lg_sl ([.int p0, .int (jb p1), .long p2, .int p3, .int (jb p4), .int p5])).length) Slot.unset).toArray = ls at hl ⊢
  have hl : lv_has ls 18 [(0, .int p0), (1, .int (jb p1)), (2, .long p2), (4, .int p3), (5, .int (jb p4)), (6, .int p5)] := hl
  refine lv_iload hx hb dX6_round_0 (lv_at hl 5 rfl) ?_
  refine fw_call (va_runS (As := [.int p5]) (rest := []) ⟨hx, hb, hml, hown, htf⟩ (k_X6_exponent l p5) (va_cwS 1 htf (gd_S wk385 wk386 wk3 wk387) rfl rfl rfl ndX6_exponent ⟨Nat.le_of_ble_eq_true rfl, Nat.le_of_ble_eq_true rfl⟩) fw_PS rfl rfl hl.1 rfl (lv_room (Nat.le_of_ble_eq_true rfl)) dX6_round_2 ⟨Nat.le_refl _, Nat.le_refl _⟩) ?_
  refine lv_topi (fun x1 ex1 => ?_)
  refine lv_istore (lv' := [(7, .int x1), (0, .int p0), (1, .int (jb p1)), (2, .long p2), (4, .int p3), (5, .int (jb p4)), (6, .int p5)]) hx hb dX6_round_5 hl (by decide) rfl (fun ls hl => ?_)
  refine lv_iload hx hb dX6_round_7 (lv_at hl 6 rfl) ?_
  refine fw_call (va_runS (As := [.int p5]) (rest := []) ⟨hx, hb, hml, hown, htf⟩ (k_X6_significand l p5) (va_cwS 1 htf (gd_S wk388 wk389 wk3 wk390) rfl rfl rfl ndX6_significand ⟨Nat.le_of_ble_eq_true rfl, Nat.le_of_ble_eq_true rfl⟩) fw_PS rfl rfl hl.1 rfl (lv_room (Nat.le_of_ble_eq_true rfl)) dX6_round_9 ⟨Nat.le_refl _, Nat.le_refl _⟩) ?_
  refine lv_iconst (v := 1) hx hb dX6_round_12 (by decide) ?_
  refine lv_isub hx hb dX6_round_13 ?_
  refine lv_topi (fun x2 ex2 => ?_)
  refine lv_istore (lv' := [(8, .int x2), (7, .int x1), (0, .int p0), (1, .int (jb p1)), (2, .long p2), (4, .int p3), (5, .int (jb p4)), (6, .int p5)]) hx hb dX6_round_14 hl (by decide) rfl (fun ls hl => ?_)
  refine lv_iconst (v := 1) hx hb dX6_round_16 (by decide) ?_
  refine lv_iload hx hb dX6_round_17 (lv_at hl 1 rfl) ?_
  refine lv_iconst (v := 1) hx hb dX6_round_19 (by decide) ?_
  refine lv_isub hx hb dX6_round_20 ?_
  refine lv_ishl hx hb dX6_round_21 ?_
  refine fw_topi (x := fc_ishl 1 (x1 - 1)) ?_
  refine lv_iconst (v := 1) hx hb dX6_round_22 (by decide) ?_
  refine lv_isub hx hb dX6_round_23 ?_
  refine lv_topi (fun x3 ex3 => ?_)
  refine lv_istore (lv' := [(9, .int x3), (8, .int x2), (7, .int x1), (0, .int p0), (1, .int (jb p1)), (2, .long p2), (4, .int p3), (5, .int (jb p4)), (6, .int p5)]) hx hb dX6_round_24 hl (by decide) rfl (fun ls hl => ?_)
  refine lv_iload_n hx hb dX6_round_26 rfl (lv_at hl 4 rfl) ?_
  refine fw_join (j := 41) (ι := Int64) (LS := fun i ls => lv_has ls 18 [(9, .int x3), (8, .int x2), (7, .int x1), (0, .int p0), (1, .int (jb p1)), (2, .long p2), (4, .int p3), (5, .int (jb p4)), (6, .int p5)] ∧ i = (if (jb p1) = 0 then 0 else fc_shl 1 (x1 + x2))) (ST := fun i => [.long i]) ?_ (fun J5 => ?_)
  rotate_left
  · refine lv_if_eq (tgt := 40) hx hb dX6_round_27 (by decide) (fun c6 => ?_) (fun c6 => ?_)
    · refine lv_lconst (v := 0) hx hb dX6_round_40 (by decide) ?_
      exact J5 0 ls ⟨lv_sub hl [0, 1, 2, 3, 4, 5, 6, 7, 8] rfl, by simp only [if_pos c6] <;> first | assumption | contradiction⟩
    · refine lv_lconst (v := 1) hx hb dX6_round_30 (by decide) ?_
      refine lv_iload hx hb dX6_round_31 (lv_at hl 2 rfl) ?_
      refine lv_iload hx hb dX6_round_33 (lv_at hl 1 rfl) ?_
      refine lv_iadd hx hb dX6_round_35 ?_
      refine lv_lshl (v := fc_shl 1 (x1 + x2)) hx hb dX6_round_36 rfl ?_
      refine lv_goto (tgt := 41) hx hb dX6_round_37 (by decide) ?_
      exact J5 (fc_shl 1 (x1 + x2)) ls ⟨lv_sub hl [0, 1, 2, 3, 4, 5, 6, 7, 8] rfl, by simp only [if_neg c6] <;> first | assumption | contradiction⟩
  rintro x4 ls ⟨hl, ex4⟩
  try dsimp only at hl ex4 ⊢
  refine lv_lstore (lv' := [(10, .long x4), (9, .int x3), (8, .int x2), (7, .int x1), (0, .int p0), (1, .int (jb p1)), (2, .long p2), (4, .int p3), (5, .int (jb p4)), (6, .int p5)]) hx hb dX6_round_41 hl (by decide) rfl (fun ls hl => ?_)
  refine lv_lload_n hx hb dX6_round_43 rfl (lv_at hl 6 rfl) ?_
  refine lv_lconst (v := 0) hx hb dX6_round_44 (by decide) ?_
  refine W.lcmp hx hb dX6_round_45 ?_
  refine fw_join (j := 57) (ι := Unit) (LS := fun _ ls => lv_has ls 18 [(10, .long x4), (9, .int x3), (8, .int x2), (7, .int x1), (0, .int p0), (1, .int (jb p1)), (2, .long p2), (4, .int p3), (5, .int (jb p4)), (6, .int p5)] ∧ fm_X6_round p0 p1 p2 p3 p4 p5 = fm_X6_round_57 p0 p1 p2 p3 p4 p5 x1 x2 x3 x4) (ST := fun _ => []) ?_ (fun J8 => ?_)
  rotate_left
  · refine lv_if_ne (tgt := 57) hx hb dX6_round_46 (by decide) (fun c9 => ?_) (fun c9 => ?_)
    · exact J8 () ls ⟨lv_sub hl [0, 1, 2, 3, 4, 5, 6, 7, 8, 9] rfl, by subst ex4 ex3 ex2 ex1; first | (simp only [fm_X6_round, if_neg c9]; done) | contradiction⟩
    · refine lv_iload hx hb dX6_round_49 (lv_at hl 8 rfl) ?_
      refine lv_if_ne (tgt := 57) hx hb dX6_round_51 (by decide) (fun c10 => ?_) (fun c10 => ?_)
      · exact J8 () ls ⟨lv_sub hl [0, 1, 2, 3, 4, 5, 6, 7, 8, 9] rfl, by subst ex4 ex3 ex2 ex1; first | (simp only [fm_X6_round, if_pos c9, if_neg c10]; done) | contradiction⟩
      · refine lv_lload hx hb dX6_round_54 (lv_at hl 0 rfl) ?_
        exact W.lret (v := x4) hx hb hr (fun t ht hW => ⟨congrArg (fun z => Outcome.returned (some (Value.long z))) (show x4 = fm_X6_round p0 p1 p2 p3 p4 p5 from by subst ex4 ex3 ex2 ex1; first | (simp only [fm_X6_round, if_pos c9, if_pos c10]; done) | contradiction), ht⟩) (fun q h => nomatch h) dX6_round_56
  rintro _ ls ⟨hl, hT7⟩
  refine lv_bipush (v := 64) hx hb dX6_round_57 (by decide) ?_
  refine lv_lload_n hx hb dX6_round_59 rfl (lv_at hl 6 rfl) ?_
  refine fw_call (va_runS (As := [.long p2]) (rest := [.int 64]) ⟨hx, hb, hml, hown, htf⟩ (k_J1_numberOfLeadingZeros l p2) (va_cwS 1 htf (gd_S wk406 wk407 wk12 wk408) rfl rfl rfl ndJ1_numberOfLeadingZeros ⟨Nat.le_of_ble_eq_true rfl, Nat.le_of_ble_eq_true rfl⟩) fw_PS rfl rfl hl.1 rfl (lv_room (Nat.le_of_ble_eq_true rfl)) dX6_round_60 ⟨Nat.le_refl _, Nat.le_refl _⟩) ?_
  refine lv_isub hx hb dX6_round_63 ?_
  refine lv_topi (fun x11 ex11 => ?_)
  refine lv_istore (lv' := [(12, .int x11), (10, .long x4), (9, .int x3), (8, .int x2), (7, .int x1), (0, .int p0), (1, .int (jb p1)), (2, .long p2), (4, .int p3), (5, .int (jb p4)), (6, .int p5)]) hx hb dX6_round_64 hl (by decide) rfl (fun ls hl => ?_)
  refine lv_iconst (v := 1) hx hb dX6_round_66 (by decide) ?_
  refine lv_iload hx hb dX6_round_67 (lv_at hl 2 rfl) ?_
  refine lv_isub hx hb dX6_round_69 ?_
  refine lv_iload hx hb dX6_round_70 (lv_at hl 3 rfl) ?_
  refine lv_isub hx hb dX6_round_72 ?_
  refine lv_topi (fun x12 ex12 => ?_)
  refine lv_istore (lv' := [(13, .int x12), (12, .int x11), (10, .long x4), (9, .int x3), (8, .int x2), (7, .int x1), (0, .int p0), (1, .int (jb p1)), (2, .long p2), (4, .int p3), (5, .int (jb p4)), (6, .int p5)]) hx hb dX6_round_73 hl (by decide) rfl (fun ls hl => ?_)
  refine lv_iload hx hb dX6_round_75 (lv_at hl 9 rfl) ?_
  refine lv_iload hx hb dX6_round_77 (lv_at hl 1 rfl) ?_
  refine lv_iadd hx hb dX6_round_79 ?_
  refine lv_iconst (v := 1) hx hb dX6_round_80 (by decide) ?_
  refine lv_isub hx hb dX6_round_81 ?_
  refine lv_iload hx hb dX6_round_82 (lv_at hl 4 rfl) ?_
  refine lv_isub hx hb dX6_round_84 ?_
  refine lv_iload hx hb dX6_round_85 (lv_at hl 0 rfl) ?_
  refine fw_join (j := 105) (ι := Int32) (LS := fun i ls => lv_has ls 18 [(13, .int x12), (12, .int x11), (10, .long x4), (9, .int x3), (8, .int x2), (7, .int x1), (0, .int p0), (1, .int (jb p1)), (2, .long p2), (4, .int p3), (5, .int (jb p4)), (6, .int p5)] ∧ i = (if (((p3 + x11) - 1) - x2) ≤ x12 then x12 else ((p3 + x11) - 1) - x2)) (ST := fun i => [.int i]) ?_ (fun J14 => ?_)
  rotate_left
  · refine lv_icmp_le (tgt := 103) hx hb dX6_round_87 (by decide) (fun c15 => ?_) (fun c15 => ?_)
    · refine lv_iload hx hb dX6_round_103 (lv_at hl 0 rfl) ?_
      exact J14 x12 ls ⟨lv_sub hl [0, 1, 2, 3, 4, 5, 6, 7, 8, 9, 10, 11] rfl, by simp only [if_pos c15] <;> first | assumption | contradiction⟩
    · refine lv_iload hx hb dX6_round_90 (lv_at hl 9 rfl) ?_
      refine lv_iload hx hb dX6_round_92 (lv_at hl 1 rfl) ?_
      refine lv_iadd hx hb dX6_round_94 ?_
      refine lv_iconst (v := 1) hx hb dX6_round_95 (by decide) ?_
      refine lv_isub hx hb dX6_round_96 ?_
      refine lv_iload hx hb dX6_round_97 (lv_at hl 4 rfl) ?_
      refine lv_isub hx hb dX6_round_99 ?_
      refine lv_goto (tgt := 105) hx hb dX6_round_100 (by decide) ?_
      exact J14 (((p3 + x11) - 1) - x2) ls ⟨lv_sub hl [0, 1, 2, 3, 4, 5, 6, 7, 8, 9, 10, 11] rfl, by simp only [if_neg c15] <;> first | assumption | contradiction⟩
  rintro x13 ls ⟨hl, ex13⟩
  try dsimp only at hl ex13 ⊢
  refine lv_istore (lv' := [(14, .int x13), (13, .int x12), (12, .int x11), (10, .long x4), (9, .int x3), (8, .int x2), (7, .int x1), (0, .int p0), (1, .int (jb p1)), (2, .long p2), (4, .int p3), (5, .int (jb p4)), (6, .int p5)]) hx hb dX6_round_105 hl (by decide) rfl (fun ls hl => ?_)
  refine lv_lload_n hx hb dX6_round_107 rfl (lv_at hl 9 rfl) ?_
  refine lv_iload hx hb dX6_round_108 (lv_at hl 0 rfl) ?_
  refine lv_iload hx hb dX6_round_110 (lv_at hl 10 rfl) ?_
  refine lv_isub hx hb dX6_round_112 ?_
  refine lv_iload hx hb dX6_round_113 (lv_at hl 11 rfl) ?_
  refine lv_iload_n hx hb dX6_round_115 rfl (lv_at hl 7 rfl) ?_
  refine lv_iload_n hx hb dX6_round_116 rfl (lv_at hl 8 rfl) ?_
  refine fw_call (va_runS (As := [.long p2, .int (x13 - p3), .int (jb p4), .int p0, .int (jb p1)]) (rest := []) ⟨hx, hb, hml, hown, htf⟩ (k_X6_cut l p2 (x13 - p3) p4 p0 p1) (va_cwS 5 htf (gd_S wk413 wk414 wk3 wk415) rfl rfl rfl ndX6_cut ⟨Nat.le_of_ble_eq_true rfl, Nat.le_of_ble_eq_true rfl⟩) fw_PS rfl rfl hl.1 rfl (lv_room (Nat.le_of_ble_eq_true rfl)) dX6_round_117 ⟨Nat.le_refl _, Nat.le_refl _⟩) ?_
  refine lv_topl (fun x16 ex16 => ?_)
  refine lv_lstore (lv' := [(15, .long x16), (14, .int x13), (13, .int x12), (12, .int x11), (10, .long x4), (9, .int x3), (8, .int x2), (7, .int x1), (0, .int p0), (1, .int (jb p1)), (2, .long p2), (4, .int p3), (5, .int (jb p4)), (6, .int p5)]) hx hb dX6_round_120 hl (by decide) rfl (fun ls hl => ?_)
  refine lv_lload hx hb dX6_round_122 (lv_at hl 0 rfl) ?_
  refine lv_lconst (v := 1) hx hb dX6_round_124 (by decide) ?_
  refine lv_iload hx hb dX6_round_125 (lv_at hl 6 rfl) ?_
  refine lv_iconst (v := 1) hx hb dX6_round_127 (by decide) ?_
  refine lv_iadd hx hb dX6_round_128 ?_
  refine lv_lshl (v := fc_shl 1 (x2 + 1)) hx hb dX6_round_129 rfl ?_
  refine W.lcmp hx hb dX6_round_130 ?_
  refine fw_join (j := 143) (ι := Int32 × Int64) (LS := fun i ls => lv_has ls 18 [(14, .int i.1), (15, .long i.2), (13, .int x12), (12, .int x11), (10, .long x4), (9, .int x3), (8, .int x2), (7, .int x1), (0, .int p0), (1, .int (jb p1)), (2, .long p2), (4, .int p3), (5, .int (jb p4)), (6, .int p5)] ∧ i.1 = (if (lg_cmp x16 (fc_shl 1 (x2 + 1))) = 0 then (x13 + 1) else x13) ∧ i.2 = (if (lg_cmp x16 (fc_shl 1 (x2 + 1))) = 0 then (fc_shr x16 1) else x16)) (ST := fun i => []) ?_ (fun J19 => ?_)
  rotate_left
  · refine lv_if_ne (tgt := 143) hx hb dX6_round_131 (by decide) (fun c20 => ?_) (fun c20 => ?_)
    · exact J19 (x13, x16) ls ⟨lv_sub hl [1, 0, 2, 3, 4, 5, 6, 7, 8, 9, 10, 11, 12, 13] rfl, by simp only [if_neg c20] <;> first | assumption | contradiction, by simp only [if_neg c20] <;> first | assumption | contradiction⟩
    · refine lv_lload hx hb dX6_round_134 (lv_at hl 0 rfl) ?_
      refine lv_iconst (v := 1) hx hb dX6_round_136 (by decide) ?_
      refine lv_lshr (v := fc_shr x16 1) hx hb dX6_round_137 rfl ?_
      refine lv_lstore (lv' := [(15, .long (fc_shr x16 1)), (14, .int x13), (13, .int x12), (12, .int x11), (10, .long x4), (9, .int x3), (8, .int x2), (7, .int x1), (0, .int p0), (1, .int (jb p1)), (2, .long p2), (4, .int p3), (5, .int (jb p4)), (6, .int p5)]) hx hb dX6_round_138 hl (by decide) rfl (fun ls hl => ?_)
      refine lv_iinc (v := x13 + 1) (lv' := [(14, .int (x13 + 1)), (15, .long (fc_shr x16 1)), (13, .int x12), (12, .int x11), (10, .long x4), (9, .int x3), (8, .int x2), (7, .int x1), (0, .int p0), (1, .int (jb p1)), (2, .long p2), (4, .int p3), (5, .int (jb p4)), (6, .int p5)]) hx hb dX6_round_140 hl (k := 1) rfl rfl (by decide) rfl (fun ls hl => ?_)
      exact J19 (x13 + 1, fc_shr x16 1) ls ⟨lv_sub hl [0, 1, 2, 3, 4, 5, 6, 7, 8, 9, 10, 11, 12, 13] rfl, by simp only [if_pos c20] <;> first | assumption | contradiction, by simp only [if_pos c20] <;> first | assumption | contradiction⟩
  rintro ⟨x17, x18⟩ ls ⟨hl, ex17, ex18⟩
  try dsimp only at hl ex17 ex18 ⊢
  refine lv_lload hx hb dX6_round_143 (lv_at hl 1 rfl) ?_
  refine lv_lconst (v := 1) hx hb dX6_round_145 (by decide) ?_
  refine lv_iload hx hb dX6_round_146 (lv_at hl 6 rfl) ?_
  refine lv_lshl (v := fc_shl 1 x2) hx hb dX6_round_148 rfl ?_
  refine W.lcmp hx hb dX6_round_149 ?_
  refine fw_join (j := 229) (ι := Unit) (LS := fun _ ls => lv_has ls 18 [(14, .int x17), (15, .long x18), (13, .int x12), (12, .int x11), (10, .long x4), (9, .int x3), (8, .int x2), (7, .int x1), (0, .int p0), (1, .int (jb p1)), (2, .long p2), (4, .int p3), (5, .int (jb p4)), (6, .int p5)] ∧ fm_X6_round p0 p1 p2 p3 p4 p5 = fm_X6_round_229 p0 p1 p2 p3 p4 p5 x1 x2 x3 x4 x11 x12 x13 x16 x17 x18) (ST := fun _ => []) ?_ (fun J22 => ?_)
  rotate_left
  · refine lv_if_lt (tgt := 229) hx hb dX6_round_150 (by decide) (fun c23 => ?_) (fun c23 => ?_)
    · exact J22 () ls ⟨lv_sub hl [0, 1, 2, 3, 4, 5, 6, 7, 8, 9, 10, 11, 12, 13] rfl, by rw [hT7]; subst ex18 ex17 ex16 ex13 ex12 ex11; first | (simp only [fm_X6_round_57, if_pos c23]; done) | contradiction⟩
    · refine lv_iload hx hb dX6_round_153 (lv_at hl 0 rfl) ?_
      refine lv_iload hx hb dX6_round_155 (lv_at hl 6 rfl) ?_
      refine lv_iadd hx hb dX6_round_157 ?_
      refine lv_iload hx hb dX6_round_158 (lv_at hl 5 rfl) ?_
      refine lv_icmp_le (tgt := 229) hx hb dX6_round_160 (by decide) (fun c24 => ?_) (fun c24 => ?_)
      · exact J22 () ls ⟨lv_sub hl [0, 1, 2, 3, 4, 5, 6, 7, 8, 9, 10, 11, 12, 13] rfl, by rw [hT7]; subst ex18 ex17 ex16 ex13 ex12 ex11; first | (simp only [fm_X6_round_57, if_neg c23, if_pos c24]; done) | contradiction⟩
      · refine lv_iload_n hx hb dX6_round_163 rfl (lv_at hl 8 rfl) ?_
        refine lv_iconst (v := 2) hx hb dX6_round_164 (by decide) ?_
        refine fw_join (j := 191) (ι := Bool) (LS := fun i ls => lv_has ls 18 [(14, .int x17), (15, .long x18), (13, .int x12), (12, .int x11), (10, .long x4), (9, .int x3), (8, .int x2), (7, .int x1), (0, .int p0), (1, .int (jb p1)), (2, .long p2), (4, .int p3), (5, .int (jb p4)), (6, .int p5)] ∧ i = (if p0 < 2 then true else (if p0 = 2 then (if (jb p1) = 0 then true else (if p0 = 3 then (if (jb p1) = 0 then false else true) else false)) else (if p0 = 3 then (if (jb p1) = 0 then false else true) else false)))) (ST := fun i => [.int (jb i)]) ?_ (fun J26 => ?_)
        rotate_left
        · refine lv_icmp_lt (tgt := 186) hx hb dX6_round_165 (by decide) (fun c27 => ?_) (fun c27 => ?_)
          · refine lv_iconst (v := 1) hx hb dX6_round_186 (by decide) ?_
            refine lv_goto (tgt := 191) hx hb dX6_round_187 (by decide) ?_
            exact J26 true ls ⟨lv_sub hl [0, 1, 2, 3, 4, 5, 6, 7, 8, 9, 10, 11, 12, 13] rfl, by simp only [if_pos c27] <;> first | assumption | contradiction⟩
          · refine lv_iload_n hx hb dX6_round_168 rfl (lv_at hl 8 rfl) ?_
            refine lv_iconst (v := 2) hx hb dX6_round_169 (by decide) ?_
            refine lv_icmp_ne (tgt := 177) hx hb dX6_round_170 (by decide) (fun c28 => ?_) (fun c28 => ?_)
            · refine lv_iload_n hx hb dX6_round_177 rfl (lv_at hl 8 rfl) ?_
              refine lv_iconst (v := 3) hx hb dX6_round_178 (by decide) ?_
              refine lv_icmp_ne (tgt := 190) hx hb dX6_round_179 (by decide) (fun c29 => ?_) (fun c29 => ?_)
              · refine lv_iconst (v := 0) hx hb dX6_round_190 (by decide) ?_
                exact J26 false ls ⟨lv_sub hl [0, 1, 2, 3, 4, 5, 6, 7, 8, 9, 10, 11, 12, 13] rfl, by simp only [if_neg c27, if_neg c28, if_neg c29] <;> first | assumption | contradiction⟩
              · refine lv_iload_n hx hb dX6_round_182 rfl (lv_at hl 9 rfl) ?_
                refine lv_if_eq (tgt := 190) hx hb dX6_round_183 (by decide) (fun c30 => ?_) (fun c30 => ?_)
                · refine lv_iconst (v := 0) hx hb dX6_round_190 (by decide) ?_
                  exact J26 false ls ⟨lv_sub hl [0, 1, 2, 3, 4, 5, 6, 7, 8, 9, 10, 11, 12, 13] rfl, by simp only [if_neg c27, if_neg c28, if_pos c29, if_pos c30] <;> first | assumption | contradiction⟩
                · refine lv_iconst (v := 1) hx hb dX6_round_186 (by decide) ?_
                  refine lv_goto (tgt := 191) hx hb dX6_round_187 (by decide) ?_
                  exact J26 true ls ⟨lv_sub hl [0, 1, 2, 3, 4, 5, 6, 7, 8, 9, 10, 11, 12, 13] rfl, by simp only [if_neg c27, if_neg c28, if_pos c29, if_neg c30] <;> first | assumption | contradiction⟩
            · refine lv_iload_n hx hb dX6_round_173 rfl (lv_at hl 9 rfl) ?_
              refine lv_if_eq (tgt := 186) hx hb dX6_round_174 (by decide) (fun c31 => ?_) (fun c31 => ?_)
              · refine lv_iconst (v := 1) hx hb dX6_round_186 (by decide) ?_
                refine lv_goto (tgt := 191) hx hb dX6_round_187 (by decide) ?_
                exact J26 true ls ⟨lv_sub hl [0, 1, 2, 3, 4, 5, 6, 7, 8, 9, 10, 11, 12, 13] rfl, by simp only [if_neg c27, if_pos c28, if_pos c31] <;> first | assumption | contradiction⟩
              · refine lv_iload_n hx hb dX6_round_177 rfl (lv_at hl 8 rfl) ?_
                refine lv_iconst (v := 3) hx hb dX6_round_178 (by decide) ?_
                refine lv_icmp_ne (tgt := 190) hx hb dX6_round_179 (by decide) (fun c32 => ?_) (fun c32 => ?_)
                · refine lv_iconst (v := 0) hx hb dX6_round_190 (by decide) ?_
                  exact J26 false ls ⟨lv_sub hl [0, 1, 2, 3, 4, 5, 6, 7, 8, 9, 10, 11, 12, 13] rfl, by simp only [if_neg c27, if_pos c28, if_neg c31, if_neg c32] <;> first | assumption | contradiction⟩
                · refine lv_iload_n hx hb dX6_round_182 rfl (lv_at hl 9 rfl) ?_
                  refine lv_if_eq (tgt := 190) hx hb dX6_round_183 (by decide) (fun c33 => ?_) (fun c33 => ?_)
                  · refine lv_iconst (v := 0) hx hb dX6_round_190 (by decide) ?_
                    exact J26 false ls ⟨lv_sub hl [0, 1, 2, 3, 4, 5, 6, 7, 8, 9, 10, 11, 12, 13] rfl, by simp only [if_neg c27, if_pos c28, if_neg c31, if_pos c32, if_pos c33] <;> first | assumption | contradiction⟩
                  · refine lv_iconst (v := 1) hx hb dX6_round_186 (by decide) ?_
                    refine lv_goto (tgt := 191) hx hb dX6_round_187 (by decide) ?_
                    exact J26 true ls ⟨lv_sub hl [0, 1, 2, 3, 4, 5, 6, 7, 8, 9, 10, 11, 12, 13] rfl, by simp only [if_neg c27, if_pos c28, if_neg c31, if_pos c32, if_neg c33] <;> first | assumption | contradiction⟩
        rintro x25 ls ⟨hl, ex25⟩
        try dsimp only at hl ex25 ⊢
        refine lv_istore (lv' := [(17, .int (jb x25)), (14, .int x17), (15, .long x18), (13, .int x12), (12, .int x11), (10, .long x4), (9, .int x3), (8, .int x2), (7, .int x1), (0, .int p0), (1, .int (jb p1)), (2, .long p2), (4, .int p3), (5, .int (jb p4)), (6, .int p5)]) hx hb dX6_round_191 hl (by decide) rfl (fun ls hl => ?_)
        refine lv_lload hx hb dX6_round_193 (lv_at hl 5 rfl) ?_
        refine lv_iload hx hb dX6_round_195 (lv_at hl 0 rfl) ?_
        refine fw_join (j := 227) (ι := Int64) (LS := fun i ls => lv_has ls 18 [(17, .int (jb x25)), (14, .int x17), (15, .long x18), (13, .int x12), (12, .int x11), (10, .long x4), (9, .int x3), (8, .int x2), (7, .int x1), (0, .int p0), (1, .int (jb p1)), (2, .long p2), (4, .int p3), (5, .int (jb p4)), (6, .int p5)] ∧ i = (if (jb x25) = 0 then ((fc_shl ((fm_X6_mask x1) - 1) x2) ||| (fm_X6_mask x2)) else fc_shl (fm_X6_mask x1) x2)) (ST := fun i => [.long i, .long x4]) ?_ (fun J35 => ?_)
        rotate_left
        · refine lv_if_eq (tgt := 211) hx hb dX6_round_197 (by decide) (fun c36 => ?_) (fun c36 => ?_)
          · refine lv_iload hx hb dX6_round_211 (lv_at hl 8 rfl) ?_
            refine fw_call (va_runS (As := [.int x1]) (rest := [.long x4]) ⟨hx, hb, hml, hown, htf⟩ (k_X6_mask l x1) (va_cwS 1 htf (gd_S wk391 wk392 wk3 wk393) rfl rfl rfl ndX6_mask ⟨Nat.le_of_ble_eq_true rfl, Nat.le_of_ble_eq_true rfl⟩) fw_PS rfl rfl hl.1 rfl (lv_room (Nat.le_of_ble_eq_true rfl)) dX6_round_213 ⟨Nat.le_refl _, Nat.le_refl _⟩) ?_
            refine lv_lconst (v := 1) hx hb dX6_round_216 (by decide) ?_
            refine lv_lsub hx hb dX6_round_217 ?_
            refine lv_iload hx hb dX6_round_218 (lv_at hl 7 rfl) ?_
            refine lv_lshl (v := fc_shl ((fm_X6_mask x1) - 1) x2) hx hb dX6_round_220 rfl ?_
            refine lv_iload hx hb dX6_round_221 (lv_at hl 7 rfl) ?_
            refine fw_call (va_runS (As := [.int x2]) (rest := [.long (fc_shl ((fm_X6_mask x1) - 1) x2), .long x4]) ⟨hx, hb, hml, hown, htf⟩ (k_X6_mask l x2) (va_cwS 1 htf (gd_S wk391 wk392 wk3 wk393) rfl rfl rfl ndX6_mask ⟨Nat.le_of_ble_eq_true rfl, Nat.le_of_ble_eq_true rfl⟩) fw_PS rfl rfl hl.1 rfl (lv_room (Nat.le_of_ble_eq_true rfl)) dX6_round_223 ⟨Nat.le_refl _, Nat.le_refl _⟩) ?_
            refine lv_lor hx hb dX6_round_226 ?_
            exact J35 ((fc_shl ((fm_X6_mask x1) - 1) x2) ||| (fm_X6_mask x2)) ls ⟨lv_sub hl [0, 1, 2, 3, 4, 5, 6, 7, 8, 9, 10, 11, 12, 13, 14] rfl, by simp only [if_pos c36] <;> first | assumption | contradiction⟩
          · refine lv_iload hx hb dX6_round_200 (lv_at hl 8 rfl) ?_
            refine fw_call (va_runS (As := [.int x1]) (rest := [.long x4]) ⟨hx, hb, hml, hown, htf⟩ (k_X6_mask l x1) (va_cwS 1 htf (gd_S wk391 wk392 wk3 wk393) rfl rfl rfl ndX6_mask ⟨Nat.le_of_ble_eq_true rfl, Nat.le_of_ble_eq_true rfl⟩) fw_PS rfl rfl hl.1 rfl (lv_room (Nat.le_of_ble_eq_true rfl)) dX6_round_202 ⟨Nat.le_refl _, Nat.le_refl _⟩) ?_
            refine lv_iload hx hb dX6_round_205 (lv_at hl 7 rfl) ?_
            refine lv_lshl (v := fc_shl (fm_X6_mask x1) x2) hx hb dX6_round_207 rfl ?_
            refine lv_goto (tgt := 227) hx hb dX6_round_208 (by decide) ?_
            exact J35 (fc_shl (fm_X6_mask x1) x2) ls ⟨lv_sub hl [0, 1, 2, 3, 4, 5, 6, 7, 8, 9, 10, 11, 12, 13, 14] rfl, by simp only [if_neg c36] <;> first | assumption | contradiction⟩
        rintro x34 ls ⟨hl, ex34⟩
        try dsimp only at hl ex34 ⊢
        refine lv_lor hx hb dX6_round_227 ?_
        exact W.lret (v := x4 ||| x34) hx hb hr (fun t ht hW => ⟨congrArg (fun z => Outcome.returned (some (Value.long z))) (show x4 ||| x34 = fm_X6_round p0 p1 p2 p3 p4 p5 from by rw [hT7]; subst ex34 ex25 ex18 ex17 ex16 ex13 ex12 ex11; first | (simp only [fm_X6_round_57, if_neg c23, if_neg c24]; done) | contradiction), ht⟩) (fun q h => nomatch h) dX6_round_228
  rintro _ ls ⟨hl, hT21⟩
  refine lv_lload hx hb dX6_round_229 (lv_at hl 1 rfl) ?_
  refine lv_lconst (v := 1) hx hb dX6_round_231 (by decide) ?_
  refine lv_iload hx hb dX6_round_232 (lv_at hl 6 rfl) ?_
  refine lv_lshl (v := fc_shl 1 x2) hx hb dX6_round_234 rfl ?_
  refine W.lcmp hx hb dX6_round_235 ?_
  refine lv_if_ge (tgt := 247) hx hb dX6_round_236 (by decide) (fun c37 => ?_) (fun c37 => ?_)
  · refine lv_lload hx hb dX6_round_247 (lv_at hl 4 rfl) ?_
    refine lv_iload hx hb dX6_round_249 (lv_at hl 0 rfl) ?_
    refine lv_iload hx hb dX6_round_251 (lv_at hl 6 rfl) ?_
    refine lv_iadd hx hb dX6_round_253 ?_
    refine lv_iload hx hb dX6_round_254 (lv_at hl 5 rfl) ?_
    refine lv_iadd hx hb dX6_round_256 ?_
    refine lv_i2l (v := ((x17 + x2) + x3).toInt64) hx hb dX6_round_257 rfl ?_
    refine lv_iload hx hb dX6_round_258 (lv_at hl 6 rfl) ?_
    refine lv_lshl (v := fc_shl (((x17 + x2) + x3).toInt64) x2) hx hb dX6_round_260 rfl ?_
    refine lv_lor hx hb dX6_round_261 ?_
    refine lv_lload hx hb dX6_round_262 (lv_at hl 1 rfl) ?_
    refine lv_iload hx hb dX6_round_264 (lv_at hl 6 rfl) ?_
    refine fw_call (va_runS (As := [.int x2]) (rest := [.long x18, .long (x4 ||| (fc_shl (((x17 + x2) + x3).toInt64) x2))]) ⟨hx, hb, hml, hown, htf⟩ (k_X6_mask l x2) (va_cwS 1 htf (gd_S wk391 wk392 wk3 wk393) rfl rfl rfl ndX6_mask ⟨Nat.le_of_ble_eq_true rfl, Nat.le_of_ble_eq_true rfl⟩) fw_PS rfl rfl hl.1 rfl (lv_room (Nat.le_of_ble_eq_true rfl)) dX6_round_266 ⟨Nat.le_refl _, Nat.le_refl _⟩) ?_
    refine lv_land hx hb dX6_round_269 ?_
    refine lv_lor hx hb dX6_round_270 ?_
    exact W.lret (v := (x4 ||| (fc_shl (((x17 + x2) + x3).toInt64) x2)) ||| (x18 &&& (fm_X6_mask x2))) hx hb hr (fun t ht hW => ⟨congrArg (fun z => Outcome.returned (some (Value.long z))) (show (x4 ||| (fc_shl (((x17 + x2) + x3).toInt64) x2)) ||| (x18 &&& (fm_X6_mask x2)) = fm_X6_round p0 p1 p2 p3 p4 p5 from by rw [hT21]; first | (simp only [fm_X6_round_229, if_pos c37]; done) | contradiction), ht⟩) (fun q h => nomatch h) dX6_round_271
  · refine lv_lload hx hb dX6_round_239 (lv_at hl 4 rfl) ?_
    refine lv_lload hx hb dX6_round_241 (lv_at hl 1 rfl) ?_
    refine lv_lor hx hb dX6_round_243 ?_
    refine lv_goto (tgt := 271) hx hb dX6_round_244 (by decide) ?_
    exact W.lret (v := x4 ||| x18) hx hb hr (fun t ht hW => ⟨congrArg (fun z => Outcome.returned (some (Value.long z))) (show x4 ||| x18 = fm_X6_round p0 p1 p2 p3 p4 p5 from by rw [hT21]; first | (simp only [fm_X6_round_229, if_neg c37]; done) | contradiction), ht⟩) (fun q h => nomatch h) dX6_round_271
