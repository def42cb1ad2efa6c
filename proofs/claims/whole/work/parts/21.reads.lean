theorem ndX5_isWithin : yX5_isWithin.cls ≠ "java/lang/invoke/MethodHandle" ∧ yX5_isWithin.cls ≠ "java/lang/invoke/VarHandle" ∧ (parseMethodDescriptor yX5_isWithin.desc).map (fun d => d.parameters.length) = some 3 := by decide +kernel
def fm_X5_isWithin (p0 : Int32) (p1 : Int32) (p2 : Int32) : Bool := if p0 < p1 then (false) else (if p2 < p0 then (false) else (true))
set_option maxHeartbeats 4000000 in
set_option maxRecDepth 100000 in
theorem k_X5_isWithin (l : Launch) (p0 : Int32) (p1 : Int32) (p2 : Int32) : Met l yX5_isWithin wsX5_isWithin { frames := 0, cells := 0, slots := 0, locals := 0 } (fw_P [.int p0, .int p1, .int p2]) (fw_Q (.int (jb (fm_X5_isWithin p0 p1 p2)))) 0 0 (fun _ => False) := by
  refine Met.ofW (cc := cX5_isWithin) (maxL := 3) (ret := (some .boolean)) (by decide) rfl ?_
  intro p e s m args below meth c s₁ B hml hv
  obtain ⟨rfl, -⟩ := hv
  have hx := B.exec
  have hb := B.bytes
  have hr := B.returns
  have hts := atoms_spec (ws := wsX5_isWithin) B.pre
  have htf : ∀ w ∈ fc_all, w.before _ s = true := fun w h => hts w (List.mem_cons_of_mem _ h)
  have hown : s.vm.findClass RX5 = some m.cls := findClass_of_methodNamed B.named
  have hlocks := B.notSynchronized
  have hl := lv_entry ([.int p0, .int p1, .int p2]) (n := 3) (Nat.le_of_ble_eq_true rfl)
  rw [lg_entry_eq]
  generalize (lg_sl ([.int p0, .int p1, .int p2]) ++ List.replicate (3 - (lg_sl ([.int p0, .int p1, .int p2])).length) Slot.unset).toArray = ls at hl ⊢
  have hl : lv_has ls 3 [(0, .int p0), (1, .int p1), (2, .int p2)] := hl
  refine lv_iload_n hx hb dX5_isWithin_0 rfl (lv_at hl 1 rfl) ?_
  refine lv_iload_n hx hb dX5_isWithin_1 rfl (lv_at hl 0 rfl) ?_
  refine lv_icmp_gt (tgt := 14) hx hb dX5_isWithin_2 (by decide) (fun c1 => ?_) (fun c1 => ?_)
  · refine lv_iconst (v := 0) hx hb dX5_isWithin_14 (by decide) ?_
    exact W.zret (v := jb false) (ty := .boolean) hx hb hr (jb_n _) (fun t ht hW => ⟨congrArg (fun z => Outcome.returned (some (Value.int (jb z)))) (show false = fm_X5_isWithin p0 p1 p2 from by first | (simp only [fm_X5_isWithin, if_pos c1]; done) | contradiction), ht⟩) (fun q h => nomatch h) dX5_isWithin_15
  · refine lv_iload_n hx hb dX5_isWithin_5 rfl (lv_at hl 0 rfl) ?_
    refine lv_iload_n hx hb dX5_isWithin_6 rfl (lv_at hl 2 rfl) ?_
    refine lv_icmp_gt (tgt := 14) hx hb dX5_isWithin_7 (by decide) (fun c2 => ?_) (fun c2 => ?_)
    · refine lv_iconst (v := 0) hx hb dX5_isWithin_14 (by decide) ?_
      exact W.zret (v := jb false) (ty := .boolean) hx hb hr (jb_n _) (fun t ht hW => ⟨congrArg (fun z => Outcome.returned (some (Value.int (jb z)))) (show false = fm_X5_isWithin p0 p1 p2 from by first | (simp only [fm_X5_isWithin, if_neg c1, if_pos c2]; done) | contradiction), ht⟩) (fun q h => nomatch h) dX5_isWithin_15
    · refine lv_iconst (v := 1) hx hb dX5_isWithin_10 (by decide) ?_
      refine lv_goto (tgt := 15) hx hb dX5_isWithin_11 (by decide) ?_
      exact W.zret (v := jb true) (ty := .boolean) hx hb hr (jb_n _) (fun t ht hW => ⟨congrArg (fun z => Outcome.returned (some (Value.int (jb z)))) (show true = fm_X5_isWithin p0 p1 p2 from by first | (simp only [fm_X5_isWithin, if_neg c1, if_neg c2]; done) | contradiction), ht⟩) (fun q h => nomatch h) dX5_isWithin_15
theorem ndX5_isMode : yX5_isMode.cls ≠ "java/lang/invoke/MethodHandle" ∧ yX5_isMode.cls ≠ "java/lang/invoke/VarHandle" ∧ (parseMethodDescriptor yX5_isMode.desc).map (fun d => d.parameters.length) = some 1 := by decide +kernel
def fm_X5_isMode (p0 : Int32) : Bool := fm_X5_isWithin p0 0 4
set_option maxHeartbeats 4000000 in
set_option maxRecDepth 100000 in
theorem k_X5_isMode (l : Launch) (p0 : Int32) : Met l yX5_isMode wsX5_isMode { frames := 1, cells := 0, slots := 0, locals := 22 } (fw_P [.int p0]) (fw_Q (.int (jb (fm_X5_isMode p0)))) 0 0 (fun _ => False) := by
  refine Met.ofW (cc := cX5_isMode) (maxL := 1) (ret := (some .boolean)) (by decide) rfl ?_
  intro p e s m args below meth c s₁ B hml hv
  obtain ⟨rfl, -⟩ := hv
  have hx := B.exec
  have hb := B.bytes
  have hr := B.returns
  have hts := atoms_spec (ws := wsX5_isMode) B.pre
  have htf : ∀ w ∈ fc_all, w.before _ s = true := fun w h => hts w (List.mem_cons_of_mem _ h)
  have hown : s.vm.findClass RX5 = some m.cls := findClass_of_methodNamed B.named
  have hlocks := B.notSynchronized
  have hl := lv_entry ([.int p0]) (n := 1) (Nat.le_of_ble_eq_true rfl)
  rw [lg_entry_eq]
  generalize (lg_sl ([.int p0]) ++ List.replicate (1 - (lg_sl ([.int p0])).length) Slot.unset).toArray = ls at hl ⊢
  have hl : lv_has ls 1 [(0, .int p0)] := hl
  refine lv_iload_n hx hb dX5_isMode_0 rfl (lv_at hl 0 rfl) ?_
  refine lv_iconst (v := 0) hx hb dX5_isMode_1 (by decide) ?_
  refine lv_iconst (v := 4) hx hb dX5_isMode_2 (by decide) ?_
  refine fw_call (va_runS (As := [.int p0, .int 0, .int 4]) (rest := []) ⟨hx, hb, hml, hown, htf⟩ (k_X5_isWithin l p0 0 4) (va_cwS 3 htf (gd_S wk49 wk50 wk1 wk51) rfl rfl rfl ndX5_isWithin ⟨Nat.le_of_ble_eq_true rfl, Nat.le_of_ble_eq_true rfl⟩) fw_PS rfl rfl hl.1 rfl (lv_room (Nat.le_of_ble_eq_true rfl)) dX5_isMode_3 ⟨Nat.le_refl _, Nat.le_refl _⟩) ?_
  exact W.zret (v := jb (fm_X5_isWithin p0 0 4)) (ty := .boolean) hx hb hr (jb_n _) (fun t ht hW => ⟨congrArg (fun z => Outcome.returned (some (Value.int (jb z)))) (show (fm_X5_isWithin p0 0 4) = fm_X5_isMode p0 from by rfl), ht⟩) (fun q h => nomatch h) dX5_isMode_6
theorem ndX5_isFormat : yX5_isFormat.cls ≠ "java/lang/invoke/MethodHandle" ∧ yX5_isFormat.cls ≠ "java/lang/invoke/VarHandle" ∧ (parseMethodDescriptor yX5_isFormat.desc).map (fun d => d.parameters.length) = some 2 := by decide +kernel
def fm_X5_isFormat (p0 : Int32) (p1 : Int32) : Bool := if (jb (fm_X5_isWithin p0 2 5)) = 0 then (false) else (if (jb (fm_X5_isWithin p1 2 11)) = 0 then (false) else (true))
set_option maxHeartbeats 4000000 in
set_option maxRecDepth 100000 in
theorem k_X5_isFormat (l : Launch) (p0 : Int32) (p1 : Int32) : Met l yX5_isFormat wsX5_isFormat { frames := 1, cells := 0, slots := 0, locals := 22 } (fw_P [.int p0, .int p1]) (fw_Q (.int (jb (fm_X5_isFormat p0 p1)))) 0 0 (fun _ => False) := by
  refine Met.ofW (cc := cX5_isFormat) (maxL := 2) (ret := (some .boolean)) (by decide) rfl ?_
  intro p e s m args below meth c s₁ B hml hv
  obtain ⟨rfl, -⟩ := hv
  have hx := B.exec
  have hb := B.bytes
  have hr := B.returns
  have hts := atoms_spec (ws := wsX5_isFormat) B.pre
  have htf : ∀ w ∈ fc_all, w.before _ s = true := fun w h => hts w (List.mem_cons_of_mem _ h)
  have hown : s.vm.findClass RX5 = some m.cls := findClass_of_methodNamed B.named
  have hlocks := B.notSynchronized
  have hl := lv_entry ([.int p0, .int p1]) (n := 2) (Nat.le_of_ble_eq_true rfl)
  rw [lg_entry_eq]
  generalize (lg_sl ([.int p0, .int p1]) ++ List.replicate (2 - (lg_sl ([.int p0, .int p1])).length) Slot.unset).toArray = ls at hl ⊢
  have hl : lv_has ls 2 [(0, .int p0), (1, .int p1)] := hl
  refine lv_iload_n hx hb dX5_isFormat_0 rfl (lv_at hl 0 rfl) ?_
  refine lv_iconst (v := 2) hx hb dX5_isFormat_1 (by decide) ?_
  refine lv_iconst (v := 5) hx hb dX5_isFormat_2 (by decide) ?_
  refine fw_call (va_runS (As := [.int p0, .int 2, .int 5]) (rest := []) ⟨hx, hb, hml, hown, htf⟩ (k_X5_isWithin l p0 2 5) (va_cwS 3 htf (gd_S wk49 wk50 wk1 wk51) rfl rfl rfl ndX5_isWithin ⟨Nat.le_of_ble_eq_true rfl, Nat.le_of_ble_eq_true rfl⟩) fw_PS rfl rfl hl.1 rfl (lv_room (Nat.le_of_ble_eq_true rfl)) dX5_isFormat_3 ⟨Nat.le_refl _, Nat.le_refl _⟩) ?_
  refine lv_if_eq (tgt := 23) hx hb dX5_isFormat_6 (by decide) (fun c1 => ?_) (fun c1 => ?_)
  · refine lv_iconst (v := 0) hx hb dX5_isFormat_23 (by decide) ?_
    exact W.zret (v := jb false) (ty := .boolean) hx hb hr (jb_n _) (fun t ht hW => ⟨congrArg (fun z => Outcome.returned (some (Value.int (jb z)))) (show false = fm_X5_isFormat p0 p1 from by first | (simp only [fm_X5_isFormat, if_pos c1]; done) | contradiction), ht⟩) (fun q h => nomatch h) dX5_isFormat_24
  · refine lv_iload_n hx hb dX5_isFormat_9 rfl (lv_at hl 1 rfl) ?_
    refine lv_iconst (v := 2) hx hb dX5_isFormat_10 (by decide) ?_
    refine lv_bipush (v := 11) hx hb dX5_isFormat_11 (by decide) ?_
    refine fw_call (va_runS (As := [.int p1, .int 2, .int 11]) (rest := []) ⟨hx, hb, hml, hown, htf⟩ (k_X5_isWithin l p1 2 11) (va_cwS 3 htf (gd_S wk49 wk50 wk1 wk51) rfl rfl rfl ndX5_isWithin ⟨Nat.le_of_ble_eq_true rfl, Nat.le_of_ble_eq_true rfl⟩) fw_PS rfl rfl hl.1 rfl (lv_room (Nat.le_of_ble_eq_true rfl)) dX5_isFormat_13 ⟨Nat.le_refl _, Nat.le_refl _⟩) ?_
    refine lv_if_eq (tgt := 23) hx hb dX5_isFormat_16 (by decide) (fun c2 => ?_) (fun c2 => ?_)
    · refine lv_iconst (v := 0) hx hb dX5_isFormat_23 (by decide) ?_
      exact W.zret (v := jb false) (ty := .boolean) hx hb hr (jb_n _) (fun t ht hW => ⟨congrArg (fun z => Outcome.returned (some (Value.int (jb z)))) (show false = fm_X5_isFormat p0 p1 from by first | (simp only [fm_X5_isFormat, if_neg c1, if_pos c2]; done) | contradiction), ht⟩) (fun q h => nomatch h) dX5_isFormat_24
    · refine lv_iconst (v := 1) hx hb dX5_isFormat_19 (by decide) ?_
      refine lv_goto (tgt := 24) hx hb dX5_isFormat_20 (by decide) ?_
      exact W.zret (v := jb true) (ty := .boolean) hx hb hr (jb_n _) (fun t ht hW => ⟨congrArg (fun z => Outcome.returned (some (Value.int (jb z)))) (show true = fm_X5_isFormat p0 p1 from by first | (simp only [fm_X5_isFormat, if_neg c1, if_neg c2]; done) | contradiction), ht⟩) (fun q h => nomatch h) dX5_isFormat_24
theorem ndX3_oneMore : yX3_oneMore.cls ≠ "java/lang/invoke/MethodHandle" ∧ yX3_oneMore.cls ≠ "java/lang/invoke/VarHandle" ∧ (parseMethodDescriptor yX3_oneMore.desc).map (fun d => d.parameters.length) = some 5 := by decide +kernel
def fm_X3_oneMore (p0 : Int32) (p1 : Int64) (p2 : Int64) (p3 : Int64) (p4 : Int64) : Int64 := if p0 = 0 then (p3 &&& (p4 ||| p2)) else (if p0 = 1 then (p3) else (if p0 = 2 then ((p3 ||| p4) &&& (p1 ^^^ 1)) else (if p0 = 3 then ((p3 ||| p4) &&& p1) else (0))))
set_option maxHeartbeats 4000000 in
set_option maxRecDepth 100000 in
theorem k_X3_oneMore (l : Launch) (p0 : Int32) (p1 : Int64) (p2 : Int64) (p3 : Int64) (p4 : Int64) : Met l yX3_oneMore wsX3_oneMore { frames := 0, cells := 0, slots := 0, locals := 0 } (fw_P [.int p0, .long p1, .long p2, .long p3, .long p4]) (fw_Q (.long (fm_X3_oneMore p0 p1 p2 p3 p4))) 0 0 (fun _ => False) := by
  refine Met.ofW (cc := cX3_oneMore) (maxL := 9) (ret := (some .long)) (by decide) rfl ?_
  intro p e s m args below meth c s₁ B hml hv
  obtain ⟨rfl, -⟩ := hv
  have hx := B.exec
  have hb := B.bytes
  have hr := B.returns
  have hts := atoms_spec (ws := wsX3_oneMore) B.pre
  have htf : ∀ w ∈ fc_all, w.before _ s = true := fun w h => hts w (List.mem_cons_of_mem _ h)
  have hown : s.vm.findClass RX3 = some m.cls := findClass_of_methodNamed B.named
  have hlocks := B.notSynchronized
  have hl := lv_entry ([.int p0, .long p1, .long p2, .long p3, .long p4]) (n := 9) (Nat.le_of_ble_eq_true rfl)
  rw [lg_entry_eq]
  generalize (lg_sl ([.int p0, .long p1, .long p2, .long p3, .long p4]) ++ List.replicate (9 - (lg_sl ([.int p0, .long p1, .long p2, .long p3, .long p4])).length) Slot.unset).toArray = ls at hl ⊢
  have hl : lv_has ls 9 [(0, .int p0), (1, .long p1), (3, .long p2), (5, .long p3), (7, .long p4)] := hl
  refine lv_iload_n hx hb dX3_oneMore_0 rfl (lv_at hl 0 rfl) ?_
  by_cases c1 : p0 = 0
  · refine lv_tableIn (tgt := 32) hx hb dX3_oneMore_1 (by rw [c1]; decide) (by rw [c1]; decide) (by rw [c1]; rfl) (by decide) ?_
    refine lv_lload hx hb dX3_oneMore_32 (lv_at hl 3 rfl) ?_
    refine lv_lload hx hb dX3_oneMore_34 (lv_at hl 4 rfl) ?_
    refine lv_lload_n hx hb dX3_oneMore_36 rfl (lv_at hl 2 rfl) ?_
    refine lv_lor hx hb dX3_oneMore_37 ?_
    refine lv_land hx hb dX3_oneMore_38 ?_
    exact W.lret (v := p3 &&& (p4 ||| p2)) hx hb hr (fun t ht hW => ⟨congrArg (fun z => Outcome.returned (some (Value.long z))) (show p3 &&& (p4 ||| p2) = fm_X3_oneMore p0 p1 p2 p3 p4 from by first | (simp only [fm_X3_oneMore, if_pos c1]; done) | contradiction), ht⟩) (fun q h => nomatch h) dX3_oneMore_39
  by_cases c2 : p0 = 1
  · refine lv_tableIn (tgt := 40) hx hb dX3_oneMore_1 (by rw [c2]; decide) (by rw [c2]; decide) (by rw [c2]; rfl) (by decide) ?_
    refine lv_lload hx hb dX3_oneMore_40 (lv_at hl 3 rfl) ?_
    exact W.lret (v := p3) hx hb hr (fun t ht hW => ⟨congrArg (fun z => Outcome.returned (some (Value.long z))) (show p3 = fm_X3_oneMore p0 p1 p2 p3 p4 from by first | (simp only [fm_X3_oneMore, if_neg c1, if_pos c2]; done) | contradiction), ht⟩) (fun q h => nomatch h) dX3_oneMore_42
  by_cases c3 : p0 = 2
  · refine lv_tableIn (tgt := 43) hx hb dX3_oneMore_1 (by rw [c3]; decide) (by rw [c3]; decide) (by rw [c3]; rfl) (by decide) ?_
    refine lv_lload hx hb dX3_oneMore_43 (lv_at hl 3 rfl) ?_
    refine lv_lload hx hb dX3_oneMore_45 (lv_at hl 4 rfl) ?_
    refine lv_lor hx hb dX3_oneMore_47 ?_
    refine lv_lload_n hx hb dX3_oneMore_48 rfl (lv_at hl 1 rfl) ?_
    refine lv_lconst (v := 1) hx hb dX3_oneMore_49 (by decide) ?_
    refine lv_lxor hx hb dX3_oneMore_50 ?_
    refine lv_land hx hb dX3_oneMore_51 ?_
    exact W.lret (v := (p3 ||| p4) &&& (p1 ^^^ 1)) hx hb hr (fun t ht hW => ⟨congrArg (fun z => Outcome.returned (some (Value.long z))) (show (p3 ||| p4) &&& (p1 ^^^ 1) = fm_X3_oneMore p0 p1 p2 p3 p4 from by first | (simp only [fm_X3_oneMore, if_neg c1, if_neg c2, if_pos c3]; done) | contradiction), ht⟩) (fun q h => nomatch h) dX3_oneMore_52
  by_cases c4 : p0 = 3
  · refine lv_tableIn (tgt := 53) hx hb dX3_oneMore_1 (by rw [c4]; decide) (by rw [c4]; decide) (by rw [c4]; rfl) (by decide) ?_
    refine lv_lload hx hb dX3_oneMore_53 (lv_at hl 3 rfl) ?_
    refine lv_lload hx hb dX3_oneMore_55 (lv_at hl 4 rfl) ?_
    refine lv_lor hx hb dX3_oneMore_57 ?_
    refine lv_lload_n hx hb dX3_oneMore_58 rfl (lv_at hl 1 rfl) ?_
    refine lv_land hx hb dX3_oneMore_59 ?_
    exact W.lret (v := (p3 ||| p4) &&& p1) hx hb hr (fun t ht hW => ⟨congrArg (fun z => Outcome.returned (some (Value.long z))) (show (p3 ||| p4) &&& p1 = fm_X3_oneMore p0 p1 p2 p3 p4 from by first | (simp only [fm_X3_oneMore, if_neg c1, if_neg c2, if_neg c3, if_pos c4]; done) | contradiction), ht⟩) (fun q h => nomatch h) dX3_oneMore_60
  refine lv_tableOut (tgt := 61) hx hb dX3_oneMore_1 (fw_out (by have q0 := fw_ne c1 (v := 0) rfl; have q1 := fw_ne c2 (v := 1) rfl; have q2 := fw_ne c3 (v := 2) rfl; have q3 := fw_ne c4 (v := 3) rfl; omega)) (by decide) ?_
  refine lv_lconst (v := 0) hx hb dX3_oneMore_61 (by decide) ?_
  exact W.lret (v := 0) hx hb hr (fun t ht hW => ⟨congrArg (fun z => Outcome.returned (some (Value.long z))) (show 0 = fm_X3_oneMore p0 p1 p2 p3 p4 from by first | (simp only [fm_X3_oneMore, if_neg c1, if_neg c2, if_neg c3, if_neg c4]; done) | contradiction), ht⟩) (fun q h => nomatch h) dX3_oneMore_62
theorem ndX3_isEndless : yX3_isEndless.cls ≠ "java/lang/invoke/MethodHandle" ∧ yX3_isEndless.cls ≠ "java/lang/invoke/VarHandle" ∧ (parseMethodDescriptor yX3_isEndless.desc).map (fun d => d.parameters.length) = some 2 := by decide +kernel
def fm_X3_isEndless (p0 : Int32) (p1 : Int64) : Bool := if p0 = 0 then (true) else (if p0 = 1 then (true) else (if p0 = 2 then (if (lg_cmp p1 0) = 0 then (true) else (false)) else (if p0 = 3 then (if (lg_cmp p1 1) = 0 then (true) else (false)) else (false))))
set_option maxHeartbeats 4000000 in
set_option maxRecDepth 100000 in
theorem k_X3_isEndless (l : Launch) (p0 : Int32) (p1 : Int64) : Met l yX3_isEndless wsX3_isEndless { frames := 0, cells := 0, slots := 0, locals := 0 } (fw_P [.int p0, .long p1]) (fw_Q (.int (jb (fm_X3_isEndless p0 p1)))) 0 0 (fun _ => False) := by
  refine Met.ofW (cc := cX3_isEndless) (maxL := 3) (ret := (some .boolean)) (by decide) rfl ?_
  intro p e s m args below meth c s₁ B hml hv
  obtain ⟨rfl, -⟩ := hv
  have hx := B.exec
  have hb := B.bytes
  have hr := B.returns
  have hts := atoms_spec (ws := wsX3_isEndless) B.pre
  have htf : ∀ w ∈ fc_all, w.before _ s = true := fun w h => hts w (List.mem_cons_of_mem _ h)
  have hown : s.vm.findClass RX3 = some m.cls := findClass_of_methodNamed B.named
  have hlocks := B.notSynchronized
  have hl := lv_entry ([.int p0, .long p1]) (n := 3) (Nat.le_of_ble_eq_true rfl)
  rw [lg_entry_eq]
  generalize (lg_sl ([.int p0, .long p1]) ++ List.replicate (3 - (lg_sl ([.int p0, .long p1])).length) Slot.unset).toArray = ls at hl ⊢
  have hl : lv_has ls 3 [(0, .int p0), (1, .long p1)] := hl
  refine lv_iload_n hx hb dX3_isEndless_0 rfl (lv_at hl 0 rfl) ?_
  by_cases c1 : p0 = 0
  · refine lv_tableIn (tgt := 32) hx hb dX3_isEndless_1 (by rw [c1]; decide) (by rw [c1]; decide) (by rw [c1]; rfl) (by decide) ?_
    refine lv_iconst (v := 1) hx hb dX3_isEndless_32 (by decide) ?_
    exact W.zret (v := jb true) (ty := .boolean) hx hb hr (jb_n _) (fun t ht hW => ⟨congrArg (fun z => Outcome.returned (some (Value.int (jb z)))) (show true = fm_X3_isEndless p0 p1 from by first | (simp only [fm_X3_isEndless, if_pos c1]; done) | contradiction), ht⟩) (fun q h => nomatch h) dX3_isEndless_33
  by_cases c2 : p0 = 1
  · refine lv_tableIn (tgt := 32) hx hb dX3_isEndless_1 (by rw [c2]; decide) (by rw [c2]; decide) (by rw [c2]; rfl) (by decide) ?_
    refine lv_iconst (v := 1) hx hb dX3_isEndless_32 (by decide) ?_
    exact W.zret (v := jb true) (ty := .boolean) hx hb hr (jb_n _) (fun t ht hW => ⟨congrArg (fun z => Outcome.returned (some (Value.int (jb z)))) (show true = fm_X3_isEndless p0 p1 from by first | (simp only [fm_X3_isEndless, if_neg c1, if_pos c2]; done) | contradiction), ht⟩) (fun q h => nomatch h) dX3_isEndless_33
  by_cases c3 : p0 = 2
  · refine lv_tableIn (tgt := 34) hx hb dX3_isEndless_1 (by rw [c3]; decide) (by rw [c3]; decide) (by rw [c3]; rfl) (by decide) ?_
    refine lv_lload_n hx hb dX3_isEndless_34 rfl (lv_at hl 1 rfl) ?_
    refine lv_lconst (v := 0) hx hb dX3_isEndless_35 (by decide) ?_
    refine W.lcmp hx hb dX3_isEndless_36 ?_
    refine lv_if_ne (tgt := 44) hx hb dX3_isEndless_37 (by decide) (fun c4 => ?_) (fun c4 => ?_)
    · refine lv_iconst (v := 0) hx hb dX3_isEndless_44 (by decide) ?_
      exact W.zret (v := jb false) (ty := .boolean) hx hb hr (jb_n _) (fun t ht hW => ⟨congrArg (fun z => Outcome.returned (some (Value.int (jb z)))) (show false = fm_X3_isEndless p0 p1 from by first | (simp only [fm_X3_isEndless, if_neg c1, if_neg c2, if_pos c3, if_neg c4]; done) | contradiction), ht⟩) (fun q h => nomatch h) dX3_isEndless_45
    · refine lv_iconst (v := 1) hx hb dX3_isEndless_40 (by decide) ?_
      refine lv_goto (tgt := 45) hx hb dX3_isEndless_41 (by decide) ?_
      exact W.zret (v := jb true) (ty := .boolean) hx hb hr (jb_n _) (fun t ht hW => ⟨congrArg (fun z => Outcome.returned (some (Value.int (jb z)))) (show true = fm_X3_isEndless p0 p1 from by first | (simp only [fm_X3_isEndless, if_neg c1, if_neg c2, if_pos c3, if_pos c4]; done) | contradiction), ht⟩) (fun q h => nomatch h) dX3_isEndless_45
  by_cases c5 : p0 = 3
  · refine lv_tableIn (tgt := 46) hx hb dX3_isEndless_1 (by rw [c5]; decide) (by rw [c5]; decide) (by rw [c5]; rfl) (by decide) ?_
    refine lv_lload_n hx hb dX3_isEndless_46 rfl (lv_at hl 1 rfl) ?_
    refine lv_lconst (v := 1) hx hb dX3_isEndless_47 (by decide) ?_
    refine W.lcmp hx hb dX3_isEndless_48 ?_
    refine lv_if_ne (tgt := 56) hx hb dX3_isEndless_49 (by decide) (fun c6 => ?_) (fun c6 => ?_)
    · refine lv_iconst (v := 0) hx hb dX3_isEndless_56 (by decide) ?_
      exact W.zret (v := jb false) (ty := .boolean) hx hb hr (jb_n _) (fun t ht hW => ⟨congrArg (fun z => Outcome.returned (some (Value.int (jb z)))) (show false = fm_X3_isEndless p0 p1 from by first | (simp only [fm_X3_isEndless, if_neg c1, if_neg c2, if_neg c3, if_pos c5, if_neg c6]; done) | contradiction), ht⟩) (fun q h => nomatch h) dX3_isEndless_57
    · refine lv_iconst (v := 1) hx hb dX3_isEndless_52 (by decide) ?_
      refine lv_goto (tgt := 57) hx hb dX3_isEndless_53 (by decide) ?_
      exact W.zret (v := jb true) (ty := .boolean) hx hb hr (jb_n _) (fun t ht hW => ⟨congrArg (fun z => Outcome.returned (some (Value.int (jb z)))) (show true = fm_X3_isEndless p0 p1 from by first | (simp only [fm_X3_isEndless, if_neg c1, if_neg c2, if_neg c3, if_pos c5, if_pos c6]; done) | contradiction), ht⟩) (fun q h => nomatch h) dX3_isEndless_57
  refine lv_tableOut (tgt := 58) hx hb dX3_isEndless_1 (fw_out (by have q0 := fw_ne c1 (v := 0) rfl; have q1 := fw_ne c2 (v := 1) rfl; have q2 := fw_ne c3 (v := 2) rfl; have q3 := fw_ne c5 (v := 3) rfl; omega)) (by decide) ?_
  refine lv_iconst (v := 0) hx hb dX3_isEndless_58 (by decide) ?_
  exact W.zret (v := jb false) (ty := .boolean) hx hb hr (jb_n _) (fun t ht hW => ⟨congrArg (fun z => Outcome.returned (some (Value.int (jb z)))) (show false = fm_X3_isEndless p0 p1 from by first | (simp only [fm_X3_isEndless, if_neg c1, if_neg c2, if_neg c3, if_neg c5]; done) | contradiction), ht⟩) (fun q h => nomatch h) dX3_isEndless_59
theorem ndX4_isZero : yX4_isZero.cls = RX4 ∧ yX4_isZero.cls ≠ "java/lang/invoke/MethodHandle" ∧ yX4_isZero.cls ≠ "java/lang/invoke/VarHandle" ∧ (parseMethodDescriptor yX4_isZero.desc).map (fun d => d.parameters.length) = some 0 := by decide +kernel
def fm_X4_isZero (h0_nan : Bool) (h0_infinite : Bool) (h0_sign : Int64) (h0_exponent : Int64) (h0_magnitude : Int64) : Bool := if (jb h0_nan) = 0 then (if (jb h0_infinite) = 0 then (if (lg_cmp (fg_any h0_magnitude) 0) = 0 then (true) else (false)) else (false)) else (false)
set_option maxHeartbeats 4000000 in
set_option maxRecDepth 100000 in
theorem k_X4_isZero (l : Launch) (dC : Nat → ClassId) (dI : Nat → Nat → Nat) (h0 : Nat) (h0_nan : Bool) (h0_infinite : Bool) (h0_sign : Int64) (h0_exponent : Int64) (h0_magnitude : Int64) : Met l yX4_isZero wsX4_isZero { frames := 1, cells := 0, slots := 0, locals := 24 } (fw_R (dC, dI) vwCl [(h0, .inr (1, [.int (jb h0_nan), .int (jb h0_infinite), .long h0_sign, .long h0_exponent, .long h0_magnitude]))] [.ref h0]) (fw_Q (.int (jb (fm_X4_isZero h0_nan h0_infinite h0_sign h0_exponent h0_magnitude)))) 0 0 (fun _ => False) := by
  refine Met.ofW (cc := cX4_isZero) (maxL := 1) (ret := (some .boolean)) (by decide) rfl ?_
  intro p e s m args below meth c s₁ B hml hv
  obtain ⟨rfl, hP, hK⟩ := hv
  have hx := B.exec
  have hb := B.bytes
  have hr := B.returns
  have hts := atoms_spec (ws := wsX4_isZero) B.pre
  have htf : ∀ w ∈ fc_all, w.before _ s = true := fun w h => hts w (List.mem_cons_of_mem _ h)
  have hown : s.vm.findClass RX4 = some m.cls := findClass_of_methodNamed B.named
  have hlocks := B.notSynchronized
  have hP : va_P (dC, dI) vwCl [(h0, .inr (1, [.int (jb h0_nan), .int (jb h0_infinite), .long h0_sign, .long h0_exponent, .long h0_magnitude]))] s.heap := hP
  have hl := lv_entry ([.ref h0]) (n := 1) (Nat.le_of_ble_eq_true rfl)
  rw [lg_entry_eq]
  generalize (lg_sl ([.ref h0]) ++ List.replicate (1 - (lg_sl ([.ref h0])).length) Slot.unset).toArray = ls at hl ⊢
  have hl : lv_has ls 1 [(0, .ref h0)] := hl
  refine lv_aload_n hx hb dX4_isZero_0 rfl (lv_at hl 0 rfl) ?_
  refine va_get (D := (dC, dI)) (ci := 1) (v := .int (jb h0_nan)) (C := RX4) (T := TX4) (N := 5) hx hb htf hiX4 hown hK hP 0 rfl rfl 0 (by decide) (htf _ wk134) (fun _ h9 => h9) rfl dX4_isZero_1 ?_
  refine lv_if_ne (tgt := 30) hx hb dX4_isZero_4 (by decide) (fun c1 => ?_) (fun c1 => ?_)
  · refine lv_iconst (v := 0) hx hb dX4_isZero_30 (by decide) ?_
    exact W.zret (v := jb false) (ty := .boolean) hx hb hr (jb_n _) (fun t ht hW => ⟨congrArg (fun z => Outcome.returned (some (Value.int (jb z)))) (show false = fm_X4_isZero h0_nan h0_infinite h0_sign h0_exponent h0_magnitude from by first | (simp only [fm_X4_isZero, if_neg c1]; done) | contradiction), ht⟩) (fun q h => nomatch h) dX4_isZero_31
  · refine lv_aload_n hx hb dX4_isZero_7 rfl (lv_at hl 0 rfl) ?_
    refine va_get (D := (dC, dI)) (ci := 1) (v := .int (jb h0_infinite)) (C := RX4) (T := TX4) (N := 5) hx hb htf hiX4 hown hK hP 0 rfl rfl 1 (by decide) (htf _ wk138) (fun _ h9 => h9) rfl dX4_isZero_8 ?_
    refine lv_if_ne (tgt := 30) hx hb dX4_isZero_11 (by decide) (fun c2 => ?_) (fun c2 => ?_)
    · refine lv_iconst (v := 0) hx hb dX4_isZero_30 (by decide) ?_
      exact W.zret (v := jb false) (ty := .boolean) hx hb hr (jb_n _) (fun t ht hW => ⟨congrArg (fun z => Outcome.returned (some (Value.int (jb z)))) (show false = fm_X4_isZero h0_nan h0_infinite h0_sign h0_exponent h0_magnitude from by first | (simp only [fm_X4_isZero, if_pos c1, if_neg c2]; done) | contradiction), ht⟩) (fun q h => nomatch h) dX4_isZero_31
    · refine lv_aload_n hx hb dX4_isZero_14 rfl (lv_at hl 0 rfl) ?_
      refine va_get (D := (dC, dI)) (ci := 1) (v := .long h0_magnitude) (C := RX4) (T := TX4) (N := 5) hx hb htf hiX4 hown hK hP 0 rfl rfl 4 (by decide) (htf _ wk151) (fun _ h9 => h9) rfl dX4_isZero_15 ?_
      refine fw_call (va_runS (As := [.long h0_magnitude]) (rest := []) ⟨hx, hb, hml, hown, htf⟩ (k_X1_any l h0_magnitude) (va_cwS 1 htf (gd_S wk212 wk157 wk8 wk158) rfl rfl rfl ndX1_any ⟨Nat.le_of_ble_eq_true rfl, Nat.le_of_ble_eq_true rfl⟩) fw_PS rfl rfl hl.1 rfl (lv_room (Nat.le_of_ble_eq_true rfl)) dX4_isZero_18 ⟨Nat.le_refl _, Nat.le_refl _⟩) ?_
      refine lv_lconst (v := 0) hx hb dX4_isZero_21 (by decide) ?_
      refine W.lcmp hx hb dX4_isZero_22 ?_
      refine lv_if_ne (tgt := 30) hx hb dX4_isZero_23 (by decide) (fun c3 => ?_) (fun c3 => ?_)
      · refine lv_iconst (v := 0) hx hb dX4_isZero_30 (by decide) ?_
        exact W.zret (v := jb false) (ty := .boolean) hx hb hr (jb_n _) (fun t ht hW => ⟨congrArg (fun z => Outcome.returned (some (Value.int (jb z)))) (show false = fm_X4_isZero h0_nan h0_infinite h0_sign h0_exponent h0_magnitude from by first | (simp only [fm_X4_isZero, if_pos c1, if_pos c2, if_neg c3]; done) | contradiction), ht⟩) (fun q h => nomatch h) dX4_isZero_31
      · refine lv_iconst (v := 1) hx hb dX4_isZero_26 (by decide) ?_
        refine lv_goto (tgt := 31) hx hb dX4_isZero_27 (by decide) ?_
        exact W.zret (v := jb true) (ty := .boolean) hx hb hr (jb_n _) (fun t ht hW => ⟨congrArg (fun z => Outcome.returned (some (Value.int (jb z)))) (show true = fm_X4_isZero h0_nan h0_infinite h0_sign h0_exponent h0_magnitude from by first | (simp only [fm_X4_isZero, if_pos c1, if_pos c2, if_pos c3]; done) | contradiction), ht⟩) (fun q h => nomatch h) dX4_isZero_31
theorem ndX3_round : yX3_round.cls ≠ "java/lang/invoke/MethodHandle" ∧ yX3_round.cls ≠ "java/lang/invoke/VarHandle" ∧ (parseMethodDescriptor yX3_round.desc).map (fun d => d.parameters.length) = some 3 := by decide +kernel
def fm_X3_round (p0 : Int32) (h1_nan : Bool) (h1_infinite : Bool) (h1_sign : Int64) (h1_exponent : Int64) (h1_magnitude : Int64) (p2 : Int64) : Int64 := let x1 := fg_diff p2 h1_exponent; let x2 := fc_shl h1_magnitude 2; let x3 := fg_sl x2 (fg_negif 1 x1); let x4 := fg_sr x2 x1; let x5 := fg_choose (fg_neg x1) x3 x4; let x6 := fc_ushr x5 2; fg_sum x6 (fm_X3_oneMore p0 h1_sign (x6 &&& 1) ((fc_ushr x5 1) &&& 1) (x5 &&& 1))
set_option maxHeartbeats 4000000 in
set_option maxRecDepth 100000 in
theorem k_X3_round (l : Launch) (dC : Nat → ClassId) (dI : Nat → Nat → Nat) (p0 : Int32) (h1 : Nat) (h1_nan : Bool) (h1_infinite : Bool) (h1_sign : Int64) (h1_exponent : Int64) (h1_magnitude : Int64) (p2 : Int64) : Met l yX3_round wsX3_round { frames := 3, cells := 0, slots := 0, locals := 77 } (fw_R (dC, dI) vwCl [(h1, .inr (1, [.int (jb h1_nan), .int (jb h1_infinite), .long h1_sign, .long h1_exponent, .long h1_magnitude]))] [.int p0, .ref h1, .long p2]) (fw_Q (.long (fm_X3_round p0 h1_nan h1_infinite h1_sign h1_exponent h1_magnitude p2))) 0 0 (fun _ => False) := by
  refine Met.ofW (cc := cX3_round) (maxL := 16) (ret := (some .long)) (by decide) rfl ?_
  intro p e s m args below meth c s₁ B hml hv
  obtain ⟨rfl, hP, hK⟩ := hv
  have hx := B.exec
  have hb := B.bytes
  have hr := B.returns
  have hts := atoms_spec (ws := wsX3_round) B.pre
  have htf : ∀ w ∈ fc_all, w.before _ s = true := fun w h => hts w (List.mem_cons_of_mem _ h)
  have hown : s.vm.findClass RX3 = some m.cls := findClass_of_methodNamed B.named
  have hlocks := B.notSynchronized
  have hP : va_P (dC, dI) vwCl [(h1, .inr (1, [.int (jb h1_nan), .int (jb h1_infinite), .long h1_sign, .long h1_exponent, .long h1_magnitude]))] s.heap := hP
  have hl := lv_entry ([.int p0, .ref h1, .long p2]) (n := 16) (Nat.le_of_ble_eq_true rfl)
  rw [lg_entry_eq]
  generalize (lg_sl ([.int p0, .ref h1, .long p2]) ++ List.replicate (16 - (lg_sl ([.int p0, .ref h1, .long p2])).length) Slot.unset).toArray = ls at hl ⊢
  have hl : lv_has ls 16 [(0, .int p0), (1, .ref h1), (2, .long p2)] := hl
  refine lv_lload_n hx hb dX3_round_0 rfl (lv_at hl 2 rfl) ?_
  refine lv_aload_n hx hb dX3_round_1 rfl (lv_at hl 1 rfl) ?_
  refine va_get (D := (dC, dI)) (ci := 1) (v := .long h1_exponent) (C := RX4) (T := TX4) (N := 5) hx hb htf hiX4 hown hK hP 0 rfl rfl 3 (by decide) (htf _ wk148) (fun _ h9 => h9) rfl dX3_round_2 ?_
  refine fw_call (va_runS (As := [.long p2, .long h1_exponent]) (rest := []) ⟨hx, hb, hml, hown, htf⟩ (k_X1_difference l p2 h1_exponent) (va_cwS 2 htf (gd_S wk224 wk116 wk8 wk117) rfl rfl rfl ndX1_difference ⟨Nat.le_of_ble_eq_true rfl, Nat.le_of_ble_eq_true rfl⟩) fw_PS rfl rfl hl.1 rfl (lv_room (Nat.le_of_ble_eq_true rfl)) dX3_round_5 ⟨Nat.le_refl _, Nat.le_refl _⟩) ?_
  refine lv_topl (fun x1 ex1 => ?_)
  refine lv_lstore (lv' := [(4, .long x1), (0, .int p0), (1, .ref h1), (2, .long p2)]) hx hb dX3_round_8 hl (by decide) rfl (fun ls hl => ?_)
  refine lv_aload_n hx hb dX3_round_10 rfl (lv_at hl 2 rfl) ?_
  refine va_get (D := (dC, dI)) (ci := 1) (v := .long h1_magnitude) (C := RX4) (T := TX4) (N := 5) hx hb htf hiX4 hown hK hP 0 rfl rfl 4 (by decide) (htf _ wk152) (fun _ h9 => h9) rfl dX3_round_11 ?_
  refine lv_iconst (v := 2) hx hb dX3_round_14 (by decide) ?_
  refine lv_lshl (v := fc_shl h1_magnitude 2) hx hb dX3_round_15 rfl ?_
  refine lv_topl (fun x2 ex2 => ?_)
  refine lv_lstore (lv' := [(6, .long x2), (4, .long x1), (0, .int p0), (1, .ref h1), (2, .long p2)]) hx hb dX3_round_16 hl (by decide) rfl (fun ls hl => ?_)
  refine lv_lload hx hb dX3_round_18 (lv_at hl 0 rfl) ?_
  refine lv_lconst (v := 1) hx hb dX3_round_20 (by decide) ?_
  refine lv_lload hx hb dX3_round_21 (lv_at hl 1 rfl) ?_
  refine fw_call (va_runS (As := [.long 1, .long x1]) (rest := [.long x2]) ⟨hx, hb, hml, hown, htf⟩ (k_X1_negateIf l 1 x1) (va_cwS 2 htf (gd_S wk225 wk192 wk8 wk193) rfl rfl rfl ndX1_negateIf ⟨Nat.le_of_ble_eq_true rfl, Nat.le_of_ble_eq_true rfl⟩) fw_PS rfl rfl hl.1 rfl (lv_room (Nat.le_of_ble_eq_true rfl)) dX3_round_23 ⟨Nat.le_refl _, Nat.le_refl _⟩) ?_
  refine fw_call (va_runS (As := [.long x2, .long (fg_negif 1 x1)]) (rest := []) ⟨hx, hb, hml, hown, htf⟩ (k_X1_shiftLeft l x2 (fg_negif 1 x1)) (va_cwS 2 htf (gd_S wk226 wk188 wk8 wk189) rfl rfl rfl ndX1_shiftLeft ⟨Nat.le_of_ble_eq_true rfl, Nat.le_of_ble_eq_true rfl⟩) fw_PS rfl rfl hl.1 rfl (lv_room (Nat.le_of_ble_eq_true rfl)) dX3_round_26 ⟨Nat.le_refl _, Nat.le_refl _⟩) ?_
  refine lv_topl (fun x3 ex3 => ?_)
  refine lv_lstore (lv' := [(8, .long x3), (6, .long x2), (4, .long x1), (0, .int p0), (1, .ref h1), (2, .long p2)]) hx hb dX3_round_29 hl (by decide) rfl (fun ls hl => ?_)
  refine lv_lload hx hb dX3_round_31 (lv_at hl 1 rfl) ?_
  refine lv_lload hx hb dX3_round_33 (lv_at hl 2 rfl) ?_
  refine fw_call (va_runS (As := [.long x2, .long x1]) (rest := []) ⟨hx, hb, hml, hown, htf⟩ (k_X1_shiftRightMarking l x2 x1) (va_cwS 2 htf (gd_S wk227 wk228 wk8 wk229) rfl rfl rfl ndX1_shiftRightMarking ⟨Nat.le_of_ble_eq_true rfl, Nat.le_of_ble_eq_true rfl⟩) fw_PS rfl rfl hl.1 rfl (lv_room (Nat.le_of_ble_eq_true rfl)) dX3_round_35 ⟨Nat.le_refl _, Nat.le_refl _⟩) ?_
  refine lv_topl (fun x4 ex4 => ?_)
  refine lv_lstore (lv' := [(10, .long x4), (8, .long x3), (6, .long x2), (4, .long x1), (0, .int p0), (1, .ref h1), (2, .long p2)]) hx hb dX3_round_38 hl (by decide) rfl (fun ls hl => ?_)
  refine lv_lload hx hb dX3_round_40 (lv_at hl 3 rfl) ?_
  refine fw_call (va_runS (As := [.long x1]) (rest := []) ⟨hx, hb, hml, hown, htf⟩ (k_X1_isNegative l x1) (va_cwS 1 htf (gd_S wk231 wk123 wk8 wk124) rfl rfl rfl ndX1_isNegative ⟨Nat.le_of_ble_eq_true rfl, Nat.le_of_ble_eq_true rfl⟩) fw_PS rfl rfl hl.1 rfl (lv_room (Nat.le_of_ble_eq_true rfl)) dX3_round_42 ⟨Nat.le_refl _, Nat.le_refl _⟩) ?_
  refine lv_lload hx hb dX3_round_45 (lv_at hl 1 rfl) ?_
  refine lv_lload hx hb dX3_round_47 (lv_at hl 0 rfl) ?_
  refine fw_call (va_runS (As := [.long (fg_neg x1), .long x3, .long x4]) (rest := []) ⟨hx, hb, hml, hown, htf⟩ (k_X1_choose l (fg_neg x1) x3 x4) (va_cwS 3 htf (gd_S wk232 wk178 wk8 wk179) rfl rfl rfl ndX1_choose ⟨Nat.le_of_ble_eq_true rfl, Nat.le_of_ble_eq_true rfl⟩) fw_PS rfl rfl hl.1 rfl (lv_room (Nat.le_of_ble_eq_true rfl)) dX3_round_49 ⟨Nat.le_refl _, Nat.le_refl _⟩) ?_
  refine lv_topl (fun x5 ex5 => ?_)
  refine lv_lstore (lv' := [(12, .long x5), (10, .long x4), (8, .long x3), (6, .long x2), (4, .long x1), (0, .int p0), (1, .ref h1), (2, .long p2)]) hx hb dX3_round_52 hl (by decide) rfl (fun ls hl => ?_)
  refine lv_lload hx hb dX3_round_54 (lv_at hl 0 rfl) ?_
  refine lv_iconst (v := 2) hx hb dX3_round_56 (by decide) ?_
  refine lv_lushr (v := fc_ushr x5 2) hx hb dX3_round_57 rfl ?_
  refine lv_topl (fun x6 ex6 => ?_)
  refine lv_lstore (lv' := [(14, .long x6), (12, .long x5), (10, .long x4), (8, .long x3), (6, .long x2), (4, .long x1), (0, .int p0), (1, .ref h1), (2, .long p2)]) hx hb dX3_round_58 hl (by decide) rfl (fun ls hl => ?_)
  refine lv_lload hx hb dX3_round_60 (lv_at hl 0 rfl) ?_
  refine lv_iload_n hx hb dX3_round_62 rfl (lv_at hl 6 rfl) ?_
  refine lv_aload_n hx hb dX3_round_63 rfl (lv_at hl 7 rfl) ?_
  refine va_get (D := (dC, dI)) (ci := 1) (v := .long h1_sign) (C := RX4) (T := TX4) (N := 5) hx hb htf hiX4 hown hK hP 0 rfl rfl 2 (by decide) (htf _ wk144) (fun _ h9 => h9) rfl dX3_round_64 ?_
  refine lv_lload hx hb dX3_round_67 (lv_at hl 0 rfl) ?_
  refine lv_lconst (v := 1) hx hb dX3_round_69 (by decide) ?_
  refine lv_land hx hb dX3_round_70 ?_
  refine lv_lload hx hb dX3_round_71 (lv_at hl 1 rfl) ?_
  refine lv_iconst (v := 1) hx hb dX3_round_73 (by decide) ?_
  refine lv_lushr (v := fc_ushr x5 1) hx hb dX3_round_74 rfl ?_
  refine lv_lconst (v := 1) hx hb dX3_round_75 (by decide) ?_
  refine lv_land hx hb dX3_round_76 ?_
  refine lv_lload hx hb dX3_round_77 (lv_at hl 1 rfl) ?_
  refine lv_lconst (v := 1) hx hb dX3_round_79 (by decide) ?_
  refine lv_land hx hb dX3_round_80 ?_
  refine fw_call (va_runS (As := [.int p0, .long h1_sign, .long (x6 &&& 1), .long ((fc_ushr x5 1) &&& 1), .long (x5 &&& 1)]) (rest := [.long x6]) ⟨hx, hb, hml, hown, htf⟩ (k_X3_oneMore l p0 h1_sign (x6 &&& 1) ((fc_ushr x5 1) &&& 1) (x5 &&& 1)) (va_cwS 5 htf (gd_S wk233 wk234 wk11 wk235) rfl rfl rfl ndX3_oneMore ⟨Nat.le_of_ble_eq_true rfl, Nat.le_of_ble_eq_true rfl⟩) fw_PS rfl rfl hl.1 rfl (lv_room (Nat.le_of_ble_eq_true rfl)) dX3_round_81 ⟨Nat.le_refl _, Nat.le_refl _⟩) ?_
  refine fw_call (va_runS (As := [.long x6, .long (fm_X3_oneMore p0 h1_sign (x6 &&& 1) ((fc_ushr x5 1) &&& 1) (x5 &&& 1))]) (rest := []) ⟨hx, hb, hml, hown, htf⟩ (k_X1_sum l x6 (fm_X3_oneMore p0 h1_sign (x6 &&& 1) ((fc_ushr x5 1) &&& 1) (x5 &&& 1))) (va_cwS 2 htf (gd_S wk236 wk167 wk8 wk168) rfl rfl rfl ndX1_sum ⟨Nat.le_of_ble_eq_true rfl, Nat.le_of_ble_eq_true rfl⟩) fw_PS rfl rfl hl.1 rfl (lv_room (Nat.le_of_ble_eq_true rfl)) dX3_round_84 ⟨Nat.le_refl _, Nat.le_refl _⟩) ?_
  exact W.lret (v := fg_sum x6 (fm_X3_oneMore p0 h1_sign (x6 &&& 1) ((fc_ushr x5 1) &&& 1) (x5 &&& 1))) hx hb hr (fun t ht hW => ⟨congrArg (fun z => Outcome.returned (some (Value.long z))) (show fg_sum x6 (fm_X3_oneMore p0 h1_sign (x6 &&& 1) ((fc_ushr x5 1) &&& 1) (x5 &&& 1)) = fm_X3_round p0 h1_nan h1_infinite h1_sign h1_exponent h1_magnitude p2 from by subst ex6 ex5 ex4 ex3 ex2 ex1; rfl), ht⟩) (fun q h => nomatch h) dX3_round_87
theorem ndX2_signedAt : yX2_signedAt.cls ≠ "java/lang/invoke/MethodHandle" ∧ yX2_signedAt.cls ≠ "java/lang/invoke/VarHandle" ∧ (parseMethodDescriptor yX2_signedAt.desc).map (fun d => d.parameters.length) = some 2 := by decide +kernel
def fm_X2_signedAt (p0 : Int64) (h1_nan : Bool) (h1_infinite : Bool) (h1_sign : Int64) (h1_exponent : Int64) (h1_magnitude : Int64) : Int64 := let x1 := fg_diff h1_exponent p0; fg_negif h1_sign (fg_sl h1_magnitude x1)
set_option maxHeartbeats 4000000 in
set_option maxRecDepth 100000 in
theorem k_X2_signedAt (l : Launch) (dC : Nat → ClassId) (dI : Nat → Nat → Nat) (p0 : Int64) (h1 : Nat) (h1_nan : Bool) (h1_infinite : Bool) (h1_sign : Int64) (h1_exponent : Int64) (h1_magnitude : Int64) : Met l yX2_signedAt wsX2_signedAt { frames := 3, cells := 0, slots := 0, locals := 74 } (fw_R (dC, dI) vwCl [(h1, .inr (1, [.int (jb h1_nan), .int (jb h1_infinite), .long h1_sign, .long h1_exponent, .long h1_magnitude]))] [.long p0, .ref h1]) (fw_Q (.long (fm_X2_signedAt p0 h1_nan h1_infinite h1_sign h1_exponent h1_magnitude))) 0 0 (fun _ => False) := by
  refine Met.ofW (cc := cX2_signedAt) (maxL := 5) (ret := (some .long)) (by decide) rfl ?_
  intro p e s m args below meth c s₁ B hml hv
  obtain ⟨rfl, hP, hK⟩ := hv
  have hx := B.exec
  have hb := B.bytes
  have hr := B.returns
  have hts := atoms_spec (ws := wsX2_signedAt) B.pre
  have htf : ∀ w ∈ fc_all, w.before _ s = true := fun w h => hts w (List.mem_cons_of_mem _ h)
  have hown : s.vm.findClass RX2 = some m.cls := findClass_of_methodNamed B.named
  have hlocks := B.notSynchronized
  have hP : va_P (dC, dI) vwCl [(h1, .inr (1, [.int (jb h1_nan), .int (jb h1_infinite), .long h1_sign, .long h1_exponent, .long h1_magnitude]))] s.heap := hP
  have hl := lv_entry ([.long p0, .ref h1]) (n := 5) (Nat.le_of_ble_eq_true rfl)
  rw [lg_entry_eq]
  generalize (lg_sl ([.long p0, .ref h1]) ++ List.replicate (5 - (lg_sl ([.long p0, .ref h1])).length) Slot.unset).toArray = ls at hl ⊢
  have hl : lv_has ls 5 [(0, .long p0), (2, .ref h1)] := hl
  refine lv_aload_n hx hb dX2_signedAt_0 rfl (lv_at hl 1 rfl) ?_
  refine va_get (D := (dC, dI)) (ci := 1) (v := .long h1_exponent) (C := RX4) (T := TX4) (N := 5) hx hb htf hiX4 hown hK hP 0 rfl rfl 3 (by decide) (htf _ wk149) (fun _ h9 => h9) rfl dX2_signedAt_1 ?_
  refine lv_lload_n hx hb dX2_signedAt_4 rfl (lv_at hl 0 rfl) ?_
  refine fw_call (va_runS (As := [.long h1_exponent, .long p0]) (rest := []) ⟨hx, hb, hml, hown, htf⟩ (k_X1_difference l h1_exponent p0) (va_cwS 2 htf (gd_S wk186 wk116 wk8 wk117) rfl rfl rfl ndX1_difference ⟨Nat.le_of_ble_eq_true rfl, Nat.le_of_ble_eq_true rfl⟩) fw_PS rfl rfl hl.1 rfl (lv_room (Nat.le_of_ble_eq_true rfl)) dX2_signedAt_5 ⟨Nat.le_refl _, Nat.le_refl _⟩) ?_
  refine lv_topl (fun x1 ex1 => ?_)
  refine lv_lstore_n (lv' := [(3, .long x1), (0, .long p0), (2, .ref h1)]) hx hb dX2_signedAt_8 rfl hl (by decide) rfl (fun ls hl => ?_)
  refine lv_aload_n hx hb dX2_signedAt_9 rfl (lv_at hl 2 rfl) ?_
  refine va_get (D := (dC, dI)) (ci := 1) (v := .long h1_sign) (C := RX4) (T := TX4) (N := 5) hx hb htf hiX4 hown hK hP 0 rfl rfl 2 (by decide) (htf _ wk143) (fun _ h9 => h9) rfl dX2_signedAt_10 ?_
  refine lv_aload_n hx hb dX2_signedAt_13 rfl (lv_at hl 2 rfl) ?_
  refine va_get (D := (dC, dI)) (ci := 1) (v := .long h1_magnitude) (C := RX4) (T := TX4) (N := 5) hx hb htf hiX4 hown hK hP 0 rfl rfl 4 (by decide) (htf _ wk153) (fun _ h9 => h9) rfl dX2_signedAt_14 ?_
  refine lv_lload_n hx hb dX2_signedAt_17 rfl (lv_at hl 0 rfl) ?_
  refine fw_call (va_runS (As := [.long h1_magnitude, .long x1]) (rest := [.long h1_sign]) ⟨hx, hb, hml, hown, htf⟩ (k_X1_shiftLeft l h1_magnitude x1) (va_cwS 2 htf (gd_S wk187 wk188 wk8 wk189) rfl rfl rfl ndX1_shiftLeft ⟨Nat.le_of_ble_eq_true rfl, Nat.le_of_ble_eq_true rfl⟩) fw_PS rfl rfl hl.1 rfl (lv_room (Nat.le_of_ble_eq_true rfl)) dX2_signedAt_18 ⟨Nat.le_refl _, Nat.le_refl _⟩) ?_
  refine fw_call (va_runS (As := [.long h1_sign, .long (fg_sl h1_magnitude x1)]) (rest := []) ⟨hx, hb, hml, hown, htf⟩ (k_X1_negateIf l h1_sign (fg_sl h1_magnitude x1)) (va_cwS 2 htf (gd_S wk191 wk192 wk8 wk193) rfl rfl rfl ndX1_negateIf ⟨Nat.le_of_ble_eq_true rfl, Nat.le_of_ble_eq_true rfl⟩) fw_PS rfl rfl hl.1 rfl (lv_room (Nat.le_of_ble_eq_true rfl)) dX2_signedAt_21 ⟨Nat.le_refl _, Nat.le_refl _⟩) ?_
  exact W.lret (v := fg_negif h1_sign (fg_sl h1_magnitude x1)) hx hb hr (fun t ht hW => ⟨congrArg (fun z => Outcome.returned (some (Value.long z))) (show fg_negif h1_sign (fg_sl h1_magnitude x1) = fm_X2_signedAt p0 h1_nan h1_infinite h1_sign h1_exponent h1_magnitude from by subst ex1; rfl), ht⟩) (fun q h => nomatch h) dX2_signedAt_24
theorem ndX2_signOfZeroSum : yX2_signOfZeroSum.cls ≠ "java/lang/invoke/MethodHandle" ∧ yX2_signOfZeroSum.cls ≠ "java/lang/invoke/VarHandle" ∧ (parseMethodDescriptor yX2_signOfZeroSum.desc).map (fun d => d.parameters.length) = some 3 := by decide +kernel
def fm_X2_signOfZeroSum (p0 : Int32) (p1 : Int64) (p2 : Int64) : Int64 := if p0 = 3 then (p1 ||| p2) else (p1 &&& p2)
set_option maxHeartbeats 4000000 in
set_option maxRecDepth 100000 in
theorem k_X2_signOfZeroSum (l : Launch) (p0 : Int32) (p1 : Int64) (p2 : Int64) : Met l yX2_signOfZeroSum wsX2_signOfZeroSum { frames := 0, cells := 0, slots := 0, locals := 0 } (fw_P [.int p0, .long p1, .long p2]) (fw_Q (.long (fm_X2_signOfZeroSum p0 p1 p2))) 0 0 (fun _ => False) := by
  refine Met.ofW (cc := cX2_signOfZeroSum) (maxL := 5) (ret := (some .long)) (by decide) rfl ?_
  intro p e s m args below meth c s₁ B hml hv
  obtain ⟨rfl, -⟩ := hv
  have hx := B.exec
  have hb := B.bytes
  have hr := B.returns
  have hts := atoms_spec (ws := wsX2_signOfZeroSum) B.pre
  have htf : ∀ w ∈ fc_all, w.before _ s = true := fun w h => hts w (List.mem_cons_of_mem _ h)
  have hown : s.vm.findClass RX2 = some m.cls := findClass_of_methodNamed B.named
  have hlocks := B.notSynchronized
  have hl := lv_entry ([.int p0, .long p1, .long p2]) (n := 5) (Nat.le_of_ble_eq_true rfl)
  rw [lg_entry_eq]
  generalize (lg_sl ([.int p0, .long p1, .long p2]) ++ List.replicate (5 - (lg_sl ([.int p0, .long p1, .long p2])).length) Slot.unset).toArray = ls at hl ⊢
  have hl : lv_has ls 5 [(0, .int p0), (1, .long p1), (3, .long p2)] := hl
  refine lv_iload_n hx hb dX2_signOfZeroSum_0 rfl (lv_at hl 0 rfl) ?_
  refine lv_iconst (v := 3) hx hb dX2_signOfZeroSum_1 (by decide) ?_
  refine lv_icmp_ne (tgt := 11) hx hb dX2_signOfZeroSum_2 (by decide) (fun c1 => ?_) (fun c1 => ?_)
  · refine lv_lload_n hx hb dX2_signOfZeroSum_11 rfl (lv_at hl 1 rfl) ?_
    refine lv_lload_n hx hb dX2_signOfZeroSum_12 rfl (lv_at hl 2 rfl) ?_
    refine lv_land hx hb dX2_signOfZeroSum_13 ?_
    exact W.lret (v := p1 &&& p2) hx hb hr (fun t ht hW => ⟨congrArg (fun z => Outcome.returned (some (Value.long z))) (show p1 &&& p2 = fm_X2_signOfZeroSum p0 p1 p2 from by first | (simp only [fm_X2_signOfZeroSum, if_neg c1]; done) | contradiction), ht⟩) (fun q h => nomatch h) dX2_signOfZeroSum_14
  · refine lv_lload_n hx hb dX2_signOfZeroSum_5 rfl (lv_at hl 1 rfl) ?_
    refine lv_lload_n hx hb dX2_signOfZeroSum_6 rfl (lv_at hl 2 rfl) ?_
    refine lv_lor hx hb dX2_signOfZeroSum_7 ?_
    refine lv_goto (tgt := 14) hx hb dX2_signOfZeroSum_8 (by decide) ?_
    exact W.lret (v := p1 ||| p2) hx hb hr (fun t ht hW => ⟨congrArg (fun z => Outcome.returned (some (Value.long z))) (show p1 ||| p2 = fm_X2_signOfZeroSum p0 p1 p2 from by first | (simp only [fm_X2_signOfZeroSum, if_pos c1]; done) | contradiction), ht⟩) (fun q h => nomatch h) dX2_signOfZeroSum_14
theorem ndX0_unsigned : yX0_unsigned.cls = RX0 ∧ yX0_unsigned.cls ≠ "java/lang/invoke/MethodHandle" ∧ yX0_unsigned.cls ≠ "java/lang/invoke/VarHandle" ∧ (parseMethodDescriptor yX0_unsigned.desc).map (fun d => d.parameters.length) = some 1 := by decide +kernel
def fm_X0_unsigned (h0_width : Int32) (h0_fractionBits : Int32) (h0_signBit : Int32) (h0_infinity : Int32) (h0_nan : Int32) (h0_finest : Int32) (p1 : Int32) : Int64 := (p1 &&& (h0_signBit - 1)).toInt64
set_option maxHeartbeats 4000000 in
set_option maxRecDepth 100000 in
theorem k_X0_unsigned (l : Launch) (dC : Nat → ClassId) (dI : Nat → Nat → Nat) (h0 : Nat) (h0_width : Int32) (h0_fractionBits : Int32) (h0_signBit : Int32) (h0_infinity : Int32) (h0_nan : Int32) (h0_finest : Int32) (p1 : Int32) : Met l yX0_unsigned wsX0_unsigned { frames := 0, cells := 0, slots := 0, locals := 0 } (fw_R (dC, dI) vwCl [(h0, .inr (0, [.int h0_width, .int h0_fractionBits, .int h0_signBit, .int h0_infinity, .int h0_nan, .int h0_finest]))] [.ref h0, .int p1]) (fw_Q (.long (fm_X0_unsigned h0_width h0_fractionBits h0_signBit h0_infinity h0_nan h0_finest p1))) 0 0 (fun _ => False) := by
  refine Met.ofW (cc := cX0_unsigned) (maxL := 2) (ret := (some .long)) (by decide) rfl ?_
  intro p e s m args below meth c s₁ B hml hv
  obtain ⟨rfl, hP, hK⟩ := hv
  have hx := B.exec
  have hb := B.bytes
  have hr := B.returns
  have hts := atoms_spec (ws := wsX0_unsigned) B.pre
  have htf : ∀ w ∈ fc_all, w.before _ s = true := fun w h => hts w (List.mem_cons_of_mem _ h)
  have hown : s.vm.findClass RX0 = some m.cls := findClass_of_methodNamed B.named
  have hlocks := B.notSynchronized
  have hP : va_P (dC, dI) vwCl [(h0, .inr (0, [.int h0_width, .int h0_fractionBits, .int h0_signBit, .int h0_infinity, .int h0_nan, .int h0_finest]))] s.heap := hP
  have hl := lv_entry ([.ref h0, .int p1]) (n := 2) (Nat.le_of_ble_eq_true rfl)
  rw [lg_entry_eq]
  generalize (lg_sl ([.ref h0, .int p1]) ++ List.replicate (2 - (lg_sl ([.ref h0, .int p1])).length) Slot.unset).toArray = ls at hl ⊢
  have hl : lv_has ls 2 [(0, .ref h0), (1, .int p1)] := hl
  refine lv_iload_n hx hb dX0_unsigned_0 rfl (lv_at hl 1 rfl) ?_
  refine lv_aload_n hx hb dX0_unsigned_1 rfl (lv_at hl 0 rfl) ?_
  refine va_get (D := (dC, dI)) (ci := 0) (v := .int h0_signBit) (C := RX0) (T := TX0) (N := 6) hx hb htf hiX0 hown hK hP 0 rfl rfl 2 (by decide) (htf _ wk31) (fun _ h9 => h9) rfl dX0_unsigned_2 ?_
  refine lv_iconst (v := 1) hx hb dX0_unsigned_5 (by decide) ?_
  refine lv_isub hx hb dX0_unsigned_6 ?_
  refine lv_iand hx hb dX0_unsigned_7 ?_
  refine lv_i2l (v := (p1 &&& (h0_signBit - 1)).toInt64) hx hb dX0_unsigned_8 rfl ?_
  exact W.lret (v := (p1 &&& (h0_signBit - 1)).toInt64) hx hb hr (fun t ht hW => ⟨congrArg (fun z => Outcome.returned (some (Value.long z))) (show (p1 &&& (h0_signBit - 1)).toInt64 = fm_X0_unsigned h0_width h0_fractionBits h0_signBit h0_infinity h0_nan h0_finest p1 from by rfl), ht⟩) (fun q h => nomatch h) dX0_unsigned_9
theorem ndX0_signOf : yX0_signOf.cls = RX0 ∧ yX0_signOf.cls ≠ "java/lang/invoke/MethodHandle" ∧ yX0_signOf.cls ≠ "java/lang/invoke/VarHandle" ∧ (parseMethodDescriptor yX0_signOf.desc).map (fun d => d.parameters.length) = some 1 := by decide +kernel
def fm_X0_signOf (h0_width : Int32) (h0_fractionBits : Int32) (h0_signBit : Int32) (h0_infinity : Int32) (h0_nan : Int32) (h0_finest : Int32) (p1 : Int32) : Int64 := ((fc_iushr p1 (h0_width - 1)) &&& 1).toInt64
set_option maxHeartbeats 4000000 in
set_option maxRecDepth 100000 in
theorem k_X0_signOf (l : Launch) (dC : Nat → ClassId) (dI : Nat → Nat → Nat) (h0 : Nat) (h0_width : Int32) (h0_fractionBits : Int32) (h0_signBit : Int32) (h0_infinity : Int32) (h0_nan : Int32) (h0_finest : Int32) (p1 : Int32) : Met l yX0_signOf wsX0_signOf { frames := 0, cells := 0, slots := 0, locals := 0 } (fw_R (dC, dI) vwCl [(h0, .inr (0, [.int h0_width, .int h0_fractionBits, .int h0_signBit, .int h0_infinity, .int h0_nan, .int h0_finest]))] [.ref h0, .int p1]) (fw_Q (.long (fm_X0_signOf h0_width h0_fractionBits h0_signBit h0_infinity h0_nan h0_finest p1))) 0 0 (fun _ => False) := by
  refine Met.ofW (cc := cX0_signOf) (maxL := 2) (ret := (some .long)) (by decide) rfl ?_
  intro p e s m args below meth c s₁ B hml hv
  obtain ⟨rfl, hP, hK⟩ := hv
  have hx := B.exec
  have hb := B.bytes
  have hr := B.returns
  have hts := atoms_spec (ws := wsX0_signOf) B.pre
  have htf : ∀ w ∈ fc_all, w.before _ s = true := fun w h => hts w (List.mem_cons_of_mem _ h)
  have hown : s.vm.findClass RX0 = some m.cls := findClass_of_methodNamed B.named
  have hlocks := B.notSynchronized
  have hP : va_P (dC, dI) vwCl [(h0, .inr (0, [.int h0_width, .int h0_fractionBits, .int h0_signBit, .int h0_infinity, .int h0_nan, .int h0_finest]))] s.heap := hP
  have hl := lv_entry ([.ref h0, .int p1]) (n := 2) (Nat.le_of_ble_eq_true rfl)
  rw [lg_entry_eq]
  generalize (lg_sl ([.ref h0, .int p1]) ++ List.replicate (2 - (lg_sl ([.ref h0, .int p1])).length) Slot.unset).toArray = ls at hl ⊢
  have hl : lv_has ls 2 [(0, .ref h0), (1, .int p1)] := hl
  refine lv_iload_n hx hb dX0_signOf_0 rfl (lv_at hl 1 rfl) ?_
  refine lv_aload_n hx hb dX0_signOf_1 rfl (lv_at hl 0 rfl) ?_
  refine va_get (D := (dC, dI)) (ci := 0) (v := .int h0_width) (C := RX0) (T := TX0) (N := 6) hx hb htf hiX0 hown hK hP 0 rfl rfl 0 (by decide) (htf _ wk28) (fun _ h9 => h9) rfl dX0_signOf_2 ?_
  refine lv_iconst (v := 1) hx hb dX0_signOf_5 (by decide) ?_
  refine lv_isub hx hb dX0_signOf_6 ?_
  refine lv_iushr (v := fc_iushr p1 (h0_width - 1)) hx hb dX0_signOf_7 rfl ?_
  refine lv_iconst (v := 1) hx hb dX0_signOf_8 (by decide) ?_
  refine lv_iand hx hb dX0_signOf_9 ?_
  refine lv_i2l (v := ((fc_iushr p1 (h0_width - 1)) &&& 1).toInt64) hx hb dX0_signOf_10 rfl ?_
  exact W.lret (v := ((fc_iushr p1 (h0_width - 1)) &&& 1).toInt64) hx hb hr (fun t ht hW => ⟨congrArg (fun z => Outcome.returned (some (Value.long z))) (show ((fc_iushr p1 (h0_width - 1)) &&& 1).toInt64 = fm_X0_signOf h0_width h0_fractionBits h0_signBit h0_infinity h0_nan h0_finest p1 from by rfl), ht⟩) (fun q h => nomatch h) dX0_signOf_11
theorem ndX0_signed : yX0_signed.cls = RX0 ∧ yX0_signed.cls ≠ "java/lang/invoke/MethodHandle" ∧ yX0_signed.cls ≠ "java/lang/invoke/VarHandle" ∧ (parseMethodDescriptor yX0_signed.desc).map (fun d => d.parameters.length) = some 2 := by decide +kernel
def fm_X0_signed (h0_width : Int32) (h0_fractionBits : Int32) (h0_signBit : Int32) (h0_infinity : Int32) (h0_nan : Int32) (h0_finest : Int32) (p1 : Int64) (p2 : Int64) : Int32 := (p2 ||| (fc_shl p1 (h0_width - 1))).toInt32
set_option maxHeartbeats 4000000 in
set_option maxRecDepth 100000 in
theorem k_X0_signed (l : Launch) (dC : Nat → ClassId) (dI : Nat → Nat → Nat) (h0 : Nat) (h0_width : Int32) (h0_fractionBits : Int32) (h0_signBit : Int32) (h0_infinity : Int32) (h0_nan : Int32) (h0_finest : Int32) (p1 : Int64) (p2 : Int64) : Met l yX0_signed wsX0_signed { frames := 0, cells := 0, slots := 0, locals := 0 } (fw_R (dC, dI) vwCl [(h0, .inr (0, [.int h0_width, .int h0_fractionBits, .int h0_signBit, .int h0_infinity, .int h0_nan, .int h0_finest]))] [.ref h0, .long p1, .long p2]) (fw_Q (.int (fm_X0_signed h0_width h0_fractionBits h0_signBit h0_infinity h0_nan h0_finest p1 p2))) 0 0 (fun _ => False) := by
  refine Met.ofW (cc := cX0_signed) (maxL := 5) (ret := (some .int)) (by decide) rfl ?_
  intro p e s m args below meth c s₁ B hml hv
  obtain ⟨rfl, hP, hK⟩ := hv
  have hx := B.exec
  have hb := B.bytes
  have hr := B.returns
  have hts := atoms_spec (ws := wsX0_signed) B.pre
  have htf : ∀ w ∈ fc_all, w.before _ s = true := fun w h => hts w (List.mem_cons_of_mem _ h)
  have hown : s.vm.findClass RX0 = some m.cls := findClass_of_methodNamed B.named
  have hlocks := B.notSynchronized
  have hP : va_P (dC, dI) vwCl [(h0, .inr (0, [.int h0_width, .int h0_fractionBits, .int h0_signBit, .int h0_infinity, .int h0_nan, .int h0_finest]))] s.heap := hP
  have hl := lv_entry ([.ref h0, .long p1, .long p2]) (n := 5) (Nat.le_of_ble_eq_true rfl)
  rw [lg_entry_eq]
  generalize (lg_sl ([.ref h0, .long p1, .long p2]) ++ List.replicate (5 - (lg_sl ([.ref h0, .long p1, .long p2])).length) Slot.unset).toArray = ls at hl ⊢
  have hl : lv_has ls 5 [(0, .ref h0), (1, .long p1), (3, .long p2)] := hl
  refine lv_lload_n hx hb dX0_signed_0 rfl (lv_at hl 2 rfl) ?_
  refine lv_lload_n hx hb dX0_signed_1 rfl (lv_at hl 1 rfl) ?_
  refine lv_aload_n hx hb dX0_signed_2 rfl (lv_at hl 0 rfl) ?_
  refine va_get (D := (dC, dI)) (ci := 0) (v := .int h0_width) (C := RX0) (T := TX0) (N := 6) hx hb htf hiX0 hown hK hP 0 rfl rfl 0 (by decide) (htf _ wk28) (fun _ h9 => h9) rfl dX0_signed_3 ?_
  refine lv_iconst (v := 1) hx hb dX0_signed_6 (by decide) ?_
  refine lv_isub hx hb dX0_signed_7 ?_
  refine lv_lshl (v := fc_shl p1 (h0_width - 1)) hx hb dX0_signed_8 rfl ?_
  refine lv_lor hx hb dX0_signed_9 ?_
  refine lv_l2i (v := (p2 ||| (fc_shl p1 (h0_width - 1))).toInt32) hx hb dX0_signed_10 rfl ?_
  exact W.iret (v := (p2 ||| (fc_shl p1 (h0_width - 1))).toInt32) hx hb hr (fun t ht hW => ⟨congrArg (fun z => Outcome.returned (some (Value.int z))) (show (p2 ||| (fc_shl p1 (h0_width - 1))).toInt32 = fm_X0_signed h0_width h0_fractionBits h0_signBit h0_infinity h0_nan h0_finest p1 p2 from by rfl), ht⟩) (fun q h => nomatch h) dX0_signed_11
theorem ndX0_isNan : yX0_isNan.cls = RX0 ∧ yX0_isNan.cls ≠ "java/lang/invoke/MethodHandle" ∧ yX0_isNan.cls ≠ "java/lang/invoke/VarHandle" ∧ (parseMethodDescriptor yX0_isNan.desc).map (fun d => d.parameters.length) = some 1 := by decide +kernel
def fm_X0_isNan (h0_width : Int32) (h0_fractionBits : Int32) (h0_signBit : Int32) (h0_infinity : Int32) (h0_nan : Int32) (h0_finest : Int32) (p1 : Int32) : Bool := if (lg_cmp (fg_below h0_infinity.toInt64 (fm_X0_unsigned h0_width h0_fractionBits h0_signBit h0_infinity h0_nan h0_finest p1)) 1) = 0 then (true) else (false)
set_option maxHeartbeats 4000000 in
set_option maxRecDepth 100000 in
theorem k_X0_isNan (l : Launch) (dC : Nat → ClassId) (dI : Nat → Nat → Nat) (h0 : Nat) (h0_width : Int32) (h0_fractionBits : Int32) (h0_signBit : Int32) (h0_infinity : Int32) (h0_nan : Int32) (h0_finest : Int32) (p1 : Int32) : Met l yX0_isNan wsX0_isNan { frames := 3, cells := 0, slots := 0, locals := 78 } (fw_R (dC, dI) vwCl [(h0, .inr (0, [.int h0_width, .int h0_fractionBits, .int h0_signBit, .int h0_infinity, .int h0_nan, .int h0_finest]))] [.ref h0, .int p1]) (fw_Q (.int (jb (fm_X0_isNan h0_width h0_fractionBits h0_signBit h0_infinity h0_nan h0_finest p1)))) 0 0 (fun _ => False) := by
  refine Met.ofW (cc := cX0_isNan) (maxL := 2) (ret := (some .boolean)) (by decide) rfl ?_
  intro p e s m args below meth c s₁ B hml hv
  obtain ⟨rfl, hP, hK⟩ := hv
  have hx := B.exec
  have hb := B.bytes
  have hr := B.returns
  have hts := atoms_spec (ws := wsX0_isNan) B.pre
  have htf : ∀ w ∈ fc_all, w.before _ s = true := fun w h => hts w (List.mem_cons_of_mem _ h)
  have hown : s.vm.findClass RX0 = some m.cls := findClass_of_methodNamed B.named
  have hlocks := B.notSynchronized
  have hP : va_P (dC, dI) vwCl [(h0, .inr (0, [.int h0_width, .int h0_fractionBits, .int h0_signBit, .int h0_infinity, .int h0_nan, .int h0_finest]))] s.heap := hP
  have hl := lv_entry ([.ref h0, .int p1]) (n := 2) (Nat.le_of_ble_eq_true rfl)
  rw [lg_entry_eq]
  generalize (lg_sl ([.ref h0, .int p1]) ++ List.replicate (2 - (lg_sl ([.ref h0, .int p1])).length) Slot.unset).toArray = ls at hl ⊢
  have hl : lv_has ls 2 [(0, .ref h0), (1, .int p1)] := hl
  refine lv_aload_n hx hb dX0_isNan_0 rfl (lv_at hl 0 rfl) ?_
  refine va_get (D := (dC, dI)) (ci := 0) (v := .int h0_infinity) (C := RX0) (T := TX0) (N := 6) hx hb htf hiX0 hown hK hP 0 rfl rfl 3 (by decide) (htf _ wk33) (fun _ h9 => h9) rfl dX0_isNan_1 ?_
  refine lv_i2l (v := h0_infinity.toInt64) hx hb dX0_isNan_4 rfl ?_
  refine lv_aload_n hx hb dX0_isNan_5 rfl (lv_at hl 0 rfl) ?_
  refine lv_iload_n hx hb dX0_isNan_6 rfl (lv_at hl 1 rfl) ?_
  refine fw_call (va_runV (As := [.int p1]) (rest := [.long h0_infinity.toInt64]) ⟨hx, hb, hml, hown, htf⟩ (k_X0_unsigned l dC dI h0 h0_width h0_fractionBits h0_signBit h0_infinity h0_nan h0_finest p1) (cwV 1 htf (gd_V wk109 wk110 ws2 wk2 wk111) rfl rfl rfl ndX0_unsigned ⟨Nat.le_of_ble_eq_true rfl, Nat.le_of_ble_eq_true rfl⟩) (fw_RV (va_recv hK hP (ci := 0) (q0 := 0) rfl rfl) (hP.sub (ws' := [(h0, .inr (0, [.int h0_width, .int h0_fractionBits, .int h0_signBit, .int h0_infinity, .int h0_nan, .int h0_finest]))]) [0] rfl) hK) rfl rfl hl.1 rfl (lv_room (Nat.le_of_ble_eq_true rfl)) dX0_isNan_7 ⟨Nat.le_refl _, Nat.le_refl _⟩) ?_
  refine fw_call (va_runS (As := [.long h0_infinity.toInt64, .long (fm_X0_unsigned h0_width h0_fractionBits h0_signBit h0_infinity h0_nan h0_finest p1)]) (rest := []) ⟨hx, hb, hml, hown, htf⟩ (k_X1_below l h0_infinity.toInt64 (fm_X0_unsigned h0_width h0_fractionBits h0_signBit h0_infinity h0_nan h0_finest p1)) (va_cwS 2 htf (gd_S wk112 wk113 wk8 wk114) rfl rfl rfl ndX1_below ⟨Nat.le_of_ble_eq_true rfl, Nat.le_of_ble_eq_true rfl⟩) fw_PS rfl rfl hl.1 rfl (lv_room (Nat.le_of_ble_eq_true rfl)) dX0_isNan_10 ⟨Nat.le_refl _, Nat.le_refl _⟩) ?_
  refine lv_lconst (v := 1) hx hb dX0_isNan_13 (by decide) ?_
  refine W.lcmp hx hb dX0_isNan_14 ?_
  refine lv_if_ne (tgt := 22) hx hb dX0_isNan_15 (by decide) (fun c1 => ?_) (fun c1 => ?_)
  · refine lv_iconst (v := 0) hx hb dX0_isNan_22 (by decide) ?_
    exact W.zret (v := jb false) (ty := .boolean) hx hb hr (jb_n _) (fun t ht hW => ⟨congrArg (fun z => Outcome.returned (some (Value.int (jb z)))) (show false = fm_X0_isNan h0_width h0_fractionBits h0_signBit h0_infinity h0_nan h0_finest p1 from by first | (simp only [fm_X0_isNan, if_neg c1]; done) | contradiction), ht⟩) (fun q h => nomatch h) dX0_isNan_23
  · refine lv_iconst (v := 1) hx hb dX0_isNan_18 (by decide) ?_
    refine lv_goto (tgt := 23) hx hb dX0_isNan_19 (by decide) ?_
    exact W.zret (v := jb true) (ty := .boolean) hx hb hr (jb_n _) (fun t ht hW => ⟨congrArg (fun z => Outcome.returned (some (Value.int (jb z)))) (show true = fm_X0_isNan h0_width h0_fractionBits h0_signBit h0_infinity h0_nan h0_finest p1 from by first | (simp only [fm_X0_isNan, if_pos c1]; done) | contradiction), ht⟩) (fun q h => nomatch h) dX0_isNan_23
theorem ndX0_hasHiddenOne : yX0_hasHiddenOne.cls = RX0 ∧ yX0_hasHiddenOne.cls ≠ "java/lang/invoke/MethodHandle" ∧ yX0_hasHiddenOne.cls ≠ "java/lang/invoke/VarHandle" ∧ (parseMethodDescriptor yX0_hasHiddenOne.desc).map (fun d => d.parameters.length) = some 1 := by decide +kernel
def fm_X0_hasHiddenOne (h0_width : Int32) (h0_fractionBits : Int32) (h0_signBit : Int32) (h0_infinity : Int32) (h0_nan : Int32) (h0_finest : Int32) (p1 : Int32) : Bool := if (lg_cmp (fg_any (fc_ushr (fm_X0_unsigned h0_width h0_fractionBits h0_signBit h0_infinity h0_nan h0_finest p1) h0_fractionBits)) 1) = 0 then (true) else (false)
set_option maxHeartbeats 4000000 in
set_option maxRecDepth 100000 in
theorem k_X0_hasHiddenOne (l : Launch) (dC : Nat → ClassId) (dI : Nat → Nat → Nat) (h0 : Nat) (h0_width : Int32) (h0_fractionBits : Int32) (h0_signBit : Int32) (h0_infinity : Int32) (h0_nan : Int32) (h0_finest : Int32) (p1 : Int32) : Met l yX0_hasHiddenOne wsX0_hasHiddenOne { frames := 1, cells := 0, slots := 0, locals := 24 } (fw_R (dC, dI) vwCl [(h0, .inr (0, [.int h0_width, .int h0_fractionBits, .int h0_signBit, .int h0_infinity, .int h0_nan, .int h0_finest]))] [.ref h0, .int p1]) (fw_Q (.int (jb (fm_X0_hasHiddenOne h0_width h0_fractionBits h0_signBit h0_infinity h0_nan h0_finest p1)))) 0 0 (fun _ => False) := by
  refine Met.ofW (cc := cX0_hasHiddenOne) (maxL := 2) (ret := (some .boolean)) (by decide) rfl ?_
  intro p e s m args below meth c s₁ B hml hv
  obtain ⟨rfl, hP, hK⟩ := hv
  have hx := B.exec
  have hb := B.bytes
  have hr := B.returns
  have hts := atoms_spec (ws := wsX0_hasHiddenOne) B.pre
  have htf : ∀ w ∈ fc_all, w.before _ s = true := fun w h => hts w (List.mem_cons_of_mem _ h)
  have hown : s.vm.findClass RX0 = some m.cls := findClass_of_methodNamed B.named
  have hlocks := B.notSynchronized
  have hP : va_P (dC, dI) vwCl [(h0, .inr (0, [.int h0_width, .int h0_fractionBits, .int h0_signBit, .int h0_infinity, .int h0_nan, .int h0_finest]))] s.heap := hP
  have hl := lv_entry ([.ref h0, .int p1]) (n := 2) (Nat.le_of_ble_eq_true rfl)
  rw [lg_entry_eq]
  generalize (lg_sl ([.ref h0, .int p1]) ++ List.replicate (2 - (lg_sl ([.ref h0, .int p1])).length) Slot.unset).toArray = ls at hl ⊢
  have hl : lv_has ls 2 [(0, .ref h0), (1, .int p1)] := hl
  refine lv_aload_n hx hb dX0_hasHiddenOne_0 rfl (lv_at hl 0 rfl) ?_
  refine lv_iload_n hx hb dX0_hasHiddenOne_1 rfl (lv_at hl 1 rfl) ?_
  refine fw_call (va_runV (As := [.int p1]) (rest := []) ⟨hx, hb, hml, hown, htf⟩ (k_X0_unsigned l dC dI h0 h0_width h0_fractionBits h0_signBit h0_infinity h0_nan h0_finest p1) (cwV 1 htf (gd_V wk109 wk110 ws2 wk2 wk111) rfl rfl rfl ndX0_unsigned ⟨Nat.le_of_ble_eq_true rfl, Nat.le_of_ble_eq_true rfl⟩) (fw_RV (va_recv hK hP (ci := 0) (q0 := 0) rfl rfl) (hP.sub (ws' := [(h0, .inr (0, [.int h0_width, .int h0_fractionBits, .int h0_signBit, .int h0_infinity, .int h0_nan, .int h0_finest]))]) [0] rfl) hK) rfl rfl hl.1 rfl (lv_room (Nat.le_of_ble_eq_true rfl)) dX0_hasHiddenOne_2 ⟨Nat.le_refl _, Nat.le_refl _⟩) ?_
  refine lv_aload_n hx hb dX0_hasHiddenOne_5 rfl (lv_at hl 0 rfl) ?_
  refine va_get (D := (dC, dI)) (ci := 0) (v := .int h0_fractionBits) (C := RX0) (T := TX0) (N := 6) hx hb htf hiX0 hown hK hP 0 rfl rfl 1 (by decide) (htf _ wk30) (fun _ h9 => h9) rfl dX0_hasHiddenOne_6 ?_
  refine lv_lushr (v := fc_ushr (fm_X0_unsigned h0_width h0_fractionBits h0_signBit h0_infinity h0_nan h0_finest p1) h0_fractionBits) hx hb dX0_hasHiddenOne_9 rfl ?_
  refine fw_call (va_runS (As := [.long (fc_ushr (fm_X0_unsigned h0_width h0_fractionBits h0_signBit h0_infinity h0_nan h0_finest p1) h0_fractionBits)]) (rest := []) ⟨hx, hb, hml, hown, htf⟩ (k_X1_any l (fc_ushr (fm_X0_unsigned h0_width h0_fractionBits h0_signBit h0_infinity h0_nan h0_finest p1) h0_fractionBits)) (va_cwS 1 htf (gd_S wk156 wk157 wk8 wk158) rfl rfl rfl ndX1_any ⟨Nat.le_of_ble_eq_true rfl, Nat.le_of_ble_eq_true rfl⟩) fw_PS rfl rfl hl.1 rfl (lv_room (Nat.le_of_ble_eq_true rfl)) dX0_hasHiddenOne_10 ⟨Nat.le_refl _, Nat.le_refl _⟩) ?_
  refine lv_lconst (v := 1) hx hb dX0_hasHiddenOne_13 (by decide) ?_
  refine W.lcmp hx hb dX0_hasHiddenOne_14 ?_
  refine lv_if_ne (tgt := 22) hx hb dX0_hasHiddenOne_15 (by decide) (fun c1 => ?_) (fun c1 => ?_)
  · refine lv_iconst (v := 0) hx hb dX0_hasHiddenOne_22 (by decide) ?_
    exact W.zret (v := jb false) (ty := .boolean) hx hb hr (jb_n _) (fun t ht hW => ⟨congrArg (fun z => Outcome.returned (some (Value.int (jb z)))) (show false = fm_X0_hasHiddenOne h0_width h0_fractionBits h0_signBit h0_infinity h0_nan h0_finest p1 from by first | (simp only [fm_X0_hasHiddenOne, if_neg c1]; done) | contradiction), ht⟩) (fun q h => nomatch h) dX0_hasHiddenOne_23
  · refine lv_iconst (v := 1) hx hb dX0_hasHiddenOne_18 (by decide) ?_
    refine lv_goto (tgt := 23) hx hb dX0_hasHiddenOne_19 (by decide) ?_
    exact W.zret (v := jb true) (ty := .boolean) hx hb hr (jb_n _) (fun t ht hW => ⟨congrArg (fun z => Outcome.returned (some (Value.int (jb z)))) (show true = fm_X0_hasHiddenOne h0_width h0_fractionBits h0_signBit h0_infinity h0_nan h0_finest p1 from by first | (simp only [fm_X0_hasHiddenOne, if_pos c1]; done) | contradiction), ht⟩) (fun q h => nomatch h) dX0_hasHiddenOne_23
theorem ndX0_rank : yX0_rank.cls = RX0 ∧ yX0_rank.cls ≠ "java/lang/invoke/MethodHandle" ∧ yX0_rank.cls ≠ "java/lang/invoke/VarHandle" ∧ (parseMethodDescriptor yX0_rank.desc).map (fun d => d.parameters.length) = some 1 := by decide +kernel
def fm_X0_rank (h0_width : Int32) (h0_fractionBits : Int32) (h0_signBit : Int32) (h0_infinity : Int32) (h0_nan : Int32) (h0_finest : Int32) (p1 : Int32) : Int64 := fg_negif (fm_X0_signOf h0_width h0_fractionBits h0_signBit h0_infinity h0_nan h0_finest p1) (fm_X0_unsigned h0_width h0_fractionBits h0_signBit h0_infinity h0_nan h0_finest p1)
set_option maxHeartbeats 4000000 in
set_option maxRecDepth 100000 in
theorem k_X0_rank (l : Launch) (dC : Nat → ClassId) (dI : Nat → Nat → Nat) (h0 : Nat) (h0_width : Int32) (h0_fractionBits : Int32) (h0_signBit : Int32) (h0_infinity : Int32) (h0_nan : Int32) (h0_finest : Int32) (p1 : Int32) : Met l yX0_rank wsX0_rank { frames := 2, cells := 0, slots := 0, locals := 55 } (fw_R (dC, dI) vwCl [(h0, .inr (0, [.int h0_width, .int h0_fractionBits, .int h0_signBit, .int h0_infinity, .int h0_nan, .int h0_finest]))] [.ref h0, .int p1]) (fw_Q (.long (fm_X0_rank h0_width h0_fractionBits h0_signBit h0_infinity h0_nan h0_finest p1))) 0 0 (fun _ => False) := by
  refine Met.ofW (cc := cX0_rank) (maxL := 2) (ret := (some .long)) (by decide) rfl ?_
  intro p e s m args below meth c s₁ B hml hv
  obtain ⟨rfl, hP, hK⟩ := hv
  have hx := B.exec
  have hb := B.bytes
  have hr := B.returns
  have hts := atoms_spec (ws := wsX0_rank) B.pre
  have htf : ∀ w ∈ fc_all, w.before _ s = true := fun w h => hts w (List.mem_cons_of_mem _ h)
  have hown : s.vm.findClass RX0 = some m.cls := findClass_of_methodNamed B.named
  have hlocks := B.notSynchronized
  have hP : va_P (dC, dI) vwCl [(h0, .inr (0, [.int h0_width, .int h0_fractionBits, .int h0_signBit, .int h0_infinity, .int h0_nan, .int h0_finest]))] s.heap := hP
  have hl := lv_entry ([.ref h0, .int p1]) (n := 2) (Nat.le_of_ble_eq_true rfl)
  rw [lg_entry_eq]
  generalize (lg_sl ([.ref h0, .int p1]) ++ List.replicate (2 - (lg_sl ([.ref h0, .int p1])).length) Slot.unset).toArray = ls at hl ⊢
  have hl : lv_has ls 2 [(0, .ref h0), (1, .int p1)] := hl
  refine lv_aload_n hx hb dX0_rank_0 rfl (lv_at hl 0 rfl) ?_
  refine lv_iload_n hx hb dX0_rank_1 rfl (lv_at hl 1 rfl) ?_
  refine fw_call (va_runV (As := [.int p1]) (rest := []) ⟨hx, hb, hml, hown, htf⟩ (k_X0_signOf l dC dI h0 h0_width h0_fractionBits h0_signBit h0_infinity h0_nan h0_finest p1) (cwV 1 htf (gd_V wk102 wk103 ws1 wk2 wk104) rfl rfl rfl ndX0_signOf ⟨Nat.le_of_ble_eq_true rfl, Nat.le_of_ble_eq_true rfl⟩) (fw_RV (va_recv hK hP (ci := 0) (q0 := 0) rfl rfl) (hP.sub (ws' := [(h0, .inr (0, [.int h0_width, .int h0_fractionBits, .int h0_signBit, .int h0_infinity, .int h0_nan, .int h0_finest]))]) [0] rfl) hK) rfl rfl hl.1 rfl (lv_room (Nat.le_of_ble_eq_true rfl)) dX0_rank_2 ⟨Nat.le_refl _, Nat.le_refl _⟩) ?_
  refine lv_aload_n hx hb dX0_rank_5 rfl (lv_at hl 0 rfl) ?_
  refine lv_iload_n hx hb dX0_rank_6 rfl (lv_at hl 1 rfl) ?_
  refine fw_call (va_runV (As := [.int p1]) (rest := [.long (fm_X0_signOf h0_width h0_fractionBits h0_signBit h0_infinity h0_nan h0_finest p1)]) ⟨hx, hb, hml, hown, htf⟩ (k_X0_unsigned l dC dI h0 h0_width h0_fractionBits h0_signBit h0_infinity h0_nan h0_finest p1) (cwV 1 htf (gd_V wk109 wk110 ws2 wk2 wk111) rfl rfl rfl ndX0_unsigned ⟨Nat.le_of_ble_eq_true rfl, Nat.le_of_ble_eq_true rfl⟩) (fw_RV (va_recv hK hP (ci := 0) (q0 := 0) rfl rfl) (hP.sub (ws' := [(h0, .inr (0, [.int h0_width, .int h0_fractionBits, .int h0_signBit, .int h0_infinity, .int h0_nan, .int h0_finest]))]) [0] rfl) hK) rfl rfl hl.1 rfl (lv_room (Nat.le_of_ble_eq_true rfl)) dX0_rank_7 ⟨Nat.le_refl _, Nat.le_refl _⟩) ?_
  refine fw_call (va_runS (As := [.long (fm_X0_signOf h0_width h0_fractionBits h0_signBit h0_infinity h0_nan h0_finest p1), .long (fm_X0_unsigned h0_width h0_fractionBits h0_signBit h0_infinity h0_nan h0_finest p1)]) (rest := []) ⟨hx, hb, hml, hown, htf⟩ (k_X1_negateIf l (fm_X0_signOf h0_width h0_fractionBits h0_signBit h0_infinity h0_nan h0_finest p1) (fm_X0_unsigned h0_width h0_fractionBits h0_signBit h0_infinity h0_nan h0_finest p1)) (va_cwS 2 htf (gd_S wk294 wk192 wk8 wk193) rfl rfl rfl ndX1_negateIf ⟨Nat.le_of_ble_eq_true rfl, Nat.le_of_ble_eq_true rfl⟩) fw_PS rfl rfl hl.1 rfl (lv_room (Nat.le_of_ble_eq_true rfl)) dX0_rank_10 ⟨Nat.le_refl _, Nat.le_refl _⟩) ?_
  exact W.lret (v := fg_negif (fm_X0_signOf h0_width h0_fractionBits h0_signBit h0_infinity h0_nan h0_finest p1) (fm_X0_unsigned h0_width h0_fractionBits h0_signBit h0_infinity h0_nan h0_finest p1)) hx hb hr (fun t ht hW => ⟨congrArg (fun z => Outcome.returned (some (Value.long z))) (show fg_negif (fm_X0_signOf h0_width h0_fractionBits h0_signBit h0_infinity h0_nan h0_finest p1) (fm_X0_unsigned h0_width h0_fractionBits h0_signBit h0_infinity h0_nan h0_finest p1) = fm_X0_rank h0_width h0_fractionBits h0_signBit h0_infinity h0_nan h0_finest p1 from by rfl), ht⟩) (fun q h => nomatch h) dX0_rank_13
theorem ndX0_isBelow : yX0_isBelow.cls = RX0 ∧ yX0_isBelow.cls ≠ "java/lang/invoke/MethodHandle" ∧ yX0_isBelow.cls ≠ "java/lang/invoke/VarHandle" ∧ (parseMethodDescriptor yX0_isBelow.desc).map (fun d => d.parameters.length) = some 2 := by decide +kernel
def fm_X0_isBelow (h0_width : Int32) (h0_fractionBits : Int32) (h0_signBit : Int32) (h0_infinity : Int32) (h0_nan : Int32) (h0_finest : Int32) (p1 : Int32) (p2 : Int32) : Bool := if (lg_cmp (fg_below (fm_X0_rank h0_width h0_fractionBits h0_signBit h0_infinity h0_nan h0_finest p1) (fm_X0_rank h0_width h0_fractionBits h0_signBit h0_infinity h0_nan h0_finest p2)) 1) = 0 then (true) else (false)
set_option maxHeartbeats 4000000 in
set_option maxRecDepth 100000 in
theorem k_X0_isBelow (l : Launch) (dC : Nat → ClassId) (dI : Nat → Nat → Nat) (h0 : Nat) (h0_width : Int32) (h0_fractionBits : Int32) (h0_signBit : Int32) (h0_infinity : Int32) (h0_nan : Int32) (h0_finest : Int32) (p1 : Int32) (p2 : Int32) : Met l yX0_isBelow wsX0_isBelow { frames := 3, cells := 0, slots := 0, locals := 78 } (fw_R (dC, dI) vwCl [(h0, .inr (0, [.int h0_width, .int h0_fractionBits, .int h0_signBit, .int h0_infinity, .int h0_nan, .int h0_finest]))] [.ref h0, .int p1, .int p2]) (fw_Q (.int (jb (fm_X0_isBelow h0_width h0_fractionBits h0_signBit h0_infinity h0_nan h0_finest p1 p2)))) 0 0 (fun _ => False) := by
  refine Met.ofW (cc := cX0_isBelow) (maxL := 3) (ret := (some .boolean)) (by decide) rfl ?_
  intro p e s m args below meth c s₁ B hml hv
  obtain ⟨rfl, hP, hK⟩ := hv
  have hx := B.exec
  have hb := B.bytes
  have hr := B.returns
  have hts := atoms_spec (ws := wsX0_isBelow) B.pre
  have htf : ∀ w ∈ fc_all, w.before _ s = true := fun w h => hts w (List.mem_cons_of_mem _ h)
  have hown : s.vm.findClass RX0 = some m.cls := findClass_of_methodNamed B.named
  have hlocks := B.notSynchronized
  have hP : va_P (dC, dI) vwCl [(h0, .inr (0, [.int h0_width, .int h0_fractionBits, .int h0_signBit, .int h0_infinity, .int h0_nan, .int h0_finest]))] s.heap := hP
  have hl := lv_entry ([.ref h0, .int p1, .int p2]) (n := 3) (Nat.le_of_ble_eq_true rfl)
  rw [lg_entry_eq]
  generalize (lg_sl ([.ref h0, .int p1, .int p2]) ++ List.replicate (3 - (lg_sl ([.ref h0, .int p1, .int p2])).length) Slot.unset).toArray = ls at hl ⊢
  have hl : lv_has ls 3 [(0, .ref h0), (1, .int p1), (2, .int p2)] := hl
  refine lv_aload_n hx hb dX0_isBelow_0 rfl (lv_at hl 0 rfl) ?_
  refine lv_iload_n hx hb dX0_isBelow_1 rfl (lv_at hl 1 rfl) ?_
  refine fw_call (va_runV (As := [.int p1]) (rest := []) ⟨hx, hb, hml, hown, htf⟩ (k_X0_rank l dC dI h0 h0_width h0_fractionBits h0_signBit h0_infinity h0_nan h0_finest p1) (cwV 1 htf (gd_V wk291 wk292 ws5 wk2 wk293) rfl rfl rfl ndX0_rank ⟨Nat.le_of_ble_eq_true rfl, Nat.le_of_ble_eq_true rfl⟩) (fw_RV (va_recv hK hP (ci := 0) (q0 := 0) rfl rfl) (hP.sub (ws' := [(h0, .inr (0, [.int h0_width, .int h0_fractionBits, .int h0_signBit, .int h0_infinity, .int h0_nan, .int h0_finest]))]) [0] rfl) hK) rfl rfl hl.1 rfl (lv_room (Nat.le_of_ble_eq_true rfl)) dX0_isBelow_2 ⟨Nat.le_refl _, Nat.le_refl _⟩) ?_
  refine lv_aload_n hx hb dX0_isBelow_5 rfl (lv_at hl 0 rfl) ?_
  refine lv_iload_n hx hb dX0_isBelow_6 rfl (lv_at hl 2 rfl) ?_
  refine fw_call (va_runV (As := [.int p2]) (rest := [.long (fm_X0_rank h0_width h0_fractionBits h0_signBit h0_infinity h0_nan h0_finest p1)]) ⟨hx, hb, hml, hown, htf⟩ (k_X0_rank l dC dI h0 h0_width h0_fractionBits h0_signBit h0_infinity h0_nan h0_finest p2) (cwV 1 htf (gd_V wk291 wk292 ws5 wk2 wk293) rfl rfl rfl ndX0_rank ⟨Nat.le_of_ble_eq_true rfl, Nat.le_of_ble_eq_true rfl⟩) (fw_RV (va_recv hK hP (ci := 0) (q0 := 0) rfl rfl) (hP.sub (ws' := [(h0, .inr (0, [.int h0_width, .int h0_fractionBits, .int h0_signBit, .int h0_infinity, .int h0_nan, .int h0_finest]))]) [0] rfl) hK) rfl rfl hl.1 rfl (lv_room (Nat.le_of_ble_eq_true rfl)) dX0_isBelow_7 ⟨Nat.le_refl _, Nat.le_refl _⟩) ?_
  refine fw_call (va_runS (As := [.long (fm_X0_rank h0_width h0_fractionBits h0_signBit h0_infinity h0_nan h0_finest p1), .long (fm_X0_rank h0_width h0_fractionBits h0_signBit h0_infinity h0_nan h0_finest p2)]) (rest := []) ⟨hx, hb, hml, hown, htf⟩ (k_X1_below l (fm_X0_rank h0_width h0_fractionBits h0_signBit h0_infinity h0_nan h0_finest p1) (fm_X0_rank h0_width h0_fractionBits h0_signBit h0_infinity h0_nan h0_finest p2)) (va_cwS 2 htf (gd_S wk112 wk113 wk8 wk114) rfl rfl rfl ndX1_below ⟨Nat.le_of_ble_eq_true rfl, Nat.le_of_ble_eq_true rfl⟩) fw_PS rfl rfl hl.1 rfl (lv_room (Nat.le_of_ble_eq_true rfl)) dX0_isBelow_10 ⟨Nat.le_refl _, Nat.le_refl _⟩) ?_
  refine lv_lconst (v := 1) hx hb dX0_isBelow_13 (by decide) ?_
  refine W.lcmp hx hb dX0_isBelow_14 ?_
  refine lv_if_ne (tgt := 22) hx hb dX0_isBelow_15 (by decide) (fun c1 => ?_) (fun c1 => ?_)
  · refine lv_iconst (v := 0) hx hb dX0_isBelow_22 (by decide) ?_
    exact W.zret (v := jb false) (ty := .boolean) hx hb hr (jb_n _) (fun t ht hW => ⟨congrArg (fun z => Outcome.returned (some (Value.int (jb z)))) (show false = fm_X0_isBelow h0_width h0_fractionBits h0_signBit h0_infinity h0_nan h0_finest p1 p2 from by first | (simp only [fm_X0_isBelow, if_neg c1]; done) | contradiction), ht⟩) (fun q h => nomatch h) dX0_isBelow_23
  · refine lv_iconst (v := 1) hx hb dX0_isBelow_18 (by decide) ?_
    refine lv_goto (tgt := 23) hx hb dX0_isBelow_19 (by decide) ?_
    exact W.zret (v := jb true) (ty := .boolean) hx hb hr (jb_n _) (fun t ht hW => ⟨congrArg (fun z => Outcome.returned (some (Value.int (jb z)))) (show true = fm_X0_isBelow h0_width h0_fractionBits h0_signBit h0_infinity h0_nan h0_finest p1 p2 from by first | (simp only [fm_X0_isBelow, if_pos c1]; done) | contradiction), ht⟩) (fun q h => nomatch h) dX0_isBelow_23
theorem ndX0_packMagnitude : yX0_packMagnitude.cls = RX0 ∧ yX0_packMagnitude.cls ≠ "java/lang/invoke/MethodHandle" ∧ yX0_packMagnitude.cls ≠ "java/lang/invoke/VarHandle" ∧ (parseMethodDescriptor yX0_packMagnitude.desc).map (fun d => d.parameters.length) = some 2 := by decide +kernel
def fm_X0_packMagnitude (h0_width : Int32) (h0_fractionBits : Int32) (h0_signBit : Int32) (h0_infinity : Int32) (h0_nan : Int32) (h0_finest : Int32) (p1 : Int32) (h2_nan : Bool) (h2_infinite : Bool) (h2_sign : Int64) (h2_exponent : Int64) (h2_magnitude : Int64) : Int64 := let x1 := fg_sum h2_exponent (fg_top h2_magnitude); let x2 := fg_diff x1 h0_fractionBits.toInt64; let x3 := fg_choose (fg_below x2 h0_finest.toInt64) h0_finest.toInt64 x2; let x4 := fm_X3_round p1 h2_nan h2_infinite h2_sign h2_exponent h2_magnitude x3; fg_sum (fc_shl (fg_diff x3 h0_finest.toInt64) h0_fractionBits) x4
set_option maxHeartbeats 4000000 in
set_option maxRecDepth 100000 in
theorem k_X0_packMagnitude (l : Launch) (dC : Nat → ClassId) (dI : Nat → Nat → Nat) (h0 : Nat) (h0_width : Int32) (h0_fractionBits : Int32) (h0_signBit : Int32) (h0_infinity : Int32) (h0_nan : Int32) (h0_finest : Int32) (p1 : Int32) (h2 : Nat) (h2_nan : Bool) (h2_infinite : Bool) (h2_sign : Int64) (h2_exponent : Int64) (h2_magnitude : Int64) : Met l yX0_packMagnitude wsX0_packMagnitude { frames := 4, cells := 0, slots := 0, locals := 112 } (fw_R (dC, dI) vwCl [(h0, .inr (0, [.int h0_width, .int h0_fractionBits, .int h0_signBit, .int h0_infinity, .int h0_nan, .int h0_finest])), (h2, .inr (1, [.int (jb h2_nan), .int (jb h2_infinite), .long h2_sign, .long h2_exponent, .long h2_magnitude]))] [.ref h0, .int p1, .ref h2]) (fw_Q (.long (fm_X0_packMagnitude h0_width h0_fractionBits h0_signBit h0_infinity h0_nan h0_finest p1 h2_nan h2_infinite h2_sign h2_exponent h2_magnitude))) 0 0 (fun _ => False) := by
  refine Met.ofW (cc := cX0_packMagnitude) (maxL := 11) (ret := (some .long)) (by decide) rfl ?_
  intro p e s m args below meth c s₁ B hml hv
  obtain ⟨rfl, hP, hK⟩ := hv
  have hx := B.exec
  have hb := B.bytes
  have hr := B.returns
  have hts := atoms_spec (ws := wsX0_packMagnitude) B.pre
  have htf : ∀ w ∈ fc_all, w.before _ s = true := fun w h => hts w (List.mem_cons_of_mem _ h)
  have hown : s.vm.findClass RX0 = some m.cls := findClass_of_methodNamed B.named
  have hlocks := B.notSynchronized
  have hP : va_P (dC, dI) vwCl [(h0, .inr (0, [.int h0_width, .int h0_fractionBits, .int h0_signBit, .int h0_infinity, .int h0_nan, .int h0_finest])), (h2, .inr (1, [.int (jb h2_nan), .int (jb h2_infinite), .long h2_sign, .long h2_exponent, .long h2_magnitude]))] s.heap := hP
  have hl := lv_entry ([.ref h0, .int p1, .ref h2]) (n := 11) (Nat.le_of_ble_eq_true rfl)
  rw [lg_entry_eq]
  generalize (lg_sl ([.ref h0, .int p1, .ref h2]) ++ List.replicate (11 - (lg_sl ([.ref h0, .int p1, .ref h2])).length) Slot.unset).toArray = ls at hl ⊢
  have hl : lv_has ls 11 [(0, .ref h0), (1, .int p1), (2, .ref h2)] := hl
  refine lv_aload_n hx hb dX0_packMagnitude_0 rfl (lv_at hl 2 rfl) ?_
  refine va_get (D := (dC, dI)) (ci := 1) (v := .long h2_exponent) (C := RX4) (T := TX4) (N := 5) hx hb htf hiX4 hown hK hP 1 rfl rfl 3 (by decide) (htf _ wk150) (fun _ h9 => h9) rfl dX0_packMagnitude_1 ?_
  refine lv_aload_n hx hb dX0_packMagnitude_4 rfl (lv_at hl 2 rfl) ?_
  refine va_get (D := (dC, dI)) (ci := 1) (v := .long h2_magnitude) (C := RX4) (T := TX4) (N := 5) hx hb htf hiX4 hown hK hP 1 rfl rfl 4 (by decide) (htf _ wk154) (fun _ h9 => h9) rfl dX0_packMagnitude_5 ?_
  refine fw_call (va_runS (As := [.long h2_magnitude]) (rest := [.long h2_exponent]) ⟨hx, hb, hml, hown, htf⟩ (k_X1_top l h2_magnitude) (va_cwS 1 htf (gd_S wk216 wk217 wk8 wk218) rfl rfl rfl ndX1_top ⟨Nat.le_of_ble_eq_true rfl, Nat.le_of_ble_eq_true rfl⟩) fw_PS rfl rfl hl.1 rfl (lv_room (Nat.le_of_ble_eq_true rfl)) dX0_packMagnitude_8 ⟨Nat.le_refl _, Nat.le_refl _⟩) ?_
  refine fw_call (va_runS (As := [.long h2_exponent, .long (fg_top h2_magnitude)]) (rest := []) ⟨hx, hb, hml, hown, htf⟩ (k_X1_sum l h2_exponent (fg_top h2_magnitude)) (va_cwS 2 htf (gd_S wk166 wk167 wk8 wk168) rfl rfl rfl ndX1_sum ⟨Nat.le_of_ble_eq_true rfl, Nat.le_of_ble_eq_true rfl⟩) fw_PS rfl rfl hl.1 rfl (lv_room (Nat.le_of_ble_eq_true rfl)) dX0_packMagnitude_11 ⟨Nat.le_refl _, Nat.le_refl _⟩) ?_
  refine lv_topl (fun x1 ex1 => ?_)
  refine lv_lstore_n (lv' := [(3, .long x1), (0, .ref h0), (1, .int p1), (2, .ref h2)]) hx hb dX0_packMagnitude_14 rfl hl (by decide) rfl (fun ls hl => ?_)
  refine lv_lload_n hx hb dX0_packMagnitude_15 rfl (lv_at hl 0 rfl) ?_
  refine lv_aload_n hx hb dX0_packMagnitude_16 rfl (lv_at hl 1 rfl) ?_
  refine va_get (D := (dC, dI)) (ci := 0) (v := .int h0_fractionBits) (C := RX0) (T := TX0) (N := 6) hx hb htf hiX0 hown hK hP 0 rfl rfl 1 (by decide) (htf _ wk30) (fun _ h9 => h9) rfl dX0_packMagnitude_17 ?_
  refine lv_i2l (v := h0_fractionBits.toInt64) hx hb dX0_packMagnitude_20 rfl ?_
  refine fw_call (va_runS (As := [.long x1, .long h0_fractionBits.toInt64]) (rest := []) ⟨hx, hb, hml, hown, htf⟩ (k_X1_difference l x1 h0_fractionBits.toInt64) (va_cwS 2 htf (gd_S wk165 wk116 wk8 wk117) rfl rfl rfl ndX1_difference ⟨Nat.le_of_ble_eq_true rfl, Nat.le_of_ble_eq_true rfl⟩) fw_PS rfl rfl hl.1 rfl (lv_room (Nat.le_of_ble_eq_true rfl)) dX0_packMagnitude_21 ⟨Nat.le_refl _, Nat.le_refl _⟩) ?_
  refine lv_topl (fun x2 ex2 => ?_)
  refine lv_lstore (lv' := [(5, .long x2), (3, .long x1), (0, .ref h0), (1, .int p1), (2, .ref h2)]) hx hb dX0_packMagnitude_24 hl (by decide) rfl (fun ls hl => ?_)
  refine lv_lload hx hb dX0_packMagnitude_26 (lv_at hl 0 rfl) ?_
  refine lv_aload_n hx hb dX0_packMagnitude_28 rfl (lv_at hl 2 rfl) ?_
  refine va_get (D := (dC, dI)) (ci := 0) (v := .int h0_finest) (C := RX0) (T := TX0) (N := 6) hx hb htf hiX0 hown hK hP 0 rfl rfl 5 (by decide) (htf _ wk36) (fun _ h9 => h9) rfl dX0_packMagnitude_29 ?_
  refine lv_i2l (v := h0_finest.toInt64) hx hb dX0_packMagnitude_32 rfl ?_
  refine fw_call (va_runS (As := [.long x2, .long h0_finest.toInt64]) (rest := []) ⟨hx, hb, hml, hown, htf⟩ (k_X1_below l x2 h0_finest.toInt64) (va_cwS 2 htf (gd_S wk112 wk113 wk8 wk114) rfl rfl rfl ndX1_below ⟨Nat.le_of_ble_eq_true rfl, Nat.le_of_ble_eq_true rfl⟩) fw_PS rfl rfl hl.1 rfl (lv_room (Nat.le_of_ble_eq_true rfl)) dX0_packMagnitude_33 ⟨Nat.le_refl _, Nat.le_refl _⟩) ?_
  refine lv_aload_n hx hb dX0_packMagnitude_36 rfl (lv_at hl 2 rfl) ?_
  refine va_get (D := (dC, dI)) (ci := 0) (v := .int h0_finest) (C := RX0) (T := TX0) (N := 6) hx hb htf hiX0 hown hK hP 0 rfl rfl 5 (by decide) (htf _ wk36) (fun _ h9 => h9) rfl dX0_packMagnitude_37 ?_
  refine lv_i2l (v := h0_finest.toInt64) hx hb dX0_packMagnitude_40 rfl ?_
  refine lv_lload hx hb dX0_packMagnitude_41 (lv_at hl 0 rfl) ?_
  refine fw_call (va_runS (As := [.long (fg_below x2 h0_finest.toInt64), .long h0_finest.toInt64, .long x2]) (rest := []) ⟨hx, hb, hml, hown, htf⟩ (k_X1_choose l (fg_below x2 h0_finest.toInt64) h0_finest.toInt64 x2) (va_cwS 3 htf (gd_S wk220 wk178 wk8 wk179) rfl rfl rfl ndX1_choose ⟨Nat.le_of_ble_eq_true rfl, Nat.le_of_ble_eq_true rfl⟩) fw_PS rfl rfl hl.1 rfl (lv_room (Nat.le_of_ble_eq_true rfl)) dX0_packMagnitude_43 ⟨Nat.le_refl _, Nat.le_refl _⟩) ?_
  refine lv_topl (fun x3 ex3 => ?_)
  refine lv_lstore (lv' := [(7, .long x3), (5, .long x2), (3, .long x1), (0, .ref h0), (1, .int p1), (2, .ref h2)]) hx hb dX0_packMagnitude_46 hl (by decide) rfl (fun ls hl => ?_)
  refine lv_iload_n hx hb dX0_packMagnitude_48 rfl (lv_at hl 4 rfl) ?_
  refine lv_aload_n hx hb dX0_packMagnitude_49 rfl (lv_at hl 5 rfl) ?_
  refine lv_lload hx hb dX0_packMagnitude_50 (lv_at hl 0 rfl) ?_
  refine fw_call (va_runS (As := [.int p1, .ref h2, .long x3]) (rest := []) ⟨hx, hb, hml, hown, htf⟩ (k_X3_round l dC dI p1 h2 h2_nan h2_infinite h2_sign h2_exponent h2_magnitude x3) (va_cwS 3 htf (gd_S wk221 wk222 wk11 wk223) rfl rfl rfl ndX3_round ⟨Nat.le_of_ble_eq_true rfl, Nat.le_of_ble_eq_true rfl⟩) (fw_RS (hP.sub (ws' := [(h2, .inr (1, [.int (jb h2_nan), .int (jb h2_infinite), .long h2_sign, .long h2_exponent, .long h2_magnitude]))]) [1] rfl) hK) rfl rfl hl.1 rfl (lv_room (Nat.le_of_ble_eq_true rfl)) dX0_packMagnitude_52 ⟨Nat.le_refl _, Nat.le_refl _⟩) ?_
  refine lv_topl (fun x4 ex4 => ?_)
  refine lv_lstore (lv' := [(9, .long x4), (7, .long x3), (5, .long x2), (3, .long x1), (0, .ref h0), (1, .int p1), (2, .ref h2)]) hx hb dX0_packMagnitude_55 hl (by decide) rfl (fun ls hl => ?_)
  refine lv_lload hx hb dX0_packMagnitude_57 (lv_at hl 1 rfl) ?_
  refine lv_aload_n hx hb dX0_packMagnitude_59 rfl (lv_at hl 4 rfl) ?_
  refine va_get (D := (dC, dI)) (ci := 0) (v := .int h0_finest) (C := RX0) (T := TX0) (N := 6) hx hb htf hiX0 hown hK hP 0 rfl rfl 5 (by decide) (htf _ wk36) (fun _ h9 => h9) rfl dX0_packMagnitude_60 ?_
  refine lv_i2l (v := h0_finest.toInt64) hx hb dX0_packMagnitude_63 rfl ?_
  refine fw_call (va_runS (As := [.long x3, .long h0_finest.toInt64]) (rest := []) ⟨hx, hb, hml, hown, htf⟩ (k_X1_difference l x3 h0_finest.toInt64) (va_cwS 2 htf (gd_S wk165 wk116 wk8 wk117) rfl rfl rfl ndX1_difference ⟨Nat.le_of_ble_eq_true rfl, Nat.le_of_ble_eq_true rfl⟩) fw_PS rfl rfl hl.1 rfl (lv_room (Nat.le_of_ble_eq_true rfl)) dX0_packMagnitude_64 ⟨Nat.le_refl _, Nat.le_refl _⟩) ?_
  refine lv_aload_n hx hb dX0_packMagnitude_67 rfl (lv_at hl 4 rfl) ?_
  refine va_get (D := (dC, dI)) (ci := 0) (v := .int h0_fractionBits) (C := RX0) (T := TX0) (N := 6) hx hb htf hiX0 hown hK hP 0 rfl rfl 1 (by decide) (htf _ wk30) (fun _ h9 => h9) rfl dX0_packMagnitude_68 ?_
  refine lv_lshl (v := fc_shl (fg_diff x3 h0_finest.toInt64) h0_fractionBits) hx hb dX0_packMagnitude_71 rfl ?_
  refine lv_lload hx hb dX0_packMagnitude_72 (lv_at hl 0 rfl) ?_
  refine fw_call (va_runS (As := [.long (fc_shl (fg_diff x3 h0_finest.toInt64) h0_fractionBits), .long x4]) (rest := []) ⟨hx, hb, hml, hown, htf⟩ (k_X1_sum l (fc_shl (fg_diff x3 h0_finest.toInt64) h0_fractionBits) x4) (va_cwS 2 htf (gd_S wk166 wk167 wk8 wk168) rfl rfl rfl ndX1_sum ⟨Nat.le_of_ble_eq_true rfl, Nat.le_of_ble_eq_true rfl⟩) fw_PS rfl rfl hl.1 rfl (lv_room (Nat.le_of_ble_eq_true rfl)) dX0_packMagnitude_74 ⟨Nat.le_refl _, Nat.le_refl _⟩) ?_
  exact W.lret (v := fg_sum (fc_shl (fg_diff x3 h0_finest.toInt64) h0_fractionBits) x4) hx hb hr (fun t ht hW => ⟨congrArg (fun z => Outcome.returned (some (Value.long z))) (show fg_sum (fc_shl (fg_diff x3 h0_finest.toInt64) h0_fractionBits) x4 = fm_X0_packMagnitude h0_width h0_fractionBits h0_signBit h0_infinity h0_nan h0_finest p1 h2_nan h2_infinite h2_sign h2_exponent h2_magnitude from by subst ex4 ex3 ex2 ex1; rfl), ht⟩) (fun q h => nomatch h) dX0_packMagnitude_77
theorem ndX0_pack : yX0_pack.cls = RX0 ∧ yX0_pack.cls ≠ "java/lang/invoke/MethodHandle" ∧ yX0_pack.cls ≠ "java/lang/invoke/VarHandle" ∧ (parseMethodDescriptor yX0_pack.desc).map (fun d => d.parameters.length) = some 2 := by decide +kernel
def fm_X0_pack (h0_width : Int32) (h0_fractionBits : Int32) (h0_signBit : Int32) (h0_infinity : Int32) (h0_nan : Int32) (h0_finest : Int32) (p1 : Int32) (h2_nan : Bool) (h2_infinite : Bool) (h2_sign : Int64) (h2_exponent : Int64) (h2_magnitude : Int64) : Int32 := if (jb h2_nan) = 0 then (if (jb h2_infinite) = 0 then (if (jb (fm_X4_isZero h2_nan h2_infinite h2_sign h2_exponent h2_magnitude)) = 0 then (let x4 := fm_X0_packMagnitude h0_width h0_fractionBits h0_signBit h0_infinity h0_nan h0_finest p1 h2_nan h2_infinite h2_sign h2_exponent h2_magnitude; if (lg_cmp (fg_below x4 h0_infinity.toInt64) 1) = 0 then (fm_X0_signed h0_width h0_fractionBits h0_signBit h0_infinity h0_nan h0_finest h2_sign x4) else (let x6 := if (jb (fm_X3_isEndless p1 h2_sign)) = 0 then ((h0_infinity - 1).toInt64) else h0_infinity.toInt64; fm_X0_signed h0_width h0_fractionBits h0_signBit h0_infinity h0_nan h0_finest h2_sign x6)) else (fm_X0_signed h0_width h0_fractionBits h0_signBit h0_infinity h0_nan h0_finest h2_sign 0)) else (fm_X0_signed h0_width h0_fractionBits h0_signBit h0_infinity h0_nan h0_finest h2_sign h0_infinity.toInt64)) else (h0_nan)
set_option maxHeartbeats 4000000 in
set_option maxRecDepth 100000 in
theorem k_X0_pack (l : Launch) (dC : Nat → ClassId) (dI : Nat → Nat → Nat) (h0 : Nat) (h0_width : Int32) (h0_fractionBits : Int32) (h0_signBit : Int32) (h0_infinity : Int32) (h0_nan : Int32) (h0_finest : Int32) (p1 : Int32) (h2 : Nat) (h2_nan : Bool) (h2_infinite : Bool) (h2_sign : Int64) (h2_exponent : Int64) (h2_magnitude : Int64) : Met l yX0_pack wsX0_pack { frames := 5, cells := 0, slots := 0, locals := 142 } (fw_R (dC, dI) vwCl [(h0, .inr (0, [.int h0_width, .int h0_fractionBits, .int h0_signBit, .int h0_infinity, .int h0_nan, .int h0_finest])), (h2, .inr (1, [.int (jb h2_nan), .int (jb h2_infinite), .long h2_sign, .long h2_exponent, .long h2_magnitude]))] [.ref h0, .int p1, .ref h2]) (fw_Q (.int (fm_X0_pack h0_width h0_fractionBits h0_signBit h0_infinity h0_nan h0_finest p1 h2_nan h2_infinite h2_sign h2_exponent h2_magnitude))) 0 0 (fun _ => False) := by
  refine Met.ofW (cc := cX0_pack) (maxL := 6) (ret := (some .int)) (by decide) rfl ?_
  intro p e s m args below meth c s₁ B hml hv
  obtain ⟨rfl, hP, hK⟩ := hv
  have hx := B.exec
  have hb := B.bytes
  have hr := B.returns
  have hts := atoms_spec (ws := wsX0_pack) B.pre
  have htf : ∀ w ∈ fc_all, w.before _ s = true := fun w h => hts w (List.mem_cons_of_mem _ h)
  have hown : s.vm.findClass RX0 = some m.cls := findClass_of_methodNamed B.named
  have hlocks := B.notSynchronized
  have hP : va_P (dC, dI) vwCl [(h0, .inr (0, [.int h0_width, .int h0_fractionBits, .int h0_signBit, .int h0_infinity, .int h0_nan, .int h0_finest])), (h2, .inr (1, [.int (jb h2_nan), .int (jb h2_infinite), .long h2_sign, .long h2_exponent, .long h2_magnitude]))] s.heap := hP
  have hl := lv_entry ([.ref h0, .int p1, .ref h2]) (n := 6) (Nat.le_of_ble_eq_true rfl)
  rw [lg_entry_eq]
  generalize (lg_sl ([.ref h0, .int p1, .ref h2]) ++ List.replicate (6 - (lg_sl ([.ref h0, .int p1, .ref h2])).length) Slot.unset).toArray = ls at hl ⊢
  have hl : lv_has ls 6 [(0, .ref h0), (1, .int p1), (2, .ref h2)] := hl
  refine lv_aload_n hx hb dX0_pack_0 rfl (lv_at hl 2 rfl) ?_
  refine va_get (D := (dC, dI)) (ci := 1) (v := .int (jb h2_nan)) (C := RX4) (T := TX4) (N := 5) hx hb htf hiX4 hown hK hP 1 rfl rfl 0 (by decide) (htf _ wk137) (fun _ h9 => h9) rfl dX0_pack_1 ?_
  refine lv_if_eq (tgt := 12) hx hb dX0_pack_4 (by decide) (fun c1 => ?_) (fun c1 => ?_)
  · refine lv_aload_n hx hb dX0_pack_12 rfl (lv_at hl 2 rfl) ?_
    refine va_get (D := (dC, dI)) (ci := 1) (v := .int (jb h2_infinite)) (C := RX4) (T := TX4) (N := 5) hx hb htf hiX4 hown hK hP 1 rfl rfl 1 (by decide) (htf _ wk140) (fun _ h9 => h9) rfl dX0_pack_13 ?_
    refine lv_if_eq (tgt := 33) hx hb dX0_pack_16 (by decide) (fun c2 => ?_) (fun c2 => ?_)
    · refine lv_aload_n hx hb dX0_pack_33 rfl (lv_at hl 2 rfl) ?_
      refine fw_call (va_runV (As := []) (rest := []) ⟨hx, hb, hml, hown, htf⟩ (k_X4_isZero l dC dI h2 h2_nan h2_infinite h2_sign h2_exponent h2_magnitude) (cwV 0 htf (gd_V wk208 wk209 wk210 wk9 wk211) rfl rfl rfl ndX4_isZero ⟨Nat.le_of_ble_eq_true rfl, Nat.le_of_ble_eq_true rfl⟩) (fw_RV (va_recv hK hP (ci := 1) (q0 := 1) rfl rfl) (hP.sub (ws' := [(h2, .inr (1, [.int (jb h2_nan), .int (jb h2_infinite), .long h2_sign, .long h2_exponent, .long h2_magnitude]))]) [1] rfl) hK) rfl rfl hl.1 rfl (lv_room (Nat.le_of_ble_eq_true rfl)) dX0_pack_34 ⟨Nat.le_refl _, Nat.le_refl _⟩) ?_
      refine lv_if_eq (tgt := 50) hx hb dX0_pack_37 (by decide) (fun c3 => ?_) (fun c3 => ?_)
      · refine lv_aload_n hx hb dX0_pack_50 rfl (lv_at hl 0 rfl) ?_
        refine lv_iload_n hx hb dX0_pack_51 rfl (lv_at hl 1 rfl) ?_
        refine lv_aload_n hx hb dX0_pack_52 rfl (lv_at hl 2 rfl) ?_
        refine fw_call (va_runV (As := [.int p1, .ref h2]) (rest := []) ⟨hx, hb, hml, hown, htf⟩ (k_X0_packMagnitude l dC dI h0 h0_width h0_fractionBits h0_signBit h0_infinity h0_nan h0_finest p1 h2 h2_nan h2_infinite h2_sign h2_exponent h2_magnitude) (cwV 2 htf (gd_V wk213 wk214 ws4 wk2 wk215) rfl rfl rfl ndX0_packMagnitude ⟨Nat.le_of_ble_eq_true rfl, Nat.le_of_ble_eq_true rfl⟩) (fw_RV (va_recv hK hP (ci := 0) (q0 := 0) rfl rfl) (hP.sub (ws' := [(h0, .inr (0, [.int h0_width, .int h0_fractionBits, .int h0_signBit, .int h0_infinity, .int h0_nan, .int h0_finest])), (h2, .inr (1, [.int (jb h2_nan), .int (jb h2_infinite), .long h2_sign, .long h2_exponent, .long h2_magnitude]))]) [0, 1] rfl) hK) rfl rfl hl.1 rfl (lv_room (Nat.le_of_ble_eq_true rfl)) dX0_pack_53 ⟨Nat.le_refl _, Nat.le_refl _⟩) ?_
        refine lv_topl (fun x4 ex4 => ?_)
        refine lv_lstore_n (lv' := [(3, .long x4), (0, .ref h0), (1, .int p1), (2, .ref h2)]) hx hb dX0_pack_56 rfl hl (by decide) rfl (fun ls hl => ?_)
        refine lv_lload_n hx hb dX0_pack_57 rfl (lv_at hl 0 rfl) ?_
        refine lv_aload_n hx hb dX0_pack_58 rfl (lv_at hl 1 rfl) ?_
        refine va_get (D := (dC, dI)) (ci := 0) (v := .int h0_infinity) (C := RX0) (T := TX0) (N := 6) hx hb htf hiX0 hown hK hP 0 rfl rfl 3 (by decide) (htf _ wk33) (fun _ h9 => h9) rfl dX0_pack_59 ?_
        refine lv_i2l (v := h0_infinity.toInt64) hx hb dX0_pack_62 rfl ?_
        refine fw_call (va_runS (As := [.long x4, .long h0_infinity.toInt64]) (rest := []) ⟨hx, hb, hml, hown, htf⟩ (k_X1_below l x4 h0_infinity.toInt64) (va_cwS 2 htf (gd_S wk112 wk113 wk8 wk114) rfl rfl rfl ndX1_below ⟨Nat.le_of_ble_eq_true rfl, Nat.le_of_ble_eq_true rfl⟩) fw_PS rfl rfl hl.1 rfl (lv_room (Nat.le_of_ble_eq_true rfl)) dX0_pack_63 ⟨Nat.le_refl _, Nat.le_refl _⟩) ?_
        refine lv_lconst (v := 1) hx hb dX0_pack_66 (by decide) ?_
        refine W.lcmp hx hb dX0_pack_67 ?_
        refine lv_if_ne (tgt := 81) hx hb dX0_pack_68 (by decide) (fun c5 => ?_) (fun c5 => ?_)
        · refine lv_iload_n hx hb dX0_pack_81 rfl (lv_at hl 2 rfl) ?_
          refine lv_aload_n hx hb dX0_pack_82 rfl (lv_at hl 3 rfl) ?_
          refine va_get (D := (dC, dI)) (ci := 1) (v := .long h2_sign) (C := RX4) (T := TX4) (N := 5) hx hb htf hiX4 hown hK hP 1 rfl rfl 2 (by decide) (htf _ wk145) (fun _ h9 => h9) rfl dX0_pack_83 ?_
          refine fw_call (va_runS (As := [.int p1, .long h2_sign]) (rest := []) ⟨hx, hb, hml, hown, htf⟩ (k_X3_isEndless l p1 h2_sign) (va_cwS 2 htf (gd_S wk237 wk238 wk11 wk239) rfl rfl rfl ndX3_isEndless ⟨Nat.le_of_ble_eq_true rfl, Nat.le_of_ble_eq_true rfl⟩) fw_PS rfl rfl hl.1 rfl (lv_room (Nat.le_of_ble_eq_true rfl)) dX0_pack_86 ⟨Nat.le_refl _, Nat.le_refl _⟩) ?_
          refine lv_istore (lv' := [(5, .int (jb (fm_X3_isEndless p1 h2_sign))), (3, .long x4), (0, .ref h0), (1, .int p1), (2, .ref h2)]) hx hb dX0_pack_89 hl (by decide) rfl (fun ls hl => ?_)
          refine lv_aload_n hx hb dX0_pack_91 rfl (lv_at hl 2 rfl) ?_
          refine lv_aload_n hx hb dX0_pack_92 rfl (lv_at hl 4 rfl) ?_
          refine va_get (D := (dC, dI)) (ci := 1) (v := .long h2_sign) (C := RX4) (T := TX4) (N := 5) hx hb htf hiX4 hown hK hP 1 rfl rfl 2 (by decide) (htf _ wk145) (fun _ h9 => h9) rfl dX0_pack_93 ?_
          refine lv_iload hx hb dX0_pack_96 (lv_at hl 0 rfl) ?_
          refine fw_join (j := 116) (ι := Int64) (LS := fun i ls => lv_has ls 6 [(5, .int (jb (fm_X3_isEndless p1 h2_sign))), (3, .long x4), (0, .ref h0), (1, .int p1), (2, .ref h2)] ∧ i = (if (jb (fm_X3_isEndless p1 h2_sign)) = 0 then ((h0_infinity - 1).toInt64) else h0_infinity.toInt64)) (ST := fun i => [.long i, .long h2_sign, .ref h0]) ?_ (fun J7 => ?_)
          rotate_left
          · refine lv_if_eq (tgt := 109) hx hb dX0_pack_98 (by decide) (fun c8 => ?_) (fun c8 => ?_)
            · refine lv_aload_n hx hb dX0_pack_109 rfl (lv_at hl 2 rfl) ?_
              refine va_get (D := (dC, dI)) (ci := 0) (v := .int h0_infinity) (C := RX0) (T := TX0) (N := 6) hx hb htf hiX0 hown hK hP 0 rfl rfl 3 (by decide) (htf _ wk33) (fun _ h9 => h9) rfl dX0_pack_110 ?_
              refine lv_iconst (v := 1) hx hb dX0_pack_113 (by decide) ?_
              refine lv_isub hx hb dX0_pack_114 ?_
              refine lv_i2l (v := (h0_infinity - 1).toInt64) hx hb dX0_pack_115 rfl ?_
              exact J7 ((h0_infinity - 1).toInt64) ls ⟨lv_sub hl [0, 1, 2, 3, 4] rfl, by simp only [if_pos c8] <;> first | assumption | contradiction⟩
            · refine lv_aload_n hx hb dX0_pack_101 rfl (lv_at hl 2 rfl) ?_
              refine va_get (D := (dC, dI)) (ci := 0) (v := .int h0_infinity) (C := RX0) (T := TX0) (N := 6) hx hb htf hiX0 hown hK hP 0 rfl rfl 3 (by decide) (htf _ wk33) (fun _ h9 => h9) rfl dX0_pack_102 ?_
              refine lv_i2l (v := h0_infinity.toInt64) hx hb dX0_pack_105 rfl ?_
              refine lv_goto (tgt := 116) hx hb dX0_pack_106 (by decide) ?_
              exact J7 h0_infinity.toInt64 ls ⟨lv_sub hl [0, 1, 2, 3, 4] rfl, by simp only [if_neg c8] <;> first | assumption | contradiction⟩
          rintro x6 ls ⟨hl, ex6⟩
          try dsimp only at hl ex6 ⊢
          refine fw_call (va_runV (As := [.long h2_sign, .long x6]) (rest := []) ⟨hx, hb, hml, hown, htf⟩ (k_X0_signed l dC dI h0 h0_width h0_fractionBits h0_signBit h0_infinity h0_nan h0_finest h2_sign x6) (cwV 2 htf (gd_V wk205 wk206 ws3 wk2 wk207) rfl rfl rfl ndX0_signed ⟨Nat.le_of_ble_eq_true rfl, Nat.le_of_ble_eq_true rfl⟩) (fw_RV (va_recv hK hP (ci := 0) (q0 := 0) rfl rfl) (hP.sub (ws' := [(h0, .inr (0, [.int h0_width, .int h0_fractionBits, .int h0_signBit, .int h0_infinity, .int h0_nan, .int h0_finest]))]) [0] rfl) hK) rfl rfl hl.1 rfl (lv_room (Nat.le_of_ble_eq_true rfl)) dX0_pack_116 ⟨Nat.le_refl _, Nat.le_refl _⟩) ?_
          exact W.iret (v := fm_X0_signed h0_width h0_fractionBits h0_signBit h0_infinity h0_nan h0_finest h2_sign x6) hx hb hr (fun t ht hW => ⟨congrArg (fun z => Outcome.returned (some (Value.int z))) (show fm_X0_signed h0_width h0_fractionBits h0_signBit h0_infinity h0_nan h0_finest h2_sign x6 = fm_X0_pack h0_width h0_fractionBits h0_signBit h0_infinity h0_nan h0_finest p1 h2_nan h2_infinite h2_sign h2_exponent h2_magnitude from by subst ex6 ex4; first | (simp only [fm_X0_pack, if_pos c1, if_pos c2, if_pos c3, if_neg c5]; done) | contradiction), ht⟩) (fun q h => nomatch h) dX0_pack_119
        · refine lv_aload_n hx hb dX0_pack_71 rfl (lv_at hl 1 rfl) ?_
          refine lv_aload_n hx hb dX0_pack_72 rfl (lv_at hl 3 rfl) ?_
          refine va_get (D := (dC, dI)) (ci := 1) (v := .long h2_sign) (C := RX4) (T := TX4) (N := 5) hx hb htf hiX4 hown hK hP 1 rfl rfl 2 (by decide) (htf _ wk145) (fun _ h9 => h9) rfl dX0_pack_73 ?_
          refine lv_lload_n hx hb dX0_pack_76 rfl (lv_at hl 0 rfl) ?_
          refine fw_call (va_runV (As := [.long h2_sign, .long x4]) (rest := []) ⟨hx, hb, hml, hown, htf⟩ (k_X0_signed l dC dI h0 h0_width h0_fractionBits h0_signBit h0_infinity h0_nan h0_finest h2_sign x4) (cwV 2 htf (gd_V wk205 wk206 ws3 wk2 wk207) rfl rfl rfl ndX0_signed ⟨Nat.le_of_ble_eq_true rfl, Nat.le_of_ble_eq_true rfl⟩) (fw_RV (va_recv hK hP (ci := 0) (q0 := 0) rfl rfl) (hP.sub (ws' := [(h0, .inr (0, [.int h0_width, .int h0_fractionBits, .int h0_signBit, .int h0_infinity, .int h0_nan, .int h0_finest]))]) [0] rfl) hK) rfl rfl hl.1 rfl (lv_room (Nat.le_of_ble_eq_true rfl)) dX0_pack_77 ⟨Nat.le_refl _, Nat.le_refl _⟩) ?_
          exact W.iret (v := fm_X0_signed h0_width h0_fractionBits h0_signBit h0_infinity h0_nan h0_finest h2_sign x4) hx hb hr (fun t ht hW => ⟨congrArg (fun z => Outcome.returned (some (Value.int z))) (show fm_X0_signed h0_width h0_fractionBits h0_signBit h0_infinity h0_nan h0_finest h2_sign x4 = fm_X0_pack h0_width h0_fractionBits h0_signBit h0_infinity h0_nan h0_finest p1 h2_nan h2_infinite h2_sign h2_exponent h2_magnitude from by subst ex4; first | (simp only [fm_X0_pack, if_pos c1, if_pos c2, if_pos c3, if_pos c5]; done) | contradiction), ht⟩) (fun q h => nomatch h) dX0_pack_80
      · refine lv_aload_n hx hb dX0_pack_40 rfl (lv_at hl 0 rfl) ?_
        refine lv_aload_n hx hb dX0_pack_41 rfl (lv_at hl 2 rfl) ?_
        refine va_get (D := (dC, dI)) (ci := 1) (v := .long h2_sign) (C := RX4) (T := TX4) (N := 5) hx hb htf hiX4 hown hK hP 1 rfl rfl 2 (by decide) (htf _ wk145) (fun _ h9 => h9) rfl dX0_pack_42 ?_
        refine lv_lconst (v := 0) hx hb dX0_pack_45 (by decide) ?_
        refine fw_call (va_runV (As := [.long h2_sign, .long 0]) (rest := []) ⟨hx, hb, hml, hown, htf⟩ (k_X0_signed l dC dI h0 h0_width h0_fractionBits h0_signBit h0_infinity h0_nan h0_finest h2_sign 0) (cwV 2 htf (gd_V wk205 wk206 ws3 wk2 wk207) rfl rfl rfl ndX0_signed ⟨Nat.le_of_ble_eq_true rfl, Nat.le_of_ble_eq_true rfl⟩) (fw_RV (va_recv hK hP (ci := 0) (q0 := 0) rfl rfl) (hP.sub (ws' := [(h0, .inr (0, [.int h0_width, .int h0_fractionBits, .int h0_signBit, .int h0_infinity, .int h0_nan, .int h0_finest]))]) [0] rfl) hK) rfl rfl hl.1 rfl (lv_room (Nat.le_of_ble_eq_true rfl)) dX0_pack_46 ⟨Nat.le_refl _, Nat.le_refl _⟩) ?_
        exact W.iret (v := fm_X0_signed h0_width h0_fractionBits h0_signBit h0_infinity h0_nan h0_finest h2_sign 0) hx hb hr (fun t ht hW => ⟨congrArg (fun z => Outcome.returned (some (Value.int z))) (show fm_X0_signed h0_width h0_fractionBits h0_signBit h0_infinity h0_nan h0_finest h2_sign 0 = fm_X0_pack h0_width h0_fractionBits h0_signBit h0_infinity h0_nan h0_finest p1 h2_nan h2_infinite h2_sign h2_exponent h2_magnitude from by first | (simp only [fm_X0_pack, if_pos c1, if_pos c2, if_neg c3]; done) | contradiction), ht⟩) (fun q h => nomatch h) dX0_pack_49
    · refine lv_aload_n hx hb dX0_pack_19 rfl (lv_at hl 0 rfl) ?_
      refine lv_aload_n hx hb dX0_pack_20 rfl (lv_at hl 2 rfl) ?_
      refine va_get (D := (dC, dI)) (ci := 1) (v := .long h2_sign) (C := RX4) (T := TX4) (N := 5) hx hb htf hiX4 hown hK hP 1 rfl rfl 2 (by decide) (htf _ wk145) (fun _ h9 => h9) rfl dX0_pack_21 ?_
      refine lv_aload_n hx hb dX0_pack_24 rfl (lv_at hl 0 rfl) ?_
      refine va_get (D := (dC, dI)) (ci := 0) (v := .int h0_infinity) (C := RX0) (T := TX0) (N := 6) hx hb htf hiX0 hown hK hP 0 rfl rfl 3 (by decide) (htf _ wk33) (fun _ h9 => h9) rfl dX0_pack_25 ?_
      refine lv_i2l (v := h0_infinity.toInt64) hx hb dX0_pack_28 rfl ?_
      refine fw_call (va_runV (As := [.long h2_sign, .long h0_infinity.toInt64]) (rest := []) ⟨hx, hb, hml, hown, htf⟩ (k_X0_signed l dC dI h0 h0_width h0_fractionBits h0_signBit h0_infinity h0_nan h0_finest h2_sign h0_infinity.toInt64) (cwV 2 htf (gd_V wk205 wk206 ws3 wk2 wk207) rfl rfl rfl ndX0_signed ⟨Nat.le_of_ble_eq_true rfl, Nat.le_of_ble_eq_true rfl⟩) (fw_RV (va_recv hK hP (ci := 0) (q0 := 0) rfl rfl) (hP.sub (ws' := [(h0, .inr (0, [.int h0_width, .int h0_fractionBits, .int h0_signBit, .int h0_infinity, .int h0_nan, .int h0_finest]))]) [0] rfl) hK) rfl rfl hl.1 rfl (lv_room (Nat.le_of_ble_eq_true rfl)) dX0_pack_29 ⟨Nat.le_refl _, Nat.le_refl _⟩) ?_
      exact W.iret (v := fm_X0_signed h0_width h0_fractionBits h0_signBit h0_infinity h0_nan h0_finest h2_sign h0_infinity.toInt64) hx hb hr (fun t ht hW => ⟨congrArg (fun z => Outcome.returned (some (Value.int z))) (show fm_X0_signed h0_width h0_fractionBits h0_signBit h0_infinity h0_nan h0_finest h2_sign h0_infinity.toInt64 = fm_X0_pack h0_width h0_fractionBits h0_signBit h0_infinity h0_nan h0_finest p1 h2_nan h2_infinite h2_sign h2_exponent h2_magnitude from by first | (simp only [fm_X0_pack, if_pos c1, if_neg c2]; done) | contradiction), ht⟩) (fun q h => nomatch h) dX0_pack_32
  · refine lv_aload_n hx hb dX0_pack_7 rfl (lv_at hl 0 rfl) ?_
    refine va_get (D := (dC, dI)) (ci := 0) (v := .int h0_nan) (C := RX0) (T := TX0) (N := 6) hx hb htf hiX0 hown hK hP 0 rfl rfl 4 (by decide) (htf _ wk34) (fun _ h9 => h9) rfl dX0_pack_8 ?_
    exact W.iret (v := h0_nan) hx hb hr (fun t ht hW => ⟨congrArg (fun z => Outcome.returned (some (Value.int z))) (show h0_nan = fm_X0_pack h0_width h0_fractionBits h0_signBit h0_infinity h0_nan h0_finest p1 h2_nan h2_infinite h2_sign h2_exponent h2_magnitude from by first | (simp only [fm_X0_pack, if_neg c1]; done) | contradiction), ht⟩) (fun q h => nomatch h) dX0_pack_11
theorem ndX5_isWithinBits : yX5_isWithinBits.cls ≠ "java/lang/invoke/MethodHandle" ∧ yX5_isWithinBits.cls ≠ "java/lang/invoke/VarHandle" ∧ (parseMethodDescriptor yX5_isWithinBits.desc).map (fun d => d.parameters.length) = some 3 := by decide +kernel
def fm_X5_isWithinBits (h0_nan : Bool) (h0_infinite : Bool) (h0_sign : Int64) (h0_exponent : Int64) (h0_magnitude : Int64) (p1 : Int32) (p2 : Bool) : Bool := let x1 := if (jb p2) = 0 then p1 else p1 - 1; let x4 := fg_ones x1; let x5 := if (lg_cmp h0_sign 1) = 0 then (if (jb p2) = 0 then 0 else fc_shl 1 (p1 - 1)) else x4; if (lg_cmp (fg_below x5 h0_magnitude) 0) = 0 then (true) else (false)
set_option maxHeartbeats 4000000 in
set_option maxRecDepth 100000 in
theorem k_X5_isWithinBits (l : Launch) (dC : Nat → ClassId) (dI : Nat → Nat → Nat) (h0 : Nat) (h0_nan : Bool) (h0_infinite : Bool) (h0_sign : Int64) (h0_exponent : Int64) (h0_magnitude : Int64) (p1 : Int32) (p2 : Bool) : Met l yX5_isWithinBits wsX5_isWithinBits { frames := 3, cells := 0, slots := 0, locals := 78 } (fw_R (dC, dI) vwCl [(h0, .inr (1, [.int (jb h0_nan), .int (jb h0_infinite), .long h0_sign, .long h0_exponent, .long h0_magnitude]))] [.ref h0, .int p1, .int (jb p2)]) (fw_Q (.int (jb (fm_X5_isWithinBits h0_nan h0_infinite h0_sign h0_exponent h0_magnitude p1 p2)))) 0 0 (fun _ => False) := by
  refine Met.ofW (cc := cX5_isWithinBits) (maxL := 5) (ret := (some .boolean)) (by decide) rfl ?_
  intro p e s m args below meth c s₁ B hml hv
  obtain ⟨rfl, hP, hK⟩ := hv
  have hx := B.exec
  have hb := B.bytes
  have hr := B.returns
  have hts := atoms_spec (ws := wsX5_isWithinBits) B.pre
  have htf : ∀ w ∈ fc_all, w.before _ s = true := fun w h => hts w (List.mem_cons_of_mem _ h)
  have hown : s.vm.findClass RX5 = some m.cls := findClass_of_methodNamed B.named
  have hlocks := B.notSynchronized
  have hP : va_P (dC, dI) vwCl [(h0, .inr (1, [.int (jb h0_nan), .int (jb h0_infinite), .long h0_sign, .long h0_exponent, .long h0_magnitude]))] s.heap := hP
  have hl := lv_entry ([.ref h0, .int p1, .int (jb p2)]) (n := 5) (Nat.le_of_ble_eq_true rfl)
  rw [lg_entry_eq]
  generalize (lg_sl ([.ref h0, .int p1, .int (jb p2)]) ++ List.replicate (5 - (lg_sl ([.ref h0, .int p1, .int (jb p2)])).length) Slot.unset).toArray = ls at hl ⊢
  have hl : lv_has ls 5 [(0, .ref h0), (1, .int p1), (2, .int (jb p2))] := hl
  refine lv_iload_n hx hb dX5_isWithinBits_0 rfl (lv_at hl 2 rfl) ?_
  refine fw_join (j := 11) (ι := Int32) (LS := fun i ls => lv_has ls 5 [(0, .ref h0), (1, .int p1), (2, .int (jb p2))] ∧ i = (if (jb p2) = 0 then p1 else p1 - 1)) (ST := fun i => [.int i]) ?_ (fun J2 => ?_)
  rotate_left
  · refine lv_if_eq (tgt := 10) hx hb dX5_isWithinBits_1 (by decide) (fun c3 => ?_) (fun c3 => ?_)
    · refine lv_iload_n hx hb dX5_isWithinBits_10 rfl (lv_at hl 1 rfl) ?_
      exact J2 p1 ls ⟨lv_sub hl [0, 1, 2] rfl, by simp only [if_pos c3] <;> first | assumption | contradiction⟩
    · refine lv_iload_n hx hb dX5_isWithinBits_4 rfl (lv_at hl 1 rfl) ?_
      refine lv_iconst (v := 1) hx hb dX5_isWithinBits_5 (by decide) ?_
      refine lv_isub hx hb dX5_isWithinBits_6 ?_
      refine lv_goto (tgt := 11) hx hb dX5_isWithinBits_7 (by decide) ?_
      exact J2 (p1 - 1) ls ⟨lv_sub hl [0, 1, 2] rfl, by simp only [if_neg c3] <;> first | assumption | contradiction⟩
  rintro x1 ls ⟨hl, ex1⟩
  try dsimp only at hl ex1 ⊢
  refine fw_call (va_runS (As := [.int x1]) (rest := []) ⟨hx, hb, hml, hown, htf⟩ (k_X1_ones l x1) (va_cwS 1 htf (gd_S wk329 wk163 wk8 wk164) rfl rfl rfl ndX1_ones ⟨Nat.le_of_ble_eq_true rfl, Nat.le_of_ble_eq_true rfl⟩) fw_PS rfl rfl hl.1 rfl (lv_room (Nat.le_of_ble_eq_true rfl)) dX5_isWithinBits_11 ⟨Nat.le_refl _, Nat.le_refl _⟩) ?_
  refine lv_topl (fun x4 ex4 => ?_)
  refine lv_lstore_n (lv' := [(3, .long x4), (0, .ref h0), (1, .int p1), (2, .int (jb p2))]) hx hb dX5_isWithinBits_14 rfl hl (by decide) rfl (fun ls hl => ?_)
  refine lv_aload_n hx hb dX5_isWithinBits_15 rfl (lv_at hl 1 rfl) ?_
  refine va_get (D := (dC, dI)) (ci := 1) (v := .long h0_sign) (C := RX4) (T := TX4) (N := 5) hx hb htf hiX4 hown hK hP 0 rfl rfl 2 (by decide) (htf _ wk146) (fun _ h9 => h9) rfl dX5_isWithinBits_16 ?_
  refine lv_lconst (v := 1) hx hb dX5_isWithinBits_19 (by decide) ?_
  refine W.lcmp hx hb dX5_isWithinBits_20 ?_
  refine fw_join (j := 38) (ι := Int64) (LS := fun i ls => lv_has ls 5 [(3, .long i), (0, .ref h0), (1, .int p1), (2, .int (jb p2))] ∧ i = (if (lg_cmp h0_sign 1) = 0 then (if (jb p2) = 0 then 0 else fc_shl 1 (p1 - 1)) else x4)) (ST := fun i => []) ?_ (fun J6 => ?_)
  rotate_left
  · refine lv_if_ne (tgt := 38) hx hb dX5_isWithinBits_21 (by decide) (fun c7 => ?_) (fun c7 => ?_)
    · exact J6 x4 ls ⟨lv_sub hl [0, 1, 2, 3] rfl, by simp only [if_neg c7] <;> first | assumption | contradiction⟩
    · refine lv_iload_n hx hb dX5_isWithinBits_24 rfl (lv_at hl 3 rfl) ?_
      refine fw_join (j := 37) (ι := Int64) (LS := fun i ls => lv_has ls 5 [(3, .long x4), (0, .ref h0), (1, .int p1), (2, .int (jb p2))] ∧ i = (if (jb p2) = 0 then 0 else fc_shl 1 (p1 - 1))) (ST := fun i => [.long i]) ?_ (fun J9 => ?_)
      rotate_left
      · refine lv_if_eq (tgt := 36) hx hb dX5_isWithinBits_25 (by decide) (fun c10 => ?_) (fun c10 => ?_)
        · refine lv_lconst (v := 0) hx hb dX5_isWithinBits_36 (by decide) ?_
          exact J9 0 ls ⟨lv_sub hl [0, 1, 2, 3] rfl, by simp only [if_pos c10] <;> first | assumption | contradiction⟩
        · refine lv_lconst (v := 1) hx hb dX5_isWithinBits_28 (by decide) ?_
          refine lv_iload_n hx hb dX5_isWithinBits_29 rfl (lv_at hl 2 rfl) ?_
          refine lv_iconst (v := 1) hx hb dX5_isWithinBits_30 (by decide) ?_
          refine lv_isub hx hb dX5_isWithinBits_31 ?_
          refine lv_lshl (v := fc_shl 1 (p1 - 1)) hx hb dX5_isWithinBits_32 rfl ?_
          refine lv_goto (tgt := 37) hx hb dX5_isWithinBits_33 (by decide) ?_
          exact J9 (fc_shl 1 (p1 - 1)) ls ⟨lv_sub hl [0, 1, 2, 3] rfl, by simp only [if_neg c10] <;> first | assumption | contradiction⟩
      rintro x8 ls ⟨hl, ex8⟩
      try dsimp only at hl ex8 ⊢
      refine lv_lstore_n (lv' := [(3, .long x8), (0, .ref h0), (1, .int p1), (2, .int (jb p2))]) hx hb dX5_isWithinBits_37 rfl hl (by decide) rfl (fun ls hl => ?_)
      exact J6 x8 ls ⟨lv_sub hl [0, 1, 2, 3] rfl, by simp only [if_pos c7] <;> first | assumption | contradiction | simp only [ex8]⟩
  rintro x5 ls ⟨hl, ex5⟩
  try dsimp only at hl ex5 ⊢
  refine lv_lload_n hx hb dX5_isWithinBits_38 rfl (lv_at hl 0 rfl) ?_
  refine lv_aload_n hx hb dX5_isWithinBits_39 rfl (lv_at hl 1 rfl) ?_
  refine va_get (D := (dC, dI)) (ci := 1) (v := .long h0_magnitude) (C := RX4) (T := TX4) (N := 5) hx hb htf hiX4 hown hK hP 0 rfl rfl 4 (by decide) (htf _ wk155) (fun _ h9 => h9) rfl dX5_isWithinBits_40 ?_
  refine fw_call (va_runS (As := [.long x5, .long h0_magnitude]) (rest := []) ⟨hx, hb, hml, hown, htf⟩ (k_X1_below l x5 h0_magnitude) (va_cwS 2 htf (gd_S wk344 wk113 wk8 wk114) rfl rfl rfl ndX1_below ⟨Nat.le_of_ble_eq_true rfl, Nat.le_of_ble_eq_true rfl⟩) fw_PS rfl rfl hl.1 rfl (lv_room (Nat.le_of_ble_eq_true rfl)) dX5_isWithinBits_43 ⟨Nat.le_refl _, Nat.le_refl _⟩) ?_
  refine lv_lconst (v := 0) hx hb dX5_isWithinBits_46 (by decide) ?_
  refine W.lcmp hx hb dX5_isWithinBits_47 ?_
  refine lv_if_ne (tgt := 55) hx hb dX5_isWithinBits_48 (by decide) (fun c11 => ?_) (fun c11 => ?_)
  · refine lv_iconst (v := 0) hx hb dX5_isWithinBits_55 (by decide) ?_
    exact W.zret (v := jb false) (ty := .boolean) hx hb hr (jb_n _) (fun t ht hW => ⟨congrArg (fun z => Outcome.returned (some (Value.int (jb z)))) (show false = fm_X5_isWithinBits h0_nan h0_infinite h0_sign h0_exponent h0_magnitude p1 p2 from by subst ex5 ex4 ex1; first | (simp only [fm_X5_isWithinBits, if_neg c11]; done) | contradiction), ht⟩) (fun q h => nomatch h) dX5_isWithinBits_56
  · refine lv_iconst (v := 1) hx hb dX5_isWithinBits_51 (by decide) ?_
    refine lv_goto (tgt := 56) hx hb dX5_isWithinBits_52 (by decide) ?_
    exact W.zret (v := jb true) (ty := .boolean) hx hb hr (jb_n _) (fun t ht hW => ⟨congrArg (fun z => Outcome.returned (some (Value.int (jb z)))) (show true = fm_X5_isWithinBits h0_nan h0_infinite h0_sign h0_exponent h0_magnitude p1 p2 from by subst ex5 ex4 ex1; first | (simp only [fm_X5_isWithinBits, if_pos c11]; done) | contradiction), ht⟩) (fun q h => nomatch h) dX5_isWithinBits_56
