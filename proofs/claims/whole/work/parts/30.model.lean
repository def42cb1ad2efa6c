/-- the reference's fields -/
abbrev fw_S7 : Type := Int32 × Int32 × Bool × Int64 × Int32 × Bool × Bool
def fw_sl (v : fw_S7) : List Value := [.int v.1, .int v.2.1, .int (jb v.2.2.1), .long v.2.2.2.1, .int v.2.2.2.2.1, .int (jb v.2.2.2.2.2.1), .int (jb v.2.2.2.2.2.2)]
theorem ndX6_thrown : yX6_thrown.cls = RX6 ∧ yX6_thrown.cls ≠ "java/lang/invoke/MethodHandle" ∧ yX6_thrown.cls ≠ "java/lang/invoke/VarHandle" ∧ (parseMethodDescriptor yX6_thrown.desc).map (fun d => d.parameters.length) = some 0 := by decide +kernel
def fm_X6_thrown (h0_format : Int32) (h0_code : Int32) (h0_minus : Bool) (h0_m : Int64) (h0_power : Int32) (h0_infinite : Bool) (h0_none : Bool) : Int32 := h0_code
set_option maxHeartbeats 4000000 in
set_option maxRecDepth 100000 in
theorem k_X6_thrown (l : Launch) (dC : Nat → ClassId) (dI : Nat → Nat → Nat) (h0 : Nat) (h0_format : Int32) (h0_code : Int32) (h0_minus : Bool) (h0_m : Int64) (h0_power : Int32) (h0_infinite : Bool) (h0_none : Bool) : Met l yX6_thrown wsX6_thrown { frames := 0, cells := 0, slots := 0, locals := 0 } (fw_R (dC, dI) vwCl [(h0, .inr (3, [.int h0_format, .int h0_code, .int (jb h0_minus), .long h0_m, .int h0_power, .int (jb h0_infinite), .int (jb h0_none)]))] [.ref h0]) (fw_Q (.int (fm_X6_thrown h0_format h0_code h0_minus h0_m h0_power h0_infinite h0_none))) 0 0 (fun _ => False) := by
  refine Met.ofW (cc := cX6_thrown) (maxL := 1) (ret := (some .int)) (by decide) rfl ?_
  intro p e s m args below meth c s₁ B hml hv
  obtain ⟨rfl, hP, hK⟩ := hv
  have hx := B.exec
  have hb := B.bytes
  have hr := B.returns
  have hts := atoms_spec (ws := wsX6_thrown) B.pre
  have htf : ∀ w ∈ fc_all, w.before _ s = true := fun w h => hts w (List.mem_cons_of_mem _ h)
  have hown : s.vm.findClass RX6 = some m.cls := findClass_of_methodNamed B.named
  have hlocks := B.notSynchronized
  have hP : va_P (dC, dI) vwCl [(h0, .inr (3, [.int h0_format, .int h0_code, .int (jb h0_minus), .long h0_m, .int h0_power, .int (jb h0_infinite), .int (jb h0_none)]))] s.heap := hP
  have hl := lv_entry ([.ref h0]) (n := 1) (Nat.le_of_ble_eq_true rfl)
  rw [lg_entry_eq]
  generalize (lg_sl ([.ref h0]) ++ List.replicate (1 - (lg_sl ([.ref h0])).length) Slot.unset).toArray = ls at hl ⊢
  have hl : lv_has ls 1 [(0, .ref h0)] := hl
  refine lv_aload_n hx hb dX6_thrown_0 rfl (lv_at hl 0 rfl) ?_
  refine va_get (D := (dC, dI)) (ci := 3) (v := .int h0_code) (C := RX6) (T := TX6) (N := 7) hx hb htf hiX6 hown hK hP 0 rfl rfl 1 (by decide) (htf _ wk352) (fun _ h9 => h9) rfl dX6_thrown_1 ?_
  exact W.iret (v := h0_code) hx hb hr (fun t ht hW => ⟨congrArg (fun z => Outcome.returned (some (Value.int z))) (show h0_code = fm_X6_thrown h0_format h0_code h0_minus h0_m h0_power h0_infinite h0_none from by rfl), ht⟩) (fun q h => nomatch h) dX6_thrown_4
theorem ndX6_isFloat : yX6_isFloat.cls = RX6 ∧ yX6_isFloat.cls ≠ "java/lang/invoke/MethodHandle" ∧ yX6_isFloat.cls ≠ "java/lang/invoke/VarHandle" ∧ (parseMethodDescriptor yX6_isFloat.desc).map (fun d => d.parameters.length) = some 2 := by decide +kernel
def fm_X6_isFloat (h0_format : Int32) (h0_code : Int32) (h0_minus : Bool) (h0_m : Int64) (h0_power : Int32) (h0_infinite : Bool) (h0_none : Bool) (p1 : Int32) (p2 : Int32) : Bool := if p1 < 0 then (false) else (if 0 < (lg_cmp p1.toInt64 (fm_X6_mask (fm_X6_width p2))) then (false) else (true))
set_option maxHeartbeats 4000000 in
set_option maxRecDepth 100000 in
theorem k_X6_isFloat (l : Launch) (dC : Nat → ClassId) (dI : Nat → Nat → Nat) (h0 : Nat) (h0_format : Int32) (h0_code : Int32) (h0_minus : Bool) (h0_m : Int64) (h0_power : Int32) (h0_infinite : Bool) (h0_none : Bool) (p1 : Int32) (p2 : Int32) : Met l yX6_isFloat wsX6_isFloat { frames := 2, cells := 0, slots := 0, locals := 40 } (fw_R (dC, dI) vwCl [(h0, .inr (3, [.int h0_format, .int h0_code, .int (jb h0_minus), .long h0_m, .int h0_power, .int (jb h0_infinite), .int (jb h0_none)]))] [.ref h0, .int p1, .int p2]) (fw_Q (.int (jb (fm_X6_isFloat h0_format h0_code h0_minus h0_m h0_power h0_infinite h0_none p1 p2)))) 0 0 (fun _ => False) := by
  refine Met.ofW (cc := cX6_isFloat) (maxL := 3) (ret := (some .boolean)) (by decide) rfl ?_
  intro p e s m args below meth c s₁ B hml hv
  obtain ⟨rfl, hP, hK⟩ := hv
  have hx := B.exec
  have hb := B.bytes
  have hr := B.returns
  have hts := atoms_spec (ws := wsX6_isFloat) B.pre
  have htf : ∀ w ∈ fc_all, w.before _ s = true := fun w h => hts w (List.mem_cons_of_mem _ h)
  have hown : s.vm.findClass RX6 = some m.cls := findClass_of_methodNamed B.named
  have hlocks := B.notSynchronized
  have hP : va_P (dC, dI) vwCl [(h0, .inr (3, [.int h0_format, .int h0_code, .int (jb h0_minus), .long h0_m, .int h0_power, .int (jb h0_infinite), .int (jb h0_none)]))] s.heap := hP
  have hl := lv_entry ([.ref h0, .int p1, .int p2]) (n := 3) (Nat.le_of_ble_eq_true rfl)
  rw [lg_entry_eq]
  generalize (lg_sl ([.ref h0, .int p1, .int p2]) ++ List.replicate (3 - (lg_sl ([.ref h0, .int p1, .int p2])).length) Slot.unset).toArray = ls at hl ⊢
  have hl : lv_has ls 3 [(0, .ref h0), (1, .int p1), (2, .int p2)] := hl
  refine lv_iload_n hx hb dX6_isFloat_0 rfl (lv_at hl 1 rfl) ?_
  refine lv_if_lt (tgt := 21) hx hb dX6_isFloat_1 (by decide) (fun c1 => ?_) (fun c1 => ?_)
  · refine lv_iconst (v := 0) hx hb dX6_isFloat_21 (by decide) ?_
    exact W.zret (v := jb false) (ty := .boolean) hx hb hr (jb_n _) (fun t ht hW => ⟨congrArg (fun z => Outcome.returned (some (Value.int (jb z)))) (show false = fm_X6_isFloat h0_format h0_code h0_minus h0_m h0_power h0_infinite h0_none p1 p2 from by first | (simp only [fm_X6_isFloat, if_pos c1]; done) | contradiction), ht⟩) (fun q h => nomatch h) dX6_isFloat_22
  · refine lv_iload_n hx hb dX6_isFloat_4 rfl (lv_at hl 1 rfl) ?_
    refine lv_i2l (v := p1.toInt64) hx hb dX6_isFloat_5 rfl ?_
    refine lv_iload_n hx hb dX6_isFloat_6 rfl (lv_at hl 2 rfl) ?_
    refine fw_call (va_runS (As := [.int p2]) (rest := [.long p1.toInt64]) ⟨hx, hb, hml, hown, htf⟩ (k_X6_width l p2) (va_cwS 1 htf (gd_S wk382 wk383 wk3 wk384) rfl rfl rfl ndX6_width ⟨Nat.le_of_ble_eq_true rfl, Nat.le_of_ble_eq_true rfl⟩) fw_PS rfl rfl hl.1 rfl (lv_room (Nat.le_of_ble_eq_true rfl)) dX6_isFloat_7 ⟨Nat.le_refl _, Nat.le_refl _⟩) ?_
    refine fw_call (va_runS (As := [.int (fm_X6_width p2)]) (rest := [.long p1.toInt64]) ⟨hx, hb, hml, hown, htf⟩ (k_X6_mask l (fm_X6_width p2)) (va_cwS 1 htf (gd_S wk391 wk392 wk3 wk393) rfl rfl rfl ndX6_mask ⟨Nat.le_of_ble_eq_true rfl, Nat.le_of_ble_eq_true rfl⟩) fw_PS rfl rfl hl.1 rfl (lv_room (Nat.le_of_ble_eq_true rfl)) dX6_isFloat_10 ⟨Nat.le_refl _, Nat.le_refl _⟩) ?_
    refine W.lcmp hx hb dX6_isFloat_13 ?_
    refine lv_if_gt (tgt := 21) hx hb dX6_isFloat_14 (by decide) (fun c2 => ?_) (fun c2 => ?_)
    · refine lv_iconst (v := 0) hx hb dX6_isFloat_21 (by decide) ?_
      exact W.zret (v := jb false) (ty := .boolean) hx hb hr (jb_n _) (fun t ht hW => ⟨congrArg (fun z => Outcome.returned (some (Value.int (jb z)))) (show false = fm_X6_isFloat h0_format h0_code h0_minus h0_m h0_power h0_infinite h0_none p1 p2 from by first | (simp only [fm_X6_isFloat, if_neg c1, if_pos c2]; done) | contradiction), ht⟩) (fun q h => nomatch h) dX6_isFloat_22
    · refine lv_iconst (v := 1) hx hb dX6_isFloat_17 (by decide) ?_
      refine lv_goto (tgt := 22) hx hb dX6_isFloat_18 (by decide) ?_
      exact W.zret (v := jb true) (ty := .boolean) hx hb hr (jb_n _) (fun t ht hW => ⟨congrArg (fun z => Outcome.returned (some (Value.int (jb z)))) (show true = fm_X6_isFloat h0_format h0_code h0_minus h0_m h0_power h0_infinite h0_none p1 p2 from by first | (simp only [fm_X6_isFloat, if_neg c1, if_neg c2]; done) | contradiction), ht⟩) (fun q h => nomatch h) dX6_isFloat_22
theorem ndX6_good : yX6_good.cls = RX6 ∧ yX6_good.cls ≠ "java/lang/invoke/MethodHandle" ∧ yX6_good.cls ≠ "java/lang/invoke/VarHandle" ∧ (parseMethodDescriptor yX6_good.desc).map (fun d => d.parameters.length) = some 1 := by decide +kernel
def fm_X6_good_s1 (h0_format : Int32) (h0_code : Int32) (h0_minus : Bool) (h0_m : Int64) (h0_power : Int32) (h0_infinite : Bool) (h0_none : Bool) (p1 : Bool) (x1 : Bool) : Bool × fw_S7 := (p1, h0_format, jb x1, h0_minus, h0_m, h0_power, h0_infinite, h0_none)
def fm_X6_good (h0_format : Int32) (h0_code : Int32) (h0_minus : Bool) (h0_m : Int64) (h0_power : Int32) (h0_infinite : Bool) (h0_none : Bool) (p1 : Bool) : Bool × fw_S7 := fm_X6_good_s1 h0_format h0_code h0_minus h0_m h0_power h0_infinite h0_none p1 (if (jb p1) = 0 then true else false)
-- SIMP X6_good: fm_X6_good, fm_X6_good_s1
set_option maxHeartbeats 4000000 in
set_option maxRecDepth 100000 in
theorem k_X6_good (l : Launch) (dC : Nat → ClassId) (dI : Nat → Nat → Nat) (h0 : Nat) (h0_format : Int32) (h0_code : Int32) (h0_minus : Bool) (h0_m : Int64) (h0_power : Int32) (h0_infinite : Bool) (h0_none : Bool) (p1 : Bool) : Met l yX6_good wsX6_good { frames := 0, cells := 0, slots := 0, locals := 0 } (fw_R (dC, dI) vwCl [(h0, .inr (3, [.int h0_format, .int h0_code, .int (jb h0_minus), .long h0_m, .int h0_power, .int (jb h0_infinite), .int (jb h0_none)]))] [.ref h0, .int (jb p1)]) (fw_M (dC, dI) vwCl h0 3 (fw_sl (fm_X6_good h0_format h0_code h0_minus h0_m h0_power h0_infinite h0_none p1).2) (some (.int (jb ((fm_X6_good h0_format h0_code h0_minus h0_m h0_power h0_infinite h0_none p1).1))))) 0 0 (fun q => q = h0) := by
  refine Met.ofW (cc := cX6_good) (maxL := 2) (ret := (some .boolean)) (by decide) rfl ?_
  intro p e s m args below meth c s₁ B hml hv
  obtain ⟨rfl, hP, hK⟩ := hv
  have hx := B.exec
  have hb := B.bytes
  have hr := B.returns
  have hts := atoms_spec (ws := wsX6_good) B.pre
  have htf : ∀ w ∈ fc_all, w.before _ s = true := fun w h => hts w (List.mem_cons_of_mem _ h)
  have hown : s.vm.findClass RX6 = some m.cls := findClass_of_methodNamed B.named
  have hlocks := B.notSynchronized
  have hP : va_P (dC, dI) vwCl [(h0, .inr (3, [.int h0_format, .int h0_code, .int (jb h0_minus), .long h0_m, .int h0_power, .int (jb h0_infinite), .int (jb h0_none)]))] s.heap := hP
  have hD : va_D (fun q => q = h0) [(h0, .inr (3, [.int h0_format, .int h0_code, .int (jb h0_minus), .long h0_m, .int h0_power, .int (jb h0_infinite), .int (jb h0_none)]))] := fw_D1 rfl
  have hS : va_S (fun q => q = h0) s.heap s.heap [] := va_S.rf
  have hl := lv_entry ([.ref h0, .int (jb p1)]) (n := 2) (Nat.le_of_ble_eq_true rfl)
  rw [lg_entry_eq]
  generalize (lg_sl ([.ref h0, .int (jb p1)]) ++ List.replicate (2 - (lg_sl ([.ref h0, .int (jb p1)])).length) Slot.unset).toArray = ls at hl ⊢
  have hl : lv_has ls 2 [(0, .ref h0), (1, .int (jb p1))] := hl
  have hT : fm_X6_good h0_format h0_code h0_minus h0_m h0_power h0_infinite h0_none p1 = fm_X6_good h0_format h0_code h0_minus h0_m h0_power h0_infinite h0_none p1 := rfl
  refine lv_aload_n hx hb dX6_good_0 rfl (lv_at hl 0 rfl) ?_
  refine lv_iload_n hx hb dX6_good_1 rfl (lv_at hl 1 rfl) ?_
  refine fw_join (j := 10) (ι := Bool) (LS := fun i ls => lv_has ls 2 [(0, .ref h0), (1, .int (jb p1))] ∧ i = (if (jb p1) = 0 then true else false)) (ST := fun i => [.int (jb i), .ref h0]) ?_ (fun J2 => ?_)
  rotate_left
  · refine lv_if_eq (tgt := 9) hx hb dX6_good_2 (by decide) (fun c3 => ?_) (fun c3 => ?_)
    · refine lv_iconst (v := 1) hx hb dX6_good_9 (by decide) ?_
      exact J2 true ls ⟨lv_sub hl [0, 1] rfl, by simp only [if_pos c3] <;> first | assumption | contradiction⟩
    · refine lv_iconst (v := 0) hx hb dX6_good_5 (by decide) ?_
      refine lv_goto (tgt := 10) hx hb dX6_good_6 (by decide) ?_
      exact J2 false ls ⟨lv_sub hl [0, 1] rfl, by simp only [if_neg c3] <;> first | assumption | contradiction⟩
  rintro x1 ls ⟨hl, ex1⟩
  try dsimp only at hl ex1 ⊢
  have hT : fm_X6_good h0_format h0_code h0_minus h0_m h0_power h0_infinite h0_none p1 = fm_X6_good_s1 h0_format h0_code h0_minus h0_m h0_power h0_infinite h0_none p1 x1 := by rw [ex1]; exact hT
  refine va_put (D := (dC, dI)) (ci := 3) (v := .int (jb x1)) (ty := .int) (C := RX6) (T := TX6) (N := 7) hx hb htf hiX6 tyX6 tyX6_ok nmX6 hown hK hP hD hS 0 rfl rfl 1 (by decide) (htf _ wk352) (fun _ h9 => h9) rfl (by decide +kernel) rfl rfl (Nat.le_of_ble_eq_true rfl) dX6_good_10 (fun H locs hP hD hS => ?_)
  have hP : va_P (dC, dI) vwCl [(h0, .inr (3, [.int h0_format, .int (jb x1), .int (jb h0_minus), .long h0_m, .int h0_power, .int (jb h0_infinite), .int (jb h0_none)]))] H := hP
  have hD : va_D (fun q => q = h0) [(h0, .inr (3, [.int h0_format, .int (jb x1), .int (jb h0_minus), .long h0_m, .int h0_power, .int (jb h0_infinite), .int (jb h0_none)]))] := hD
  refine lv_iload_n hx hb dX6_good_13 rfl (lv_at hl 1 rfl) ?_
  have hEQ : fm_X6_good h0_format h0_code h0_minus h0_m h0_power h0_infinite h0_none p1 = (p1, h0_format, jb x1, h0_minus, h0_m, h0_power, h0_infinite, h0_none) := hT
  exact W.zret (v := jb p1) (ty := .boolean) hx hb hr (jb_n _) (fun t ht hW => ⟨by simp only [hEQ], by rw [ht]; simp only [hEQ, fw_sl]; exact hP, hS.F ht⟩) hS.2.2 dX6_good_14
theorem ndX6_take : yX6_take.cls = RX6 ∧ yX6_take.cls ≠ "java/lang/invoke/MethodHandle" ∧ yX6_take.cls ≠ "java/lang/invoke/VarHandle" ∧ (parseMethodDescriptor yX6_take.desc).map (fun d => d.parameters.length) = some 2 := by decide +kernel
def fm_X6_take_s11 (h0_format : Int32) (h0_code : Int32) (h0_minus : Bool) (h0_m : Int64) (h0_power : Int32) (h0_infinite : Bool) (h0_none : Bool) (p1 : Int64) (p2 : Int32) (x1 : Int32) (x2 : Int32) (x3 : Int64) (x4 : Int64) (x5 : Int32) (x6 : Bool) (x9 : Bool) (x13 : Bool) (x17 : Int64) (x20 : Int32) (x23 : Int32) : fw_S7 := (h0_format, h0_code, x6, x17, x23, x13, x9)
def fm_X6_take_s10 (h0_format : Int32) (h0_code : Int32) (h0_minus : Bool) (h0_m : Int64) (h0_power : Int32) (h0_infinite : Bool) (h0_none : Bool) (p1 : Int64) (p2 : Int32) (x1 : Int32) (x2 : Int32) (x3 : Int64) (x4 : Int64) (x5 : Int32) (x6 : Bool) (x9 : Bool) (x13 : Bool) (x17 : Int64) (x20 : Int32) : fw_S7 := fm_X6_take_s11 h0_format h0_code h0_minus h0_m h0_power h0_infinite h0_none p1 p2 x1 x2 x3 x4 x5 x6 x9 x13 x17 x20 ((x20 - x5) - x2)
def fm_X6_take_s9 (h0_format : Int32) (h0_code : Int32) (h0_minus : Bool) (h0_m : Int64) (h0_power : Int32) (h0_infinite : Bool) (h0_none : Bool) (p1 : Int64) (p2 : Int32) (x1 : Int32) (x2 : Int32) (x3 : Int64) (x4 : Int64) (x5 : Int32) (x6 : Bool) (x9 : Bool) (x13 : Bool) (x17 : Int64) : fw_S7 := fm_X6_take_s10 h0_format h0_code h0_minus h0_m h0_power h0_infinite h0_none p1 p2 x1 x2 x3 x4 x5 x6 x9 x13 x17 (if (lg_cmp x4 0) = 0 then 1 else x4.toInt32)
def fm_X6_take_s8 (h0_format : Int32) (h0_code : Int32) (h0_minus : Bool) (h0_m : Int64) (h0_power : Int32) (h0_infinite : Bool) (h0_none : Bool) (p1 : Int64) (p2 : Int32) (x1 : Int32) (x2 : Int32) (x3 : Int64) (x4 : Int64) (x5 : Int32) (x6 : Bool) (x9 : Bool) (x13 : Bool) : fw_S7 := fm_X6_take_s9 h0_format h0_code h0_minus h0_m h0_power h0_infinite h0_none p1 p2 x1 x2 x3 x4 x5 x6 x9 x13 (if (lg_cmp x4 0) = 0 then x3 else x3 ||| (fc_shl 1 x2))
def fm_X6_take_s7 (h0_format : Int32) (h0_code : Int32) (h0_minus : Bool) (h0_m : Int64) (h0_power : Int32) (h0_infinite : Bool) (h0_none : Bool) (p1 : Int64) (p2 : Int32) (x1 : Int32) (x2 : Int32) (x3 : Int64) (x4 : Int64) (x5 : Int32) (x6 : Bool) (x9 : Bool) : fw_S7 := fm_X6_take_s8 h0_format h0_code h0_minus h0_m h0_power h0_infinite h0_none p1 p2 x1 x2 x3 x4 x5 x6 x9 (if (lg_cmp x4 (fm_X6_mask x1)) = 0 then (if (lg_cmp x3 0) = 0 then true else false) else false)
def fm_X6_take_s6 (h0_format : Int32) (h0_code : Int32) (h0_minus : Bool) (h0_m : Int64) (h0_power : Int32) (h0_infinite : Bool) (h0_none : Bool) (p1 : Int64) (p2 : Int32) (x1 : Int32) (x2 : Int32) (x3 : Int64) (x4 : Int64) (x5 : Int32) (x6 : Bool) : fw_S7 := fm_X6_take_s7 h0_format h0_code h0_minus h0_m h0_power h0_infinite h0_none p1 p2 x1 x2 x3 x4 x5 x6 (if (lg_cmp x4 (fm_X6_mask x1)) = 0 then (if (lg_cmp x3 0) = 0 then false else true) else false)
def fm_X6_take_s5 (h0_format : Int32) (h0_code : Int32) (h0_minus : Bool) (h0_m : Int64) (h0_power : Int32) (h0_infinite : Bool) (h0_none : Bool) (p1 : Int64) (p2 : Int32) (x1 : Int32) (x2 : Int32) (x3 : Int64) (x4 : Int64) (x5 : Int32) : fw_S7 := fm_X6_take_s6 h0_format h0_code h0_minus h0_m h0_power h0_infinite h0_none p1 p2 x1 x2 x3 x4 x5 (if (lg_cmp ((fc_ushr p1 (x1 + x2)) &&& 1) 1) = 0 then true else false)
def fm_X6_take_s4 (h0_format : Int32) (h0_code : Int32) (h0_minus : Bool) (h0_m : Int64) (h0_power : Int32) (h0_infinite : Bool) (h0_none : Bool) (p1 : Int64) (p2 : Int32) (x1 : Int32) (x2 : Int32) (x3 : Int64) (x4 : Int64) : fw_S7 := fm_X6_take_s5 h0_format h0_code h0_minus h0_m h0_power h0_infinite h0_none p1 p2 x1 x2 x3 x4 ((fc_ishl 1 (x1 - 1)) - 1)
def fm_X6_take_s3 (h0_format : Int32) (h0_code : Int32) (h0_minus : Bool) (h0_m : Int64) (h0_power : Int32) (h0_infinite : Bool) (h0_none : Bool) (p1 : Int64) (p2 : Int32) (x1 : Int32) (x2 : Int32) (x3 : Int64) : fw_S7 := fm_X6_take_s4 h0_format h0_code h0_minus h0_m h0_power h0_infinite h0_none p1 p2 x1 x2 x3 ((fc_ushr p1 x2) &&& (fm_X6_mask x1))
def fm_X6_take_s2 (h0_format : Int32) (h0_code : Int32) (h0_minus : Bool) (h0_m : Int64) (h0_power : Int32) (h0_infinite : Bool) (h0_none : Bool) (p1 : Int64) (p2 : Int32) (x1 : Int32) (x2 : Int32) : fw_S7 := fm_X6_take_s3 h0_format h0_code h0_minus h0_m h0_power h0_infinite h0_none p1 p2 x1 x2 (p1 &&& (fm_X6_mask x2))
def fm_X6_take_s1 (h0_format : Int32) (h0_code : Int32) (h0_minus : Bool) (h0_m : Int64) (h0_power : Int32) (h0_infinite : Bool) (h0_none : Bool) (p1 : Int64) (p2 : Int32) (x1 : Int32) : fw_S7 := fm_X6_take_s2 h0_format h0_code h0_minus h0_m h0_power h0_infinite h0_none p1 p2 x1 ((fm_X6_significand p2) - 1)
def fm_X6_take (h0_format : Int32) (h0_code : Int32) (h0_minus : Bool) (h0_m : Int64) (h0_power : Int32) (h0_infinite : Bool) (h0_none : Bool) (p1 : Int64) (p2 : Int32) : fw_S7 := fm_X6_take_s1 h0_format h0_code h0_minus h0_m h0_power h0_infinite h0_none p1 p2 (fm_X6_exponent p2)
-- SIMP X6_take: fm_X6_take, fm_X6_take_s1, fm_X6_take_s2, fm_X6_take_s3, fm_X6_take_s4, fm_X6_take_s5, fm_X6_take_s6, fm_X6_take_s7, fm_X6_take_s8, fm_X6_take_s9, fm_X6_take_s10, fm_X6_take_s11
set_option maxHeartbeats 4000000 in
set_option maxRecDepth 100000 in
theorem k_X6_take (l : Launch) (dC : Nat → ClassId) (dI : Nat → Nat → Nat) (h0 : Nat) (h0_format : Int32) (h0_code : Int32) (h0_minus : Bool) (h0_m : Int64) (h0_power : Int32) (h0_infinite : Bool) (h0_none : Bool) (p1 : Int64) (p2 : Int32) : Met l yX6_take wsX6_take { frames := 1, cells := 0, slots := 0, locals := 20 } (fw_R (dC, dI) vwCl [(h0, .inr (3, [.int h0_format, .int h0_code, .int (jb h0_minus), .long h0_m, .int h0_power, .int (jb h0_infinite), .int (jb h0_none)]))] [.ref h0, .long p1, .int p2]) (fw_M (dC, dI) vwCl h0 3 (fw_sl (fm_X6_take h0_format h0_code h0_minus h0_m h0_power h0_infinite h0_none p1 p2)) none) 0 0 (fun q => q = h0) := by
  refine Met.ofW (cc := cX6_take) (maxL := 11) (ret := none) (by decide) rfl ?_
  intro p e s m args below meth c s₁ B hml hv
  obtain ⟨rfl, hP, hK⟩ := hv
  have hx := B.exec
  have hb := B.bytes
  have hr := B.returns
  have hts := atoms_spec (ws := wsX6_take) B.pre
  have htf : ∀ w ∈ fc_all, w.before _ s = true := fun w h => hts w (List.mem_cons_of_mem _ h)
  have hown : s.vm.findClass RX6 = some m.cls := findClass_of_methodNamed B.named
  have hlocks := B.notSynchronized
  have hP : va_P (dC, dI) vwCl [(h0, .inr (3, [.int h0_format, .int h0_code, .int (jb h0_minus), .long h0_m, .int h0_power, .int (jb h0_infinite), .int (jb h0_none)]))] s.heap := hP
  have hD : va_D (fun q => q = h0) [(h0, .inr (3, [.int h0_format, .int h0_code, .int (jb h0_minus), .long h0_m, .int h0_power, .int (jb h0_infinite), .int (jb h0_none)]))] := fw_D1 rfl
  have hS : va_S (fun q => q = h0) s.heap s.heap [] := va_S.rf
  have hl := lv_entry ([.ref h0, .long p1, .int p2]) (n := 11) (Nat.le_of_ble_eq_true rfl)
  rw [lg_entry_eq]
  generalize (lg_sl ([.ref h0, .long p1, .int p2]) ++ List.replicate (11 - (lg_sl ([.ref h0, .long p1, .int p2])).length) Slot.unset).toArray = ls at hl ⊢
  have hl : lv_has ls 11 [(0, .ref h0), (1, .long p1), (3, .int p2)] := hl
  have hT : fm_X6_take h0_format h0_code h0_minus h0_m h0_power h0_infinite h0_none p1 p2 = fm_X6_take h0_format h0_code h0_minus h0_m h0_power h0_infinite h0_none p1 p2 := rfl
  refine lv_iload_n hx hb dX6_take_0 rfl (lv_at hl 2 rfl) ?_
  refine fw_call (va_runS (As := [.int p2]) (rest := []) ⟨hx, hb, hml, hown, htf⟩ (k_X6_exponent l p2) (va_cwS 1 htf (gd_S wk385 wk386 wk3 wk387) rfl rfl rfl ndX6_exponent ⟨Nat.le_of_ble_eq_true rfl, Nat.le_of_ble_eq_true rfl⟩) fw_PS rfl rfl hl.1 rfl (lv_room (Nat.le_of_ble_eq_true rfl)) dX6_take_1 ⟨Nat.le_refl _, Nat.le_refl _⟩) ?_
  refine lv_topi (fun x1 ex1 => ?_)
  have hT : fm_X6_take h0_format h0_code h0_minus h0_m h0_power h0_infinite h0_none p1 p2 = fm_X6_take_s1 h0_format h0_code h0_minus h0_m h0_power h0_infinite h0_none p1 p2 x1 := by rw [ex1]; exact hT
  refine lv_istore (lv' := [(4, .int x1), (0, .ref h0), (1, .long p1), (3, .int p2)]) hx hb dX6_take_4 hl (by decide) rfl (fun ls hl => ?_)
  refine lv_iload_n hx hb dX6_take_6 rfl (lv_at hl 3 rfl) ?_
  refine fw_call (va_runS (As := [.int p2]) (rest := []) ⟨hx, hb, hml, hown, htf⟩ (k_X6_significand l p2) (va_cwS 1 htf (gd_S wk388 wk389 wk3 wk390) rfl rfl rfl ndX6_significand ⟨Nat.le_of_ble_eq_true rfl, Nat.le_of_ble_eq_true rfl⟩) fw_PS rfl rfl hl.1 rfl (lv_room (Nat.le_of_ble_eq_true rfl)) dX6_take_7 ⟨Nat.le_refl _, Nat.le_refl _⟩) ?_
  refine lv_iconst (v := 1) hx hb dX6_take_10 (by decide) ?_
  refine lv_isub hx hb dX6_take_11 ?_
  refine lv_topi (fun x2 ex2 => ?_)
  have hT : fm_X6_take h0_format h0_code h0_minus h0_m h0_power h0_infinite h0_none p1 p2 = fm_X6_take_s2 h0_format h0_code h0_minus h0_m h0_power h0_infinite h0_none p1 p2 x1 x2 := by rw [ex2]; exact hT
  refine lv_istore (lv' := [(5, .int x2), (4, .int x1), (0, .ref h0), (1, .long p1), (3, .int p2)]) hx hb dX6_take_12 hl (by decide) rfl (fun ls hl => ?_)
  refine lv_lload_n hx hb dX6_take_14 rfl (lv_at hl 3 rfl) ?_
  refine lv_iload hx hb dX6_take_15 (lv_at hl 0 rfl) ?_
  refine fw_call (va_runS (As := [.int x2]) (rest := [.long p1]) ⟨hx, hb, hml, hown, htf⟩ (k_X6_mask l x2) (va_cwS 1 htf (gd_S wk391 wk392 wk3 wk393) rfl rfl rfl ndX6_mask ⟨Nat.le_of_ble_eq_true rfl, Nat.le_of_ble_eq_true rfl⟩) fw_PS rfl rfl hl.1 rfl (lv_room (Nat.le_of_ble_eq_true rfl)) dX6_take_17 ⟨Nat.le_refl _, Nat.le_refl _⟩) ?_
  refine lv_land hx hb dX6_take_20 ?_
  refine lv_topl (fun x3 ex3 => ?_)
  have hT : fm_X6_take h0_format h0_code h0_minus h0_m h0_power h0_infinite h0_none p1 p2 = fm_X6_take_s3 h0_format h0_code h0_minus h0_m h0_power h0_infinite h0_none p1 p2 x1 x2 x3 := by rw [ex3]; exact hT
  refine lv_lstore (lv' := [(6, .long x3), (5, .int x2), (4, .int x1), (0, .ref h0), (1, .long p1), (3, .int p2)]) hx hb dX6_take_21 hl (by decide) rfl (fun ls hl => ?_)
  refine lv_lload_n hx hb dX6_take_23 rfl (lv_at hl 4 rfl) ?_
  refine lv_iload hx hb dX6_take_24 (lv_at hl 1 rfl) ?_
  refine lv_lushr (v := fc_ushr p1 x2) hx hb dX6_take_26 rfl ?_
  refine lv_iload hx hb dX6_take_27 (lv_at hl 2 rfl) ?_
  refine fw_call (va_runS (As := [.int x1]) (rest := [.long (fc_ushr p1 x2)]) ⟨hx, hb, hml, hown, htf⟩ (k_X6_mask l x1) (va_cwS 1 htf (gd_S wk391 wk392 wk3 wk393) rfl rfl rfl ndX6_mask ⟨Nat.le_of_ble_eq_true rfl, Nat.le_of_ble_eq_true rfl⟩) fw_PS rfl rfl hl.1 rfl (lv_room (Nat.le_of_ble_eq_true rfl)) dX6_take_29 ⟨Nat.le_refl _, Nat.le_refl _⟩) ?_
  refine lv_land hx hb dX6_take_32 ?_
  refine lv_topl (fun x4 ex4 => ?_)
  have hT : fm_X6_take h0_format h0_code h0_minus h0_m h0_power h0_infinite h0_none p1 p2 = fm_X6_take_s4 h0_format h0_code h0_minus h0_m h0_power h0_infinite h0_none p1 p2 x1 x2 x3 x4 := by rw [ex4]; exact hT
  refine lv_lstore (lv' := [(8, .long x4), (6, .long x3), (5, .int x2), (4, .int x1), (0, .ref h0), (1, .long p1), (3, .int p2)]) hx hb dX6_take_33 hl (by decide) rfl (fun ls hl => ?_)
  refine lv_iconst (v := 1) hx hb dX6_take_35 (by decide) ?_
  refine lv_iload hx hb dX6_take_36 (lv_at hl 3 rfl) ?_
  refine lv_iconst (v := 1) hx hb dX6_take_38 (by decide) ?_
  refine lv_isub hx hb dX6_take_39 ?_
  refine lv_ishl hx hb dX6_take_40 ?_
  refine fw_topi (x := fc_ishl 1 (x1 - 1)) ?_
  refine lv_iconst (v := 1) hx hb dX6_take_41 (by decide) ?_
  refine lv_isub hx hb dX6_take_42 ?_
  refine lv_topi (fun x5 ex5 => ?_)
  have hT : fm_X6_take h0_format h0_code h0_minus h0_m h0_power h0_infinite h0_none p1 p2 = fm_X6_take_s5 h0_format h0_code h0_minus h0_m h0_power h0_infinite h0_none p1 p2 x1 x2 x3 x4 x5 := by rw [ex5]; exact hT
  refine lv_istore (lv' := [(10, .int x5), (8, .long x4), (6, .long x3), (5, .int x2), (4, .int x1), (0, .ref h0), (1, .long p1), (3, .int p2)]) hx hb dX6_take_43 hl (by decide) rfl (fun ls hl => ?_)
  refine lv_aload_n hx hb dX6_take_45 rfl (lv_at hl 5 rfl) ?_
  refine lv_lload_n hx hb dX6_take_46 rfl (lv_at hl 6 rfl) ?_
  refine lv_iload hx hb dX6_take_47 (lv_at hl 4 rfl) ?_
  refine lv_iload hx hb dX6_take_49 (lv_at hl 3 rfl) ?_
  refine lv_iadd hx hb dX6_take_51 ?_
  refine lv_lushr (v := fc_ushr p1 (x1 + x2)) hx hb dX6_take_52 rfl ?_
  refine lv_lconst (v := 1) hx hb dX6_take_53 (by decide) ?_
  refine lv_land hx hb dX6_take_54 ?_
  refine lv_lconst (v := 1) hx hb dX6_take_55 (by decide) ?_
  refine W.lcmp hx hb dX6_take_56 ?_
  refine fw_join (j := 65) (ι := Bool) (LS := fun i ls => lv_has ls 11 [(10, .int x5), (8, .long x4), (6, .long x3), (5, .int x2), (4, .int x1), (0, .ref h0), (1, .long p1), (3, .int p2)] ∧ i = (if (lg_cmp ((fc_ushr p1 (x1 + x2)) &&& 1) 1) = 0 then true else false)) (ST := fun i => [.int (jb i), .ref h0]) ?_ (fun J7 => ?_)
  rotate_left
  · refine lv_if_ne (tgt := 64) hx hb dX6_take_57 (by decide) (fun c8 => ?_) (fun c8 => ?_)
    · refine lv_iconst (v := 0) hx hb dX6_take_64 (by decide) ?_
      exact J7 false ls ⟨lv_sub hl [0, 1, 2, 3, 4, 5, 6, 7] rfl, by simp only [if_neg c8] <;> first | assumption | contradiction⟩
    · refine lv_iconst (v := 1) hx hb dX6_take_60 (by decide) ?_
      refine lv_goto (tgt := 65) hx hb dX6_take_61 (by decide) ?_
      exact J7 true ls ⟨lv_sub hl [0, 1, 2, 3, 4, 5, 6, 7] rfl, by simp only [if_pos c8] <;> first | assumption | contradiction⟩
  rintro x6 ls ⟨hl, ex6⟩
  try dsimp only at hl ex6 ⊢
  have hT : fm_X6_take h0_format h0_code h0_minus h0_m h0_power h0_infinite h0_none p1 p2 = fm_X6_take_s6 h0_format h0_code h0_minus h0_m h0_power h0_infinite h0_none p1 p2 x1 x2 x3 x4 x5 x6 := by rw [ex6]; exact hT
  refine va_put (D := (dC, dI)) (ci := 3) (v := .int (jb x6)) (ty := .boolean) (C := RX6) (T := TX6) (N := 7) hx hb htf hiX6 tyX6 tyX6_ok nmX6 hown hK hP hD hS 0 rfl rfl 2 (by decide) (htf _ wk353) (fun _ h9 => h9) rfl (by decide +kernel) (jb_n _) (jb_f _) (Nat.le_of_ble_eq_true rfl) dX6_take_65 (fun H locs hP hD hS => ?_)
  have hP : va_P (dC, dI) vwCl [(h0, .inr (3, [.int h0_format, .int h0_code, .int (jb x6), .long h0_m, .int h0_power, .int (jb h0_infinite), .int (jb h0_none)]))] H := hP
  have hD : va_D (fun q => q = h0) [(h0, .inr (3, [.int h0_format, .int h0_code, .int (jb x6), .long h0_m, .int h0_power, .int (jb h0_infinite), .int (jb h0_none)]))] := hD
  refine lv_aload_n hx hb dX6_take_68 rfl (lv_at hl 5 rfl) ?_
  refine lv_lload hx hb dX6_take_69 (lv_at hl 1 rfl) ?_
  refine lv_iload hx hb dX6_take_71 (lv_at hl 4 rfl) ?_
  refine fw_call (va_runS (As := [.int x1]) (rest := [.long x4, .ref h0]) ⟨hx, hb, hml, hown, htf⟩ (k_X6_mask l x1) (va_cwS 1 htf (gd_S wk391 wk392 wk3 wk393) rfl rfl rfl ndX6_mask ⟨Nat.le_of_ble_eq_true rfl, Nat.le_of_ble_eq_true rfl⟩) fw_PS rfl rfl hl.1 rfl (lv_room (Nat.le_of_ble_eq_true rfl)) dX6_take_73 ⟨Nat.le_refl _, Nat.le_refl _⟩) ?_
  refine W.lcmp hx hb dX6_take_76 ?_
  refine fw_join (j := 92) (ι := Bool) (LS := fun i ls => lv_has ls 11 [(10, .int x5), (8, .long x4), (6, .long x3), (5, .int x2), (4, .int x1), (0, .ref h0), (1, .long p1), (3, .int p2)] ∧ i = (if (lg_cmp x4 (fm_X6_mask x1)) = 0 then (if (lg_cmp x3 0) = 0 then false else true) else false)) (ST := fun i => [.int (jb i), .ref h0]) ?_ (fun J10 => ?_)
  rotate_left
  · refine lv_if_ne (tgt := 91) hx hb dX6_take_77 (by decide) (fun c11 => ?_) (fun c11 => ?_)
    · refine lv_iconst (v := 0) hx hb dX6_take_91 (by decide) ?_
      exact J10 false ls ⟨lv_sub hl [0, 1, 2, 3, 4, 5, 6, 7] rfl, by simp only [if_neg c11] <;> first | assumption | contradiction⟩
    · refine lv_lload hx hb dX6_take_80 (lv_at hl 2 rfl) ?_
      refine lv_lconst (v := 0) hx hb dX6_take_82 (by decide) ?_
      refine W.lcmp hx hb dX6_take_83 ?_
      refine lv_if_eq (tgt := 91) hx hb dX6_take_84 (by decide) (fun c12 => ?_) (fun c12 => ?_)
      · refine lv_iconst (v := 0) hx hb dX6_take_91 (by decide) ?_
        exact J10 false ls ⟨lv_sub hl [0, 1, 2, 3, 4, 5, 6, 7] rfl, by simp only [if_pos c11, if_pos c12] <;> first | assumption | contradiction⟩
      · refine lv_iconst (v := 1) hx hb dX6_take_87 (by decide) ?_
        refine lv_goto (tgt := 92) hx hb dX6_take_88 (by decide) ?_
        exact J10 true ls ⟨lv_sub hl [0, 1, 2, 3, 4, 5, 6, 7] rfl, by simp only [if_pos c11, if_neg c12] <;> first | assumption | contradiction⟩
  rintro x9 ls ⟨hl, ex9⟩
  try dsimp only at hl ex9 ⊢
  have hT : fm_X6_take h0_format h0_code h0_minus h0_m h0_power h0_infinite h0_none p1 p2 = fm_X6_take_s7 h0_format h0_code h0_minus h0_m h0_power h0_infinite h0_none p1 p2 x1 x2 x3 x4 x5 x6 x9 := by rw [ex9]; exact hT
  refine va_put (D := (dC, dI)) (ci := 3) (v := .int (jb x9)) (ty := .boolean) (C := RX6) (T := TX6) (N := 7) hx hb htf hiX6 tyX6 tyX6_ok nmX6 hown hK hP hD hS 0 rfl rfl 6 (by decide) (htf _ wk357) (fun _ h9 => h9) rfl (by decide +kernel) (jb_n _) (jb_f _) (Nat.le_of_ble_eq_true rfl) dX6_take_92 (fun H locs hP hD hS => ?_)
  have hP : va_P (dC, dI) vwCl [(h0, .inr (3, [.int h0_format, .int h0_code, .int (jb x6), .long h0_m, .int h0_power, .int (jb h0_infinite), .int (jb x9)]))] H := hP
  have hD : va_D (fun q => q = h0) [(h0, .inr (3, [.int h0_format, .int h0_code, .int (jb x6), .long h0_m, .int h0_power, .int (jb h0_infinite), .int (jb x9)]))] := hD
  refine lv_aload_n hx hb dX6_take_95 rfl (lv_at hl 5 rfl) ?_
  refine lv_lload hx hb dX6_take_96 (lv_at hl 1 rfl) ?_
  refine lv_iload hx hb dX6_take_98 (lv_at hl 4 rfl) ?_
  refine fw_call (va_runS (As := [.int x1]) (rest := [.long x4, .ref h0]) ⟨hx, hb, hml, hown, htf⟩ (k_X6_mask l x1) (va_cwS 1 htf (gd_S wk391 wk392 wk3 wk393) rfl rfl rfl ndX6_mask ⟨Nat.le_of_ble_eq_true rfl, Nat.le_of_ble_eq_true rfl⟩) fw_PS rfl rfl hl.1 rfl (lv_room (Nat.le_of_ble_eq_true rfl)) dX6_take_100 ⟨Nat.le_refl _, Nat.le_refl _⟩) ?_
  refine W.lcmp hx hb dX6_take_103 ?_
  refine fw_join (j := 119) (ι := Bool) (LS := fun i ls => lv_has ls 11 [(10, .int x5), (8, .long x4), (6, .long x3), (5, .int x2), (4, .int x1), (0, .ref h0), (1, .long p1), (3, .int p2)] ∧ i = (if (lg_cmp x4 (fm_X6_mask x1)) = 0 then (if (lg_cmp x3 0) = 0 then true else false) else false)) (ST := fun i => [.int (jb i), .ref h0]) ?_ (fun J14 => ?_)
  rotate_left
  · refine lv_if_ne (tgt := 118) hx hb dX6_take_104 (by decide) (fun c15 => ?_) (fun c15 => ?_)
    · refine lv_iconst (v := 0) hx hb dX6_take_118 (by decide) ?_
      exact J14 false ls ⟨lv_sub hl [0, 1, 2, 3, 4, 5, 6, 7] rfl, by simp only [if_neg c15] <;> first | assumption | contradiction⟩
    · refine lv_lload hx hb dX6_take_107 (lv_at hl 2 rfl) ?_
      refine lv_lconst (v := 0) hx hb dX6_take_109 (by decide) ?_
      refine W.lcmp hx hb dX6_take_110 ?_
      refine lv_if_ne (tgt := 118) hx hb dX6_take_111 (by decide) (fun c16 => ?_) (fun c16 => ?_)
      · refine lv_iconst (v := 0) hx hb dX6_take_118 (by decide) ?_
        exact J14 false ls ⟨lv_sub hl [0, 1, 2, 3, 4, 5, 6, 7] rfl, by simp only [if_pos c15, if_neg c16] <;> first | assumption | contradiction⟩
      · refine lv_iconst (v := 1) hx hb dX6_take_114 (by decide) ?_
        refine lv_goto (tgt := 119) hx hb dX6_take_115 (by decide) ?_
        exact J14 true ls ⟨lv_sub hl [0, 1, 2, 3, 4, 5, 6, 7] rfl, by simp only [if_pos c15, if_pos c16] <;> first | assumption | contradiction⟩
  rintro x13 ls ⟨hl, ex13⟩
  try dsimp only at hl ex13 ⊢
  have hT : fm_X6_take h0_format h0_code h0_minus h0_m h0_power h0_infinite h0_none p1 p2 = fm_X6_take_s8 h0_format h0_code h0_minus h0_m h0_power h0_infinite h0_none p1 p2 x1 x2 x3 x4 x5 x6 x9 x13 := by rw [ex13]; exact hT
  refine va_put (D := (dC, dI)) (ci := 3) (v := .int (jb x13)) (ty := .boolean) (C := RX6) (T := TX6) (N := 7) hx hb htf hiX6 tyX6 tyX6_ok nmX6 hown hK hP hD hS 0 rfl rfl 5 (by decide) (htf _ wk356) (fun _ h9 => h9) rfl (by decide +kernel) (jb_n _) (jb_f _) (Nat.le_of_ble_eq_true rfl) dX6_take_119 (fun H locs hP hD hS => ?_)
  have hP : va_P (dC, dI) vwCl [(h0, .inr (3, [.int h0_format, .int h0_code, .int (jb x6), .long h0_m, .int h0_power, .int (jb x13), .int (jb x9)]))] H := hP
  have hD : va_D (fun q => q = h0) [(h0, .inr (3, [.int h0_format, .int h0_code, .int (jb x6), .long h0_m, .int h0_power, .int (jb x13), .int (jb x9)]))] := hD
  refine lv_aload_n hx hb dX6_take_122 rfl (lv_at hl 5 rfl) ?_
  refine lv_lload hx hb dX6_take_123 (lv_at hl 1 rfl) ?_
  refine lv_lconst (v := 0) hx hb dX6_take_125 (by decide) ?_
  refine W.lcmp hx hb dX6_take_126 ?_
  refine fw_join (j := 142) (ι := Int64) (LS := fun i ls => lv_has ls 11 [(10, .int x5), (8, .long x4), (6, .long x3), (5, .int x2), (4, .int x1), (0, .ref h0), (1, .long p1), (3, .int p2)] ∧ i = (if (lg_cmp x4 0) = 0 then x3 else x3 ||| (fc_shl 1 x2))) (ST := fun i => [.long i, .ref h0]) ?_ (fun J18 => ?_)
  rotate_left
  · refine lv_if_ne (tgt := 135) hx hb dX6_take_127 (by decide) (fun c19 => ?_) (fun c19 => ?_)
    · refine lv_lload hx hb dX6_take_135 (lv_at hl 2 rfl) ?_
      refine lv_lconst (v := 1) hx hb dX6_take_137 (by decide) ?_
      refine lv_iload hx hb dX6_take_138 (lv_at hl 3 rfl) ?_
      refine lv_lshl (v := fc_shl 1 x2) hx hb dX6_take_140 rfl ?_
      refine lv_lor hx hb dX6_take_141 ?_
      exact J18 (x3 ||| (fc_shl 1 x2)) ls ⟨lv_sub hl [0, 1, 2, 3, 4, 5, 6, 7] rfl, by simp only [if_neg c19] <;> first | assumption | contradiction⟩
    · refine lv_lload hx hb dX6_take_130 (lv_at hl 2 rfl) ?_
      refine lv_goto (tgt := 142) hx hb dX6_take_132 (by decide) ?_
      exact J18 x3 ls ⟨lv_sub hl [0, 1, 2, 3, 4, 5, 6, 7] rfl, by simp only [if_pos c19] <;> first | assumption | contradiction⟩
  rintro x17 ls ⟨hl, ex17⟩
  try dsimp only at hl ex17 ⊢
  have hT : fm_X6_take h0_format h0_code h0_minus h0_m h0_power h0_infinite h0_none p1 p2 = fm_X6_take_s9 h0_format h0_code h0_minus h0_m h0_power h0_infinite h0_none p1 p2 x1 x2 x3 x4 x5 x6 x9 x13 x17 := by rw [ex17]; exact hT
  refine va_put (D := (dC, dI)) (ci := 3) (v := .long x17) (ty := .long) (C := RX6) (T := TX6) (N := 7) hx hb htf hiX6 tyX6 tyX6_ok nmX6 hown hK hP hD hS 0 rfl rfl 3 (by decide) (htf _ wk354) (fun _ h9 => h9) rfl (by decide +kernel) rfl rfl (Nat.le_of_ble_eq_true rfl) dX6_take_142 (fun H locs hP hD hS => ?_)
  have hP : va_P (dC, dI) vwCl [(h0, .inr (3, [.int h0_format, .int h0_code, .int (jb x6), .long x17, .int h0_power, .int (jb x13), .int (jb x9)]))] H := hP
  have hD : va_D (fun q => q = h0) [(h0, .inr (3, [.int h0_format, .int h0_code, .int (jb x6), .long x17, .int h0_power, .int (jb x13), .int (jb x9)]))] := hD
  refine lv_aload_n hx hb dX6_take_145 rfl (lv_at hl 5 rfl) ?_
  refine lv_lload hx hb dX6_take_146 (lv_at hl 1 rfl) ?_
  refine lv_lconst (v := 0) hx hb dX6_take_148 (by decide) ?_
  refine W.lcmp hx hb dX6_take_149 ?_
  refine fw_join (j := 160) (ι := Int32) (LS := fun i ls => lv_has ls 11 [(10, .int x5), (8, .long x4), (6, .long x3), (5, .int x2), (4, .int x1), (0, .ref h0), (1, .long p1), (3, .int p2)] ∧ i = (if (lg_cmp x4 0) = 0 then 1 else x4.toInt32)) (ST := fun i => [.int i, .ref h0]) ?_ (fun J21 => ?_)
  rotate_left
  · refine lv_if_ne (tgt := 157) hx hb dX6_take_150 (by decide) (fun c22 => ?_) (fun c22 => ?_)
    · refine lv_lload hx hb dX6_take_157 (lv_at hl 1 rfl) ?_
      refine lv_l2i (v := x4.toInt32) hx hb dX6_take_159 rfl ?_
      exact J21 x4.toInt32 ls ⟨lv_sub hl [0, 1, 2, 3, 4, 5, 6, 7] rfl, by simp only [if_neg c22] <;> first | assumption | contradiction⟩
    · refine lv_iconst (v := 1) hx hb dX6_take_153 (by decide) ?_
      refine lv_goto (tgt := 160) hx hb dX6_take_154 (by decide) ?_
      exact J21 1 ls ⟨lv_sub hl [0, 1, 2, 3, 4, 5, 6, 7] rfl, by simp only [if_pos c22] <;> first | assumption | contradiction⟩
  rintro x20 ls ⟨hl, ex20⟩
  try dsimp only at hl ex20 ⊢
  have hT : fm_X6_take h0_format h0_code h0_minus h0_m h0_power h0_infinite h0_none p1 p2 = fm_X6_take_s10 h0_format h0_code h0_minus h0_m h0_power h0_infinite h0_none p1 p2 x1 x2 x3 x4 x5 x6 x9 x13 x17 x20 := by rw [ex20]; exact hT
  refine lv_iload hx hb dX6_take_160 (lv_at hl 0 rfl) ?_
  refine lv_isub hx hb dX6_take_162 ?_
  refine lv_iload hx hb dX6_take_163 (lv_at hl 3 rfl) ?_
  refine lv_isub hx hb dX6_take_165 ?_
  refine lv_topi (fun x23 ex23 => ?_)
  have hT : fm_X6_take h0_format h0_code h0_minus h0_m h0_power h0_infinite h0_none p1 p2 = fm_X6_take_s11 h0_format h0_code h0_minus h0_m h0_power h0_infinite h0_none p1 p2 x1 x2 x3 x4 x5 x6 x9 x13 x17 x20 x23 := by rw [ex23]; exact hT
  refine va_put (D := (dC, dI)) (ci := 3) (v := .int x23) (ty := .int) (C := RX6) (T := TX6) (N := 7) hx hb htf hiX6 tyX6 tyX6_ok nmX6 hown hK hP hD hS 0 rfl rfl 4 (by decide) (htf _ wk355) (fun _ h9 => h9) rfl (by decide +kernel) rfl rfl (Nat.le_of_ble_eq_true rfl) dX6_take_166 (fun H locs hP hD hS => ?_)
  have hP : va_P (dC, dI) vwCl [(h0, .inr (3, [.int h0_format, .int h0_code, .int (jb x6), .long x17, .int x23, .int (jb x13), .int (jb x9)]))] H := hP
  have hD : va_D (fun q => q = h0) [(h0, .inr (3, [.int h0_format, .int h0_code, .int (jb x6), .long x17, .int x23, .int (jb x13), .int (jb x9)]))] := hD
  have hEQ : fm_X6_take h0_format h0_code h0_minus h0_m h0_power h0_infinite h0_none p1 p2 = (h0_format, h0_code, x6, x17, x23, x13, x9) := hT
  exact W.vret hx hb hr (fun t ht hW => ⟨rfl, by rw [ht]; simp only [hEQ, fw_sl]; exact hP, hS.F ht⟩) hS.2.2 dX6_take_169
theorem ndX6_canonical : yX6_canonical.cls = RX6 ∧ yX6_canonical.cls ≠ "java/lang/invoke/MethodHandle" ∧ yX6_canonical.cls ≠ "java/lang/invoke/VarHandle" ∧ (parseMethodDescriptor yX6_canonical.desc).map (fun d => d.parameters.length) = some 2 := by decide +kernel
def fm_X6_canonical_s3 (h0_format : Int32) (h0_code : Int32) (h0_minus : Bool) (h0_m : Int64) (h0_power : Int32) (h0_infinite : Bool) (h0_none : Bool) (p1 : Int64) (p2 : Int32) (z1 : fw_S7) : Int64 × fw_S7 := (fm_X6_nan (fm_X6_exponent p2) (fm_X6_significand p2), z1.1, z1.2.1, z1.2.2.1, z1.2.2.2.1, z1.2.2.2.2.1, z1.2.2.2.2.2.1, z1.2.2.2.2.2.2)
def fm_X6_canonical_s2 (h0_format : Int32) (h0_code : Int32) (h0_minus : Bool) (h0_m : Int64) (h0_power : Int32) (h0_infinite : Bool) (h0_none : Bool) (p1 : Int64) (p2 : Int32) (z1 : fw_S7) : Int64 × fw_S7 := (p1, z1.1, z1.2.1, z1.2.2.1, z1.2.2.2.1, z1.2.2.2.2.1, z1.2.2.2.2.2.1, z1.2.2.2.2.2.2)
def fm_X6_canonical_s1 (h0_format : Int32) (h0_code : Int32) (h0_minus : Bool) (h0_m : Int64) (h0_power : Int32) (h0_infinite : Bool) (h0_none : Bool) (p1 : Int64) (p2 : Int32) (z1 : fw_S7) : Int64 × fw_S7 := if (jb z1.2.2.2.2.2.2) = 0 then fm_X6_canonical_s2 h0_format h0_code h0_minus h0_m h0_power h0_infinite h0_none p1 p2 z1 else fm_X6_canonical_s3 h0_format h0_code h0_minus h0_m h0_power h0_infinite h0_none p1 p2 z1
def fm_X6_canonical (h0_format : Int32) (h0_code : Int32) (h0_minus : Bool) (h0_m : Int64) (h0_power : Int32) (h0_infinite : Bool) (h0_none : Bool) (p1 : Int64) (p2 : Int32) : Int64 × fw_S7 := fm_X6_canonical_s1 h0_format h0_code h0_minus h0_m h0_power h0_infinite h0_none p1 p2 (fm_X6_take h0_format h0_code h0_minus h0_m h0_power h0_infinite h0_none p1 p2)
-- SIMP X6_canonical: fm_X6_canonical, fm_X6_canonical_s1, fm_X6_canonical_s2, fm_X6_canonical_s3
set_option maxHeartbeats 4000000 in
set_option maxRecDepth 100000 in
theorem k_X6_canonical (l : Launch) (dC : Nat → ClassId) (dI : Nat → Nat → Nat) (h0 : Nat) (h0_format : Int32) (h0_code : Int32) (h0_minus : Bool) (h0_m : Int64) (h0_power : Int32) (h0_infinite : Bool) (h0_none : Bool) (p1 : Int64) (p2 : Int32) : Met l yX6_canonical wsX6_canonical { frames := 2, cells := 0, slots := 0, locals := 50 } (fw_R (dC, dI) vwCl [(h0, .inr (3, [.int h0_format, .int h0_code, .int (jb h0_minus), .long h0_m, .int h0_power, .int (jb h0_infinite), .int (jb h0_none)]))] [.ref h0, .long p1, .int p2]) (fw_M (dC, dI) vwCl h0 3 (fw_sl (fm_X6_canonical h0_format h0_code h0_minus h0_m h0_power h0_infinite h0_none p1 p2).2) (some (.long ((fm_X6_canonical h0_format h0_code h0_minus h0_m h0_power h0_infinite h0_none p1 p2).1)))) 0 0 (fun q => q = h0) := by
  refine Met.ofW (cc := cX6_canonical) (maxL := 4) (ret := (some .long)) (by decide) rfl ?_
  intro p e s m args below meth c s₁ B hml hv
  obtain ⟨rfl, hP, hK⟩ := hv
  have hx := B.exec
  have hb := B.bytes
  have hr := B.returns
  have hts := atoms_spec (ws := wsX6_canonical) B.pre
  have htf : ∀ w ∈ fc_all, w.before _ s = true := fun w h => hts w (List.mem_cons_of_mem _ h)
  have hown : s.vm.findClass RX6 = some m.cls := findClass_of_methodNamed B.named
  have hlocks := B.notSynchronized
  have hP : va_P (dC, dI) vwCl [(h0, .inr (3, [.int h0_format, .int h0_code, .int (jb h0_minus), .long h0_m, .int h0_power, .int (jb h0_infinite), .int (jb h0_none)]))] s.heap := hP
  have hD : va_D (fun q => q = h0) [(h0, .inr (3, [.int h0_format, .int h0_code, .int (jb h0_minus), .long h0_m, .int h0_power, .int (jb h0_infinite), .int (jb h0_none)]))] := fw_D1 rfl
  have hS : va_S (fun q => q = h0) s.heap s.heap [] := va_S.rf
  have hl := lv_entry ([.ref h0, .long p1, .int p2]) (n := 4) (Nat.le_of_ble_eq_true rfl)
  rw [lg_entry_eq]
  generalize (lg_sl ([.ref h0, .long p1, .int p2]) ++ List.replicate (4 - (lg_sl ([.ref h0, .long p1, .int p2])).length) Slot.unset).toArray = ls at hl ⊢
  have hl : lv_has ls 4 [(0, .ref h0), (1, .long p1), (3, .int p2)] := hl
  have hT : fm_X6_canonical h0_format h0_code h0_minus h0_m h0_power h0_infinite h0_none p1 p2 = fm_X6_canonical h0_format h0_code h0_minus h0_m h0_power h0_infinite h0_none p1 p2 := rfl
  refine lv_aload_n hx hb dX6_canonical_0 rfl (lv_at hl 0 rfl) ?_
  refine lv_lload_n hx hb dX6_canonical_1 rfl (lv_at hl 1 rfl) ?_
  refine lv_iload_n hx hb dX6_canonical_2 rfl (lv_at hl 2 rfl) ?_
  refine fw_callM (va_runV (As := [.long p1, .int p2]) (rest := []) ⟨hx, hb, hml, hown, htf⟩ (k_X6_take l dC dI h0 h0_format h0_code h0_minus h0_m h0_power h0_infinite h0_none p1 p2) (cwV 2 htf (gd_V wk400 wk401 ws9 wk3 wk402) rfl rfl rfl ndX6_take ⟨Nat.le_of_ble_eq_true rfl, Nat.le_of_ble_eq_true rfl⟩) (fw_RV (va_recv hK hP (ci := 3) (q0 := 0) rfl rfl) hP hK) rfl rfl hl.1 rfl (lv_room (Nat.le_of_ble_eq_true rfl)) dX6_canonical_3 ⟨Nat.le_refl _, Nat.le_refl _⟩) hS rfl (fun H locs hP _ _ hS => ?_)
  have hT : fm_X6_canonical h0_format h0_code h0_minus h0_m h0_power h0_infinite h0_none p1 p2 = fm_X6_canonical_s1 h0_format h0_code h0_minus h0_m h0_power h0_infinite h0_none p1 p2 (fm_X6_take h0_format h0_code h0_minus h0_m h0_power h0_infinite h0_none p1 p2) := hT
  generalize ez1 : fm_X6_take h0_format h0_code h0_minus h0_m h0_power h0_infinite h0_none p1 p2 = z1 at hP hT ⊢
  have hP : va_P (dC, dI) vwCl [(h0, .inr (3, [.int z1.1, .int z1.2.1, .int (jb z1.2.2.1), .long z1.2.2.2.1, .int z1.2.2.2.2.1, .int (jb z1.2.2.2.2.2.1), .int (jb z1.2.2.2.2.2.2)]))] H := hP
  have hD : va_D (fun q => q = h0) [(h0, .inr (3, [.int z1.1, .int z1.2.1, .int (jb z1.2.2.1), .long z1.2.2.2.1, .int z1.2.2.2.2.1, .int (jb z1.2.2.2.2.2.1), .int (jb z1.2.2.2.2.2.2)]))] := fw_D1 rfl
  refine W.eq (g2 := F0 m 6 ls []) rfl ?_
  refine lv_aload_n hx hb dX6_canonical_6 rfl (lv_at hl 0 rfl) ?_
  refine va_get (D := (dC, dI)) (ci := 3) (v := .int (jb z1.2.2.2.2.2.2)) (C := RX6) (T := TX6) (N := 7) hx hb htf hiX6 hown hK hP 0 rfl rfl 6 (by decide) (htf _ wk357) (fun _ h9 => h9) rfl dX6_canonical_7 ?_
  refine lv_if_eq (tgt := 27) hx hb dX6_canonical_10 (by decide) (fun c2 => ?_) (fun c2 => ?_)
  · have hT : fm_X6_canonical h0_format h0_code h0_minus h0_m h0_power h0_infinite h0_none p1 p2 = fm_X6_canonical_s2 h0_format h0_code h0_minus h0_m h0_power h0_infinite h0_none p1 p2 z1 := hT.trans (if_pos c2)
    refine lv_lload_n hx hb dX6_canonical_27 rfl (lv_at hl 1 rfl) ?_
    have hEQ : fm_X6_canonical h0_format h0_code h0_minus h0_m h0_power h0_infinite h0_none p1 p2 = (p1, z1.1, z1.2.1, z1.2.2.1, z1.2.2.2.1, z1.2.2.2.2.1, z1.2.2.2.2.2.1, z1.2.2.2.2.2.2) := hT
    exact W.lret (v := p1) hx hb hr (fun t ht hW => ⟨by simp only [hEQ], by rw [ht]; simp only [hEQ, fw_sl]; exact hP, hS.F ht⟩) hS.2.2 dX6_canonical_28
  · have hT : fm_X6_canonical h0_format h0_code h0_minus h0_m h0_power h0_infinite h0_none p1 p2 = fm_X6_canonical_s3 h0_format h0_code h0_minus h0_m h0_power h0_infinite h0_none p1 p2 z1 := hT.trans (if_neg c2)
    refine lv_iload_n hx hb dX6_canonical_13 rfl (lv_at hl 2 rfl) ?_
    refine fw_call (va_runS (As := [.int p2]) (rest := []) ⟨hx, hb, hml, hown, htf⟩ (k_X6_exponent l p2) (va_cwS 1 htf (gd_S wk385 wk386 wk3 wk387) rfl rfl rfl ndX6_exponent ⟨Nat.le_of_ble_eq_true rfl, Nat.le_of_ble_eq_true rfl⟩) fw_PS rfl rfl hl.1 rfl (lv_room (Nat.le_of_ble_eq_true rfl)) dX6_canonical_14 ⟨Nat.le_refl _, Nat.le_refl _⟩) ?_
    refine lv_iload_n hx hb dX6_canonical_17 rfl (lv_at hl 2 rfl) ?_
    refine fw_call (va_runS (As := [.int p2]) (rest := [.int (fm_X6_exponent p2)]) ⟨hx, hb, hml, hown, htf⟩ (k_X6_significand l p2) (va_cwS 1 htf (gd_S wk388 wk389 wk3 wk390) rfl rfl rfl ndX6_significand ⟨Nat.le_of_ble_eq_true rfl, Nat.le_of_ble_eq_true rfl⟩) fw_PS rfl rfl hl.1 rfl (lv_room (Nat.le_of_ble_eq_true rfl)) dX6_canonical_18 ⟨Nat.le_refl _, Nat.le_refl _⟩) ?_
    refine fw_call (va_runS (As := [.int (fm_X6_exponent p2), .int (fm_X6_significand p2)]) (rest := []) ⟨hx, hb, hml, hown, htf⟩ (k_X6_nan l (fm_X6_exponent p2) (fm_X6_significand p2)) (va_cwS 2 htf (gd_S wk397 wk398 wk3 wk399) rfl rfl rfl ndX6_nan ⟨Nat.le_of_ble_eq_true rfl, Nat.le_of_ble_eq_true rfl⟩) fw_PS rfl rfl hl.1 rfl (lv_room (Nat.le_of_ble_eq_true rfl)) dX6_canonical_21 ⟨Nat.le_refl _, Nat.le_refl _⟩) ?_
    refine lv_goto (tgt := 28) hx hb dX6_canonical_24 (by decide) ?_
    have hEQ : fm_X6_canonical h0_format h0_code h0_minus h0_m h0_power h0_infinite h0_none p1 p2 = (fm_X6_nan (fm_X6_exponent p2) (fm_X6_significand p2), z1.1, z1.2.1, z1.2.2.1, z1.2.2.2.1, z1.2.2.2.2.1, z1.2.2.2.2.2.1, z1.2.2.2.2.2.2) := hT
    exact W.lret (v := fm_X6_nan (fm_X6_exponent p2) (fm_X6_significand p2)) hx hb hr (fun t ht hW => ⟨by simp only [hEQ], by rw [ht]; simp only [hEQ, fw_sl]; exact hP, hS.F ht⟩) hS.2.2 dX6_canonical_28
