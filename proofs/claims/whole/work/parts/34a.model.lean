theorem ndX6_format : yX6_format.cls = RX6 ∧ yX6_format.cls ≠ "java/lang/invoke/MethodHandle" ∧ yX6_format.cls ≠ "java/lang/invoke/VarHandle" ∧ (parseMethodDescriptor yX6_format.desc).map (fun d => d.parameters.length) = some 2 := by decide +kernel
def fm_X6_format_s2 (h0_format : Int32) (h0_code : Int32) (h0_minus : Bool) (h0_m : Int64) (h0_power : Int32) (h0_infinite : Bool) (h0_none : Bool) (p1 : Int32) (p2 : Int32) (z1 : Bool × fw_S7) : Int32 × fw_S7 := (0, z1.2.1, z1.2.2.1, z1.2.2.2.1, z1.2.2.2.2.1, z1.2.2.2.2.2.1, z1.2.2.2.2.2.2.1, z1.2.2.2.2.2.2.2)
def fm_X6_format_s4 (h0_format : Int32) (h0_code : Int32) (h0_minus : Bool) (h0_m : Int64) (h0_power : Int32) (h0_infinite : Bool) (h0_none : Bool) (p1 : Int32) (p2 : Int32) (z1 : Bool × fw_S7) (x3 : Int32) : Int32 × fw_S7 := (p1 + p2, x3, z1.2.2.1, z1.2.2.2.1, z1.2.2.2.2.1, z1.2.2.2.2.2.1, z1.2.2.2.2.2.2.1, z1.2.2.2.2.2.2.2)
def fm_X6_format_s3 (h0_format : Int32) (h0_code : Int32) (h0_minus : Bool) (h0_m : Int64) (h0_power : Int32) (h0_infinite : Bool) (h0_none : Bool) (p1 : Int32) (p2 : Int32) (z1 : Bool × fw_S7) : Int32 × fw_S7 := fm_X6_format_s4 h0_format h0_code h0_minus h0_m h0_power h0_infinite h0_none p1 p2 z1 ((1000 + (100 * p1)) + p2)
def fm_X6_format_s1 (h0_format : Int32) (h0_code : Int32) (h0_minus : Bool) (h0_m : Int64) (h0_power : Int32) (h0_infinite : Bool) (h0_none : Bool) (p1 : Int32) (p2 : Int32) (z1 : Bool × fw_S7) : Int32 × fw_S7 := if (jb z1.1) = 0 then fm_X6_format_s2 h0_format h0_code h0_minus h0_m h0_power h0_infinite h0_none p1 p2 z1 else fm_X6_format_s3 h0_format h0_code h0_minus h0_m h0_power h0_infinite h0_none p1 p2 z1
def fm_X6_format (h0_format : Int32) (h0_code : Int32) (h0_minus : Bool) (h0_m : Int64) (h0_power : Int32) (h0_infinite : Bool) (h0_none : Bool) (p1 : Int32) (p2 : Int32) : Int32 × fw_S7 := fm_X6_format_s1 h0_format h0_code h0_minus h0_m h0_power h0_infinite h0_none p1 p2 (fm_X6_good h0_format h0_code h0_minus h0_m h0_power h0_infinite h0_none (fm_X6_isFormat p1 p2))
-- SIMP X6_format: fm_X6_format, fm_X6_format_s1, fm_X6_format_s3, fm_X6_format_s4, fm_X6_format_s2
set_option maxHeartbeats 4000000 in
set_option maxRecDepth 100000 in
theorem k_X6_format (l : Launch) (dC : Nat → ClassId) (dI : Nat → Nat → Nat) (h0 : Nat) (h0_format : Int32) (h0_code : Int32) (h0_minus : Bool) (h0_m : Int64) (h0_power : Int32) (h0_infinite : Bool) (h0_none : Bool) (p1 : Int32) (p2 : Int32) : Met l yX6_format wsX6_format { frames := 2, cells := 0, slots := 0, locals := 43 } (fw_R (dC, dI) vwCl [(h0, .inr (3, [.int h0_format, .int h0_code, .int (jb h0_minus), .long h0_m, .int h0_power, .int (jb h0_infinite), .int (jb h0_none)]))] [.ref h0, .int p1, .int p2]) (fw_M (dC, dI) vwCl h0 3 (fw_sl (fm_X6_format h0_format h0_code h0_minus h0_m h0_power h0_infinite h0_none p1 p2).2) (some (.int ((fm_X6_format h0_format h0_code h0_minus h0_m h0_power h0_infinite h0_none p1 p2).1)))) 0 0 (fun q => q = h0) := by
  refine Met.ofW (cc := cX6_format) (maxL := 3) (ret := (some .int)) (by decide) rfl ?_
  intro p e s m args below meth c s₁ B hml hv
  obtain ⟨rfl, hP, hK⟩ := hv
  have hx := B.exec
  have hb := B.bytes
  have hr := B.returns
  have hts := atoms_spec (ws := wsX6_format) B.pre
  have htf : ∀ w ∈ fc_all, w.before _ s = true := fun w h => hts w (List.mem_cons_of_mem _ h)
  have hown : s.vm.findClass RX6 = some m.cls := findClass_of_methodNamed B.named
  have hlocks := B.notSynchronized
  have hP : va_P (dC, dI) vwCl [(h0, .inr (3, [.int h0_format, .int h0_code, .int (jb h0_minus), .long h0_m, .int h0_power, .int (jb h0_infinite), .int (jb h0_none)]))] s.heap := hP
  have hD : va_D (fun q => q = h0) [(h0, .inr (3, [.int h0_format, .int h0_code, .int (jb h0_minus), .long h0_m, .int h0_power, .int (jb h0_infinite), .int (jb h0_none)]))] := fw_D1 rfl
  have hS : va_S (fun q => q = h0) s.heap s.heap [] := va_S.rf
  have hl := lv_entry ([.ref h0, .int p1, .int p2]) (n := 3) (Nat.le_of_ble_eq_true rfl)
  rw [lg_entry_eq]
  generalize (lg_sl ([.ref h0, .int p1, .int p2]) ++ List.replicate (3 - (lg_sl ([.ref h0, .int p1, .int p2])).length) Slot.unset).toArray = ls at hl ⊢
  have hl : lv_has ls 3 [(0, .ref h0), (1, .int p1), (2, .int p2)] := hl
  have hT : fm_X6_format h0_format h0_code h0_minus h0_m h0_power h0_infinite h0_none p1 p2 = fm_X6_format h0_format h0_code h0_minus h0_m h0_power h0_infinite h0_none p1 p2 := rfl
  refine lv_aload_n hx hb dX6_format_0 rfl (lv_at hl 0 rfl) ?_
  refine lv_iload_n hx hb dX6_format_1 rfl (lv_at hl 1 rfl) ?_
  refine lv_iload_n hx hb dX6_format_2 rfl (lv_at hl 2 rfl) ?_
  refine fw_call (va_runS (As := [.int p1, .int p2]) (rest := [.ref h0]) ⟨hx, hb, hml, hown, htf⟩ (k_X6_isFormat l p1 p2) (va_cwS 2 htf (gd_S wk366 wk367 wk3 wk368) rfl rfl rfl ndX6_isFormat ⟨Nat.le_of_ble_eq_true rfl, Nat.le_of_ble_eq_true rfl⟩) fw_PS rfl rfl hl.1 rfl (lv_room (Nat.le_of_ble_eq_true rfl)) dX6_format_3 ⟨Nat.le_refl _, Nat.le_refl _⟩) ?_
  refine fw_callM (va_runV (As := [.int (jb (fm_X6_isFormat p1 p2))]) (rest := []) ⟨hx, hb, hml, hown, htf⟩ (k_X6_good l dC dI h0 h0_format h0_code h0_minus h0_m h0_power h0_infinite h0_none (fm_X6_isFormat p1 p2)) (cwV 1 htf (gd_V wk372 wk373 ws6 wk3 wk374) rfl rfl rfl ndX6_good ⟨Nat.le_of_ble_eq_true rfl, Nat.le_of_ble_eq_true rfl⟩) (fw_RV (va_recv hK hP (ci := 3) (q0 := 0) rfl rfl) hP hK) rfl rfl hl.1 rfl (lv_room (Nat.le_of_ble_eq_true rfl)) dX6_format_6 ⟨Nat.le_refl _, Nat.le_refl _⟩) hS rfl (fun H locs hP _ _ hS => ?_)
  have hT : fm_X6_format h0_format h0_code h0_minus h0_m h0_power h0_infinite h0_none p1 p2 = fm_X6_format_s1 h0_format h0_code h0_minus h0_m h0_power h0_infinite h0_none p1 p2 (fm_X6_good h0_format h0_code h0_minus h0_m h0_power h0_infinite h0_none (fm_X6_isFormat p1 p2)) := hT
  generalize ez1 : fm_X6_good h0_format h0_code h0_minus h0_m h0_power h0_infinite h0_none (fm_X6_isFormat p1 p2) = z1 at hP hT ⊢
  have hP : va_P (dC, dI) vwCl [(h0, .inr (3, [.int z1.2.1, .int z1.2.2.1, .int (jb z1.2.2.2.1), .long z1.2.2.2.2.1, .int z1.2.2.2.2.2.1, .int (jb z1.2.2.2.2.2.2.1), .int (jb z1.2.2.2.2.2.2.2)]))] H := hP
  have hD : va_D (fun q => q = h0) [(h0, .inr (3, [.int z1.2.1, .int z1.2.2.1, .int (jb z1.2.2.2.1), .long z1.2.2.2.2.1, .int z1.2.2.2.2.2.1, .int (jb z1.2.2.2.2.2.2.1), .int (jb z1.2.2.2.2.2.2.2)]))] := fw_D1 rfl
  refine W.eq (g2 := F0 m 9 ls [.int (jb z1.1)]) rfl ?_
  refine lv_if_ne (tgt := 14) hx hb dX6_format_9 (by decide) (fun c2 => ?_) (fun c2 => ?_)
  · have hT : fm_X6_format h0_format h0_code h0_minus h0_m h0_power h0_infinite h0_none p1 p2 = fm_X6_format_s3 h0_format h0_code h0_minus h0_m h0_power h0_infinite h0_none p1 p2 z1 := hT.trans (if_neg c2)
    refine lv_aload_n hx hb dX6_format_14 rfl (lv_at hl 0 rfl) ?_
    refine lv_sipush (v := 1000) hx hb dX6_format_15 (by decide) ?_
    refine lv_bipush (v := 100) hx hb dX6_format_18 (by decide) ?_
    refine lv_iload_n hx hb dX6_format_20 rfl (lv_at hl 1 rfl) ?_
    refine lv_imul hx hb dX6_format_21 ?_
    refine lv_iadd hx hb dX6_format_22 ?_
    refine lv_iload_n hx hb dX6_format_23 rfl (lv_at hl 2 rfl) ?_
    refine lv_iadd hx hb dX6_format_24 ?_
    refine lv_topi (fun x3 ex3 => ?_)
    have hT : fm_X6_format h0_format h0_code h0_minus h0_m h0_power h0_infinite h0_none p1 p2 = fm_X6_format_s4 h0_format h0_code h0_minus h0_m h0_power h0_infinite h0_none p1 p2 z1 x3 := by rw [ex3]; exact hT
    refine va_put (D := (dC, dI)) (ci := 3) (v := .int x3) (ty := .int) (C := RX6) (T := TX6) (N := 7) hx hb htf hiX6 tyX6 tyX6_ok nmX6 hown hK hP hD hS 0 rfl rfl 0 (by decide) (htf _ wk351) (fun _ h9 => h9) rfl (by decide +kernel) rfl rfl (Nat.le_of_ble_eq_true rfl) dX6_format_25 (fun H locs hP hD hS => ?_)
    have hP : va_P (dC, dI) vwCl [(h0, .inr (3, [.int x3, .int z1.2.2.1, .int (jb z1.2.2.2.1), .long z1.2.2.2.2.1, .int z1.2.2.2.2.2.1, .int (jb z1.2.2.2.2.2.2.1), .int (jb z1.2.2.2.2.2.2.2)]))] H := hP
    have hD : va_D (fun q => q = h0) [(h0, .inr (3, [.int x3, .int z1.2.2.1, .int (jb z1.2.2.2.1), .long z1.2.2.2.2.1, .int z1.2.2.2.2.2.1, .int (jb z1.2.2.2.2.2.2.1), .int (jb z1.2.2.2.2.2.2.2)]))] := hD
    refine lv_iload_n hx hb dX6_format_28 rfl (lv_at hl 1 rfl) ?_
    refine lv_iload_n hx hb dX6_format_29 rfl (lv_at hl 2 rfl) ?_
    refine lv_iadd hx hb dX6_format_30 ?_
    have hEQ : fm_X6_format h0_format h0_code h0_minus h0_m h0_power h0_infinite h0_none p1 p2 = (p1 + p2, x3, z1.2.2.1, z1.2.2.2.1, z1.2.2.2.2.1, z1.2.2.2.2.2.1, z1.2.2.2.2.2.2.1, z1.2.2.2.2.2.2.2) := hT
    exact W.iret (v := p1 + p2) hx hb hr (fun t ht hW => ⟨by simp only [hEQ], by rw [ht]; simp only [hEQ, fw_sl]; exact hP, hS.F ht⟩) hS.2.2 dX6_format_31
  · have hT : fm_X6_format h0_format h0_code h0_minus h0_m h0_power h0_infinite h0_none p1 p2 = fm_X6_format_s2 h0_format h0_code h0_minus h0_m h0_power h0_infinite h0_none p1 p2 z1 := hT.trans (if_pos c2)
    refine lv_iconst (v := 0) hx hb dX6_format_12 (by decide) ?_
    have hEQ : fm_X6_format h0_format h0_code h0_minus h0_m h0_power h0_infinite h0_none p1 p2 = (0, z1.2.1, z1.2.2.1, z1.2.2.2.1, z1.2.2.2.2.1, z1.2.2.2.2.2.1, z1.2.2.2.2.2.2.1, z1.2.2.2.2.2.2.2) := hT
    exact W.iret (v := 0) hx hb hr (fun t ht hW => ⟨by simp only [hEQ], by rw [ht]; simp only [hEQ, fw_sl]; exact hP, hS.F ht⟩) hS.2.2 dX6_format_13
