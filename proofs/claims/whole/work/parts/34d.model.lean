theorem ndX6_least : yX6_least.cls = RX6 ∧ yX6_least.cls ≠ "java/lang/invoke/MethodHandle" ∧ yX6_least.cls ≠ "java/lang/invoke/VarHandle" ∧ (parseMethodDescriptor yX6_least.desc).map (fun d => d.parameters.length) = some 3 := by decide +kernel
def fm_X6_least_s3 (h0_format : Int32) (h0_code : Int32) (h0_minus : Bool) (h0_m : Int64) (h0_power : Int32) (h0_infinite : Bool) (h0_none : Bool) (p1 : Int32) (p2 : Int32) (p3 : Bool) (x1 : Bool) (z5 : Bool × fw_S7) : Int32 × fw_S7 := (0, z5.2.1, z5.2.2.1, z5.2.2.2.1, z5.2.2.2.2.1, z5.2.2.2.2.2.1, z5.2.2.2.2.2.2.1, z5.2.2.2.2.2.2.2)
def fm_X6_least_s8 (h0_format : Int32) (h0_code : Int32) (h0_minus : Bool) (h0_m : Int64) (h0_power : Int32) (h0_infinite : Bool) (h0_none : Bool) (p1 : Int32) (p2 : Int32) (p3 : Bool) (x1 : Bool) (z5 : Bool × fw_S7) (x7 : Bool) (z10 : Int64 × fw_S7) (z11 : Int64 × fw_S7) (z12 : Int64 × fw_S7) : Int32 × fw_S7 := (z12.1.toInt32, z12.2.1, z12.2.2.1, z12.2.2.2.1, z12.2.2.2.2.1, z12.2.2.2.2.2.1, z12.2.2.2.2.2.2.1, z12.2.2.2.2.2.2.2)
def fm_X6_least_s7 (h0_format : Int32) (h0_code : Int32) (h0_minus : Bool) (h0_m : Int64) (h0_power : Int32) (h0_infinite : Bool) (h0_none : Bool) (p1 : Int32) (p2 : Int32) (p3 : Bool) (x1 : Bool) (z5 : Bool × fw_S7) (x7 : Bool) (z10 : Int64 × fw_S7) (z11 : Int64 × fw_S7) : Int32 × fw_S7 := fm_X6_least_s8 h0_format h0_code h0_minus h0_m h0_power h0_infinite h0_none p1 p2 p3 x1 z5 x7 z10 z11 (fm_X6_extreme z11.2.1 z11.2.2.1 z11.2.2.2.1 z11.2.2.2.2.1 z11.2.2.2.2.2.1 z11.2.2.2.2.2.2.1 z11.2.2.2.2.2.2.2 x7 z10.1 z11.1 z11.2.1)
def fm_X6_least_s6 (h0_format : Int32) (h0_code : Int32) (h0_minus : Bool) (h0_m : Int64) (h0_power : Int32) (h0_infinite : Bool) (h0_none : Bool) (p1 : Int32) (p2 : Int32) (p3 : Bool) (x1 : Bool) (z5 : Bool × fw_S7) (x7 : Bool) (z10 : Int64 × fw_S7) : Int32 × fw_S7 := fm_X6_least_s7 h0_format h0_code h0_minus h0_m h0_power h0_infinite h0_none p1 p2 p3 x1 z5 x7 z10 (fm_X6_canonical z10.2.1 z10.2.2.1 z10.2.2.2.1 z10.2.2.2.2.1 z10.2.2.2.2.2.1 z10.2.2.2.2.2.2.1 z10.2.2.2.2.2.2.2 p2.toInt64 z10.2.1)
def fm_X6_least_s5 (h0_format : Int32) (h0_code : Int32) (h0_minus : Bool) (h0_m : Int64) (h0_power : Int32) (h0_infinite : Bool) (h0_none : Bool) (p1 : Int32) (p2 : Int32) (p3 : Bool) (x1 : Bool) (z5 : Bool × fw_S7) (x7 : Bool) : Int32 × fw_S7 := fm_X6_least_s6 h0_format h0_code h0_minus h0_m h0_power h0_infinite h0_none p1 p2 p3 x1 z5 x7 (fm_X6_canonical z5.2.1 z5.2.2.1 z5.2.2.2.1 z5.2.2.2.2.1 z5.2.2.2.2.2.1 z5.2.2.2.2.2.2.1 z5.2.2.2.2.2.2.2 p1.toInt64 z5.2.1)
def fm_X6_least_s4 (h0_format : Int32) (h0_code : Int32) (h0_minus : Bool) (h0_m : Int64) (h0_power : Int32) (h0_infinite : Bool) (h0_none : Bool) (p1 : Int32) (p2 : Int32) (p3 : Bool) (x1 : Bool) (z5 : Bool × fw_S7) : Int32 × fw_S7 := fm_X6_least_s5 h0_format h0_code h0_minus h0_m h0_power h0_infinite h0_none p1 p2 p3 x1 z5 (if (jb p3) = 0 then true else false)
def fm_X6_least_s2 (h0_format : Int32) (h0_code : Int32) (h0_minus : Bool) (h0_m : Int64) (h0_power : Int32) (h0_infinite : Bool) (h0_none : Bool) (p1 : Int32) (p2 : Int32) (p3 : Bool) (x1 : Bool) (z5 : Bool × fw_S7) : Int32 × fw_S7 := if (jb z5.1) = 0 then fm_X6_least_s3 h0_format h0_code h0_minus h0_m h0_power h0_infinite h0_none p1 p2 p3 x1 z5 else fm_X6_least_s4 h0_format h0_code h0_minus h0_m h0_power h0_infinite h0_none p1 p2 p3 x1 z5
def fm_X6_least_s1 (h0_format : Int32) (h0_code : Int32) (h0_minus : Bool) (h0_m : Int64) (h0_power : Int32) (h0_infinite : Bool) (h0_none : Bool) (p1 : Int32) (p2 : Int32) (p3 : Bool) (x1 : Bool) : Int32 × fw_S7 := fm_X6_least_s2 h0_format h0_code h0_minus h0_m h0_power h0_infinite h0_none p1 p2 p3 x1 (fm_X6_good h0_format h0_code h0_minus h0_m h0_power h0_infinite h0_none x1)
def fm_X6_least (h0_format : Int32) (h0_code : Int32) (h0_minus : Bool) (h0_m : Int64) (h0_power : Int32) (h0_infinite : Bool) (h0_none : Bool) (p1 : Int32) (p2 : Int32) (p3 : Bool) : Int32 × fw_S7 := fm_X6_least_s1 h0_format h0_code h0_minus h0_m h0_power h0_infinite h0_none p1 p2 p3 (if (jb (fm_X6_isFloat h0_format h0_code h0_minus h0_m h0_power h0_infinite h0_none p1 h0_format)) = 0 then false else (if (jb (fm_X6_isFloat h0_format h0_code h0_minus h0_m h0_power h0_infinite h0_none p2 h0_format)) = 0 then false else true))
-- SIMP X6_least: fm_X6_least, fm_X6_least_s1, fm_X6_least_s2, fm_X6_least_s4, fm_X6_least_s5, fm_X6_least_s6, fm_X6_least_s7, fm_X6_least_s8, fm_X6_least_s3
set_option maxHeartbeats 4000000 in
set_option maxRecDepth 100000 in
theorem k_X6_least (l : Launch) (dC : Nat → ClassId) (dI : Nat → Nat → Nat) (h0 : Nat) (h0_format : Int32) (h0_code : Int32) (h0_minus : Bool) (h0_m : Int64) (h0_power : Int32) (h0_infinite : Bool) (h0_none : Bool) (p1 : Int32) (p2 : Int32) (p3 : Bool) : Met l yX6_least wsX6_least { frames := 4, cells := 0, slots := 0, locals := 107 } (fw_R (dC, dI) vwCl [(h0, .inr (3, [.int h0_format, .int h0_code, .int (jb h0_minus), .long h0_m, .int h0_power, .int (jb h0_infinite), .int (jb h0_none)]))] [.ref h0, .int p1, .int p2, .int (jb p3)]) (fw_M (dC, dI) vwCl h0 3 (fw_sl (fm_X6_least h0_format h0_code h0_minus h0_m h0_power h0_infinite h0_none p1 p2 p3).2) (some (.int ((fm_X6_least h0_format h0_code h0_minus h0_m h0_power h0_infinite h0_none p1 p2 p3).1)))) 0 0 (fun q => q = h0) := by
  refine Met.ofW (cc := cX6_least) (maxL := 4) (ret := (some .int)) (by decide) rfl ?_
  intro p e s m args below meth c s₁ B hml hv
  obtain ⟨rfl, hP, hK⟩ := hv
  have hx := B.exec
  have hb := B.bytes
  have hr := B.returns
  have hts := atoms_spec (ws := wsX6_least) B.pre
  have htf : ∀ w ∈ fc_all, w.before _ s = true := fun w h => hts w (List.mem_cons_of_mem _ h)
  have hown : s.vm.findClass RX6 = some m.cls := findClass_of_methodNamed B.named
  have hlocks := B.notSynchronized
  have hP : va_P (dC, dI) vwCl [(h0, .inr (3, [.int h0_format, .int h0_code, .int (jb h0_minus), .long h0_m, .int h0_power, .int (jb h0_infinite), .int (jb h0_none)]))] s.heap := hP
  have hD : va_D (fun q => q = h0) [(h0, .inr (3, [.int h0_format, .int h0_code, .int (jb h0_minus), .long h0_m, .int h0_power, .int (jb h0_infinite), .int (jb h0_none)]))] := fw_D1 rfl
  have hS : va_S (fun q => q = h0) s.heap s.heap [] := va_S.rf
  have hl := lv_entry ([.ref h0, .int p1, .int p2, .int (jb p3)]) (n := 4) (Nat.le_of_ble_eq_true rfl)
  rw [lg_entry_eq]
  generalize (lg_sl ([.ref h0, .int p1, .int p2, .int (jb p3)]) ++ List.replicate (4 - (lg_sl ([.ref h0, .int p1, .int p2, .int (jb p3)])).length) Slot.unset).toArray = ls at hl ⊢
  have hl : lv_has ls 4 [(0, .ref h0), (1, .int p1), (2, .int p2), (3, .int (jb p3))] := hl
  have hT : fm_X6_least h0_format h0_code h0_minus h0_m h0_power h0_infinite h0_none p1 p2 p3 = fm_X6_least h0_format h0_code h0_minus h0_m h0_power h0_infinite h0_none p1 p2 p3 := rfl
  refine lv_aload_n hx hb dX6_least_0 rfl (lv_at hl 0 rfl) ?_
  refine lv_aload_n hx hb dX6_least_1 rfl (lv_at hl 0 rfl) ?_
  refine lv_iload_n hx hb dX6_least_2 rfl (lv_at hl 1 rfl) ?_
  refine lv_aload_n hx hb dX6_least_3 rfl (lv_at hl 0 rfl) ?_
  refine va_get (D := (dC, dI)) (ci := 3) (v := .int h0_format) (C := RX6) (T := TX6) (N := 7) hx hb htf hiX6 hown hK hP 0 rfl rfl 0 (by decide) (htf _ wk351) (fun _ h9 => h9) rfl dX6_least_4 ?_
  refine fw_call (va_runV (As := [.int p1, .int h0_format]) (rest := [.ref h0]) ⟨hx, hb, hml, hown, htf⟩ (k_X6_isFloat l dC dI h0 h0_format h0_code h0_minus h0_m h0_power h0_infinite h0_none p1 h0_format) (cwV 2 htf (gd_V wk379 wk380 ws7 wk3 wk381) rfl rfl rfl ndX6_isFloat ⟨Nat.le_of_ble_eq_true rfl, Nat.le_of_ble_eq_true rfl⟩) (fw_RV (va_recv hK hP (ci := 3) (q0 := 0) rfl rfl) (hP.sub (ws' := [(h0, .inr (3, [.int h0_format, .int h0_code, .int (jb h0_minus), .long h0_m, .int h0_power, .int (jb h0_infinite), .int (jb h0_none)]))]) [0] rfl) hK) rfl rfl hl.1 rfl (lv_room (Nat.le_of_ble_eq_true rfl)) dX6_least_7 ⟨Nat.le_refl _, Nat.le_refl _⟩) ?_
  refine fw_join (j := 30) (ι := Bool) (LS := fun i ls => lv_has ls 4 [(0, .ref h0), (1, .int p1), (2, .int p2), (3, .int (jb p3))] ∧ i = (if (jb (fm_X6_isFloat h0_format h0_code h0_minus h0_m h0_power h0_infinite h0_none p1 h0_format)) = 0 then false else (if (jb (fm_X6_isFloat h0_format h0_code h0_minus h0_m h0_power h0_infinite h0_none p2 h0_format)) = 0 then false else true))) (ST := fun i => [.int (jb i), .ref h0]) ?_ (fun J2 => ?_)
  rotate_left
  · refine lv_if_eq (tgt := 29) hx hb dX6_least_10 (by decide) (fun c3 => ?_) (fun c3 => ?_)
    · refine lv_iconst (v := 0) hx hb dX6_least_29 (by decide) ?_
      exact J2 false ls ⟨lv_sub hl [0, 1, 2, 3] rfl, by simp only [if_pos c3] <;> first | assumption | contradiction⟩
    · refine lv_aload_n hx hb dX6_least_13 rfl (lv_at hl 0 rfl) ?_
      refine lv_iload_n hx hb dX6_least_14 rfl (lv_at hl 2 rfl) ?_
      refine lv_aload_n hx hb dX6_least_15 rfl (lv_at hl 0 rfl) ?_
      refine va_get (D := (dC, dI)) (ci := 3) (v := .int h0_format) (C := RX6) (T := TX6) (N := 7) hx hb htf hiX6 hown hK hP 0 rfl rfl 0 (by decide) (htf _ wk351) (fun _ h9 => h9) rfl dX6_least_16 ?_
      refine fw_call (va_runV (As := [.int p2, .int h0_format]) (rest := [.ref h0]) ⟨hx, hb, hml, hown, htf⟩ (k_X6_isFloat l dC dI h0 h0_format h0_code h0_minus h0_m h0_power h0_infinite h0_none p2 h0_format) (cwV 2 htf (gd_V wk379 wk380 ws7 wk3 wk381) rfl rfl rfl ndX6_isFloat ⟨Nat.le_of_ble_eq_true rfl, Nat.le_of_ble_eq_true rfl⟩) (fw_RV (va_recv hK hP (ci := 3) (q0 := 0) rfl rfl) (hP.sub (ws' := [(h0, .inr (3, [.int h0_format, .int h0_code, .int (jb h0_minus), .long h0_m, .int h0_power, .int (jb h0_infinite), .int (jb h0_none)]))]) [0] rfl) hK) rfl rfl hl.1 rfl (lv_room (Nat.le_of_ble_eq_true rfl)) dX6_least_19 ⟨Nat.le_refl _, Nat.le_refl _⟩) ?_
      refine lv_if_eq (tgt := 29) hx hb dX6_least_22 (by decide) (fun c4 => ?_) (fun c4 => ?_)
      · refine lv_iconst (v := 0) hx hb dX6_least_29 (by decide) ?_
        exact J2 false ls ⟨lv_sub hl [0, 1, 2, 3] rfl, by simp only [if_neg c3, if_pos c4] <;> first | assumption | contradiction⟩
      · refine lv_iconst (v := 1) hx hb dX6_least_25 (by decide) ?_
        refine lv_goto (tgt := 30) hx hb dX6_least_26 (by decide) ?_
        exact J2 true ls ⟨lv_sub hl [0, 1, 2, 3] rfl, by simp only [if_neg c3, if_neg c4] <;> first | assumption | contradiction⟩
  rintro x1 ls ⟨hl, ex1⟩
  try dsimp only at hl ex1 ⊢
  have hT : fm_X6_least h0_format h0_code h0_minus h0_m h0_power h0_infinite h0_none p1 p2 p3 = fm_X6_least_s1 h0_format h0_code h0_minus h0_m h0_power h0_infinite h0_none p1 p2 p3 x1 := by rw [ex1]; exact hT
  refine fw_callM (va_runV (As := [.int (jb x1)]) (rest := []) ⟨hx, hb, hml, hown, htf⟩ (k_X6_good l dC dI h0 h0_format h0_code h0_minus h0_m h0_power h0_infinite h0_none x1) (cwV 1 htf (gd_V wk372 wk373 ws6 wk3 wk374) rfl rfl rfl ndX6_good ⟨Nat.le_of_ble_eq_true rfl, Nat.le_of_ble_eq_true rfl⟩) (fw_RV (va_recv hK hP (ci := 3) (q0 := 0) rfl rfl) hP hK) rfl rfl hl.1 rfl (lv_room (Nat.le_of_ble_eq_true rfl)) dX6_least_30 ⟨Nat.le_refl _, Nat.le_refl _⟩) hS rfl (fun H locs hP _ _ hS => ?_)
  have hT : fm_X6_least h0_format h0_code h0_minus h0_m h0_power h0_infinite h0_none p1 p2 p3 = fm_X6_least_s2 h0_format h0_code h0_minus h0_m h0_power h0_infinite h0_none p1 p2 p3 x1 (fm_X6_good h0_format h0_code h0_minus h0_m h0_power h0_infinite h0_none x1) := hT
  generalize ez5 : fm_X6_good h0_format h0_code h0_minus h0_m h0_power h0_infinite h0_none x1 = z5 at hP hT ⊢
  have hP : va_P (dC, dI) vwCl [(h0, .inr (3, [.int z5.2.1, .int z5.2.2.1, .int (jb z5.2.2.2.1), .long z5.2.2.2.2.1, .int z5.2.2.2.2.2.1, .int (jb z5.2.2.2.2.2.2.1), .int (jb z5.2.2.2.2.2.2.2)]))] H := hP
  have hD : va_D (fun q => q = h0) [(h0, .inr (3, [.int z5.2.1, .int z5.2.2.1, .int (jb z5.2.2.2.1), .long z5.2.2.2.2.1, .int z5.2.2.2.2.2.1, .int (jb z5.2.2.2.2.2.2.1), .int (jb z5.2.2.2.2.2.2.2)]))] := fw_D1 rfl
  refine W.eq (g2 := F0 m 33 ls [.int (jb z5.1)]) rfl ?_
  refine lv_if_ne (tgt := 38) hx hb dX6_least_33 (by decide) (fun c6 => ?_) (fun c6 => ?_)
  · have hT : fm_X6_least h0_format h0_code h0_minus h0_m h0_power h0_infinite h0_none p1 p2 p3 = fm_X6_least_s4 h0_format h0_code h0_minus h0_m h0_power h0_infinite h0_none p1 p2 p3 x1 z5 := hT.trans (if_neg c6)
    refine lv_aload_n hx hb dX6_least_38 rfl (lv_at hl 0 rfl) ?_
    refine lv_iload_n hx hb dX6_least_39 rfl (lv_at hl 3 rfl) ?_
    refine fw_join (j := 48) (ι := Bool) (LS := fun i ls => lv_has ls 4 [(0, .ref h0), (1, .int p1), (2, .int p2), (3, .int (jb p3))] ∧ i = (if (jb p3) = 0 then true else false)) (ST := fun i => [.int (jb i), .ref h0]) ?_ (fun J8 => ?_)
    rotate_left
    · refine lv_if_ne (tgt := 47) hx hb dX6_least_40 (by decide) (fun c9 => ?_) (fun c9 => ?_)
      · refine lv_iconst (v := 0) hx hb dX6_least_47 (by decide) ?_
        exact J8 false ls ⟨lv_sub hl [0, 1, 2, 3] rfl, by simp only [if_neg c9] <;> first | assumption | contradiction⟩
      · refine lv_iconst (v := 1) hx hb dX6_least_43 (by decide) ?_
        refine lv_goto (tgt := 48) hx hb dX6_least_44 (by decide) ?_
        exact J8 true ls ⟨lv_sub hl [0, 1, 2, 3] rfl, by simp only [if_pos c9] <;> first | assumption | contradiction⟩
    rintro x7 ls ⟨hl, ex7⟩
    try dsimp only at hl ex7 ⊢
    have hT : fm_X6_least h0_format h0_code h0_minus h0_m h0_power h0_infinite h0_none p1 p2 p3 = fm_X6_least_s5 h0_format h0_code h0_minus h0_m h0_power h0_infinite h0_none p1 p2 p3 x1 z5 x7 := by rw [ex7]; exact hT
    refine lv_aload_n hx hb dX6_least_48 rfl (lv_at hl 0 rfl) ?_
    refine lv_iload_n hx hb dX6_least_49 rfl (lv_at hl 1 rfl) ?_
    refine lv_i2l (v := p1.toInt64) hx hb dX6_least_50 rfl ?_
    refine lv_aload_n hx hb dX6_least_51 rfl (lv_at hl 0 rfl) ?_
    refine va_get (D := (dC, dI)) (ci := 3) (v := .int z5.2.1) (C := RX6) (T := TX6) (N := 7) hx hb htf hiX6 hown hK hP 0 rfl rfl 0 (by decide) (htf _ wk351) (fun _ h9 => h9) rfl dX6_least_52 ?_
    refine fw_callM (va_runV (As := [.long p1.toInt64, .int z5.2.1]) (rest := [.int (jb x7), .ref h0]) ⟨hx, hb, hml, hown, htf⟩ (k_X6_canonical l dC dI h0 z5.2.1 z5.2.2.1 z5.2.2.2.1 z5.2.2.2.2.1 z5.2.2.2.2.2.1 z5.2.2.2.2.2.2.1 z5.2.2.2.2.2.2.2 p1.toInt64 z5.2.1) (cwV 2 htf (gd_V wk423 wk424 ws10 wk3 wk425) rfl rfl rfl ndX6_canonical ⟨Nat.le_of_ble_eq_true rfl, Nat.le_of_ble_eq_true rfl⟩) (fw_RV (va_recv hK hP (ci := 3) (q0 := 0) rfl rfl) hP hK) rfl rfl hl.1 rfl (lv_room (Nat.le_of_ble_eq_true rfl)) dX6_least_55 ⟨Nat.le_refl _, Nat.le_refl _⟩) hS rfl (fun H locs hP _ _ hS => ?_)
    have hT : fm_X6_least h0_format h0_code h0_minus h0_m h0_power h0_infinite h0_none p1 p2 p3 = fm_X6_least_s6 h0_format h0_code h0_minus h0_m h0_power h0_infinite h0_none p1 p2 p3 x1 z5 x7 (fm_X6_canonical z5.2.1 z5.2.2.1 z5.2.2.2.1 z5.2.2.2.2.1 z5.2.2.2.2.2.1 z5.2.2.2.2.2.2.1 z5.2.2.2.2.2.2.2 p1.toInt64 z5.2.1) := hT
    generalize ez10 : fm_X6_canonical z5.2.1 z5.2.2.1 z5.2.2.2.1 z5.2.2.2.2.1 z5.2.2.2.2.2.1 z5.2.2.2.2.2.2.1 z5.2.2.2.2.2.2.2 p1.toInt64 z5.2.1 = z10 at hP hT ⊢
    have hP : va_P (dC, dI) vwCl [(h0, .inr (3, [.int z10.2.1, .int z10.2.2.1, .int (jb z10.2.2.2.1), .long z10.2.2.2.2.1, .int z10.2.2.2.2.2.1, .int (jb z10.2.2.2.2.2.2.1), .int (jb z10.2.2.2.2.2.2.2)]))] H := hP
    have hD : va_D (fun q => q = h0) [(h0, .inr (3, [.int z10.2.1, .int z10.2.2.1, .int (jb z10.2.2.2.1), .long z10.2.2.2.2.1, .int z10.2.2.2.2.2.1, .int (jb z10.2.2.2.2.2.2.1), .int (jb z10.2.2.2.2.2.2.2)]))] := fw_D1 rfl
    refine W.eq (g2 := F0 m 58 ls [.long z10.1, .int (jb x7), .ref h0]) rfl ?_
    refine lv_aload_n hx hb dX6_least_58 rfl (lv_at hl 0 rfl) ?_
    refine lv_iload_n hx hb dX6_least_59 rfl (lv_at hl 2 rfl) ?_
    refine lv_i2l (v := p2.toInt64) hx hb dX6_least_60 rfl ?_
    refine lv_aload_n hx hb dX6_least_61 rfl (lv_at hl 0 rfl) ?_
    refine va_get (D := (dC, dI)) (ci := 3) (v := .int z10.2.1) (C := RX6) (T := TX6) (N := 7) hx hb htf hiX6 hown hK hP 0 rfl rfl 0 (by decide) (htf _ wk351) (fun _ h9 => h9) rfl dX6_least_62 ?_
    refine fw_callM (va_runV (As := [.long p2.toInt64, .int z10.2.1]) (rest := [.long z10.1, .int (jb x7), .ref h0]) ⟨hx, hb, hml, hown, htf⟩ (k_X6_canonical l dC dI h0 z10.2.1 z10.2.2.1 z10.2.2.2.1 z10.2.2.2.2.1 z10.2.2.2.2.2.1 z10.2.2.2.2.2.2.1 z10.2.2.2.2.2.2.2 p2.toInt64 z10.2.1) (cwV 2 htf (gd_V wk423 wk424 ws10 wk3 wk425) rfl rfl rfl ndX6_canonical ⟨Nat.le_of_ble_eq_true rfl, Nat.le_of_ble_eq_true rfl⟩) (fw_RV (va_recv hK hP (ci := 3) (q0 := 0) rfl rfl) hP hK) rfl rfl hl.1 rfl (lv_room (Nat.le_of_ble_eq_true rfl)) dX6_least_65 ⟨Nat.le_refl _, Nat.le_refl _⟩) hS rfl (fun H locs hP _ _ hS => ?_)
    have hT : fm_X6_least h0_format h0_code h0_minus h0_m h0_power h0_infinite h0_none p1 p2 p3 = fm_X6_least_s7 h0_format h0_code h0_minus h0_m h0_power h0_infinite h0_none p1 p2 p3 x1 z5 x7 z10 (fm_X6_canonical z10.2.1 z10.2.2.1 z10.2.2.2.1 z10.2.2.2.2.1 z10.2.2.2.2.2.1 z10.2.2.2.2.2.2.1 z10.2.2.2.2.2.2.2 p2.toInt64 z10.2.1) := hT
    generalize ez11 : fm_X6_canonical z10.2.1 z10.2.2.1 z10.2.2.2.1 z10.2.2.2.2.1 z10.2.2.2.2.2.1 z10.2.2.2.2.2.2.1 z10.2.2.2.2.2.2.2 p2.toInt64 z10.2.1 = z11 at hP hT ⊢
    have hP : va_P (dC, dI) vwCl [(h0, .inr (3, [.int z11.2.1, .int z11.2.2.1, .int (jb z11.2.2.2.1), .long z11.2.2.2.2.1, .int z11.2.2.2.2.2.1, .int (jb z11.2.2.2.2.2.2.1), .int (jb z11.2.2.2.2.2.2.2)]))] H := hP
    have hD : va_D (fun q => q = h0) [(h0, .inr (3, [.int z11.2.1, .int z11.2.2.1, .int (jb z11.2.2.2.1), .long z11.2.2.2.2.1, .int z11.2.2.2.2.2.1, .int (jb z11.2.2.2.2.2.2.1), .int (jb z11.2.2.2.2.2.2.2)]))] := fw_D1 rfl
    refine W.eq (g2 := F0 m 68 ls [.long z11.1, .long z10.1, .int (jb x7), .ref h0]) rfl ?_
    refine lv_aload_n hx hb dX6_least_68 rfl (lv_at hl 0 rfl) ?_
    refine va_get (D := (dC, dI)) (ci := 3) (v := .int z11.2.1) (C := RX6) (T := TX6) (N := 7) hx hb htf hiX6 hown hK hP 0 rfl rfl 0 (by decide) (htf _ wk351) (fun _ h9 => h9) rfl dX6_least_69 ?_
    refine fw_callM (va_runV (As := [.int (jb x7), .long z10.1, .long z11.1, .int z11.2.1]) (rest := []) ⟨hx, hb, hml, hown, htf⟩ (k_X6_extreme l dC dI h0 z11.2.1 z11.2.2.1 z11.2.2.2.1 z11.2.2.2.2.1 z11.2.2.2.2.2.1 z11.2.2.2.2.2.2.1 z11.2.2.2.2.2.2.2 x7 z10.1 z11.1 z11.2.1) (cwV 4 htf (gd_V wk438 wk439 ws13 wk3 wk440) rfl rfl rfl ndX6_extreme ⟨Nat.le_of_ble_eq_true rfl, Nat.le_of_ble_eq_true rfl⟩) (fw_RV (va_recv hK hP (ci := 3) (q0 := 0) rfl rfl) hP hK) rfl rfl hl.1 rfl (lv_room (Nat.le_of_ble_eq_true rfl)) dX6_least_72 ⟨Nat.le_refl _, Nat.le_refl _⟩) hS rfl (fun H locs hP _ _ hS => ?_)
    have hT : fm_X6_least h0_format h0_code h0_minus h0_m h0_power h0_infinite h0_none p1 p2 p3 = fm_X6_least_s8 h0_format h0_code h0_minus h0_m h0_power h0_infinite h0_none p1 p2 p3 x1 z5 x7 z10 z11 (fm_X6_extreme z11.2.1 z11.2.2.1 z11.2.2.2.1 z11.2.2.2.2.1 z11.2.2.2.2.2.1 z11.2.2.2.2.2.2.1 z11.2.2.2.2.2.2.2 x7 z10.1 z11.1 z11.2.1) := hT
    generalize ez12 : fm_X6_extreme z11.2.1 z11.2.2.1 z11.2.2.2.1 z11.2.2.2.2.1 z11.2.2.2.2.2.1 z11.2.2.2.2.2.2.1 z11.2.2.2.2.2.2.2 x7 z10.1 z11.1 z11.2.1 = z12 at hP hT ⊢
    have hP : va_P (dC, dI) vwCl [(h0, .inr (3, [.int z12.2.1, .int z12.2.2.1, .int (jb z12.2.2.2.1), .long z12.2.2.2.2.1, .int z12.2.2.2.2.2.1, .int (jb z12.2.2.2.2.2.2.1), .int (jb z12.2.2.2.2.2.2.2)]))] H := hP
    have hD : va_D (fun q => q = h0) [(h0, .inr (3, [.int z12.2.1, .int z12.2.2.1, .int (jb z12.2.2.2.1), .long z12.2.2.2.2.1, .int z12.2.2.2.2.2.1, .int (jb z12.2.2.2.2.2.2.1), .int (jb z12.2.2.2.2.2.2.2)]))] := fw_D1 rfl
    refine W.eq (g2 := F0 m 75 ls [.long z12.1]) rfl ?_
    refine lv_l2i (v := z12.1.toInt32) hx hb dX6_least_75 rfl ?_
    have hEQ : fm_X6_least h0_format h0_code h0_minus h0_m h0_power h0_infinite h0_none p1 p2 p3 = (z12.1.toInt32, z12.2.1, z12.2.2.1, z12.2.2.2.1, z12.2.2.2.2.1, z12.2.2.2.2.2.1, z12.2.2.2.2.2.2.1, z12.2.2.2.2.2.2.2) := hT
    exact W.iret (v := z12.1.toInt32) hx hb hr (fun t ht hW => ⟨by simp only [hEQ], by rw [ht]; simp only [hEQ, fw_sl]; exact hP, hS.F ht⟩) hS.2.2 dX6_least_76
  · have hT : fm_X6_least h0_format h0_code h0_minus h0_m h0_power h0_infinite h0_none p1 p2 p3 = fm_X6_least_s3 h0_format h0_code h0_minus h0_m h0_power h0_infinite h0_none p1 p2 p3 x1 z5 := hT.trans (if_pos c6)
    refine lv_iconst (v := 0) hx hb dX6_least_36 (by decide) ?_
    have hEQ : fm_X6_least h0_format h0_code h0_minus h0_m h0_power h0_infinite h0_none p1 p2 p3 = (0, z5.2.1, z5.2.2.1, z5.2.2.2.1, z5.2.2.2.2.1, z5.2.2.2.2.2.1, z5.2.2.2.2.2.2.1, z5.2.2.2.2.2.2.2) := hT
    exact W.iret (v := 0) hx hb hr (fun t ht hW => ⟨by simp only [hEQ], by rw [ht]; simp only [hEQ, fw_sl]; exact hP, hS.F ht⟩) hS.2.2 dX6_least_37
