theorem ndX6_compare : yX6_compare.cls = RX6 ∧ yX6_compare.cls ≠ "java/lang/invoke/MethodHandle" ∧ yX6_compare.cls ≠ "java/lang/invoke/VarHandle" ∧ (parseMethodDescriptor yX6_compare.desc).map (fun d => d.parameters.length) = some 3 := by decide +kernel
def fm_X6_compare_s3 (h0_format : Int32) (h0_code : Int32) (h0_minus : Bool) (h0_m : Int64) (h0_power : Int32) (h0_infinite : Bool) (h0_none : Bool) (p1 : Int32) (p2 : Int32) (p3 : Int32) (x1 : Bool) (z6 : Bool × fw_S7) : Bool × fw_S7 := (false, z6.2.1, z6.2.2.1, z6.2.2.2.1, z6.2.2.2.2.1, z6.2.2.2.2.2.1, z6.2.2.2.2.2.2.1, z6.2.2.2.2.2.2.2)
def fm_X6_compare_s13 (h0_format : Int32) (h0_code : Int32) (h0_minus : Bool) (h0_m : Int64) (h0_power : Int32) (h0_infinite : Bool) (h0_none : Bool) (p1 : Int32) (p2 : Int32) (p3 : Int32) (x1 : Bool) (z6 : Bool × fw_S7) (z15 : Int64 × fw_S7) (z16 : Int64 × fw_S7) : Bool × fw_S7 := (true, z16.2.1, z16.2.2.1, z16.2.2.2.1, z16.2.2.2.2.1, z16.2.2.2.2.2.1, z16.2.2.2.2.2.2.1, z16.2.2.2.2.2.2.2)
def fm_X6_compare_s14 (h0_format : Int32) (h0_code : Int32) (h0_minus : Bool) (h0_m : Int64) (h0_power : Int32) (h0_infinite : Bool) (h0_none : Bool) (p1 : Int32) (p2 : Int32) (p3 : Int32) (x1 : Bool) (z6 : Bool × fw_S7) (z15 : Int64 × fw_S7) (z16 : Int64 × fw_S7) : Bool × fw_S7 := (false, z16.2.1, z16.2.2.1, z16.2.2.2.1, z16.2.2.2.2.1, z16.2.2.2.2.2.1, z16.2.2.2.2.2.2.1, z16.2.2.2.2.2.2.2)
def fm_X6_compare_s12 (h0_format : Int32) (h0_code : Int32) (h0_minus : Bool) (h0_m : Int64) (h0_power : Int32) (h0_infinite : Bool) (h0_none : Bool) (p1 : Int32) (p2 : Int32) (p3 : Int32) (x1 : Bool) (z6 : Bool × fw_S7) (z15 : Int64 × fw_S7) (z16 : Int64 × fw_S7) : Bool × fw_S7 := if (lg_cmp z15.1 z16.1) = 0 then fm_X6_compare_s13 h0_format h0_code h0_minus h0_m h0_power h0_infinite h0_none p1 p2 p3 x1 z6 z15 z16 else fm_X6_compare_s14 h0_format h0_code h0_minus h0_m h0_power h0_infinite h0_none p1 p2 p3 x1 z6 z15 z16
def fm_X6_compare_s11 (h0_format : Int32) (h0_code : Int32) (h0_minus : Bool) (h0_m : Int64) (h0_power : Int32) (h0_infinite : Bool) (h0_none : Bool) (p1 : Int32) (p2 : Int32) (p3 : Int32) (x1 : Bool) (z6 : Bool × fw_S7) (z15 : Int64 × fw_S7) : Bool × fw_S7 := fm_X6_compare_s12 h0_format h0_code h0_minus h0_m h0_power h0_infinite h0_none p1 p2 p3 x1 z6 z15 (fm_X6_canonical z15.2.1 z15.2.2.1 z15.2.2.2.1 z15.2.2.2.2.1 z15.2.2.2.2.2.1 z15.2.2.2.2.2.2.1 z15.2.2.2.2.2.2.2 p3.toInt64 z15.2.1)
def fm_X6_compare_s5 (h0_format : Int32) (h0_code : Int32) (h0_minus : Bool) (h0_m : Int64) (h0_power : Int32) (h0_infinite : Bool) (h0_none : Bool) (p1 : Int32) (p2 : Int32) (p3 : Int32) (x1 : Bool) (z6 : Bool × fw_S7) : Bool × fw_S7 := fm_X6_compare_s11 h0_format h0_code h0_minus h0_m h0_power h0_infinite h0_none p1 p2 p3 x1 z6 (fm_X6_canonical z6.2.1 z6.2.2.1 z6.2.2.2.1 z6.2.2.2.2.1 z6.2.2.2.2.2.1 z6.2.2.2.2.2.2.1 z6.2.2.2.2.2.2.2 p2.toInt64 z6.2.1)
def fm_X6_compare_s9 (h0_format : Int32) (h0_code : Int32) (h0_minus : Bool) (h0_m : Int64) (h0_power : Int32) (h0_infinite : Bool) (h0_none : Bool) (p1 : Int32) (p2 : Int32) (p3 : Int32) (x1 : Bool) (z6 : Bool × fw_S7) (x9 : Int32) (z13 : Int64 × fw_S7) : Bool × fw_S7 := (true, z13.2.1, z13.2.2.1, z13.2.2.2.1, z13.2.2.2.2.1, z13.2.2.2.2.2.1, z13.2.2.2.2.2.2.1, z13.2.2.2.2.2.2.2)
def fm_X6_compare_s10 (h0_format : Int32) (h0_code : Int32) (h0_minus : Bool) (h0_m : Int64) (h0_power : Int32) (h0_infinite : Bool) (h0_none : Bool) (p1 : Int32) (p2 : Int32) (p3 : Int32) (x1 : Bool) (z6 : Bool × fw_S7) (x9 : Int32) (z13 : Int64 × fw_S7) : Bool × fw_S7 := (false, z13.2.1, z13.2.2.1, z13.2.2.2.1, z13.2.2.2.2.1, z13.2.2.2.2.2.1, z13.2.2.2.2.2.2.1, z13.2.2.2.2.2.2.2)
def fm_X6_compare_s8 (h0_format : Int32) (h0_code : Int32) (h0_minus : Bool) (h0_m : Int64) (h0_power : Int32) (h0_infinite : Bool) (h0_none : Bool) (p1 : Int32) (p2 : Int32) (p3 : Int32) (x1 : Bool) (z6 : Bool × fw_S7) (x9 : Int32) (z13 : Int64 × fw_S7) : Bool × fw_S7 := if (lg_cmp z13.1 1) = 0 then fm_X6_compare_s9 h0_format h0_code h0_minus h0_m h0_power h0_infinite h0_none p1 p2 p3 x1 z6 x9 z13 else fm_X6_compare_s10 h0_format h0_code h0_minus h0_m h0_power h0_infinite h0_none p1 p2 p3 x1 z6 x9 z13
def fm_X6_compare_s7 (h0_format : Int32) (h0_code : Int32) (h0_minus : Bool) (h0_m : Int64) (h0_power : Int32) (h0_infinite : Bool) (h0_none : Bool) (p1 : Int32) (p2 : Int32) (p3 : Int32) (x1 : Bool) (z6 : Bool × fw_S7) (x9 : Int32) : Bool × fw_S7 := fm_X6_compare_s8 h0_format h0_code h0_minus h0_m h0_power h0_infinite h0_none p1 p2 p3 x1 z6 x9 (fm_X6_compared z6.2.1 z6.2.2.1 z6.2.2.2.1 z6.2.2.2.2.1 z6.2.2.2.2.2.1 z6.2.2.2.2.2.2.1 z6.2.2.2.2.2.2.2 x9 p2.toInt64 p3.toInt64 z6.2.1)
def fm_X6_compare_s6 (h0_format : Int32) (h0_code : Int32) (h0_minus : Bool) (h0_m : Int64) (h0_power : Int32) (h0_infinite : Bool) (h0_none : Bool) (p1 : Int32) (p2 : Int32) (p3 : Int32) (x1 : Bool) (z6 : Bool × fw_S7) : Bool × fw_S7 := fm_X6_compare_s7 h0_format h0_code h0_minus h0_m h0_power h0_infinite h0_none p1 p2 p3 x1 z6 (if p1 = 0 then 55 else (if p1 = 1 then 54 else 58))
def fm_X6_compare_s4 (h0_format : Int32) (h0_code : Int32) (h0_minus : Bool) (h0_m : Int64) (h0_power : Int32) (h0_infinite : Bool) (h0_none : Bool) (p1 : Int32) (p2 : Int32) (p3 : Int32) (x1 : Bool) (z6 : Bool × fw_S7) : Bool × fw_S7 := if p1 = 3 then fm_X6_compare_s5 h0_format h0_code h0_minus h0_m h0_power h0_infinite h0_none p1 p2 p3 x1 z6 else fm_X6_compare_s6 h0_format h0_code h0_minus h0_m h0_power h0_infinite h0_none p1 p2 p3 x1 z6
def fm_X6_compare_s2 (h0_format : Int32) (h0_code : Int32) (h0_minus : Bool) (h0_m : Int64) (h0_power : Int32) (h0_infinite : Bool) (h0_none : Bool) (p1 : Int32) (p2 : Int32) (p3 : Int32) (x1 : Bool) (z6 : Bool × fw_S7) : Bool × fw_S7 := if (jb z6.1) = 0 then fm_X6_compare_s3 h0_format h0_code h0_minus h0_m h0_power h0_infinite h0_none p1 p2 p3 x1 z6 else fm_X6_compare_s4 h0_format h0_code h0_minus h0_m h0_power h0_infinite h0_none p1 p2 p3 x1 z6
def fm_X6_compare_s1 (h0_format : Int32) (h0_code : Int32) (h0_minus : Bool) (h0_m : Int64) (h0_power : Int32) (h0_infinite : Bool) (h0_none : Bool) (p1 : Int32) (p2 : Int32) (p3 : Int32) (x1 : Bool) : Bool × fw_S7 := fm_X6_compare_s2 h0_format h0_code h0_minus h0_m h0_power h0_infinite h0_none p1 p2 p3 x1 (fm_X6_good h0_format h0_code h0_minus h0_m h0_power h0_infinite h0_none x1)
def fm_X6_compare (h0_format : Int32) (h0_code : Int32) (h0_minus : Bool) (h0_m : Int64) (h0_power : Int32) (h0_infinite : Bool) (h0_none : Bool) (p1 : Int32) (p2 : Int32) (p3 : Int32) : Bool × fw_S7 := fm_X6_compare_s1 h0_format h0_code h0_minus h0_m h0_power h0_infinite h0_none p1 p2 p3 (if (jb (fm_X6_in p1 0 3)) = 0 then false else (if (jb (fm_X6_isFloat h0_format h0_code h0_minus h0_m h0_power h0_infinite h0_none p2 h0_format)) = 0 then false else (if (jb (fm_X6_isFloat h0_format h0_code h0_minus h0_m h0_power h0_infinite h0_none p3 h0_format)) = 0 then false else true)))
-- SIMP X6_compare: fm_X6_compare, fm_X6_compare_s1, fm_X6_compare_s2, fm_X6_compare_s4, fm_X6_compare_s6, fm_X6_compare_s7, fm_X6_compare_s8, fm_X6_compare_s10, fm_X6_compare_s9, fm_X6_compare_s5, fm_X6_compare_s11, fm_X6_compare_s12, fm_X6_compare_s14, fm_X6_compare_s13, fm_X6_compare_s3
set_option maxHeartbeats 4000000 in
set_option maxRecDepth 100000 in
theorem k_X6_compare (l : Launch) (dC : Nat → ClassId) (dI : Nat → Nat → Nat) (h0 : Nat) (h0_format : Int32) (h0_code : Int32) (h0_minus : Bool) (h0_m : Int64) (h0_power : Int32) (h0_infinite : Bool) (h0_none : Bool) (p1 : Int32) (p2 : Int32) (p3 : Int32) : Met l yX6_compare wsX6_compare { frames := 4, cells := 0, slots := 0, locals := 108 } (fw_R (dC, dI) vwCl [(h0, .inr (3, [.int h0_format, .int h0_code, .int (jb h0_minus), .long h0_m, .int h0_power, .int (jb h0_infinite), .int (jb h0_none)]))] [.ref h0, .int p1, .int p2, .int p3]) (fw_M (dC, dI) vwCl h0 3 (fw_sl (fm_X6_compare h0_format h0_code h0_minus h0_m h0_power h0_infinite h0_none p1 p2 p3).2) (some (.int (jb ((fm_X6_compare h0_format h0_code h0_minus h0_m h0_power h0_infinite h0_none p1 p2 p3).1))))) 0 0 (fun q => q = h0) := by
  refine Met.ofW (cc := cX6_compare) (maxL := 4) (ret := (some .boolean)) (by decide) rfl ?_
  intro p e s m args below meth c s₁ B hml hv
  obtain ⟨rfl, hP, hK⟩ := hv
  have hx := B.exec
  have hb := B.bytes
  have hr := B.returns
  have hts := atoms_spec (ws := wsX6_compare) B.pre
  have htf : ∀ w ∈ fc_all, w.before _ s = true := fun w h => hts w (List.mem_cons_of_mem _ h)
  have hown : s.vm.findClass RX6 = some m.cls := findClass_of_methodNamed B.named
  have hlocks := B.notSynchronized
  have hP : va_P (dC, dI) vwCl [(h0, .inr (3, [.int h0_format, .int h0_code, .int (jb h0_minus), .long h0_m, .int h0_power, .int (jb h0_infinite), .int (jb h0_none)]))] s.heap := hP
  have hD : va_D (fun q => q = h0) [(h0, .inr (3, [.int h0_format, .int h0_code, .int (jb h0_minus), .long h0_m, .int h0_power, .int (jb h0_infinite), .int (jb h0_none)]))] := fw_D1 rfl
  have hS : va_S (fun q => q = h0) s.heap s.heap [] := va_S.rf
  have hl := lv_entry ([.ref h0, .int p1, .int p2, .int p3]) (n := 4) (Nat.le_of_ble_eq_true rfl)
  rw [lg_entry_eq]
  generalize (lg_sl ([.ref h0, .int p1, .int p2, .int p3]) ++ List.replicate (4 - (lg_sl ([.ref h0, .int p1, .int p2, .int p3])).length) Slot.unset).toArray = ls at hl ⊢
  have hl : lv_has ls 4 [(0, .ref h0), (1, .int p1), (2, .int p2), (3, .int p3)] := hl
  have hT : fm_X6_compare h0_format h0_code h0_minus h0_m h0_power h0_infinite h0_none p1 p2 p3 = fm_X6_compare h0_format h0_code h0_minus h0_m h0_power h0_infinite h0_none p1 p2 p3 := rfl
  refine lv_aload_n hx hb dX6_compare_0 rfl (lv_at hl 0 rfl) ?_
  refine lv_iload_n hx hb dX6_compare_1 rfl (lv_at hl 1 rfl) ?_
  refine lv_iconst (v := 0) hx hb dX6_compare_2 (by decide) ?_
  refine lv_iconst (v := 3) hx hb dX6_compare_3 (by decide) ?_
  refine fw_call (va_runS (As := [.int p1, .int 0, .int 3]) (rest := [.ref h0]) ⟨hx, hb, hml, hown, htf⟩ (k_X6_in l p1 0 3) (va_cwS 3 htf (gd_S wk369 wk370 wk3 wk371) rfl rfl rfl ndX6_in ⟨Nat.le_of_ble_eq_true rfl, Nat.le_of_ble_eq_true rfl⟩) fw_PS rfl rfl hl.1 rfl (lv_room (Nat.le_of_ble_eq_true rfl)) dX6_compare_4 ⟨Nat.le_refl _, Nat.le_refl _⟩) ?_
  refine fw_join (j := 39) (ι := Bool) (LS := fun i ls => lv_has ls 4 [(0, .ref h0), (1, .int p1), (2, .int p2), (3, .int p3)] ∧ i = (if (jb (fm_X6_in p1 0 3)) = 0 then false else (if (jb (fm_X6_isFloat h0_format h0_code h0_minus h0_m h0_power h0_infinite h0_none p2 h0_format)) = 0 then false else (if (jb (fm_X6_isFloat h0_format h0_code h0_minus h0_m h0_power h0_infinite h0_none p3 h0_format)) = 0 then false else true)))) (ST := fun i => [.int (jb i), .ref h0]) ?_ (fun J2 => ?_)
  rotate_left
  · refine lv_if_eq (tgt := 38) hx hb dX6_compare_7 (by decide) (fun c3 => ?_) (fun c3 => ?_)
    · refine lv_iconst (v := 0) hx hb dX6_compare_38 (by decide) ?_
      exact J2 false ls ⟨lv_sub hl [0, 1, 2, 3] rfl, by simp only [if_pos c3] <;> first | assumption | contradiction⟩
    · refine lv_aload_n hx hb dX6_compare_10 rfl (lv_at hl 0 rfl) ?_
      refine lv_iload_n hx hb dX6_compare_11 rfl (lv_at hl 2 rfl) ?_
      refine lv_aload_n hx hb dX6_compare_12 rfl (lv_at hl 0 rfl) ?_
      refine va_get (D := (dC, dI)) (ci := 3) (v := .int h0_format) (C := RX6) (T := TX6) (N := 7) hx hb htf hiX6 hown hK hP 0 rfl rfl 0 (by decide) (htf _ wk351) (fun _ h9 => h9) rfl dX6_compare_13 ?_
      refine fw_call (va_runV (As := [.int p2, .int h0_format]) (rest := [.ref h0]) ⟨hx, hb, hml, hown, htf⟩ (k_X6_isFloat l dC dI h0 h0_format h0_code h0_minus h0_m h0_power h0_infinite h0_none p2 h0_format) (cwV 2 htf (gd_V wk379 wk380 ws7 wk3 wk381) rfl rfl rfl ndX6_isFloat ⟨Nat.le_of_ble_eq_true rfl, Nat.le_of_ble_eq_true rfl⟩) (fw_RV (va_recv hK hP (ci := 3) (q0 := 0) rfl rfl) (hP.sub (ws' := [(h0, .inr (3, [.int h0_format, .int h0_code, .int (jb h0_minus), .long h0_m, .int h0_power, .int (jb h0_infinite), .int (jb h0_none)]))]) [0] rfl) hK) rfl rfl hl.1 rfl (lv_room (Nat.le_of_ble_eq_true rfl)) dX6_compare_16 ⟨Nat.le_refl _, Nat.le_refl _⟩) ?_
      refine lv_if_eq (tgt := 38) hx hb dX6_compare_19 (by decide) (fun c4 => ?_) (fun c4 => ?_)
      · refine lv_iconst (v := 0) hx hb dX6_compare_38 (by decide) ?_
        exact J2 false ls ⟨lv_sub hl [0, 1, 2, 3] rfl, by simp only [if_neg c3, if_pos c4] <;> first | assumption | contradiction⟩
      · refine lv_aload_n hx hb dX6_compare_22 rfl (lv_at hl 0 rfl) ?_
        refine lv_iload_n hx hb dX6_compare_23 rfl (lv_at hl 3 rfl) ?_
        refine lv_aload_n hx hb dX6_compare_24 rfl (lv_at hl 0 rfl) ?_
        refine va_get (D := (dC, dI)) (ci := 3) (v := .int h0_format) (C := RX6) (T := TX6) (N := 7) hx hb htf hiX6 hown hK hP 0 rfl rfl 0 (by decide) (htf _ wk351) (fun _ h9 => h9) rfl dX6_compare_25 ?_
        refine fw_call (va_runV (As := [.int p3, .int h0_format]) (rest := [.ref h0]) ⟨hx, hb, hml, hown, htf⟩ (k_X6_isFloat l dC dI h0 h0_format h0_code h0_minus h0_m h0_power h0_infinite h0_none p3 h0_format) (cwV 2 htf (gd_V wk379 wk380 ws7 wk3 wk381) rfl rfl rfl ndX6_isFloat ⟨Nat.le_of_ble_eq_true rfl, Nat.le_of_ble_eq_true rfl⟩) (fw_RV (va_recv hK hP (ci := 3) (q0 := 0) rfl rfl) (hP.sub (ws' := [(h0, .inr (3, [.int h0_format, .int h0_code, .int (jb h0_minus), .long h0_m, .int h0_power, .int (jb h0_infinite), .int (jb h0_none)]))]) [0] rfl) hK) rfl rfl hl.1 rfl (lv_room (Nat.le_of_ble_eq_true rfl)) dX6_compare_28 ⟨Nat.le_refl _, Nat.le_refl _⟩) ?_
        refine lv_if_eq (tgt := 38) hx hb dX6_compare_31 (by decide) (fun c5 => ?_) (fun c5 => ?_)
        · refine lv_iconst (v := 0) hx hb dX6_compare_38 (by decide) ?_
          exact J2 false ls ⟨lv_sub hl [0, 1, 2, 3] rfl, by simp only [if_neg c3, if_neg c4, if_pos c5] <;> first | assumption | contradiction⟩
        · refine lv_iconst (v := 1) hx hb dX6_compare_34 (by decide) ?_
          refine lv_goto (tgt := 39) hx hb dX6_compare_35 (by decide) ?_
          exact J2 true ls ⟨lv_sub hl [0, 1, 2, 3] rfl, by simp only [if_neg c3, if_neg c4, if_neg c5] <;> first | assumption | contradiction⟩
  rintro x1 ls ⟨hl, ex1⟩
  try dsimp only at hl ex1 ⊢
  have hT : fm_X6_compare h0_format h0_code h0_minus h0_m h0_power h0_infinite h0_none p1 p2 p3 = fm_X6_compare_s1 h0_format h0_code h0_minus h0_m h0_power h0_infinite h0_none p1 p2 p3 x1 := by rw [ex1]; exact hT
  refine fw_callM (va_runV (As := [.int (jb x1)]) (rest := []) ⟨hx, hb, hml, hown, htf⟩ (k_X6_good l dC dI h0 h0_format h0_code h0_minus h0_m h0_power h0_infinite h0_none x1) (cwV 1 htf (gd_V wk372 wk373 ws6 wk3 wk374) rfl rfl rfl ndX6_good ⟨Nat.le_of_ble_eq_true rfl, Nat.le_of_ble_eq_true rfl⟩) (fw_RV (va_recv hK hP (ci := 3) (q0 := 0) rfl rfl) hP hK) rfl rfl hl.1 rfl (lv_room (Nat.le_of_ble_eq_true rfl)) dX6_compare_39 ⟨Nat.le_refl _, Nat.le_refl _⟩) hS rfl (fun H locs hP _ _ hS => ?_)
  have hT : fm_X6_compare h0_format h0_code h0_minus h0_m h0_power h0_infinite h0_none p1 p2 p3 = fm_X6_compare_s2 h0_format h0_code h0_minus h0_m h0_power h0_infinite h0_none p1 p2 p3 x1 (fm_X6_good h0_format h0_code h0_minus h0_m h0_power h0_infinite h0_none x1) := hT
  generalize ez6 : fm_X6_good h0_format h0_code h0_minus h0_m h0_power h0_infinite h0_none x1 = z6 at hP hT ⊢
  have hP : va_P (dC, dI) vwCl [(h0, .inr (3, [.int z6.2.1, .int z6.2.2.1, .int (jb z6.2.2.2.1), .long z6.2.2.2.2.1, .int z6.2.2.2.2.2.1, .int (jb z6.2.2.2.2.2.2.1), .int (jb z6.2.2.2.2.2.2.2)]))] H := hP
  have hD : va_D (fun q => q = h0) [(h0, .inr (3, [.int z6.2.1, .int z6.2.2.1, .int (jb z6.2.2.2.1), .long z6.2.2.2.2.1, .int z6.2.2.2.2.2.1, .int (jb z6.2.2.2.2.2.2.1), .int (jb z6.2.2.2.2.2.2.2)]))] := fw_D1 rfl
  refine W.eq (g2 := F0 m 42 ls [.int (jb z6.1)]) rfl ?_
  refine lv_if_ne (tgt := 47) hx hb dX6_compare_42 (by decide) (fun c7 => ?_) (fun c7 => ?_)
  · have hT : fm_X6_compare h0_format h0_code h0_minus h0_m h0_power h0_infinite h0_none p1 p2 p3 = fm_X6_compare_s4 h0_format h0_code h0_minus h0_m h0_power h0_infinite h0_none p1 p2 p3 x1 z6 := hT.trans (if_neg c7)
    refine lv_iload_n hx hb dX6_compare_47 rfl (lv_at hl 1 rfl) ?_
    refine lv_iconst (v := 3) hx hb dX6_compare_48 (by decide) ?_
    refine lv_icmp_ne (tgt := 82) hx hb dX6_compare_49 (by decide) (fun c8 => ?_) (fun c8 => ?_)
    · have hT : fm_X6_compare h0_format h0_code h0_minus h0_m h0_power h0_infinite h0_none p1 p2 p3 = fm_X6_compare_s6 h0_format h0_code h0_minus h0_m h0_power h0_infinite h0_none p1 p2 p3 x1 z6 := hT.trans (if_neg c8)
      refine lv_aload_n hx hb dX6_compare_82 rfl (lv_at hl 0 rfl) ?_
      refine lv_iload_n hx hb dX6_compare_83 rfl (lv_at hl 1 rfl) ?_
      refine fw_join (j := 104) (ι := Int32) (LS := fun i ls => lv_has ls 4 [(0, .ref h0), (1, .int p1), (2, .int p2), (3, .int p3)] ∧ i = (if p1 = 0 then 55 else (if p1 = 1 then 54 else 58))) (ST := fun i => [.int i, .ref h0]) ?_ (fun J10 => ?_)
      rotate_left
      · refine lv_if_ne (tgt := 92) hx hb dX6_compare_84 (by decide) (fun c11 => ?_) (fun c11 => ?_)
        · refine lv_iload_n hx hb dX6_compare_92 rfl (lv_at hl 1 rfl) ?_
          refine lv_iconst (v := 1) hx hb dX6_compare_93 (by decide) ?_
          refine lv_icmp_ne (tgt := 102) hx hb dX6_compare_94 (by decide) (fun c12 => ?_) (fun c12 => ?_)
          · refine lv_bipush (v := 58) hx hb dX6_compare_102 (by decide) ?_
            exact J10 58 ls ⟨lv_sub hl [0, 1, 2, 3] rfl, by simp only [if_neg c11, if_neg c12] <;> first | assumption | contradiction⟩
          · refine lv_bipush (v := 54) hx hb dX6_compare_97 (by decide) ?_
            refine lv_goto (tgt := 104) hx hb dX6_compare_99 (by decide) ?_
            exact J10 54 ls ⟨lv_sub hl [0, 1, 2, 3] rfl, by simp only [if_neg c11, if_pos c12] <;> first | assumption | contradiction⟩
        · refine lv_bipush (v := 55) hx hb dX6_compare_87 (by decide) ?_
          refine lv_goto (tgt := 104) hx hb dX6_compare_89 (by decide) ?_
          exact J10 55 ls ⟨lv_sub hl [0, 1, 2, 3] rfl, by simp only [if_pos c11] <;> first | assumption | contradiction⟩
      rintro x9 ls ⟨hl, ex9⟩
      try dsimp only at hl ex9 ⊢
      have hT : fm_X6_compare h0_format h0_code h0_minus h0_m h0_power h0_infinite h0_none p1 p2 p3 = fm_X6_compare_s7 h0_format h0_code h0_minus h0_m h0_power h0_infinite h0_none p1 p2 p3 x1 z6 x9 := by rw [ex9]; exact hT
      refine lv_iload_n hx hb dX6_compare_104 rfl (lv_at hl 2 rfl) ?_
      refine lv_i2l (v := p2.toInt64) hx hb dX6_compare_105 rfl ?_
      refine lv_iload_n hx hb dX6_compare_106 rfl (lv_at hl 3 rfl) ?_
      refine lv_i2l (v := p3.toInt64) hx hb dX6_compare_107 rfl ?_
      refine lv_aload_n hx hb dX6_compare_108 rfl (lv_at hl 0 rfl) ?_
      refine va_get (D := (dC, dI)) (ci := 3) (v := .int z6.2.1) (C := RX6) (T := TX6) (N := 7) hx hb htf hiX6 hown hK hP 0 rfl rfl 0 (by decide) (htf _ wk351) (fun _ h9 => h9) rfl dX6_compare_109 ?_
      refine fw_callM (va_runV (As := [.int x9, .long p2.toInt64, .long p3.toInt64, .int z6.2.1]) (rest := []) ⟨hx, hb, hml, hown, htf⟩ (k_X6_compared l dC dI h0 z6.2.1 z6.2.2.1 z6.2.2.2.1 z6.2.2.2.2.1 z6.2.2.2.2.2.1 z6.2.2.2.2.2.2.1 z6.2.2.2.2.2.2.2 x9 p2.toInt64 p3.toInt64 z6.2.1) (cwV 4 htf (gd_V wk448 wk449 ws15 wk3 wk450) rfl rfl rfl ndX6_compared ⟨Nat.le_of_ble_eq_true rfl, Nat.le_of_ble_eq_true rfl⟩) (fw_RV (va_recv hK hP (ci := 3) (q0 := 0) rfl rfl) hP hK) rfl rfl hl.1 rfl (lv_room (Nat.le_of_ble_eq_true rfl)) dX6_compare_112 ⟨Nat.le_refl _, Nat.le_refl _⟩) hS rfl (fun H locs hP _ _ hS => ?_)
      have hT : fm_X6_compare h0_format h0_code h0_minus h0_m h0_power h0_infinite h0_none p1 p2 p3 = fm_X6_compare_s8 h0_format h0_code h0_minus h0_m h0_power h0_infinite h0_none p1 p2 p3 x1 z6 x9 (fm_X6_compared z6.2.1 z6.2.2.1 z6.2.2.2.1 z6.2.2.2.2.1 z6.2.2.2.2.2.1 z6.2.2.2.2.2.2.1 z6.2.2.2.2.2.2.2 x9 p2.toInt64 p3.toInt64 z6.2.1) := hT
      generalize ez13 : fm_X6_compared z6.2.1 z6.2.2.1 z6.2.2.2.1 z6.2.2.2.2.1 z6.2.2.2.2.2.1 z6.2.2.2.2.2.2.1 z6.2.2.2.2.2.2.2 x9 p2.toInt64 p3.toInt64 z6.2.1 = z13 at hP hT ⊢
      have hP : va_P (dC, dI) vwCl [(h0, .inr (3, [.int z13.2.1, .int z13.2.2.1, .int (jb z13.2.2.2.1), .long z13.2.2.2.2.1, .int z13.2.2.2.2.2.1, .int (jb z13.2.2.2.2.2.2.1), .int (jb z13.2.2.2.2.2.2.2)]))] H := hP
      have hD : va_D (fun q => q = h0) [(h0, .inr (3, [.int z13.2.1, .int z13.2.2.1, .int (jb z13.2.2.2.1), .long z13.2.2.2.2.1, .int z13.2.2.2.2.2.1, .int (jb z13.2.2.2.2.2.2.1), .int (jb z13.2.2.2.2.2.2.2)]))] := fw_D1 rfl
      refine W.eq (g2 := F0 m 115 ls [.long z13.1]) rfl ?_
      refine lv_lconst (v := 1) hx hb dX6_compare_115 (by decide) ?_
      refine W.lcmp hx hb dX6_compare_116 ?_
      refine lv_if_ne (tgt := 124) hx hb dX6_compare_117 (by decide) (fun c14 => ?_) (fun c14 => ?_)
      · have hT : fm_X6_compare h0_format h0_code h0_minus h0_m h0_power h0_infinite h0_none p1 p2 p3 = fm_X6_compare_s10 h0_format h0_code h0_minus h0_m h0_power h0_infinite h0_none p1 p2 p3 x1 z6 x9 z13 := hT.trans (if_neg c14)
        refine lv_iconst (v := 0) hx hb dX6_compare_124 (by decide) ?_
        have hEQ : fm_X6_compare h0_format h0_code h0_minus h0_m h0_power h0_infinite h0_none p1 p2 p3 = (false, z13.2.1, z13.2.2.1, z13.2.2.2.1, z13.2.2.2.2.1, z13.2.2.2.2.2.1, z13.2.2.2.2.2.2.1, z13.2.2.2.2.2.2.2) := hT
        exact W.zret (v := jb false) (ty := .boolean) hx hb hr (jb_n _) (fun t ht hW => ⟨by simp only [hEQ], by rw [ht]; simp only [hEQ, fw_sl]; exact hP, hS.F ht⟩) hS.2.2 dX6_compare_125
      · have hT : fm_X6_compare h0_format h0_code h0_minus h0_m h0_power h0_infinite h0_none p1 p2 p3 = fm_X6_compare_s9 h0_format h0_code h0_minus h0_m h0_power h0_infinite h0_none p1 p2 p3 x1 z6 x9 z13 := hT.trans (if_pos c14)
        refine lv_iconst (v := 1) hx hb dX6_compare_120 (by decide) ?_
        refine lv_goto (tgt := 125) hx hb dX6_compare_121 (by decide) ?_
        have hEQ : fm_X6_compare h0_format h0_code h0_minus h0_m h0_power h0_infinite h0_none p1 p2 p3 = (true, z13.2.1, z13.2.2.1, z13.2.2.2.1, z13.2.2.2.2.1, z13.2.2.2.2.2.1, z13.2.2.2.2.2.2.1, z13.2.2.2.2.2.2.2) := hT
        exact W.zret (v := jb true) (ty := .boolean) hx hb hr (jb_n _) (fun t ht hW => ⟨by simp only [hEQ], by rw [ht]; simp only [hEQ, fw_sl]; exact hP, hS.F ht⟩) hS.2.2 dX6_compare_125
    · have hT : fm_X6_compare h0_format h0_code h0_minus h0_m h0_power h0_infinite h0_none p1 p2 p3 = fm_X6_compare_s5 h0_format h0_code h0_minus h0_m h0_power h0_infinite h0_none p1 p2 p3 x1 z6 := hT.trans (if_pos c8)
      refine lv_aload_n hx hb dX6_compare_52 rfl (lv_at hl 0 rfl) ?_
      refine lv_iload_n hx hb dX6_compare_53 rfl (lv_at hl 2 rfl) ?_
      refine lv_i2l (v := p2.toInt64) hx hb dX6_compare_54 rfl ?_
      refine lv_aload_n hx hb dX6_compare_55 rfl (lv_at hl 0 rfl) ?_
      refine va_get (D := (dC, dI)) (ci := 3) (v := .int z6.2.1) (C := RX6) (T := TX6) (N := 7) hx hb htf hiX6 hown hK hP 0 rfl rfl 0 (by decide) (htf _ wk351) (fun _ h9 => h9) rfl dX6_compare_56 ?_
      refine fw_callM (va_runV (As := [.long p2.toInt64, .int z6.2.1]) (rest := []) ⟨hx, hb, hml, hown, htf⟩ (k_X6_canonical l dC dI h0 z6.2.1 z6.2.2.1 z6.2.2.2.1 z6.2.2.2.2.1 z6.2.2.2.2.2.1 z6.2.2.2.2.2.2.1 z6.2.2.2.2.2.2.2 p2.toInt64 z6.2.1) (cwV 2 htf (gd_V wk423 wk424 ws10 wk3 wk425) rfl rfl rfl ndX6_canonical ⟨Nat.le_of_ble_eq_true rfl, Nat.le_of_ble_eq_true rfl⟩) (fw_RV (va_recv hK hP (ci := 3) (q0 := 0) rfl rfl) hP hK) rfl rfl hl.1 rfl (lv_room (Nat.le_of_ble_eq_true rfl)) dX6_compare_59 ⟨Nat.le_refl _, Nat.le_refl _⟩) hS rfl (fun H locs hP _ _ hS => ?_)
      have hT : fm_X6_compare h0_format h0_code h0_minus h0_m h0_power h0_infinite h0_none p1 p2 p3 = fm_X6_compare_s11 h0_format h0_code h0_minus h0_m h0_power h0_infinite h0_none p1 p2 p3 x1 z6 (fm_X6_canonical z6.2.1 z6.2.2.1 z6.2.2.2.1 z6.2.2.2.2.1 z6.2.2.2.2.2.1 z6.2.2.2.2.2.2.1 z6.2.2.2.2.2.2.2 p2.toInt64 z6.2.1) := hT
      generalize ez15 : fm_X6_canonical z6.2.1 z6.2.2.1 z6.2.2.2.1 z6.2.2.2.2.1 z6.2.2.2.2.2.1 z6.2.2.2.2.2.2.1 z6.2.2.2.2.2.2.2 p2.toInt64 z6.2.1 = z15 at hP hT ⊢
      have hP : va_P (dC, dI) vwCl [(h0, .inr (3, [.int z15.2.1, .int z15.2.2.1, .int (jb z15.2.2.2.1), .long z15.2.2.2.2.1, .int z15.2.2.2.2.2.1, .int (jb z15.2.2.2.2.2.2.1), .int (jb z15.2.2.2.2.2.2.2)]))] H := hP
      have hD : va_D (fun q => q = h0) [(h0, .inr (3, [.int z15.2.1, .int z15.2.2.1, .int (jb z15.2.2.2.1), .long z15.2.2.2.2.1, .int z15.2.2.2.2.2.1, .int (jb z15.2.2.2.2.2.2.1), .int (jb z15.2.2.2.2.2.2.2)]))] := fw_D1 rfl
      refine W.eq (g2 := F0 m 62 ls [.long z15.1]) rfl ?_
      refine lv_aload_n hx hb dX6_compare_62 rfl (lv_at hl 0 rfl) ?_
      refine lv_iload_n hx hb dX6_compare_63 rfl (lv_at hl 3 rfl) ?_
      refine lv_i2l (v := p3.toInt64) hx hb dX6_compare_64 rfl ?_
      refine lv_aload_n hx hb dX6_compare_65 rfl (lv_at hl 0 rfl) ?_
      refine va_get (D := (dC, dI)) (ci := 3) (v := .int z15.2.1) (C := RX6) (T := TX6) (N := 7) hx hb htf hiX6 hown hK hP 0 rfl rfl 0 (by decide) (htf _ wk351) (fun _ h9 => h9) rfl dX6_compare_66 ?_
      refine fw_callM (va_runV (As := [.long p3.toInt64, .int z15.2.1]) (rest := [.long z15.1]) ⟨hx, hb, hml, hown, htf⟩ (k_X6_canonical l dC dI h0 z15.2.1 z15.2.2.1 z15.2.2.2.1 z15.2.2.2.2.1 z15.2.2.2.2.2.1 z15.2.2.2.2.2.2.1 z15.2.2.2.2.2.2.2 p3.toInt64 z15.2.1) (cwV 2 htf (gd_V wk423 wk424 ws10 wk3 wk425) rfl rfl rfl ndX6_canonical ⟨Nat.le_of_ble_eq_true rfl, Nat.le_of_ble_eq_true rfl⟩) (fw_RV (va_recv hK hP (ci := 3) (q0 := 0) rfl rfl) hP hK) rfl rfl hl.1 rfl (lv_room (Nat.le_of_ble_eq_true rfl)) dX6_compare_69 ⟨Nat.le_refl _, Nat.le_refl _⟩) hS rfl (fun H locs hP _ _ hS => ?_)
      have hT : fm_X6_compare h0_format h0_code h0_minus h0_m h0_power h0_infinite h0_none p1 p2 p3 = fm_X6_compare_s12 h0_format h0_code h0_minus h0_m h0_power h0_infinite h0_none p1 p2 p3 x1 z6 z15 (fm_X6_canonical z15.2.1 z15.2.2.1 z15.2.2.2.1 z15.2.2.2.2.1 z15.2.2.2.2.2.1 z15.2.2.2.2.2.2.1 z15.2.2.2.2.2.2.2 p3.toInt64 z15.2.1) := hT
      generalize ez16 : fm_X6_canonical z15.2.1 z15.2.2.1 z15.2.2.2.1 z15.2.2.2.2.1 z15.2.2.2.2.2.1 z15.2.2.2.2.2.2.1 z15.2.2.2.2.2.2.2 p3.toInt64 z15.2.1 = z16 at hP hT ⊢
      have hP : va_P (dC, dI) vwCl [(h0, .inr (3, [.int z16.2.1, .int z16.2.2.1, .int (jb z16.2.2.2.1), .long z16.2.2.2.2.1, .int z16.2.2.2.2.2.1, .int (jb z16.2.2.2.2.2.2.1), .int (jb z16.2.2.2.2.2.2.2)]))] H := hP
      have hD : va_D (fun q => q = h0) [(h0, .inr (3, [.int z16.2.1, .int z16.2.2.1, .int (jb z16.2.2.2.1), .long z16.2.2.2.2.1, .int z16.2.2.2.2.2.1, .int (jb z16.2.2.2.2.2.2.1), .int (jb z16.2.2.2.2.2.2.2)]))] := fw_D1 rfl
      refine W.eq (g2 := F0 m 72 ls [.long z16.1, .long z15.1]) rfl ?_
      refine W.lcmp hx hb dX6_compare_72 ?_
      refine lv_if_ne (tgt := 80) hx hb dX6_compare_73 (by decide) (fun c17 => ?_) (fun c17 => ?_)
      · have hT : fm_X6_compare h0_format h0_code h0_minus h0_m h0_power h0_infinite h0_none p1 p2 p3 = fm_X6_compare_s14 h0_format h0_code h0_minus h0_m h0_power h0_infinite h0_none p1 p2 p3 x1 z6 z15 z16 := hT.trans (if_neg c17)
        refine lv_iconst (v := 0) hx hb dX6_compare_80 (by decide) ?_
        have hEQ : fm_X6_compare h0_format h0_code h0_minus h0_m h0_power h0_infinite h0_none p1 p2 p3 = (false, z16.2.1, z16.2.2.1, z16.2.2.2.1, z16.2.2.2.2.1, z16.2.2.2.2.2.1, z16.2.2.2.2.2.2.1, z16.2.2.2.2.2.2.2) := hT
        exact W.zret (v := jb false) (ty := .boolean) hx hb hr (jb_n _) (fun t ht hW => ⟨by simp only [hEQ], by rw [ht]; simp only [hEQ, fw_sl]; exact hP, hS.F ht⟩) hS.2.2 dX6_compare_81
      · have hT : fm_X6_compare h0_format h0_code h0_minus h0_m h0_power h0_infinite h0_none p1 p2 p3 = fm_X6_compare_s13 h0_format h0_code h0_minus h0_m h0_power h0_infinite h0_none p1 p2 p3 x1 z6 z15 z16 := hT.trans (if_pos c17)
        refine lv_iconst (v := 1) hx hb dX6_compare_76 (by decide) ?_
        refine lv_goto (tgt := 81) hx hb dX6_compare_77 (by decide) ?_
        have hEQ : fm_X6_compare h0_format h0_code h0_minus h0_m h0_power h0_infinite h0_none p1 p2 p3 = (true, z16.2.1, z16.2.2.1, z16.2.2.2.1, z16.2.2.2.2.1, z16.2.2.2.2.2.1, z16.2.2.2.2.2.2.1, z16.2.2.2.2.2.2.2) := hT
        exact W.zret (v := jb true) (ty := .boolean) hx hb hr (jb_n _) (fun t ht hW => ⟨by simp only [hEQ], by rw [ht]; simp only [hEQ, fw_sl]; exact hP, hS.F ht⟩) hS.2.2 dX6_compare_81
  · have hT : fm_X6_compare h0_format h0_code h0_minus h0_m h0_power h0_infinite h0_none p1 p2 p3 = fm_X6_compare_s3 h0_format h0_code h0_minus h0_m h0_power h0_infinite h0_none p1 p2 p3 x1 z6 := hT.trans (if_pos c7)
    refine lv_iconst (v := 0) hx hb dX6_compare_45 (by decide) ?_
    have hEQ : fm_X6_compare h0_format h0_code h0_minus h0_m h0_power h0_infinite h0_none p1 p2 p3 = (false, z6.2.1, z6.2.2.1, z6.2.2.2.1, z6.2.2.2.2.1, z6.2.2.2.2.2.1, z6.2.2.2.2.2.2.1, z6.2.2.2.2.2.2.2) := hT
    exact W.zret (v := jb false) (ty := .boolean) hx hb hr (jb_n _) (fun t ht hW => ⟨by simp only [hEQ], by rw [ht]; simp only [hEQ, fw_sl]; exact hP, hS.F ht⟩) hS.2.2 dX6_compare_46
