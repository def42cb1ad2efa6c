theorem ndX6_told : yX6_told.cls = RX6 ∧ yX6_told.cls ≠ "java/lang/invoke/MethodHandle" ∧ yX6_told.cls ≠ "java/lang/invoke/VarHandle" ∧ (parseMethodDescriptor yX6_told.desc).map (fun d => d.parameters.length) = some 3 := by decide +kernel
def fm_X6_told_s6 (h0_format : Int32) (h0_code : Int32) (h0_minus : Bool) (h0_m : Int64) (h0_power : Int32) (h0_infinite : Bool) (h0_none : Bool) (p1 : Int32) (p2 : Int64) (p3 : Int32) (z1 : fw_S7) (x2 : Bool) (x7 : Bool) (x12 : Bool) : Int64 × fw_S7 := (1, z1.1, z1.2.1, z1.2.2.1, z1.2.2.2.1, z1.2.2.2.2.1, z1.2.2.2.2.2.1, z1.2.2.2.2.2.2)
def fm_X6_told_s5 (h0_format : Int32) (h0_code : Int32) (h0_minus : Bool) (h0_m : Int64) (h0_power : Int32) (h0_infinite : Bool) (h0_none : Bool) (p1 : Int32) (p2 : Int64) (p3 : Int32) (z1 : fw_S7) (x2 : Bool) (x7 : Bool) (x12 : Bool) : Int64 × fw_S7 := (0, z1.1, z1.2.1, z1.2.2.1, z1.2.2.2.1, z1.2.2.2.2.1, z1.2.2.2.2.2.1, z1.2.2.2.2.2.2)
def fm_X6_told_s4 (h0_format : Int32) (h0_code : Int32) (h0_minus : Bool) (h0_m : Int64) (h0_power : Int32) (h0_infinite : Bool) (h0_none : Bool) (p1 : Int32) (p2 : Int64) (p3 : Int32) (z1 : fw_S7) (x2 : Bool) (x7 : Bool) (x12 : Bool) : Int64 × fw_S7 := if (jb x12) = 0 then fm_X6_told_s5 h0_format h0_code h0_minus h0_m h0_power h0_infinite h0_none p1 p2 p3 z1 x2 x7 x12 else fm_X6_told_s6 h0_format h0_code h0_minus h0_m h0_power h0_infinite h0_none p1 p2 p3 z1 x2 x7 x12
def fm_X6_told_s3 (h0_format : Int32) (h0_code : Int32) (h0_minus : Bool) (h0_m : Int64) (h0_power : Int32) (h0_infinite : Bool) (h0_none : Bool) (p1 : Int32) (p2 : Int64) (p3 : Int32) (z1 : fw_S7) (x2 : Bool) (x7 : Bool) : Int64 × fw_S7 := fm_X6_told_s4 h0_format h0_code h0_minus h0_m h0_power h0_infinite h0_none p1 p2 p3 z1 x2 x7 (if p1 = 59 then x7 else (if p1 = 60 then (if (jb x7) = 0 then (if (jb x2) = 0 then (if (jb z1.2.2.2.2.2.1) = 0 then (if (jb z1.2.2.2.2.2.2) = 0 then true else false) else false) else false) else false) else (if p1 = 61 then x2 else (if p1 = 62 then z1.2.2.2.2.2.1 else (if p1 = 63 then z1.2.2.2.2.2.2 else (if p1 = 64 then (if (jb z1.2.2.1) = 0 then false else (if (jb z1.2.2.2.2.2.2) = 0 then true else false)) else (if (jb z1.2.2.1) = 0 then (if (jb z1.2.2.2.2.2.2) = 0 then true else false) else false)))))))
def fm_X6_told_s2 (h0_format : Int32) (h0_code : Int32) (h0_minus : Bool) (h0_m : Int64) (h0_power : Int32) (h0_infinite : Bool) (h0_none : Bool) (p1 : Int32) (p2 : Int64) (p3 : Int32) (z1 : fw_S7) (x2 : Bool) : Int64 × fw_S7 := fm_X6_told_s3 h0_format h0_code h0_minus h0_m h0_power h0_infinite h0_none p1 p2 p3 z1 x2 (if (jb z1.2.2.2.2.2.1) = 0 then (if (jb z1.2.2.2.2.2.2) = 0 then (if (lg_cmp (fc_ushr z1.2.2.2.1 ((fm_X6_significand p3) - 1)) 1) = 0 then true else false) else false) else false)
def fm_X6_told_s1 (h0_format : Int32) (h0_code : Int32) (h0_minus : Bool) (h0_m : Int64) (h0_power : Int32) (h0_infinite : Bool) (h0_none : Bool) (p1 : Int32) (p2 : Int64) (p3 : Int32) (z1 : fw_S7) : Int64 × fw_S7 := fm_X6_told_s2 h0_format h0_code h0_minus h0_m h0_power h0_infinite h0_none p1 p2 p3 z1 (if (lg_cmp z1.2.2.2.1 0) = 0 then (if (jb z1.2.2.2.2.2.1) = 0 then (if (jb z1.2.2.2.2.2.2) = 0 then true else false) else false) else false)
def fm_X6_told (h0_format : Int32) (h0_code : Int32) (h0_minus : Bool) (h0_m : Int64) (h0_power : Int32) (h0_infinite : Bool) (h0_none : Bool) (p1 : Int32) (p2 : Int64) (p3 : Int32) : Int64 × fw_S7 := fm_X6_told_s1 h0_format h0_code h0_minus h0_m h0_power h0_infinite h0_none p1 p2 p3 (fm_X6_take h0_format h0_code h0_minus h0_m h0_power h0_infinite h0_none p2 p3)
-- SIMP X6_told: fm_X6_told, fm_X6_told_s1, fm_X6_told_s2, fm_X6_told_s3, fm_X6_told_s4, fm_X6_told_s5, fm_X6_told_s6
set_option maxHeartbeats 4000000 in
set_option maxRecDepth 100000 in
theorem k_X6_told (l : Launch) (dC : Nat → ClassId) (dI : Nat → Nat → Nat) (h0 : Nat) (h0_format : Int32) (h0_code : Int32) (h0_minus : Bool) (h0_m : Int64) (h0_power : Int32) (h0_infinite : Bool) (h0_none : Bool) (p1 : Int32) (p2 : Int64) (p3 : Int32) : Met l yX6_told wsX6_told { frames := 2, cells := 0, slots := 0, locals := 50 } (fw_R (dC, dI) vwCl [(h0, .inr (3, [.int h0_format, .int h0_code, .int (jb h0_minus), .long h0_m, .int h0_power, .int (jb h0_infinite), .int (jb h0_none)]))] [.ref h0, .int p1, .long p2, .int p3]) (fw_M (dC, dI) vwCl h0 3 (fw_sl (fm_X6_told h0_format h0_code h0_minus h0_m h0_power h0_infinite h0_none p1 p2 p3).2) (some (.long ((fm_X6_told h0_format h0_code h0_minus h0_m h0_power h0_infinite h0_none p1 p2 p3).1)))) 0 0 (fun q => q = h0) := by
  refine Met.ofW (cc := cX6_told) (maxL := 8) (ret := (some .long)) (by decide) rfl ?_
  intro p e s m args below meth c s₁ B hml hv
  obtain ⟨rfl, hP, hK⟩ := hv
  have hx := B.exec
  have hb := B.bytes
  have hr := B.returns
  have hts := atoms_spec (ws := wsX6_told) B.pre
  have htf : ∀ w ∈ fc_all, w.before _ s = true := fun w h => hts w (List.mem_cons_of_mem _ h)
  have hown : s.vm.findClass RX6 = some m.cls := findClass_of_methodNamed B.named
  have hlocks := B.notSynchronized
  have hP : va_P (dC, dI) vwCl [(h0, .inr (3, [.int h0_format, .int h0_code, .int (jb h0_minus), .long h0_m, .int h0_power, .int (jb h0_infinite), .int (jb h0_none)]))] s.heap := hP
  have hD : va_D (fun q => q = h0) [(h0, .inr (3, [.int h0_format, .int h0_code, .int (jb h0_minus), .long h0_m, .int h0_power, .int (jb h0_infinite), .int (jb h0_none)]))] := fw_D1 rfl
  have hS : va_S (fun q => q = h0) s.heap s.heap [] := va_S.rf
  have hl := lv_entry ([.ref h0, .int p1, .long p2, .int p3]) (n := 8) (Nat.le_of_ble_eq_true rfl)
  rw [lg_entry_eq]
  generalize (lg_sl ([.ref h0, .int p1, .long p2, .int p3]) ++ List.replicate (8 - (lg_sl ([.ref h0, .int p1, .long p2, .int p3])).length) Slot.unset).toArray = ls at hl ⊢
  have hl : lv_has ls 8 [(0, .ref h0), (1, .int p1), (2, .long p2), (4, .int p3)] := hl
  have hT : fm_X6_told h0_format h0_code h0_minus h0_m h0_power h0_infinite h0_none p1 p2 p3 = fm_X6_told h0_format h0_code h0_minus h0_m h0_power h0_infinite h0_none p1 p2 p3 := rfl
  refine lv_aload_n hx hb dX6_told_0 rfl (lv_at hl 0 rfl) ?_
  refine lv_lload_n hx hb dX6_told_1 rfl (lv_at hl 2 rfl) ?_
  refine lv_iload hx hb dX6_told_2 (lv_at hl 3 rfl) ?_
  refine fw_callM (va_runV (As := [.long p2, .int p3]) (rest := []) ⟨hx, hb, hml, hown, htf⟩ (k_X6_take l dC dI h0 h0_format h0_code h0_minus h0_m h0_power h0_infinite h0_none p2 p3) (cwV 2 htf (gd_V wk400 wk401 ws9 wk3 wk402) rfl rfl rfl ndX6_take ⟨Nat.le_of_ble_eq_true rfl, Nat.le_of_ble_eq_true rfl⟩) (fw_RV (va_recv hK hP (ci := 3) (q0 := 0) rfl rfl) hP hK) rfl rfl hl.1 rfl (lv_room (Nat.le_of_ble_eq_true rfl)) dX6_told_4 ⟨Nat.le_refl _, Nat.le_refl _⟩) hS rfl (fun H locs hP _ _ hS => ?_)
  have hT : fm_X6_told h0_format h0_code h0_minus h0_m h0_power h0_infinite h0_none p1 p2 p3 = fm_X6_told_s1 h0_format h0_code h0_minus h0_m h0_power h0_infinite h0_none p1 p2 p3 (fm_X6_take h0_format h0_code h0_minus h0_m h0_power h0_infinite h0_none p2 p3) := hT
  generalize ez1 : fm_X6_take h0_format h0_code h0_minus h0_m h0_power h0_infinite h0_none p2 p3 = z1 at hP hT ⊢
  have hP : va_P (dC, dI) vwCl [(h0, .inr (3, [.int z1.1, .int z1.2.1, .int (jb z1.2.2.1), .long z1.2.2.2.1, .int z1.2.2.2.2.1, .int (jb z1.2.2.2.2.2.1), .int (jb z1.2.2.2.2.2.2)]))] H := hP
  have hD : va_D (fun q => q = h0) [(h0, .inr (3, [.int z1.1, .int z1.2.1, .int (jb z1.2.2.1), .long z1.2.2.2.1, .int z1.2.2.2.2.1, .int (jb z1.2.2.2.2.2.1), .int (jb z1.2.2.2.2.2.2)]))] := fw_D1 rfl
  refine W.eq (g2 := F0 m 7 ls []) rfl ?_
  refine lv_aload_n hx hb dX6_told_7 rfl (lv_at hl 0 rfl) ?_
  refine va_get (D := (dC, dI)) (ci := 3) (v := .long z1.2.2.2.1) (C := RX6) (T := TX6) (N := 7) hx hb htf hiX6 hown hK hP 0 rfl rfl 3 (by decide) (htf _ wk354) (fun _ h9 => h9) rfl dX6_told_8 ?_
  refine lv_lconst (v := 0) hx hb dX6_told_11 (by decide) ?_
  refine W.lcmp hx hb dX6_told_12 ?_
  refine fw_join (j := 35) (ι := Bool) (LS := fun i ls => lv_has ls 8 [(0, .ref h0), (1, .int p1), (2, .long p2), (4, .int p3)] ∧ i = (if (lg_cmp z1.2.2.2.1 0) = 0 then (if (jb z1.2.2.2.2.2.1) = 0 then (if (jb z1.2.2.2.2.2.2) = 0 then true else false) else false) else false)) (ST := fun i => [.int (jb i)]) ?_ (fun J3 => ?_)
  rotate_left
  · refine lv_if_ne (tgt := 34) hx hb dX6_told_13 (by decide) (fun c4 => ?_) (fun c4 => ?_)
    · refine lv_iconst (v := 0) hx hb dX6_told_34 (by decide) ?_
      exact J3 false ls ⟨lv_sub hl [0, 1, 2, 3] rfl, by simp only [if_neg c4] <;> first | assumption | contradiction⟩
    · refine lv_aload_n hx hb dX6_told_16 rfl (lv_at hl 0 rfl) ?_
      refine va_get (D := (dC, dI)) (ci := 3) (v := .int (jb z1.2.2.2.2.2.1)) (C := RX6) (T := TX6) (N := 7) hx hb htf hiX6 hown hK hP 0 rfl rfl 5 (by decide) (htf _ wk356) (fun _ h9 => h9) rfl dX6_told_17 ?_
      refine lv_if_ne (tgt := 34) hx hb dX6_told_20 (by decide) (fun c5 => ?_) (fun c5 => ?_)
      · refine lv_iconst (v := 0) hx hb dX6_told_34 (by decide) ?_
        exact J3 false ls ⟨lv_sub hl [0, 1, 2, 3] rfl, by simp only [if_pos c4, if_neg c5] <;> first | assumption | contradiction⟩
      · refine lv_aload_n hx hb dX6_told_23 rfl (lv_at hl 0 rfl) ?_
        refine va_get (D := (dC, dI)) (ci := 3) (v := .int (jb z1.2.2.2.2.2.2)) (C := RX6) (T := TX6) (N := 7) hx hb htf hiX6 hown hK hP 0 rfl rfl 6 (by decide) (htf _ wk357) (fun _ h9 => h9) rfl dX6_told_24 ?_
        refine lv_if_ne (tgt := 34) hx hb dX6_told_27 (by decide) (fun c6 => ?_) (fun c6 => ?_)
        · refine lv_iconst (v := 0) hx hb dX6_told_34 (by decide) ?_
          exact J3 false ls ⟨lv_sub hl [0, 1, 2, 3] rfl, by simp only [if_pos c4, if_pos c5, if_neg c6] <;> first | assumption | contradiction⟩
        · refine lv_iconst (v := 1) hx hb dX6_told_30 (by decide) ?_
          refine lv_goto (tgt := 35) hx hb dX6_told_31 (by decide) ?_
          exact J3 true ls ⟨lv_sub hl [0, 1, 2, 3] rfl, by simp only [if_pos c4, if_pos c5, if_pos c6] <;> first | assumption | contradiction⟩
  rintro x2 ls ⟨hl, ex2⟩
  try dsimp only at hl ex2 ⊢
  have hT : fm_X6_told h0_format h0_code h0_minus h0_m h0_power h0_infinite h0_none p1 p2 p3 = fm_X6_told_s2 h0_format h0_code h0_minus h0_m h0_power h0_infinite h0_none p1 p2 p3 z1 x2 := by rw [ex2]; exact hT
  refine lv_istore (lv' := [(5, .int (jb x2)), (0, .ref h0), (1, .int p1), (2, .long p2), (4, .int p3)]) hx hb dX6_told_35 hl (by decide) rfl (fun ls hl => ?_)
  refine lv_aload_n hx hb dX6_told_37 rfl (lv_at hl 1 rfl) ?_
  refine va_get (D := (dC, dI)) (ci := 3) (v := .int (jb z1.2.2.2.2.2.1)) (C := RX6) (T := TX6) (N := 7) hx hb htf hiX6 hown hK hP 0 rfl rfl 5 (by decide) (htf _ wk356) (fun _ h9 => h9) rfl dX6_told_38 ?_
  refine fw_join (j := 73) (ι := Bool) (LS := fun i ls => lv_has ls 8 [(5, .int (jb x2)), (0, .ref h0), (1, .int p1), (2, .long p2), (4, .int p3)] ∧ i = (if (jb z1.2.2.2.2.2.1) = 0 then (if (jb z1.2.2.2.2.2.2) = 0 then (if (lg_cmp (fc_ushr z1.2.2.2.1 ((fm_X6_significand p3) - 1)) 1) = 0 then true else false) else false) else false)) (ST := fun i => [.int (jb i)]) ?_ (fun J8 => ?_)
  rotate_left
  · refine lv_if_ne (tgt := 72) hx hb dX6_told_41 (by decide) (fun c9 => ?_) (fun c9 => ?_)
    · refine lv_iconst (v := 0) hx hb dX6_told_72 (by decide) ?_
      exact J8 false ls ⟨lv_sub hl [0, 1, 2, 3, 4] rfl, by simp only [if_neg c9] <;> first | assumption | contradiction⟩
    · refine lv_aload_n hx hb dX6_told_44 rfl (lv_at hl 1 rfl) ?_
      refine va_get (D := (dC, dI)) (ci := 3) (v := .int (jb z1.2.2.2.2.2.2)) (C := RX6) (T := TX6) (N := 7) hx hb htf hiX6 hown hK hP 0 rfl rfl 6 (by decide) (htf _ wk357) (fun _ h9 => h9) rfl dX6_told_45 ?_
      refine lv_if_ne (tgt := 72) hx hb dX6_told_48 (by decide) (fun c10 => ?_) (fun c10 => ?_)
      · refine lv_iconst (v := 0) hx hb dX6_told_72 (by decide) ?_
        exact J8 false ls ⟨lv_sub hl [0, 1, 2, 3, 4] rfl, by simp only [if_pos c9, if_neg c10] <;> first | assumption | contradiction⟩
      · refine lv_aload_n hx hb dX6_told_51 rfl (lv_at hl 1 rfl) ?_
        refine va_get (D := (dC, dI)) (ci := 3) (v := .long z1.2.2.2.1) (C := RX6) (T := TX6) (N := 7) hx hb htf hiX6 hown hK hP 0 rfl rfl 3 (by decide) (htf _ wk354) (fun _ h9 => h9) rfl dX6_told_52 ?_
        refine lv_iload hx hb dX6_told_55 (lv_at hl 4 rfl) ?_
        refine fw_call (va_runS (As := [.int p3]) (rest := [.long z1.2.2.2.1]) ⟨hx, hb, hml, hown, htf⟩ (k_X6_significand l p3) (va_cwS 1 htf (gd_S wk388 wk389 wk3 wk390) rfl rfl rfl ndX6_significand ⟨Nat.le_of_ble_eq_true rfl, Nat.le_of_ble_eq_true rfl⟩) fw_PS rfl rfl hl.1 rfl (lv_room (Nat.le_of_ble_eq_true rfl)) dX6_told_57 ⟨Nat.le_refl _, Nat.le_refl _⟩) ?_
        refine lv_iconst (v := 1) hx hb dX6_told_60 (by decide) ?_
        refine lv_isub hx hb dX6_told_61 ?_
        refine lv_lushr (v := fc_ushr z1.2.2.2.1 ((fm_X6_significand p3) - 1)) hx hb dX6_told_62 rfl ?_
        refine lv_lconst (v := 1) hx hb dX6_told_63 (by decide) ?_
        refine W.lcmp hx hb dX6_told_64 ?_
        refine lv_if_ne (tgt := 72) hx hb dX6_told_65 (by decide) (fun c11 => ?_) (fun c11 => ?_)
        · refine lv_iconst (v := 0) hx hb dX6_told_72 (by decide) ?_
          exact J8 false ls ⟨lv_sub hl [0, 1, 2, 3, 4] rfl, by simp only [if_pos c9, if_pos c10, if_neg c11] <;> first | assumption | contradiction⟩
        · refine lv_iconst (v := 1) hx hb dX6_told_68 (by decide) ?_
          refine lv_goto (tgt := 73) hx hb dX6_told_69 (by decide) ?_
          exact J8 true ls ⟨lv_sub hl [0, 1, 2, 3, 4] rfl, by simp only [if_pos c9, if_pos c10, if_pos c11] <;> first | assumption | contradiction⟩
  rintro x7 ls ⟨hl, ex7⟩
  try dsimp only at hl ex7 ⊢
  have hT : fm_X6_told h0_format h0_code h0_minus h0_m h0_power h0_infinite h0_none p1 p2 p3 = fm_X6_told_s3 h0_format h0_code h0_minus h0_m h0_power h0_infinite h0_none p1 p2 p3 z1 x2 x7 := by rw [ex7]; exact hT
  refine lv_istore (lv' := [(6, .int (jb x7)), (5, .int (jb x2)), (0, .ref h0), (1, .int p1), (2, .long p2), (4, .int p3)]) hx hb dX6_told_73 hl (by decide) rfl (fun ls hl => ?_)
  refine lv_iload_n hx hb dX6_told_75 rfl (lv_at hl 3 rfl) ?_
  refine lv_bipush (v := 59) hx hb dX6_told_76 (by decide) ?_
  refine fw_join (j := 208) (ι := Bool) (LS := fun i ls => lv_has ls 8 [(6, .int (jb x7)), (5, .int (jb x2)), (0, .ref h0), (1, .int p1), (2, .long p2), (4, .int p3)] ∧ i = (if p1 = 59 then x7 else (if p1 = 60 then (if (jb x7) = 0 then (if (jb x2) = 0 then (if (jb z1.2.2.2.2.2.1) = 0 then (if (jb z1.2.2.2.2.2.2) = 0 then true else false) else false) else false) else false) else (if p1 = 61 then x2 else (if p1 = 62 then z1.2.2.2.2.2.1 else (if p1 = 63 then z1.2.2.2.2.2.2 else (if p1 = 64 then (if (jb z1.2.2.1) = 0 then false else (if (jb z1.2.2.2.2.2.2) = 0 then true else false)) else (if (jb z1.2.2.1) = 0 then (if (jb z1.2.2.2.2.2.2) = 0 then true else false) else false)))))))) (ST := fun i => [.int (jb i)]) ?_ (fun J13 => ?_)
  rotate_left
  · refine lv_icmp_ne (tgt := 86) hx hb dX6_told_78 (by decide) (fun c14 => ?_) (fun c14 => ?_)
    · refine lv_iload_n hx hb dX6_told_86 rfl (lv_at hl 3 rfl) ?_
      refine lv_bipush (v := 60) hx hb dX6_told_87 (by decide) ?_
      refine lv_icmp_ne (tgt := 124) hx hb dX6_told_89 (by decide) (fun c15 => ?_) (fun c15 => ?_)
      · refine lv_iload_n hx hb dX6_told_124 rfl (lv_at hl 3 rfl) ?_
        refine lv_bipush (v := 61) hx hb dX6_told_125 (by decide) ?_
        refine lv_icmp_ne (tgt := 135) hx hb dX6_told_127 (by decide) (fun c16 => ?_) (fun c16 => ?_)
        · refine lv_iload_n hx hb dX6_told_135 rfl (lv_at hl 3 rfl) ?_
          refine lv_bipush (v := 62) hx hb dX6_told_136 (by decide) ?_
          refine lv_icmp_ne (tgt := 148) hx hb dX6_told_138 (by decide) (fun c17 => ?_) (fun c17 => ?_)
          · refine lv_iload_n hx hb dX6_told_148 rfl (lv_at hl 3 rfl) ?_
            refine lv_bipush (v := 63) hx hb dX6_told_149 (by decide) ?_
            refine lv_icmp_ne (tgt := 161) hx hb dX6_told_151 (by decide) (fun c18 => ?_) (fun c18 => ?_)
            · refine lv_iload_n hx hb dX6_told_161 rfl (lv_at hl 3 rfl) ?_
              refine lv_bipush (v := 64) hx hb dX6_told_162 (by decide) ?_
              refine lv_icmp_ne (tgt := 189) hx hb dX6_told_164 (by decide) (fun c19 => ?_) (fun c19 => ?_)
              · refine lv_aload_n hx hb dX6_told_189 rfl (lv_at hl 2 rfl) ?_
                refine va_get (D := (dC, dI)) (ci := 3) (v := .int (jb z1.2.2.1)) (C := RX6) (T := TX6) (N := 7) hx hb htf hiX6 hown hK hP 0 rfl rfl 2 (by decide) (htf _ wk353) (fun _ h9 => h9) rfl dX6_told_190 ?_
                refine lv_if_ne (tgt := 207) hx hb dX6_told_193 (by decide) (fun c20 => ?_) (fun c20 => ?_)
                · refine lv_iconst (v := 0) hx hb dX6_told_207 (by decide) ?_
                  exact J13 false ls ⟨lv_sub hl [0, 1, 2, 3, 4, 5] rfl, by simp only [if_neg c14, if_neg c15, if_neg c16, if_neg c17, if_neg c18, if_neg c19, if_neg c20] <;> first | assumption | contradiction⟩
                · refine lv_aload_n hx hb dX6_told_196 rfl (lv_at hl 2 rfl) ?_
                  refine va_get (D := (dC, dI)) (ci := 3) (v := .int (jb z1.2.2.2.2.2.2)) (C := RX6) (T := TX6) (N := 7) hx hb htf hiX6 hown hK hP 0 rfl rfl 6 (by decide) (htf _ wk357) (fun _ h9 => h9) rfl dX6_told_197 ?_
                  refine lv_if_ne (tgt := 207) hx hb dX6_told_200 (by decide) (fun c21 => ?_) (fun c21 => ?_)
                  · refine lv_iconst (v := 0) hx hb dX6_told_207 (by decide) ?_
                    exact J13 false ls ⟨lv_sub hl [0, 1, 2, 3, 4, 5] rfl, by simp only [if_neg c14, if_neg c15, if_neg c16, if_neg c17, if_neg c18, if_neg c19, if_pos c20, if_neg c21] <;> first | assumption | contradiction⟩
                  · refine lv_iconst (v := 1) hx hb dX6_told_203 (by decide) ?_
                    refine lv_goto (tgt := 208) hx hb dX6_told_204 (by decide) ?_
                    exact J13 true ls ⟨lv_sub hl [0, 1, 2, 3, 4, 5] rfl, by simp only [if_neg c14, if_neg c15, if_neg c16, if_neg c17, if_neg c18, if_neg c19, if_pos c20, if_pos c21] <;> first | assumption | contradiction⟩
              · refine lv_aload_n hx hb dX6_told_167 rfl (lv_at hl 2 rfl) ?_
                refine va_get (D := (dC, dI)) (ci := 3) (v := .int (jb z1.2.2.1)) (C := RX6) (T := TX6) (N := 7) hx hb htf hiX6 hown hK hP 0 rfl rfl 2 (by decide) (htf _ wk353) (fun _ h9 => h9) rfl dX6_told_168 ?_
                refine lv_if_eq (tgt := 185) hx hb dX6_told_171 (by decide) (fun c22 => ?_) (fun c22 => ?_)
                · refine lv_iconst (v := 0) hx hb dX6_told_185 (by decide) ?_
                  refine lv_goto (tgt := 208) hx hb dX6_told_186 (by decide) ?_
                  exact J13 false ls ⟨lv_sub hl [0, 1, 2, 3, 4, 5] rfl, by simp only [if_neg c14, if_neg c15, if_neg c16, if_neg c17, if_neg c18, if_pos c19, if_pos c22] <;> first | assumption | contradiction⟩
                · refine lv_aload_n hx hb dX6_told_174 rfl (lv_at hl 2 rfl) ?_
                  refine va_get (D := (dC, dI)) (ci := 3) (v := .int (jb z1.2.2.2.2.2.2)) (C := RX6) (T := TX6) (N := 7) hx hb htf hiX6 hown hK hP 0 rfl rfl 6 (by decide) (htf _ wk357) (fun _ h9 => h9) rfl dX6_told_175 ?_
                  refine lv_if_ne (tgt := 185) hx hb dX6_told_178 (by decide) (fun c23 => ?_) (fun c23 => ?_)
                  · refine lv_iconst (v := 0) hx hb dX6_told_185 (by decide) ?_
                    refine lv_goto (tgt := 208) hx hb dX6_told_186 (by decide) ?_
                    exact J13 false ls ⟨lv_sub hl [0, 1, 2, 3, 4, 5] rfl, by simp only [if_neg c14, if_neg c15, if_neg c16, if_neg c17, if_neg c18, if_pos c19, if_neg c22, if_neg c23] <;> first | assumption | contradiction⟩
                  · refine lv_iconst (v := 1) hx hb dX6_told_181 (by decide) ?_
                    refine lv_goto (tgt := 208) hx hb dX6_told_182 (by decide) ?_
                    exact J13 true ls ⟨lv_sub hl [0, 1, 2, 3, 4, 5] rfl, by simp only [if_neg c14, if_neg c15, if_neg c16, if_neg c17, if_neg c18, if_pos c19, if_neg c22, if_pos c23] <;> first | assumption | contradiction⟩
            · refine lv_aload_n hx hb dX6_told_154 rfl (lv_at hl 2 rfl) ?_
              refine va_get (D := (dC, dI)) (ci := 3) (v := .int (jb z1.2.2.2.2.2.2)) (C := RX6) (T := TX6) (N := 7) hx hb htf hiX6 hown hK hP 0 rfl rfl 6 (by decide) (htf _ wk357) (fun _ h9 => h9) rfl dX6_told_155 ?_
              refine lv_goto (tgt := 208) hx hb dX6_told_158 (by decide) ?_
              exact J13 z1.2.2.2.2.2.2 ls ⟨lv_sub hl [0, 1, 2, 3, 4, 5] rfl, by simp only [if_neg c14, if_neg c15, if_neg c16, if_neg c17, if_pos c18] <;> first | assumption | contradiction⟩
          · refine lv_aload_n hx hb dX6_told_141 rfl (lv_at hl 2 rfl) ?_
            refine va_get (D := (dC, dI)) (ci := 3) (v := .int (jb z1.2.2.2.2.2.1)) (C := RX6) (T := TX6) (N := 7) hx hb htf hiX6 hown hK hP 0 rfl rfl 5 (by decide) (htf _ wk356) (fun _ h9 => h9) rfl dX6_told_142 ?_
            refine lv_goto (tgt := 208) hx hb dX6_told_145 (by decide) ?_
            exact J13 z1.2.2.2.2.2.1 ls ⟨lv_sub hl [0, 1, 2, 3, 4, 5] rfl, by simp only [if_neg c14, if_neg c15, if_neg c16, if_pos c17] <;> first | assumption | contradiction⟩
        · refine lv_iload hx hb dX6_told_130 (lv_at hl 1 rfl) ?_
          refine lv_goto (tgt := 208) hx hb dX6_told_132 (by decide) ?_
          exact J13 x2 ls ⟨lv_sub hl [0, 1, 2, 3, 4, 5] rfl, by simp only [if_neg c14, if_neg c15, if_pos c16] <;> first | assumption | contradiction⟩
      · refine lv_iload hx hb dX6_told_92 (lv_at hl 0 rfl) ?_
        refine lv_if_ne (tgt := 120) hx hb dX6_told_94 (by decide) (fun c24 => ?_) (fun c24 => ?_)
        · refine lv_iconst (v := 0) hx hb dX6_told_120 (by decide) ?_
          refine lv_goto (tgt := 208) hx hb dX6_told_121 (by decide) ?_
          exact J13 false ls ⟨lv_sub hl [0, 1, 2, 3, 4, 5] rfl, by simp only [if_neg c14, if_pos c15, if_neg c24] <;> first | assumption | contradiction⟩
        · refine lv_iload hx hb dX6_told_97 (lv_at hl 1 rfl) ?_
          refine lv_if_ne (tgt := 120) hx hb dX6_told_99 (by decide) (fun c25 => ?_) (fun c25 => ?_)
          · refine lv_iconst (v := 0) hx hb dX6_told_120 (by decide) ?_
            refine lv_goto (tgt := 208) hx hb dX6_told_121 (by decide) ?_
            exact J13 false ls ⟨lv_sub hl [0, 1, 2, 3, 4, 5] rfl, by simp only [if_neg c14, if_pos c15, if_pos c24, if_neg c25] <;> first | assumption | contradiction⟩
          · refine lv_aload_n hx hb dX6_told_102 rfl (lv_at hl 2 rfl) ?_
            refine va_get (D := (dC, dI)) (ci := 3) (v := .int (jb z1.2.2.2.2.2.1)) (C := RX6) (T := TX6) (N := 7) hx hb htf hiX6 hown hK hP 0 rfl rfl 5 (by decide) (htf _ wk356) (fun _ h9 => h9) rfl dX6_told_103 ?_
            refine lv_if_ne (tgt := 120) hx hb dX6_told_106 (by decide) (fun c26 => ?_) (fun c26 => ?_)
            · refine lv_iconst (v := 0) hx hb dX6_told_120 (by decide) ?_
              refine lv_goto (tgt := 208) hx hb dX6_told_121 (by decide) ?_
              exact J13 false ls ⟨lv_sub hl [0, 1, 2, 3, 4, 5] rfl, by simp only [if_neg c14, if_pos c15, if_pos c24, if_pos c25, if_neg c26] <;> first | assumption | contradiction⟩
            · refine lv_aload_n hx hb dX6_told_109 rfl (lv_at hl 2 rfl) ?_
              refine va_get (D := (dC, dI)) (ci := 3) (v := .int (jb z1.2.2.2.2.2.2)) (C := RX6) (T := TX6) (N := 7) hx hb htf hiX6 hown hK hP 0 rfl rfl 6 (by decide) (htf _ wk357) (fun _ h9 => h9) rfl dX6_told_110 ?_
              refine lv_if_ne (tgt := 120) hx hb dX6_told_113 (by decide) (fun c27 => ?_) (fun c27 => ?_)
              · refine lv_iconst (v := 0) hx hb dX6_told_120 (by decide) ?_
                refine lv_goto (tgt := 208) hx hb dX6_told_121 (by decide) ?_
                exact J13 false ls ⟨lv_sub hl [0, 1, 2, 3, 4, 5] rfl, by simp only [if_neg c14, if_pos c15, if_pos c24, if_pos c25, if_pos c26, if_neg c27] <;> first | assumption | contradiction⟩
              · refine lv_iconst (v := 1) hx hb dX6_told_116 (by decide) ?_
                refine lv_goto (tgt := 208) hx hb dX6_told_117 (by decide) ?_
                exact J13 true ls ⟨lv_sub hl [0, 1, 2, 3, 4, 5] rfl, by simp only [if_neg c14, if_pos c15, if_pos c24, if_pos c25, if_pos c26, if_pos c27] <;> first | assumption | contradiction⟩
    · refine lv_iload hx hb dX6_told_81 (lv_at hl 0 rfl) ?_
      refine lv_goto (tgt := 208) hx hb dX6_told_83 (by decide) ?_
      exact J13 x7 ls ⟨lv_sub hl [0, 1, 2, 3, 4, 5] rfl, by simp only [if_pos c14] <;> first | assumption | contradiction⟩
  rintro x12 ls ⟨hl, ex12⟩
  try dsimp only at hl ex12 ⊢
  have hT : fm_X6_told h0_format h0_code h0_minus h0_m h0_power h0_infinite h0_none p1 p2 p3 = fm_X6_told_s4 h0_format h0_code h0_minus h0_m h0_power h0_infinite h0_none p1 p2 p3 z1 x2 x7 x12 := by rw [ex12]; exact hT
  refine lv_istore (lv' := [(7, .int (jb x12)), (6, .int (jb x7)), (5, .int (jb x2)), (0, .ref h0), (1, .int p1), (2, .long p2), (4, .int p3)]) hx hb dX6_told_208 hl (by decide) rfl (fun ls hl => ?_)
  refine lv_iload hx hb dX6_told_210 (lv_at hl 0 rfl) ?_
  refine lv_if_eq (tgt := 219) hx hb dX6_told_212 (by decide) (fun c28 => ?_) (fun c28 => ?_)
  · have hT : fm_X6_told h0_format h0_code h0_minus h0_m h0_power h0_infinite h0_none p1 p2 p3 = fm_X6_told_s5 h0_format h0_code h0_minus h0_m h0_power h0_infinite h0_none p1 p2 p3 z1 x2 x7 x12 := hT.trans (if_pos c28)
    refine lv_lconst (v := 0) hx hb dX6_told_219 (by decide) ?_
    have hEQ : fm_X6_told h0_format h0_code h0_minus h0_m h0_power h0_infinite h0_none p1 p2 p3 = (0, z1.1, z1.2.1, z1.2.2.1, z1.2.2.2.1, z1.2.2.2.2.1, z1.2.2.2.2.2.1, z1.2.2.2.2.2.2) := hT
    exact W.lret (v := 0) hx hb hr (fun t ht hW => ⟨by simp only [hEQ], by rw [ht]; simp only [hEQ, fw_sl]; exact hP, hS.F ht⟩) hS.2.2 dX6_told_220
  · have hT : fm_X6_told h0_format h0_code h0_minus h0_m h0_power h0_infinite h0_none p1 p2 p3 = fm_X6_told_s6 h0_format h0_code h0_minus h0_m h0_power h0_infinite h0_none p1 p2 p3 z1 x2 x7 x12 := hT.trans (if_neg c28)
    refine lv_lconst (v := 1) hx hb dX6_told_215 (by decide) ?_
    refine lv_goto (tgt := 220) hx hb dX6_told_216 (by decide) ?_
    have hEQ : fm_X6_told h0_format h0_code h0_minus h0_m h0_power h0_infinite h0_none p1 p2 p3 = (1, z1.1, z1.2.1, z1.2.2.1, z1.2.2.2.1, z1.2.2.2.2.1, z1.2.2.2.2.2.1, z1.2.2.2.2.2.2) := hT
    exact W.lret (v := 1) hx hb hr (fun t ht hW => ⟨by simp only [hEQ], by rw [ht]; simp only [hEQ, fw_sl]; exact hP, hS.F ht⟩) hS.2.2 dX6_told_220
