theorem ndX6_squareRoot : yX6_squareRoot.cls = RX6 ∧ yX6_squareRoot.cls ≠ "java/lang/invoke/MethodHandle" ∧ yX6_squareRoot.cls ≠ "java/lang/invoke/VarHandle" ∧ (parseMethodDescriptor yX6_squareRoot.desc).map (fun d => d.parameters.length) = some 3 := by decide +kernel
def fm_X6_squareRoot_s3 (h0_format : Int32) (h0_code : Int32) (h0_minus : Bool) (h0_m : Int64) (h0_power : Int32) (h0_infinite : Bool) (h0_none : Bool) (p1 : Int32) (p2 : Int64) (p3 : Int32) (z1 : fw_S7) : Int64 × fw_S7 := (fm_X6_nan (fm_X6_exponent p3) (fm_X6_significand p3), z1.1, z1.2.1, z1.2.2.1, z1.2.2.2.1, z1.2.2.2.2.1, z1.2.2.2.2.2.1, z1.2.2.2.2.2.2)
def fm_X6_squareRoot_s9 (h0_format : Int32) (h0_code : Int32) (h0_minus : Bool) (h0_m : Int64) (h0_power : Int32) (h0_infinite : Bool) (h0_none : Bool) (p1 : Int32) (p2 : Int64) (p3 : Int32) (z1 : fw_S7) : Int64 × fw_S7 := (fm_X6_nan (fm_X6_exponent p3) (fm_X6_significand p3), z1.1, z1.2.1, z1.2.2.1, z1.2.2.2.1, z1.2.2.2.2.1, z1.2.2.2.2.2.1, z1.2.2.2.2.2.2)
def fm_X6_squareRoot_s11 (h0_format : Int32) (h0_code : Int32) (h0_minus : Bool) (h0_m : Int64) (h0_power : Int32) (h0_infinite : Bool) (h0_none : Bool) (p1 : Int32) (p2 : Int64) (p3 : Int32) (z1 : fw_S7) : Int64 × fw_S7 := (p2, z1.1, z1.2.1, z1.2.2.1, z1.2.2.2.1, z1.2.2.2.2.1, z1.2.2.2.2.2.1, z1.2.2.2.2.2.2)
def fm_X6_squareRoot_s16 (h0_format : Int32) (h0_code : Int32) (h0_minus : Bool) (h0_m : Int64) (h0_power : Int32) (h0_infinite : Bool) (h0_none : Bool) (p1 : Int32) (p2 : Int64) (p3 : Int32) (z1 : fw_S7) (x9 : Int32) (x10 : Int64) (x11 : Int64) (x12 : Int32) (r : Int64) (x17 : Bool) : Int64 × fw_S7 := (fm_X6_round p1 false r (x12 / 2) x17 p3, z1.1, z1.2.1, z1.2.2.1, z1.2.2.2.1, z1.2.2.2.2.1, z1.2.2.2.2.2.1, z1.2.2.2.2.2.2)
def fm_X6_squareRoot_s15 (h0_format : Int32) (h0_code : Int32) (h0_minus : Bool) (h0_m : Int64) (h0_power : Int32) (h0_infinite : Bool) (h0_none : Bool) (p1 : Int32) (p2 : Int64) (p3 : Int32) (z1 : fw_S7) (x9 : Int32) (x10 : Int64) (x11 : Int64) (x12 : Int32) (r : Int64) : Int64 × fw_S7 := fm_X6_squareRoot_s16 h0_format h0_code h0_minus h0_m h0_power h0_infinite h0_none p1 p2 p3 z1 x9 x10 x11 x12 r (if (lg_cmp (r * r) x11) = 0 then false else true)
def fm_X6_squareRoot_s14 (h0_format : Int32) (h0_code : Int32) (h0_minus : Bool) (h0_m : Int64) (h0_power : Int32) (h0_infinite : Bool) (h0_none : Bool) (p1 : Int32) (p2 : Int64) (p3 : Int32) (z1 : fw_S7) (x9 : Int32) (x10 : Int64) (x11 : Int64) (x12 : Int32) : Int64 × fw_S7 := fm_X6_squareRoot_s15 h0_format h0_code h0_minus h0_m h0_power h0_infinite h0_none p1 p2 p3 z1 x9 x10 x11 x12 (fr_it x11 31 0)
def fm_X6_squareRoot_s13 (h0_format : Int32) (h0_code : Int32) (h0_minus : Bool) (h0_m : Int64) (h0_power : Int32) (h0_infinite : Bool) (h0_none : Bool) (p1 : Int32) (p2 : Int64) (p3 : Int32) (z1 : fw_S7) (x9 : Int32) (x10 : Int64) : Int64 × fw_S7 := fm_X6_squareRoot_s14 h0_format h0_code h0_minus h0_m h0_power h0_infinite h0_none p1 p2 p3 z1 x9 x10 (if (x9 &&& 1) = 0 then x10 else fc_shl x10 1) (if (x9 &&& 1) = 0 then x9 else x9 + (-1))
def fm_X6_squareRoot_s12 (h0_format : Int32) (h0_code : Int32) (h0_minus : Bool) (h0_m : Int64) (h0_power : Int32) (h0_infinite : Bool) (h0_none : Bool) (p1 : Int32) (p2 : Int64) (p3 : Int32) (z1 : fw_S7) (x9 : Int32) : Int64 × fw_S7 := fm_X6_squareRoot_s13 h0_format h0_code h0_minus h0_m h0_power h0_infinite h0_none p1 p2 p3 z1 x9 (fc_shl z1.2.2.2.1 40)
def fm_X6_squareRoot_s10 (h0_format : Int32) (h0_code : Int32) (h0_minus : Bool) (h0_m : Int64) (h0_power : Int32) (h0_infinite : Bool) (h0_none : Bool) (p1 : Int32) (p2 : Int64) (p3 : Int32) (z1 : fw_S7) : Int64 × fw_S7 := fm_X6_squareRoot_s12 h0_format h0_code h0_minus h0_m h0_power h0_infinite h0_none p1 p2 p3 z1 (z1.2.2.2.2.1 - 40)
def fm_X6_squareRoot_s8 (h0_format : Int32) (h0_code : Int32) (h0_minus : Bool) (h0_m : Int64) (h0_power : Int32) (h0_infinite : Bool) (h0_none : Bool) (p1 : Int32) (p2 : Int64) (p3 : Int32) (z1 : fw_S7) : Int64 × fw_S7 := if (jb z1.2.2.2.2.2.1) = 0 then fm_X6_squareRoot_s10 h0_format h0_code h0_minus h0_m h0_power h0_infinite h0_none p1 p2 p3 z1 else fm_X6_squareRoot_s11 h0_format h0_code h0_minus h0_m h0_power h0_infinite h0_none p1 p2 p3 z1
def fm_X6_squareRoot_46 (h0_format : Int32) (h0_code : Int32) (h0_minus : Bool) (h0_m : Int64) (h0_power : Int32) (h0_infinite : Bool) (h0_none : Bool) (p1 : Int32) (p2 : Int64) (p3 : Int32) (z1 : fw_S7) : Int64 × fw_S7 := if (jb z1.2.2.1) = 0 then fm_X6_squareRoot_s8 h0_format h0_code h0_minus h0_m h0_power h0_infinite h0_none p1 p2 p3 z1 else fm_X6_squareRoot_s9 h0_format h0_code h0_minus h0_m h0_power h0_infinite h0_none p1 p2 p3 z1
def fm_X6_squareRoot_s6 (h0_format : Int32) (h0_code : Int32) (h0_minus : Bool) (h0_m : Int64) (h0_power : Int32) (h0_infinite : Bool) (h0_none : Bool) (p1 : Int32) (p2 : Int64) (p3 : Int32) (z1 : fw_S7) : Int64 × fw_S7 := (p2, z1.1, z1.2.1, z1.2.2.1, z1.2.2.2.1, z1.2.2.2.2.1, z1.2.2.2.2.2.1, z1.2.2.2.2.2.2)
def fm_X6_squareRoot_s7 (h0_format : Int32) (h0_code : Int32) (h0_minus : Bool) (h0_m : Int64) (h0_power : Int32) (h0_infinite : Bool) (h0_none : Bool) (p1 : Int32) (p2 : Int64) (p3 : Int32) (z1 : fw_S7) : Int64 × fw_S7 := fm_X6_squareRoot_46 h0_format h0_code h0_minus h0_m h0_power h0_infinite h0_none p1 p2 p3 z1
def fm_X6_squareRoot_s4 (h0_format : Int32) (h0_code : Int32) (h0_minus : Bool) (h0_m : Int64) (h0_power : Int32) (h0_infinite : Bool) (h0_none : Bool) (p1 : Int32) (p2 : Int64) (p3 : Int32) (z1 : fw_S7) : Int64 × fw_S7 := if (lg_cmp z1.2.2.2.1 0) = 0 then fm_X6_squareRoot_s6 h0_format h0_code h0_minus h0_m h0_power h0_infinite h0_none p1 p2 p3 z1 else fm_X6_squareRoot_s7 h0_format h0_code h0_minus h0_m h0_power h0_infinite h0_none p1 p2 p3 z1
def fm_X6_squareRoot_s5 (h0_format : Int32) (h0_code : Int32) (h0_minus : Bool) (h0_m : Int64) (h0_power : Int32) (h0_infinite : Bool) (h0_none : Bool) (p1 : Int32) (p2 : Int64) (p3 : Int32) (z1 : fw_S7) : Int64 × fw_S7 := fm_X6_squareRoot_46 h0_format h0_code h0_minus h0_m h0_power h0_infinite h0_none p1 p2 p3 z1
def fm_X6_squareRoot_s2 (h0_format : Int32) (h0_code : Int32) (h0_minus : Bool) (h0_m : Int64) (h0_power : Int32) (h0_infinite : Bool) (h0_none : Bool) (p1 : Int32) (p2 : Int64) (p3 : Int32) (z1 : fw_S7) : Int64 × fw_S7 := if (jb z1.2.2.2.2.2.1) = 0 then fm_X6_squareRoot_s4 h0_format h0_code h0_minus h0_m h0_power h0_infinite h0_none p1 p2 p3 z1 else fm_X6_squareRoot_s5 h0_format h0_code h0_minus h0_m h0_power h0_infinite h0_none p1 p2 p3 z1
def fm_X6_squareRoot_s1 (h0_format : Int32) (h0_code : Int32) (h0_minus : Bool) (h0_m : Int64) (h0_power : Int32) (h0_infinite : Bool) (h0_none : Bool) (p1 : Int32) (p2 : Int64) (p3 : Int32) (z1 : fw_S7) : Int64 × fw_S7 := if (jb z1.2.2.2.2.2.2) = 0 then fm_X6_squareRoot_s2 h0_format h0_code h0_minus h0_m h0_power h0_infinite h0_none p1 p2 p3 z1 else fm_X6_squareRoot_s3 h0_format h0_code h0_minus h0_m h0_power h0_infinite h0_none p1 p2 p3 z1
def fm_X6_squareRoot (h0_format : Int32) (h0_code : Int32) (h0_minus : Bool) (h0_m : Int64) (h0_power : Int32) (h0_infinite : Bool) (h0_none : Bool) (p1 : Int32) (p2 : Int64) (p3 : Int32) : Int64 × fw_S7 := fm_X6_squareRoot_s1 h0_format h0_code h0_minus h0_m h0_power h0_infinite h0_none p1 p2 p3 (fm_X6_take h0_format h0_code h0_minus h0_m h0_power h0_infinite h0_none p2 p3)
-- SIMP X6_squareRoot: fm_X6_squareRoot, fm_X6_squareRoot_s1, fm_X6_squareRoot_s2, fm_X6_squareRoot_s5, fm_X6_squareRoot_s4, fm_X6_squareRoot_s7, fm_X6_squareRoot_s6, fm_X6_squareRoot_46, fm_X6_squareRoot_s8, fm_X6_squareRoot_s10, fm_X6_squareRoot_s12, fm_X6_squareRoot_s13, fm_X6_squareRoot_s14, fm_X6_squareRoot_s15, fm_X6_squareRoot_s16, fm_X6_squareRoot_s11, fm_X6_squareRoot_s9, fm_X6_squareRoot_s3
set_option maxHeartbeats 4000000 in
set_option maxRecDepth 100000 in
theorem k_X6_squareRoot (l : Launch) (dC : Nat → ClassId) (dI : Nat → Nat → Nat) (h0 : Nat) (h0_format : Int32) (h0_code : Int32) (h0_minus : Bool) (h0_m : Int64) (h0_power : Int32) (h0_infinite : Bool) (h0_none : Bool) (p1 : Int32) (p2 : Int64) (p3 : Int32) : Met l yX6_squareRoot wsX6_squareRoot { frames := 3, cells := 0, slots := 0, locals := 92 } (fw_R (dC, dI) vwCl [(h0, .inr (3, [.int h0_format, .int h0_code, .int (jb h0_minus), .long h0_m, .int h0_power, .int (jb h0_infinite), .int (jb h0_none)]))] [.ref h0, .int p1, .long p2, .int p3]) (fw_M (dC, dI) vwCl h0 3 (fw_sl (fm_X6_squareRoot h0_format h0_code h0_minus h0_m h0_power h0_infinite h0_none p1 p2 p3).2) (some (.long ((fm_X6_squareRoot h0_format h0_code h0_minus h0_m h0_power h0_infinite h0_none p1 p2 p3).1)))) 0 0 (fun q => q = h0) := by
  refine Met.ofW (cc := cX6_squareRoot) (maxL := 12) (ret := (some .long)) (by decide) rfl ?_
  intro p e s m args below meth c s₁ B hml hv
  obtain ⟨rfl, hP, hK⟩ := hv
  have hx := B.exec
  have hb := B.bytes
  have hr := B.returns
  have hts := atoms_spec (ws := wsX6_squareRoot) B.pre
  have htf : ∀ w ∈ fc_all, w.before _ s = true := fun w h => hts w (List.mem_cons_of_mem _ h)
  have hown : s.vm.findClass RX6 = some m.cls := findClass_of_methodNamed B.named
  have hlocks := B.notSynchronized
  have hP : va_P (dC, dI) vwCl [(h0, .inr (3, [.int h0_format, .int h0_code, .int (jb h0_minus), .long h0_m, .int h0_power, .int (jb h0_infinite), .int (jb h0_none)]))] s.heap := hP
  have hD : va_D (fun q => q = h0) [(h0, .inr (3, [.int h0_format, .int h0_code, .int (jb h0_minus), .long h0_m, .int h0_power, .int (jb h0_infinite), .int (jb h0_none)]))] := fw_D1 rfl
  have hS : va_S (fun q => q = h0) s.heap s.heap [] := va_S.rf
  have hl := lv_entry ([.ref h0, .int p1, .long p2, .int p3]) (n := 12) (Nat.le_of_ble_eq_true rfl)
  rw [lg_entry_eq]
  generalize (lg_sl ([.ref h0, .int p1, .long p2, .int p3]) ++ List.replicate (12 - (lg_sl ([.ref h0, .int p1, .long p2, .int p3])).length) Slot.unset).toArray = ls at hl ⊢
  have hl : lv_has ls 12 [(0, .ref h0), (1, .int p1), (2, .long p2), (4, .int p3)] := hl
  have hT : fm_X6_squareRoot h0_format h0_code h0_minus h0_m h0_power h0_infinite h0_none p1 p2 p3 = fm_X6_squareRoot h0_format h0_code h0_minus h0_m h0_power h0_infinite h0_none p1 p2 p3 := rfl
  refine lv_aload_n hx hb dX6_squareRoot_0 rfl (lv_at hl 0 rfl) ?_
  refine lv_lload_n hx hb dX6_squareRoot_1 rfl (lv_at hl 2 rfl) ?_
  refine lv_iload hx hb dX6_squareRoot_2 (lv_at hl 3 rfl) ?_
  refine fw_callM (va_runV (As := [.long p2, .int p3]) (rest := []) ⟨hx, hb, hml, hown, htf⟩ (k_X6_take l dC dI h0 h0_format h0_code h0_minus h0_m h0_power h0_infinite h0_none p2 p3) (cwV 2 htf (gd_V wk400 wk401 ws9 wk3 wk402) rfl rfl rfl ndX6_take ⟨Nat.le_of_ble_eq_true rfl, Nat.le_of_ble_eq_true rfl⟩) (fw_RV (va_recv hK hP (ci := 3) (q0 := 0) rfl rfl) hP hK) rfl rfl hl.1 rfl (lv_room (Nat.le_of_ble_eq_true rfl)) dX6_squareRoot_4 ⟨Nat.le_refl _, Nat.le_refl _⟩) hS rfl (fun H locs hP _ _ hS => ?_)
  have hT : fm_X6_squareRoot h0_format h0_code h0_minus h0_m h0_power h0_infinite h0_none p1 p2 p3 = fm_X6_squareRoot_s1 h0_format h0_code h0_minus h0_m h0_power h0_infinite h0_none p1 p2 p3 (fm_X6_take h0_format h0_code h0_minus h0_m h0_power h0_infinite h0_none p2 p3) := hT
  generalize ez1 : fm_X6_take h0_format h0_code h0_minus h0_m h0_power h0_infinite h0_none p2 p3 = z1 at hP hT ⊢
  have hP : va_P (dC, dI) vwCl [(h0, .inr (3, [.int z1.1, .int z1.2.1, .int (jb z1.2.2.1), .long z1.2.2.2.1, .int z1.2.2.2.2.1, .int (jb z1.2.2.2.2.2.1), .int (jb z1.2.2.2.2.2.2)]))] H := hP
  have hD : va_D (fun q => q = h0) [(h0, .inr (3, [.int z1.1, .int z1.2.1, .int (jb z1.2.2.1), .long z1.2.2.2.1, .int z1.2.2.2.2.1, .int (jb z1.2.2.2.2.2.1), .int (jb z1.2.2.2.2.2.2)]))] := fw_D1 rfl
  refine W.eq (g2 := F0 m 7 ls []) rfl ?_
  refine lv_aload_n hx hb dX6_squareRoot_7 rfl (lv_at hl 0 rfl) ?_
  refine va_get (D := (dC, dI)) (ci := 3) (v := .int (jb z1.2.2.2.2.2.2)) (C := RX6) (T := TX6) (N := 7) hx hb htf hiX6 hown hK hP 0 rfl rfl 6 (by decide) (htf _ wk357) (fun _ h9 => h9) rfl dX6_squareRoot_8 ?_
  refine lv_if_eq (tgt := 28) hx hb dX6_squareRoot_11 (by decide) (fun c2 => ?_) (fun c2 => ?_)
  · have hT : fm_X6_squareRoot h0_format h0_code h0_minus h0_m h0_power h0_infinite h0_none p1 p2 p3 = fm_X6_squareRoot_s2 h0_format h0_code h0_minus h0_m h0_power h0_infinite h0_none p1 p2 p3 z1 := hT.trans (if_pos c2)
    refine lv_aload_n hx hb dX6_squareRoot_28 rfl (lv_at hl 0 rfl) ?_
    refine va_get (D := (dC, dI)) (ci := 3) (v := .int (jb z1.2.2.2.2.2.1)) (C := RX6) (T := TX6) (N := 7) hx hb htf hiX6 hown hK hP 0 rfl rfl 5 (by decide) (htf _ wk356) (fun _ h9 => h9) rfl dX6_squareRoot_29 ?_
    refine fw_join (j := 46) (ι := Unit) (LS := fun _ ls => lv_has ls 12 [(0, .ref h0), (1, .int p1), (2, .long p2), (4, .int p3)] ∧ fm_X6_squareRoot h0_format h0_code h0_minus h0_m h0_power h0_infinite h0_none p1 p2 p3 = fm_X6_squareRoot_46 h0_format h0_code h0_minus h0_m h0_power h0_infinite h0_none p1 p2 p3 z1) (ST := fun _ => []) ?_ (fun J4 => ?_)
    rotate_left
    · refine lv_if_ne (tgt := 46) hx hb dX6_squareRoot_32 (by decide) (fun c5 => ?_) (fun c5 => ?_)
      · have hT : fm_X6_squareRoot h0_format h0_code h0_minus h0_m h0_power h0_infinite h0_none p1 p2 p3 = fm_X6_squareRoot_s5 h0_format h0_code h0_minus h0_m h0_power h0_infinite h0_none p1 p2 p3 z1 := hT.trans (if_neg c5)
        exact J4 () ls ⟨lv_sub hl [0, 1, 2, 3] rfl, hT⟩
      · have hT : fm_X6_squareRoot h0_format h0_code h0_minus h0_m h0_power h0_infinite h0_none p1 p2 p3 = fm_X6_squareRoot_s4 h0_format h0_code h0_minus h0_m h0_power h0_infinite h0_none p1 p2 p3 z1 := hT.trans (if_pos c5)
        refine lv_aload_n hx hb dX6_squareRoot_35 rfl (lv_at hl 0 rfl) ?_
        refine va_get (D := (dC, dI)) (ci := 3) (v := .long z1.2.2.2.1) (C := RX6) (T := TX6) (N := 7) hx hb htf hiX6 hown hK hP 0 rfl rfl 3 (by decide) (htf _ wk354) (fun _ h9 => h9) rfl dX6_squareRoot_36 ?_
        refine lv_lconst (v := 0) hx hb dX6_squareRoot_39 (by decide) ?_
        refine W.lcmp hx hb dX6_squareRoot_40 ?_
        refine lv_if_ne (tgt := 46) hx hb dX6_squareRoot_41 (by decide) (fun c6 => ?_) (fun c6 => ?_)
        · have hT : fm_X6_squareRoot h0_format h0_code h0_minus h0_m h0_power h0_infinite h0_none p1 p2 p3 = fm_X6_squareRoot_s7 h0_format h0_code h0_minus h0_m h0_power h0_infinite h0_none p1 p2 p3 z1 := hT.trans (if_neg c6)
          exact J4 () ls ⟨lv_sub hl [0, 1, 2, 3] rfl, hT⟩
        · have hT : fm_X6_squareRoot h0_format h0_code h0_minus h0_m h0_power h0_infinite h0_none p1 p2 p3 = fm_X6_squareRoot_s6 h0_format h0_code h0_minus h0_m h0_power h0_infinite h0_none p1 p2 p3 z1 := hT.trans (if_pos c6)
          refine lv_lload_n hx hb dX6_squareRoot_44 rfl (lv_at hl 2 rfl) ?_
          have hEQ : fm_X6_squareRoot h0_format h0_code h0_minus h0_m h0_power h0_infinite h0_none p1 p2 p3 = (p2, z1.1, z1.2.1, z1.2.2.1, z1.2.2.2.1, z1.2.2.2.2.1, z1.2.2.2.2.2.1, z1.2.2.2.2.2.2) := hT
          exact W.lret (v := p2) hx hb hr (fun t ht hW => ⟨by simp only [hEQ], by rw [ht]; simp only [hEQ, fw_sl]; exact hP, hS.F ht⟩) hS.2.2 dX6_squareRoot_45
    rintro _ ls ⟨hl, hT⟩
    refine lv_aload_n hx hb dX6_squareRoot_46 rfl (lv_at hl 0 rfl) ?_
    refine va_get (D := (dC, dI)) (ci := 3) (v := .int (jb z1.2.2.1)) (C := RX6) (T := TX6) (N := 7) hx hb htf hiX6 hown hK hP 0 rfl rfl 2 (by decide) (htf _ wk353) (fun _ h9 => h9) rfl dX6_squareRoot_47 ?_
    refine lv_if_eq (tgt := 67) hx hb dX6_squareRoot_50 (by decide) (fun c7 => ?_) (fun c7 => ?_)
    · have hT : fm_X6_squareRoot h0_format h0_code h0_minus h0_m h0_power h0_infinite h0_none p1 p2 p3 = fm_X6_squareRoot_s8 h0_format h0_code h0_minus h0_m h0_power h0_infinite h0_none p1 p2 p3 z1 := hT.trans (if_pos c7)
      refine lv_aload_n hx hb dX6_squareRoot_67 rfl (lv_at hl 0 rfl) ?_
      refine va_get (D := (dC, dI)) (ci := 3) (v := .int (jb z1.2.2.2.2.2.1)) (C := RX6) (T := TX6) (N := 7) hx hb htf hiX6 hown hK hP 0 rfl rfl 5 (by decide) (htf _ wk356) (fun _ h9 => h9) rfl dX6_squareRoot_68 ?_
      refine lv_if_eq (tgt := 76) hx hb dX6_squareRoot_71 (by decide) (fun c8 => ?_) (fun c8 => ?_)
      · have hT : fm_X6_squareRoot h0_format h0_code h0_minus h0_m h0_power h0_infinite h0_none p1 p2 p3 = fm_X6_squareRoot_s10 h0_format h0_code h0_minus h0_m h0_power h0_infinite h0_none p1 p2 p3 z1 := hT.trans (if_pos c8)
        refine lv_aload_n hx hb dX6_squareRoot_76 rfl (lv_at hl 0 rfl) ?_
        refine va_get (D := (dC, dI)) (ci := 3) (v := .int z1.2.2.2.2.1) (C := RX6) (T := TX6) (N := 7) hx hb htf hiX6 hown hK hP 0 rfl rfl 4 (by decide) (htf _ wk355) (fun _ h9 => h9) rfl dX6_squareRoot_77 ?_
        refine lv_bipush (v := 40) hx hb dX6_squareRoot_80 (by decide) ?_
        refine lv_isub hx hb dX6_squareRoot_82 ?_
        refine lv_topi (fun x9 ex9 => ?_)
        have hT : fm_X6_squareRoot h0_format h0_code h0_minus h0_m h0_power h0_infinite h0_none p1 p2 p3 = fm_X6_squareRoot_s12 h0_format h0_code h0_minus h0_m h0_power h0_infinite h0_none p1 p2 p3 z1 x9 := by rw [ex9]; exact hT
        refine lv_istore (lv' := [(5, .int x9), (0, .ref h0), (1, .int p1), (2, .long p2), (4, .int p3)]) hx hb dX6_squareRoot_83 hl (by decide) rfl (fun ls hl => ?_)
        refine lv_aload_n hx hb dX6_squareRoot_85 rfl (lv_at hl 1 rfl) ?_
        refine va_get (D := (dC, dI)) (ci := 3) (v := .long z1.2.2.2.1) (C := RX6) (T := TX6) (N := 7) hx hb htf hiX6 hown hK hP 0 rfl rfl 3 (by decide) (htf _ wk354) (fun _ h9 => h9) rfl dX6_squareRoot_86 ?_
        refine lv_bipush (v := 40) hx hb dX6_squareRoot_89 (by decide) ?_
        refine lv_lshl (v := fc_shl z1.2.2.2.1 40) hx hb dX6_squareRoot_91 rfl ?_
        refine lv_topl (fun x10 ex10 => ?_)
        have hT : fm_X6_squareRoot h0_format h0_code h0_minus h0_m h0_power h0_infinite h0_none p1 p2 p3 = fm_X6_squareRoot_s13 h0_format h0_code h0_minus h0_m h0_power h0_infinite h0_none p1 p2 p3 z1 x9 x10 := by rw [ex10]; exact hT
        refine lv_lstore (lv' := [(6, .long x10), (5, .int x9), (0, .ref h0), (1, .int p1), (2, .long p2), (4, .int p3)]) hx hb dX6_squareRoot_92 hl (by decide) rfl (fun ls hl => ?_)
        refine lv_iload hx hb dX6_squareRoot_94 (lv_at hl 1 rfl) ?_
        refine lv_iconst (v := 1) hx hb dX6_squareRoot_96 (by decide) ?_
        refine lv_iand hx hb dX6_squareRoot_97 ?_
        refine fw_join (j := 110) (ι := Int64 × Int32) (LS := fun i ls => lv_has ls 12 [(6, .long i.1), (5, .int i.2), (0, .ref h0), (1, .int p1), (2, .long p2), (4, .int p3)] ∧ i.1 = (if (x9 &&& 1) = 0 then x10 else fc_shl x10 1) ∧ i.2 = (if (x9 &&& 1) = 0 then x9 else x9 + (-1))) (ST := fun i => []) ?_ (fun J13 => ?_)
        rotate_left
        · refine lv_if_eq (tgt := 110) hx hb dX6_squareRoot_98 (by decide) (fun c14 => ?_) (fun c14 => ?_)
          · exact J13 (x10, x9) ls ⟨lv_sub hl [0, 1, 2, 3, 4, 5] rfl, by simp only [if_pos c14] <;> first | assumption | contradiction, by simp only [if_pos c14] <;> first | assumption | contradiction⟩
          · refine lv_lload hx hb dX6_squareRoot_101 (lv_at hl 0 rfl) ?_
            refine lv_iconst (v := 1) hx hb dX6_squareRoot_103 (by decide) ?_
            refine lv_lshl (v := fc_shl x10 1) hx hb dX6_squareRoot_104 rfl ?_
            refine lv_lstore (lv' := [(6, .long (fc_shl x10 1)), (5, .int x9), (0, .ref h0), (1, .int p1), (2, .long p2), (4, .int p3)]) hx hb dX6_squareRoot_105 hl (by decide) rfl (fun ls hl => ?_)
            refine lv_iinc (v := x9 + (-1)) (lv' := [(5, .int (x9 + (-1))), (6, .long (fc_shl x10 1)), (0, .ref h0), (1, .int p1), (2, .long p2), (4, .int p3)]) hx hb dX6_squareRoot_107 hl (k := 1) rfl rfl (by decide) rfl (fun ls hl => ?_)
            exact J13 (fc_shl x10 1, x9 + (-1)) ls ⟨lv_sub hl [1, 0, 2, 3, 4, 5] rfl, by simp only [if_neg c14] <;> first | assumption | contradiction, by simp only [if_neg c14] <;> first | assumption | contradiction⟩
        rintro ⟨x11, x12⟩ ls ⟨hl, ex11, ex12⟩
        try dsimp only at hl ex11 ex12 ⊢
        have hT : fm_X6_squareRoot h0_format h0_code h0_minus h0_m h0_power h0_infinite h0_none p1 p2 p3 = fm_X6_squareRoot_s14 h0_format h0_code h0_minus h0_m h0_power h0_infinite h0_none p1 p2 p3 z1 x9 x10 x11 x12 := by rw [ex11, ex12]; exact hT
        refine lv_lconst (v := 0) hx hb dX6_squareRoot_110 (by decide) ?_
        refine lv_lstore (lv' := [(8, .long 0), (6, .long x11), (5, .int x12), (0, .ref h0), (1, .int p1), (2, .long p2), (4, .int p3)]) hx hb dX6_squareRoot_111 hl (by decide) rfl (fun ls hl => ?_)
        refine lv_ldc2 (v := 1073741824) hx hb hown (htf _ wk429) dX6_squareRoot_113 ?_
        refine lv_lstore (lv' := [(10, .long 1073741824), (8, .long 0), (6, .long x11), (5, .int x12), (0, .ref h0), (1, .int p1), (2, .long p2), (4, .int p3)]) hx hb dX6_squareRoot_116 hl (by decide) rfl (fun ls hl => ?_)
        refine fw_down (head := 118) (σ := Int64) (LS := fun jj r ls => jj ≤ 31 ∧ fr_it x11 jj r = fr_it x11 31 0 ∧ lv_has ls 12 [(6, .long x11), (5, .int x12), (0, .ref h0), (1, .int p1), (2, .long p2), (4, .int p3), (8, .long r), (10, .long (lN (2 ^ jj / 2)))]) ?_ ?_ 31 0 ls ⟨Nat.le_refl _, rfl, lv_sub hl [2, 3, 4, 5, 6, 7, 1, 0] rfl⟩
        · intro r ls hLS
          obtain ⟨hn, hi, hl⟩ := hLS
          have hT : fm_X6_squareRoot h0_format h0_code h0_minus h0_m h0_power h0_infinite h0_none p1 p2 p3 = fm_X6_squareRoot_s15 h0_format h0_code h0_minus h0_m h0_power h0_infinite h0_none p1 p2 p3 z1 x9 x10 x11 x12 (fr_it x11 31 0) := hT
          generalize ex15 : fr_it x11 31 0 = x15 at hi hT
          have hi : r = x15 := hi
          subst hi
          refine lv_lload hx hb dX6_squareRoot_118 (lv_at hl 7 rfl) ?_
          refine lv_lconst (v := 0) hx hb dX6_squareRoot_120 (by decide) ?_
          refine W.lcmp hx hb dX6_squareRoot_121 ?_
          refine lv_if_le (tgt := 158) hx hb dX6_squareRoot_122 (by decide) (fun c16 => ?_) (fun c16 => ?_)
          · refine lv_iload_n hx hb dX6_squareRoot_158 rfl (lv_at hl 3 rfl) ?_
            refine lv_iconst (v := 0) hx hb dX6_squareRoot_159 (by decide) ?_
            refine lv_lload hx hb dX6_squareRoot_160 (lv_at hl 6 rfl) ?_
            refine lv_iload hx hb dX6_squareRoot_162 (lv_at hl 1 rfl) ?_
            refine lv_iconst (v := 2) hx hb dX6_squareRoot_164 (by decide) ?_
            refine lv_idiv hx hb dX6_squareRoot_165 (by decide) ?_
            refine lv_lload hx hb dX6_squareRoot_166 (lv_at hl 6 rfl) ?_
            refine lv_lload hx hb dX6_squareRoot_168 (lv_at hl 6 rfl) ?_
            refine lv_lmul hx hb dX6_squareRoot_170 ?_
            refine lv_lload hx hb dX6_squareRoot_171 (lv_at hl 0 rfl) ?_
            refine W.lcmp hx hb dX6_squareRoot_173 ?_
            refine fw_join (j := 182) (ι := Bool) (LS := fun i ls => lv_has ls 12 [(6, .long x11), (5, .int x12), (0, .ref h0), (1, .int p1), (2, .long p2), (4, .int p3), (8, .long r), (10, .long (lN (2 ^ 0 / 2)))] ∧ i = (if (lg_cmp (r * r) x11) = 0 then false else true)) (ST := fun i => [.int (jb i), .int (x12 / 2), .long r, .int 0, .int p1]) ?_ (fun J18 => ?_)
            rotate_left
            · refine lv_if_eq (tgt := 181) hx hb dX6_squareRoot_174 (by decide) (fun c19 => ?_) (fun c19 => ?_)
              · refine lv_iconst (v := 0) hx hb dX6_squareRoot_181 (by decide) ?_
                exact J18 false ls ⟨lv_sub hl [0, 1, 2, 3, 4, 5, 6, 7] rfl, by simp only [if_pos c19] <;> first | assumption | contradiction⟩
              · refine lv_iconst (v := 1) hx hb dX6_squareRoot_177 (by decide) ?_
                refine lv_goto (tgt := 182) hx hb dX6_squareRoot_178 (by decide) ?_
                exact J18 true ls ⟨lv_sub hl [0, 1, 2, 3, 4, 5, 6, 7] rfl, by simp only [if_neg c19] <;> first | assumption | contradiction⟩
            rintro x17 ls ⟨hl, ex17⟩
            try dsimp only at hl ex17 ⊢
            have hT : fm_X6_squareRoot h0_format h0_code h0_minus h0_m h0_power h0_infinite h0_none p1 p2 p3 = fm_X6_squareRoot_s16 h0_format h0_code h0_minus h0_m h0_power h0_infinite h0_none p1 p2 p3 z1 x9 x10 x11 x12 r x17 := by rw [ex17]; exact hT
            refine lv_iload hx hb dX6_squareRoot_182 (lv_at hl 5 rfl) ?_
            refine fw_call (va_runS (As := [.int p1, .int (jb false), .long r, .int (x12 / 2), .int (jb x17), .int p3]) (rest := []) ⟨hx, hb, hml, hown, htf⟩ (k_X6_round l p1 false r (x12 / 2) x17 p3) (va_cwS 6 htf (gd_S wk403 wk404 wk3 wk405) rfl rfl rfl ndX6_round ⟨Nat.le_of_ble_eq_true rfl, Nat.le_of_ble_eq_true rfl⟩) fw_PS rfl rfl hl.1 rfl (lv_room (Nat.le_of_ble_eq_true rfl)) dX6_squareRoot_184 ⟨Nat.le_refl _, Nat.le_refl _⟩) ?_
            have hEQ : fm_X6_squareRoot h0_format h0_code h0_minus h0_m h0_power h0_infinite h0_none p1 p2 p3 = (fm_X6_round p1 false r (x12 / 2) x17 p3, z1.1, z1.2.1, z1.2.2.1, z1.2.2.2.1, z1.2.2.2.2.1, z1.2.2.2.2.2.1, z1.2.2.2.2.2.2) := hT
            exact W.lret (v := fm_X6_round p1 false r (x12 / 2) x17 p3) hx hb hr (fun t ht hW => ⟨by simp only [hEQ], by rw [ht]; simp only [hEQ, fw_sl]; exact hP, hS.F ht⟩) hS.2.2 dX6_squareRoot_187
          · exact absurd (by decide) c16
        · rintro jj r ls ⟨hn, hi, hl⟩ ih
          rw [fr_half] at hl
          refine lv_lload hx hb dX6_squareRoot_118 (lv_at hl 7 rfl) ?_
          refine lv_lconst (v := 0) hx hb dX6_squareRoot_120 (by decide) ?_
          refine W.lcmp hx hb dX6_squareRoot_121 ?_
          refine lv_if_le (tgt := 158) hx hb dX6_squareRoot_122 (by decide) (fun c20 => ?_) (fun c20 => ?_)
          · exact absurd c20 (fr_pos (by omega))
          refine lv_lload hx hb dX6_squareRoot_125 (lv_at hl 6 rfl) ?_
          refine lv_lload hx hb dX6_squareRoot_127 (lv_at hl 7 rfl) ?_
          refine lv_lor hx hb dX6_squareRoot_129 ?_
          refine lv_lload hx hb dX6_squareRoot_130 (lv_at hl 6 rfl) ?_
          refine lv_lload hx hb dX6_squareRoot_132 (lv_at hl 7 rfl) ?_
          refine lv_lor hx hb dX6_squareRoot_134 ?_
          refine lv_lmul hx hb dX6_squareRoot_135 ?_
          refine lv_lload hx hb dX6_squareRoot_136 (lv_at hl 0 rfl) ?_
          refine W.lcmp hx hb dX6_squareRoot_138 ?_
          refine fw_join (j := 149) (ι := Int64) (LS := fun i ls => lv_has ls 12 [(6, .long x11), (5, .int x12), (0, .ref h0), (1, .int p1), (2, .long p2), (4, .int p3), (8, .long i), (10, .long (lN (2 ^ jj)))] ∧ i = (if 0 < (lg_cmp ((r ||| (lN (2 ^ jj))) * (r ||| (lN (2 ^ jj)))) x11) then r else r ||| (lN (2 ^ jj)))) (ST := fun i => []) ?_ (fun J22 => ?_)
          rotate_left
          · refine lv_if_gt (tgt := 149) hx hb dX6_squareRoot_139 (by decide) (fun c23 => ?_) (fun c23 => ?_)
            · exact J22 r ls ⟨lv_sub hl [0, 1, 2, 3, 4, 5, 6, 7] rfl, by simp only [if_pos c23] <;> first | assumption | contradiction⟩
            · refine lv_lload hx hb dX6_squareRoot_142 (lv_at hl 6 rfl) ?_
              refine lv_lload hx hb dX6_squareRoot_144 (lv_at hl 7 rfl) ?_
              refine lv_lor hx hb dX6_squareRoot_146 ?_
              refine lv_lstore (lv' := [(8, .long (r ||| (lN (2 ^ jj)))), (6, .long x11), (5, .int x12), (0, .ref h0), (1, .int p1), (2, .long p2), (4, .int p3), (10, .long (lN (2 ^ jj)))]) hx hb dX6_squareRoot_147 hl (by decide) rfl (fun ls hl => ?_)
              exact J22 (r ||| (lN (2 ^ jj))) ls ⟨lv_sub hl [1, 2, 3, 4, 5, 6, 0, 7] rfl, by simp only [if_neg c23] <;> first | assumption | contradiction⟩
          rintro x21 ls ⟨hl, ex21⟩
          try dsimp only at hl ex21 ⊢
          refine lv_lload hx hb dX6_squareRoot_149 (lv_at hl 7 rfl) ?_
          refine lv_iconst (v := 1) hx hb dX6_squareRoot_151 (by decide) ?_
          refine lv_lshr (v := fc_shr (lN (2 ^ jj)) 1) hx hb dX6_squareRoot_152 rfl ?_
          refine lv_lstore (lv' := [(10, .long (fc_shr (lN (2 ^ jj)) 1)), (6, .long x11), (5, .int x12), (0, .ref h0), (1, .int p1), (2, .long p2), (4, .int p3), (8, .long x21)]) hx hb dX6_squareRoot_153 hl (by decide) rfl (fun ls hl => ?_)
          refine lv_goto (tgt := 118) hx hb dX6_squareRoot_155 (by decide) ?_
          exact ih x21 ls ⟨by omega, by rw [← hi]; subst ex21; rfl, lv_sub hl [1, 2, 3, 4, 5, 6, 7, 0] (by rw [fr_shr (by omega)]; rfl)⟩
      · have hT : fm_X6_squareRoot h0_format h0_code h0_minus h0_m h0_power h0_infinite h0_none p1 p2 p3 = fm_X6_squareRoot_s11 h0_format h0_code h0_minus h0_m h0_power h0_infinite h0_none p1 p2 p3 z1 := hT.trans (if_neg c8)
        refine lv_lload_n hx hb dX6_squareRoot_74 rfl (lv_at hl 2 rfl) ?_
        have hEQ : fm_X6_squareRoot h0_format h0_code h0_minus h0_m h0_power h0_infinite h0_none p1 p2 p3 = (p2, z1.1, z1.2.1, z1.2.2.1, z1.2.2.2.1, z1.2.2.2.2.1, z1.2.2.2.2.2.1, z1.2.2.2.2.2.2) := hT
        exact W.lret (v := p2) hx hb hr (fun t ht hW => ⟨by simp only [hEQ], by rw [ht]; simp only [hEQ, fw_sl]; exact hP, hS.F ht⟩) hS.2.2 dX6_squareRoot_75
    · have hT : fm_X6_squareRoot h0_format h0_code h0_minus h0_m h0_power h0_infinite h0_none p1 p2 p3 = fm_X6_squareRoot_s9 h0_format h0_code h0_minus h0_m h0_power h0_infinite h0_none p1 p2 p3 z1 := hT.trans (if_neg c7)
      refine lv_iload hx hb dX6_squareRoot_53 (lv_at hl 3 rfl) ?_
      refine fw_call (va_runS (As := [.int p3]) (rest := []) ⟨hx, hb, hml, hown, htf⟩ (k_X6_exponent l p3) (va_cwS 1 htf (gd_S wk385 wk386 wk3 wk387) rfl rfl rfl ndX6_exponent ⟨Nat.le_of_ble_eq_true rfl, Nat.le_of_ble_eq_true rfl⟩) fw_PS rfl rfl hl.1 rfl (lv_room (Nat.le_of_ble_eq_true rfl)) dX6_squareRoot_55 ⟨Nat.le_refl _, Nat.le_refl _⟩) ?_
      refine lv_iload hx hb dX6_squareRoot_58 (lv_at hl 3 rfl) ?_
      refine fw_call (va_runS (As := [.int p3]) (rest := [.int (fm_X6_exponent p3)]) ⟨hx, hb, hml, hown, htf⟩ (k_X6_significand l p3) (va_cwS 1 htf (gd_S wk388 wk389 wk3 wk390) rfl rfl rfl ndX6_significand ⟨Nat.le_of_ble_eq_true rfl, Nat.le_of_ble_eq_true rfl⟩) fw_PS rfl rfl hl.1 rfl (lv_room (Nat.le_of_ble_eq_true rfl)) dX6_squareRoot_60 ⟨Nat.le_refl _, Nat.le_refl _⟩) ?_
      refine fw_call (va_runS (As := [.int (fm_X6_exponent p3), .int (fm_X6_significand p3)]) (rest := []) ⟨hx, hb, hml, hown, htf⟩ (k_X6_nan l (fm_X6_exponent p3) (fm_X6_significand p3)) (va_cwS 2 htf (gd_S wk397 wk398 wk3 wk399) rfl rfl rfl ndX6_nan ⟨Nat.le_of_ble_eq_true rfl, Nat.le_of_ble_eq_true rfl⟩) fw_PS rfl rfl hl.1 rfl (lv_room (Nat.le_of_ble_eq_true rfl)) dX6_squareRoot_63 ⟨Nat.le_refl _, Nat.le_refl _⟩) ?_
      have hEQ : fm_X6_squareRoot h0_format h0_code h0_minus h0_m h0_power h0_infinite h0_none p1 p2 p3 = (fm_X6_nan (fm_X6_exponent p3) (fm_X6_significand p3), z1.1, z1.2.1, z1.2.2.1, z1.2.2.2.1, z1.2.2.2.2.1, z1.2.2.2.2.2.1, z1.2.2.2.2.2.2) := hT
      exact W.lret (v := fm_X6_nan (fm_X6_exponent p3) (fm_X6_significand p3)) hx hb hr (fun t ht hW => ⟨by simp only [hEQ], by rw [ht]; simp only [hEQ, fw_sl]; exact hP, hS.F ht⟩) hS.2.2 dX6_squareRoot_66
  · have hT : fm_X6_squareRoot h0_format h0_code h0_minus h0_m h0_power h0_infinite h0_none p1 p2 p3 = fm_X6_squareRoot_s3 h0_format h0_code h0_minus h0_m h0_power h0_infinite h0_none p1 p2 p3 z1 := hT.trans (if_neg c2)
    refine lv_iload hx hb dX6_squareRoot_14 (lv_at hl 3 rfl) ?_
    refine fw_call (va_runS (As := [.int p3]) (rest := []) ⟨hx, hb, hml, hown, htf⟩ (k_X6_exponent l p3) (va_cwS 1 htf (gd_S wk385 wk386 wk3 wk387) rfl rfl rfl ndX6_exponent ⟨Nat.le_of_ble_eq_true rfl, Nat.le_of_ble_eq_true rfl⟩) fw_PS rfl rfl hl.1 rfl (lv_room (Nat.le_of_ble_eq_true rfl)) dX6_squareRoot_16 ⟨Nat.le_refl _, Nat.le_refl _⟩) ?_
    refine lv_iload hx hb dX6_squareRoot_19 (lv_at hl 3 rfl) ?_
    refine fw_call (va_runS (As := [.int p3]) (rest := [.int (fm_X6_exponent p3)]) ⟨hx, hb, hml, hown, htf⟩ (k_X6_significand l p3) (va_cwS 1 htf (gd_S wk388 wk389 wk3 wk390) rfl rfl rfl ndX6_significand ⟨Nat.le_of_ble_eq_true rfl, Nat.le_of_ble_eq_true rfl⟩) fw_PS rfl rfl hl.1 rfl (lv_room (Nat.le_of_ble_eq_true rfl)) dX6_squareRoot_21 ⟨Nat.le_refl _, Nat.le_refl _⟩) ?_
    refine fw_call (va_runS (As := [.int (fm_X6_exponent p3), .int (fm_X6_significand p3)]) (rest := []) ⟨hx, hb, hml, hown, htf⟩ (k_X6_nan l (fm_X6_exponent p3) (fm_X6_significand p3)) (va_cwS 2 htf (gd_S wk397 wk398 wk3 wk399) rfl rfl rfl ndX6_nan ⟨Nat.le_of_ble_eq_true rfl, Nat.le_of_ble_eq_true rfl⟩) fw_PS rfl rfl hl.1 rfl (lv_room (Nat.le_of_ble_eq_true rfl)) dX6_squareRoot_24 ⟨Nat.le_refl _, Nat.le_refl _⟩) ?_
    have hEQ : fm_X6_squareRoot h0_format h0_code h0_minus h0_m h0_power h0_infinite h0_none p1 p2 p3 = (fm_X6_nan (fm_X6_exponent p3) (fm_X6_significand p3), z1.1, z1.2.1, z1.2.2.1, z1.2.2.2.1, z1.2.2.2.2.1, z1.2.2.2.2.2.1, z1.2.2.2.2.2.2) := hT
    exact W.lret (v := fm_X6_nan (fm_X6_exponent p3) (fm_X6_significand p3)) hx hb hr (fun t ht hW => ⟨by simp only [hEQ], by rw [ht]; simp only [hEQ, fw_sl]; exact hP, hS.F ht⟩) hS.2.2 dX6_squareRoot_27
