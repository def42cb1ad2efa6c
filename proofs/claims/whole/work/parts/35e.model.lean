theorem ndX6_toWhole : yX6_toWhole.cls = RX6 ∧ yX6_toWhole.cls ≠ "java/lang/invoke/MethodHandle" ∧ yX6_toWhole.cls ≠ "java/lang/invoke/VarHandle" ∧ (parseMethodDescriptor yX6_toWhole.desc).map (fun d => d.parameters.length) = some 4 := by decide +kernel
def fm_X6_toWhole_s3 (h0_format : Int32) (h0_code : Int32) (h0_minus : Bool) (h0_m : Int64) (h0_power : Int32) (h0_infinite : Bool) (h0_none : Bool) (p1 : Int32) (p2 : Int32) (p3 : Int32) (p4 : Bool) (x1 : Bool) (z6 : Bool × fw_S7) : Int32 × fw_S7 := (0, z6.2.1, z6.2.2.1, z6.2.2.2.1, z6.2.2.2.2.1, z6.2.2.2.2.2.1, z6.2.2.2.2.2.2.1, z6.2.2.2.2.2.2.2)
def fm_X6_toWhole_s9 (h0_format : Int32) (h0_code : Int32) (h0_minus : Bool) (h0_m : Int64) (h0_power : Int32) (h0_infinite : Bool) (h0_none : Bool) (p1 : Int32) (p2 : Int32) (p3 : Int32) (p4 : Bool) (x1 : Bool) (z6 : Bool × fw_S7) (z8 : fw_S7) : Int32 × fw_S7 := (0, z8.1, z8.2.1, z8.2.2.1, z8.2.2.2.1, z8.2.2.2.2.1, z8.2.2.2.2.2.1, z8.2.2.2.2.2.2)
def fm_X6_toWhole_s22 (h0_format : Int32) (h0_code : Int32) (h0_minus : Bool) (h0_m : Int64) (h0_power : Int32) (h0_infinite : Bool) (h0_none : Bool) (p1 : Int32) (p2 : Int32) (p3 : Int32) (p4 : Bool) (x1 : Bool) (z6 : Bool × fw_S7) (z8 : fw_S7) (x11 : Int64) (x14 : Int64) (x24 : Int64) : Int32 × fw_S7 := ((x24 &&& (fm_X6_mask p3)).toInt32, z8.1, z8.2.1, z8.2.2.1, z8.2.2.2.1, z8.2.2.2.2.1, z8.2.2.2.2.2.1, z8.2.2.2.2.2.2)
def fm_X6_toWhole_175 (h0_format : Int32) (h0_code : Int32) (h0_minus : Bool) (h0_m : Int64) (h0_power : Int32) (h0_infinite : Bool) (h0_none : Bool) (p1 : Int32) (p2 : Int32) (p3 : Int32) (p4 : Bool) (x1 : Bool) (z6 : Bool × fw_S7) (z8 : fw_S7) (x11 : Int64) (x14 : Int64) : Int32 × fw_S7 := fm_X6_toWhole_s22 h0_format h0_code h0_minus h0_m h0_power h0_infinite h0_none p1 p2 p3 p4 x1 z6 z8 x11 x14 (if (jb z8.2.2.1) = 0 then x11 else 0 - x11)
def fm_X6_toWhole_s21 (h0_format : Int32) (h0_code : Int32) (h0_minus : Bool) (h0_m : Int64) (h0_power : Int32) (h0_infinite : Bool) (h0_none : Bool) (p1 : Int32) (p2 : Int32) (p3 : Int32) (p4 : Bool) (x1 : Bool) (z6 : Bool × fw_S7) (z8 : fw_S7) (x11 : Int64) (x14 : Int64) : Int32 × fw_S7 := (0, z8.1, z8.2.1, z8.2.2.1, z8.2.2.2.1, z8.2.2.2.2.1, z8.2.2.2.2.2.1, z8.2.2.2.2.2.2)
def fm_X6_toWhole_s20 (h0_format : Int32) (h0_code : Int32) (h0_minus : Bool) (h0_m : Int64) (h0_power : Int32) (h0_infinite : Bool) (h0_none : Bool) (p1 : Int32) (p2 : Int32) (p3 : Int32) (p4 : Bool) (x1 : Bool) (z6 : Bool × fw_S7) (z8 : fw_S7) (x11 : Int64) (x14 : Int64) : Int32 × fw_S7 := fm_X6_toWhole_175 h0_format h0_code h0_minus h0_m h0_power h0_infinite h0_none p1 p2 p3 p4 x1 z6 z8 x11 x14
def fm_X6_toWhole_s17 (h0_format : Int32) (h0_code : Int32) (h0_minus : Bool) (h0_m : Int64) (h0_power : Int32) (h0_infinite : Bool) (h0_none : Bool) (p1 : Int32) (p2 : Int32) (p3 : Int32) (p4 : Bool) (x1 : Bool) (z6 : Bool × fw_S7) (z8 : fw_S7) (x11 : Int64) (x14 : Int64) : Int32 × fw_S7 := if (lg_cmp x11 (x14 + 1)) ≤ 0 then fm_X6_toWhole_s20 h0_format h0_code h0_minus h0_m h0_power h0_infinite h0_none p1 p2 p3 p4 x1 z6 z8 x11 x14 else fm_X6_toWhole_s21 h0_format h0_code h0_minus h0_m h0_power h0_infinite h0_none p1 p2 p3 p4 x1 z6 z8 x11 x14
def fm_X6_toWhole_s19 (h0_format : Int32) (h0_code : Int32) (h0_minus : Bool) (h0_m : Int64) (h0_power : Int32) (h0_infinite : Bool) (h0_none : Bool) (p1 : Int32) (p2 : Int32) (p3 : Int32) (p4 : Bool) (x1 : Bool) (z6 : Bool × fw_S7) (z8 : fw_S7) (x11 : Int64) (x14 : Int64) : Int32 × fw_S7 := (0, z8.1, z8.2.1, z8.2.2.1, z8.2.2.2.1, z8.2.2.2.2.1, z8.2.2.2.2.2.1, z8.2.2.2.2.2.2)
def fm_X6_toWhole_s18 (h0_format : Int32) (h0_code : Int32) (h0_minus : Bool) (h0_m : Int64) (h0_power : Int32) (h0_infinite : Bool) (h0_none : Bool) (p1 : Int32) (p2 : Int32) (p3 : Int32) (p4 : Bool) (x1 : Bool) (z6 : Bool × fw_S7) (z8 : fw_S7) (x11 : Int64) (x14 : Int64) : Int32 × fw_S7 := fm_X6_toWhole_175 h0_format h0_code h0_minus h0_m h0_power h0_infinite h0_none p1 p2 p3 p4 x1 z6 z8 x11 x14
def fm_X6_toWhole_s16 (h0_format : Int32) (h0_code : Int32) (h0_minus : Bool) (h0_m : Int64) (h0_power : Int32) (h0_infinite : Bool) (h0_none : Bool) (p1 : Int32) (p2 : Int32) (p3 : Int32) (p4 : Bool) (x1 : Bool) (z6 : Bool × fw_S7) (z8 : fw_S7) (x11 : Int64) (x14 : Int64) : Int32 × fw_S7 := if (lg_cmp x11 0) = 0 then fm_X6_toWhole_s18 h0_format h0_code h0_minus h0_m h0_power h0_infinite h0_none p1 p2 p3 p4 x1 z6 z8 x11 x14 else fm_X6_toWhole_s19 h0_format h0_code h0_minus h0_m h0_power h0_infinite h0_none p1 p2 p3 p4 x1 z6 z8 x11 x14
def fm_X6_toWhole_s13 (h0_format : Int32) (h0_code : Int32) (h0_minus : Bool) (h0_m : Int64) (h0_power : Int32) (h0_infinite : Bool) (h0_none : Bool) (p1 : Int32) (p2 : Int32) (p3 : Int32) (p4 : Bool) (x1 : Bool) (z6 : Bool × fw_S7) (z8 : fw_S7) (x11 : Int64) (x14 : Int64) : Int32 × fw_S7 := if (jb p4) = 0 then fm_X6_toWhole_s16 h0_format h0_code h0_minus h0_m h0_power h0_infinite h0_none p1 p2 p3 p4 x1 z6 z8 x11 x14 else fm_X6_toWhole_s17 h0_format h0_code h0_minus h0_m h0_power h0_infinite h0_none p1 p2 p3 p4 x1 z6 z8 x11 x14
def fm_X6_toWhole_s15 (h0_format : Int32) (h0_code : Int32) (h0_minus : Bool) (h0_m : Int64) (h0_power : Int32) (h0_infinite : Bool) (h0_none : Bool) (p1 : Int32) (p2 : Int32) (p3 : Int32) (p4 : Bool) (x1 : Bool) (z6 : Bool × fw_S7) (z8 : fw_S7) (x11 : Int64) (x14 : Int64) : Int32 × fw_S7 := (0, z8.1, z8.2.1, z8.2.2.1, z8.2.2.2.1, z8.2.2.2.2.1, z8.2.2.2.2.2.1, z8.2.2.2.2.2.2)
def fm_X6_toWhole_s14 (h0_format : Int32) (h0_code : Int32) (h0_minus : Bool) (h0_m : Int64) (h0_power : Int32) (h0_infinite : Bool) (h0_none : Bool) (p1 : Int32) (p2 : Int32) (p3 : Int32) (p4 : Bool) (x1 : Bool) (z6 : Bool × fw_S7) (z8 : fw_S7) (x11 : Int64) (x14 : Int64) : Int32 × fw_S7 := fm_X6_toWhole_175 h0_format h0_code h0_minus h0_m h0_power h0_infinite h0_none p1 p2 p3 p4 x1 z6 z8 x11 x14
def fm_X6_toWhole_s12 (h0_format : Int32) (h0_code : Int32) (h0_minus : Bool) (h0_m : Int64) (h0_power : Int32) (h0_infinite : Bool) (h0_none : Bool) (p1 : Int32) (p2 : Int32) (p3 : Int32) (p4 : Bool) (x1 : Bool) (z6 : Bool × fw_S7) (z8 : fw_S7) (x11 : Int64) (x14 : Int64) : Int32 × fw_S7 := if (lg_cmp x11 x14) ≤ 0 then fm_X6_toWhole_s14 h0_format h0_code h0_minus h0_m h0_power h0_infinite h0_none p1 p2 p3 p4 x1 z6 z8 x11 x14 else fm_X6_toWhole_s15 h0_format h0_code h0_minus h0_m h0_power h0_infinite h0_none p1 p2 p3 p4 x1 z6 z8 x11 x14
def fm_X6_toWhole_s11 (h0_format : Int32) (h0_code : Int32) (h0_minus : Bool) (h0_m : Int64) (h0_power : Int32) (h0_infinite : Bool) (h0_none : Bool) (p1 : Int32) (p2 : Int32) (p3 : Int32) (p4 : Bool) (x1 : Bool) (z6 : Bool × fw_S7) (z8 : fw_S7) (x11 : Int64) (x14 : Int64) : Int32 × fw_S7 := if (jb z8.2.2.1) = 0 then fm_X6_toWhole_s12 h0_format h0_code h0_minus h0_m h0_power h0_infinite h0_none p1 p2 p3 p4 x1 z6 z8 x11 x14 else fm_X6_toWhole_s13 h0_format h0_code h0_minus h0_m h0_power h0_infinite h0_none p1 p2 p3 p4 x1 z6 z8 x11 x14
def fm_X6_toWhole_s10 (h0_format : Int32) (h0_code : Int32) (h0_minus : Bool) (h0_m : Int64) (h0_power : Int32) (h0_infinite : Bool) (h0_none : Bool) (p1 : Int32) (p2 : Int32) (p3 : Int32) (p4 : Bool) (x1 : Bool) (z6 : Bool × fw_S7) (z8 : fw_S7) (x11 : Int64) : Int32 × fw_S7 := fm_X6_toWhole_s11 h0_format h0_code h0_minus h0_m h0_power h0_infinite h0_none p1 p2 p3 p4 x1 z6 z8 x11 (if (jb p4) = 0 then (fm_X6_mask p3) else fm_X6_mask (p3 - 1))
def fm_X6_toWhole_s8 (h0_format : Int32) (h0_code : Int32) (h0_minus : Bool) (h0_m : Int64) (h0_power : Int32) (h0_infinite : Bool) (h0_none : Bool) (p1 : Int32) (p2 : Int32) (p3 : Int32) (p4 : Bool) (x1 : Bool) (z6 : Bool × fw_S7) (z8 : fw_S7) : Int32 × fw_S7 := fm_X6_toWhole_s10 h0_format h0_code h0_minus h0_m h0_power h0_infinite h0_none p1 p2 p3 p4 x1 z6 z8 (if z8.2.2.2.2.1 < 0 then (fm_X6_cut z8.2.2.2.1 (-z8.2.2.2.2.1) false p1 z8.2.2.1) else fc_shl z8.2.2.2.1 z8.2.2.2.2.1)
def fm_X6_toWhole_s6 (h0_format : Int32) (h0_code : Int32) (h0_minus : Bool) (h0_m : Int64) (h0_power : Int32) (h0_infinite : Bool) (h0_none : Bool) (p1 : Int32) (p2 : Int32) (p3 : Int32) (p4 : Bool) (x1 : Bool) (z6 : Bool × fw_S7) (z8 : fw_S7) : Int32 × fw_S7 := if (jb z8.2.2.2.2.2.1) = 0 then fm_X6_toWhole_s8 h0_format h0_code h0_minus h0_m h0_power h0_infinite h0_none p1 p2 p3 p4 x1 z6 z8 else fm_X6_toWhole_s9 h0_format h0_code h0_minus h0_m h0_power h0_infinite h0_none p1 p2 p3 p4 x1 z6 z8
def fm_X6_toWhole_s7 (h0_format : Int32) (h0_code : Int32) (h0_minus : Bool) (h0_m : Int64) (h0_power : Int32) (h0_infinite : Bool) (h0_none : Bool) (p1 : Int32) (p2 : Int32) (p3 : Int32) (p4 : Bool) (x1 : Bool) (z6 : Bool × fw_S7) (z8 : fw_S7) : Int32 × fw_S7 := (0, z8.1, z8.2.1, z8.2.2.1, z8.2.2.2.1, z8.2.2.2.2.1, z8.2.2.2.2.2.1, z8.2.2.2.2.2.2)
def fm_X6_toWhole_s5 (h0_format : Int32) (h0_code : Int32) (h0_minus : Bool) (h0_m : Int64) (h0_power : Int32) (h0_infinite : Bool) (h0_none : Bool) (p1 : Int32) (p2 : Int32) (p3 : Int32) (p4 : Bool) (x1 : Bool) (z6 : Bool × fw_S7) (z8 : fw_S7) : Int32 × fw_S7 := if (jb z8.2.2.2.2.2.2) = 0 then fm_X6_toWhole_s6 h0_format h0_code h0_minus h0_m h0_power h0_infinite h0_none p1 p2 p3 p4 x1 z6 z8 else fm_X6_toWhole_s7 h0_format h0_code h0_minus h0_m h0_power h0_infinite h0_none p1 p2 p3 p4 x1 z6 z8
def fm_X6_toWhole_s4 (h0_format : Int32) (h0_code : Int32) (h0_minus : Bool) (h0_m : Int64) (h0_power : Int32) (h0_infinite : Bool) (h0_none : Bool) (p1 : Int32) (p2 : Int32) (p3 : Int32) (p4 : Bool) (x1 : Bool) (z6 : Bool × fw_S7) : Int32 × fw_S7 := fm_X6_toWhole_s5 h0_format h0_code h0_minus h0_m h0_power h0_infinite h0_none p1 p2 p3 p4 x1 z6 (fm_X6_take z6.2.1 z6.2.2.1 z6.2.2.2.1 z6.2.2.2.2.1 z6.2.2.2.2.2.1 z6.2.2.2.2.2.2.1 z6.2.2.2.2.2.2.2 p2.toInt64 z6.2.1)
def fm_X6_toWhole_s2 (h0_format : Int32) (h0_code : Int32) (h0_minus : Bool) (h0_m : Int64) (h0_power : Int32) (h0_infinite : Bool) (h0_none : Bool) (p1 : Int32) (p2 : Int32) (p3 : Int32) (p4 : Bool) (x1 : Bool) (z6 : Bool × fw_S7) : Int32 × fw_S7 := if (jb z6.1) = 0 then fm_X6_toWhole_s3 h0_format h0_code h0_minus h0_m h0_power h0_infinite h0_none p1 p2 p3 p4 x1 z6 else fm_X6_toWhole_s4 h0_format h0_code h0_minus h0_m h0_power h0_infinite h0_none p1 p2 p3 p4 x1 z6
def fm_X6_toWhole_s1 (h0_format : Int32) (h0_code : Int32) (h0_minus : Bool) (h0_m : Int64) (h0_power : Int32) (h0_infinite : Bool) (h0_none : Bool) (p1 : Int32) (p2 : Int32) (p3 : Int32) (p4 : Bool) (x1 : Bool) : Int32 × fw_S7 := fm_X6_toWhole_s2 h0_format h0_code h0_minus h0_m h0_power h0_infinite h0_none p1 p2 p3 p4 x1 (fm_X6_good h0_format h0_code h0_minus h0_m h0_power h0_infinite h0_none x1)
def fm_X6_toWhole (h0_format : Int32) (h0_code : Int32) (h0_minus : Bool) (h0_m : Int64) (h0_power : Int32) (h0_infinite : Bool) (h0_none : Bool) (p1 : Int32) (p2 : Int32) (p3 : Int32) (p4 : Bool) : Int32 × fw_S7 := fm_X6_toWhole_s1 h0_format h0_code h0_minus h0_m h0_power h0_infinite h0_none p1 p2 p3 p4 (if (jb (fm_X6_in p1 0 4)) = 0 then false else (if (jb (fm_X6_isFloat h0_format h0_code h0_minus h0_m h0_power h0_infinite h0_none p2 h0_format)) = 0 then false else (if (jb (fm_X6_in p3 1 32)) = 0 then false else true)))
-- SIMP X6_toWhole: fm_X6_toWhole, fm_X6_toWhole_s1, fm_X6_toWhole_s2, fm_X6_toWhole_s4, fm_X6_toWhole_s5, fm_X6_toWhole_s7, fm_X6_toWhole_s6, fm_X6_toWhole_s8, fm_X6_toWhole_s10, fm_X6_toWhole_s11, fm_X6_toWhole_s12, fm_X6_toWhole_s14, fm_X6_toWhole_s15, fm_X6_toWhole_s13, fm_X6_toWhole_s16, fm_X6_toWhole_s18, fm_X6_toWhole_s19, fm_X6_toWhole_s17, fm_X6_toWhole_s20, fm_X6_toWhole_s21, fm_X6_toWhole_175, fm_X6_toWhole_s22, fm_X6_toWhole_s9, fm_X6_toWhole_s3
set_option maxHeartbeats 4000000 in
set_option maxRecDepth 100000 in
theorem k_X6_toWhole (l : Launch) (dC : Nat → ClassId) (dI : Nat → Nat → Nat) (h0 : Nat) (h0_format : Int32) (h0_code : Int32) (h0_minus : Bool) (h0_m : Int64) (h0_power : Int32) (h0_infinite : Bool) (h0_none : Bool) (p1 : Int32) (p2 : Int32) (p3 : Int32) (p4 : Bool) : Met l yX6_toWhole wsX6_toWhole { frames := 3, cells := 0, slots := 0, locals := 62 } (fw_R (dC, dI) vwCl [(h0, .inr (3, [.int h0_format, .int h0_code, .int (jb h0_minus), .long h0_m, .int h0_power, .int (jb h0_infinite), .int (jb h0_none)]))] [.ref h0, .int p1, .int p2, .int p3, .int (jb p4)]) (fw_M (dC, dI) vwCl h0 3 (fw_sl (fm_X6_toWhole h0_format h0_code h0_minus h0_m h0_power h0_infinite h0_none p1 p2 p3 p4).2) (some (.int ((fm_X6_toWhole h0_format h0_code h0_minus h0_m h0_power h0_infinite h0_none p1 p2 p3 p4).1)))) 0 0 (fun q => q = h0) := by
  refine Met.ofW (cc := cX6_toWhole) (maxL := 9) (ret := (some .int)) (by decide) rfl ?_
  intro p e s m args below meth c s₁ B hml hv
  obtain ⟨rfl, hP, hK⟩ := hv
  have hx := B.exec
  have hb := B.bytes
  have hr := B.returns
  have hts := atoms_spec (ws := wsX6_toWhole) B.pre
  have htf : ∀ w ∈ fc_all, w.before _ s = true := fun w h => hts w (List.mem_cons_of_mem _ h)
  have hown : s.vm.findClass RX6 = some m.cls := findClass_of_methodNamed B.named
  have hlocks := B.notSynchronized
  have hP : va_P (dC, dI) vwCl [(h0, .inr (3, [.int h0_format, .int h0_code, .int (jb h0_minus), .long h0_m, .int h0_power, .int (jb h0_infinite), .int (jb h0_none)]))] s.heap := hP
  have hD : va_D (fun q => q = h0) [(h0, .inr (3, [.int h0_format, .int h0_code, .int (jb h0_minus), .long h0_m, .int h0_power, .int (jb h0_infinite), .int (jb h0_none)]))] := fw_D1 rfl
  have hS : va_S (fun q => q = h0) s.heap s.heap [] := va_S.rf
  have hl := lv_entry ([.ref h0, .int p1, .int p2, .int p3, .int (jb p4)]) (n := 9) (Nat.le_of_ble_eq_true rfl)
  rw [lg_entry_eq]
  generalize (lg_sl ([.ref h0, .int p1, .int p2, .int p3, .int (jb p4)]) ++ List.replicate (9 - (lg_sl ([.ref h0, .int p1, .int p2, .int p3, .int (jb p4)])).length) Slot.unset).toArray = ls at hl ⊢
  have hl : lv_has ls 9 [(0, .ref h0), (1, .int p1), (2, .int p2), (3, .int p3), (4, .int (jb p4))] := hl
  have hT : fm_X6_toWhole h0_format h0_code h0_minus h0_m h0_power h0_infinite h0_none p1 p2 p3 p4 = fm_X6_toWhole h0_format h0_code h0_minus h0_m h0_power h0_infinite h0_none p1 p2 p3 p4 := rfl
  refine lv_aload_n hx hb dX6_toWhole_0 rfl (lv_at hl 0 rfl) ?_
  refine lv_iload_n hx hb dX6_toWhole_1 rfl (lv_at hl 1 rfl) ?_
  refine lv_iconst (v := 0) hx hb dX6_toWhole_2 (by decide) ?_
  refine lv_iconst (v := 4) hx hb dX6_toWhole_3 (by decide) ?_
  refine fw_call (va_runS (As := [.int p1, .int 0, .int 4]) (rest := [.ref h0]) ⟨hx, hb, hml, hown, htf⟩ (k_X6_in l p1 0 4) (va_cwS 3 htf (gd_S wk369 wk370 wk3 wk371) rfl rfl rfl ndX6_in ⟨Nat.le_of_ble_eq_true rfl, Nat.le_of_ble_eq_true rfl⟩) fw_PS rfl rfl hl.1 rfl (lv_room (Nat.le_of_ble_eq_true rfl)) dX6_toWhole_4 ⟨Nat.le_refl _, Nat.le_refl _⟩) ?_
  refine fw_join (j := 37) (ι := Bool) (LS := fun i ls => lv_has ls 9 [(0, .ref h0), (1, .int p1), (2, .int p2), (3, .int p3), (4, .int (jb p4))] ∧ i = (if (jb (fm_X6_in p1 0 4)) = 0 then false else (if (jb (fm_X6_isFloat h0_format h0_code h0_minus h0_m h0_power h0_infinite h0_none p2 h0_format)) = 0 then false else (if (jb (fm_X6_in p3 1 32)) = 0 then false else true)))) (ST := fun i => [.int (jb i), .ref h0]) ?_ (fun J2 => ?_)
  rotate_left
  · refine lv_if_eq (tgt := 36) hx hb dX6_toWhole_7 (by decide) (fun c3 => ?_) (fun c3 => ?_)
    · refine lv_iconst (v := 0) hx hb dX6_toWhole_36 (by decide) ?_
      exact J2 false ls ⟨lv_sub hl [0, 1, 2, 3, 4] rfl, by simp only [if_pos c3] <;> first | assumption | contradiction⟩
    · refine lv_aload_n hx hb dX6_toWhole_10 rfl (lv_at hl 0 rfl) ?_
      refine lv_iload_n hx hb dX6_toWhole_11 rfl (lv_at hl 2 rfl) ?_
      refine lv_aload_n hx hb dX6_toWhole_12 rfl (lv_at hl 0 rfl) ?_
      refine va_get (D := (dC, dI)) (ci := 3) (v := .int h0_format) (C := RX6) (T := TX6) (N := 7) hx hb htf hiX6 hown hK hP 0 rfl rfl 0 (by decide) (htf _ wk351) (fun _ h9 => h9) rfl dX6_toWhole_13 ?_
      refine fw_call (va_runV (As := [.int p2, .int h0_format]) (rest := [.ref h0]) ⟨hx, hb, hml, hown, htf⟩ (k_X6_isFloat l dC dI h0 h0_format h0_code h0_minus h0_m h0_power h0_infinite h0_none p2 h0_format) (cwV 2 htf (gd_V wk379 wk380 ws7 wk3 wk381) rfl rfl rfl ndX6_isFloat ⟨Nat.le_of_ble_eq_true rfl, Nat.le_of_ble_eq_true rfl⟩) (fw_RV (va_recv hK hP (ci := 3) (q0 := 0) rfl rfl) (hP.sub (ws' := [(h0, .inr (3, [.int h0_format, .int h0_code, .int (jb h0_minus), .long h0_m, .int h0_power, .int (jb h0_infinite), .int (jb h0_none)]))]) [0] rfl) hK) rfl rfl hl.1 rfl (lv_room (Nat.le_of_ble_eq_true rfl)) dX6_toWhole_16 ⟨Nat.le_refl _, Nat.le_refl _⟩) ?_
      refine lv_if_eq (tgt := 36) hx hb dX6_toWhole_19 (by decide) (fun c4 => ?_) (fun c4 => ?_)
      · refine lv_iconst (v := 0) hx hb dX6_toWhole_36 (by decide) ?_
        exact J2 false ls ⟨lv_sub hl [0, 1, 2, 3, 4] rfl, by simp only [if_neg c3, if_pos c4] <;> first | assumption | contradiction⟩
      · refine lv_iload_n hx hb dX6_toWhole_22 rfl (lv_at hl 3 rfl) ?_
        refine lv_iconst (v := 1) hx hb dX6_toWhole_23 (by decide) ?_
        refine lv_bipush (v := 32) hx hb dX6_toWhole_24 (by decide) ?_
        refine fw_call (va_runS (As := [.int p3, .int 1, .int 32]) (rest := [.ref h0]) ⟨hx, hb, hml, hown, htf⟩ (k_X6_in l p3 1 32) (va_cwS 3 htf (gd_S wk369 wk370 wk3 wk371) rfl rfl rfl ndX6_in ⟨Nat.le_of_ble_eq_true rfl, Nat.le_of_ble_eq_true rfl⟩) fw_PS rfl rfl hl.1 rfl (lv_room (Nat.le_of_ble_eq_true rfl)) dX6_toWhole_26 ⟨Nat.le_refl _, Nat.le_refl _⟩) ?_
        refine lv_if_eq (tgt := 36) hx hb dX6_toWhole_29 (by decide) (fun c5 => ?_) (fun c5 => ?_)
        · refine lv_iconst (v := 0) hx hb dX6_toWhole_36 (by decide) ?_
          exact J2 false ls ⟨lv_sub hl [0, 1, 2, 3, 4] rfl, by simp only [if_neg c3, if_neg c4, if_pos c5] <;> first | assumption | contradiction⟩
        · refine lv_iconst (v := 1) hx hb dX6_toWhole_32 (by decide) ?_
          refine lv_goto (tgt := 37) hx hb dX6_toWhole_33 (by decide) ?_
          exact J2 true ls ⟨lv_sub hl [0, 1, 2, 3, 4] rfl, by simp only [if_neg c3, if_neg c4, if_neg c5] <;> first | assumption | contradiction⟩
  rintro x1 ls ⟨hl, ex1⟩
  try dsimp only at hl ex1 ⊢
  have hT : fm_X6_toWhole h0_format h0_code h0_minus h0_m h0_power h0_infinite h0_none p1 p2 p3 p4 = fm_X6_toWhole_s1 h0_format h0_code h0_minus h0_m h0_power h0_infinite h0_none p1 p2 p3 p4 x1 := by rw [ex1]; exact hT
  refine fw_callM (va_runV (As := [.int (jb x1)]) (rest := []) ⟨hx, hb, hml, hown, htf⟩ (k_X6_good l dC dI h0 h0_format h0_code h0_minus h0_m h0_power h0_infinite h0_none x1) (cwV 1 htf (gd_V wk372 wk373 ws6 wk3 wk374) rfl rfl rfl ndX6_good ⟨Nat.le_of_ble_eq_true rfl, Nat.le_of_ble_eq_true rfl⟩) (fw_RV (va_recv hK hP (ci := 3) (q0 := 0) rfl rfl) hP hK) rfl rfl hl.1 rfl (lv_room (Nat.le_of_ble_eq_true rfl)) dX6_toWhole_37 ⟨Nat.le_refl _, Nat.le_refl _⟩) hS rfl (fun H locs hP _ _ hS => ?_)
  have hT : fm_X6_toWhole h0_format h0_code h0_minus h0_m h0_power h0_infinite h0_none p1 p2 p3 p4 = fm_X6_toWhole_s2 h0_format h0_code h0_minus h0_m h0_power h0_infinite h0_none p1 p2 p3 p4 x1 (fm_X6_good h0_format h0_code h0_minus h0_m h0_power h0_infinite h0_none x1) := hT
  generalize ez6 : fm_X6_good h0_format h0_code h0_minus h0_m h0_power h0_infinite h0_none x1 = z6 at hP hT ⊢
  have hP : va_P (dC, dI) vwCl [(h0, .inr (3, [.int z6.2.1, .int z6.2.2.1, .int (jb z6.2.2.2.1), .long z6.2.2.2.2.1, .int z6.2.2.2.2.2.1, .int (jb z6.2.2.2.2.2.2.1), .int (jb z6.2.2.2.2.2.2.2)]))] H := hP
  have hD : va_D (fun q => q = h0) [(h0, .inr (3, [.int z6.2.1, .int z6.2.2.1, .int (jb z6.2.2.2.1), .long z6.2.2.2.2.1, .int z6.2.2.2.2.2.1, .int (jb z6.2.2.2.2.2.2.1), .int (jb z6.2.2.2.2.2.2.2)]))] := fw_D1 rfl
  refine W.eq (g2 := F0 m 40 ls [.int (jb z6.1)]) rfl ?_
  refine lv_if_ne (tgt := 45) hx hb dX6_toWhole_40 (by decide) (fun c7 => ?_) (fun c7 => ?_)
  · have hT : fm_X6_toWhole h0_format h0_code h0_minus h0_m h0_power h0_infinite h0_none p1 p2 p3 p4 = fm_X6_toWhole_s4 h0_format h0_code h0_minus h0_m h0_power h0_infinite h0_none p1 p2 p3 p4 x1 z6 := hT.trans (if_neg c7)
    refine lv_aload_n hx hb dX6_toWhole_45 rfl (lv_at hl 0 rfl) ?_
    refine lv_iload_n hx hb dX6_toWhole_46 rfl (lv_at hl 2 rfl) ?_
    refine lv_i2l (v := p2.toInt64) hx hb dX6_toWhole_47 rfl ?_
    refine lv_aload_n hx hb dX6_toWhole_48 rfl (lv_at hl 0 rfl) ?_
    refine va_get (D := (dC, dI)) (ci := 3) (v := .int z6.2.1) (C := RX6) (T := TX6) (N := 7) hx hb htf hiX6 hown hK hP 0 rfl rfl 0 (by decide) (htf _ wk351) (fun _ h9 => h9) rfl dX6_toWhole_49 ?_
    refine fw_callM (va_runV (As := [.long p2.toInt64, .int z6.2.1]) (rest := []) ⟨hx, hb, hml, hown, htf⟩ (k_X6_take l dC dI h0 z6.2.1 z6.2.2.1 z6.2.2.2.1 z6.2.2.2.2.1 z6.2.2.2.2.2.1 z6.2.2.2.2.2.2.1 z6.2.2.2.2.2.2.2 p2.toInt64 z6.2.1) (cwV 2 htf (gd_V wk400 wk401 ws9 wk3 wk402) rfl rfl rfl ndX6_take ⟨Nat.le_of_ble_eq_true rfl, Nat.le_of_ble_eq_true rfl⟩) (fw_RV (va_recv hK hP (ci := 3) (q0 := 0) rfl rfl) hP hK) rfl rfl hl.1 rfl (lv_room (Nat.le_of_ble_eq_true rfl)) dX6_toWhole_52 ⟨Nat.le_refl _, Nat.le_refl _⟩) hS rfl (fun H locs hP _ _ hS => ?_)
    have hT : fm_X6_toWhole h0_format h0_code h0_minus h0_m h0_power h0_infinite h0_none p1 p2 p3 p4 = fm_X6_toWhole_s5 h0_format h0_code h0_minus h0_m h0_power h0_infinite h0_none p1 p2 p3 p4 x1 z6 (fm_X6_take z6.2.1 z6.2.2.1 z6.2.2.2.1 z6.2.2.2.2.1 z6.2.2.2.2.2.1 z6.2.2.2.2.2.2.1 z6.2.2.2.2.2.2.2 p2.toInt64 z6.2.1) := hT
    generalize ez8 : fm_X6_take z6.2.1 z6.2.2.1 z6.2.2.2.1 z6.2.2.2.2.1 z6.2.2.2.2.2.1 z6.2.2.2.2.2.2.1 z6.2.2.2.2.2.2.2 p2.toInt64 z6.2.1 = z8 at hP hT ⊢
    have hP : va_P (dC, dI) vwCl [(h0, .inr (3, [.int z8.1, .int z8.2.1, .int (jb z8.2.2.1), .long z8.2.2.2.1, .int z8.2.2.2.2.1, .int (jb z8.2.2.2.2.2.1), .int (jb z8.2.2.2.2.2.2)]))] H := hP
    have hD : va_D (fun q => q = h0) [(h0, .inr (3, [.int z8.1, .int z8.2.1, .int (jb z8.2.2.1), .long z8.2.2.2.1, .int z8.2.2.2.2.1, .int (jb z8.2.2.2.2.2.1), .int (jb z8.2.2.2.2.2.2)]))] := fw_D1 rfl
    refine W.eq (g2 := F0 m 55 ls []) rfl ?_
    refine lv_aload_n hx hb dX6_toWhole_55 rfl (lv_at hl 0 rfl) ?_
    refine va_get (D := (dC, dI)) (ci := 3) (v := .int (jb z8.2.2.2.2.2.2)) (C := RX6) (T := TX6) (N := 7) hx hb htf hiX6 hown hK hP 0 rfl rfl 6 (by decide) (htf _ wk357) (fun _ h9 => h9) rfl dX6_toWhole_56 ?_
    refine lv_if_ne (tgt := 69) hx hb dX6_toWhole_59 (by decide) (fun c9 => ?_) (fun c9 => ?_)
    · have hT : fm_X6_toWhole h0_format h0_code h0_minus h0_m h0_power h0_infinite h0_none p1 p2 p3 p4 = fm_X6_toWhole_s7 h0_format h0_code h0_minus h0_m h0_power h0_infinite h0_none p1 p2 p3 p4 x1 z6 z8 := hT.trans (if_neg c9)
      refine lv_iconst (v := 0) hx hb dX6_toWhole_69 (by decide) ?_
      have hEQ : fm_X6_toWhole h0_format h0_code h0_minus h0_m h0_power h0_infinite h0_none p1 p2 p3 p4 = (0, z8.1, z8.2.1, z8.2.2.1, z8.2.2.2.1, z8.2.2.2.2.1, z8.2.2.2.2.2.1, z8.2.2.2.2.2.2) := hT
      exact W.iret (v := 0) hx hb hr (fun t ht hW => ⟨by simp only [hEQ], by rw [ht]; simp only [hEQ, fw_sl]; exact hP, hS.F ht⟩) hS.2.2 dX6_toWhole_70
    · have hT : fm_X6_toWhole h0_format h0_code h0_minus h0_m h0_power h0_infinite h0_none p1 p2 p3 p4 = fm_X6_toWhole_s6 h0_format h0_code h0_minus h0_m h0_power h0_infinite h0_none p1 p2 p3 p4 x1 z6 z8 := hT.trans (if_pos c9)
      refine lv_aload_n hx hb dX6_toWhole_62 rfl (lv_at hl 0 rfl) ?_
      refine va_get (D := (dC, dI)) (ci := 3) (v := .int (jb z8.2.2.2.2.2.1)) (C := RX6) (T := TX6) (N := 7) hx hb htf hiX6 hown hK hP 0 rfl rfl 5 (by decide) (htf _ wk356) (fun _ h9 => h9) rfl dX6_toWhole_63 ?_
      refine lv_if_eq (tgt := 71) hx hb dX6_toWhole_66 (by decide) (fun c10 => ?_) (fun c10 => ?_)
      · have hT : fm_X6_toWhole h0_format h0_code h0_minus h0_m h0_power h0_infinite h0_none p1 p2 p3 p4 = fm_X6_toWhole_s8 h0_format h0_code h0_minus h0_m h0_power h0_infinite h0_none p1 p2 p3 p4 x1 z6 z8 := hT.trans (if_pos c10)
        refine lv_aload_n hx hb dX6_toWhole_71 rfl (lv_at hl 0 rfl) ?_
        refine va_get (D := (dC, dI)) (ci := 3) (v := .int z8.2.2.2.2.1) (C := RX6) (T := TX6) (N := 7) hx hb htf hiX6 hown hK hP 0 rfl rfl 4 (by decide) (htf _ wk355) (fun _ h9 => h9) rfl dX6_toWhole_72 ?_
        refine fw_join (j := 108) (ι := Int64) (LS := fun i ls => lv_has ls 9 [(0, .ref h0), (1, .int p1), (2, .int p2), (3, .int p3), (4, .int (jb p4))] ∧ i = (if z8.2.2.2.2.1 < 0 then (fm_X6_cut z8.2.2.2.1 (-z8.2.2.2.2.1) false p1 z8.2.2.1) else fc_shl z8.2.2.2.1 z8.2.2.2.2.1)) (ST := fun i => [.long i]) ?_ (fun J12 => ?_)
        rotate_left
        · refine lv_if_lt (tgt := 90) hx hb dX6_toWhole_75 (by decide) (fun c13 => ?_) (fun c13 => ?_)
          · refine lv_aload_n hx hb dX6_toWhole_90 rfl (lv_at hl 0 rfl) ?_
            refine va_get (D := (dC, dI)) (ci := 3) (v := .long z8.2.2.2.1) (C := RX6) (T := TX6) (N := 7) hx hb htf hiX6 hown hK hP 0 rfl rfl 3 (by decide) (htf _ wk354) (fun _ h9 => h9) rfl dX6_toWhole_91 ?_
            refine lv_aload_n hx hb dX6_toWhole_94 rfl (lv_at hl 0 rfl) ?_
            refine va_get (D := (dC, dI)) (ci := 3) (v := .int z8.2.2.2.2.1) (C := RX6) (T := TX6) (N := 7) hx hb htf hiX6 hown hK hP 0 rfl rfl 4 (by decide) (htf _ wk355) (fun _ h9 => h9) rfl dX6_toWhole_95 ?_
            refine lv_ineg hx hb dX6_toWhole_98 ?_
            refine lv_iconst (v := 0) hx hb dX6_toWhole_99 (by decide) ?_
            refine lv_iload_n hx hb dX6_toWhole_100 rfl (lv_at hl 1 rfl) ?_
            refine lv_aload_n hx hb dX6_toWhole_101 rfl (lv_at hl 0 rfl) ?_
            refine va_get (D := (dC, dI)) (ci := 3) (v := .int (jb z8.2.2.1)) (C := RX6) (T := TX6) (N := 7) hx hb htf hiX6 hown hK hP 0 rfl rfl 2 (by decide) (htf _ wk353) (fun _ h9 => h9) rfl dX6_toWhole_102 ?_
            refine fw_call (va_runS (As := [.long z8.2.2.2.1, .int (-z8.2.2.2.2.1), .int (jb false), .int p1, .int (jb z8.2.2.1)]) (rest := []) ⟨hx, hb, hml, hown, htf⟩ (k_X6_cut l z8.2.2.2.1 (-z8.2.2.2.2.1) false p1 z8.2.2.1) (va_cwS 5 htf (gd_S wk413 wk414 wk3 wk415) rfl rfl rfl ndX6_cut ⟨Nat.le_of_ble_eq_true rfl, Nat.le_of_ble_eq_true rfl⟩) fw_PS rfl rfl hl.1 rfl (lv_room (Nat.le_of_ble_eq_true rfl)) dX6_toWhole_105 ⟨Nat.le_refl _, Nat.le_refl _⟩) ?_
            exact J12 (fm_X6_cut z8.2.2.2.1 (-z8.2.2.2.2.1) false p1 z8.2.2.1) ls ⟨lv_sub hl [0, 1, 2, 3, 4] rfl, by simp only [if_pos c13] <;> first | assumption | contradiction⟩
          · refine lv_aload_n hx hb dX6_toWhole_78 rfl (lv_at hl 0 rfl) ?_
            refine va_get (D := (dC, dI)) (ci := 3) (v := .long z8.2.2.2.1) (C := RX6) (T := TX6) (N := 7) hx hb htf hiX6 hown hK hP 0 rfl rfl 3 (by decide) (htf _ wk354) (fun _ h9 => h9) rfl dX6_toWhole_79 ?_
            refine lv_aload_n hx hb dX6_toWhole_82 rfl (lv_at hl 0 rfl) ?_
            refine va_get (D := (dC, dI)) (ci := 3) (v := .int z8.2.2.2.2.1) (C := RX6) (T := TX6) (N := 7) hx hb htf hiX6 hown hK hP 0 rfl rfl 4 (by decide) (htf _ wk355) (fun _ h9 => h9) rfl dX6_toWhole_83 ?_
            refine lv_lshl (v := fc_shl z8.2.2.2.1 z8.2.2.2.2.1) hx hb dX6_toWhole_86 rfl ?_
            refine lv_goto (tgt := 108) hx hb dX6_toWhole_87 (by decide) ?_
            exact J12 (fc_shl z8.2.2.2.1 z8.2.2.2.2.1) ls ⟨lv_sub hl [0, 1, 2, 3, 4] rfl, by simp only [if_neg c13] <;> first | assumption | contradiction⟩
        rintro x11 ls ⟨hl, ex11⟩
        try dsimp only at hl ex11 ⊢
        have hT : fm_X6_toWhole h0_format h0_code h0_minus h0_m h0_power h0_infinite h0_none p1 p2 p3 p4 = fm_X6_toWhole_s10 h0_format h0_code h0_minus h0_m h0_power h0_infinite h0_none p1 p2 p3 p4 x1 z6 z8 x11 := by rw [ex11]; exact hT
        refine lv_lstore (lv' := [(5, .long x11), (0, .ref h0), (1, .int p1), (2, .int p2), (3, .int p3), (4, .int (jb p4))]) hx hb dX6_toWhole_108 hl (by decide) rfl (fun ls hl => ?_)
        refine lv_iload hx hb dX6_toWhole_110 (lv_at hl 5 rfl) ?_
        refine fw_join (j := 128) (ι := Int64) (LS := fun i ls => lv_has ls 9 [(5, .long x11), (0, .ref h0), (1, .int p1), (2, .int p2), (3, .int p3), (4, .int (jb p4))] ∧ i = (if (jb p4) = 0 then (fm_X6_mask p3) else fm_X6_mask (p3 - 1))) (ST := fun i => [.long i]) ?_ (fun J15 => ?_)
        rotate_left
        · refine lv_if_eq (tgt := 124) hx hb dX6_toWhole_112 (by decide) (fun c16 => ?_) (fun c16 => ?_)
          · refine lv_iload_n hx hb dX6_toWhole_124 rfl (lv_at hl 4 rfl) ?_
            refine fw_call (va_runS (As := [.int p3]) (rest := []) ⟨hx, hb, hml, hown, htf⟩ (k_X6_mask l p3) (va_cwS 1 htf (gd_S wk391 wk392 wk3 wk393) rfl rfl rfl ndX6_mask ⟨Nat.le_of_ble_eq_true rfl, Nat.le_of_ble_eq_true rfl⟩) fw_PS rfl rfl hl.1 rfl (lv_room (Nat.le_of_ble_eq_true rfl)) dX6_toWhole_125 ⟨Nat.le_refl _, Nat.le_refl _⟩) ?_
            exact J15 (fm_X6_mask p3) ls ⟨lv_sub hl [0, 1, 2, 3, 4, 5] rfl, by simp only [if_pos c16] <;> first | assumption | contradiction⟩
          · refine lv_iload_n hx hb dX6_toWhole_115 rfl (lv_at hl 4 rfl) ?_
            refine lv_iconst (v := 1) hx hb dX6_toWhole_116 (by decide) ?_
            refine lv_isub hx hb dX6_toWhole_117 ?_
            refine fw_call (va_runS (As := [.int (p3 - 1)]) (rest := []) ⟨hx, hb, hml, hown, htf⟩ (k_X6_mask l (p3 - 1)) (va_cwS 1 htf (gd_S wk391 wk392 wk3 wk393) rfl rfl rfl ndX6_mask ⟨Nat.le_of_ble_eq_true rfl, Nat.le_of_ble_eq_true rfl⟩) fw_PS rfl rfl hl.1 rfl (lv_room (Nat.le_of_ble_eq_true rfl)) dX6_toWhole_118 ⟨Nat.le_refl _, Nat.le_refl _⟩) ?_
            refine lv_goto (tgt := 128) hx hb dX6_toWhole_121 (by decide) ?_
            exact J15 (fm_X6_mask (p3 - 1)) ls ⟨lv_sub hl [0, 1, 2, 3, 4, 5] rfl, by simp only [if_neg c16] <;> first | assumption | contradiction⟩
        rintro x14 ls ⟨hl, ex14⟩
        try dsimp only at hl ex14 ⊢
        have hT : fm_X6_toWhole h0_format h0_code h0_minus h0_m h0_power h0_infinite h0_none p1 p2 p3 p4 = fm_X6_toWhole_s11 h0_format h0_code h0_minus h0_m h0_power h0_infinite h0_none p1 p2 p3 p4 x1 z6 z8 x11 x14 := by rw [ex14]; exact hT
        refine lv_lstore (lv' := [(7, .long x14), (5, .long x11), (0, .ref h0), (1, .int p1), (2, .int p2), (3, .int p3), (4, .int (jb p4))]) hx hb dX6_toWhole_128 hl (by decide) rfl (fun ls hl => ?_)
        refine lv_aload_n hx hb dX6_toWhole_130 rfl (lv_at hl 2 rfl) ?_
        refine va_get (D := (dC, dI)) (ci := 3) (v := .int (jb z8.2.2.1)) (C := RX6) (T := TX6) (N := 7) hx hb htf hiX6 hown hK hP 0 rfl rfl 2 (by decide) (htf _ wk353) (fun _ h9 => h9) rfl dX6_toWhole_131 ?_
        refine fw_join (j := 175) (ι := Unit) (LS := fun _ ls => lv_has ls 9 [(7, .long x14), (5, .long x11), (0, .ref h0), (1, .int p1), (2, .int p2), (3, .int p3), (4, .int (jb p4))] ∧ fm_X6_toWhole h0_format h0_code h0_minus h0_m h0_power h0_infinite h0_none p1 p2 p3 p4 = fm_X6_toWhole_175 h0_format h0_code h0_minus h0_m h0_power h0_infinite h0_none p1 p2 p3 p4 x1 z6 z8 x11 x14) (ST := fun _ => []) ?_ (fun J18 => ?_)
        rotate_left
        · refine lv_if_eq (tgt := 165) hx hb dX6_toWhole_134 (by decide) (fun c19 => ?_) (fun c19 => ?_)
          · have hT : fm_X6_toWhole h0_format h0_code h0_minus h0_m h0_power h0_infinite h0_none p1 p2 p3 p4 = fm_X6_toWhole_s12 h0_format h0_code h0_minus h0_m h0_power h0_infinite h0_none p1 p2 p3 p4 x1 z6 z8 x11 x14 := hT.trans (if_pos c19)
            refine lv_lload hx hb dX6_toWhole_165 (lv_at hl 1 rfl) ?_
            refine lv_lload hx hb dX6_toWhole_167 (lv_at hl 0 rfl) ?_
            refine W.lcmp hx hb dX6_toWhole_169 ?_
            refine lv_if_le (tgt := 175) hx hb dX6_toWhole_170 (by decide) (fun c20 => ?_) (fun c20 => ?_)
            · have hT : fm_X6_toWhole h0_format h0_code h0_minus h0_m h0_power h0_infinite h0_none p1 p2 p3 p4 = fm_X6_toWhole_s14 h0_format h0_code h0_minus h0_m h0_power h0_infinite h0_none p1 p2 p3 p4 x1 z6 z8 x11 x14 := hT.trans (if_pos c20)
              exact J18 () ls ⟨lv_sub hl [0, 1, 2, 3, 4, 5, 6] rfl, hT⟩
            · have hT : fm_X6_toWhole h0_format h0_code h0_minus h0_m h0_power h0_infinite h0_none p1 p2 p3 p4 = fm_X6_toWhole_s15 h0_format h0_code h0_minus h0_m h0_power h0_infinite h0_none p1 p2 p3 p4 x1 z6 z8 x11 x14 := hT.trans (if_neg c20)
              refine lv_iconst (v := 0) hx hb dX6_toWhole_173 (by decide) ?_
              have hEQ : fm_X6_toWhole h0_format h0_code h0_minus h0_m h0_power h0_infinite h0_none p1 p2 p3 p4 = (0, z8.1, z8.2.1, z8.2.2.1, z8.2.2.2.1, z8.2.2.2.2.1, z8.2.2.2.2.2.1, z8.2.2.2.2.2.2) := hT
              exact W.iret (v := 0) hx hb hr (fun t ht hW => ⟨by simp only [hEQ], by rw [ht]; simp only [hEQ, fw_sl]; exact hP, hS.F ht⟩) hS.2.2 dX6_toWhole_174
          · have hT : fm_X6_toWhole h0_format h0_code h0_minus h0_m h0_power h0_infinite h0_none p1 p2 p3 p4 = fm_X6_toWhole_s13 h0_format h0_code h0_minus h0_m h0_power h0_infinite h0_none p1 p2 p3 p4 x1 z6 z8 x11 x14 := hT.trans (if_neg c19)
            refine lv_iload hx hb dX6_toWhole_137 (lv_at hl 6 rfl) ?_
            refine lv_if_eq (tgt := 155) hx hb dX6_toWhole_139 (by decide) (fun c21 => ?_) (fun c21 => ?_)
            · have hT : fm_X6_toWhole h0_format h0_code h0_minus h0_m h0_power h0_infinite h0_none p1 p2 p3 p4 = fm_X6_toWhole_s16 h0_format h0_code h0_minus h0_m h0_power h0_infinite h0_none p1 p2 p3 p4 x1 z6 z8 x11 x14 := hT.trans (if_pos c21)
              refine lv_lload hx hb dX6_toWhole_155 (lv_at hl 1 rfl) ?_
              refine lv_lconst (v := 0) hx hb dX6_toWhole_157 (by decide) ?_
              refine W.lcmp hx hb dX6_toWhole_158 ?_
              refine lv_if_eq (tgt := 175) hx hb dX6_toWhole_159 (by decide) (fun c22 => ?_) (fun c22 => ?_)
              · have hT : fm_X6_toWhole h0_format h0_code h0_minus h0_m h0_power h0_infinite h0_none p1 p2 p3 p4 = fm_X6_toWhole_s18 h0_format h0_code h0_minus h0_m h0_power h0_infinite h0_none p1 p2 p3 p4 x1 z6 z8 x11 x14 := hT.trans (if_pos c22)
                exact J18 () ls ⟨lv_sub hl [0, 1, 2, 3, 4, 5, 6] rfl, hT⟩
              · have hT : fm_X6_toWhole h0_format h0_code h0_minus h0_m h0_power h0_infinite h0_none p1 p2 p3 p4 = fm_X6_toWhole_s19 h0_format h0_code h0_minus h0_m h0_power h0_infinite h0_none p1 p2 p3 p4 x1 z6 z8 x11 x14 := hT.trans (if_neg c22)
                refine lv_goto (tgt := 173) hx hb dX6_toWhole_162 (by decide) ?_
                refine lv_iconst (v := 0) hx hb dX6_toWhole_173 (by decide) ?_
                have hEQ : fm_X6_toWhole h0_format h0_code h0_minus h0_m h0_power h0_infinite h0_none p1 p2 p3 p4 = (0, z8.1, z8.2.1, z8.2.2.1, z8.2.2.2.1, z8.2.2.2.2.1, z8.2.2.2.2.2.1, z8.2.2.2.2.2.2) := hT
                exact W.iret (v := 0) hx hb hr (fun t ht hW => ⟨by simp only [hEQ], by rw [ht]; simp only [hEQ, fw_sl]; exact hP, hS.F ht⟩) hS.2.2 dX6_toWhole_174
            · have hT : fm_X6_toWhole h0_format h0_code h0_minus h0_m h0_power h0_infinite h0_none p1 p2 p3 p4 = fm_X6_toWhole_s17 h0_format h0_code h0_minus h0_m h0_power h0_infinite h0_none p1 p2 p3 p4 x1 z6 z8 x11 x14 := hT.trans (if_neg c21)
              refine lv_lload hx hb dX6_toWhole_142 (lv_at hl 1 rfl) ?_
              refine lv_lload hx hb dX6_toWhole_144 (lv_at hl 0 rfl) ?_
              refine lv_lconst (v := 1) hx hb dX6_toWhole_146 (by decide) ?_
              refine lv_ladd hx hb dX6_toWhole_147 ?_
              refine W.lcmp hx hb dX6_toWhole_148 ?_
              refine lv_if_le (tgt := 175) hx hb dX6_toWhole_149 (by decide) (fun c23 => ?_) (fun c23 => ?_)
              · have hT : fm_X6_toWhole h0_format h0_code h0_minus h0_m h0_power h0_infinite h0_none p1 p2 p3 p4 = fm_X6_toWhole_s20 h0_format h0_code h0_minus h0_m h0_power h0_infinite h0_none p1 p2 p3 p4 x1 z6 z8 x11 x14 := hT.trans (if_pos c23)
                exact J18 () ls ⟨lv_sub hl [0, 1, 2, 3, 4, 5, 6] rfl, hT⟩
              · have hT : fm_X6_toWhole h0_format h0_code h0_minus h0_m h0_power h0_infinite h0_none p1 p2 p3 p4 = fm_X6_toWhole_s21 h0_format h0_code h0_minus h0_m h0_power h0_infinite h0_none p1 p2 p3 p4 x1 z6 z8 x11 x14 := hT.trans (if_neg c23)
                refine lv_goto (tgt := 173) hx hb dX6_toWhole_152 (by decide) ?_
                refine lv_iconst (v := 0) hx hb dX6_toWhole_173 (by decide) ?_
                have hEQ : fm_X6_toWhole h0_format h0_code h0_minus h0_m h0_power h0_infinite h0_none p1 p2 p3 p4 = (0, z8.1, z8.2.1, z8.2.2.1, z8.2.2.2.1, z8.2.2.2.2.1, z8.2.2.2.2.2.1, z8.2.2.2.2.2.2) := hT
                exact W.iret (v := 0) hx hb hr (fun t ht hW => ⟨by simp only [hEQ], by rw [ht]; simp only [hEQ, fw_sl]; exact hP, hS.F ht⟩) hS.2.2 dX6_toWhole_174
        rintro _ ls ⟨hl, hT⟩
        refine lv_aload_n hx hb dX6_toWhole_175 rfl (lv_at hl 2 rfl) ?_
        refine va_get (D := (dC, dI)) (ci := 3) (v := .int (jb z8.2.2.1)) (C := RX6) (T := TX6) (N := 7) hx hb htf hiX6 hown hK hP 0 rfl rfl 2 (by decide) (htf _ wk353) (fun _ h9 => h9) rfl dX6_toWhole_176 ?_
        refine fw_join (j := 191) (ι := Int64) (LS := fun i ls => lv_has ls 9 [(7, .long x14), (5, .long x11), (0, .ref h0), (1, .int p1), (2, .int p2), (3, .int p3), (4, .int (jb p4))] ∧ i = (if (jb z8.2.2.1) = 0 then x11 else 0 - x11)) (ST := fun i => [.long i]) ?_ (fun J25 => ?_)
        rotate_left
        · refine lv_if_eq (tgt := 189) hx hb dX6_toWhole_179 (by decide) (fun c26 => ?_) (fun c26 => ?_)
          · refine lv_lload hx hb dX6_toWhole_189 (lv_at hl 1 rfl) ?_
            exact J25 x11 ls ⟨lv_sub hl [0, 1, 2, 3, 4, 5, 6] rfl, by simp only [if_pos c26] <;> first | assumption | contradiction⟩
          · refine lv_lconst (v := 0) hx hb dX6_toWhole_182 (by decide) ?_
            refine lv_lload hx hb dX6_toWhole_183 (lv_at hl 1 rfl) ?_
            refine lv_lsub hx hb dX6_toWhole_185 ?_
            refine lv_goto (tgt := 191) hx hb dX6_toWhole_186 (by decide) ?_
            exact J25 (0 - x11) ls ⟨lv_sub hl [0, 1, 2, 3, 4, 5, 6] rfl, by simp only [if_neg c26] <;> first | assumption | contradiction⟩
        rintro x24 ls ⟨hl, ex24⟩
        try dsimp only at hl ex24 ⊢
        have hT : fm_X6_toWhole h0_format h0_code h0_minus h0_m h0_power h0_infinite h0_none p1 p2 p3 p4 = fm_X6_toWhole_s22 h0_format h0_code h0_minus h0_m h0_power h0_infinite h0_none p1 p2 p3 p4 x1 z6 z8 x11 x14 x24 := by rw [ex24]; exact hT
        refine lv_iload_n hx hb dX6_toWhole_191 rfl (lv_at hl 5 rfl) ?_
        refine fw_call (va_runS (As := [.int p3]) (rest := [.long x24]) ⟨hx, hb, hml, hown, htf⟩ (k_X6_mask l p3) (va_cwS 1 htf (gd_S wk391 wk392 wk3 wk393) rfl rfl rfl ndX6_mask ⟨Nat.le_of_ble_eq_true rfl, Nat.le_of_ble_eq_true rfl⟩) fw_PS rfl rfl hl.1 rfl (lv_room (Nat.le_of_ble_eq_true rfl)) dX6_toWhole_192 ⟨Nat.le_refl _, Nat.le_refl _⟩) ?_
        refine lv_land hx hb dX6_toWhole_195 ?_
        refine lv_l2i (v := (x24 &&& (fm_X6_mask p3)).toInt32) hx hb dX6_toWhole_196 rfl ?_
        have hEQ : fm_X6_toWhole h0_format h0_code h0_minus h0_m h0_power h0_infinite h0_none p1 p2 p3 p4 = ((x24 &&& (fm_X6_mask p3)).toInt32, z8.1, z8.2.1, z8.2.2.1, z8.2.2.2.1, z8.2.2.2.2.1, z8.2.2.2.2.2.1, z8.2.2.2.2.2.2) := hT
        exact W.iret (v := (x24 &&& (fm_X6_mask p3)).toInt32) hx hb hr (fun t ht hW => ⟨by simp only [hEQ], by rw [ht]; simp only [hEQ, fw_sl]; exact hP, hS.F ht⟩) hS.2.2 dX6_toWhole_197
      · have hT : fm_X6_toWhole h0_format h0_code h0_minus h0_m h0_power h0_infinite h0_none p1 p2 p3 p4 = fm_X6_toWhole_s9 h0_format h0_code h0_minus h0_m h0_power h0_infinite h0_none p1 p2 p3 p4 x1 z6 z8 := hT.trans (if_neg c10)
        refine lv_iconst (v := 0) hx hb dX6_toWhole_69 (by decide) ?_
        have hEQ : fm_X6_toWhole h0_format h0_code h0_minus h0_m h0_power h0_infinite h0_none p1 p2 p3 p4 = (0, z8.1, z8.2.1, z8.2.2.1, z8.2.2.2.1, z8.2.2.2.2.1, z8.2.2.2.2.2.1, z8.2.2.2.2.2.2) := hT
        exact W.iret (v := 0) hx hb hr (fun t ht hW => ⟨by simp only [hEQ], by rw [ht]; simp only [hEQ, fw_sl]; exact hP, hS.F ht⟩) hS.2.2 dX6_toWhole_70
  · have hT : fm_X6_toWhole h0_format h0_code h0_minus h0_m h0_power h0_infinite h0_none p1 p2 p3 p4 = fm_X6_toWhole_s3 h0_format h0_code h0_minus h0_m h0_power h0_infinite h0_none p1 p2 p3 p4 x1 z6 := hT.trans (if_pos c7)
    refine lv_iconst (v := 0) hx hb dX6_toWhole_43 (by decide) ?_
    have hEQ : fm_X6_toWhole h0_format h0_code h0_minus h0_m h0_power h0_infinite h0_none p1 p2 p3 p4 = (0, z6.2.1, z6.2.2.1, z6.2.2.2.1, z6.2.2.2.2.1, z6.2.2.2.2.2.1, z6.2.2.2.2.2.2.1, z6.2.2.2.2.2.2.2) := hT
    exact W.iret (v := 0) hx hb hr (fun t ht hW => ⟨by simp only [hEQ], by rw [ht]; simp only [hEQ, fw_sl]; exact hP, hS.F ht⟩) hS.2.2 dX6_toWhole_44
