theorem ndX6_init : yX6_init.cls ≠ "java/lang/invoke/MethodHandle" ∧ yX6_init.cls ≠ "java/lang/invoke/VarHandle" ∧ (parseMethodDescriptor yX6_init.desc).map (fun d => d.parameters.length) = some 0 := by decide +kernel
def fm_X6_init_0  : Int32 := 1511
def fm_X6_init_1  : Int32 := 0
def fm_X6_init_2  : Int32 := 0
def fm_X6_init_3  : Int64 := 0
def fm_X6_init_4  : Int32 := 0
def fm_X6_init_5  : Int32 := 0
def fm_X6_init_6  : Int32 := 0
set_option maxHeartbeats 4000000 in
set_option maxRecDepth 100000 in
theorem k_X6_init (l : Launch) (dC : Nat → ClassId) (dI : Nat → Nat → Nat) (h0 : Nat) : Met l yX6_init wsX6_init { frames := 1, cells := 0, slots := 0, locals := 12 } (fw_R (dC, dI) vwCl [(h0, .inr (3, [.int 0, .int 0, .int 0, .long 0, .int 0, .int 0, .int 0]))] [.ref h0]) (fw_M (dC, dI) vwCl h0 3 [.int fm_X6_init_0, .int fm_X6_init_1, .int fm_X6_init_2, .long fm_X6_init_3, .int fm_X6_init_4, .int fm_X6_init_5, .int fm_X6_init_6] none) 0 0 (fun q => q = h0) := by
  refine Met.ofW (cc := cX6_init) (maxL := 1) (ret := none) (by decide) rfl ?_
  intro p e s m args below meth c s₁ B hml hv
  obtain ⟨rfl, hP, hK⟩ := hv
  have hx := B.exec
  have hb := B.bytes
  have hr := B.returns
  have hts := atoms_spec (ws := wsX6_init) B.pre
  have htf : ∀ w ∈ fc_all, w.before _ s = true := fun w h => hts w (List.mem_cons_of_mem _ h)
  have hown : s.vm.findClass RX6 = some m.cls := findClass_of_methodNamed B.named
  have hlocks := B.notSynchronized
  have hin : meth.name = "<init>" := (name_of_methodNamed B.named B.method).1
  have hP : va_P (dC, dI) vwCl [(h0, .inr (3, [.int 0, .int 0, .int 0, .long 0, .int 0, .int 0, .int 0]))] s.heap := hP
  have hD : va_D (fun q => q = h0) [(h0, .inr (3, [.int 0, .int 0, .int 0, .long 0, .int 0, .int 0, .int 0]))] := fw_D1 rfl
  have hS : va_S (fun q => q = h0) s.heap s.heap [] := va_S.rf
  have hl := lv_entry ([.ref h0]) (n := 1) (Nat.le_of_ble_eq_true rfl)
  rw [lg_entry_eq]
  generalize (lg_sl ([.ref h0]) ++ List.replicate (1 - (lg_sl ([.ref h0])).length) Slot.unset).toArray = ls at hl ⊢
  have hl : lv_has ls 1 [(0, .ref h0)] := hl
  refine lv_aload_n hx hb dX6_init_0 rfl (lv_at hl 0 rfl) ?_
  refine W.objInit hx hb hown (htf _ wk350) (htf _ wk20) (htf _ wk21) rfl (by rw [hml]; exact hl.1) rfl dX6_init_1 (Nat.le_of_ble_eq_true rfl) (Nat.le_of_ble_eq_true rfl) ?_
  refine W.eq (g2 := F0 m 4 ls []) rfl ?_
  refine lv_aload_n hx hb dX6_init_4 rfl (lv_at hl 0 rfl) ?_
  refine lv_sipush (v := 1511) hx hb dX6_init_5 (by decide) ?_
  refine va_put (D := (dC, dI)) (ci := 3) (v := .int 1511) (ty := .int) (C := RX6) (T := TX6) (N := 7) hx hb htf hiX6 tyX6 tyX6_ok nmX6 hown hK hP hD hS 0 rfl rfl 0 (by decide) (htf _ wk351) (fun _ h9 => h9) rfl (by decide +kernel) rfl rfl (Nat.le_of_ble_eq_true rfl) dX6_init_8 (fun H locs hP hD hS => ?_)
  have hP : va_P (dC, dI) vwCl [(h0, .inr (3, [.int 1511, .int 0, .int 0, .long 0, .int 0, .int 0, .int 0]))] H := hP
  have hD : va_D (fun q => q = h0) [(h0, .inr (3, [.int 1511, .int 0, .int 0, .long 0, .int 0, .int 0, .int 0]))] := hD
  exact W.vret hx hb hr (fun t ht hW => ⟨rfl, by rw [ht]; exact hP, hS.F ht⟩) hS.2.2 dX6_init_11
