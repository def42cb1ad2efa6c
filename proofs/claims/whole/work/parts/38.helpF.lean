/-! THE LAW'S HELPER format: x may get a new Format -/
/-- what holds of x's Format, out: xf at e, s -/
abbrev fw_U : Type := Nat × Int32 × Int32 × (Nat → Int64)
abbrev fw_Fl (e s : Int32) : List Value := [.int (fm_X0_init_0 e s), .int (fm_X0_init_1 e s), .int (fm_X0_init_2 e s), .int (fm_X0_init_3 e s), .int (fm_X0_init_4 e s), .int (fm_X0_init_5 e s)]
def fw_FQ (D : va_G) (x xf o : Nat) (cA : ClassId) (sz : Nat) (e s p1 p2 : Int32) : Array Value → State → Outcome → State → Prop :=
  va_Qi (fun (r : Int32) (u : fw_U) => r = jb (!fc_X5_format p1 p2) ∧ (fc_X5_format p1 p2 = true → sz ≤ u.1 ∧ u.2.1 = p1 ∧ u.2.2.1 = p2 ∧ u.2.2.2 0 = (fm_X0_init_0 p1 p2).toInt64) ∧ (fc_X5_format p1 p2 = false → u.1 = xf ∧ u.2.1 = e ∧ u.2.2.1 = s))
    (fun u t => va_P D vwCl [(x, .inr (2, [.ref u.1])), (u.1, .inr (0, fw_Fl u.2.1 u.2.2.1)), fw_oc o cA u.2.2.2] t.heap) (fun a => a = x ∨ a = o ∨ sz ≤ a)
section FLF
variable {p : Program} {l : Launch} {e : Env} {R : Room} {s : State} {m : MethodId} {args : Array Value} {below : List Frame} {meth : Method} {c : Code} {H : Heap} {locs : List Loc} {cells slots : Nat} {Q : State → Prop}
theorem fw_callF {pc mc ms : Nat} {ls : Array Slot} {st0 rest : List Value} {a : Array Value} {B : Bool} {v : Value} {A0 : Nat → Prop} {H0 : Heap} {D : va_G} {x : Nat} {e' s' : Int32}
    (hr : vx_Run p l e R s m args below meth c H locs cells slots mc ms (F0 m pc ls st0) rest ((fun _ st oc t => B = true ∧ oc = .returned (some v) ∧ fw_N D x e' s' st t : Array Value → State → Outcome → State → Prop) a) (fw_XX B) (fun q => q = x ∨ H.size ≤ q)) (hS : va_S A0 H0 H locs) (hA : ∀ q, H0.size ≤ q → A0 q) (hAx : A0 x)
    (kx : B = false → ∀ (q : Addr) (ce : Cell) (H1 : Heap) (locs1 : List Loc), fw_pre H H1 → va_S A0 H0 H1 locs1 → H1[q]? = some ce → ce.vm = .none → s.vm.findClass fw_IAE = some ce.cls → vx_W p l e R s m args below meth c H1 locs1 (cells + mc) (slots + ms) Q (F0 m pc ls rest) q)
    (kk : B = true → ∀ (z : Nat) (H1 : Heap) (locs1 : List Loc), H.size ≤ z → va_P D vwCl [(x, .inr (2, [.ref z])), (z, .inr (0, fw_Fl e' s'))] H1 → (∀ q : Nat, q < H.size → q ≠ x → H1[q]? = H[q]?) → va_S A0 H0 H1 locs1 → W p l e R s m args below meth c H1 locs1 (cells + mc) (slots + ms) Q (F0 m (pc + 3) ls (v :: rest))) :
    W p l e R s m args below meth c H locs cells slots Q (F0 m pc ls st0) := by
  intro T hT X
  rcases hr T hT X with ⟨v', st₀, t, T', L, h0, X', hL, e1, e2, ⟨hB, hv, z, hz, hP, hF⟩, st⟩ | ⟨q, st₀, t, T', L, E, ce, h0, X', hL, e1, e2, ⟨hB, rfl, hg⟩, hce, hcv, hcl, st⟩
  · cases hv
    obtain ⟨f1, f2⟩ := hF
    rw [h0] at hz f1 f2
    rw [← e1] at hP f1 f2
    have hlocs : ∀ y ∈ locs ++ L, A0 y.base := fun y hy => by
      rcases List.mem_append.mp hy with h | h
      · exact hS.2.2 y h
      · rcases hL y h with h9 | h9
        · rw [h9]; exact hAx
        · exact hA _ (Nat.le_trans hS.1 h9)
    obtain ⟨t2, a1, b1⟩ := kk hB z T'.heap (locs ++ L) hz hP (fun q h1 h2 => f2 q h1 (fun h => h.elim h2 (fun h9 => absurd h1 (Nat.not_lt.mpr h9))))
      ⟨Nat.le_trans hS.1 f1, fun q h1 h2 => (f2 q (Nat.lt_of_lt_of_le h1 hS.1) (fun h => h.elim (fun h9 => h2 (by rw [h9]; exact hAx)) (fun h9 => absurd (Nat.lt_of_lt_of_le h1 hS.1) (Nat.not_lt.mpr h9)))).trans (hS.2.1 q h1 h2), hlocs⟩ T' rfl X'
    exact ⟨t2, st t2 a1, b1⟩
  · have hg' : fw_pre H T'.heap := by rw [e1, ← h0]; exact hg
    obtain ⟨t2, a1, b1⟩ := kx hB q ce T'.heap (locs ++ L) hg'
      ⟨Nat.le_trans hS.1 hg'.1, fun z h1 h2 => (hg'.2 z (Nat.lt_of_lt_of_le h1 hS.1)).trans (hS.2.1 z h1 h2), fun z hz => by
        rcases List.mem_append.mp hz with h | h
        · exact hS.2.2 z h
        · rcases hL z h with h9 | h9
          · rw [h9]; exact hAx
          · exact hA _ (Nat.le_trans hS.1 h9)⟩ (by rw [e1]; exact hce) hcv hcl T' rfl X'
    exact ⟨t2, st.trans a1, b1⟩
end FLF
theorem ndX5_format : yX5_format.cls = RX5 ∧ yX5_format.cls ≠ "java/lang/invoke/MethodHandle" ∧ yX5_format.cls ≠ "java/lang/invoke/VarHandle" ∧ (parseMethodDescriptor yX5_format.desc).map (fun d => d.parameters.length) = some 2 := by decide +kernel
/-- three cells, apart -/
theorem fw_D3 {A : Nat → Prop} {a b c : Nat} {x y z : va_E} (h1 : a ≠ b) (h2 : a ≠ c) (h3 : b ≠ c) (ha : A a) (hb : A b) (hc : A c) : va_D A [(a, x), (b, y), (c, z)] := by
  refine ⟨fun i j p q hp hq he => ?_, fun k q hk => ?_⟩
  · match i, j, hp, hq with
    | 0, 0, _, _ => rfl
    | 1, 1, _, _ => rfl
    | 2, 2, _, _ => rfl
    | 0, 1, hp, hq => cases hp; cases hq; exact absurd he h1
    | 1, 0, hp, hq => cases hp; cases hq; exact absurd he.symm h1
    | 0, 2, hp, hq => cases hp; cases hq; exact absurd he h2
    | 2, 0, hp, hq => cases hp; cases hq; exact absurd he.symm h2
    | 1, 2, hp, hq => cases hp; cases hq; exact absurd he h3
    | 2, 1, hp, hq => cases hp; cases hq; exact absurd he.symm h3
    | i + 3, _, hp, _ => simp at hp
    | _, j + 3, _, hq => simp at hq
  · match k, hk with
    | 0, hk => cases hk; exact ha
    | 1, hk => cases hk; exact hb
    | 2, hk => cases hk; exact hc
    | k + 3, hk => simp at hk
/-- cells kept one by one -/
theorem fw_P1 {D : va_G} {cl : List vw_C} {a : Nat} {x : va_E} {H H1 : Heap} (h : va_P D cl [(a, x)] H) (hk : H1[a]? = H[a]?) : va_P D cl [(a, x)] H1 := h.kept (fun k q h9 => by
  have h3 := List.mem_of_getElem? h9
  simp only [List.mem_cons, List.not_mem_nil, or_false] at h3
  subst h3
  exact hk)
set_option maxHeartbeats 4000000 in
set_option maxRecDepth 100000 in
theorem k_L_format (l : Launch) (hl9 : l.stackTraces = false) (dC : Nat → ClassId) (dI : Nat → Nat → Nat) (sz x xf o : Nat) (cA : ClassId) (g : Nat → Int64) (fe fs p1 p2 : Int32) (hox : o ≠ x) (hoxf : o ≠ xf) : Met l yL_format wsL_format { frames := 8, cells := 2, slots := 12, locals := 123 } (fw_H (dC, dI) [(x, .inr (2, [.ref xf])), (xf, .inr (0, fw_Fl fe fs)), (o, .inl (cA, 1, .inr (.inl g)))] cA sz [.ref x, .int p1, .int p2, .ref o]) (fw_FQ (dC, dI) x xf o cA sz fe fs p1 p2) 2 12 (fun a => a = x ∨ a = o ∨ sz ≤ a) := by
  refine va_MetW (cc := cL_format) (maxL := 5) (ret := some .int) (hh := [(0, 10, 13, 13)]) (by decide) rfl ?_
  intro p e s m args below meth c s₁ B0 hml hv
  obtain ⟨rfl, hE, hP, hK⟩ := hv
  have hsz := hE.1
  subst hsz
  have hx := B0.exec
  have hb := B0.bytes
  have hr := B0.returns
  have hts := atoms_spec (ws := wsL_format) B0.pre
  have htf : ∀ w ∈ fc_all, w.before _ s = true := fun w h => hts w (List.mem_cons_of_mem _ h)
  have hown : s.vm.findClass RL = some m.cls := findClass_of_methodNamed B0.named
  have htb := vx_table (x := yL_format) B0 (hts _ List.mem_cons_self)
  have hP : va_P (dC, dI) vwCl [(x, .inr (2, [.ref xf])), (xf, .inr (0, fw_Fl fe fs)), (o, .inl (cA, 1, .inr (.inl g)))] s.heap := hP
  have hol : o < s.heap.size := vx_lt hP (k := 2) rfl
  have hS : va_S (fun a => a = x ∨ a = o ∨ s.heap.size ≤ a) s.heap s.heap [] := va_S.rf
  have hA : ∀ q : Nat, s.heap.size ≤ q → (fun a => a = x ∨ a = o ∨ s.heap.size ≤ a) q := fun _ h => Or.inr (Or.inr h)
  have hl := lv_entry ([.ref x, .int p1, .int p2, .ref o]) (n := 5) (Nat.le_of_ble_eq_true rfl)
  rw [lg_entry_eq]
  generalize (lg_sl ([.ref x, .int p1, .int p2, .ref o]) ++ List.replicate (5 - (lg_sl ([.ref x, .int p1, .int p2, .ref o])).length) Slot.unset).toArray = ls at hl ⊢
  have hl : lv_has ls 5 [(0, .ref x), (1, .int p1), (2, .int p2), (3, .ref o)] := hl
  refine lv_aload_n hx hb dL_format_0 rfl (lv_at hl 3 rfl) ?_
  refine lv_iconst (v := 0) hx hb dL_format_1 (by decide) ?_
  refine lv_aload_n hx hb dL_format_2 rfl (lv_at hl 0 rfl) ?_
  refine lv_iload_n hx hb dL_format_3 rfl (lv_at hl 1 rfl) ?_
  refine lv_iload_n hx hb dL_format_4 rfl (lv_at hl 2 rfl) ?_
  refine fw_callF (a := #[]) (vx_runV (As := [.int p1, .int p2]) (rest := [.int 0, .ref o]) ⟨hx, hb, hml, hown, htf⟩ (k_X5_format l hl9 dC dI s.heap.size x xf (fm_X0_init_0 fe fs) (fm_X0_init_1 fe fs) (fm_X0_init_2 fe fs) (fm_X0_init_3 fe fs) (fm_X0_init_4 fe fs) (fm_X0_init_5 fe fs) p1 p2) (cwV 2 htf (gd_V wk42 wk43 wk44 wk1 wk45) rfl rfl rfl ndX5_format ⟨Nat.le_of_ble_eq_true rfl, Nat.le_of_ble_eq_true rfl⟩) (fw_XV (va_recv hK hP (ci := 2) (q0 := 0) rfl rfl) hE fw_pre.rf (hP.sub (ws' := [(x, .inr (2, [.ref xf])), (xf, .inr (0, fw_Fl fe fs))]) [0, 1] rfl) hK) rfl rfl hl.1 rfl (lv_room (Nat.le_of_ble_eq_true rfl)) dL_format_5 ⟨Nat.le_of_ble_eq_true rfl, Nat.le_of_ble_eq_true rfl⟩) hS hA (Or.inl rfl) (fun hB q ce H1 locs hg hS hce hcv hcl => ?_) (fun hB z H1 locs hz hPn hkp hS => ?_)
  · refine vx_catch (E := fw_IAE) (name := fw_IAE) hown [] { startPc := 0, endPc := 10, handlerPc := 13, catchType := 13 } [] (htb.trans fw_tab) (fun z hz => nomatch hz) (by decide) (by decide) (htf _ wk41) (va_Nw.use rfl hE.2.1.2.2.2.2) hce hcv hcl ?_
    refine lv_astore (lv' := (4, .ref q) :: [(0, .ref x), (1, .int p1), (2, .int p2), (3, .ref o)]) hx hb dL_format_13 hl (by decide) rfl (fun ls hl => ?_)
    refine lv_iconst (v := 1) hx hb dL_format_15 (by decide) ?_
    exact W.iret (v := 1) hx hb hr (fun t ht hW => ⟨⟨1, (xf, fe, fs, g), rfl, ⟨by rw [hB]; rfl, fun h => absurd (hB.symm.trans h) (by decide), fun _ => ⟨rfl, rfl, rfl⟩⟩, by dsimp only; rw [ht]; exact hg.P hP⟩, hS.F ht⟩) hS.2.2 dL_format_16
  · have hPo : va_P (dC, dI) vwCl [fw_oc o cA g] H1 := fw_P1 (hP.sub (ws' := [fw_oc o cA g]) [2] rfl) (hkp o hol hox)
    have hxl : x < s.heap.size := vx_lt hP (k := 0) rfl
    have hPa : va_P (dC, dI) vwCl [(x, .inr (2, [.ref z])), (z, .inr (0, fw_Fl p1 p2)), fw_oc o cA g] H1 := hPn.app hPo
    have hDa : va_D (fun a => a = x ∨ a = o ∨ s.heap.size ≤ a) [(x, .inr (2, [.ref z])), (z, .inr (0, fw_Fl p1 p2)), fw_oc o cA g] := fw_D3 (by omega) (Ne.symm hox) (by omega) (Or.inl rfl) (Or.inr (Or.inr hz)) (Or.inr (Or.inl rfl))
    refine lv_i2l (v := (fm_X0_init_0 p1 p2).toInt64) hx hb dL_format_8 rfl ?_
    refine va_last hx hb hK hPa hDa hS 2 0 rfl rfl (i := 0) (x := (fm_X0_init_0 p1 p2).toInt64) (vp_in0) dL_format_9 (fun H2 locs2 hPa hDa hS => ?_)
    refine lv_goto (tgt := 17) hx hb dL_format_10 (by decide) ?_
    refine lv_iconst (v := 0) hx hb dL_format_17 (by decide) ?_
    exact W.iret (v := 0) hx hb hr (fun t ht hW => ⟨⟨0, (z, p1, p2, vp_updL g (0 : Int32).toNatClampNeg (fm_X0_init_0 p1 p2).toInt64), rfl, ⟨by rw [hB]; rfl, fun _ => ⟨hz, rfl, rfl, rfl⟩, fun h => absurd (hB.symm.trans h) (by decide)⟩, by dsimp only; rw [ht]; exact hPa⟩, hS.F ht⟩) hS.2.2 dL_format_18
