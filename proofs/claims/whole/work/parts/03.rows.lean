/-! ROWS OF MY OWN over the kit's -/
/-- a boolean on the machine -/
def jb (b : Bool) : Int32 := cond b 1 0
theorem jb_n (b : Bool) : narrow .boolean (.int (jb b)) = .int (jb b) := by cases b <;> rfl
theorem jb_f (b : Bool) : fits .boolean (.int (jb b)) = true := by cases b <;> rfl
theorem jb_0 (b : Bool) : (jb b = 0) ↔ b = false := by cases b <;> decide
section FW
variable {p : Program} {l : Launch} {e : Env} {R : Room} {s : State} {m : MethodId} {args : Array Value} {below : List Frame} {meth : Method} {c : Code} {H : Heap} {locs : List Loc} {cells slots : Nat} {Q : State → Prop}
/-- the rest from a join on, taken once -/
theorem fw_join {pc j : Nat} {ls0 : Array Slot} {st0 : List Value} {ι : Type} {LS : ι → Array Slot → Prop} {ST : ι → List Value} (k : ∀ (i : ι) (ls : Array Slot), LS i ls → W p l e R s m args below meth c H locs cells slots Q (F0 m j ls (ST i)))
    (h : (∀ (i : ι) (ls : Array Slot), LS i ls → W p l e R s m args below meth c H locs cells slots Q (F0 m j ls (ST i))) → W p l e R s m args below meth c H locs cells slots Q (F0 m pc ls0 st0)) : W p l e R s m args below meth c H locs cells slots Q (F0 m pc ls0 st0) := h k
theorem fw_topi {pc : Nat} {ls : Array Slot} {rest : List Value} {x : Int32} (k : W p l e R s m args below meth c H locs cells slots Q (F0 m pc ls (.int x :: rest))) : W p l e R s m args below meth c H locs cells slots Q (F0 m pc ls (.int x :: rest)) := k
/-- a loop that counts up to N -/
theorem fw_up {head N : Nat} {LS : Nat → Array Slot → Prop} (kx : ∀ ls : Array Slot, LS N ls → W p l e R s m args below meth c H locs cells slots Q (F0 m head ls []))
    (ks : ∀ (k : Nat) (ls : Array Slot), k < N → LS k ls → (∀ ls' : Array Slot, LS (k + 1) ls' → W p l e R s m args below meth c H locs cells slots Q (F0 m head ls' [])) → W p l e R s m args below meth c H locs cells slots Q (F0 m head ls [])) {ls : Array Slot} (h0 : LS 0 ls) : W p l e R s m args below meth c H locs cells slots Q (F0 m head ls []) := by
  have key : ∀ (n k : Nat), k + n = N → ∀ ls : Array Slot, LS k ls → W p l e R s m args below meth c H locs cells slots Q (F0 m head ls []) := by
    intro n
    induction n with
    | zero =>
      intro k hk ls h
      have : k = N := hk
      subst this
      exact kx ls h
    | succ n ih =>
      intro k hk ls h
      exact ks k ls (by omega) h (fun ls' h' => ih (k + 1) (by omega) ls' h')
  exact key N 0 (by omega) ls h0
/-- a loop with n turns left, over a state -/
theorem fw_down {head : Nat} {σ : Type} {LS : Nat → σ → Array Slot → Prop} (kx : ∀ (a : σ) (ls : Array Slot), LS 0 a ls → W p l e R s m args below meth c H locs cells slots Q (F0 m head ls []))
    (ks : ∀ (n : Nat) (a : σ) (ls : Array Slot), LS (n + 1) a ls → (∀ (b : σ) (ls' : Array Slot), LS n b ls' → W p l e R s m args below meth c H locs cells slots Q (F0 m head ls' [])) → W p l e R s m args below meth c H locs cells slots Q (F0 m head ls [])) : ∀ (n : Nat) (a : σ) (ls : Array Slot), LS n a ls → W p l e R s m args below meth c H locs cells slots Q (F0 m head ls []) := by
  intro n
  induction n with
  | zero => exact kx
  | succ n ih => exact fun a ls h => ks n a ls h ih
/-- what a method that changes nothing answers -/
def fw_Q (v : Value) : Array Value → State → Outcome → State → Prop := fun _ st oc t => oc = .returned (some v) ∧ t.heap = st.heap
theorem fw_call {pc : Nat} {ls : Array Slot} {st0 rest : List Value} {v : Value} {a : Array Value} (hr : va_Run p l e R s m args below meth c H locs cells slots 0 0 (F0 m pc ls st0) rest (fw_Q v a) (fun _ => False))
    (kk : W p l e R s m args below meth c H locs cells slots Q (F0 m (pc + 3) ls (v :: rest))) : W p l e R s m args below meth c H locs cells slots Q (F0 m pc ls st0) := by
  intro T hT X
  obtain ⟨v', st₀, t, T', L, h0, X', hL, e1, -, ⟨hv, hh⟩, st⟩ := hr T hT X
  cases hv
  obtain ⟨t2, a1, b1⟩ := kk T' (by rw [e1, hh, h0]) (Stand.forget X' (fun q h => (hL q h).elim))
  exact ⟨t2, st t2 a1, b1⟩
end FW
theorem fw_ne {x y : Int32} (h : ¬ x = y) {v : Int} (hv : y.toInt = v) : x.toInt ≠ v := fun q => h (Int32.toInt_inj.mp (q.trans hv.symm))
theorem fw_out {a b : Prop} (h : a ∨ b) : a ∨ b := h
/-- a method that asks nothing of the state -/
def fw_P (av : List Value) : Array Value → State → Prop := va_Pc av (fun _ => True)
theorem fw_PS {s : State} {H : Heap} {av : List Value} : PreS s H (fw_P av) av := ⟨fun _ _ _ _ q => q, fun _ _ _ => ⟨rfl, trivial⟩⟩
/-- a method that reads the cells ws -/
def fw_R (D : va_G) (cl : List vw_C) (ws : va_W) (av : List Value) : Array Value → State → Prop := va_Pc av (fun U => va_P D cl ws U.heap ∧ va_K D cl [] U)
theorem fw_Rb {D : va_G} {cl : List vw_C} {ws : va_W} {av : List Value} : FrameBlind (fw_R D cl ws av) := fun a U g mk q => ⟨q.1, q.2.1, va_K.moved (u := U) (U := U.calling g mk a) (Vm.Alike.refl U.vm) q.2.2⟩
theorem fw_RS {s : State} {H : Heap} {D : va_G} {cl : List vw_C} {ws : va_W} {tys : List (ClassId × FieldType)} {av : List Value} (hP : va_P D cl ws H) (hK : va_K D cl tys s) : PreS s H (fw_R D cl ws av) av :=
  ⟨fw_Rb, fun U hU hW => ⟨rfl, by rw [hU]; exact hP, va_K.moved hW.alike (hK.sub (tys' := []) [] rfl)⟩⟩
theorem fw_RV {s : State} {H : Heap} {D : va_G} {cl : List vw_C} {ws : va_W} {tys : List (ClassId × FieldType)} {b : Nat} {As : List Value} {C : String} (hr : ∃ cell : Cell, H[b]? = some cell ∧ cell.vm.isStatics = false ∧ s.vm.findClass C = some cell.cls) (hP : va_P D cl ws H) (hK : va_K D cl tys s) : PreV s H C b (fw_R D cl ws (.ref b :: As)) As :=
  ⟨fw_Rb, hr, fun U hU hW => ⟨rfl, by rw [hU]; exact hP, va_K.moved hW.alike (hK.sub (tys' := []) [] rfl)⟩⟩
theorem fw_PV {s : State} {H : Heap} {b : Nat} {As : List Value} {C : String} (hr : ∃ cell : Cell, H[b]? = some cell ∧ cell.vm.isStatics = false ∧ s.vm.findClass C = some cell.cls) : PreV s H C b (fw_P (.ref b :: As)) As :=
  ⟨fun _ _ _ _ q => q, hr, fun _ _ _ => ⟨rfl, trivial⟩⟩
/-! the words of a call, out of the one list -/
theorem gd_S {own : String} {idx : Nat} {y : MethodName} {w0 : Cond} (h1 : Cond.methodLink own idx y ∈ fc_all) (h2 : Cond.static y ∈ fc_all) (h3 : Cond.initialized y.cls ∈ fc_all) (h4 : w0 ∈ fc_all) : GoodIn fc_all (va_wsS own idx y (w0 :: fc_all)) := by
  intro w hw
  refine fc_good w ?_
  unfold va_wsS at hw
  rcases List.mem_append.mp hw with h | h
  · simp only [List.mem_cons, List.not_mem_nil, or_false] at h
    rcases h with rfl | rfl | rfl <;> assumption
  · rcases List.mem_cons.mp h with rfl | h
    · exact h4
    · exact h
theorem gd_V {own C : String} {idx : Nat} {y : MethodName} {w0 : Cond} (h1 : Cond.methodLink own idx y ∈ fc_all) (h2 : Cond.instanceMethod y ∈ fc_all) (h3 : Cond.selects C y y ∈ fc_all) (h5 : Cond.initialized C ∈ fc_all) (h4 : w0 ∈ fc_all) : GoodIn fc_all (wsV own idx C y (w0 :: fc_all)) := by
  intro w hw
  refine fc_good w ?_
  unfold wsV at hw
  rcases List.mem_append.mp hw with h | h
  · simp only [List.mem_cons, List.not_mem_nil, or_false] at h
    rcases h with rfl | rfl | rfl | rfl <;> assumption
  · rcases List.mem_cons.mp h with rfl | h
    · exact h4
    · exact h
theorem fw_m1 (x : Int32) : x + Int32.ofInt (-1) = x - 1 := by rw [Int32.sub_eq_add_neg]; rfl
