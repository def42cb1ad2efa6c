/-! THE LAW'S HELPERS: the class's method called, its throw caught -/
section FL
variable {p : Program} {l : Launch} {e : Env} {R : Room} {s : State} {m : MethodId} {args : Array Value} {below : List Frame} {meth : Method} {c : Code} {H : Heap} {locs : List Loc} {cells slots : Nat} {Q : State → Prop}
theorem fw_callH {pc mc ms : Nat} {ls : Array Slot} {st0 rest : List Value} {a : Array Value} {B : Bool} {v : Value} {A0 : Nat → Prop} {H0 : Heap}
    (hr : vx_Run p l e R s m args below meth c H locs cells slots mc ms (F0 m pc ls st0) rest (fw_OQ B v a) (fw_XX B) (fun q => H.size ≤ q)) (hS : va_S A0 H0 H locs) (hA : ∀ q, H0.size ≤ q → A0 q)
    (kx : B = false → ∀ (q : Addr) (ce : Cell) (H1 : Heap) (locs1 : List Loc), fw_pre H H1 → va_S A0 H0 H1 locs1 → H1[q]? = some ce → ce.vm = .none → s.vm.findClass fw_IAE = some ce.cls → vx_W p l e R s m args below meth c H1 locs1 (cells + mc) (slots + ms) Q (F0 m pc ls rest) q)
    (kk : B = true → ∀ (H1 : Heap) (locs1 : List Loc), fw_pre H H1 → va_S A0 H0 H1 locs1 → W p l e R s m args below meth c H1 locs1 (cells + mc) (slots + ms) Q (F0 m (pc + 3) ls (v :: rest))) :
    W p l e R s m args below meth c H locs cells slots Q (F0 m pc ls st0) := by
  intro T hT X
  have hSx : ∀ (T' : State) (L : List Loc), fw_pre H T'.heap → (∀ z ∈ L, H.size ≤ z.base) → va_S A0 H0 T'.heap (locs ++ L) := fun T' L hg hL =>
    ⟨Nat.le_trans hS.1 hg.1, fun z h1 h2 => (hg.2 z (Nat.lt_of_lt_of_le h1 hS.1)).trans (hS.2.1 z h1 h2), fun z hz => by
      rcases List.mem_append.mp hz with h | h
      · exact hS.2.2 z h
      · exact hA _ (Nat.le_trans hS.1 (hL z h))⟩
  rcases hr T hT X with ⟨v', st₀, t, T', L, h0, X', hL, e1, e2, ⟨hB, hv, hg⟩, st⟩ | ⟨q, st₀, t, T', L, E, ce, h0, X', hL, e1, e2, ⟨hB, rfl, hg⟩, hce, hcv, hcl, st⟩
  · cases hv
    have hg' : fw_pre H T'.heap := by rw [e1, ← h0]; exact hg
    obtain ⟨t2, a1, b1⟩ := kk hB T'.heap (locs ++ L) hg' (hSx T' L hg' hL) T' rfl X'
    exact ⟨t2, st t2 a1, b1⟩
  · have hg' : fw_pre H T'.heap := by rw [e1, ← h0]; exact hg
    obtain ⟨t2, a1, b1⟩ := kx hB q ce T'.heap (locs ++ L) hg' (hSx T' L hg' hL) (by rw [e1]; exact hce) hcv hcl T' rfl X'
    exact ⟨t2, st.trans a1, b1⟩
end FL
/-- a long[1] at o -/
abbrev fw_oc (o : Nat) (cA : ClassId) (g : Nat → Int64) : Nat × va_E := (o, .inl (cA, 1, .inr (.inl g)))
/-- asked by a helper -/
def fw_H (D : va_G) (ws : va_W) (cA : ClassId) (sz : Nat) (av : List Value) : Array Value → State → Prop := va_Pc av (fun U => fw_E sz U ∧ va_P D vwCl ws U.heap ∧ va_K D vwCl [(cA, .long)] U)
theorem fw_Hb {D : va_G} {ws : va_W} {cA : ClassId} {sz : Nat} {av : List Value} : FrameBlind (fw_H D ws cA sz av) := fun a U g mk q => ⟨q.1, q.2.1.calling g mk a, q.2.2.1, va_K.moved (u := U) (U := U.calling g mk a) (Vm.Alike.refl U.vm) q.2.2.2⟩
theorem fw_HS {s : State} {H : Heap} {D : va_G} {ws : va_W} {cA : ClassId} {av : List Value} (hE : ∀ U : State, U.heap = H → s.WarmedH U.vm → fw_E H.size U) (hP : va_P D vwCl ws H) (hK : va_K D vwCl [(cA, .long)] s) : PreS s H (fw_H D ws cA H.size av) av :=
  ⟨fw_Hb, fun U hU hW => ⟨rfl, hE U hU hW, by rw [hU]; exact hP, va_K.moved hW.alike hK⟩⟩
/-- answered by a helper: 0 and the answer in out[0], or 1 -/
def fw_HQ (D : va_G) (o : Nat) (cA : ClassId) (sz : Nat) (B : Bool) (v : Int64) : Array Value → State → Outcome → State → Prop := va_Qi (fun (r : Int32) (g : Nat → Int64) => r = jb (!B) ∧ (B = true → g 0 = v)) (fun g t => va_P D vwCl [fw_oc o cA g] t.heap) (fun a => a = o ∨ sz ≤ a)
theorem fw_tab {x : Nat × Nat × Nat × Nat} : tableOf [x] = [] ++ { startPc := x.1, endPc := x.2.1, handlerPc := x.2.2.1, catchType := x.2.2.2 } :: [] := rfl
