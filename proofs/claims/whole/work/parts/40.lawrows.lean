/-! the law's methods: those with a table of handlers, which never throw themselves -/
theorem Met_ofWH {l : Launch} {y : MethodName} {ws ws' : List Cond} {rm : Room} {Pc : Array Value → State → Prop} {Qc : Array Value → State → Outcome → State → Prop} {mc ms : Nat} {free : Addr → Prop} {cc : ByteArray} {maxL : Nat} {ret : Option FieldType} {hh : List (Nat × Nat × Nat × Nat)}
    (hy : plainName y.cls = true) (hw : ws = Cond.codeWith y cc maxL ret hh :: ws')
    (body : ∀ p e s m args below meth c s₁, BodyLoose p l y (headSpec ws rm) cc maxL ret e s m args below meth c s₁ → c.maxLocals = maxL → Pc args s →
      W p l e (headSpec ws rm).room s m args below meth c s.heap [] 0 0 (MQ below Qc args s mc ms free) (entryFrame m args maxL)) : Met l y ws rm Pc Qc mc ms free := by
  refine MetFree.of_bodyS (code := cc) (maxLocals := maxL) (ret := ret) hy ?_ ?_
  · intro args s m h hn
    obtain ⟨m9, meth, c, hn9, h1, h2, h3, h4, -, h5, h6, -⟩ := Cond.codeWith_spec (atoms_spec (ws := ws) h _ (by rw [hw]; exact List.mem_cons_self))
    cases hn.symm.trans hn9
    exact ⟨meth, c, h1, h2, h3, h4, h5, h6⟩
  · intro p e s m args below meth c s₁ B hml hP _
    have hh0 : s₁.heap = s.heap := by rw [B.state]; rfl
    obtain ⟨t, a1, o, b1, b2, b3, b4⟩ := body p e s m args below meth c s₁ B hml hP s₁ hh0 (Stand.of_body B)
    exact ⟨t, o, a1, b1, b2, b3, b4⟩
theorem cHeadW {l : Launch} {y : MethodName} {ws ws' : List Cond} {rm : Room} {K : State → Prop} {H0 : Heap} {Qc : Array Value → State → Outcome → State → Prop} {mc ms : Nat} {free : Addr → Prop} {cc : ByteArray} {maxL : Nat} {ret : Option FieldType} {hh : List (Nat × Nat × Nat × Nat)} (av : List Value) (hy : plainName y.cls = true) (hw : ws = Cond.codeWith y cc maxL ret hh :: ws') (hlen : (lg_sl av).length ≤ maxL)
    (body : ∀ (p : Program) (e : Env) (s : State) (m : MethodId) (below : List Frame) (meth : Method) (c : Code) (ls : Array Slot) (args : Array Value) (QQ : State → Prop), QQ = MQ below Qc args s mc ms free → c.exceptionTable.toList = tableOf hh → CallFix p m c cc maxL s args ws' y.cls → meth.sig.returnType = ret → meth.locks = false → meth.name = y.name → s.heap = H0 → K s → lv_has ls maxL (lv_args 0 av) →
      W p l e rm s m args below meth c H0 [] 0 0 QQ (F0 m 0 ls [])) : Met l y ws rm (cP av K H0) Qc mc ms free := by
  refine Met_ofWH (cc := cc) (maxL := maxL) (ret := ret) (hh := hh) hy hw ?_
  intro p e s m args below meth c s₁ B hml hv
  obtain ⟨ha, hh0, hK⟩ := hv
  have hl := lv_entry av (n := maxL) hlen
  have hts := atoms_spec (ws := ws) B.pre
  have htab := vx_table (x := y) B (hts (Cond.codeWith y cc maxL ret hh) (by rw [hw]; exact List.mem_cons_self))
  have hS : CallFix p m c cc maxL s args ws' y.cls := ⟨B.exec, B.bytes, hml, findClass_of_methodNamed B.named, fun w h => hts w (by rw [hw]; exact List.mem_cons_of_mem _ h)⟩
  have h9 := body p e s m below meth c _ args _ rfl htab hS B.returns B.notSynchronized (name_of_methodNamed B.named B.method).1 hh0 hK hl
  subst ha
  rw [lg_entry_eq, hh0]
  exact h9
section MyRowsL
variable {p : Program} {l : Launch} {e : Env} {R : Room} {s : State} {m : MethodId} {args : Array Value} {below : List Frame} {meth : Method} {c : Code} {H : Heap} {locs : List Loc} {cells slots : Nat} {Q : State → Prop}
variable {cc : ByteArray} {pc : Nat} {ls : Array Slot} {rest st0 : List Value} {A : Nat → Prop} {mc ms : Nat} {free : Addr → Prop}
/-- a call that may throw; where it returns v all is well and the heap holds P -/
theorem cx_od {ok : Prop} {v : Option Value} {P : Heap → Prop} {PX : String → Heap → Prop} {a : Array Value} (hr : vx_Run p l e R s m args below meth c H locs cells slots mc ms (F0 m pc ls st0) rest (cQod ok v P a) (cX PX) free) (hL : ∀ q ∈ locs, A q.base) (hf : ∀ q, free q → A q)
    (kx : ∀ (E : String) (H1 : Heap) (ce : Cell) (q9 : Addr) (locs1 : List Loc), PX E H1 → (∀ q ∈ locs1, A q.base) → H1[q9]? = some ce → ce.vm = .none → s.vm.findClass E = some ce.cls → vx_W p l e R s m args below meth c H1 locs1 (cells + mc) (slots + ms) Q (F0 m pc ls rest) q9)
    (kk : ∀ (H1 : Heap) (locs1 : List Loc), ok → P H1 → (∀ q ∈ locs1, A q.base) → W p l e R s m args below meth c H1 locs1 (cells + mc) (slots + ms) Q (F0 m (pc + 3) ls (v.toList ++ rest))) : W p l e R s m args below meth c H locs cells slots Q (F0 m pc ls st0) := by
  intro T hT X
  rcases hr T hT X with ⟨v, st₀, t, T', L, h0, X', hL1, e1, e2, ⟨hok, hv, hh⟩, st⟩ | ⟨q, st₀, t, T', L, E, ce, h0, X', hL1, e1, e2, hp, hce, hcv, hcl, st⟩
  · cases hv
    obtain ⟨t2, a1, b1⟩ := kk t.heap _ hok hh (t_lL hL (fun q h => hf _ (hL1 q h))) T' e1 X'
    exact ⟨t2, st t2 a1, b1⟩
  · obtain ⟨t2, a1, b1⟩ := kx E t.heap ce q (locs ++ L) hp (t_lL hL (fun q h => hf _ (hL1 q h))) hce hcv hcl T' e1 X'
    exact ⟨t2, st.trans a1, b1⟩
theorem cl_eW {P : Value → Heap → Prop} {a : Array Value} (hr : va_Run p l e R s m args below meth c H locs cells slots mc ms (F0 m pc ls st0) rest (cQe P a) free) (hL : ∀ q ∈ locs, A q.base) (hf : ∀ q, free q → A q)
    (kk : ∀ (r : Value) (H1 : Heap) (locs1 : List Loc), P r H1 → (∀ q ∈ locs1, A q.base) → W p l e R s m args below meth c H1 locs1 (cells + mc) (slots + ms) Q (F0 m (pc + 3) ls (r :: rest))) : W p l e R s m args below meth c H locs cells slots Q (F0 m pc ls st0) := by
  intro T hT X
  obtain ⟨v, st₀, t, T', L, h0, X', hL1, e1, e2, ⟨r, hv, hh⟩, st⟩ := hr T hT X
  cases hv
  obtain ⟨t2, a1, b1⟩ := kk r t.heap _ hh (t_lL hL (fun q h => hf _ (hL1 q h))) T' e1 X'
  exact ⟨t2, st t2 a1, b1⟩
end MyRowsL
theorem bI_1 {b : Bool} (h : ¬ bI b = 0) : bI b = 1 := by
  cases b
  · exact absurd rfl h
  · rfl
/-- since H only the class's block and the cell o have changed; new ones may have come -/
def FrL (b o : Nat) (H H1 : Heap) : Prop := H.size ≤ H1.size ∧ ∀ q : Nat, q < H.size → (q < b ∨ b + 101 ≤ q) → q ≠ o → H1[q]? = H[q]?
theorem FrL.of {b o : Nat} {H H1 : Heap} (h : Frm b 101 H H1) : FrL b o H H1 := ⟨h.1, fun q h1 h2 _ => h.2 q h1 h2⟩
theorem FrL.st {b o : Nat} {H H1 H2 : Heap} (h : Frm b 101 H H1) (z : H2.size = H1.size) (oo : ∀ q : Nat, q ≠ o → H2[q]? = H1[q]?) : FrL b o H H2 := ⟨by rw [z]; exact h.1, fun q h1 h2 h3 => (oo q h3).trans (h.2 q h1 h2)⟩
theorem XF_o {ev : EV} {b o : Nat} {u : XS} {kp : KT} {v : PT} {H H1 : Heap} (h : XF ev b u kp v H) (hbo : b + 101 ≤ o) (z : H1.size = H.size) (oo : ∀ q : Nat, q ≠ o → H1[q]? = H[q]?) : XF ev b u kp v H1 := by
  obtain ⟨h1, ⟨sl, h2, h3⟩, h4, h5, h6⟩ := h
  exact ⟨XW_k h1 (fun q _ _ => oo q (by omega)), ⟨sl, h2, xN_k h3 (fun q _ _ => oo q (by omega))⟩, xP_k h4 (fun q _ _ => oo q (by omega)), ⟨by rw [z]; exact h5.1, fun q hq => (oo q (by omega)).trans (h5.2 q hq)⟩, h6⟩
