/-! the run's fixed things: the classes' numbers and slots, the array classes, the heap at the law's entry, the texts' addresses -/
abbrev EV : Type := va_G × (Nat → ClassId) × Heap × (Nat → Nat)
abbrev evH (ev : EV) : Heap := ev.2.2.1
def TY (ev : EV) : List (ClassId × FieldType) := [(ev.2.1 0, .int), (ev.2.1 1, .long), (ev.2.1 2, .boolean), (ev.2.1 3, .object "RuleChoice$Rule"), (ev.2.1 4, .object "RuleChoice$Area"), (ev.2.1 5, .object "RuleChoice$Thing")]
def TX : List (Nat × String) := [(235, "no such kind"), (240, "no such class"), (242, "no such layer"), (244, "no such rule"), (246, "no such area"), (248, "no such thing"), (250, "which is 0 or 1"), (256, "no value"), (259, "no rank"), (263, "no place"), (265, "the area is turned")]
def CH : List String := ["java/lang/RuntimeException", "java/lang/Exception"]
def DM : List MethodName := [Bundle.initS "java/lang/RuntimeException", Bundle.initS "java/lang/Exception", Bundle.initS Bundle.tN]
def NQ : List (Nat × MethodName) := [(28, my_R_init), (35, my_A_init), (42, my_T_init), (45, my_N_init), (52, my_P_init)]
def cIX : String := "java/lang/IndexOutOfBoundsException"
def cIA : String := "java/lang/IllegalArgumentException"
def KG (ev : EV) (U : State) : Prop := va_K ev.1 CL (TY ev) U ∧ (vx_Zq Bundle.tN "UNASSIGNED_STACK" Bundle.steD (fun q => (evH ev).size ≤ q) U (evH ev) ∧ vx_Zq Bundle.tN "SUPPRESSED_SENTINEL" Bundle.listD (fun q => (evH ev).size ≤ q) U (evH ev)) ∧ (∀ q ∈ TX, vk_R "RuleChoice" q.1 q.2 (ev.2.2.2 q.1) U) ∧ (∀ x ∈ DM, va_Nw (.declares x) U) ∧ (va_Nw (.castable cIX cIX) U ∧ va_Nw (.castable cIA cIA) U ∧ va_Nc cIA cIX U) ∧ (∀ q ∈ NQ, va_Nw (.methodLinkNest "RuleChoice" q.1 q.2 "RuleChoice") U) ∧ va_AO "RuleChoice$Rule" U ∧ va_AO "RuleChoice$Area" U ∧ va_AO "RuleChoice$Thing" U
theorem nw_of {c : Cond} (hc : c.onTables = true) {u U : State} (h : c.before #[] (u.setVm U.vm) = true) : va_Nw c U := va_tabs hc (rfl : (u.setVm U.vm).vm = U.vm) h
theorem nw_decl {x : MethodName} {u U : State} (hvm : u.vm.Alike U.vm) (h : va_Nw (.declares x) u) : va_Nw (.declares x) U := nw_of rfl (u := u) (by rw [Cond.declares_setVm hvm]; exact h)
theorem nw_cast {x y : String} {u U : State} (hvm : u.vm.Alike U.vm) (h : va_Nw (.castable x y) u) : va_Nw (.castable x y) U := nw_of rfl (u := u) (by rw [Cond.castable_setVm hvm]; exact h)
theorem KG_ok (ev : EV) : cK (KG ev) := by
  refine ⟨fun u U hv h => ?_, fun s U hW h => ?_⟩
  · have ha : u.vm.Alike U.vm := by rw [hv]; exact Vm.Alike.refl _
    obtain ⟨h1, ⟨h2, h3⟩, h4, h5, ⟨h6, h7, h8⟩, h9, h10, h11, h12⟩ := h
    exact ⟨va_K.moved ha h1, ⟨vx_Zq.moved ha h2, vx_Zq.moved ha h3⟩, fun q hq => vk_R.same hv (h4 q hq), fun x hx => nw_decl ha (h5 x hx), ⟨nw_cast ha h6, nw_cast ha h7, va_Nc.moved ha h8⟩, fun q hq => va_Nw.same rfl hv.symm (h9 q hq), va_AO.moved ha h10, va_AO.moved ha h11, va_AO.moved ha h12⟩
  · have ha := hW.alike
    obtain ⟨h1, ⟨h2, h3⟩, h4, h5, ⟨h6, h7, h8⟩, h9, h10, h11, h12⟩ := h
    exact ⟨va_K.moved ha h1, ⟨vx_Zq.moved ha h2, vx_Zq.moved ha h3⟩, fun q hq => vk_R.warm hW (h4 q hq), fun x hx => nw_decl ha (h5 x hx), ⟨nw_cast ha h6, nw_cast ha h7, va_Nc.moved ha h8⟩, fun q hq => va_Nw.warmM hW (h9 q hq), va_AO.moved ha h10, va_AO.moved ha h11, va_AO.moved ha h12⟩
/-- nothing that was there at the law's entry has changed -/
def Old (ev : EV) (H : Heap) : Prop := (evH ev).size ≤ H.size ∧ ∀ q : Nat, q < (evH ev).size → H[q]? = (evH ev)[q]?
/-- cells came, none changed -/
def Ext (H H1 : Heap) : Prop := H.size ≤ H1.size ∧ ∀ q : Nat, q < H.size → H1[q]? = H[q]?
theorem Ext.rf {H : Heap} : Ext H H := ⟨Nat.le_refl _, fun _ _ => rfl⟩
theorem Ext.trans {H H1 H2 : Heap} (h1 : Ext H H1) (h2 : Ext H1 H2) : Ext H H2 := ⟨Nat.le_trans h1.1 h2.1, fun q hq => (h2.2 q (Nat.lt_of_lt_of_le hq h1.1)).trans (h1.2 q hq)⟩
theorem Old.ext {ev : EV} {H H1 : Heap} (h : Old ev H) (e : Ext H H1) : Old ev H1 := ⟨Nat.le_trans h.1 e.1, fun q hq => (e.2 q (Nat.lt_of_lt_of_le hq h.1)).trans (h.2 q hq)⟩
/-! methods that may throw -/
/-- answers nothing, nothing changes, and this is so -/
def cQod (ok : Prop) (v : Option Value) (P : Heap → Prop) : Array Value → State → Outcome → State → Prop := fun _ _ o t => ok ∧ o = .returned v ∧ P t.heap
def cQo (P : Prop) : Array Value → State → Outcome → State → Prop := fun _ st o t => P ∧ o = .returned none ∧ t.heap = st.heap
def cX (P : String → Heap → Prop) : String → State → State → Prop := fun E _ t => P E t.heap
section MyHeadsX
variable {l : Launch} {y : MethodName} {ws ws' : List Cond} {rm : Room} {K : State → Prop} {H0 : Heap} {Qc : Array Value → State → Outcome → State → Prop} {XC : String → State → State → Prop} {mc ms : Nat} {free : Addr → Prop} {cc : ByteArray} {maxL : Nat} {ret : Option FieldType}
theorem cHeadX (av : List Value) (hy : plainName y.cls = true) (hw : ws = Cond.code y cc maxL ret :: ws') (hlen : (lg_sl av).length ≤ maxL)
    (body : ∀ (p : Program) (e : Env) (s : State) (m : MethodId) (below : List Frame) (meth : Method) (c : Code) (ls : Array Slot) (args : Array Value) (QQ : State → Prop), QQ = vx_MQ below Qc XC args s mc ms free → (∀ x ∈ c.exceptionTable.toList, False) → CallFix p m c cc maxL s args ws' y.cls → meth.sig.returnType = ret → meth.locks = false → meth.name = y.name → s.heap = H0 → K s → lv_has ls maxL (lv_args 0 av) →
      W p l e rm s m args below meth c H0 [] 0 0 QQ (F0 m 0 ls [])) : vx_Met l y ws rm (cP av K H0) Qc XC mc ms free := by
  refine vx_ofW (cc := cc) (maxL := maxL) (ret := ret) hy hw ?_
  intro p e s m args below meth c s₁ B hml htab hv
  obtain ⟨ha, hh, hK⟩ := hv
  have hl := lv_entry av (n := maxL) hlen
  have hts := atoms_spec (ws := ws) B.pre
  have hS : CallFix p m c cc maxL s args ws' y.cls := ⟨B.exec, B.bytes, hml, findClass_of_methodNamed B.named, fun w h => hts w (by rw [hw]; exact List.mem_cons_of_mem _ h)⟩
  have h9 := body p e s m below meth c _ args _ rfl htab hS B.returns B.notSynchronized (name_of_methodNamed B.named B.method).1 hh hK hl
  subst ha
  rw [lg_entry_eq, hh]
  exact h9
end MyHeadsX
section MyRowsX
variable {p : Program} {l : Launch} {e : Env} {R : Room} {s : State} {m : MethodId} {args : Array Value} {below : List Frame} {meth : Method} {c : Code} {H : Heap} {locs : List Loc} {cells slots : Nat} {Q : State → Prop}
variable {cc : ByteArray} {pc : Nat} {ls : Array Slot} {rest st0 : List Value} {XC : String → State → State → Prop} {A : Nat → Prop} {mc ms : Nat} {free : Addr → Prop}
theorem rx_v {P : Prop} (hQ : Q = vx_MQ below (cQo P) XC args s mc ms free) (hP : P) (hx : p.tables.exec = Jvm.exec) (hb : c.code = cc) (hr : meth.sig.returnType = none) (hlk : meth.locks = false) (hs : s.heap = H) (hd : decode cc pc = .ok (.return_, 1)) :
    W p l e R s m args below meth c H [] 0 0 Q (F0 m pc ls []) := by
  subst hQ
  exact vx_ret (W.widen (Nat.zero_le _) (Nat.zero_le _) (W.vret hx hb hr (fun t ht _ => ⟨hP, rfl, ht.trans hs.symm⟩) cNil hd hlk))
theorem rx_vc {P : Prop} (hQ : Q = vx_MQ below (cQo P) XC args s mc ms free) (hP : P) (hx : p.tables.exec = Jvm.exec) (hb : c.code = cc) (hr : meth.sig.returnType = none) (hlk : meth.locks = false) (hs : s.heap = H) (hL : ∀ q ∈ locs, free q.base) (hc : cells ≤ mc) (hsl : slots ≤ ms) (hd : decode cc pc = .ok (.return_, 1)) :
    W p l e R s m args below meth c H locs cells slots Q (F0 m pc ls []) := by
  subst hQ
  exact vx_ret (W.widen hc hsl (W.vret hx hb hr (fun t ht _ => ⟨hP, rfl, ht.trans hs.symm⟩) hL hd hlk))
theorem rx_dv {P : Heap → Prop} (hQ : Q = vx_MQ below (cQd none P) XC args s mc ms free) (hx : p.tables.exec = Jvm.exec) (hb : c.code = cc) (hr : meth.sig.returnType = none) (hlk : meth.locks = false) (hP : P H) (hL : ∀ q ∈ locs, free q.base) (hc : cells ≤ mc) (hs : slots ≤ ms) (hd : decode cc pc = .ok (.return_, 1)) :
    W p l e R s m args below meth c H locs cells slots Q (F0 m pc ls []) := by
  subst hQ
  exact vx_ret (W.widen hc hs (W.vret hx hb hr (fun t ht _ => ⟨rfl, by rw [ht]; exact hP⟩) hL hd hlk))
theorem ry_i {ty : FieldType} {ok : Prop} {v v' : Int32} {P : Heap → Prop} (hQ : Q = vx_MQ below (cQod ok (some (.int v')) P) XC args s mc ms free) (hok : ok) (hx : p.tables.exec = Jvm.exec) (hb : c.code = cc) (hr : meth.sig.returnType = some ty) (hlk : meth.locks = false) (hn : narrow ty (.int v) = .int v) (hv : v = v') (hP : P H) (hL : ∀ q ∈ locs, free q.base) (hc : cells ≤ mc) (hs : slots ≤ ms) (hd : decode cc pc = .ok (.ireturn, 1)) :
    W p l e R s m args below meth c H locs cells slots Q (F0 m pc ls [.int v]) := by
  subst hQ
  subst hv
  exact vx_ret (W.widen hc hs (W.zret hx hb hr hn (fun t ht _ => ⟨hok, rfl, by rw [ht]; exact hP⟩) hL hd hlk))
theorem ry_l {ok : Prop} {v v' : Int64} {P : Heap → Prop} (hQ : Q = vx_MQ below (cQod ok (some (.long v')) P) XC args s mc ms free) (hok : ok) (hx : p.tables.exec = Jvm.exec) (hb : c.code = cc) (hr : meth.sig.returnType = some .long) (hlk : meth.locks = false) (hv : v = v') (hP : P H) (hL : ∀ q ∈ locs, free q.base) (hc : cells ≤ mc) (hs : slots ≤ ms) (hd : decode cc pc = .ok (.lreturn, 1)) :
    W p l e R s m args below meth c H locs cells slots Q (F0 m pc ls [.long v]) := by
  subst hQ
  subst hv
  exact vx_ret (W.widen hc hs (W.lret hx hb hr (fun t ht _ => ⟨hok, rfl, by rw [ht]; exact hP⟩) hL hd hlk))
theorem rx_di {ty : FieldType} {v v' : Int32} {P : Heap → Prop} (hQ : Q = vx_MQ below (cQd (some (.int v')) P) XC args s mc ms free) (hx : p.tables.exec = Jvm.exec) (hb : c.code = cc) (hr : meth.sig.returnType = some ty) (hlk : meth.locks = false) (hn : narrow ty (.int v) = .int v) (hv : v = v') (hP : P H) (hL : ∀ q ∈ locs, free q.base) (hc : cells ≤ mc) (hs : slots ≤ ms) (hd : decode cc pc = .ok (.ireturn, 1)) :
    W p l e R s m args below meth c H locs cells slots Q (F0 m pc ls [.int v]) := by
  subst hQ
  subst hv
  exact vx_ret (W.widen hc hs (W.zret hx hb hr hn (fun t ht _ => ⟨rfl, by rw [ht]; exact hP⟩) hL hd hlk))
theorem rx_dl {v v' : Int64} {P : Heap → Prop} (hQ : Q = vx_MQ below (cQd (some (.long v')) P) XC args s mc ms free) (hx : p.tables.exec = Jvm.exec) (hb : c.code = cc) (hr : meth.sig.returnType = some .long) (hlk : meth.locks = false) (hv : v = v') (hP : P H) (hL : ∀ q ∈ locs, free q.base) (hc : cells ≤ mc) (hs : slots ≤ ms) (hd : decode cc pc = .ok (.lreturn, 1)) :
    W p l e R s m args below meth c H locs cells slots Q (F0 m pc ls [.long v]) := by
  subst hQ
  subst hv
  exact vx_ret (W.widen hc hs (W.lret hx hb hr (fun t ht _ => ⟨rfl, by rw [ht]; exact hP⟩) hL hd hlk))
/-- 'throw new E(text)' of the class -/
theorem rx_throw {ev : EV} {Qc : Array Value → State → Outcome → State → Prop} {P : String → Heap → Prop} (hQ : Q = vx_MQ below Qc (cX P) args s mc ms free) (hx : p.tables.exec = Jvm.exec) (hb : c.code = cc) (hT : l.stackTraces = false) {cls text : String} {ik is ic : Nat}
    (hown : s.vm.findClass "RuleChoice" = some m.cls) (hK : KG ev s) (hs : s.heap = H) (hold : Old ev H) (hsz : ls.size = c.maxLocals) (hts : ∀ w ∈ TB, w.before args s = true) (htab : ∀ x ∈ c.exceptionTable.toList, False) (hlk : meth.locks = false)
    (hcls : Bundle.fit cls = true) (hk : Cond.classLink "RuleChoice" ik cls ∈ TB) (hini : Cond.initialized cls ∈ TB) (htx : (is, text) ∈ TX) (hat : ∀ w ∈ (vx_atS "RuleChoice" ic cls CH).filter goodWord, w ∈ TB) (hno : ∀ w ∈ (vx_atS "RuleChoice" ic cls CH).filter (fun w => !goodWord w), w ∈ [Cond.declares (Bundle.initS "java/lang/RuntimeException"), Cond.declares (Bundle.initS "java/lang/Exception"), Cond.declares (Bundle.initS Bundle.tN), Cond.castable cIX cIX, Cond.castable cIA cIA])
    (hgood : ∀ w ∈ Cond.classLink "RuleChoice" ik cls :: Cond.initialized cls :: vx_atS "RuleChoice" ic cls CH, vx_ot w = true)
    (d0 : decode cc pc = .ok (.new ik, 3)) (d3 : decode cc (pc + 3) = .ok (.dup, 1)) (d4 : decode cc (pc + 4) = .ok (.ldc is, 2)) (d6 : decode cc (pc + 6) = .ok (.invokespecial ic, 3)) (d9 : decode cc (pc + 9) = .ok (.athrow, 1))
    (hRf : 5 < R.frames) (hRl : (rest.map fun v => v.category).sum + 82 ≤ R.locals) (hRc : 1 ≤ R.cells) (hRs : 6 ≤ R.slots) (hc : 1 ≤ mc) (hms : 6 ≤ ms)
    (hP : ∀ H1 : Heap, Ext H H1 → P cls H1) : W p l e R s m args below meth c H [] 0 0 Q (F0 m pc ls rest) := by
  subst hQ
  obtain ⟨-, ⟨hU, hN⟩, hX, hDM, ⟨hc1, hc2, -⟩, -⟩ := hK
  have hq : ∀ a : Nat, a < (evH ev).size → ¬ (evH ev).size ≤ a → s.heap[a]? = (evH ev)[a]? := fun a h1 _ => by rw [hs]; exact hold.2 a h1
  have hB : ∀ w ∈ [Cond.declares (Bundle.initS "java/lang/RuntimeException"), Cond.declares (Bundle.initS "java/lang/Exception"), Cond.declares (Bundle.initS Bundle.tN), Cond.castable cIX cIX, Cond.castable cIA cIA], w.before args s = true :=
    vx_c (va_Nw.use rfl (hDM _ (by simp [DM]))) (vx_c (va_Nw.use rfl (hDM _ (by simp [DM]))) (vx_c (va_Nw.use rfl (hDM _ (by simp [DM]))) (vx_c (va_Nw.use rfl hc1) (vx_c (va_Nw.use rfl hc2) vx_n))))
  exact vx_throwS (A := fun q => (evH ev).size ≤ q) (names := CH) (text := text) (sa := ev.2.2.2 is) hx hb hT hown hcls (by decide) (hts _ hk) (hts _ hini) (hX _ htx) (vx_hat (fun w hw => hts w (hat w hw)) hno hB) hgood (hU.kept hq) (hN.kept hq) (by rw [hs]; exact va_S.rf) hsz d0 d3 d4 d6 d9 (fun x h => (htab x h).elim) hRf hRl (by omega) (by omega) hlk
    (fun t _ h1 h2 => hP _ ⟨h1, h2⟩) cNil hc hms
/-- 'throw new E(text)' of the class -/
theorem rx_throwW {ev : EV} {Qc : Array Value → State → Outcome → State → Prop} {P : String → Heap → Prop} (hQ : Q = vx_MQ below Qc (cX P) args s mc ms free) (hx : p.tables.exec = Jvm.exec) (hb : c.code = cc) (hT : l.stackTraces = false) {cls text : String} {ik is ic : Nat}
    (hown : s.vm.findClass "RuleChoice" = some m.cls) (hK : KG ev s) (hs : s.heap = H) (hold : Old ev H) (hsz : ls.size = c.maxLocals) (hts : ∀ w ∈ TB, w.before args s = true) (htab : ∀ x ∈ c.exceptionTable.toList, False) (hlk : meth.locks = false)
    (hcls : Bundle.fit cls = true) (hk : Cond.classLink "RuleChoice" ik cls ∈ TB) (hini : Cond.initialized cls ∈ TB) (htx : (is, text) ∈ TX) (hat : ∀ w ∈ (vx_atS "RuleChoice" ic cls CH).filter goodWord, w ∈ TB) (hno : ∀ w ∈ (vx_atS "RuleChoice" ic cls CH).filter (fun w => !goodWord w), w ∈ [Cond.declares (Bundle.initS "java/lang/RuntimeException"), Cond.declares (Bundle.initS "java/lang/Exception"), Cond.declares (Bundle.initS Bundle.tN), Cond.castable cIX cIX, Cond.castable cIA cIA])
    (hgood : ∀ w ∈ Cond.classLink "RuleChoice" ik cls :: Cond.initialized cls :: vx_atS "RuleChoice" ic cls CH, vx_ot w = true)
    (d0 : decode cc pc = .ok (.new ik, 3)) (d3 : decode cc (pc + 3) = .ok (.dup, 1)) (d4 : decode cc (pc + 4) = .ok (.ldc_w is, 3)) (d6 : decode cc (pc + 7) = .ok (.invokespecial ic, 3)) (d9 : decode cc (pc + 10) = .ok (.athrow, 1))
    (hRf : 5 < R.frames) (hRl : (rest.map fun v => v.category).sum + 82 ≤ R.locals) (hRc : 1 ≤ R.cells) (hRs : 6 ≤ R.slots) (hc : 1 ≤ mc) (hms : 6 ≤ ms)
    (hP : ∀ H1 : Heap, Ext H H1 → P cls H1) : W p l e R s m args below meth c H [] 0 0 Q (F0 m pc ls rest) := by
  subst hQ
  obtain ⟨-, ⟨hU, hN⟩, hX, hDM, ⟨hc1, hc2, -⟩, -⟩ := hK
  have hq : ∀ a : Nat, a < (evH ev).size → ¬ (evH ev).size ≤ a → s.heap[a]? = (evH ev)[a]? := fun a h1 _ => by rw [hs]; exact hold.2 a h1
  have hB : ∀ w ∈ [Cond.declares (Bundle.initS "java/lang/RuntimeException"), Cond.declares (Bundle.initS "java/lang/Exception"), Cond.declares (Bundle.initS Bundle.tN), Cond.castable cIX cIX, Cond.castable cIA cIA], w.before args s = true :=
    vx_c (va_Nw.use rfl (hDM _ (by simp [DM]))) (vx_c (va_Nw.use rfl (hDM _ (by simp [DM]))) (vx_c (va_Nw.use rfl (hDM _ (by simp [DM]))) (vx_c (va_Nw.use rfl hc1) (vx_c (va_Nw.use rfl hc2) vx_n))))
  exact vx_throwSW (A := fun q => (evH ev).size ≤ q) (names := CH) (text := text) (sa := ev.2.2.2 is) hx hb hT hown hcls (by decide) (hts _ hk) (hts _ hini) (hX _ htx) (vx_hat (fun w hw => hts w (hat w hw)) hno hB) hgood (hU.kept hq) (hN.kept hq) (by rw [hs]; exact va_S.rf) hsz d0 d3 d4 d6 d9 (fun x h => (htab x h).elim) hRf hRl (by omega) (by omega) hlk
    (fun t _ h1 h2 => hP _ ⟨h1, h2⟩) cNil hc hms
/-- a call that may throw; nothing of the world changes where it returns -/
theorem cx_v {ok : Prop} {P : String → Heap → Prop} {a : Array Value} (hr : vx_Run p l e R s m args below meth c H locs cells slots mc ms (F0 m pc ls st0) rest (cQo ok a) (cX P) cNo) (hL : ∀ q ∈ locs, A q.base)
    (kx : ∀ (E : String) (H1 : Heap) (ce : Cell) (q9 : Addr) (locs1 : List Loc), P E H1 → (∀ q ∈ locs1, A q.base) → H1[q9]? = some ce → ce.vm = .none → s.vm.findClass E = some ce.cls → vx_W p l e R s m args below meth c H1 locs1 (cells + mc) (slots + ms) Q (F0 m pc ls rest) q9)
    (kk : ok → W p l e R s m args below meth c H locs (cells + mc) (slots + ms) Q (F0 m (pc + 3) ls rest)) : W p l e R s m args below meth c H locs cells slots Q (F0 m pc ls st0) := by
  intro T hT X
  rcases hr T hT X with ⟨v, st₀, t, T', L, h0, X', hL1, e1, e2, ⟨hok, hv, hh⟩, st⟩ | ⟨q, st₀, t, T', L, E, ce, h0, X', hL1, e1, e2, hp, hce, hcv, hcl, st⟩
  · cases hv
    obtain ⟨t2, a1, b1⟩ := kk hok T' (by rw [e1, hh, h0]) (Stand.forget X' (fun q h => (hL1 q h).elim))
    exact ⟨t2, st t2 a1, b1⟩
  · obtain ⟨t2, a1, b1⟩ := kx E t.heap ce q (locs ++ L) hp (t_lL hL (fun q h => (hL1 q h).elim)) hce hcv hcl T' e1 X'
    exact ⟨t2, st.trans a1, b1⟩
/-- a call that may throw; where it returns v the heap holds P, where it throws E it holds PX E -/
theorem cx_d {v : Option Value} {P : Heap → Prop} {PX : String → Heap → Prop} {a : Array Value} (hr : vx_Run p l e R s m args below meth c H locs cells slots mc ms (F0 m pc ls st0) rest (cQd v P a) (cX PX) free) (hL : ∀ q ∈ locs, A q.base) (hf : ∀ q, free q → A q)
    (kx : ∀ (E : String) (H1 : Heap) (ce : Cell) (q9 : Addr) (locs1 : List Loc), PX E H1 → (∀ q ∈ locs1, A q.base) → H1[q9]? = some ce → ce.vm = .none → s.vm.findClass E = some ce.cls → vx_W p l e R s m args below meth c H1 locs1 (cells + mc) (slots + ms) Q (F0 m pc ls rest) q9)
    (kk : ∀ (H1 : Heap) (locs1 : List Loc), P H1 → (∀ q ∈ locs1, A q.base) → W p l e R s m args below meth c H1 locs1 (cells + mc) (slots + ms) Q (F0 m (pc + 3) ls (v.toList ++ rest))) : W p l e R s m args below meth c H locs cells slots Q (F0 m pc ls st0) := by
  intro T hT X
  rcases hr T hT X with ⟨v, st₀, t, T', L, h0, X', hL1, e1, e2, ⟨hv, hh⟩, st⟩ | ⟨q, st₀, t, T', L, E, ce, h0, X', hL1, e1, e2, hp, hce, hcv, hcl, st⟩
  · cases hv
    obtain ⟨t2, a1, b1⟩ := kk t.heap _ hh (t_lL hL (fun q h => hf _ (hL1 q h))) T' e1 X'
    exact ⟨t2, st t2 a1, b1⟩
  · obtain ⟨t2, a1, b1⟩ := kx E t.heap ce q (locs ++ L) hp (t_lL hL (fun q h => hf _ (hL1 q h))) hce hcv hcl T' e1 X'
    exact ⟨t2, st.trans a1, b1⟩
/-- it goes on to the caller -/
theorem cx_out {Qc : Array Value → State → Outcome → State → Prop} {PX : String → Heap → Prop} {E : String} {ce : Cell} {q : Addr} (hQ : Q = vx_MQ below Qc (cX PX) args s mc ms free) (htab : ∀ x ∈ c.exceptionTable.toList, False) (hlk : meth.locks = false) (hcell : H[q]? = some ce) (hv : ce.vm = .none) (hcl : s.vm.findClass E = some ce.cls) (hP : PX E H) (hf : ∀ z ∈ locs, free z.base) (hc : cells ≤ mc) (hs : slots ≤ ms) :
    vx_W p l e R s m args below meth c H locs cells slots Q (F0 m pc ls rest) q := by
  subst hQ
  exact vx_out (fun x h => (htab x h).elim) hlk hcell hv hcl (fun t ht _ => by show PX E t.heap; rw [ht]; exact hP) hf hc hs
end MyRowsX
