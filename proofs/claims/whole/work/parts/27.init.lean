/-! new cells at a known place -/
section MyNew
variable {p : Program} {l : Launch} {e : Env} {R : Room} {s : State} {m : MethodId} {args : Array Value} {below : List Frame} {meth : Method} {c : Code} {H : Heap} {locs : List Loc} {cells slots : Nat} {Q : State → Prop}
variable {cc : ByteArray} {pc : Nat} {ls : Array Slot} {rest : List Value} {D : va_G} {cl : List vw_C} {tys : List (ClassId × FieldType)}
theorem rz_new {z : Nat} (hz : H.size = z) (hexec : p.tables.exec = Jvm.exec) (hb : c.code = cc) {own C : String} {T : u_T} {N ci index : Nat} {Ts : List Cond} (hts : ∀ w ∈ Ts, w.before args s = true) (hin : ∀ w ∈ u_ws C T N, w ∈ Ts) (ty : Nat → FieldType) (hty : ∀ k, k < N → parseFieldDescriptor (T k).2.2.1 = some (ty k)) (hown : s.vm.findClass own = some m.cls) (hcl : (Cond.classLink own index C).before args s = true) (hinst : (Cond.instantiable C N).before args s = true) (hini : (Cond.initialized C).before args s = true)
    (hK : va_K D cl tys s) (hc : cl[ci]? = some (C, T, N)) {fs : List Value} (hfs : ∀ j, j < N → defaultValue (ty j) = vp_V fs j) (hcells : cells + 1 ≤ R.cells) (hslots : slots + N ≤ R.slots) (hdg : decode cc pc = .ok (.new index, 3))
    (kk : ∀ H1 : Heap, H1.size = z + 1 → (∀ q : Nat, q < z → H1[q]? = H[q]?) → va_at D cl (z, .inr (ci, fs)) H1 → W p l e R s m args below meth c H1 locs (cells + 1) (slots + N) Q (F0 m (pc + 3) ls (.ref z :: rest))) : W p l e R s m args below meth c H locs cells slots Q (F0 m pc ls rest) := by
  subst hz
  exact rw_new hexec hb hts hin ty hty hown hcl hinst hini hK hc hfs hcells hslots hdg kk
theorem rz_newa {z : Nat} (hz : H.size = z) (hexec : p.tables.exec = Jvm.exec) (hb : c.code = cc) {atype : ArrayType} (harr : (Cond.arrayClass (newarray.typeOf atype)).before args s = true) (hK : va_K D cl tys s) (t0 : Nat) {cA : ClassId} (ht : tys[t0]? = some (cA, newarray.typeOf atype))
    {n : Int32} {N' : Nat} {a0 : vp_A} (ha : ∀ cA : ClassId, vp_cell cA a0 = arrV cA N' (fun _ => defaultValue (newarray.typeOf atype))) (hn : ¬ n < 0) (hN : n.toNatClampNeg = N') (hbytes : N' * componentBytes (newarray.typeOf atype) ≤ 536870912) (hcells : cells + 1 ≤ R.cells) (hslots : slots + N' ≤ R.slots) (hdg : decode cc pc = .ok (.newarray atype, 2))
    (kk : ∀ H1 : Heap, H1.size = z + 1 → (∀ q : Nat, q < z → H1[q]? = H[q]?) → va_at D cl (z, .inl (cA, a0)) H1 → W p l e R s m args below meth c H1 locs (cells + 1) (slots + N') Q (F0 m (pc + 2) ls (.ref z :: rest))) : W p l e R s m args below meth c H locs cells slots Q (F0 m pc ls (.int n :: rest)) := by
  subst hz
  exact rw_newa hexec hb harr hK t0 ht ha hn hN hbytes hcells hslots hdg kk
theorem rz_newq {z : Nat} (hz : H.size = z) (hexec : p.tables.exec = Jvm.exec) (hb : c.code = cc) {own C : String} {index : Nat} (hown : s.vm.findClass own = some m.cls) (hclink : (Cond.classLink own index C).before args s = true) (hover : (Cond.arrayOver (.object C)).before args s = true) (hK : va_K D cl tys s) (t0 : Nat) {cA : ClassId} (ht : tys[t0]? = some (cA, .object C))
    {n : Int32} {N' : Nat} (hn : ¬ n < 0) (hN : n.toNatClampNeg = N') (hbytes : N' * 4 ≤ 536870912) (hcells : cells + 1 ≤ R.cells) (hslots : slots + N' ≤ R.slots) (hdg : decode cc pc = .ok (.anewarray index, 3))
    (kk : ∀ H1 : Heap, H1.size = z + 1 → (∀ q : Nat, q < z → H1[q]? = H[q]?) → va_at D cl (z, .inl (cA, N', .inr (.inr (.inr (.inr (fun _ => none)))))) H1 → W p l e R s m args below meth c H1 locs (cells + 1) (slots + N') Q (F0 m (pc + 3) ls (.ref z :: rest))) : W p l e R s m args below meth c H locs cells slots Q (F0 m pc ls (.int n :: rest)) := by
  subst hz
  exact rw_newq hexec hb hown hclink hover hK t0 ht hn hN hbytes hcells hslots hdg kk
end MyNew
theorem KG_nq {ev : EV} {U : State} (h : KG ev U) {q : Nat × MethodName} (hq : q ∈ NQ) : va_Nw (.methodLinkNest "RuleChoice" q.1 q.2 "RuleChoice") U := h.2.2.2.2.2.1 q hq
def r0 : Ru := (0, 0, 0, 0, 0, 0, none)
def a0 : Aa := (0, 0, 0, 0)
def t0 : Tt := (0, 0, 0, 0)
theorem cnt_0 : ∀ n, cntF (fun _ => 0) n = 0
  | 0 => rfl
  | n + 1 => by unfold cntF; rw [cnt_0 n, if_pos rfl]
theorem nI_c0 : (0 : Int32) = nI (cntF (fun _ => 0) 4920) := by rw [cnt_0]; rfl
/-- filled up to i -/
def fil (base i : Nat) : Nat → Option Nat := fun j => if j < i then some (base + j) else none
theorem fil_s (base i : Nat) : va_up (fil base i) i (some (base + i)) = fil base (i + 1) := by
  funext j
  unfold va_up fil
  by_cases h : j = i
  · subst h; rw [if_pos rfl, if_pos (by omega)]
  · rw [if_neg h]
    by_cases h2 : j < i
    · rw [if_pos h2, if_pos (by omega)]
    · rw [if_neg h2, if_neg (by omega)]
theorem fil_0 (base : Nat) : fil base 0 = fun _ => none := rfl
theorem fil_all {ev : EV} {H : Heap} {a k N base : Nat} (h : pt ev H a (aQ ev k N (fil base N))) : pt ev H a (aQ ev k N (fun j => some (base + j))) := by
  have h : H[a]? = some (vp_cell (ev.2.1 k) (N, .inr (.inr (.inr (.inr (fil base N)))))) := h
  show H[a]? = some (vp_cell (ev.2.1 k) (N, .inr (.inr (.inr (.inr (fun j => some (base + j)))))))
  rw [h]
  congr 1
  rw [vp_cell_q, vp_cell_q]
  unfold arrV
  congr 1
  congr 1
  funext j
  show va_rf (if j.val < N then some (base + j.val) else none) = va_rf (some (base + j.val))
  rw [if_pos j.isLt]
/-- the class's own cell while it is made -/
def iO (ev : EV) (b n : Nat) (F : List Value) (H0 H : Heap) : Prop := pt ev H b (oC 0 F) ∧ H.size = b + n ∧ ∀ q : Nat, q < b → H[q]? = H0[q]?
def iT (ev : EV) (k N ci base i : Nat) (row : List Value) (H : Heap) : Prop := pt ev H (base - 1) (aQ ev k N (fil base i)) ∧ ∀ j, j < i → pt ev H (base + j) (oC ci row)
theorem iT_k {ev : EV} {k N ci base i : Nat} {row : List Value} {H H1 : Heap} (h : iT ev k N ci base i row H) (hq : ∀ q : Nat, base - 1 ≤ q → q < base + i → H1[q]? = H[q]?) (hb : 0 < base) : iT ev k N ci base i row H1 := ⟨pt_k h.1 (hq _ (by omega) (by omega)), fun j hj => pt_k (h.2 j hj) (hq _ (by omega) (by omega))⟩
