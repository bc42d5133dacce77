/-! what the statement gives at the law's entry: the run's fixed things -/
theorem tab_at {q0 : Nat} {s : State} (hts : ∀ w ∈ lw_tbl, w.before #[Value.ref q0] s = true) {w : Cond} (i : Nat) (h : tables_1[i]? = some w) : w.before #[Value.ref q0] s = true := hts w (List.mem_append_right _ (List.mem_of_getElem? h))
theorem tab_in {q0 : Nat} {s : State} (hts : ∀ w ∈ lw_tbl, w.before #[Value.ref q0] s = true) {w : Cond} (h : w ∈ tables_1) : w.before #[Value.ref q0] s = true := hts w (List.mem_append_right _ h)
theorem tx_in : ∀ q ∈ TX, Cond.stringRef "RuleChoice" q.1 q.2 ∈ tables_1 := by decide +kernel
theorem dm_in : ∀ x ∈ DM, Cond.declares x ∈ tables_1 := by decide +kernel
theorem nq_in : ∀ q ∈ NQ, Cond.methodLinkNest "RuleChoice" q.1 q.2 "RuleChoice" ∈ tables_1 := by decide +kernel
def saF (s : State) (k : Nat) : Nat := match (Term.string "RuleChoice" k).eval #[] s none [] s with
  | some (.ref a) => a
  | _ => 0
theorem sa_R {s : State} {q0 cur : Nat} (hts : ∀ w ∈ lw_tbl, w.before #[Value.ref q0] s = true) (hcur : s.vm.findClass "RuleChoice" = some cur) : ∀ q ∈ TX, vk_R "RuleChoice" q.1 q.2 (saF s q.1) s := by
  intro q hq
  have h := tab_in hts (tx_in q hq)
  obtain ⟨k, cf, i, a, -, -, -, -, -, he⟩ := Cond.stringRef_spec hcur h
  have he : (Term.string "RuleChoice" q.1).eval #[] s none [] s = some (.ref a) := he
  have e : saF s q.1 = a := by unfold saF; rw [he]
  rw [e]
  exact vk_R.of h he
def cC7 (c0 c1 c2 c3 c4 c5 c6 : ClassId) : Nat → ClassId
  | 0 => c0
  | 1 => c1
  | 2 => c2
  | 3 => c3
  | 4 => c4
  | 5 => c5
  | _ => c6
def iS7 (i0 i1 i2 i3 i4 i5 i6 : Nat → Nat) : Nat → Nat → Nat
  | 0 => i0
  | 1 => i1
  | 2 => i2
  | 3 => i3
  | 4 => i4
  | 5 => i5
  | _ => i6
theorem noT {l : Launch} (h : l.flags = flags0) : l.stackTraces = false := by
  unfold Launch.stackTraces
  rw [h]
  decide +kernel
set_option maxRecDepth 100000 in
set_option maxHeartbeats 4000000 in
theorem KG_0 {s : State} {q0 : Nat} (hts : ∀ w ∈ lw_tbl, w.before #[Value.ref q0] s = true) (hgv : (Jvm.Cond.and given_1 narrow_1).before #[Value.ref q0] s = true) : ∃ ev : EV, evH ev = s.heap ∧ KG ev s := by
  have htb : ∀ w ∈ TB, w.before #[Value.ref q0] s = true := fun w h => hts w (List.mem_filter.mp h).1
  have hfl := flat_of_before _ hgv
  obtain ⟨c0, i0, k0⟩ := u_known htb in_X (htb _ iv_X)
  obtain ⟨c1, i1, k1⟩ := u_known htb in_N (htb _ iv_N)
  obtain ⟨c2, i2, k2⟩ := u_known htb in_A (htb _ iv_A)
  obtain ⟨c3, i3, k3⟩ := u_known htb in_P (htb _ iv_P)
  obtain ⟨c4, i4, k4⟩ := u_known htb in_R (htb _ iv_R)
  obtain ⟨c5, i5, k5⟩ := u_known htb in_T (htb _ iv_T)
  obtain ⟨c6, i6, k6⟩ := u_known htb in_M (htb _ iv_M)
  obtain ⟨a0, ka0, p0, f0, g0, h0⟩ := Cond.arrayClass_spec (htb _ ac_int)
  obtain ⟨a1, ka1, p1, f1, g1, h1⟩ := Cond.arrayClass_spec (htb _ ac_long)
  obtain ⟨a2, ka2, p2, f2, g2, h2⟩ := Cond.arrayClass_spec (htb _ ac_boolean)
  have o3 : (Cond.arrayOver (.object "RuleChoice$Rule")).before #[Value.ref q0] s = true := tab_at hts 29 (by decide +kernel)
  have o4 : (Cond.arrayOver (.object "RuleChoice$Area")).before #[Value.ref q0] s = true := tab_at hts 61 (by decide +kernel)
  have o5 : (Cond.arrayOver (.object "RuleChoice$Thing")).before #[Value.ref q0] s = true := tab_at hts 81 (by decide +kernel)
  obtain ⟨p3, a3, ka3, f3, -, g3, h3, n3⟩ := Cond.arrayOver_spec o3
  obtain ⟨p4, a4, ka4, f4, -, g4, h4, n4⟩ := Cond.arrayOver_spec o4
  obtain ⟨p5, a5, ka5, f5, -, g5, h5, n5⟩ := Cond.arrayOver_spec o5
  refine ⟨((cC7 c0 c1 c2 c3 c4 c5 c6, iS7 i0 i1 i2 i3 i4 i5 i6), cC7 a0 a1 a2 a3 a4 a5 a5, s.heap, saF s), rfl, ⟨fun c q hq => ?_, fun k q hq => ?_⟩, ⟨?_, ?_⟩, sa_R hts k0.2.1, fun x hx => va_Nw.of rfl (tab_in hts (dm_in x hx)), ⟨?_, ?_, ?_⟩, fun q hq => va_Nw.of rfl (tab_in hts (nq_in q hq)), va_AO.of o3, va_AO.of o4, va_AO.of o5⟩
  · match c, hq with
    | 0, hq => obtain rfl := Option.some.inj hq; exact k0
    | 1, hq => obtain rfl := Option.some.inj hq; exact k1
    | 2, hq => obtain rfl := Option.some.inj hq; exact k2
    | 3, hq => obtain rfl := Option.some.inj hq; exact k3
    | 4, hq => obtain rfl := Option.some.inj hq; exact k4
    | 5, hq => obtain rfl := Option.some.inj hq; exact k5
    | 6, hq => obtain rfl := Option.some.inj hq; exact k6
    | n + 7, hq => exact nomatch (show (none : Option vw_C) = some q from hq)
  · match k, hq with
    | 0, hq => obtain rfl := Option.some.inj hq; exact ⟨fun N z => ⟨(fun k h => by cases h), ka0, g0, p0, h0⟩, f0⟩
    | 1, hq => obtain rfl := Option.some.inj hq; exact ⟨fun N z => ⟨(fun k h => by cases h), ka1, g1, p1, h1⟩, f1⟩
    | 2, hq => obtain rfl := Option.some.inj hq; exact ⟨fun N z => ⟨(fun k h => by cases h), ka2, g2, p2, h2⟩, f2⟩
    | 3, hq => obtain rfl := Option.some.inj hq; exact ⟨fun N z => ⟨(fun k h => by cases h), ka3, g3, p3, h3⟩, ka3, p3, g3, h3, f3, n3⟩
    | 4, hq => obtain rfl := Option.some.inj hq; exact ⟨fun N z => ⟨(fun k h => by cases h), ka4, g4, p4, h4⟩, ka4, p4, g4, h4, f4, n4⟩
    | 5, hq => obtain rfl := Option.some.inj hq; exact ⟨fun N z => ⟨(fun k h => by cases h), ka5, g5, p5, h5⟩, ka5, p5, g5, h5, f5, n5⟩
    | n + 6, hq => exact nomatch (show (none : Option (ClassId × FieldType)) = some q from hq)
  · exact vx_Zqof (tab_at hts 220 (by decide +kernel)) (htb _ iz_Throwable) (hfl _ (by decide +kernel)) (fun a h q => Nat.not_le.mpr h q)
  · exact vx_Zqof (tab_at hts 222 (by decide +kernel)) (htb _ iz_Throwable) (hfl _ (by decide +kernel)) (fun a h q => Nat.not_le.mpr h q)
  · exact va_Nw.of rfl (tab_at hts 195 (by decide +kernel))
  · exact va_Nw.of rfl (tab_at hts 285 (by decide +kernel))
  · exact va_Nc.of (hfl _ (by decide +kernel))
