/-! the law's own body: the script, and what a turn of its loop leaves -/
section MyRowsS
variable {p : Program} {l : Launch} {e : Env} {R : Room} {s : State} {m : MethodId} {args : Array Value} {below : List Frame} {meth : Method} {c : Code} {H : Heap} {locs : List Loc} {cells slots : Nat} {Q : State → Prop}
variable {cc : ByteArray} {pc : Nat} {ls : Array Slot} {rest : List Value}
theorem rw_sld (hexec : p.tables.exec = Jvm.exec) (hb : c.code = cc) {ev : EV} {q0 L : Nat} {xs : Nat → Int32} (hX : va_X q0 L xs s (evH ev)) (hq : q0 < (evH ev).size) (hO : Old ev H) (hL : L ≤ 4609) {x : Int32} (j : Nat) (hx : x = nI j) (hj : j < L) (hdg : decode cc pc = .ok (.iaload, 1))
    (kk : W p l e R s m args below meth c H locs cells slots Q (F0 m (pc + 1) ls (.int (xs j) :: rest))) : W p l e R s m args below meth c H locs cells slots Q (F0 m pc ls (.int x :: .ref q0 :: rest)) := by
  subst hx
  obtain ⟨scr, h1, h2, h3, h4, h5⟩ := hX
  have hcl : (nI j).toNatClampNeg = j := nI_clamp (by omega)
  exact W.iald (v := .int (xs j)) hexec hb (by rw [hO.2 q0 hq]; exact h1) h2 h3 (by rw [h4]; exact vp_in_nI hj (by omega)) (by rw [hcl]; exact h5 _ hj) rfl rfl hdg kk
theorem rw_slen (hexec : p.tables.exec = Jvm.exec) (hb : c.code = cc) {ev : EV} {q0 L : Nat} {xs : Nat → Int32} (hX : va_X q0 L xs s (evH ev)) (hq : q0 < (evH ev).size) (hO : Old ev H) (hdg : decode cc pc = .ok (.arraylength, 1))
    (kk : W p l e R s m args below meth c H locs cells slots Q (F0 m (pc + 1) ls (.int (nI L) :: rest))) : W p l e R s m args below meth c H locs cells slots Q (F0 m pc ls (.ref q0 :: rest)) := by
  obtain ⟨scr, h1, h2, h3, h4, h5⟩ := hX
  exact W.alen (n := Int32.ofNat L) hexec hb (by rw [hO.2 q0 hq]; exact h1) h2 (by rw [h4] <;> rfl) rfl rfl hdg kk
end MyRowsS
theorem XF_B {ev : EV} {b : Nat} {u : XS} {kp : KT} {v : PT} {H H1 : Heap} (h : XF ev b u kp v H) (hB : Blk (b + 101) (b + 101 + 16) H H1) : XF ev b u kp v H1 := by
  obtain ⟨h1, ⟨sl, h2, h3⟩, h4, h5, h6⟩ := h
  exact ⟨XW_k h1 (fun q _ _ => hB.2 q (by omega)), ⟨sl, h2, xN_k h3 (fun q _ _ => hB.2 q (by omega))⟩, xP_k h4 (fun q _ _ => hB.2 q (by omega)), ⟨by rw [hB.1]; exact h5.1, fun q hq => (hB.2 q (by omega)).trans (h5.2 q hq)⟩, h6⟩
theorem MW_F {ev : EV} {b : Nat} {th : Int32} {u : XS} {kp : KT} {v : PT} {f : Nat → Int64} {H H1 : Heap} (h : MW ev (b + 101) th u kp v H) (ho : pt ev H (b + 117) (aL ev 1 f)) (hF : FrL b (b + 117) H H1) : MW ev (b + 101) th u kp v H1 :=
  MW_k h (fun q h1 h2 => hF.2 q (by have := pt_lt ho; omega) (by omega) (by omega))
/-- a long out of two ints of the script -/
def lo2 (a b : Int32) : Int64 := (a.toInt64 <<< ((32 : Int32).toInt64 &&& 63)) ||| (b.toInt64 &&& 4294967295)
theorem ix_9 {i L : Nat} (hL : L ≤ 4609) (h1 : 1 ≤ i) (h2 : i ≤ 4700) (h : ¬ nI L - 9 < nI i) : i + 9 ≤ L := by
  rw [Int32.lt_iff_toInt_lt, show (9 : Int32) = nI 9 from rfl, pk_sub_toInt (by omega) (by omega), nI_toInt (by omega)] at h
  omega
