/-! the class's cells, at their places behind its own cell b -/
abbrev pt (ev : EV) (H : Heap) (a : Nat) (e : va_E) : Prop := va_at ev.1 CL (a, e) H
abbrev oC (ci : Nat) (fs : List Value) : va_E := .inr (ci, fs)
abbrev aI (ev : EV) (n : Nat) (f : Nat → Int32) : va_E := .inl (ev.2.1 0, n, .inl f)
abbrev aL (ev : EV) (n : Nat) (f : Nat → Int64) : va_E := .inl (ev.2.1 1, n, .inr (.inl f))
abbrev aZ (ev : EV) (n : Nat) (f : Nat → Int32) : va_E := .inl (ev.2.1 2, n, .inl f)
abbrev aQ (ev : EV) (k n : Nat) (f : Nat → Option Nat) : va_E := .inl (ev.2.1 k, n, .inr (.inr (.inr (.inr f))))
abbrev ruV (r : Ru) : List Value := [.int r.1, .int r.2.1, .int r.2.2.1, .int r.2.2.2.1, .long r.2.2.2.2.1, .int r.2.2.2.2.2.1, .int (oI r.2.2.2.2.2.2)]
abbrev aaV (r : Aa) : List Value := [.long r.1, .long r.2.1, .long r.2.2.1, .long r.2.2.2]
abbrev ttV (r : Tt) : List Value := [.int r.1, .int r.2.1, .long r.2.2.1, .long r.2.2.2]
/-- classes, the three counts, how often spared; rules, areas, things -/
abbrev XS : Type := (Int32 × Nat × Nat × Nat × Int64) × (Nat → Ru) × (Nat → Aa) × (Nat → Tt)
abbrev xO (ev : EV) (b : Nat) (q : Int32 × Nat × Nat × Nat × Int64) (H : Heap) : Prop := pt ev H b (oC 0 [.int q.1, .ref (b + 1), .ref (b + 42), .ref (b + 55), .ref (b + 96), .ref (b + 98), .int (nI q.2.1), .int (nI q.2.2.1), .int (nI q.2.2.2.1), .long q.2.2.2.2])
def xR (ev : EV) (b : Nat) (ru : Nat → Ru) (H : Heap) : Prop := pt ev H (b + 1) (aQ ev 3 40 (fun j => some (b + 2 + j))) ∧ ∀ i, i < 40 → pt ev H (b + 2 + i) (oC 4 (ruV (ru i)))
def xA (ev : EV) (b : Nat) (ar : Nat → Aa) (H : Heap) : Prop := pt ev H (b + 42) (aQ ev 4 12 (fun j => some (b + 43 + j))) ∧ ∀ i, i < 12 → pt ev H (b + 43 + i) (oC 2 (aaV (ar i)))
def xT (ev : EV) (b : Nat) (th : Nat → Tt) (H : Heap) : Prop := pt ev H (b + 55) (aQ ev 5 40 (fun j => some (b + 56 + j))) ∧ ∀ i, i < 40 → pt ev H (b + 56 + i) (oC 5 (ttV (th i)))
def xB (u : XS) : Prop := u.1.2.1 ≤ 40 ∧ u.1.2.2.1 ≤ 12 ∧ u.1.2.2.2.1 ≤ 40 ∧ (∀ i a, i < 40 → (u.2.1 i).2.2.2.2.2.2 = some a → a < u.1.2.2.1) ∧ ∀ i, i < 40 → okK (u.2.1 i).1
theorem xB_12 {u : XS} (h : xB u) {i a : Nat} (hi : i < 40) (e : (u.2.1 i).2.2.2.2.2.2 = some a) : a < 12 := Nat.lt_of_lt_of_le (h.2.2.2.1 i a hi e) h.2.1
def XW (ev : EV) (b : Nat) (u : XS) (H : Heap) : Prop := xO ev b u.1 H ∧ xR ev b u.2.1 H ∧ xA ev b u.2.2.1 H ∧ xT ev b u.2.2.2 H ∧ xB u
/-- kept answers: the slots, how many -/
def xN (ev : EV) (q : Nat) (sl : Nat → Int32) (H : Heap) : Prop := pt ev H q (oC 1 [.ref (q + 1), .int (nI (cntF sl 4920))]) ∧ pt ev H (q + 1) (aI ev 4920 sl)
/-- pairs that are too near -/
def xP (ev : EV) (q : Nat) (v : Nat × (Nat → Int32) × (Nat → Int32)) (H : Heap) : Prop := pt ev H q (oC 3 [.ref (q + 1), .ref (q + 2), .int (nI v.1)]) ∧ pt ev H (q + 1) (aI ev 780 v.2.1) ∧ pt ev H (q + 2) (aI ev 780 v.2.2) ∧ v.1 ≤ 780
theorem pt_k {ev : EV} {H H1 : Heap} {a : Nat} {e : va_E} (h : pt ev H a e) (hq : H1[a]? = H[a]?) : pt ev H1 a e := va_at.kept h hq
theorem pt_lt {ev : EV} {H : Heap} {a : Nat} {e : va_E} (h : pt ev H a e) : a < H.size := va_at.lt h
theorem xO_k {ev : EV} {b : Nat} {q : Int32 × Nat × Nat × Nat × Int64} {H H1 : Heap} (h : xO ev b q H) (hq : H1[b]? = H[b]?) : xO ev b q H1 := pt_k h hq
theorem xR_k {ev : EV} {b : Nat} {v : Nat → Ru} {H H1 : Heap} (h : xR ev b v H) (hq : ∀ q : Nat, b + 1 ≤ q → q < b + 42 → H1[q]? = H[q]?) : xR ev b v H1 := ⟨pt_k h.1 (hq _ (by omega) (by omega)), fun i hi => pt_k (h.2 i hi) (hq _ (by omega) (by omega))⟩
theorem xA_k {ev : EV} {b : Nat} {v : Nat → Aa} {H H1 : Heap} (h : xA ev b v H) (hq : ∀ q : Nat, b + 42 ≤ q → q < b + 55 → H1[q]? = H[q]?) : xA ev b v H1 := ⟨pt_k h.1 (hq _ (by omega) (by omega)), fun i hi => pt_k (h.2 i hi) (hq _ (by omega) (by omega))⟩
theorem xT_k {ev : EV} {b : Nat} {v : Nat → Tt} {H H1 : Heap} (h : xT ev b v H) (hq : ∀ q : Nat, b + 55 ≤ q → q < b + 96 → H1[q]? = H[q]?) : xT ev b v H1 := ⟨pt_k h.1 (hq _ (by omega) (by omega)), fun i hi => pt_k (h.2 i hi) (hq _ (by omega) (by omega))⟩
theorem XW_k {ev : EV} {b : Nat} {u : XS} {H H1 : Heap} (h : XW ev b u H) (hq : ∀ q : Nat, b ≤ q → q < b + 96 → H1[q]? = H[q]?) : XW ev b u H1 :=
  ⟨xO_k h.1 (hq _ (by omega) (by omega)), xR_k h.2.1 (fun q _ _ => hq _ (by omega) (by omega)), xA_k h.2.2.1 (fun q _ _ => hq _ (by omega) (by omega)), xT_k h.2.2.2.1 (fun q _ _ => hq _ (by omega) (by omega)), h.2.2.2.2⟩
theorem xN_k {ev : EV} {q : Nat} {sl : Nat → Int32} {H H1 : Heap} (h : xN ev q sl H) (hq : ∀ x : Nat, q ≤ x → x < q + 2 → H1[x]? = H[x]?) : xN ev q sl H1 := ⟨pt_k h.1 (hq _ (by omega) (by omega)), pt_k h.2 (hq _ (by omega) (by omega))⟩
theorem xP_k {ev : EV} {q : Nat} {v : Nat × (Nat → Int32) × (Nat → Int32)} {H H1 : Heap} (h : xP ev q v H) (hq : ∀ x : Nat, q ≤ x → x < q + 3 → H1[x]? = H[x]?) : xP ev q v H1 := ⟨pt_k h.1 (hq _ (by omega) (by omega)), pt_k h.2.1 (hq _ (by omega) (by omega)), pt_k h.2.2.1 (hq _ (by omega) (by omega)), h.2.2.2⟩
/-- since H only cells of a block have changed, none came -/
def Blk (lo hi : Nat) (H H1 : Heap) : Prop := H1.size = H.size ∧ ∀ q : Nat, (q < lo ∨ hi ≤ q) → H1[q]? = H[q]?
theorem Blk.rf {lo hi : Nat} {H : Heap} : Blk lo hi H H := ⟨rfl, fun _ _ => rfl⟩
theorem Blk.trans {lo hi : Nat} {H H1 H2 : Heap} (h1 : Blk lo hi H H1) (h2 : Blk lo hi H1 H2) : Blk lo hi H H2 := ⟨h2.1.trans h1.1, fun q hq => (h2.2 q hq).trans (h1.2 q hq)⟩
theorem Blk.wide {lo hi lo' hi' : Nat} {H H1 : Heap} (h : Blk lo hi H H1) (h1 : lo' ≤ lo) (h2 : hi ≤ hi') : Blk lo' hi' H H1 := ⟨h.1, fun q hq => h.2 q (by omega)⟩
theorem Blk.one {a : Nat} {H H1 : Heap} (z : H1.size = H.size) (o : ∀ q : Nat, q ≠ a → H1[q]? = H[q]?) : Blk a (a + 1) H H1 := ⟨z, fun q hq => o q (by omega)⟩
abbrev inBk (lo hi : Nat) : Nat → Prop := fun q => lo ≤ q ∧ q < hi
/-- of a state: the winner for a kind and two things -/
def besU (u : XS) (k x y : Nat) : Option Nat := besF u.2.1 u.2.2.1 none (nI k) (u.2.2.2 x) (u.2.2.2 y) u.1.2.1
/-- which answers are kept, and that each is the winner -/
def KP (u : XS) (kp : Nat → Nat → Nat → Bool) (sl : Nat → Int32) : Prop := ∀ k x y, k < 6 → x ≤ y → y < 40 → sl (sIx k x y) = (if kp k x y = true then oI (besU u k x y) + 2 else 0) ∧ (kp k x y = true → y < u.1.2.2.2.1)
abbrev KT : Type := Nat → Nat → Nat → Bool
abbrev PT : Type := Nat × (Nat → Int32) × (Nat → Int32)
/-- the whole class -/
def XF (ev : EV) (b : Nat) (u : XS) (kp : KT) (v : PT) (H : Heap) : Prop := XW ev b u H ∧ (∃ sl, KP u kp sl ∧ xN ev (b + 96) sl H) ∧ xP ev (b + 98) v H ∧ Old ev H ∧ (evH ev).size ≤ b
/-- since H only cells of the class's block have changed; new ones may have come -/
def Frm (b n : Nat) (H H1 : Heap) : Prop := H.size ≤ H1.size ∧ ∀ q : Nat, q < H.size → (q < b ∨ b + n ≤ q) → H1[q]? = H[q]?
theorem Frm.ext {b n : Nat} {H H1 : Heap} (h : Ext H H1) : Frm b n H H1 := ⟨h.1, fun q hq _ => h.2 q hq⟩
theorem Frm.blk {b n lo hi : Nat} {H H1 : Heap} (h : Blk lo hi H H1) (h1 : b ≤ lo) (h2 : hi ≤ b + n) : Frm b n H H1 := ⟨Nat.le_of_eq h.1.symm, fun q _ hq => h.2 q (by omega)⟩
theorem Old.blk {ev : EV} {lo hi : Nat} {H H1 : Heap} (h : Old ev H) (hB : Blk lo hi H H1) (hl : (evH ev).size ≤ lo) : Old ev H1 := ⟨by rw [hB.1]; exact h.1, fun q hq => (hB.2 q (Or.inl (by omega))).trans (h.2 q hq)⟩
theorem XF_ext {ev : EV} {b : Nat} {u : XS} {kp : KT} {v : PT} {H H1 : Heap} (h : XF ev b u kp v H) (e : Ext H H1) : XF ev b u kp v H1 := by
  obtain ⟨h1, ⟨sl, h2, h3⟩, h4, h5, h6⟩ := h
  have z : b + 100 < H.size := pt_lt h4.2.2.1
  exact ⟨XW_k h1 (fun q _ _ => e.2 q (by omega)), ⟨sl, h2, xN_k h3 (fun q _ _ => e.2 q (by omega))⟩, xP_k h4 (fun q _ _ => e.2 q (by omega)), h5.ext e, h6⟩
