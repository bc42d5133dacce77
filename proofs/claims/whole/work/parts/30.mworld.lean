/-! the model's rows: boolean arrays, answers that hang on the case -/
section MyRowsM
variable {p : Program} {l : Launch} {e : Env} {R : Room} {s : State} {m : MethodId} {args : Array Value} {below : List Frame} {meth : Method} {c : Code} {H : Heap} {locs : List Loc} {cells slots : Nat} {Q : State → Prop}
variable {cc : ByteArray} {pc : Nat} {ls : Array Slot} {rest st0 : List Value} {D : va_G} {cl : List vw_C} {tys : List (ClassId × FieldType)} {A : Nat → Prop} {a : Nat}
theorem rw_zald (hexec : p.tables.exec = Jvm.exec) (hb : c.code = cc) (hK : va_K D cl tys s) (t0 : Nat) {cA : ClassId} {n : Nat} {f : Nat → Int32} (hat : va_at D cl (a, .inl (cA, n, .inl f)) H) (ht : tys[t0]? = some (cA, .boolean)) {x : Int32} (i : Nat) (hx : x = nI i) (hi : i < n) (hn : n < 2 ^ 31) (hdg : decode cc pc = .ok (.baload, 1))
    (kk : W p l e R s m args below meth c H locs cells slots Q (F0 m (pc + 1) ls (.int (f i) :: rest))) : W p l e R s m args below meth c H locs cells slots Q (F0 m pc ls (.int x :: .ref a :: rest)) := by
  subst hx
  refine va_zald hexec hb hK (rw_sg hat) 0 t0 rfl ht (vp_in_nI hi hn) hdg ?_
  rw [nI_clamp (by omega)]
  exact kk
theorem rw_zast (hexec : p.tables.exec = Jvm.exec) (hb : c.code = cc) (hK : va_K D cl tys s) (t0 : Nat) {cA : ClassId} {n : Nat} {f : Nat → Int32} (hat : va_at D cl (a, .inl (cA, n, .inl f)) H) (ht : tys[t0]? = some (cA, .boolean)) {x y : Int32} (i : Nat) (hx : x = nI i) (hi : i < n) (hn : n < 2 ^ 31) (hy : narrow .boolean (.int y) = .int y) (hA : A a) (hL : ∀ q ∈ locs, A q.base) (hdg : decode cc pc = .ok (.bastore, 1))
    (kk : ∀ (H1 : Heap) (locs1 : List Loc), H1.size = H.size → (∀ q : Nat, q ≠ a → H1[q]? = H[q]?) → va_at D cl (a, .inl (cA, n, .inl (upd f i y))) H1 → (∀ q ∈ locs1, A q.base) → W p l e R s m args below meth c H1 locs1 cells slots Q (F0 m (pc + 1) ls rest)) : W p l e R s m args below meth c H locs cells slots Q (F0 m pc ls (.int y :: .int x :: .ref a :: rest)) := by
  subst hx
  have hcl : (nI i).toNatClampNeg = i := nI_clamp (by omega)
  refine W.zast hexec hb hat ((hK.2 t0 _ ht).1 n (fun j => .int (f j))) (fun q => by cases q) (by show ¬ (nI i < 0 ∨ (arrV _ _ _).slots.size ≤ _); rw [arrV_size]; exact vp_in_nI hi hn) rfl rfl hdg fun H1 e z oq => ?_
  refine kk H1 _ z oq ?_ (t_lc hL hA)
  show H1[a]? = some (vp_cell _ _)
  rw [e, hcl, vp_cell_i, vp_cell_i, arrV_store]
  congr 2
  funext q
  by_cases hq : q = i
  · subst hq
    simp [updV, upd, hy]
  · simp [updV, upd, hq]
/-- answers r, and the heap behind it holds P r -/
def cQe (P : Value → Heap → Prop) : Array Value → State → Outcome → State → Prop := fun _ _ o t => ∃ r, o = .returned (some r) ∧ P r t.heap
theorem re_i {ty : FieldType} {v : Int32} {P : Value → Heap → Prop} {free : Addr → Prop} {mc ms : Nat} (hQ : Q = MQ below (cQe P) args s mc ms free) (hx : p.tables.exec = Jvm.exec) (hb : c.code = cc) (hr : meth.sig.returnType = some ty) (hlk : meth.locks = false) (hn : narrow ty (.int v) = .int v) (hP : P (.int v) H) (hL : ∀ q ∈ locs, free q.base) (hc : cells ≤ mc) (hs : slots ≤ ms) (hd : decode cc pc = .ok (.ireturn, 1)) :
    W p l e R s m args below meth c H locs cells slots Q (F0 m pc ls [.int v]) := by
  subst hQ
  exact W.widen hc hs (W.zret hx hb hr hn (fun t ht _ => ⟨_, rfl, by rw [ht]; exact hP⟩) hL hd hlk)
theorem re_l {v : Int64} {P : Value → Heap → Prop} {free : Addr → Prop} {mc ms : Nat} (hQ : Q = MQ below (cQe P) args s mc ms free) (hx : p.tables.exec = Jvm.exec) (hb : c.code = cc) (hr : meth.sig.returnType = some .long) (hlk : meth.locks = false) (hP : P (.long v) H) (hL : ∀ q ∈ locs, free q.base) (hc : cells ≤ mc) (hs : slots ≤ ms) (hd : decode cc pc = .ok (.lreturn, 1)) :
    W p l e R s m args below meth c H locs cells slots Q (F0 m pc ls [.long v]) := by
  subst hQ
  exact W.widen hc hs (W.lret hx hb hr (fun t ht _ => ⟨_, rfl, by rw [ht]; exact hP⟩) hL hd hlk)
theorem cl_e {P : Value → Heap → Prop} {free : Addr → Prop} {mc ms : Nat} {a : Array Value} (hr : CallRun p l e R s m args below meth c H locs cells slots mc ms (F0 m pc ls st0) rest (cQe P a) free) (hL : ∀ q ∈ locs, A q.base) (hf : ∀ q, free q → A q)
    (kk : ∀ (r : Value) (H1 : Heap) (locs1 : List Loc), P r H1 → (∀ q ∈ locs1, A q.base) → W p l e R s m args below meth c H1 locs1 (cells + mc) (slots + ms) Q (F0 m (pc + 3) ls (r :: rest))) : W p l e R s m args below meth c H locs cells slots Q (F0 m pc ls st0) := by
  intro T hT X
  obtain ⟨v, st₀, t, T', L, h0, X', hL1, e1, ⟨r, hv, hh⟩, st⟩ := hr T hT X
  cases hv
  obtain ⟨t2, a1, b1⟩ := kk r t.heap _ hh (t_lL hL (fun q h => hf _ (hL1 q h))) T' e1 X'
  exact ⟨t2, st t2 a1, b1⟩
end MyRowsM
/-! what the model asks of arguments -/
def kB (k : Int32) : Bool := !decide (k < 0) && decide (k < 6)
def cB (n x : Int32) : Bool := !decide (x < 0) && decide (x < n)
def lB (x : Int32) : Bool := !decide (x < 0) && decide (x < 8)
def iB (n : Nat) (x : Int32) : Bool := !decide (x < 0) && decide (x < nI n)
def pB (x y : Int64) : Bool := !decide (x < -1000000) && (!decide (1000000 < x) && (!decide (y < -1000000) && !decide (1000000 < y)))
theorem kB_t (k : Int32) : kB k = true ↔ okK k := by simp [kB, okK]
theorem cB_t (n x : Int32) : cB n x = true ↔ okC n x := by simp [cB, okC]
theorem lB_t (x : Int32) : lB x = true ↔ okL x := by simp [lB, okL]
theorem iB_t (n : Nat) (x : Int32) : iB n x = true ↔ okI n x := by simp [iB, okI]
theorem pB_t (x y : Int64) : pB x y = true ↔ okP x y := by simp [pB, okP, Int64.not_lt, and_assoc]
theorem b_f {b : Bool} {P : Prop} (h : b = true ↔ P) : b = false ↔ ¬ P := by rw [← h]; simp
theorem kB_f (k : Int32) : kB k = false ↔ ¬ okK k := b_f (kB_t k)
theorem cB_f (n x : Int32) : cB n x = false ↔ ¬ okC n x := b_f (cB_t n x)
theorem lB_f (x : Int32) : lB x = false ↔ ¬ okL x := b_f (lB_t x)
theorem iB_f (n : Nat) (x : Int32) : iB n x = false ↔ ¬ okI n x := b_f (iB_t n x)
theorem pB_f (x y : Int64) : pB x y = false ↔ ¬ okP x y := b_f (pB_t x y)
/-! the model's cells, at their places behind its own cell d -/
def coR (a : Aa) : Nat → Int64
  | 0 => a.1
  | 1 => a.2.1
  | 2 => a.2.2.1
  | _ => a.2.2.2
def corF (ar : Nat → Aa) : Nat → Int64 := fun c => coR (ar (c / 4)) (c % 4)
abbrev mO (d : Nat) (th : Int32) (u : XS) (v : PT) : List Value := [.int th, .int u.1.1, .int (nI u.1.2.1), .ref (d + 1), .ref (d + 2), .ref (d + 3), .ref (d + 4), .ref (d + 5), .ref (d + 6), .ref (d + 7), .int (nI u.1.2.2.1), .ref (d + 8), .int (nI u.1.2.2.2.1), .ref (d + 9), .ref (d + 10), .ref (d + 11), .ref (d + 12), .ref (d + 13), .long u.1.2.2.2.2, .int (nI v.1), .ref (d + 14), .ref (d + 15)]
def MW (ev : EV) (d : Nat) (th : Int32) (u : XS) (kp : KT) (v : PT) (H : Heap) : Prop := pt ev H d (oC 6 (mO d th u v)) ∧ pt ev H (d + 1) (aI ev 40 (fun i => (u.2.1 i).1)) ∧ pt ev H (d + 2) (aI ev 40 (fun i => (u.2.1 i).2.1)) ∧ pt ev H (d + 3) (aI ev 40 (fun i => (u.2.1 i).2.2.1)) ∧ pt ev H (d + 4) (aI ev 40 (fun i => (u.2.1 i).2.2.2.1)) ∧ pt ev H (d + 5) (aL ev 40 (fun i => (u.2.1 i).2.2.2.2.1)) ∧ pt ev H (d + 6) (aI ev 40 (fun i => (u.2.1 i).2.2.2.2.2.1)) ∧ pt ev H (d + 7) (aI ev 40 (fun i => oW (u.2.1 i).2.2.2.2.2.2)) ∧ pt ev H (d + 8) (aL ev 48 (corF u.2.2.1)) ∧ pt ev H (d + 9) (aI ev 40 (fun i => (u.2.2.2 i).1)) ∧ pt ev H (d + 10) (aI ev 40 (fun i => (u.2.2.2 i).2.1)) ∧ pt ev H (d + 11) (aL ev 40 (fun i => (u.2.2.2 i).2.2.1)) ∧ pt ev H (d + 12) (aL ev 40 (fun i => (u.2.2.2 i).2.2.2)) ∧ pt ev H (d + 13) (aZ ev 9600 (kbF kp)) ∧ pt ev H (d + 14) (aI ev 780 v.2.1) ∧ pt ev H (d + 15) (aI ev 780 v.2.2) ∧ xB u ∧ v.1 ≤ 780
theorem MW_k {ev : EV} {d : Nat} {th : Int32} {u : XS} {kp : KT} {v : PT} {H H1 : Heap} (h : MW ev d th u kp v H) (hq : ∀ q : Nat, d ≤ q → q < d + 16 → H1[q]? = H[q]?) : MW ev d th u kp v H1 := by
  obtain ⟨m0, m1, m2, m3, m4, m5, m6, m7, m8, m9, m10, m11, m12, m13, m14, m15, hb, hv⟩ := h
  exact ⟨pt_k m0 (hq _ (by omega) (by omega)), pt_k m1 (hq _ (by omega) (by omega)), pt_k m2 (hq _ (by omega) (by omega)), pt_k m3 (hq _ (by omega) (by omega)), pt_k m4 (hq _ (by omega) (by omega)), pt_k m5 (hq _ (by omega) (by omega)), pt_k m6 (hq _ (by omega) (by omega)), pt_k m7 (hq _ (by omega) (by omega)), pt_k m8 (hq _ (by omega) (by omega)), pt_k m9 (hq _ (by omega) (by omega)), pt_k m10 (hq _ (by omega) (by omega)), pt_k m11 (hq _ (by omega) (by omega)), pt_k m12 (hq _ (by omega) (by omega)), pt_k m13 (hq _ (by omega) (by omega)), pt_k m14 (hq _ (by omega) (by omega)), pt_k m15 (hq _ (by omega) (by omega)), hb, hv⟩
theorem pt_i {ev : EV} {H : Heap} {a n : Nat} {cA : ClassId} {f g : Nat → Int32} (e : f = g) (h : pt ev H a (.inl (cA, n, .inl f))) : pt ev H a (.inl (cA, n, .inl g)) := by subst e; exact h
theorem pt_l {ev : EV} {H : Heap} {a n : Nat} {cA : ClassId} {f g : Nat → Int64} (e : f = g) (h : pt ev H a (.inl (cA, n, .inr (.inl f)))) : pt ev H a (.inl (cA, n, .inr (.inl g))) := by subst e; exact h
theorem pt_ip {ev : EV} {H : Heap} {a n : Nat} {cA : ClassId} {f g : Nat → Int32} (e : ∀ i, i < n → f i = g i) (h : pt ev H a (.inl (cA, n, .inl f))) : pt ev H a (.inl (cA, n, .inl g)) := by
  have h : H[a]? = some (vp_cell cA (n, .inl f)) := h
  show H[a]? = some (vp_cell cA (n, .inl g))
  rw [h]
  congr 1
  rw [vp_cell_i, vp_cell_i]
  unfold arrV
  congr 1
  congr 1
  funext j
  show Value.int (f j.val) = Value.int (g j.val)
  rw [e j.val j.isLt]
theorem up_i {α : Type} (g : α → Int32) (f : Nat → α) (n : Nat) (r : α) {y : Int32} (h : g r = y) : upd (fun i => g (f i)) n y = fun i => g (va_up f n r i) := by
  funext j
  by_cases e : j = n
  · subst e; rw [pk_us, va_up_self, h]
  · rw [pk_un e, va_up_ne _ _ e]
theorem up_l {α : Type} (g : α → Int64) (f : Nat → α) (n : Nat) (r : α) {y : Int64} (h : g r = y) : vp_updL (fun i => g (f i)) n y = fun i => g (va_up f n r i) := by
  funext j
  by_cases e : j = n
  · subst e; rw [pk_uLs, va_up_self, h]
  · rw [pk_uLn e, va_up_ne _ _ e]
theorem up_k {α β : Type} (g : α → β) (f : Nat → α) (n : Nat) (r : α) (h : g (f n) = g r) : (fun i => g (f i)) = fun i => g (va_up f n r i) := by
  funext j
  by_cases e : j = n
  · subst e; rw [va_up_self, h]
  · rw [va_up_ne _ _ e]
theorem cor_u (ar : Nat → Aa) (n : Nat) (x0 y0 x1 y1 : Int64) : vp_updL (vp_updL (vp_updL (vp_updL (corF ar) (4 * n) x0) (4 * n + 1) y0) (4 * n + 2) x1) (4 * n + 3) y1 = corF (va_up ar n (x0, y0, x1, y1)) := by
  funext c
  have hc : c = 4 * (c / 4) + c % 4 := by omega
  by_cases e : c / 4 = n
  · have h4 : c % 4 < 4 := Nat.mod_lt _ (by decide)
    have e1 : corF (va_up ar n (x0, y0, x1, y1)) c = coR (x0, y0, x1, y1) (c % 4) := by unfold corF; rw [e, va_up_self]
    rw [e1]
    by_cases q3 : c % 4 = 3
    · rw [show c = 4 * n + 3 by omega, pk_uLs, show (4 * n + 3) % 4 = 3 by omega]; rfl
    · rw [pk_uLn (by omega)]
      by_cases q2 : c % 4 = 2
      · rw [show c = 4 * n + 2 by omega, pk_uLs, show (4 * n + 2) % 4 = 2 by omega]; rfl
      · rw [pk_uLn (by omega)]
        by_cases q1 : c % 4 = 1
        · rw [show c = 4 * n + 1 by omega, pk_uLs, show (4 * n + 1) % 4 = 1 by omega]; rfl
        · rw [pk_uLn (by omega), show c = 4 * n by omega, pk_uLs, show (4 * n) % 4 = 0 by omega]; rfl
  · rw [pk_uLn (by omega), pk_uLn (by omega), pk_uLn (by omega), pk_uLn (by omega)]
    unfold corF
    rw [va_up_ne _ _ e]
theorem cor_0 (ar : Nat → Aa) (n : Nat) : corF ar (4 * n) = (ar n).1 := by unfold corF; rw [show 4 * n / 4 = n by omega, show 4 * n % 4 = 0 by omega]; rfl
theorem cor_1 (ar : Nat → Aa) (n : Nat) : corF ar (4 * n + 1) = (ar n).2.1 := by unfold corF; rw [show (4 * n + 1) / 4 = n by omega, show (4 * n + 1) % 4 = 1 by omega]; rfl
theorem cor_2 (ar : Nat → Aa) (n : Nat) : corF ar (4 * n + 2) = (ar n).2.2.1 := by unfold corF; rw [show (4 * n + 2) / 4 = n by omega, show (4 * n + 2) % 4 = 2 by omega]; rfl
theorem cor_3 (ar : Nat → Aa) (n : Nat) : corF ar (4 * n + 3) = (ar n).2.2.2 := by unfold corF; rw [show (4 * n + 3) / 4 = n by omega, show (4 * n + 3) % 4 = 3 by omega]; rfl
/-! the model's marks -/
theorem kb_K (kp : KT) (kk : Nat) : dSf (kbF kp) (1600 * kk) 1600 = kbF (kpK kp kk) := by
  funext s
  rw [dSf_at]
  unfold kbF kpK
  by_cases e : s / 1600 = kk
  · rw [if_pos (by omega), decide_eq_true e]
    simp [bI]
  · rw [if_neg (by omega), decide_eq_false e]
    simp
def eTf (f : Nat → Int32) (t : Nat) : Nat → Nat → Int32
  | 0 => f
  | n + 1 => if n % 1600 / 40 = t ∨ n % 40 = t then upd (eTf f t n) n 0 else eTf f t n
theorem eT_y {f : Nat → Int32} {t n : Nat} (h : n % 1600 / 40 = t ∨ n % 40 = t) : eTf f t (n + 1) = upd (eTf f t n) n 0 := by rw [eTf, if_pos h]
theorem eT_n {f : Nat → Int32} {t n : Nat} (h1 : ¬ n % 1600 / 40 = t) (h2 : ¬ n % 40 = t) : eTf f t (n + 1) = eTf f t n := by rw [eTf, if_neg (fun h => h.elim h1 h2)]
theorem eT_at (f : Nat → Int32) (t : Nat) : ∀ n s, eTf f t n s = if s < n ∧ (s % 1600 / 40 = t ∨ s % 40 = t) then 0 else f s
  | 0, s => by rw [if_neg (by omega)]; rfl
  | n + 1, s => by
    unfold eTf
    by_cases h : n % 1600 / 40 = t ∨ n % 40 = t
    · rw [if_pos h]
      by_cases e : s = n
      · subst e; rw [pk_us, if_pos ⟨by omega, h⟩]
      · rw [pk_un e, eT_at f t n s]
        by_cases q : s < n ∧ (s % 1600 / 40 = t ∨ s % 40 = t)
        · rw [if_pos q, if_pos ⟨by omega, q.2⟩]
        · rw [if_neg q, if_neg (fun z => q ⟨by omega, z.2⟩)]
    · rw [if_neg h, eT_at f t n s]
      by_cases q : s < n ∧ (s % 1600 / 40 = t ∨ s % 40 = t)
      · rw [if_pos q, if_pos ⟨by omega, q.2⟩]
      · rw [if_neg q, if_neg (fun z => q ⟨by
          rcases Nat.lt_or_ge s n with w | w
          · exact w
          · exact absurd (by rw [show n = s by omega]; exact z.2) h, z.2⟩)]
theorem kb_D (kp : KT) (t : Nat) : ∀ s, s < 9600 → eTf (kbF kp) t 9600 s = kbF (kpD kp t) s := by
  intro s hs
  rw [eT_at]
  unfold kbF kpD
  by_cases h1 : s % 1600 / 40 = t
  · rw [if_pos ⟨hs, Or.inl h1⟩, decide_eq_true h1]; simp [bI]
  · by_cases h2 : s % 40 = t
    · rw [if_pos ⟨hs, Or.inr h2⟩, decide_eq_true h2]; simp [bI]
    · rw [if_neg (fun q => q.2.elim h1 h2), decide_eq_false h1, decide_eq_false h2]; simp
theorem kb_S (kp : KT) {kk a c : Nat} (hac : a ≤ c) (hc : c < 40) : upd (kbF kp) (1600 * kk + (40 * a + c)) 1 = kbF (kpS kp kk a c) := by
  funext s
  by_cases e : s = 1600 * kk + (40 * a + c)
  · rw [e, pk_us]
    have e1 : (1600 * kk + (40 * a + c)) / 1600 = kk := by omega
    have e2 : (1600 * kk + (40 * a + c)) % 1600 / 40 = a := by omega
    have e3 : (1600 * kk + (40 * a + c)) % 40 = c := by omega
    unfold kbF kpS
    rw [e1, e2, e3]
    simp [bI, hac]
  · rw [pk_un e]
    unfold kbF kpS
    have : (decide (s / 1600 = kk) && (decide (s % 1600 / 40 = a) && decide (s % 40 = c))) = false := by
      by_cases q1 : s / 1600 = kk
      · by_cases q2 : s % 1600 / 40 = a
        · rw [decide_eq_false (show ¬ s % 40 = c by omega)]; simp
        · simp [q2]
      · simp [q1]
    rw [this, Bool.or_false]
theorem kb_v (kp : KT) {kk a c : Nat} (hac : a ≤ c) (hc : c < 40) : kbF kp (1600 * kk + (40 * a + c)) = bI (kp kk a c) := by
  have h := kb_at kp (k := kk) (x := a) (y := c) (by omega) hc
  rw [show 1600 * kk + (40 * a + c) = kk * 1600 + (a * 40 + c) by omega, h, decide_eq_true hac, Bool.and_true]
/-! where a rule holds, the model's way -/
theorem oW_0 {o : Option Nat} (hb : ∀ a, o = some a → a < 12) (h : oW o = 0) : o = none := by
  cases o with
  | none => rfl
  | some a => exact absurd h (nI_ne0 (by omega) (by have := hb a rfl; omega))
theorem oW_1 {o : Option Nat} (h : ¬ oW o = 0) : ∃ a, o = some a := by
  cases o with
  | none => exact absurd rfl h
  | some a => exact ⟨a, rfl⟩
theorem oW_i {n : Nat} {x : Int32} (hn : n ≤ 12) (h : okIN n x) : oW (aO x) = x + 1 := by
  by_cases e : x = -1
  · subst e; decide
  · have h2 : okI n x := h.resolve_left e
    obtain ⟨i, hi, rfl⟩ := okI_ix (Nat.lt_of_le_of_lt hn (by decide)) h2
    unfold aO
    rw [if_neg e, show nn (nI i) = i from nn_nI (by omega), nI_1]
    rfl
theorem oW_inj {o o' : Option Nat} (h : ∀ a, o = some a → a < 12) (h' : ∀ a, o' = some a → a < 12) (e : oW o = oW o') : o = o' := by
  cases o with
  | none =>
    cases o' with
    | none => rfl
    | some b => exact absurd e.symm (nI_ne0 (by omega) (by have := h' b rfl; omega))
  | some a =>
    cases o' with
    | none => exact absurd e (nI_ne0 (by omega) (by have := h a rfl; omega))
    | some b =>
      have h1 := h a rfl
      have h2 := h' b rfl
      have := (nI_eq (a := a + 1) (b := b + 1) (by omega) (by omega)).mp e
      rw [show a = b by omega]
theorem in_ok {n : Nat} {x : Int32} (h1 : ¬ x < -1) (h2 : x < nI n) : okIN n x := by
  by_cases e : x = -1
  · exact Or.inl e
  · refine Or.inr ⟨fun h => e ?_, h2⟩
    apply Int32.toInt_inj.mp
    rw [Int32.lt_iff_toInt_lt] at h1 h
    have e1 : (-1 : Int32).toInt = -1 := by decide
    have e0 : (0 : Int32).toInt = 0 := by decide
    rw [e1] at h1
    rw [e0] at h
    rw [e1]
    omega
theorem in_no {n : Nat} {x : Int32} (hn : n ≤ 12) (h : okIN n x) : ¬ x < -1 ∧ x < nI n := by
  rcases h with e | ⟨h1, h2⟩
  · subst e
    refine ⟨by decide, ?_⟩
    rw [Int32.lt_iff_toInt_lt, nI_toInt (by omega), show (-1 : Int32).toInt = -1 by decide]
    omega
  · refine ⟨fun q => h1 ?_, h2⟩
    rw [Int32.lt_iff_toInt_lt] at q ⊢
    have e1 : (-1 : Int32).toInt = -1 := by decide
    have e0 : (0 : Int32).toInt = 0 := by decide
    rw [e1] at q
    rw [e0]
    omega
theorem grt_m {u : XS} {k la : Int32} {n : Nat} (h1 : (u.2.1 n).1 = k) (h2 : layB (u.2.1 n) la = true) (h3 : grtF u k la n < (u.2.1 n).2.2.2.2.1) : grtF u k la (n + 1) = (u.2.1 n).2.2.2.2.1 := by
  rw [grt_y h1 h2, if_neg (fun h => Int64.lt_irrefl (Int64.lt_trans h h3))]
theorem grt_o {u : XS} {k la : Int32} {n : Nat} (h1 : (u.2.1 n).1 = k) (h2 : layB (u.2.1 n) la = true) (h3 : ¬ grtF u k la n < (u.2.1 n).2.2.2.2.1) : grtF u k la (n + 1) = grtF u k la n := by
  rw [grt_y h1 h2]
  by_cases h : (u.2.1 n).2.2.2.2.1 < grtF u k la n
  · rw [if_pos h]
  · rw [if_neg h]; exact Int64.le_antisymm (Int64.not_lt.mp h3) (Int64.not_lt.mp h)
