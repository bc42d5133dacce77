/-! what a change of the tables does to winners -/
theorem nI_nk {k kk : Nat} (hk : k < 6) (hkk : kk < 6) (ne : k ≠ kk) : ¬ nI kk = nI k := fun e => ne ((nI_eq (by omega) (by omega)).mp e).symm
theorem bes_rul {u : XS} {kk : Nat} {r : Ru} (hr : r.1 = nI kk) (hkk : kk < 6) {k : Nat} (hk : k < 6) (ne : k ≠ kk) (x y : Nat) : besU ((u.1.1, u.1.2.1 + 1, u.1.2.2), va_up u.2.1 u.1.2.1 r, u.2.2) k x y = besU u k x y := by
  show besF (va_up u.2.1 u.1.2.1 r) u.2.2.1 none (nI k) (u.2.2.2 x) (u.2.2.2 y) (u.1.2.1 + 1) = _
  rw [besF_m]
  · exact besF_same _ (fun i hi => Or.inl (va_up_ne _ _ (by omega))) (fun _ _ => rfl)
  · rw [va_up_self]
    cases hm : matB u.2.2.1 r (nI k) (u.2.2.2 x) (u.2.2.2 y) with
    | false => rfl
    | true => exact absurd (hr.symm.trans (mat_k hm)) (nI_nk hk hkk ne)
theorem bes_row {u : XS} {i kk : Nat} {r : Ru} (h1 : (u.2.1 i).1 = nI kk) (h2 : r.1 = nI kk) (hkk : kk < 6) {k : Nat} (hk : k < 6) (ne : k ≠ kk) (x y : Nat) : besU (u.1, va_up u.2.1 i r, u.2.2) k x y = besU u k x y := by
  refine besF_same _ (fun j _ => ?_) (fun _ _ => rfl)
  by_cases e : j = i
  · subst e
    refine Or.inr ⟨by rw [h1]; exact nI_nk hk hkk ne, ?_⟩
    show (va_up u.2.1 j r j).1 ≠ nI k
    rw [va_up_self, h2]
    exact nI_nk hk hkk ne
  · exact Or.inl (va_up_ne _ _ e)
theorem mat_ar {ar ar' : Nat → Aa} {r : Ru} {kind : Int32} {s t s' t' : Tt} (h1 : s'.1 = s.1) (h2 : s'.2.1 = s.2.1) (h3 : t'.1 = t.1) (h4 : t'.2.1 = t.2.1) (ha : arB ar' r.2.2.2.2.2.2 s' t' = arB ar r.2.2.2.2.2.2 s t) : matB ar' r kind s' t' = matB ar r kind s t := by
  unfold matB
  rw [h1, h2, h3, h4, ha]
theorem bes_area {u : XS} {r : Aa} (hb : xB u) (k x y : Nat) : besU ((u.1.1, u.1.2.1, u.1.2.2.1 + 1, u.1.2.2.2), u.2.1, va_up u.2.2.1 u.1.2.2.1 r, u.2.2.2) k x y = besU u k x y := by
  refine besF_same _ (fun _ _ => Or.inl rfl) (fun i hi => ?_)
  refine mat_ar rfl rfl rfl rfl ?_
  have hi40 : i < 40 := Nat.lt_of_lt_of_le hi hb.1
  cases ho : (u.2.1 i).2.2.2.2.2.2 with
  | none => rfl
  | some a =>
    have ha := hb.2.2.2.1 i a hi40 ho
    show (inB (va_up u.2.2.1 u.1.2.2.1 r a) _ _ && inB (va_up u.2.2.1 u.1.2.2.1 r a) _ _) = _
    rw [va_up_ne _ _ (by omega)]
    rfl
theorem bes_thing {u : XS} {q : Int32 × Nat × Nat × Nat × Int64} {t : Nat} {r : Tt} (hq : q.2.1 = u.1.2.1) {x y : Nat} (hx : x ≠ t) (hy : y ≠ t) (k : Nat) : besU (q, u.2.1, u.2.2.1, va_up u.2.2.2 t r) k x y = besU u k x y := by
  show besF u.2.1 u.2.2.1 none (nI k) (va_up u.2.2.2 t r x) (va_up u.2.2.2 t r y) q.2.1 = _
  rw [va_up_ne _ _ hx, va_up_ne _ _ hy, hq]
  rfl
theorem bes_move {u : XS} {t : Nat} {x0 y0 : Int64} (hb : xB u) (hin : ∀ a, a < u.1.2.2.1 → inB (u.2.2.1 a) x0 y0 = inB (u.2.2.1 a) (u.2.2.2 t).2.2.1 (u.2.2.2 t).2.2.2) (k x y : Nat) : besU (u.1, u.2.1, u.2.2.1, va_up u.2.2.2 t ((u.2.2.2 t).1, (u.2.2.2 t).2.1, x0, y0)) k x y = besU u k x y := by
  have look : ∀ z, (va_up u.2.2.2 t ((u.2.2.2 t).1, (u.2.2.2 t).2.1, x0, y0) z).1 = (u.2.2.2 z).1 ∧ (va_up u.2.2.2 t ((u.2.2.2 t).1, (u.2.2.2 t).2.1, x0, y0) z).2.1 = (u.2.2.2 z).2.1 ∧ ∀ a, a < u.1.2.2.1 → inB (u.2.2.1 a) (va_up u.2.2.2 t ((u.2.2.2 t).1, (u.2.2.2 t).2.1, x0, y0) z).2.2.1 (va_up u.2.2.2 t ((u.2.2.2 t).1, (u.2.2.2 t).2.1, x0, y0) z).2.2.2 = inB (u.2.2.1 a) (u.2.2.2 z).2.2.1 (u.2.2.2 z).2.2.2 := by
    intro z
    by_cases e : z = t
    · subst e
      rw [va_up_self]
      exact ⟨rfl, rfl, hin⟩
    · rw [va_up_ne _ _ e]
      exact ⟨rfl, rfl, fun _ _ => rfl⟩
  refine besF_same _ (fun _ _ => Or.inl rfl) (fun i hi => ?_)
  refine mat_ar (look x).1 (look x).2.1 (look y).1 (look y).2.1 ?_
  have hi40 : i < 40 := Nat.lt_of_lt_of_le hi hb.1
  cases ho : (u.2.1 i).2.2.2.2.2.2 with
  | none => rfl
  | some a =>
    have ha := hb.2.2.2.1 i a hi40 ho
    show (inB (u.2.2.1 a) _ _ && inB (u.2.2.1 a) _ _) = _
    rw [(look x).2.2 a ha, (look y).2.2 a ha]
    rfl
theorem one_sh : ∀ l, l < 32 → ((1 : Int32) <<< (nI l &&& 31)).toBitVec = BitVec.twoPow 32 l := by decide +kernel
theorem arn_bit {ar : Nat → Aa} {x y : Int64} : ∀ n a, n ≤ 12 → a < 12 → (arnF ar x y n).toBitVec.getLsbD a = (decide (a < n) && inB (ar a) x y)
  | 0, a, _, _ => by
    show (0 : Int32).toBitVec.getLsbD a = _
    rw [decide_eq_false (by omega)]
    simp
  | n + 1, a, hn, ha => by
    have ih := arn_bit (ar := ar) (x := x) (y := y) n a (by omega) ha
    cases hi : inB (ar n) x y with
    | false =>
      rw [arnF_n hi, ih]
      by_cases e : a = n
      · subst e; rw [hi]; simp
      · rw [show decide (a < n + 1) = decide (a < n) from decide_eq_decide.mpr (by omega)]
    | true =>
      rw [arnF_y hi, Int32.toBitVec_or, BitVec.getLsbD_or, ih, one_sh n (by omega), BitVec.getLsbD_twoPow]
      by_cases e : a = n
      · subst e; rw [hi]; simp; omega
      · rw [show decide (a < n + 1) = decide (a < n) from decide_eq_decide.mpr (by omega)]
        have : ¬ n = a := fun q => e q.symm
        simp [this]
theorem arn_eq {ar : Nat → Aa} {x y x' y' : Int64} {n : Nat} (hn : n ≤ 12) (h : arnF ar x y n = arnF ar x' y' n) : ∀ a, a < n → inB (ar a) x' y' = inB (ar a) x y := by
  intro a ha
  have h1 := arn_bit (ar := ar) (x := x) (y := y) n a hn (by omega)
  have h2 := arn_bit (ar := ar) (x := x') (y := y') n a hn (by omega)
  rw [h, h2, decide_eq_true ha] at h1
  simpa using h1
theorem xB_r {u : XS} {i : Nat} {r : Ru} (h : xB u) (ha : ∀ a, r.2.2.2.2.2.2 = some a → a < u.1.2.2.1) (hk : okK r.1) : xB (u.1, va_up u.2.1 i r, u.2.2) := by
  refine ⟨h.1, h.2.1, h.2.2.1, fun j a hj e => ?_, fun j hj => ?_⟩
  · have e : (va_up u.2.1 i r j).2.2.2.2.2.2 = some a := e
    by_cases q : j = i
    · subst q; rw [va_up_self] at e; exact ha a e
    · rw [va_up_ne _ _ q] at e; exact h.2.2.2.1 j a hj e
  · show okK (va_up u.2.1 i r j).1
    by_cases q : j = i
    · subst q; rw [va_up_self]; exact hk
    · rw [va_up_ne _ _ q]; exact h.2.2.2.2 j hj
/-- an area's number, or NONE -/
def aO (x : Int32) : Option Nat := if x = -1 then none else some (nn x)
theorem aO_I {n : Nat} {x : Int32} (hn : n ≤ 12) (h : okIN n x) : oI (aO x) = x ∧ ∀ a, aO x = some a → a < n := by
  by_cases e : x = -1
  · subst e
    exact ⟨rfl, fun a q => by cases q⟩
  · have h2 : okI n x := h.resolve_left e
    obtain ⟨i, hi, rfl⟩ := okI_ix (Nat.lt_of_le_of_lt hn (by decide)) h2
    unfold aO
    have e9 : nn (nI i) = i := nn_nI (by omega)
    rw [if_neg e, e9]
    exact ⟨rfl, fun a q => by cases q; exact hi⟩
theorem oI_inj {o o' : Option Nat} (h : ∀ a, o = some a → a < 2 ^ 31) (h' : ∀ a, o' = some a → a < 2 ^ 31) (e : oI o = oI o') : o = o' := by
  cases o with
  | none =>
    cases o' with
    | none => rfl
    | some b => exact absurd e.symm (nI_ne (h' b rfl))
  | some a =>
    cases o' with
    | none => exact absurd e (nI_ne (h a rfl))
    | some b => rw [(nI_eq (h a rfl) (h' b rfl)).mp e]
theorem xO_r {ev : EV} {b n : Nat} {q : Int32 × Nat × Nat × Nat × Int64} {H : Heap} (h : pt ev H b (oC 0 [.int q.1, .ref (b + 1), .ref (b + 42), .ref (b + 55), .ref (b + 96), .ref (b + 98), .int (nI n + 1), .int (nI q.2.2.1), .int (nI q.2.2.2.1), .long q.2.2.2.2])) : xO ev b (q.1, n + 1, q.2.2) H := by
  rw [nI_1 n] at h
  exact h
theorem xO_a {ev : EV} {b n : Nat} {q : Int32 × Nat × Nat × Nat × Int64} {H : Heap} (h : pt ev H b (oC 0 [.int q.1, .ref (b + 1), .ref (b + 42), .ref (b + 55), .ref (b + 96), .ref (b + 98), .int (nI q.2.1), .int (nI n + 1), .int (nI q.2.2.2.1), .long q.2.2.2.2])) : xO ev b (q.1, q.2.1, n + 1, q.2.2.2) H := by
  rw [nI_1 n] at h
  exact h
theorem xO_t {ev : EV} {b n : Nat} {q : Int32 × Nat × Nat × Nat × Int64} {H : Heap} (h : pt ev H b (oC 0 [.int q.1, .ref (b + 1), .ref (b + 42), .ref (b + 55), .ref (b + 96), .ref (b + 98), .int (nI q.2.1), .int (nI q.2.2.1), .int (nI n + 1), .long q.2.2.2.2])) : xO ev b (q.1, q.2.1, q.2.2.1, n + 1, q.2.2.2.2) H := by
  rw [nI_1 n] at h
  exact h
