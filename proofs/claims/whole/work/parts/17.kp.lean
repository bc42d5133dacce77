/-! what is kept stays the winner -/
def kpK (kp : KT) (kk : Nat) : KT := fun k x y => kp k x y && !decide (k = kk)
def kpD (kp : KT) (t : Nat) : KT := fun k x y => kp k x y && !(decide (x = t) || decide (y = t))
def kpS (kp : KT) (kk a c : Nat) : KT := fun k x y => kp k x y || (decide (k = kk) && (decide (x = a) && decide (y = c)))
theorem KP_dropK {u u' : XS} {kp : KT} {sl : Nat → Int32} {kk : Nat} (h : KP u kp sl) (hnt : u'.1.2.2.2.1 = u.1.2.2.2.1) (hb : ∀ k x y, k < 6 → k ≠ kk → x ≤ y → y < 40 → besU u' k x y = besU u k x y) : KP u' (kpK kp kk) (dSf sl (kk * 820) 820) := by
  intro k x y hk hxy hy
  obtain ⟨h1, h2⟩ := h k x y hk hxy hy
  have bd := sIx_bd (k := k) hxy hy
  rw [dSf_at]
  by_cases e : k = kk
  · subst e
    rw [if_pos bd]
    have : kpK kp k k x y = false := by simp [kpK]
    rw [this]
    exact ⟨by rw [if_neg (by decide)], fun q => by cases q⟩
  · rw [if_neg (by omega), h1]
    have e2 : kpK kp kk k x y = kp k x y := by simp [kpK, e]
    rw [e2, hb k x y hk e hxy hy, hnt]
    exact ⟨rfl, h2⟩
theorem sIx_has {k x y t o : Nat} (h : x ≤ y) (hy : y < 40) (ht : t < 40) (ho : o < 40) {k' : Nat} (e : sIx k x y = sIx k' t o) : x = t ∨ y = t := by
  rcases Nat.le_total t o with q | q
  · exact Or.inl (sIx_inj h hy q ho e).2.1
  · rw [sIx_comm k' t o] at e
    exact Or.inr (sIx_inj h hy q ht e).2.2
theorem KP_dropT {u u' : XS} {kp : KT} {sl : Nat → Int32} {t : Nat} (ht : t < 40) (h : KP u kp sl) (hnt : u'.1.2.2.2.1 = u.1.2.2.2.1) (hb : ∀ k x y, k < 6 → x ≠ t → y ≠ t → x ≤ y → y < 40 → besU u' k x y = besU u k x y) : KP u' (kpD kp t) (dKf sl t 6) := by
  intro k x y hk hxy hy
  obtain ⟨h1, h2⟩ := h k x y hk hxy hy
  by_cases e : x = t ∨ y = t
  · have e1 : kpD kp t k x y = false := by
      unfold kpD
      rcases e with e | e <;> simp [e]
    rw [e1]
    refine ⟨?_, fun q => by cases q⟩
    rw [if_neg (by decide)]
    refine dKf_0 6 (Or.inl ?_)
    rcases e with e | e
    · exact ⟨k, y, hk, hy, by rw [e]⟩
    · exact ⟨k, x, hk, by omega, by rw [e]; exact sIx_comm k x t⟩
  · have ex : x ≠ t := fun q => e (Or.inl q)
    have ey : y ≠ t := fun q => e (Or.inr q)
    have e1 : kpD kp t k x y = kp k x y := by simp [kpD, ex, ey]
    rw [e1, dKf_no 6 (fun k' o _ ho q => e (sIx_has hxy hy ht ho q)), h1, hb k x y hk ex ey hxy hy, hnt]
    exact ⟨rfl, h2⟩
theorem KP_same {u u' : XS} {kp : KT} {sl : Nat → Int32} (h : KP u kp sl) (hnt : u.1.2.2.2.1 ≤ u'.1.2.2.2.1) (hb : ∀ k x y, k < 6 → x ≤ y → y < u.1.2.2.2.1 → besU u' k x y = besU u k x y) : KP u' kp sl := by
  intro k x y hk hxy hy
  obtain ⟨h1, h2⟩ := h k x y hk hxy hy
  rw [h1]
  cases hkp : kp k x y with
  | false => exact ⟨by rw [if_neg (by decide), if_neg (by decide)], fun q => by cases q⟩
  | true =>
    have := h2 hkp
    rw [hb k x y hk hxy this]
    exact ⟨rfl, fun _ => Nat.lt_of_lt_of_le this hnt⟩
theorem KP_keep {u : XS} {kp : KT} {sl : Nat → Int32} {kk a c : Nat} (h : KP u kp sl) (hac : a ≤ c) (hc : c < 40) (hc2 : c < u.1.2.2.2.1) : KP u (kpS kp kk a c) (upd sl (sIx kk a c) (oI (besU u kk a c) + 2)) := by
  intro k x y hk hxy hy
  obtain ⟨h1, h2⟩ := h k x y hk hxy hy
  by_cases e : k = kk ∧ x = a ∧ y = c
  · obtain ⟨rfl, rfl, rfl⟩ := e
    rw [pk_us]
    have : kpS kp k x y k x y = true := by simp [kpS]
    rw [this]
    exact ⟨rfl, fun _ => hc2⟩
  · have e1 : kpS kp kk a c k x y = kp k x y := by
      unfold kpS
      by_cases e1 : k = kk
      · by_cases e2 : x = a
        · have e3 : ¬ y = c := fun q => e ⟨e1, e2, q⟩
          simp [e3]
        · simp [e2]
      · simp [e1]
    rw [e1, pk_un (fun q => e (sIx_inj hxy hy hac hc q)), h1]
    exact ⟨rfl, h2⟩
theorem kpS_id {kp : KT} {kk a c : Nat} (h : kp kk a c = true) : kpS kp kk a c = kp := by
  funext k x y
  unfold kpS
  by_cases e : k = kk ∧ x = a ∧ y = c
  · obtain ⟨rfl, rfl, rfl⟩ := e
    rw [h]; rfl
  · by_cases e1 : k = kk
    · by_cases e2 : x = a
      · have e3 : ¬ y = c := fun q => e ⟨e1, e2, q⟩
        simp [e3]
      · simp [e2]
    · simp [e1]
theorem mat_comm (ar : Nat → Aa) (r : Ru) (kind : Int32) (s t : Tt) : matB ar r kind s t = matB ar r kind t s := by
  unfold matB
  congr 1
  congr 1
  · unfold btwB
    rw [Bool.or_comm]
  · congr 1
    · rw [Bool.and_comm]
    · cases r.2.2.2.2.2.2 with
      | none => rfl
      | some a => exact Bool.and_comm _ _
theorem bes_comm (u : XS) (k x y : Nat) : besU u k x y = besU u k y x := besF_same _ (fun _ _ => Or.inl rfl) (fun _ _ => mat_comm _ _ _ _ _)
theorem bes_mm (u : XS) (k x y : Nat) : besU u k (min x y) (max x y) = besU u k x y := by
  rcases Nat.le_total x y with h | h
  · rw [Nat.min_eq_left h, Nat.max_eq_right h]
  · rw [Nat.min_eq_right h, Nat.max_eq_left h, bes_comm]
theorem sIx_mm (k x y : Nat) : sIx k x y = sIx k (min x y) (max x y) := by
  rcases Nat.le_total x y with h | h
  · rw [Nat.min_eq_left h, Nat.max_eq_right h]
  · rw [Nat.min_eq_right h, Nat.max_eq_left h, sIx_comm]
/-! parts of the world that change -/
theorem XW_o {ev : EV} {b : Nat} {u : XS} {q' : Int32 × Nat × Nat × Nat × Int64} {H H1 : Heap} (h : XW ev b u H) (hat : xO ev b q' H1) (o : ∀ q : Nat, q ≠ b → H1[q]? = H[q]?) (hb : xB (q', u.2)) : XW ev b (q', u.2) H1 :=
  ⟨hat, xR_k h.2.1 (fun q _ _ => o q (by omega)), xA_k h.2.2.1 (fun q _ _ => o q (by omega)), xT_k h.2.2.2.1 (fun q _ _ => o q (by omega)), hb⟩
theorem xR_u {ev : EV} {b i : Nat} {ru : Nat → Ru} {r : Ru} {H H1 : Heap} (h : xR ev b ru H) (hat : pt ev H1 (b + 2 + i) (oC 4 (ruV r))) (o : Blk (b + 2 + i) (b + 2 + i + 1) H H1) : xR ev b (va_up ru i r) H1 := by
  refine ⟨pt_k h.1 (o.2 _ (by omega)), fun j hj => ?_⟩
  by_cases e : j = i
  · subst e; rw [va_up_self]; exact hat
  · rw [va_up_ne _ _ e]; exact pt_k (h.2 j hj) (o.2 _ (by omega))
theorem xA_u {ev : EV} {b i : Nat} {ru : Nat → Aa} {r : Aa} {H H1 : Heap} (h : xA ev b ru H) (hat : pt ev H1 (b + 43 + i) (oC 2 (aaV r))) (o : Blk (b + 43 + i) (b + 43 + i + 1) H H1) : xA ev b (va_up ru i r) H1 := by
  refine ⟨pt_k h.1 (o.2 _ (by omega)), fun j hj => ?_⟩
  by_cases e : j = i
  · subst e; rw [va_up_self]; exact hat
  · rw [va_up_ne _ _ e]; exact pt_k (h.2 j hj) (o.2 _ (by omega))
theorem xT_u {ev : EV} {b i : Nat} {ru : Nat → Tt} {r : Tt} {H H1 : Heap} (h : xT ev b ru H) (hat : pt ev H1 (b + 56 + i) (oC 5 (ttV r))) (o : Blk (b + 56 + i) (b + 56 + i + 1) H H1) : xT ev b (va_up ru i r) H1 := by
  refine ⟨pt_k h.1 (o.2 _ (by omega)), fun j hj => ?_⟩
  by_cases e : j = i
  · subst e; rw [va_up_self]; exact hat
  · rw [va_up_ne _ _ e]; exact pt_k (h.2 j hj) (o.2 _ (by omega))
theorem XW_r {ev : EV} {b i : Nat} {u : XS} {r : Ru} {H H1 : Heap} (h : XW ev b u H) (hi : i < 40) (hat : pt ev H1 (b + 2 + i) (oC 4 (ruV r))) (o : Blk (b + 2 + i) (b + 2 + i + 1) H H1) (hb : xB (u.1, va_up u.2.1 i r, u.2.2)) : XW ev b (u.1, va_up u.2.1 i r, u.2.2) H1 :=
  ⟨xO_k h.1 (o.2 _ (by omega)), xR_u h.2.1 hat o, xA_k h.2.2.1 (fun q _ _ => o.2 q (by omega)), xT_k h.2.2.2.1 (fun q _ _ => o.2 q (by omega)), hb⟩
theorem XW_a {ev : EV} {b i : Nat} {u : XS} {r : Aa} {H H1 : Heap} (h : XW ev b u H) (hi : i < 12) (hat : pt ev H1 (b + 43 + i) (oC 2 (aaV r))) (o : Blk (b + 43 + i) (b + 43 + i + 1) H H1) : XW ev b (u.1, u.2.1, va_up u.2.2.1 i r, u.2.2.2) H1 :=
  ⟨xO_k h.1 (o.2 _ (by omega)), xR_k h.2.1 (fun q _ _ => o.2 q (by omega)), xA_u h.2.2.1 hat o, xT_k h.2.2.2.1 (fun q _ _ => o.2 q (by omega)), h.2.2.2.2⟩
theorem XW_t {ev : EV} {b i : Nat} {u : XS} {r : Tt} {H H1 : Heap} (h : XW ev b u H) (hi : i < 40) (hat : pt ev H1 (b + 56 + i) (oC 5 (ttV r))) (o : Blk (b + 56 + i) (b + 56 + i + 1) H H1) : XW ev b (u.1, u.2.1, u.2.2.1, va_up u.2.2.2 i r) H1 :=
  ⟨xO_k h.1 (o.2 _ (by omega)), xR_k h.2.1 (fun q _ _ => o.2 q (by omega)), xA_k h.2.2.1 (fun q _ _ => o.2 q (by omega)), xT_u h.2.2.2.1 hat o, h.2.2.2.2⟩
theorem okIdx {n : Nat} {x : Int32} (hn : n ≤ 40) (h : okI n x) : ∃ i, i < n ∧ i < 40 ∧ x = nI i := by
  obtain ⟨i, h1, h2⟩ := okI_ix (Nat.lt_of_le_of_lt hn (by decide)) h
  exact ⟨i, h1, Nat.lt_of_lt_of_le h1 hn, h2⟩
