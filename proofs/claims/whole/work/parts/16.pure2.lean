/-! the winner hangs on the rules of its kind, on the two things, on the areas of these rules -/
theorem besF_mat {ru : Nat → Ru} {ar : Nat → Aa} {up : Option Nat} {kind : Int32} {s t : Tt} : ∀ (n i : Nat), besF ru ar up kind s t n = some i → matB ar (ru i) kind s t = true
  | 0, i, h => by cases h
  | n + 1, i, h => by
    unfold besF at h
    split at h
    · rename_i g
      cases h
      simp only [Bool.and_eq_true] at g
      exact g.2
    · exact besF_mat n i h
theorem mat_k {ar : Nat → Aa} {r : Ru} {kind : Int32} {s t : Tt} (h : matB ar r kind s t = true) : r.1 = kind := by
  unfold matB at h
  simp only [Bool.and_eq_true, decide_eq_true_eq] at h
  exact h.1
/-- other rules of this kind, other areas that no rule of it has, things that look alike: the same winner -/
theorem besF_same {ru ru' : Nat → Ru} {ar ar' : Nat → Aa} {kind : Int32} {s t s' t' : Tt} : ∀ n, (∀ i, i < n → (ru' i = ru i ∨ ((ru i).1 ≠ kind ∧ (ru' i).1 ≠ kind))) → (∀ i, i < n → matB ar' (ru i) kind s' t' = matB ar (ru i) kind s t) → besF ru' ar' none kind s' t' n = besF ru ar none kind s t n
  | 0, _, _ => rfl
  | n + 1, h, hm => by
    have ih := besF_same (ru := ru) (ru' := ru') (ar := ar) (ar' := ar') (kind := kind) (s := s) (t := t) (s' := s') (t' := t') n (fun i hi => h i (by omega)) (fun i hi => hm i (by omega))
    have hn := h n (by omega)
    have hmn := hm n (by omega)
    cases hmat : matB ar (ru n) kind s t with
    | false =>
      have h2 : matB ar' (ru' n) kind s' t' = false := by
        rcases hn with e | ⟨e1, e2⟩
        · rw [e, hmn]; exact hmat
        · cases hc : matB ar' (ru' n) kind s' t' with
          | false => rfl
          | true => exact absurd (mat_k hc) e2
      rw [besF_m hmat, besF_m h2, ih]
    | true =>
      have e : ru' n = ru n := by
        rcases hn with e | ⟨e1, -⟩
        · exact e
        · exact absurd (mat_k hmat) e1
      have h2 : matB ar' (ru' n) kind s' t' = true := by rw [e, hmn]; exact hmat
      have hb : btB ru' n (besF ru' ar' none kind s' t' n) = btB ru n (besF ru ar none kind s t n) := by
        rw [ih]
        cases hbs : besF ru ar none kind s t n with
        | none => rfl
        | some j =>
          have hj := besF_lt n j hbs
          have hjm := besF_mat n j hbs
          have ej : ru' j = ru j := by
            rcases h j (by omega) with q | ⟨q, -⟩
            · exact q
            · exact absurd (mat_k hjm) q
          show ahB ru' n j = ahB ru n j
          unfold ahB
          rw [e, ej]
      cases hbb : btB ru n (besF ru ar none kind s t n) with
      | false => rw [besF_b hbb, besF_b (by rw [hb]; exact hbb), ih]
      | true => rw [besF_y rfl hbb hmat, besF_y rfl (by rw [hb]; exact hbb) h2]
theorem besF_40 {ru : Nat → Ru} {ar : Nat → Aa} {up : Option Nat} {kind : Int32} {s t : Tt} {n : Nat} (hn : n ≤ 40) : ∀ a, besF ru ar up kind s t n = some a → a < 40 := fun a h => Nat.lt_of_lt_of_le (besF_lt n a h) hn
theorem oI_2 {o : Option Nat} (h : ∀ a, o = some a → a < 40) : ¬ oI o + 2 = 0 := by
  cases o with
  | none => decide
  | some a =>
    have := h a rfl
    show ¬ nI a + 2 = 0
    rw [show (2 : Int32) = nI 2 from rfl, nI_add]
    exact nI_ne0 (by omega) (by omega)
theorem i_as (x : Int32) : x + 2 - 2 = x := by
  apply Int32.toInt_inj.mp
  rw [show x + 2 - 2 = x + (2 - 2) from by rw [Int32.sub_eq_add_neg, Int32.add_assoc]; rfl]
  simp
theorem okK_ix {k : Int32} (h : okK k) : ∃ i, i < 6 ∧ k = nI i := okI_ix (n := 6) (by decide) h
/-! slots: different keys, different slots -/
theorem tri_step {h : Nat} : (h + 1) * (h + 1 + 1) / 2 = h * (h + 1) / 2 + (h + 1) := by
  have e : (h + 1) * (h + 1 + 1) = h * (h + 1) + (h + 1) * 2 := by rw [Nat.add_mul, Nat.mul_add]; omega
  rw [e]
  omega
theorem tri_mono {a b : Nat} (h : a < b) : a * (a + 1) / 2 + (a + 1) ≤ b * (b + 1) / 2 := by
  induction b with
  | zero => omega
  | succ b ih =>
    rw [tri_step]
    by_cases e : a = b
    · subst e; omega
    · have := ih (by omega)
      omega
theorem sIx_le {k x y : Nat} (h : x ≤ y) : sIx k x y = k * 820 + (y * (y + 1) / 2 + x) := by
  unfold sIx
  rw [Nat.max_eq_right h, Nat.min_eq_left h]
theorem sIx_comm (k x y : Nat) : sIx k x y = sIx k y x := by
  unfold sIx
  rw [Nat.max_comm, Nat.min_comm]
theorem sIx_bd {k x y : Nat} (h : x ≤ y) (hy : y < 40) : k * 820 ≤ sIx k x y ∧ sIx k x y < k * 820 + 820 := by
  rw [sIx_le h]
  have := tri_lt hy
  omega
theorem sIx_inj {k x y k' x' y' : Nat} (h : x ≤ y) (hy : y < 40) (h' : x' ≤ y') (hy' : y' < 40) (e : sIx k x y = sIx k' x' y') : k = k' ∧ x = x' ∧ y = y' := by
  have b1 := sIx_bd (k := k) h hy
  have b2 := sIx_bd (k := k') h' hy'
  have ek : k = k' := by omega
  subst ek
  rw [sIx_le h, sIx_le h'] at e
  have ey : y = y' := by
    rcases Nat.lt_trichotomy y y' with q | q | q
    · have := tri_mono q; omega
    · exact q
    · have := tri_mono q; omega
  subst ey
  exact ⟨rfl, by omega, rfl⟩
theorem dSf_at (sl : Nat → Int32) (lo : Nat) : ∀ n s, dSf sl lo n s = if lo ≤ s ∧ s < lo + n then 0 else sl s
  | 0, s => by rw [if_neg (by omega)]; rfl
  | n + 1, s => by
    unfold dSf
    by_cases e : s = lo + n
    · subst e; rw [pk_us, if_pos (by omega)]
    · rw [pk_un e, dSf_at sl lo n s]
      by_cases h : lo ≤ s ∧ s < lo + n
      · rw [if_pos h, if_pos (by omega)]
      · rw [if_neg h, if_neg (by omega)]
theorem dOf_no {sl : Nat → Int32} {k t s : Nat} : ∀ n, (∀ o, o < n → s ≠ sIx k t o) → dOf sl k t n s = sl s
  | 0, _ => rfl
  | n + 1, h => by
    unfold dOf
    rw [pk_un (h n (by omega))]
    exact dOf_no n (fun o ho => h o (by omega))
theorem dOf_0 {sl : Nat → Int32} {k t s : Nat} : ∀ n, ((∃ o, o < n ∧ s = sIx k t o) ∨ sl s = 0) → dOf sl k t n s = 0
  | 0, h => by
    rcases h with ⟨o, ho, -⟩ | h
    · omega
    · exact h
  | n + 1, h => by
    unfold dOf
    by_cases e : s = sIx k t n
    · subst e; rw [pk_us]
    · rw [pk_un e]
      refine dOf_0 n ?_
      rcases h with ⟨o, ho, hs⟩ | h
      · refine Or.inl ⟨o, ?_, hs⟩
        rcases Nat.lt_or_ge o n with q | q
        · exact q
        · exact absurd (by rw [hs, show o = n by omega]) e
      · exact Or.inr h
theorem dKf_no {sl : Nat → Int32} {t s : Nat} : ∀ n, (∀ k o, k < n → o < 40 → s ≠ sIx k t o) → dKf sl t n s = sl s
  | 0, _ => rfl
  | n + 1, h => by
    unfold dKf
    rw [dOf_no 40 (fun o ho => h n o (by omega) ho)]
    exact dKf_no n (fun k o hk ho => h k o (by omega) ho)
theorem dKf_0 {sl : Nat → Int32} {t s : Nat} : ∀ n, ((∃ k o, k < n ∧ o < 40 ∧ s = sIx k t o) ∨ sl s = 0) → dKf sl t n s = 0
  | 0, h => by
    rcases h with ⟨k, o, hk, -⟩ | h
    · omega
    · exact h
  | n + 1, h => by
    unfold dKf
    refine dOf_0 40 ?_
    rcases h with ⟨k, o, hk, ho, hs⟩ | h
    · by_cases e : k = n
      · subst e; exact Or.inl ⟨o, ho, hs⟩
      · exact Or.inr (dKf_0 n (Or.inl ⟨k, o, by omega, ho, hs⟩))
    · exact Or.inr (dKf_0 n (Or.inr h))
