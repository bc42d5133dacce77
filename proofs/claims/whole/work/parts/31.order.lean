/-! the order of rules, and how many match before one -/
theorem ah_irr (ru : Nat → Ru) (i : Nat) : ahB ru i i = false := by
  unfold ahB
  simp [Int32.lt_irrefl]
theorem ah_tr {ru : Nat → Ru} {i j k : Nat} (h1 : ahB ru i j = true) (h2 : ahB ru j k = true) : ahB ru i k = true := by
  unfold ahB at *
  simp only [Bool.or_eq_true, Bool.and_eq_true, decide_eq_true_eq] at *
  rcases h1 with a | ⟨a, a'⟩
  · rcases h2 with b | ⟨b, -⟩
    · exact Or.inl (Int32.lt_trans b a)
    · exact Or.inl (by rw [← b]; exact a)
  · rcases h2 with b | ⟨b, b'⟩
    · exact Or.inl (by rw [a]; exact b)
    · exact Or.inr ⟨a.trans b, by omega⟩
theorem ah_tot (ru : Nat → Ru) {i j : Nat} (h : i ≠ j) : ahB ru i j = true ∨ ahB ru j i = true := by
  unfold ahB
  simp only [Bool.or_eq_true, Bool.and_eq_true, decide_eq_true_eq]
  by_cases e : (ru i).2.2.2.2.2.1 = (ru j).2.2.2.2.2.1
  · rcases Nat.lt_or_gt_of_ne h with q | q
    · exact Or.inr (Or.inr ⟨e.symm, q⟩)
    · exact Or.inl (Or.inr ⟨e, q⟩)
  · by_cases q : (ru j).2.2.2.2.2.1 < (ru i).2.2.2.2.2.1
    · exact Or.inl (Or.inl q)
    · exact Or.inr (Or.inl (by
        rcases Int32.lt_or_eq_of_le (Int32.not_lt.mp q) with z | z
        · exact z
        · exact absurd z e))
theorem ah_asym {ru : Nat → Ru} {i j : Nat} (h : ahB ru i j = true) : ahB ru j i = false := by
  cases h2 : ahB ru j i with
  | false => rfl
  | true =>
    have := ah_tr h h2
    rw [ah_irr] at this
    cases this
/-- the best is ahead of all others that match -/
theorem bes_top {ru : Nat → Ru} {ar : Nat → Aa} {up : Option Nat} {kind : Int32} {s t : Tt} : ∀ n, (∀ j, besF ru ar up kind s t n = some j → upB ru up j = true ∧ ∀ q, q < n → upB ru up q = true → matB ar (ru q) kind s t = true → q = j ∨ ahB ru j q = true) ∧ (besF ru ar up kind s t n = none → ∀ q, q < n → upB ru up q = true → matB ar (ru q) kind s t = false)
  | 0 => ⟨(fun j h => by cases h), (fun _ q hq => absurd hq (Nat.not_lt_zero _))⟩
  | n + 1 => by
    obtain ⟨ih1, ih2⟩ := bes_top (ru := ru) (ar := ar) (up := up) (kind := kind) (s := s) (t := t) n
    cases hu : upB ru up n with
    | false =>
      rw [besF_u hu]
      refine ⟨fun j h => ⟨(ih1 j h).1, fun q hq h1 h2 => ?_⟩, fun h q hq h1 => ?_⟩
      · by_cases e : q = n
        · subst e; rw [hu] at h1; cases h1
        · exact (ih1 j h).2 q (by omega) h1 h2
      · by_cases e : q = n
        · subst e; rw [hu] at h1; cases h1
        · exact ih2 h q (by omega) h1
    | true =>
      cases hm : matB ar (ru n) kind s t with
      | false =>
        rw [besF_m hm]
        refine ⟨fun j h => ⟨(ih1 j h).1, fun q hq h1 h2 => ?_⟩, fun h q hq h1 => ?_⟩
        · by_cases e : q = n
          · subst e; rw [hm] at h2; cases h2
          · exact (ih1 j h).2 q (by omega) h1 h2
        · by_cases e : q = n
          · subst e; exact hm
          · exact ih2 h q (by omega) h1
      | true =>
        cases hb : btB ru n (besF ru ar up kind s t n) with
        | false =>
          rw [besF_b hb]
          cases hs : besF ru ar up kind s t n with
          | none => rw [hs] at hb; cases hb
          | some j0 =>
            rw [hs] at hb
            have hb : ahB ru n j0 = false := hb
            refine ⟨fun j h => ?_, fun h => by cases h⟩
            cases h
            refine ⟨(ih1 j0 hs).1, fun q hq h1 h2 => ?_⟩
            by_cases e : q = n
            · subst e
              have hlt := besF_lt _ _ hs
              rcases ah_tot ru (i := j0) (j := q) (by omega) with z | z
              · exact Or.inr z
              · rw [hb] at z; cases z
            · exact (ih1 j0 hs).2 q (by omega) h1 h2
        | true =>
          rw [besF_y hu hb hm]
          refine ⟨fun j h => ?_, fun h => by cases h⟩
          cases h
          refine ⟨hu, fun q hq h1 h2 => ?_⟩
          by_cases e : q = n
          · exact Or.inl e
          · refine Or.inr ?_
            cases hs : besF ru ar up kind s t n with
            | none =>
              have := ih2 hs q (by omega) h1
              rw [h2] at this; cases this
            | some j0 =>
              rw [hs] at hb
              have hb : ahB ru n j0 = true := hb
              rcases (ih1 j0 hs).2 q (by omega) h1 h2 with z | z
              · rw [z]; exact hb
              · exact ah_tr hb z
/-- how many of the first n -/
def cuF (f : Nat → Bool) : Nat → Nat
  | 0 => 0
  | n + 1 => cuF f n + (if f n = true then 1 else 0)
theorem cu_y {f : Nat → Bool} {n : Nat} (h : f n = true) : cuF f (n + 1) = cuF f n + 1 := by rw [cuF, if_pos h]
theorem cu_n {f : Nat → Bool} {n : Nat} (h : f n = false) : cuF f (n + 1) = cuF f n := by rw [cuF, if_neg (by rw [h]; decide)]; rfl
theorem cu_cg {f g : Nat → Bool} : ∀ n, (∀ i, i < n → f i = g i) → cuF f n = cuF g n
  | 0, _ => rfl
  | n + 1, h => by unfold cuF; rw [cu_cg n (fun i hi => h i (by omega)), h n (by omega)]
theorem cu_le (f : Nat → Bool) : ∀ n, cuF f n ≤ n
  | 0 => Nat.le_refl 0
  | n + 1 => by
    have := cu_le f n
    unfold cuF
    split <;> omega
theorem cu_lt {f : Nat → Bool} : ∀ n i, i < n → f i = false → cuF f n < n
  | 0, i, h, _ => by omega
  | n + 1, i, h, hf => by
    by_cases e : i = n
    · subst e
      rw [cu_n hf]
      have := cu_le f i
      omega
    · have := cu_lt n i (by omega) hf
      unfold cuF
      split <;> omega
theorem cu_add {f g : Nat → Bool} {p : Nat} (hp : f p = false) (h : ∀ i, g i = (f i || decide (i = p))) : ∀ n, cuF g n = cuF f n + (if p < n then 1 else 0)
  | 0 => by rw [if_neg (by omega)]; rfl
  | n + 1 => by
    have ih := cu_add hp h n
    unfold cuF
    rw [ih, h n]
    by_cases e : n = p
    · subst e
      rw [hp, if_neg (Nat.lt_irrefl _), if_pos (Nat.lt_succ_self _)]
      simp
    · rw [decide_eq_false e, Bool.or_false]
      have e2 : (p < n + 1) = (p < n) := propext ⟨fun h => by omega, fun h => by omega⟩
      simp only [e2]
      omega
theorem cu_mono {f g : Nat → Bool} (h : ∀ i, f i = true → g i = true) : ∀ n, cuF f n ≤ cuF g n
  | 0 => Nat.le_refl 0
  | n + 1 => by
    have ih := cu_mono h n
    unfold cuF
    by_cases e : f n = true
    · rw [if_pos e, if_pos (h n e)]; omega
    · rw [if_neg e]; omega
theorem cu_0 {f : Nat → Bool} : ∀ n, (∀ i, i < n → f i = false) → cuF f n = 0
  | 0, _ => rfl
  | n + 1, h => by rw [cu_n (h n (by omega))]; exact cu_0 n (fun i hi => h i (by omega))
/-- of a state: does rule r match; how many that match are ahead of it -/
def mtU (u : XS) (k x y r : Nat) : Bool := matB u.2.2.1 (u.2.1 r) (nI k) (u.2.2.2 x) (u.2.2.2 y)
def anU (u : XS) (k x y r : Nat) : Nat → Bool := fun q => mtU u k x y q && ahB u.2.1 q r
theorem an_lt {u : XS} {k x y r j : Nat} (hr : r < u.1.2.1) (hm : mtU u k x y r = true) (h : ahB u.2.1 r j = true) : cuF (anU u k x y r) u.1.2.1 < cuF (anU u k x y j) u.1.2.1 := by
  have h0 : anU u k x y r r = false := by unfold anU; rw [ah_irr, Bool.and_false]
  have h1 := cu_add (f := anU u k x y r) (g := fun i => anU u k x y r i || decide (i = r)) h0 (fun _ => rfl) u.1.2.1
  rw [if_pos hr] at h1
  have h2 := cu_mono (f := fun i => anU u k x y r i || decide (i = r)) (g := anU u k x y j) (fun i hi => by
    simp only [Bool.or_eq_true, decide_eq_true_eq] at hi
    unfold anU at *
    rcases hi with q | q
    · simp only [Bool.and_eq_true] at q
      rw [q.1, ah_tr q.2 h]; rfl
    · subst q; rw [hm, h]; rfl) u.1.2.1
  omega
theorem an_inj {u : XS} {k x y r j : Nat} (hr : r < u.1.2.1) (hj : j < u.1.2.1) (hm : mtU u k x y r = true) (hmj : mtU u k x y j = true) (e : cuF (anU u k x y r) u.1.2.1 = cuF (anU u k x y j) u.1.2.1) : r = j := by
  by_cases q : r = j
  · exact q
  · rcases ah_tot u.2.1 q with h | h
    · have := an_lt hr hm h; omega
    · have := an_lt hj hmj h; omega
theorem lis_A {u : XS} {k x y : Nat} : ∀ n j, lisU u k x y n = some j → j < u.1.2.1 ∧ mtU u k x y j = true ∧ cuF (anU u k x y j) u.1.2.1 = n
  | 0, j, h => by
    have h : besU u k x y = some j := h
    refine ⟨besF_lt _ _ h, besF_mat _ _ h, cu_0 _ (fun i hi => ?_)⟩
    unfold anU
    cases hm : mtU u k x y i with
    | false => rfl
    | true =>
      rcases (bes_top u.1.2.1).1 j h |>.2 i hi rfl hm with e | e
      · subst e; rw [ah_irr]; rfl
      · rw [ah_asym e]; rfl
  | n + 1, j, h => by
    unfold lisU at h
    cases hl : lisU u k x y n with
    | none => rw [hl] at h; cases h
    | some p =>
      rw [hl] at h
      have h : besF u.2.1 u.2.2.1 (some p) (nI k) (u.2.2.2 x) (u.2.2.2 y) u.1.2.1 = some j := h
      obtain ⟨hp, hpm, hpc⟩ := lis_A n p hl
      have hjm : mtU u k x y j = true := besF_mat _ _ h
      have hjl := besF_lt _ _ h
      obtain ⟨hup, htop⟩ := (bes_top u.1.2.1).1 j h
      have hup : ahB u.2.1 p j = true := hup
      refine ⟨hjl, hjm, ?_⟩
      have h0 : anU u k x y p p = false := by unfold anU; rw [ah_irr, Bool.and_false]
      have h1 := cu_add (f := anU u k x y p) (g := fun i => anU u k x y p i || decide (i = p)) h0 (fun _ => rfl) u.1.2.1
      rw [if_pos hp, hpc] at h1
      rw [← h1]
      refine cu_cg _ (fun i hi => ?_)
      show anU u k x y j i = (anU u k x y p i || decide (i = p))
      by_cases e : i = p
      · subst e
        rw [decide_eq_true rfl, Bool.or_true]
        unfold anU; rw [hpm, hup]; rfl
      · rw [decide_eq_false e, Bool.or_false]
        unfold anU
        cases hm : mtU u k x y i with
        | false => rfl
        | true =>
          show ahB u.2.1 i j = ahB u.2.1 i p
          rcases ah_tot u.2.1 e with z | z
          · rw [z, ah_tr z hup]
          · rw [ah_asym z]
            rcases htop i hi z hm with q | q
            · subst q; exact ah_irr _ _
            · exact ah_asym q
theorem lis_C {u : XS} {k x y : Nat} : ∀ n, lisU u k x y n = none → ∀ r, r < u.1.2.1 → mtU u k x y r = true → cuF (anU u k x y r) u.1.2.1 < n
  | 0, h, r, hr, hm => by
    have h : besU u k x y = none := h
    have := (bes_top u.1.2.1).2 h r hr rfl
    exact absurd (hm.symm.trans this) (by decide)
  | n + 1, h, r, hr, hm => by
    unfold lisU at h
    cases hl : lisU u k x y n with
    | none => have := lis_C n hl r hr hm; omega
    | some p =>
      rw [hl] at h
      have h : besF u.2.1 u.2.2.1 (some p) (nI k) (u.2.2.2 x) (u.2.2.2 y) u.1.2.1 = none := h
      obtain ⟨hp, hpm, hpc⟩ := lis_A n p hl
      by_cases e : r = p
      · subst e; omega
      · rcases ah_tot u.2.1 e with z | z
        · have := an_lt hr hm z; omega
        · have := (bes_top u.1.2.1).2 h r hr z
          exact absurd (hm.symm.trans this) (by decide)
/-- what listed answers, the model's way: the rule that matches and has z ahead of it -/
theorem lis_y {u : XS} {k x y r z : Nat} (hr : r < u.1.2.1) (hm : mtU u k x y r = true) (hc : cuF (anU u k x y r) u.1.2.1 = z) : lisU u k x y z = some r := by
  cases hl : lisU u k x y z with
  | none => have := lis_C z hl r hr hm; omega
  | some j =>
    obtain ⟨h1, h2, h3⟩ := lis_A z j hl
    rw [an_inj hr h1 hm h2 (hc.trans h3.symm)]
theorem lis_0 {u : XS} {k x y z : Nat} (h : ∀ r, r < u.1.2.1 → mtU u k x y r = true → ¬ cuF (anU u k x y r) u.1.2.1 = z) : lisU u k x y z = none := by
  cases hl : lisU u k x y z with
  | none => rfl
  | some j =>
    obtain ⟨h1, h2, h3⟩ := lis_A z j hl
    exact absurd h3 (h j h1 h2)
theorem an_bd {u : XS} {k x y r : Nat} (hr : r < u.1.2.1) : cuF (anU u k x y r) u.1.2.1 < u.1.2.1 := cu_lt _ r hr (by unfold anU; rw [ah_irr, Bool.and_false])
/-- what listed answers -/
def lsV (u : XS) (k x y : Nat) (z : Int32) : Int32 := if z < 0 then -1 else if z < nI u.1.2.1 then oI (lisU u k x y (nn z)) else -1
theorem ls_y {u : XS} {k x y r : Nat} {z : Int32} (hn : u.1.2.1 ≤ 40) (hr : r < u.1.2.1) (hm : mtU u k x y r = true) (hc : nI (cuF (anU u k x y r) u.1.2.1) = z) : nI r = lsV u k x y z := by
  have hb := an_bd (k := k) (x := x) (y := y) hr
  subst hc
  unfold lsV
  rw [if_neg (nI_pos (by omega)), if_pos (nI_lt hb (by omega)), show nn (nI (cuF (anU u k x y r) u.1.2.1)) = _ from nn_nI (by omega), lis_y hr hm rfl]
  rfl
theorem ls_n {u : XS} {k x y : Nat} {z : Int32} (hn : u.1.2.1 ≤ 40) (h : ∀ r, r < u.1.2.1 → mtU u k x y r = true → ¬ nI (cuF (anU u k x y r) u.1.2.1) = z) : -1 = lsV u k x y z := by
  unfold lsV
  by_cases h1 : z < 0
  · rw [if_pos h1]
  · rw [if_neg h1]
    by_cases h2 : z < nI u.1.2.1
    · rw [if_pos h2]
      obtain ⟨j, hj, -, rfl⟩ := okIdx hn ⟨h1, h2⟩
      rw [show nn (nI j) = j from nn_nI (by omega), lis_0 (fun r hr hm e => h r hr hm (by rw [e]))]
      rfl
    · rw [if_neg h2]
theorem bes_ex {u : XS} {k x y r : Nat} (hr : r < u.1.2.1) (hm : mtU u k x y r = true) : ∃ j, besU u k x y = some j := by
  cases h : besU u k x y with
  | none => exact absurd (hm.symm.trans ((bes_top u.1.2.1).2 h r hr rfl)) (by decide)
  | some j => exact ⟨j, rfl⟩
