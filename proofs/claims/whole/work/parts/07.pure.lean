/-! what the system is: rules, areas, things, as numbers -/
abbrev Ru : Type := Int32 × Int32 × Int32 × Int32 × Int64 × Int32 × Option Nat
abbrev Aa : Type := Int64 × Int64 × Int64 × Int64
abbrev Tt : Type := Int32 × Int32 × Int64 × Int64
/-- NONE or a number -/
def oI (o : Option Nat) : Int32 := match o with
  | none => -1
  | some a => nI a
/-- the model's: 0 or a number and one -/
def oW (o : Option Nat) : Int32 := match o with
  | none => 0
  | some a => nI (a + 1)
def bI (b : Bool) : Int32 := if b then 1 else 0
theorem bI_t : bI true = 1 := rfl
theorem bI_f : bI false = 0 := rfl
theorem bI_n (b : Bool) : narrow .boolean (.int (bI b)) = .int (bI b) := by cases b <;> rfl
theorem bI_ne (b : Bool) : ¬ bI b = 0 ↔ b = true := by cases b <;> decide
theorem bI_eq (b : Bool) : bI b = 0 ↔ b = false := by cases b <;> decide
theorem nI_ne {a : Nat} (h : a < 2 ^ 31) : ¬ nI a = -1 := fun e => by
  have h1 := nI_pos' h
  rw [e] at h1
  exact absurd h1 (by decide)
theorem oI_none : oI none = -1 := rfl
theorem oI_some (a : Nat) : oI (some a) = nI a := rfl
def fitB (w g : Int32) : Bool := decide (w = -1) || decide (w = g)
def btwB (r : Ru) (x y : Int32) : Bool := (fitB r.2.1 x && fitB r.2.2.1 y) || (fitB r.2.1 y && fitB r.2.2.1 x)
def layB (r : Ru) (x : Int32) : Bool := fitB r.2.2.2.1 x
def inB (a : Aa) (x y : Int64) : Bool := !decide (x < a.1) && (!decide (a.2.2.1 < x) && (!decide (y < a.2.1) && !decide (a.2.2.2 < y)))
def arB (ar : Nat → Aa) (o : Option Nat) (s t : Tt) : Bool := match o with
  | none => true
  | some a => inB (ar a) s.2.2.1 s.2.2.2 && inB (ar a) t.2.2.1 t.2.2.2
/-- why a rule doesn't match; 0, when it does -/
def hindF (ar : Nat → Aa) (r : Ru) (kind : Int32) (s t : Tt) : Int32 :=
  if r.1 = kind then (if btwB r s.1 t.1 = true then (if (layB r s.2.1 && layB r t.2.1) = true then (if arB ar r.2.2.2.2.2.2 s t = true then 0 else 4) else 3) else 2) else 1
def matB (ar : Nat → Aa) (r : Ru) (kind : Int32) (s t : Tt) : Bool := decide (r.1 = kind) && (btwB r s.1 t.1 && ((layB r s.2.1 && layB r t.2.1) && arB ar r.2.2.2.2.2.2 s t))
theorem hind_mat (ar : Nat → Aa) (r : Ru) (kind : Int32) (s t : Tt) : hindF ar r kind s t = 0 ↔ matB ar r kind s t = true := by
  unfold hindF matB
  by_cases h1 : r.1 = kind <;> cases h2 : btwB r s.1 t.1 <;> cases h3 : (layB r s.2.1 && layB r t.2.1) <;> cases h4 : arB ar r.2.2.2.2.2.2 s t <;> simp [h1]
/-- rule i beats rule j -/
def ahB (ru : Nat → Ru) (i j : Nat) : Bool := decide ((ru j).2.2.2.2.2.1 < (ru i).2.2.2.2.2.1) || (decide ((ru i).2.2.2.2.2.1 = (ru j).2.2.2.2.2.1) && decide (j < i))
def upB (ru : Nat → Ru) (up : Option Nat) (i : Nat) : Bool := match up with
  | none => true
  | some j => ahB ru j i
def btB (ru : Nat → Ru) (i : Nat) (best : Option Nat) : Bool := match best with
  | none => true
  | some j => ahB ru i j
/-- the best among the first n that the rule 'up' beats -/
def besF (ru : Nat → Ru) (ar : Nat → Aa) (up : Option Nat) (kind : Int32) (s t : Tt) : Nat → Option Nat
  | 0 => none
  | n + 1 => if (upB ru up n && btB ru n (besF ru ar up kind s t n) && matB ar (ru n) kind s t) = true then some n else besF ru ar up kind s t n
theorem besF_lt {ru : Nat → Ru} {ar : Nat → Aa} {up : Option Nat} {kind : Int32} {s t : Tt} : ∀ (n i : Nat), besF ru ar up kind s t n = some i → i < n
  | 0, i, h => by cases h
  | n + 1, i, h => by
    unfold besF at h
    split at h
    · cases h; omega
    · have := besF_lt n i h; omega
/-! the arguments that are right -/
def okK (k : Int32) : Prop := ¬ k < 0 ∧ k < 6
def okC (n c : Int32) : Prop := ¬ c < 0 ∧ c < n
def okCN (n c : Int32) : Prop := c = -1 ∨ okC n c
def okL (x : Int32) : Prop := ¬ x < 0 ∧ x < 8
def okLN (x : Int32) : Prop := x = -1 ∨ okL x
def okI (n : Nat) (x : Int32) : Prop := ¬ x < 0 ∧ x < nI n
def okIN (n : Nat) (x : Int32) : Prop := x = -1 ∨ okI n x
def okS (x : Int32) : Prop := x = 0 ∨ x = 1
def okV (v : Int64) : Prop := ¬ v < 0 ∧ v ≤ 1000000
def okR (r : Int32) : Prop := ¬ r < -1000 ∧ r ≤ 1000
def okP (x y : Int64) : Prop := (¬ x < -1000000 ∧ x ≤ 1000000) ∧ ¬ y < -1000000 ∧ y ≤ 1000000
def okT (x0 y0 x1 y1 : Int64) : Prop := x0 ≤ x1 ∧ y0 ≤ y1
theorem okI_ix {n : Nat} {x : Int32} (hn : n < 2 ^ 31) (h : okI n x) : ∃ i, i < n ∧ x = nI i := by
  obtain ⟨j, hj, rfl⟩ := nI_of h.1
  exact ⟨j, (nI_ltI hj hn).mp h.2, rfl⟩
theorem okI_of {n i : Nat} (hn : n < 2 ^ 31) (h : i < n) : okI n (nI i) := ⟨nI_pos (by omega), (nI_ltI (by omega) hn).mpr h⟩
theorem oI_m1 {o : Option Nat} (hb : ∀ a, o = some a → a < 2 ^ 31) (h : oI o = -1) : o = none := by
  cases o with
  | none => rfl
  | some a => exact absurd h (nI_ne (hb a rfl))
theorem oI_no {o : Option Nat} (h : ¬ oI o = -1) : ∃ a, o = some a := by
  cases o with
  | none => exact absurd rfl h
  | some a => exact ⟨a, rfl⟩
theorem besF_y {ru : Nat → Ru} {ar : Nat → Aa} {up : Option Nat} {kind : Int32} {s t : Tt} {n : Nat} (h1 : upB ru up n = true) (h2 : btB ru n (besF ru ar up kind s t n) = true) (h3 : matB ar (ru n) kind s t = true) : besF ru ar up kind s t (n + 1) = some n := by
  unfold besF
  rw [h1, h2, h3]
  rfl
theorem besF_u {ru : Nat → Ru} {ar : Nat → Aa} {up : Option Nat} {kind : Int32} {s t : Tt} {n : Nat} (h1 : upB ru up n = false) : besF ru ar up kind s t (n + 1) = besF ru ar up kind s t n := by
  rw [besF, h1]
  rfl
theorem besF_b {ru : Nat → Ru} {ar : Nat → Aa} {up : Option Nat} {kind : Int32} {s t : Tt} {n : Nat} (h1 : btB ru n (besF ru ar up kind s t n) = false) : besF ru ar up kind s t (n + 1) = besF ru ar up kind s t n := by
  rw [besF, h1]
  simp
theorem besF_m {ru : Nat → Ru} {ar : Nat → Aa} {up : Option Nat} {kind : Int32} {s t : Tt} {n : Nat} (h1 : matB ar (ru n) kind s t = false) : besF ru ar up kind s t (n + 1) = besF ru ar up kind s t n := by
  rw [besF, h1]
  simp
theorem mat_f {ar : Nat → Aa} {r : Ru} {kind : Int32} {s t : Tt} (h : ¬ hindF ar r kind s t = 0) : matB ar r kind s t = false := by
  cases hm : matB ar r kind s t with
  | false => rfl
  | true => exact absurd ((hind_mat ar r kind s t).mpr hm) h
/-- the value of a winner -/
def valF (ru : Nat → Ru) (o : Option Nat) : Int64 := match o with
  | none => -1
  | some i => (ru i).2.2.2.2.1
/-- the areas of the first n in which a place lies, a bit for each -/
def arnF (ar : Nat → Aa) (x y : Int64) : Nat → Int32
  | 0 => 0
  | n + 1 => if inB (ar n) x y = true then arnF ar x y n ||| ((1 : Int32) <<< (nI n &&& 31)) else arnF ar x y n
theorem arnF_y {ar : Nat → Aa} {x y : Int64} {n : Nat} (h : inB (ar n) x y = true) : arnF ar x y (n + 1) = arnF ar x y n ||| ((1 : Int32) <<< (nI n &&& 31)) := by rw [arnF, if_pos h]
theorem arnF_n {ar : Nat → Aa} {x y : Int64} {n : Nat} (h : inB (ar n) x y = false) : arnF ar x y (n + 1) = arnF ar x y n := by rw [arnF, if_neg (by rw [h]; decide)]
/-- two things too near -/
def dsF (s t : Tt) : Int64 := (s.2.2.1 - t.2.2.1) * (s.2.2.1 - t.2.2.1) + (s.2.2.2 - t.2.2.2) * (s.2.2.2 - t.2.2.2)
def nerB (ru : Nat → Ru) (ar : Nat → Aa) (nr : Nat) (kind : Int32) (s t : Tt) : Bool := decide (s.2.1 = t.2.1) && match besF ru ar none kind s t nr with
  | none => false
  | some i => decide (dsF s t < (ru i).2.2.2.2.1 * (ru i).2.2.2.2.1)
/-! kept answers: slots, and how many hold one -/
def cntF (f : Nat → Int32) : Nat → Nat
  | 0 => 0
  | n + 1 => cntF f n + (if f n = 0 then 0 else 1)
theorem cnt_le (f : Nat → Int32) : ∀ n, cntF f n ≤ n
  | 0 => Nat.le_refl 0
  | n + 1 => by
    have := cnt_le f n
    unfold cntF
    split <;> omega
theorem cnt_out {f : Nat → Int32} {s : Nat} {v : Int32} : ∀ n, n ≤ s → cntF (upd f s v) n = cntF f n
  | 0, _ => rfl
  | n + 1, h => by
    have := cnt_out (f := f) (s := s) (v := v) n (by omega)
    unfold cntF
    rw [this, pk_un (by omega)]
theorem cnt_drop {f : Nat → Int32} {s : Nat} (h0 : ¬ f s = 0) : ∀ n, s < n → cntF (upd f s 0) n + 1 = cntF f n
  | 0, h => by omega
  | n + 1, h => by
    unfold cntF
    by_cases e : s = n
    · subst e
      rw [cnt_out s (Nat.le_refl _), pk_us, if_pos rfl, if_neg h0]
    · have := cnt_drop h0 n (by omega)
      rw [pk_un (fun q => e q.symm)]
      omega
theorem cnt_keep {f : Nat → Int32} {s : Nat} {v : Int32} (h0 : f s = 0) (hv : ¬ v = 0) : ∀ n, s < n → cntF (upd f s v) n = cntF f n + 1
  | 0, h => by omega
  | n + 1, h => by
    unfold cntF
    by_cases e : s = n
    · subst e
      rw [cnt_out s (Nat.le_refl _), pk_us, if_neg hv, if_pos h0]
    · have := cnt_keep h0 hv n (by omega)
      rw [pk_un (fun q => e q.symm)]
      omega
theorem upd_0 {f : Nat → Int32} {s : Nat} (h0 : f s = 0) : upd f s 0 = f := by
  funext j
  by_cases e : j = s
  · subst e; rw [pk_us, h0]
  · rw [pk_un e]
/-- the slot of a kind and two things -/
def sIx (k x y : Nat) : Nat := k * 820 + (max x y * (max x y + 1) / 2 + min x y)
theorem tri_lt {h : Nat} (hh : h < 40) : h * (h + 1) / 2 ≤ 780 := by
  have : h * (h + 1) ≤ 39 * 40 := Nat.mul_le_mul (by omega) (by omega)
  omega
theorem sIx_lt {k x y : Nat} (hk : k < 6) (hx : x < 40) (hy : y < 40) : sIx k x y < 4920 := by
  have h1 : max x y < 40 := by omega
  have h2 := tri_lt h1
  unfold sIx
  omega
/-- slots emptied from lo on, n of them -/
def dSf (sl : Nat → Int32) (lo : Nat) : Nat → Nat → Int32
  | 0 => sl
  | n + 1 => upd (dSf sl lo n) (lo + n) 0
def dOf (sl : Nat → Int32) (k t : Nat) : Nat → Nat → Int32
  | 0 => sl
  | n + 1 => upd (dOf sl k t n) (sIx k t n) 0
def dKf (sl : Nat → Int32) (t : Nat) : Nat → Nat → Int32
  | 0 => sl
  | n + 1 => dOf (dKf sl t n) n t 40
