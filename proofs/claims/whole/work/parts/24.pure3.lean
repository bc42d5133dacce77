/-! listed, why, greatest, close: what they answer -/
def lisU (u : XS) (k x y : Nat) : Nat → Option Nat
  | 0 => besU u k x y
  | n + 1 => match lisU u k x y n with
    | none => none
    | some j => besF u.2.1 u.2.2.1 (some j) (nI k) (u.2.2.2 x) (u.2.2.2 y) u.1.2.1
theorem lis_40 {u : XS} (h : u.1.2.1 ≤ 40) {k x y : Nat} : ∀ n a, lisU u k x y n = some a → a < 40
  | 0, a, e => besF_40 h a e
  | n + 1, a, e => by
    unfold lisU at e
    cases hl : lisU u k x y n with
    | none => rw [hl] at e; cases e
    | some j => rw [hl] at e; exact besF_40 h a e
theorem lis_s {u : XS} {k x y n j : Nat} (h : lisU u k x y n = some j) : lisU u k x y (n + 1) = besF u.2.1 u.2.2.1 (some j) (nI k) (u.2.2.2 x) (u.2.2.2 y) u.1.2.1 := by
  rw [lisU, h]
theorem lis_n {u : XS} {k x y n : Nat} (h : lisU u k x y n = none) : ∀ m, lisU u k x y (n + m) = none
  | 0 => h
  | m + 1 => by
    show lisU u k x y (n + m + 1) = none
    rw [lisU, lis_n h m]
def whyF (u : XS) (k x y r : Nat) : Int32 := if hindF u.2.2.1 (u.2.1 r) (nI k) (u.2.2.2 x) (u.2.2.2 y) = 0 then (match besU u k x y with
  | none => 0
  | some b => if b = r then 0 else if (u.2.1 r).2.2.2.2.2.1 < (u.2.1 b).2.2.2.2.2.1 then 5 else 6) else hindF u.2.2.1 (u.2.1 r) (nI k) (u.2.2.2 x) (u.2.2.2 y)
def grtF (u : XS) (k la : Int32) : Nat → Int64
  | 0 => -1
  | n + 1 => if (u.2.1 n).1 = k ∧ layB (u.2.1 n) la = true then (if (u.2.1 n).2.2.2.2.1 < grtF u k la n then grtF u k la n else (u.2.1 n).2.2.2.2.1) else grtF u k la n
/-- pairs of thing a and those behind it, m of them -/
def ciF (u : XS) (k : Int32) (w : PT) (a : Nat) : Nat → PT
  | 0 => w
  | m + 1 => if nerB u.2.1 u.2.2.1 u.1.2.1 k (u.2.2.2 a) (u.2.2.2 (a + 1 + m)) = true then ((ciF u k w a m).1 + 1, upd (ciF u k w a m).2.1 (ciF u k w a m).1 (nI a), upd (ciF u k w a m).2.2 (ciF u k w a m).1 (nI (a + 1 + m))) else ciF u k w a m
def coF (u : XS) (k : Int32) (w : PT) : Nat → PT
  | 0 => (0, w.2)
  | a + 1 => ciF u k (coF u k w a) a (u.1.2.2.2.1 - (a + 1))
theorem ci_le (u : XS) (k : Int32) (w : PT) (a : Nat) : ∀ m, (ciF u k w a m).1 ≤ w.1 + m
  | 0 => Nat.le_refl _
  | m + 1 => by
    have := ci_le u k w a m
    unfold ciF
    split
    · show (ciF u k w a m).1 + 1 ≤ _; omega
    · omega
def prS (n : Nat) : Nat → Nat
  | 0 => 0
  | a + 1 => prS n a + (n - (a + 1))
theorem pr_780 : ∀ n, n < 41 → ∀ a, a < 41 → prS n a ≤ 780 := by decide +kernel
theorem co_le (u : XS) (k : Int32) (w : PT) : ∀ a, (coF u k w a).1 ≤ prS u.1.2.2.2.1 a
  | 0 => Nat.le_refl 0
  | a + 1 => by
    have h1 := co_le u k w a
    have h2 := ci_le u k (coF u k w a) a (u.1.2.2.2.1 - (a + 1))
    show (ciF u k (coF u k w a) a (u.1.2.2.2.1 - (a + 1))).1 ≤ prS u.1.2.2.2.1 a + (u.1.2.2.2.1 - (a + 1))
    omega
theorem ci_780 {u : XS} {k : Int32} {w : PT} {a m : Nat} (hn : u.1.2.2.2.1 ≤ 40) (ha : a < u.1.2.2.2.1) (hm : m < u.1.2.2.2.1 - (a + 1)) : (ciF u k (coF u k w a) a m).1 < 780 := by
  have h1 := co_le u k w a
  have h2 := ci_le u k (coF u k w a) a m
  have h3 := pr_780 u.1.2.2.2.1 (by omega) (a + 1) (by omega)
  have h4 : prS u.1.2.2.2.1 (a + 1) = prS u.1.2.2.2.1 a + (u.1.2.2.2.1 - (a + 1)) := rfl
  omega
theorem ci_y {u : XS} {k : Int32} {w : PT} {a m : Nat} (h : nerB u.2.1 u.2.2.1 u.1.2.1 k (u.2.2.2 a) (u.2.2.2 (a + 1 + m)) = true) : ciF u k w a (m + 1) = ((ciF u k w a m).1 + 1, upd (ciF u k w a m).2.1 (ciF u k w a m).1 (nI a), upd (ciF u k w a m).2.2 (ciF u k w a m).1 (nI (a + 1 + m))) := by rw [ciF, if_pos h]
theorem ci_n {u : XS} {k : Int32} {w : PT} {a m : Nat} (h : nerB u.2.1 u.2.2.1 u.1.2.1 k (u.2.2.2 a) (u.2.2.2 (a + 1 + m)) = false) : ciF u k w a (m + 1) = ciF u k w a m := by rw [ciF, if_neg (by rw [h]; decide)]
theorem grt_y {u : XS} {k la : Int32} {n : Nat} (h1 : (u.2.1 n).1 = k) (h2 : layB (u.2.1 n) la = true) : grtF u k la (n + 1) = (if (u.2.1 n).2.2.2.2.1 < grtF u k la n then grtF u k la n else (u.2.1 n).2.2.2.2.1) := by rw [grtF, if_pos ⟨h1, h2⟩]
