/-! how many are kept: the class's slots and the model's marks -/
theorem cnt_add (f : Nat → Int32) (a : Nat) : ∀ b, cntF f (a + b) = cntF f a + cntF (fun i => f (a + i)) b
  | 0 => rfl
  | b + 1 => by
    show cntF f (a + b) + _ = cntF f a + (cntF (fun i => f (a + i)) b + _)
    rw [cnt_add f a b, Nat.add_assoc]
    rfl
theorem cnt_congr {f g : Nat → Int32} : ∀ n, (∀ i, i < n → (f i = 0 ↔ g i = 0)) → cntF f n = cntF g n
  | 0, _ => rfl
  | n + 1, h => by
    have ih := cnt_congr n (fun i hi => h i (by omega))
    have hn := h n (by omega)
    unfold cntF
    rw [ih]
    by_cases e : f n = 0
    · rw [if_pos e, if_pos (hn.mp e)]
    · rw [if_neg e, if_neg (fun q => e (hn.mpr q))]
theorem cnt_zero {f : Nat → Int32} {n : Nat} : ∀ m, (∀ i, n ≤ i → f i = 0) → cntF f (n + m) = cntF f n
  | 0, _ => rfl
  | m + 1, h => by
    show cntF f (n + m) + (if f (n + m) = 0 then 0 else 1) = _
    rw [cnt_zero m h, if_pos (h _ (by omega))]
    rfl
def sumF (g : Nat → Nat) : Nat → Nat
  | 0 => 0
  | n + 1 => sumF g n + g n
theorem sum_congr {f g : Nat → Nat} : ∀ n, (∀ i, i < n → f i = g i) → sumF f n = sumF g n
  | 0, _ => rfl
  | n + 1, h => by
    unfold sumF
    rw [sum_congr n (fun i hi => h i (by omega)), h n (by omega)]
theorem sum_add (f g : Nat → Nat) : ∀ n, sumF (fun i => f i + g i) n = sumF f n + sumF g n
  | 0 => rfl
  | n + 1 => by
    unfold sumF
    rw [sum_add f g n]
    omega
theorem sum_0 : ∀ n, sumF (fun _ => 0) n = 0
  | 0 => rfl
  | n + 1 => by unfold sumF; rw [sum_0 n]
theorem cnt_sum (f : Nat → Int32) : ∀ n, cntF f n = sumF (fun i => if f i = 0 then 0 else 1) n
  | 0 => rfl
  | n + 1 => by unfold cntF sumF; rw [cnt_sum f n]
theorem cnt_mul (f : Nat → Int32) (m : Nat) : ∀ k, cntF f (k * m) = sumF (fun i => cntF (fun j => f (i * m + j)) m) k
  | 0 => by rw [Nat.zero_mul]; rfl
  | k + 1 => by
    rw [Nat.succ_mul, cnt_add, cnt_mul f m k]
    rfl
theorem cnt_tri (f : Nat → Int32) : ∀ h, cntF f (h * (h + 1) / 2) = sumF (fun y => cntF (fun x => f (y * (y + 1) / 2 + x)) (y + 1)) h
  | 0 => rfl
  | h + 1 => by
    rw [tri_step, cnt_add, cnt_tri f h]
    rfl
theorem sum_swap (F : Nat → Nat → Int32) (m : Nat) : ∀ n, sumF (fun y => cntF (fun x => F x y) m) n = sumF (fun x => cntF (fun y => F x y) n) m
  | 0 => by
    show 0 = sumF (fun _ => 0) m
    rw [sum_0]
  | n + 1 => by
    show sumF (fun y => cntF (fun x => F x y) m) n + cntF (fun x => F x n) m = sumF (fun x => cntF (fun y => F x y) n + (if F x n = 0 then 0 else 1)) m
    rw [sum_add, sum_swap F m n, cnt_sum (fun x => F x n) m]
/-- the model's mark of a key -/
def kbF (kp : KT) : Nat → Int32 := fun s => bI (kp (s / 1600) (s % 1600 / 40) (s % 40) && decide (s % 1600 / 40 ≤ s % 40))
def kcF (kp : KT) : Nat := cntF (kbF kp) 9600
theorem kb_at (kp : KT) {k x y : Nat} (hx : x < 40) (hy : y < 40) : kbF kp (k * 1600 + (x * 40 + y)) = bI (kp k x y && decide (x ≤ y)) := by
  have e1 : (k * 1600 + (x * 40 + y)) / 1600 = k := by omega
  have e2 : (k * 1600 + (x * 40 + y)) % 1600 / 40 = x := by omega
  have e3 : (k * 1600 + (x * 40 + y)) % 40 = y := by omega
  unfold kbF
  rw [e1, e2, e3]
theorem kc_eq {u : XS} {kp : KT} {sl : Nat → Int32} (hnr : u.1.2.1 ≤ 40) (h : KP u kp sl) : cntF sl 4920 = kcF kp := by
  have a1 : cntF sl (6 * 820) = sumF (fun i => cntF (fun j => sl (i * 820 + j)) 820) 6 := cnt_mul sl 820 6
  have a2 : cntF (kbF kp) (6 * 1600) = sumF (fun i => cntF (fun j => kbF kp (i * 1600 + j)) 1600) 6 := cnt_mul _ 1600 6
  show cntF sl (6 * 820) = cntF (kbF kp) (6 * 1600)
  rw [a1, a2]
  refine sum_congr 6 (fun k hk => ?_)
  have b1 : cntF (fun j => sl (k * 820 + j)) (40 * (40 + 1) / 2) = _ := cnt_tri _ 40
  have b2 : cntF (fun j => kbF kp (k * 1600 + j)) (40 * 40) = _ := cnt_mul _ 40 40
  refine b1.trans (Eq.trans ?_ b2.symm)
  refine Eq.trans ?_ ((sum_swap (fun x y => bI (kp k x y && decide (x ≤ y))) 40 40).trans (sum_congr 40 (fun x hx => cnt_congr 40 (fun y hy => by rw [kb_at kp hx hy]))))
  refine sum_congr 40 (fun y hy => ?_)
  have c1 : cntF (fun x => bI (kp k x y && decide (x ≤ y))) (y + 1 + (39 - y)) = cntF (fun x => bI (kp k x y && decide (x ≤ y))) (y + 1) := cnt_zero _ (fun i hi => by
    show bI (kp k i y && decide (i ≤ y)) = 0
    rw [decide_eq_false (by omega)]
    simp [bI])
  rw [show y + 1 + (39 - y) = 40 by omega] at c1
  rw [c1]
  refine cnt_congr (y + 1) (fun x hx => ?_)
  have e := (h k x y hk (by omega) hy).1
  rw [sIx_le (by omega)] at e
  rw [e, decide_eq_true (show x ≤ y by omega)]
  cases kp k x y with
  | false => simp [bI]
  | true =>
    rw [if_pos rfl]
    exact ⟨fun q => absurd q (oI_2 (besF_40 hnr)), fun q => by simp [bI] at q⟩
