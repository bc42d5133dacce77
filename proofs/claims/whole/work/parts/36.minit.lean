theorem i_ll {x y : Int32} : x < y ↔ x.toInt < y.toInt := Int32.lt_iff_toInt_lt
theorem i_le {x y : Int32} : x ≤ y ↔ x.toInt ≤ y.toInt := Int32.le_iff_toInt_le
theorem cl_a {n : Int32} (h : ¬ 1 ≤ n) : (1 : Int32) = cls0 n := by
  unfold cls0
  rw [i_le] at h
  have e1 : (1 : Int32).toInt = 1 := by decide
  have e2 : (16 : Int32).toInt = 16 := by decide
  rw [if_pos (show n < 16 by rw [i_ll]; omega), if_neg (show ¬ 1 < n by rw [i_ll]; omega)]
theorem cl_b {n : Int32} (h1 : 1 ≤ n) (h2 : n ≤ 16) : n = cls0 n := by
  unfold cls0
  rw [i_le] at h1 h2
  have e1 : (1 : Int32).toInt = 1 := by decide
  have e2 : (16 : Int32).toInt = 16 := by decide
  by_cases h : n < 16
  · rw [if_pos h]
    by_cases q : 1 < n
    · rw [if_pos q]
    · rw [if_neg q]; apply Int32.toInt_inj.mp; rw [i_ll] at q; omega
  · rw [if_neg h, if_pos (by decide)]; apply Int32.toInt_inj.mp; rw [i_ll] at h; omega
theorem cl_c {n : Int32} (h : ¬ n ≤ 16) : (16 : Int32) = cls0 n := by
  unfold cls0
  rw [i_le] at h
  have e2 : (16 : Int32).toInt = 16 := by decide
  rw [if_neg (show ¬ n < 16 by rw [i_ll]; omega), if_pos (by decide)]
theorem cor_z : (fun _ => (0 : Int64)) = corF (fun _ => a0) := by
  funext c
  have h4 : c % 4 < 4 := Nat.mod_lt _ (by decide)
  unfold corF
  generalize c % 4 = k at h4 ⊢
  match k, h4 with
  | 0, _ => rfl
  | 1, _ => rfl
  | 2, _ => rfl
  | 3, _ => rfl
theorem kb_z : (fun _ => (0 : Int32)) = kbF (fun _ _ _ => false) := by
  funext s
  rfl
def k0F : KT := fun _ _ _ => false
def v0F : PT := (0, fun _ => 0, fun _ => 0)
def eM (ev : EV) : Nat → va_E
  | 4 => aL ev 40 (fun _ => 0)
  | 7 => aL ev 48 (fun _ => 0)
  | 10 => aL ev 40 (fun _ => 0)
  | 11 => aL ev 40 (fun _ => 0)
  | 12 => aZ ev 9600 (fun _ => 0)
  | 13 => aI ev 780 (fun _ => 0)
  | 14 => aI ev 780 (fun _ => 0)
  | _ => aI ev 40 (fun _ => 0)
def iM (ev : EV) (d k : Nat) (fs : List Value) (H0 H : Heap) : Prop := pt ev H d (oC 6 fs) ∧ (∀ j, j < k → pt ev H (d + 1 + j) (eM ev j)) ∧ H.size = d + 1 + k ∧ ∀ q : Nat, q < d → H[q]? = H0[q]?
theorem iM_n {ev : EV} {d k : Nat} {fs : List Value} {H0 H H1 : Heap} (h : iM ev d k fs H0 H) (z : H1.size = d + 1 + k + 1) (o : ∀ q : Nat, q < d + 1 + k → H1[q]? = H[q]?) (hat : pt ev H1 (d + 1 + k) (eM ev k)) : iM ev d (k + 1) fs H0 H1 := by
  refine ⟨pt_k h.1 (o _ (by omega)), fun j hj => ?_, z, fun q hq => (o q (by omega)).trans (h.2.2.2 q hq)⟩
  by_cases e : j = k
  · subst e; exact hat
  · exact pt_k (h.2.1 j (by omega)) (o _ (by omega))
theorem iM_p {ev : EV} {d k : Nat} {fs fs' : List Value} {H0 H H1 : Heap} (h : iM ev d k fs H0 H) (z : H1.size = H.size) (o : ∀ q : Nat, q ≠ d → H1[q]? = H[q]?) (hat : pt ev H1 d (oC 6 fs')) : iM ev d k fs' H0 H1 :=
  ⟨hat, fun j hj => pt_k (h.2.1 j hj) (o _ (by omega)), z.trans h.2.2.1, fun q hq => (o q (by omega)).trans (h.2.2.2 q hq)⟩
def rm_M_init : Room := { frames := 1, cells := 15, slots := 11648, locals := 20 }
set_option maxRecDepth 100000 in
set_option maxHeartbeats 4000000 in
theorem c_M_init {l : Launch} {ev : EV} {H0 : Heap} {d : Nat} (cn : Int32) (m0 : pt ev H0 d (oC 6 [.int 0, .int 0, .int 0, .null, .null, .null, .null, .null, .null, .null, .int 0, .null, .int 0, .null, .null, .null, .null, .null, .long 0, .int 0, .null, .null])) (hz : H0.size = d + 1) : Met l my_M_init mw_M_init rm_M_init (cP [.ref d, .int cn] (KG ev) H0) (cQd none (fun H1 => MW ev d 0 (u0 cn) k0F v0F H1 ∧ H1.size = d + 16 ∧ ∀ q : Nat, q < d → H1[q]? = H0[q]?)) 15 11648 (fun z => d ≤ z) := by
  refine cHead [.ref d, .int cn] (by decide) rfl (Nat.le_of_ble_eq_true rfl) ?_
  intro p e s m below meth c ls args QQ hQ S hr hlk hnm hs hK hl
  have S : CallFix p m c mb_M_init 2 s args TB "RuleChoiceModel" := S
  obtain ⟨hx, hb, hml, hown, hts⟩ := id S
  have hi0 : iM ev d 0 [.int 0, .int 0, .int 0, .null, .null, .null, .null, .null, .null, .null, .int 0, .null, .int 0, .null, .null, .null, .null, .null, .long 0, .int 0, .null, .null] H0 H0 := ⟨m0, fun j hj => absurd hj (Nat.not_lt_zero _), hz, fun _ _ => rfl⟩
  have hl : lv_has ls 2 [(0, .ref d), (1, .int cn)] := hl
  refine lv_aload_n hx hb d_M_init_0 rfl (lv_at hl 0 rfl) ?_
  refine W.objInit hx hb hown (hts _ ml_M_1) (hts _ im_objinit) (hts _ in_objinit) rfl (hl.1.trans hml.symm) rfl d_M_init_1 (Nat.le_of_ble_eq_true rfl) (Nat.le_of_ble_eq_true rfl) ?_
  refine W.eq (g2 := F0 m 4 ls []) rfl ?_
  refine lv_aload_n hx hb d_M_init_4 rfl (lv_at hl 0 rfl) ?_
  refine lv_bipush (v := 40) hx hb d_M_init_5 (by decide) ?_
  refine rz_newa (atype := .int) (z := d + 1 + 0) hi0.2.2.1 hx hb (hts _ ac_int) hK.1 0 rfl (a0 := (40, .inl (fun _ => 0))) (fun _ => rfl) (by decide) rfl (by decide) (Nat.le_of_ble_eq_true rfl) (Nat.le_of_ble_eq_true rfl) d_M_init_7 (fun H1 z2 o3 hat4 => ?_)
  have hi5 : iM ev d 1 [.int 0, .int 0, .int 0, .null, .null, .null, .null, .null, .null, .null, .int 0, .null, .int 0, .null, .null, .null, .null, .null, .long 0, .int 0, .null, .null] H0 H1 := iM_n (k := 0) hi0 z2 o3 hat4
  clear z2 o3 hat4
  refine rw_putF hx hb hts in_M ck_M ok_M nm_M hown hK.1 hi5.1 rfl 3 (by decide) (hts _ fl_M_7) rfl hnm rfl (ok_M 3 (by decide)) rfl rfl (Nat.le_of_ble_eq_true rfl) (Nat.le_refl _) (A := (fun z => d ≤ z)) cNil d_M_init_9 (fun H6 L7 z8 o9 hat10 hL11 => ?_)
  have hi12 : iM ev d 1 [.int 0, .int 0, .int 0, .ref (d + 1), .null, .null, .null, .null, .null, .null, .int 0, .null, .int 0, .null, .null, .null, .null, .null, .long 0, .int 0, .null, .null] H0 H6 := iM_p hi5 z8 o9 hat10
  clear z8 o9 hat10
  refine lv_aload_n hx hb d_M_init_12 rfl (lv_at hl 0 rfl) ?_
  refine lv_bipush (v := 40) hx hb d_M_init_13 (by decide) ?_
  refine rz_newa (atype := .int) (z := d + 1 + 1) hi12.2.2.1 hx hb (hts _ ac_int) hK.1 0 rfl (a0 := (40, .inl (fun _ => 0))) (fun _ => rfl) (by decide) rfl (by decide) (Nat.le_of_ble_eq_true rfl) (Nat.le_of_ble_eq_true rfl) d_M_init_15 (fun H13 z14 o15 hat16 => ?_)
  have hi17 : iM ev d 2 [.int 0, .int 0, .int 0, .ref (d + 1), .null, .null, .null, .null, .null, .null, .int 0, .null, .int 0, .null, .null, .null, .null, .null, .long 0, .int 0, .null, .null] H0 H13 := iM_n (k := 1) hi12 z14 o15 hat16
  clear z14 o15 hat16
  refine rw_putF hx hb hts in_M ck_M ok_M nm_M hown hK.1 hi17.1 rfl 4 (by decide) (hts _ fl_M_13) rfl hnm rfl (ok_M 4 (by decide)) rfl rfl (Nat.le_of_ble_eq_true rfl) (Nat.le_refl _) hL11 d_M_init_17 (fun H18 L19 z20 o21 hat22 hL23 => ?_)
  have hi24 : iM ev d 2 [.int 0, .int 0, .int 0, .ref (d + 1), .ref (d + 2), .null, .null, .null, .null, .null, .int 0, .null, .int 0, .null, .null, .null, .null, .null, .long 0, .int 0, .null, .null] H0 H18 := iM_p hi17 z20 o21 hat22
  clear z20 o21 hat22
  refine lv_aload_n hx hb d_M_init_20 rfl (lv_at hl 0 rfl) ?_
  refine lv_bipush (v := 40) hx hb d_M_init_21 (by decide) ?_
  refine rz_newa (atype := .int) (z := d + 1 + 2) hi24.2.2.1 hx hb (hts _ ac_int) hK.1 0 rfl (a0 := (40, .inl (fun _ => 0))) (fun _ => rfl) (by decide) rfl (by decide) (Nat.le_of_ble_eq_true rfl) (Nat.le_of_ble_eq_true rfl) d_M_init_23 (fun H25 z26 o27 hat28 => ?_)
  have hi29 : iM ev d 3 [.int 0, .int 0, .int 0, .ref (d + 1), .ref (d + 2), .null, .null, .null, .null, .null, .int 0, .null, .int 0, .null, .null, .null, .null, .null, .long 0, .int 0, .null, .null] H0 H25 := iM_n (k := 2) hi24 z26 o27 hat28
  clear z26 o27 hat28
  refine rw_putF hx hb hts in_M ck_M ok_M nm_M hown hK.1 hi29.1 rfl 5 (by decide) (hts _ fl_M_16) rfl hnm rfl (ok_M 5 (by decide)) rfl rfl (Nat.le_of_ble_eq_true rfl) (Nat.le_refl _) hL23 d_M_init_25 (fun H30 L31 z32 o33 hat34 hL35 => ?_)
  have hi36 : iM ev d 3 [.int 0, .int 0, .int 0, .ref (d + 1), .ref (d + 2), .ref (d + 3), .null, .null, .null, .null, .int 0, .null, .int 0, .null, .null, .null, .null, .null, .long 0, .int 0, .null, .null] H0 H30 := iM_p hi29 z32 o33 hat34
  clear z32 o33 hat34
  refine lv_aload_n hx hb d_M_init_28 rfl (lv_at hl 0 rfl) ?_
  refine lv_bipush (v := 40) hx hb d_M_init_29 (by decide) ?_
  refine rz_newa (atype := .int) (z := d + 1 + 3) hi36.2.2.1 hx hb (hts _ ac_int) hK.1 0 rfl (a0 := (40, .inl (fun _ => 0))) (fun _ => rfl) (by decide) rfl (by decide) (Nat.le_of_ble_eq_true rfl) (Nat.le_of_ble_eq_true rfl) d_M_init_31 (fun H37 z38 o39 hat40 => ?_)
  have hi41 : iM ev d 4 [.int 0, .int 0, .int 0, .ref (d + 1), .ref (d + 2), .ref (d + 3), .null, .null, .null, .null, .int 0, .null, .int 0, .null, .null, .null, .null, .null, .long 0, .int 0, .null, .null] H0 H37 := iM_n (k := 3) hi36 z38 o39 hat40
  clear z38 o39 hat40
  refine rw_putF hx hb hts in_M ck_M ok_M nm_M hown hK.1 hi41.1 rfl 6 (by decide) (hts _ fl_M_19) rfl hnm rfl (ok_M 6 (by decide)) rfl rfl (Nat.le_of_ble_eq_true rfl) (Nat.le_refl _) hL35 d_M_init_33 (fun H42 L43 z44 o45 hat46 hL47 => ?_)
  have hi48 : iM ev d 4 [.int 0, .int 0, .int 0, .ref (d + 1), .ref (d + 2), .ref (d + 3), .ref (d + 4), .null, .null, .null, .int 0, .null, .int 0, .null, .null, .null, .null, .null, .long 0, .int 0, .null, .null] H0 H42 := iM_p hi41 z44 o45 hat46
  clear z44 o45 hat46
  refine lv_aload_n hx hb d_M_init_36 rfl (lv_at hl 0 rfl) ?_
  refine lv_bipush (v := 40) hx hb d_M_init_37 (by decide) ?_
  refine rz_newa (atype := .long) (z := d + 1 + 4) hi48.2.2.1 hx hb (hts _ ac_long) hK.1 1 rfl (a0 := (40, .inr (.inl (fun _ => 0)))) (fun _ => rfl) (by decide) rfl (by decide) (Nat.le_of_ble_eq_true rfl) (Nat.le_of_ble_eq_true rfl) d_M_init_39 (fun H49 z50 o51 hat52 => ?_)
  have hi53 : iM ev d 5 [.int 0, .int 0, .int 0, .ref (d + 1), .ref (d + 2), .ref (d + 3), .ref (d + 4), .null, .null, .null, .int 0, .null, .int 0, .null, .null, .null, .null, .null, .long 0, .int 0, .null, .null] H0 H49 := iM_n (k := 4) hi48 z50 o51 hat52
  clear z50 o51 hat52
  refine rw_putF hx hb hts in_M ck_M ok_M nm_M hown hK.1 hi53.1 rfl 7 (by decide) (hts _ fl_M_22) rfl hnm rfl (ok_M 7 (by decide)) rfl rfl (Nat.le_of_ble_eq_true rfl) (Nat.le_refl _) hL47 d_M_init_41 (fun H54 L55 z56 o57 hat58 hL59 => ?_)
  have hi60 : iM ev d 5 [.int 0, .int 0, .int 0, .ref (d + 1), .ref (d + 2), .ref (d + 3), .ref (d + 4), .ref (d + 5), .null, .null, .int 0, .null, .int 0, .null, .null, .null, .null, .null, .long 0, .int 0, .null, .null] H0 H54 := iM_p hi53 z56 o57 hat58
  clear z56 o57 hat58
  refine lv_aload_n hx hb d_M_init_44 rfl (lv_at hl 0 rfl) ?_
  refine lv_bipush (v := 40) hx hb d_M_init_45 (by decide) ?_
  refine rz_newa (atype := .int) (z := d + 1 + 5) hi60.2.2.1 hx hb (hts _ ac_int) hK.1 0 rfl (a0 := (40, .inl (fun _ => 0))) (fun _ => rfl) (by decide) rfl (by decide) (Nat.le_of_ble_eq_true rfl) (Nat.le_of_ble_eq_true rfl) d_M_init_47 (fun H61 z62 o63 hat64 => ?_)
  have hi65 : iM ev d 6 [.int 0, .int 0, .int 0, .ref (d + 1), .ref (d + 2), .ref (d + 3), .ref (d + 4), .ref (d + 5), .null, .null, .int 0, .null, .int 0, .null, .null, .null, .null, .null, .long 0, .int 0, .null, .null] H0 H61 := iM_n (k := 5) hi60 z62 o63 hat64
  clear z62 o63 hat64
  refine rw_putF hx hb hts in_M ck_M ok_M nm_M hown hK.1 hi65.1 rfl 8 (by decide) (hts _ fl_M_26) rfl hnm rfl (ok_M 8 (by decide)) rfl rfl (Nat.le_of_ble_eq_true rfl) (Nat.le_refl _) hL59 d_M_init_49 (fun H66 L67 z68 o69 hat70 hL71 => ?_)
  have hi72 : iM ev d 6 [.int 0, .int 0, .int 0, .ref (d + 1), .ref (d + 2), .ref (d + 3), .ref (d + 4), .ref (d + 5), .ref (d + 6), .null, .int 0, .null, .int 0, .null, .null, .null, .null, .null, .long 0, .int 0, .null, .null] H0 H66 := iM_p hi65 z68 o69 hat70
  clear z68 o69 hat70
  refine lv_aload_n hx hb d_M_init_52 rfl (lv_at hl 0 rfl) ?_
  refine lv_bipush (v := 40) hx hb d_M_init_53 (by decide) ?_
  refine rz_newa (atype := .int) (z := d + 1 + 6) hi72.2.2.1 hx hb (hts _ ac_int) hK.1 0 rfl (a0 := (40, .inl (fun _ => 0))) (fun _ => rfl) (by decide) rfl (by decide) (Nat.le_of_ble_eq_true rfl) (Nat.le_of_ble_eq_true rfl) d_M_init_55 (fun H73 z74 o75 hat76 => ?_)
  have hi77 : iM ev d 7 [.int 0, .int 0, .int 0, .ref (d + 1), .ref (d + 2), .ref (d + 3), .ref (d + 4), .ref (d + 5), .ref (d + 6), .null, .int 0, .null, .int 0, .null, .null, .null, .null, .null, .long 0, .int 0, .null, .null] H0 H73 := iM_n (k := 6) hi72 z74 o75 hat76
  clear z74 o75 hat76
  refine rw_putF hx hb hts in_M ck_M ok_M nm_M hown hK.1 hi77.1 rfl 9 (by decide) (hts _ fl_M_29) rfl hnm rfl (ok_M 9 (by decide)) rfl rfl (Nat.le_of_ble_eq_true rfl) (Nat.le_refl _) hL71 d_M_init_57 (fun H78 L79 z80 o81 hat82 hL83 => ?_)
  have hi84 : iM ev d 7 [.int 0, .int 0, .int 0, .ref (d + 1), .ref (d + 2), .ref (d + 3), .ref (d + 4), .ref (d + 5), .ref (d + 6), .ref (d + 7), .int 0, .null, .int 0, .null, .null, .null, .null, .null, .long 0, .int 0, .null, .null] H0 H78 := iM_p hi77 z80 o81 hat82
  clear z80 o81 hat82
  refine lv_aload_n hx hb d_M_init_60 rfl (lv_at hl 0 rfl) ?_
  refine lv_bipush (v := 48) hx hb d_M_init_61 (by decide) ?_
  refine rz_newa (atype := .long) (z := d + 1 + 7) hi84.2.2.1 hx hb (hts _ ac_long) hK.1 1 rfl (a0 := (48, .inr (.inl (fun _ => 0)))) (fun _ => rfl) (by decide) rfl (by decide) (Nat.le_of_ble_eq_true rfl) (Nat.le_of_ble_eq_true rfl) d_M_init_63 (fun H85 z86 o87 hat88 => ?_)
  have hi89 : iM ev d 8 [.int 0, .int 0, .int 0, .ref (d + 1), .ref (d + 2), .ref (d + 3), .ref (d + 4), .ref (d + 5), .ref (d + 6), .ref (d + 7), .int 0, .null, .int 0, .null, .null, .null, .null, .null, .long 0, .int 0, .null, .null] H0 H85 := iM_n (k := 7) hi84 z86 o87 hat88
  clear z86 o87 hat88
  refine rw_putF hx hb hts in_M ck_M ok_M nm_M hown hK.1 hi89.1 rfl 11 (by decide) (hts _ fl_M_32) rfl hnm rfl (ok_M 11 (by decide)) rfl rfl (Nat.le_of_ble_eq_true rfl) (Nat.le_refl _) hL83 d_M_init_65 (fun H90 L91 z92 o93 hat94 hL95 => ?_)
  have hi96 : iM ev d 8 [.int 0, .int 0, .int 0, .ref (d + 1), .ref (d + 2), .ref (d + 3), .ref (d + 4), .ref (d + 5), .ref (d + 6), .ref (d + 7), .int 0, .ref (d + 8), .int 0, .null, .null, .null, .null, .null, .long 0, .int 0, .null, .null] H0 H90 := iM_p hi89 z92 o93 hat94
  clear z92 o93 hat94
  refine lv_aload_n hx hb d_M_init_68 rfl (lv_at hl 0 rfl) ?_
  refine lv_bipush (v := 40) hx hb d_M_init_69 (by decide) ?_
  refine rz_newa (atype := .int) (z := d + 1 + 8) hi96.2.2.1 hx hb (hts _ ac_int) hK.1 0 rfl (a0 := (40, .inl (fun _ => 0))) (fun _ => rfl) (by decide) rfl (by decide) (Nat.le_of_ble_eq_true rfl) (Nat.le_of_ble_eq_true rfl) d_M_init_71 (fun H97 z98 o99 hat100 => ?_)
  have hi101 : iM ev d 9 [.int 0, .int 0, .int 0, .ref (d + 1), .ref (d + 2), .ref (d + 3), .ref (d + 4), .ref (d + 5), .ref (d + 6), .ref (d + 7), .int 0, .ref (d + 8), .int 0, .null, .null, .null, .null, .null, .long 0, .int 0, .null, .null] H0 H97 := iM_n (k := 8) hi96 z98 o99 hat100
  clear z98 o99 hat100
  refine rw_putF hx hb hts in_M ck_M ok_M nm_M hown hK.1 hi101.1 rfl 13 (by decide) (hts _ fl_M_35) rfl hnm rfl (ok_M 13 (by decide)) rfl rfl (Nat.le_of_ble_eq_true rfl) (Nat.le_refl _) hL95 d_M_init_73 (fun H102 L103 z104 o105 hat106 hL107 => ?_)
  have hi108 : iM ev d 9 [.int 0, .int 0, .int 0, .ref (d + 1), .ref (d + 2), .ref (d + 3), .ref (d + 4), .ref (d + 5), .ref (d + 6), .ref (d + 7), .int 0, .ref (d + 8), .int 0, .ref (d + 9), .null, .null, .null, .null, .long 0, .int 0, .null, .null] H0 H102 := iM_p hi101 z104 o105 hat106
  clear z104 o105 hat106
  refine lv_aload_n hx hb d_M_init_76 rfl (lv_at hl 0 rfl) ?_
  refine lv_bipush (v := 40) hx hb d_M_init_77 (by decide) ?_
  refine rz_newa (atype := .int) (z := d + 1 + 9) hi108.2.2.1 hx hb (hts _ ac_int) hK.1 0 rfl (a0 := (40, .inl (fun _ => 0))) (fun _ => rfl) (by decide) rfl (by decide) (Nat.le_of_ble_eq_true rfl) (Nat.le_of_ble_eq_true rfl) d_M_init_79 (fun H109 z110 o111 hat112 => ?_)
  have hi113 : iM ev d 10 [.int 0, .int 0, .int 0, .ref (d + 1), .ref (d + 2), .ref (d + 3), .ref (d + 4), .ref (d + 5), .ref (d + 6), .ref (d + 7), .int 0, .ref (d + 8), .int 0, .ref (d + 9), .null, .null, .null, .null, .long 0, .int 0, .null, .null] H0 H109 := iM_n (k := 9) hi108 z110 o111 hat112
  clear z110 o111 hat112
  refine rw_putF hx hb hts in_M ck_M ok_M nm_M hown hK.1 hi113.1 rfl 14 (by decide) (hts _ fl_M_38) rfl hnm rfl (ok_M 14 (by decide)) rfl rfl (Nat.le_of_ble_eq_true rfl) (Nat.le_refl _) hL107 d_M_init_81 (fun H114 L115 z116 o117 hat118 hL119 => ?_)
  have hi120 : iM ev d 10 [.int 0, .int 0, .int 0, .ref (d + 1), .ref (d + 2), .ref (d + 3), .ref (d + 4), .ref (d + 5), .ref (d + 6), .ref (d + 7), .int 0, .ref (d + 8), .int 0, .ref (d + 9), .ref (d + 10), .null, .null, .null, .long 0, .int 0, .null, .null] H0 H114 := iM_p hi113 z116 o117 hat118
  clear z116 o117 hat118
  refine lv_aload_n hx hb d_M_init_84 rfl (lv_at hl 0 rfl) ?_
  refine lv_bipush (v := 40) hx hb d_M_init_85 (by decide) ?_
  refine rz_newa (atype := .long) (z := d + 1 + 10) hi120.2.2.1 hx hb (hts _ ac_long) hK.1 1 rfl (a0 := (40, .inr (.inl (fun _ => 0)))) (fun _ => rfl) (by decide) rfl (by decide) (Nat.le_of_ble_eq_true rfl) (Nat.le_of_ble_eq_true rfl) d_M_init_87 (fun H121 z122 o123 hat124 => ?_)
  have hi125 : iM ev d 11 [.int 0, .int 0, .int 0, .ref (d + 1), .ref (d + 2), .ref (d + 3), .ref (d + 4), .ref (d + 5), .ref (d + 6), .ref (d + 7), .int 0, .ref (d + 8), .int 0, .ref (d + 9), .ref (d + 10), .null, .null, .null, .long 0, .int 0, .null, .null] H0 H121 := iM_n (k := 10) hi120 z122 o123 hat124
  clear z122 o123 hat124
  refine rw_putF hx hb hts in_M ck_M ok_M nm_M hown hK.1 hi125.1 rfl 15 (by decide) (hts _ fl_M_41) rfl hnm rfl (ok_M 15 (by decide)) rfl rfl (Nat.le_of_ble_eq_true rfl) (Nat.le_refl _) hL119 d_M_init_89 (fun H126 L127 z128 o129 hat130 hL131 => ?_)
  have hi132 : iM ev d 11 [.int 0, .int 0, .int 0, .ref (d + 1), .ref (d + 2), .ref (d + 3), .ref (d + 4), .ref (d + 5), .ref (d + 6), .ref (d + 7), .int 0, .ref (d + 8), .int 0, .ref (d + 9), .ref (d + 10), .ref (d + 11), .null, .null, .long 0, .int 0, .null, .null] H0 H126 := iM_p hi125 z128 o129 hat130
  clear z128 o129 hat130
  refine lv_aload_n hx hb d_M_init_92 rfl (lv_at hl 0 rfl) ?_
  refine lv_bipush (v := 40) hx hb d_M_init_93 (by decide) ?_
  refine rz_newa (atype := .long) (z := d + 1 + 11) hi132.2.2.1 hx hb (hts _ ac_long) hK.1 1 rfl (a0 := (40, .inr (.inl (fun _ => 0)))) (fun _ => rfl) (by decide) rfl (by decide) (Nat.le_of_ble_eq_true rfl) (Nat.le_of_ble_eq_true rfl) d_M_init_95 (fun H133 z134 o135 hat136 => ?_)
  have hi137 : iM ev d 12 [.int 0, .int 0, .int 0, .ref (d + 1), .ref (d + 2), .ref (d + 3), .ref (d + 4), .ref (d + 5), .ref (d + 6), .ref (d + 7), .int 0, .ref (d + 8), .int 0, .ref (d + 9), .ref (d + 10), .ref (d + 11), .null, .null, .long 0, .int 0, .null, .null] H0 H133 := iM_n (k := 11) hi132 z134 o135 hat136
  clear z134 o135 hat136
  refine rw_putF hx hb hts in_M ck_M ok_M nm_M hown hK.1 hi137.1 rfl 16 (by decide) (hts _ fl_M_44) rfl hnm rfl (ok_M 16 (by decide)) rfl rfl (Nat.le_of_ble_eq_true rfl) (Nat.le_refl _) hL131 d_M_init_97 (fun H138 L139 z140 o141 hat142 hL143 => ?_)
  have hi144 : iM ev d 12 [.int 0, .int 0, .int 0, .ref (d + 1), .ref (d + 2), .ref (d + 3), .ref (d + 4), .ref (d + 5), .ref (d + 6), .ref (d + 7), .int 0, .ref (d + 8), .int 0, .ref (d + 9), .ref (d + 10), .ref (d + 11), .ref (d + 12), .null, .long 0, .int 0, .null, .null] H0 H138 := iM_p hi137 z140 o141 hat142
  clear z140 o141 hat142
  refine lv_aload_n hx hb d_M_init_100 rfl (lv_at hl 0 rfl) ?_
  refine lv_sipush (v := 9600) hx hb d_M_init_101 (by decide) ?_
  refine rz_newa (atype := .boolean) (z := d + 1 + 12) hi144.2.2.1 hx hb (hts _ ac_boolean) hK.1 2 rfl (a0 := (9600, .inl (fun _ => 0))) (fun _ => rfl) (by decide) rfl (by decide) (Nat.le_of_ble_eq_true rfl) (Nat.le_of_ble_eq_true rfl) d_M_init_104 (fun H145 z146 o147 hat148 => ?_)
  have hi149 : iM ev d 13 [.int 0, .int 0, .int 0, .ref (d + 1), .ref (d + 2), .ref (d + 3), .ref (d + 4), .ref (d + 5), .ref (d + 6), .ref (d + 7), .int 0, .ref (d + 8), .int 0, .ref (d + 9), .ref (d + 10), .ref (d + 11), .ref (d + 12), .null, .long 0, .int 0, .null, .null] H0 H145 := iM_n (k := 12) hi144 z146 o147 hat148
  clear z146 o147 hat148
  refine rw_putF hx hb hts in_M ck_M ok_M nm_M hown hK.1 hi149.1 rfl 17 (by decide) (hts _ fl_M_47) rfl hnm rfl (ok_M 17 (by decide)) rfl rfl (Nat.le_of_ble_eq_true rfl) (Nat.le_refl _) hL143 d_M_init_106 (fun H150 L151 z152 o153 hat154 hL155 => ?_)
  have hi156 : iM ev d 13 [.int 0, .int 0, .int 0, .ref (d + 1), .ref (d + 2), .ref (d + 3), .ref (d + 4), .ref (d + 5), .ref (d + 6), .ref (d + 7), .int 0, .ref (d + 8), .int 0, .ref (d + 9), .ref (d + 10), .ref (d + 11), .ref (d + 12), .ref (d + 13), .long 0, .int 0, .null, .null] H0 H150 := iM_p hi149 z152 o153 hat154
  clear z152 o153 hat154
  refine lv_aload_n hx hb d_M_init_109 rfl (lv_at hl 0 rfl) ?_
  refine lv_sipush (v := 780) hx hb d_M_init_110 (by decide) ?_
  refine rz_newa (atype := .int) (z := d + 1 + 13) hi156.2.2.1 hx hb (hts _ ac_int) hK.1 0 rfl (a0 := (780, .inl (fun _ => 0))) (fun _ => rfl) (by decide) rfl (by decide) (Nat.le_of_ble_eq_true rfl) (Nat.le_of_ble_eq_true rfl) d_M_init_113 (fun H157 z158 o159 hat160 => ?_)
  have hi161 : iM ev d 14 [.int 0, .int 0, .int 0, .ref (d + 1), .ref (d + 2), .ref (d + 3), .ref (d + 4), .ref (d + 5), .ref (d + 6), .ref (d + 7), .int 0, .ref (d + 8), .int 0, .ref (d + 9), .ref (d + 10), .ref (d + 11), .ref (d + 12), .ref (d + 13), .long 0, .int 0, .null, .null] H0 H157 := iM_n (k := 13) hi156 z158 o159 hat160
  clear z158 o159 hat160
  refine rw_putF hx hb hts in_M ck_M ok_M nm_M hown hK.1 hi161.1 rfl 20 (by decide) (hts _ fl_M_51) rfl hnm rfl (ok_M 20 (by decide)) rfl rfl (Nat.le_of_ble_eq_true rfl) (Nat.le_refl _) hL155 d_M_init_115 (fun H162 L163 z164 o165 hat166 hL167 => ?_)
  have hi168 : iM ev d 14 [.int 0, .int 0, .int 0, .ref (d + 1), .ref (d + 2), .ref (d + 3), .ref (d + 4), .ref (d + 5), .ref (d + 6), .ref (d + 7), .int 0, .ref (d + 8), .int 0, .ref (d + 9), .ref (d + 10), .ref (d + 11), .ref (d + 12), .ref (d + 13), .long 0, .int 0, .ref (d + 14), .null] H0 H162 := iM_p hi161 z164 o165 hat166
  clear z164 o165 hat166
  refine lv_aload_n hx hb d_M_init_118 rfl (lv_at hl 0 rfl) ?_
  refine lv_sipush (v := 780) hx hb d_M_init_119 (by decide) ?_
  refine rz_newa (atype := .int) (z := d + 1 + 14) hi168.2.2.1 hx hb (hts _ ac_int) hK.1 0 rfl (a0 := (780, .inl (fun _ => 0))) (fun _ => rfl) (by decide) rfl (by decide) (Nat.le_of_ble_eq_true rfl) (Nat.le_of_ble_eq_true rfl) d_M_init_122 (fun H169 z170 o171 hat172 => ?_)
  have hi173 : iM ev d 15 [.int 0, .int 0, .int 0, .ref (d + 1), .ref (d + 2), .ref (d + 3), .ref (d + 4), .ref (d + 5), .ref (d + 6), .ref (d + 7), .int 0, .ref (d + 8), .int 0, .ref (d + 9), .ref (d + 10), .ref (d + 11), .ref (d + 12), .ref (d + 13), .long 0, .int 0, .ref (d + 14), .null] H0 H169 := iM_n (k := 14) hi168 z170 o171 hat172
  clear z170 o171 hat172
  refine rw_putF hx hb hts in_M ck_M ok_M nm_M hown hK.1 hi173.1 rfl 21 (by decide) (hts _ fl_M_54) rfl hnm rfl (ok_M 21 (by decide)) rfl rfl (Nat.le_of_ble_eq_true rfl) (Nat.le_refl _) hL167 d_M_init_124 (fun H174 L175 z176 o177 hat178 hL179 => ?_)
  have hi180 : iM ev d 15 [.int 0, .int 0, .int 0, .ref (d + 1), .ref (d + 2), .ref (d + 3), .ref (d + 4), .ref (d + 5), .ref (d + 6), .ref (d + 7), .int 0, .ref (d + 8), .int 0, .ref (d + 9), .ref (d + 10), .ref (d + 11), .ref (d + 12), .ref (d + 13), .long 0, .int 0, .ref (d + 14), .ref (d + 15)] H0 H174 := iM_p hi173 z176 o177 hat178
  clear z176 o177 hat178
  refine lv_aload_n hx hb d_M_init_127 rfl (lv_at hl 0 rfl) ?_
  refine lv_iload_n hx hb d_M_init_128 rfl (lv_at hl 1 rfl) ?_
  refine lv_iconst (v := 1) hx hb d_M_init_129 (by decide) ?_
  refine lv_icmp_ge (tgt := 137) hx hb d_M_init_130 (by decide) (fun c130 => ?_) (fun c130 => ?_)
  · refine lv_iload_n hx hb d_M_init_137 rfl (lv_at hl 1 rfl) ?_
    refine lv_bipush (v := 16) hx hb d_M_init_138 (by decide) ?_
    refine lv_icmp_le (tgt := 148) hx hb d_M_init_140 (by decide) (fun c140 => ?_) (fun c140 => ?_)
    · refine lv_iload_n hx hb d_M_init_148 rfl (lv_at hl 1 rfl) ?_
      refine tp_i (y := (cls0 cn)) (cl_b c130 c140) ?_
      refine rw_putF hx hb hts in_M ck_M ok_M nm_M hown hK.1 hi180.1 rfl 1 (by decide) (hts _ fl_M_57) rfl hnm rfl (ok_M 1 (by decide)) rfl rfl (Nat.le_of_ble_eq_true rfl) (Nat.le_refl _) hL179 d_M_init_149 (fun H181 L182 z183 o184 hat185 hL186 => ?_)
      have hi187 : iM ev d 15 [.int 0, .int (cls0 cn), .int 0, .ref (d + 1), .ref (d + 2), .ref (d + 3), .ref (d + 4), .ref (d + 5), .ref (d + 6), .ref (d + 7), .int 0, .ref (d + 8), .int 0, .ref (d + 9), .ref (d + 10), .ref (d + 11), .ref (d + 12), .ref (d + 13), .long 0, .int 0, .ref (d + 14), .ref (d + 15)] H0 H181 := iM_p hi180 z183 o184 hat185
      clear z183 o184 hat185
      exact rt_dv hQ hx hb hr hlk ⟨⟨hi187.1, hi187.2.1 0 (by decide), hi187.2.1 1 (by decide), hi187.2.1 2 (by decide), hi187.2.1 3 (by decide), hi187.2.1 4 (by decide), hi187.2.1 5 (by decide), hi187.2.1 6 (by decide), pt_l cor_z (hi187.2.1 7 (by decide)), hi187.2.1 8 (by decide), hi187.2.1 9 (by decide), hi187.2.1 10 (by decide), hi187.2.1 11 (by decide), pt_i kb_z (hi187.2.1 12 (by decide)), hi187.2.1 13 (by decide), hi187.2.1 14 (by decide), xB_0 cn, Nat.zero_le _⟩, hi187.2.2.1, hi187.2.2.2⟩ hL186 (Nat.le_of_ble_eq_true rfl) (Nat.le_of_ble_eq_true rfl) d_M_init_152
    · refine lv_bipush (v := 16) hx hb d_M_init_143 (by decide) ?_
      refine lv_goto (tgt := 149) hx hb d_M_init_145 (by decide) ?_
      refine tp_i (y := (cls0 cn)) (cl_c c140) ?_
      refine rw_putF hx hb hts in_M ck_M ok_M nm_M hown hK.1 hi180.1 rfl 1 (by decide) (hts _ fl_M_57) rfl hnm rfl (ok_M 1 (by decide)) rfl rfl (Nat.le_of_ble_eq_true rfl) (Nat.le_refl _) hL179 d_M_init_149 (fun H188 L189 z190 o191 hat192 hL193 => ?_)
      have hi194 : iM ev d 15 [.int 0, .int (cls0 cn), .int 0, .ref (d + 1), .ref (d + 2), .ref (d + 3), .ref (d + 4), .ref (d + 5), .ref (d + 6), .ref (d + 7), .int 0, .ref (d + 8), .int 0, .ref (d + 9), .ref (d + 10), .ref (d + 11), .ref (d + 12), .ref (d + 13), .long 0, .int 0, .ref (d + 14), .ref (d + 15)] H0 H188 := iM_p hi180 z190 o191 hat192
      clear z190 o191 hat192
      exact rt_dv hQ hx hb hr hlk ⟨⟨hi194.1, hi194.2.1 0 (by decide), hi194.2.1 1 (by decide), hi194.2.1 2 (by decide), hi194.2.1 3 (by decide), hi194.2.1 4 (by decide), hi194.2.1 5 (by decide), hi194.2.1 6 (by decide), pt_l cor_z (hi194.2.1 7 (by decide)), hi194.2.1 8 (by decide), hi194.2.1 9 (by decide), hi194.2.1 10 (by decide), hi194.2.1 11 (by decide), pt_i kb_z (hi194.2.1 12 (by decide)), hi194.2.1 13 (by decide), hi194.2.1 14 (by decide), xB_0 cn, Nat.zero_le _⟩, hi194.2.2.1, hi194.2.2.2⟩ hL193 (Nat.le_of_ble_eq_true rfl) (Nat.le_of_ble_eq_true rfl) d_M_init_152
  · refine lv_iconst (v := 1) hx hb d_M_init_133 (by decide) ?_
    refine lv_goto (tgt := 149) hx hb d_M_init_134 (by decide) ?_
    refine tp_i (y := (cls0 cn)) (cl_a c130) ?_
    refine rw_putF hx hb hts in_M ck_M ok_M nm_M hown hK.1 hi180.1 rfl 1 (by decide) (hts _ fl_M_57) rfl hnm rfl (ok_M 1 (by decide)) rfl rfl (Nat.le_of_ble_eq_true rfl) (Nat.le_refl _) hL179 d_M_init_149 (fun H195 L196 z197 o198 hat199 hL200 => ?_)
    have hi201 : iM ev d 15 [.int 0, .int (cls0 cn), .int 0, .ref (d + 1), .ref (d + 2), .ref (d + 3), .ref (d + 4), .ref (d + 5), .ref (d + 6), .ref (d + 7), .int 0, .ref (d + 8), .int 0, .ref (d + 9), .ref (d + 10), .ref (d + 11), .ref (d + 12), .ref (d + 13), .long 0, .int 0, .ref (d + 14), .ref (d + 15)] H0 H195 := iM_p hi180 z197 o198 hat199
    clear z197 o198 hat199
    exact rt_dv hQ hx hb hr hlk ⟨⟨hi201.1, hi201.2.1 0 (by decide), hi201.2.1 1 (by decide), hi201.2.1 2 (by decide), hi201.2.1 3 (by decide), hi201.2.1 4 (by decide), hi201.2.1 5 (by decide), hi201.2.1 6 (by decide), pt_l cor_z (hi201.2.1 7 (by decide)), hi201.2.1 8 (by decide), hi201.2.1 9 (by decide), hi201.2.1 10 (by decide), hi201.2.1 11 (by decide), pt_i kb_z (hi201.2.1 12 (by decide)), hi201.2.1 13 (by decide), hi201.2.1 14 (by decide), xB_0 cn, Nat.zero_le _⟩, hi201.2.2.1, hi201.2.2.2⟩ hL200 (Nat.le_of_ble_eq_true rfl) (Nat.le_of_ble_eq_true rfl) d_M_init_152
