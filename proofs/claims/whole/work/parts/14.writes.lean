def rm_R_tell : Room := { frames := 0, cells := 0, slots := 0, locals := 0 }
set_option maxRecDepth 100000 in
set_option maxHeartbeats 4000000 in
theorem c_R_tell {l : Launch} {ev : EV} {H0 : Heap} {a : Nat} {r : Ru} (h0 : pt ev H0 a (oC 4 (ruV r))) (k ca cb la : Int32) (v : Int64) : Met l my_R_tell mw_R_tell rm_R_tell (cP [.ref a, .int k, .int ca, .int cb, .int la, .long v] (KG ev) H0) (cQd none (fun H1 => pt ev H1 a (oC 4 (ruV (k, ca, cb, la, v, r.2.2.2.2.2))) ∧ Blk a (a + 1) H0 H1)) 0 0 (inBk a (a + 1)) := by
  refine cHead [.ref a, .int k, .int ca, .int cb, .int la, .long v] (by decide) rfl (Nat.le_of_ble_eq_true rfl) ?_
  intro p e s m below meth c ls args QQ hQ S hr hlk hnm hs hK hl
  have S : CallFix p m c mb_R_tell 7 s args TB "RuleChoice$Rule" := S
  obtain ⟨hx, hb, hml, hown, hts⟩ := id S
  have hl : lv_has ls 7 [(0, .ref a), (1, .int k), (2, .int ca), (3, .int cb), (4, .int la), (5, .long v)] := hl
  refine lv_aload_n hx hb d_R_tell_0 rfl (lv_at hl 0 rfl) ?_
  refine lv_iload_n hx hb d_R_tell_1 rfl (lv_at hl 1 rfl) ?_
  refine rw_put hx hb hts in_R ck_R ok_R nm_R hown hK.1 h0 rfl 0 (by decide) (hts _ fl_R_15) rfl (ok_R 0 (by decide)) rfl rfl (Nat.le_of_ble_eq_true rfl) (⟨Nat.le_refl _, Nat.lt_succ_self _⟩) (A := inBk a (a + 1)) cNil d_R_tell_2 (fun H1 L2 z3 o4 hat5 hL6 => ?_)
  have hB7 := Blk.trans (Blk.rf (lo := a) (hi := a + 1) (H := H0)) (Blk.one z3 o4)
  refine lv_aload_n hx hb d_R_tell_5 rfl (lv_at hl 0 rfl) ?_
  refine lv_iload_n hx hb d_R_tell_6 rfl (lv_at hl 2 rfl) ?_
  refine rw_put hx hb hts in_R ck_R ok_R nm_R hown hK.1 hat5 rfl 1 (by decide) (hts _ fl_R_18) rfl (ok_R 1 (by decide)) rfl rfl (Nat.le_of_ble_eq_true rfl) (⟨Nat.le_refl _, Nat.lt_succ_self _⟩) hL6 d_R_tell_7 (fun H8 L9 z10 o11 hat12 hL13 => ?_)
  have hB14 := Blk.trans hB7 (Blk.one z10 o11)
  refine lv_aload_n hx hb d_R_tell_10 rfl (lv_at hl 0 rfl) ?_
  refine lv_iload_n hx hb d_R_tell_11 rfl (lv_at hl 3 rfl) ?_
  refine rw_put hx hb hts in_R ck_R ok_R nm_R hown hK.1 hat12 rfl 2 (by decide) (hts _ fl_R_21) rfl (ok_R 2 (by decide)) rfl rfl (Nat.le_of_ble_eq_true rfl) (⟨Nat.le_refl _, Nat.lt_succ_self _⟩) hL13 d_R_tell_12 (fun H15 L16 z17 o18 hat19 hL20 => ?_)
  have hB21 := Blk.trans hB14 (Blk.one z17 o18)
  refine lv_aload_n hx hb d_R_tell_15 rfl (lv_at hl 0 rfl) ?_
  refine lv_iload hx hb d_R_tell_16 (lv_at hl 4 rfl) ?_
  refine rw_put hx hb hts in_R ck_R ok_R nm_R hown hK.1 hat19 rfl 3 (by decide) (hts _ fl_R_24) rfl (ok_R 3 (by decide)) rfl rfl (Nat.le_of_ble_eq_true rfl) (⟨Nat.le_refl _, Nat.lt_succ_self _⟩) hL20 d_R_tell_18 (fun H22 L23 z24 o25 hat26 hL27 => ?_)
  have hB28 := Blk.trans hB21 (Blk.one z24 o25)
  refine lv_aload_n hx hb d_R_tell_21 rfl (lv_at hl 0 rfl) ?_
  refine lv_lload hx hb d_R_tell_22 (lv_at hl 5 rfl) ?_
  refine rw_put hx hb hts in_R ck_R ok_R nm_R hown hK.1 hat26 rfl 4 (by decide) (hts _ fl_R_27) rfl (ok_R 4 (by decide)) rfl rfl (Nat.le_of_ble_eq_true rfl) (⟨Nat.le_refl _, Nat.lt_succ_self _⟩) hL27 d_R_tell_24 (fun H29 L30 z31 o32 hat33 hL34 => ?_)
  have hB35 := Blk.trans hB28 (Blk.one z31 o32)
  exact rt_dv hQ hx hb hr hlk ⟨hat33, hB35⟩ hL34 (Nat.le_of_ble_eq_true rfl) (Nat.le_of_ble_eq_true rfl) d_R_tell_27
def rm_A_span : Room := { frames := 0, cells := 0, slots := 0, locals := 0 }
set_option maxRecDepth 100000 in
set_option maxHeartbeats 4000000 in
theorem c_A_span {l : Launch} {ev : EV} {H0 : Heap} {a : Nat} {r : Aa} (h0 : pt ev H0 a (oC 2 (aaV r))) (x0 y0 x1 y1 : Int64) : Met l my_A_span mw_A_span rm_A_span (cP [.ref a, .long x0, .long y0, .long x1, .long y1] (KG ev) H0) (cQd none (fun H1 => pt ev H1 a (oC 2 (aaV (x0, y0, x1, y1))) ∧ Blk a (a + 1) H0 H1)) 0 0 (inBk a (a + 1)) := by
  refine cHead [.ref a, .long x0, .long y0, .long x1, .long y1] (by decide) rfl (Nat.le_of_ble_eq_true rfl) ?_
  intro p e s m below meth c ls args QQ hQ S hr hlk hnm hs hK hl
  have S : CallFix p m c mb_A_span 9 s args TB "RuleChoice$Area" := S
  obtain ⟨hx, hb, hml, hown, hts⟩ := id S
  have hl : lv_has ls 9 [(0, .ref a), (1, .long x0), (3, .long y0), (5, .long x1), (7, .long y1)] := hl
  refine lv_aload_n hx hb d_A_span_0 rfl (lv_at hl 0 rfl) ?_
  refine lv_lload_n hx hb d_A_span_1 rfl (lv_at hl 1 rfl) ?_
  refine rw_put hx hb hts in_A ck_A ok_A nm_A hown hK.1 h0 rfl 0 (by decide) (hts _ fl_A_7) rfl (ok_A 0 (by decide)) rfl rfl (Nat.le_of_ble_eq_true rfl) (⟨Nat.le_refl _, Nat.lt_succ_self _⟩) (A := inBk a (a + 1)) cNil d_A_span_2 (fun H1 L2 z3 o4 hat5 hL6 => ?_)
  have hB7 := Blk.trans (Blk.rf (lo := a) (hi := a + 1) (H := H0)) (Blk.one z3 o4)
  refine lv_aload_n hx hb d_A_span_5 rfl (lv_at hl 0 rfl) ?_
  refine lv_lload_n hx hb d_A_span_6 rfl (lv_at hl 2 rfl) ?_
  refine rw_put hx hb hts in_A ck_A ok_A nm_A hown hK.1 hat5 rfl 1 (by decide) (hts _ fl_A_13) rfl (ok_A 1 (by decide)) rfl rfl (Nat.le_of_ble_eq_true rfl) (⟨Nat.le_refl _, Nat.lt_succ_self _⟩) hL6 d_A_span_7 (fun H8 L9 z10 o11 hat12 hL13 => ?_)
  have hB14 := Blk.trans hB7 (Blk.one z10 o11)
  refine lv_aload_n hx hb d_A_span_10 rfl (lv_at hl 0 rfl) ?_
  refine lv_lload hx hb d_A_span_11 (lv_at hl 3 rfl) ?_
  refine rw_put hx hb hts in_A ck_A ok_A nm_A hown hK.1 hat12 rfl 2 (by decide) (hts _ fl_A_16) rfl (ok_A 2 (by decide)) rfl rfl (Nat.le_of_ble_eq_true rfl) (⟨Nat.le_refl _, Nat.lt_succ_self _⟩) hL13 d_A_span_13 (fun H15 L16 z17 o18 hat19 hL20 => ?_)
  have hB21 := Blk.trans hB14 (Blk.one z17 o18)
  refine lv_aload_n hx hb d_A_span_16 rfl (lv_at hl 0 rfl) ?_
  refine lv_lload hx hb d_A_span_17 (lv_at hl 4 rfl) ?_
  refine rw_put hx hb hts in_A ck_A ok_A nm_A hown hK.1 hat19 rfl 3 (by decide) (hts _ fl_A_19) rfl (ok_A 3 (by decide)) rfl rfl (Nat.le_of_ble_eq_true rfl) (⟨Nat.le_refl _, Nat.lt_succ_self _⟩) hL20 d_A_span_19 (fun H22 L23 z24 o25 hat26 hL27 => ?_)
  have hB28 := Blk.trans hB21 (Blk.one z24 o25)
  exact rt_dv hQ hx hb hr hlk ⟨hat26, hB28⟩ hL27 (Nat.le_of_ble_eq_true rfl) (Nat.le_of_ble_eq_true rfl) d_A_span_22
def rm_T_become : Room := { frames := 0, cells := 0, slots := 0, locals := 0 }
set_option maxRecDepth 100000 in
set_option maxHeartbeats 4000000 in
theorem c_T_become {l : Launch} {ev : EV} {H0 : Heap} {a : Nat} {r : Tt} (h0 : pt ev H0 a (oC 5 (ttV r))) (x y : Int32) : Met l my_T_become mw_T_become rm_T_become (cP [.ref a, .int x, .int y] (KG ev) H0) (cQd none (fun H1 => pt ev H1 a (oC 5 (ttV (x, y, r.2.2))) ∧ Blk a (a + 1) H0 H1)) 0 0 (inBk a (a + 1)) := by
  refine cHead [.ref a, .int x, .int y] (by decide) rfl (Nat.le_of_ble_eq_true rfl) ?_
  intro p e s m below meth c ls args QQ hQ S hr hlk hnm hs hK hl
  have S : CallFix p m c mb_T_become 3 s args TB "RuleChoice$Thing" := S
  obtain ⟨hx, hb, hml, hown, hts⟩ := id S
  have hl : lv_has ls 3 [(0, .ref a), (1, .int x), (2, .int y)] := hl
  refine lv_aload_n hx hb d_T_become_0 rfl (lv_at hl 0 rfl) ?_
  refine lv_iload_n hx hb d_T_become_1 rfl (lv_at hl 1 rfl) ?_
  refine rw_put hx hb hts in_T ck_T ok_T nm_T hown hK.1 h0 rfl 0 (by decide) (hts _ fl_T_7) rfl (ok_T 0 (by decide)) rfl rfl (Nat.le_of_ble_eq_true rfl) (⟨Nat.le_refl _, Nat.lt_succ_self _⟩) (A := inBk a (a + 1)) cNil d_T_become_2 (fun H1 L2 z3 o4 hat5 hL6 => ?_)
  have hB7 := Blk.trans (Blk.rf (lo := a) (hi := a + 1) (H := H0)) (Blk.one z3 o4)
  refine lv_aload_n hx hb d_T_become_5 rfl (lv_at hl 0 rfl) ?_
  refine lv_iload_n hx hb d_T_become_6 rfl (lv_at hl 2 rfl) ?_
  refine rw_put hx hb hts in_T ck_T ok_T nm_T hown hK.1 hat5 rfl 1 (by decide) (hts _ fl_T_13) rfl (ok_T 1 (by decide)) rfl rfl (Nat.le_of_ble_eq_true rfl) (⟨Nat.le_refl _, Nat.lt_succ_self _⟩) hL6 d_T_become_7 (fun H8 L9 z10 o11 hat12 hL13 => ?_)
  have hB14 := Blk.trans hB7 (Blk.one z10 o11)
  exact rt_dv hQ hx hb hr hlk ⟨hat12, hB14⟩ hL13 (Nat.le_of_ble_eq_true rfl) (Nat.le_of_ble_eq_true rfl) d_T_become_10
def rm_T_put : Room := { frames := 0, cells := 0, slots := 0, locals := 0 }
set_option maxRecDepth 100000 in
set_option maxHeartbeats 4000000 in
theorem c_T_put {l : Launch} {ev : EV} {H0 : Heap} {a : Nat} {r : Tt} (h0 : pt ev H0 a (oC 5 (ttV r))) (x y : Int64) : Met l my_T_put mw_T_put rm_T_put (cP [.ref a, .long x, .long y] (KG ev) H0) (cQd none (fun H1 => pt ev H1 a (oC 5 (ttV (r.1, r.2.1, x, y))) ∧ Blk a (a + 1) H0 H1)) 0 0 (inBk a (a + 1)) := by
  refine cHead [.ref a, .long x, .long y] (by decide) rfl (Nat.le_of_ble_eq_true rfl) ?_
  intro p e s m below meth c ls args QQ hQ S hr hlk hnm hs hK hl
  have S : CallFix p m c mb_T_put 5 s args TB "RuleChoice$Thing" := S
  obtain ⟨hx, hb, hml, hown, hts⟩ := id S
  have hl : lv_has ls 5 [(0, .ref a), (1, .long x), (3, .long y)] := hl
  refine lv_aload_n hx hb d_T_put_0 rfl (lv_at hl 0 rfl) ?_
  refine lv_lload_n hx hb d_T_put_1 rfl (lv_at hl 1 rfl) ?_
  refine rw_put hx hb hts in_T ck_T ok_T nm_T hown hK.1 h0 rfl 2 (by decide) (hts _ fl_T_16) rfl (ok_T 2 (by decide)) rfl rfl (Nat.le_of_ble_eq_true rfl) (⟨Nat.le_refl _, Nat.lt_succ_self _⟩) (A := inBk a (a + 1)) cNil d_T_put_2 (fun H1 L2 z3 o4 hat5 hL6 => ?_)
  have hB7 := Blk.trans (Blk.rf (lo := a) (hi := a + 1) (H := H0)) (Blk.one z3 o4)
  refine lv_aload_n hx hb d_T_put_5 rfl (lv_at hl 0 rfl) ?_
  refine lv_lload_n hx hb d_T_put_6 rfl (lv_at hl 2 rfl) ?_
  refine rw_put hx hb hts in_T ck_T ok_T nm_T hown hK.1 hat5 rfl 3 (by decide) (hts _ fl_T_20) rfl (ok_T 3 (by decide)) rfl rfl (Nat.le_of_ble_eq_true rfl) (⟨Nat.le_refl _, Nat.lt_succ_self _⟩) hL6 d_T_put_7 (fun H8 L9 z10 o11 hat12 hL13 => ?_)
  have hB14 := Blk.trans hB7 (Blk.one z10 o11)
  exact rt_dv hQ hx hb hr hlk ⟨hat12, hB14⟩ hL13 (Nat.le_of_ble_eq_true rfl) (Nat.le_of_ble_eq_true rfl) d_T_put_10
def rm_N_slotOf : Room := { frames := 1, cells := 0, slots := 0, locals := 29 }
theorem sl_eq {k x y : Nat} (hk : k < 6) (hx : x < 40) (hy : y < 40) : nI k * 820 + (if nI x < nI y then nI y else nI x) * ((if nI x < nI y then nI y else nI x) + 1) / 2 + (if nI y < nI x then nI y else nI x) = nI (sIx k x y) := by
  have e1 : (if nI x < nI y then nI y else nI x) = nI (max x y) := by
    by_cases h : x < y
    · rw [if_pos ((nI_ltI (by omega) (by omega)).mpr h), Nat.max_eq_right (by omega)]
    · rw [if_neg (fun q => h ((nI_ltI (by omega) (by omega)).mp q)), Nat.max_eq_left (by omega)]
  have e2 : (if nI y < nI x then nI y else nI x) = nI (min x y) := by
    by_cases h : y < x
    · rw [if_pos ((nI_ltI (by omega) (by omega)).mpr h), Nat.min_eq_right (by omega)]
    · rw [if_neg (fun q => h ((nI_ltI (by omega) (by omega)).mp q)), Nat.min_eq_left (by omega)]
  have hm : max x y < 40 := by omega
  have hm2 : max x y * (max x y + 1) ≤ 39 * 40 := Nat.mul_le_mul (by omega) (by omega)
  rw [e1, e2, nI_1, pk_mul, show (820 : Int32) = nI 820 from rfl, pk_mul, show (2 : Int32) = nI 2 from rfl, pk_div (by omega) (by omega) (by omega), nI_add, nI_add]
  unfold sIx
  rw [Nat.add_assoc]
set_option maxRecDepth 100000 in
set_option maxHeartbeats 4000000 in
theorem c_N_slotOf {l : Launch} {ev : EV} {H0 : Heap} {k x y : Nat} {p0 p1 p2 : Int32} (e0 : p0 = nI k) (e1 : p1 = nI x) (e2 : p2 = nI y) (hk : k < 6) (hx0 : x < 40) (hy0 : y < 40) : Met l my_N_slotOf mw_N_slotOf rm_N_slotOf (cP [.int p0, .int p1, .int p2] (KG ev) H0) (cQp (some (.int (nI (sIx k x y))))) 0 0 cNo := by
  refine cHead [.int p0, .int p1, .int p2] (by decide) rfl (Nat.le_of_ble_eq_true rfl) ?_
  intro p e s m below meth c ls args QQ hQ S hr hlk hnm hs hK hl
  have S : CallFix p m c mb_N_slotOf 5 s args TB "RuleChoice$Answers" := S
  obtain ⟨hx, hb, hml, hown, hts⟩ := id S
  subst e0; subst e1; subst e2
  have hl : lv_has ls 5 [(0, .int (nI k)), (1, .int (nI x)), (2, .int (nI y))] := hl
  refine lv_iload_n hx hb d_N_slotOf_0 rfl (lv_at hl 1 rfl) ?_
  refine lv_iload_n hx hb d_N_slotOf_1 rfl (lv_at hl 2 rfl) ?_
  refine va_mmax hx hb (hml.trans hl.1.symm) hown (hts _ ml_N_27) (hts _ st_max) (hts _ iz_Math) (hts _ in_max) (Nat.le_of_ble_eq_true rfl) (Nat.le_of_ble_eq_true rfl) (Nat.le_of_ble_eq_true rfl) (Nat.le_of_ble_eq_true rfl) d_N_slotOf_2 ?_
  refine lv_istore_n (lv' := [(3, .int (if (nI x) < (nI y) then (nI y) else (nI x))), (0, .int (nI k)), (1, .int (nI x)), (2, .int (nI y))]) hx hb d_N_slotOf_5 rfl hl (by decide) rfl (fun ls hl => ?_)
  refine lv_iload_n hx hb d_N_slotOf_6 rfl (lv_at hl 2 rfl) ?_
  refine lv_iload_n hx hb d_N_slotOf_7 rfl (lv_at hl 3 rfl) ?_
  refine va_mmin hx hb (hml.trans hl.1.symm) hown (hts _ ml_N_33) (hts _ st_min) (hts _ iz_Math) (hts _ in_min) (Nat.le_of_ble_eq_true rfl) (Nat.le_of_ble_eq_true rfl) (Nat.le_of_ble_eq_true rfl) (Nat.le_of_ble_eq_true rfl) d_N_slotOf_8 ?_
  refine lv_istore (lv' := [(4, .int (if (nI y) < (nI x) then (nI y) else (nI x))), (3, .int (if (nI x) < (nI y) then (nI y) else (nI x))), (0, .int (nI k)), (1, .int (nI x)), (2, .int (nI y))]) hx hb d_N_slotOf_11 hl (by decide) rfl (fun ls hl => ?_)
  refine lv_iload_n hx hb d_N_slotOf_13 rfl (lv_at hl 2 rfl) ?_
  refine lv_sipush (v := 820) hx hb d_N_slotOf_14 (by decide) ?_
  refine lv_imul hx hb d_N_slotOf_17 ?_
  refine lv_iload_n hx hb d_N_slotOf_18 rfl (lv_at hl 1 rfl) ?_
  refine lv_iload_n hx hb d_N_slotOf_19 rfl (lv_at hl 1 rfl) ?_
  refine lv_iconst (v := 1) hx hb d_N_slotOf_20 (by decide) ?_
  refine lv_iadd hx hb d_N_slotOf_21 ?_
  refine lv_imul hx hb d_N_slotOf_22 ?_
  refine lv_iconst (v := 2) hx hb d_N_slotOf_23 (by decide) ?_
  refine lv_idiv hx hb d_N_slotOf_24 (by decide) ?_
  refine lv_iadd hx hb d_N_slotOf_25 ?_
  refine lv_iload hx hb d_N_slotOf_26 (lv_at hl 0 rfl) ?_
  refine lv_iadd hx hb d_N_slotOf_28 ?_
  exact rt_i hQ hx hb hr hlk hs (rfl) (sl_eq hk hx0 hy0) d_N_slotOf_29
def rm_N_has : Room := { frames := 2, cells := 0, slots := 0, locals := 53 }
set_option maxRecDepth 100000 in
set_option maxHeartbeats 4000000 in
theorem c_N_has {l : Launch} {ev : EV} {H0 : Heap} {q : Nat} {sl : Nat → Int32} (hn : xN ev q sl H0) {k x y : Nat} {p0 p1 p2 : Int32} (e0 : p0 = nI k) (e1 : p1 = nI x) (e2 : p2 = nI y) (hk : k < 6) (hx0 : x < 40) (hy0 : y < 40) : Met l my_N_has mw_N_has rm_N_has (cP [.ref q, .int p0, .int p1, .int p2] (KG ev) H0) (cQp (some (.int (bI (!decide (sl (sIx k x y) = 0)))))) 0 0 cNo := by
  refine cHead [.ref q, .int p0, .int p1, .int p2] (by decide) rfl (Nat.le_of_ble_eq_true rfl) ?_
  intro p e s m below meth c ls args QQ hQ S hr hlk hnm hs hK hl
  have S : CallFix p m c mb_N_has 4 s args TB "RuleChoice$Answers" := S
  obtain ⟨hx, hb, hml, hown, hts⟩ := id S
  subst e0; subst e1; subst e2
  have hl : lv_has ls 4 [(0, .ref q), (1, .int (nI k)), (2, .int (nI x)), (3, .int (nI y))] := hl
  refine lv_aload_n hx hb d_N_has_0 rfl (lv_at hl 0 rfl) ?_
  refine rw_get hx hb hts in_N hown hK.1 hn.1 rfl 0 (by decide) (hts _ fl_N_11) rfl d_N_has_1 ?_
  refine lv_iload_n hx hb d_N_has_4 rfl (lv_at hl 1 rfl) ?_
  refine lv_iload_n hx hb d_N_has_5 rfl (lv_at hl 2 rfl) ?_
  refine lv_iload_n hx hb d_N_has_6 rfl (lv_at hl 3 rfl) ?_
  refine cl_i (W.runS (As := [.int (nI k), .int (nI x), .int (nI y)]) (rest := [.ref (q + 1)]) S (c_N_slotOf (rfl) (rfl) (rfl) (hk) (hx0) (hy0)) (va_cwS 3 hts gs_N_15 rfl rfl rfl (by decide +kernel) ⟨Nat.le_of_ble_eq_true rfl, Nat.le_of_ble_eq_true rfl⟩) (cP_S (KG_ok _) hK) rfl rfl hl.1 rfl (lv_room (Nat.le_of_ble_eq_true rfl)) d_N_has_7 ⟨Nat.le_of_ble_eq_true rfl, Nat.le_of_ble_eq_true rfl⟩) ?_
  refine rw_iald hx hb hK.1 0 hn.2 rfl (sIx k x y) (rfl) (sIx_lt (hk) (hx0) (hy0)) (by decide) d_N_has_10 ?_
  refine lv_if_eq (tgt := 18) hx hb d_N_has_11 (by decide) (fun c11 => ?_) (fun c11 => ?_)
  · refine lv_iconst (v := 0) hx hb d_N_has_18 (by decide) ?_
    exact rt_i hQ hx hb hr hlk hs (rfl) (by simp [bI, c11]) d_N_has_19
  · refine lv_iconst (v := 1) hx hb d_N_has_14 (by decide) ?_
    refine lv_goto (tgt := 19) hx hb d_N_has_15 (by decide) ?_
    exact rt_i hQ hx hb hr hlk hs (rfl) (by simp [bI, c11]) d_N_has_19
def rm_N_read : Room := { frames := 2, cells := 0, slots := 0, locals := 53 }
set_option maxRecDepth 100000 in
set_option maxHeartbeats 4000000 in
theorem c_N_read {l : Launch} {ev : EV} {H0 : Heap} {q : Nat} {sl : Nat → Int32} (hn : xN ev q sl H0) {k x y : Nat} {p0 p1 p2 : Int32} (e0 : p0 = nI k) (e1 : p1 = nI x) (e2 : p2 = nI y) (hk : k < 6) (hx0 : x < 40) (hy0 : y < 40) : Met l my_N_read mw_N_read rm_N_read (cP [.ref q, .int p0, .int p1, .int p2] (KG ev) H0) (cQp (some (.int (sl (sIx k x y) - 2)))) 0 0 cNo := by
  refine cHead [.ref q, .int p0, .int p1, .int p2] (by decide) rfl (Nat.le_of_ble_eq_true rfl) ?_
  intro p e s m below meth c ls args QQ hQ S hr hlk hnm hs hK hl
  have S : CallFix p m c mb_N_read 4 s args TB "RuleChoice$Answers" := S
  obtain ⟨hx, hb, hml, hown, hts⟩ := id S
  subst e0; subst e1; subst e2
  have hl : lv_has ls 4 [(0, .ref q), (1, .int (nI k)), (2, .int (nI x)), (3, .int (nI y))] := hl
  refine lv_aload_n hx hb d_N_read_0 rfl (lv_at hl 0 rfl) ?_
  refine rw_get hx hb hts in_N hown hK.1 hn.1 rfl 0 (by decide) (hts _ fl_N_11) rfl d_N_read_1 ?_
  refine lv_iload_n hx hb d_N_read_4 rfl (lv_at hl 1 rfl) ?_
  refine lv_iload_n hx hb d_N_read_5 rfl (lv_at hl 2 rfl) ?_
  refine lv_iload_n hx hb d_N_read_6 rfl (lv_at hl 3 rfl) ?_
  refine cl_i (W.runS (As := [.int (nI k), .int (nI x), .int (nI y)]) (rest := [.ref (q + 1)]) S (c_N_slotOf (rfl) (rfl) (rfl) (hk) (hx0) (hy0)) (va_cwS 3 hts gs_N_15 rfl rfl rfl (by decide +kernel) ⟨Nat.le_of_ble_eq_true rfl, Nat.le_of_ble_eq_true rfl⟩) (cP_S (KG_ok _) hK) rfl rfl hl.1 rfl (lv_room (Nat.le_of_ble_eq_true rfl)) d_N_read_7 ⟨Nat.le_of_ble_eq_true rfl, Nat.le_of_ble_eq_true rfl⟩) ?_
  refine rw_iald hx hb hK.1 0 hn.2 rfl (sIx k x y) (rfl) (sIx_lt (hk) (hx0) (hy0)) (by decide) d_N_read_10 ?_
  refine lv_iconst (v := 2) hx hb d_N_read_11 (by decide) ?_
  refine lv_isub hx hb d_N_read_12 ?_
  exact rt_i hQ hx hb hr hlk hs (rfl) (rfl) d_N_read_13
def rm_N_drop : Room := { frames := 0, cells := 0, slots := 0, locals := 0 }
set_option maxRecDepth 100000 in
set_option maxHeartbeats 4000000 in
theorem c_N_drop {l : Launch} {ev : EV} {H0 : Heap} {q : Nat} {sl : Nat → Int32} (hn : xN ev q sl H0) {i : Nat} {p0 : Int32} (e0 : p0 = nI i) (hi : i < 4920) : Met l my_N_drop mw_N_drop rm_N_drop (cP [.ref q, .int p0] (KG ev) H0) (cQd none (fun H1 => xN ev q (upd sl i 0) H1 ∧ Blk q (q + 2) H0 H1)) 0 0 (inBk q (q + 2)) := by
  refine cHead [.ref q, .int p0] (by decide) rfl (Nat.le_of_ble_eq_true rfl) ?_
  intro p e s m below meth c ls args QQ hQ S hr hlk hnm hs hK hl
  have S : CallFix p m c mb_N_drop 2 s args TB "RuleChoice$Answers" := S
  obtain ⟨hx, hb, hml, hown, hts⟩ := id S
  subst e0
  have hl : lv_has ls 2 [(0, .ref q), (1, .int (nI i))] := hl
  refine lv_aload_n hx hb d_N_drop_0 rfl (lv_at hl 0 rfl) ?_
  refine rw_get hx hb hts in_N hown hK.1 hn.1 rfl 0 (by decide) (hts _ fl_N_11) rfl d_N_drop_1 ?_
  refine lv_iload_n hx hb d_N_drop_4 rfl (lv_at hl 1 rfl) ?_
  refine rw_iald hx hb hK.1 0 hn.2 rfl i (rfl) (hi) (by decide) d_N_drop_5 ?_
  refine lv_if_eq (tgt := 26) hx hb d_N_drop_6 (by decide) (fun c6 => ?_) (fun c6 => ?_)
  · exact rt_dv hQ hx hb hr hlk ⟨by rw [upd_0 c6]; exact hn, Blk.rf⟩ cNil (Nat.le_of_ble_eq_true rfl) (Nat.le_of_ble_eq_true rfl) d_N_drop_26
  · refine lv_aload_n hx hb d_N_drop_9 rfl (lv_at hl 0 rfl) ?_
    refine rw_get hx hb hts in_N hown hK.1 hn.1 rfl 0 (by decide) (hts _ fl_N_11) rfl d_N_drop_10 ?_
    refine lv_iload_n hx hb d_N_drop_13 rfl (lv_at hl 1 rfl) ?_
    refine lv_iconst (v := 0) hx hb d_N_drop_14 (by decide) ?_
    refine rw_iast hx hb hK.1 0 hn.2 rfl i (rfl) (hi) (by decide) (⟨by omega, by omega⟩) (A := inBk q (q + 2)) cNil d_N_drop_15 (fun H1 L2 z3 o4 hat5 hL6 => ?_)
    have hB7 : Blk q (q + 2) H0 H1 := (Blk.one z3 o4).wide (by omega) (by omega)
    have hat9 := pt_k hn.1 (o4 q (by omega))
    refine lv_aload_n hx hb d_N_drop_16 rfl (lv_at hl 0 rfl) ?_
    refine lv_dup hx hb d_N_drop_17 rfl ?_
    refine rw_get hx hb hts in_N hown hK.1 hat9 rfl 1 (by decide) (hts _ fl_N_19) rfl d_N_drop_18 ?_
    refine lv_iconst (v := 1) hx hb d_N_drop_21 (by decide) ?_
    refine lv_isub hx hb d_N_drop_22 ?_
    refine rw_put hx hb hts in_N ck_N ok_N nm_N hown hK.1 hat9 rfl 1 (by decide) (hts _ fl_N_19) rfl (ok_N 1 (by decide)) rfl rfl (Nat.le_of_ble_eq_true rfl) (⟨Nat.le_refl _, by omega⟩) hL6 d_N_drop_23 (fun H8 L9 z10 o11 hat12 hL13 => ?_)
    have hB9 : Blk q (q + 2) H0 H8 := Blk.trans hB7 ((Blk.one z10 o11).wide (by omega) (by omega))
    have hat8 := pt_k hat5 (o11 (q + 1) (by omega))
    have e9 : nI (cntF sl 4920) - 1 = nI (cntF (upd sl i 0) 4920) := by rw [← cnt_drop c6 4920 hi]; exact nI_pred _
    exact rt_dv hQ hx hb hr hlk ⟨⟨by rw [← e9]; exact hat12, hat8⟩, hB9⟩ hL13 (Nat.le_of_ble_eq_true rfl) (Nat.le_of_ble_eq_true rfl) d_N_drop_26
def rm_N_keep : Room := { frames := 2, cells := 0, slots := 0, locals := 53 }
set_option maxRecDepth 100000 in
set_option maxHeartbeats 4000000 in
theorem c_N_keep {l : Launch} {ev : EV} {H0 : Heap} {q : Nat} {sl : Nat → Int32} (hn : xN ev q sl H0) {k x y : Nat} {p0 p1 p2 : Int32} (e0 : p0 = nI k) (e1 : p1 = nI x) (e2 : p2 = nI y) (hk : k < 6) (hx0 : x < 40) (hy0 : y < 40) {v : Int32} (hz : sl (sIx k x y) = 0) (hv : ¬ v + 2 = 0) : Met l my_N_keep mw_N_keep rm_N_keep (cP [.ref q, .int p0, .int p1, .int p2, .int v] (KG ev) H0) (cQd none (fun H1 => xN ev q (upd sl (sIx k x y) (v + 2)) H1 ∧ Blk q (q + 2) H0 H1)) 0 0 (inBk q (q + 2)) := by
  refine cHead [.ref q, .int p0, .int p1, .int p2, .int v] (by decide) rfl (Nat.le_of_ble_eq_true rfl) ?_
  intro p e s m below meth c ls args QQ hQ S hr hlk hnm hs hK hl
  have S : CallFix p m c mb_N_keep 6 s args TB "RuleChoice$Answers" := S
  obtain ⟨hx, hb, hml, hown, hts⟩ := id S
  subst e0; subst e1; subst e2
  have hl : lv_has ls 6 [(0, .ref q), (1, .int (nI k)), (2, .int (nI x)), (3, .int (nI y)), (4, .int v)] := hl
  refine lv_iload_n hx hb d_N_keep_0 rfl (lv_at hl 1 rfl) ?_
  refine lv_iload_n hx hb d_N_keep_1 rfl (lv_at hl 2 rfl) ?_
  refine lv_iload_n hx hb d_N_keep_2 rfl (lv_at hl 3 rfl) ?_
  refine cl_i (W.runS (As := [.int (nI k), .int (nI x), .int (nI y)]) (rest := []) S (c_N_slotOf (rfl) (rfl) (rfl) (hk) (hx0) (hy0)) (va_cwS 3 hts gs_N_15 rfl rfl rfl (by decide +kernel) ⟨Nat.le_of_ble_eq_true rfl, Nat.le_of_ble_eq_true rfl⟩) (cP_S (KG_ok _) hK) rfl rfl hl.1 rfl (lv_room (Nat.le_of_ble_eq_true rfl)) d_N_keep_3 ⟨Nat.le_of_ble_eq_true rfl, Nat.le_of_ble_eq_true rfl⟩) ?_
  refine lv_istore (lv' := [(5, .int (nI (sIx k x y))), (0, .ref q), (1, .int (nI k)), (2, .int (nI x)), (3, .int (nI y)), (4, .int v)]) hx hb d_N_keep_6 hl (by decide) rfl (fun ls hl => ?_)
  refine lv_aload_n hx hb d_N_keep_8 rfl (lv_at hl 1 rfl) ?_
  refine rw_get hx hb hts in_N hown hK.1 hn.1 rfl 0 (by decide) (hts _ fl_N_11) rfl d_N_keep_9 ?_
  refine lv_iload hx hb d_N_keep_12 (lv_at hl 0 rfl) ?_
  refine rw_iald hx hb hK.1 0 hn.2 rfl (sIx k x y) (rfl) (sIx_lt (hk) (hx0) (hy0)) (by decide) d_N_keep_14 ?_
  refine lv_if_ne (tgt := 28) hx hb d_N_keep_15 (by decide) (fun c15 => ?_) (fun c15 => ?_)
  · exact absurd hz c15
  · refine lv_aload_n hx hb d_N_keep_18 rfl (lv_at hl 1 rfl) ?_
    refine lv_dup hx hb d_N_keep_19 rfl ?_
    refine rw_get hx hb hts in_N hown hK.1 hn.1 rfl 1 (by decide) (hts _ fl_N_19) rfl d_N_keep_20 ?_
    refine lv_iconst (v := 1) hx hb d_N_keep_23 (by decide) ?_
    refine lv_iadd hx hb d_N_keep_24 ?_
    refine rw_put hx hb hts in_N ck_N ok_N nm_N hown hK.1 hn.1 rfl 1 (by decide) (hts _ fl_N_19) rfl (ok_N 1 (by decide)) rfl rfl (Nat.le_of_ble_eq_true rfl) (⟨Nat.le_refl _, by omega⟩) (A := inBk q (q + 2)) cNil d_N_keep_25 (fun H1 L2 z3 o4 hat5 hL6 => ?_)
    have hB9 : Blk q (q + 2) H0 H1 := (Blk.one z3 o4).wide (by omega) (by omega)
    have hat8 := pt_k hn.2 (o4 (q + 1) (by omega))
    refine lv_aload_n hx hb d_N_keep_28 rfl (lv_at hl 1 rfl) ?_
    refine rw_get hx hb hts in_N hown hK.1 hat5 rfl 0 (by decide) (hts _ fl_N_11) rfl d_N_keep_29 ?_
    refine lv_iload hx hb d_N_keep_32 (lv_at hl 0 rfl) ?_
    refine lv_iload hx hb d_N_keep_34 (lv_at hl 5 rfl) ?_
    refine lv_iconst (v := 2) hx hb d_N_keep_36 (by decide) ?_
    refine lv_iadd hx hb d_N_keep_37 ?_
    refine rw_iast hx hb hK.1 0 hat8 rfl (sIx k x y) (rfl) (sIx_lt (hk) (hx0) (hy0)) (by decide) (⟨by omega, by omega⟩) hL6 d_N_keep_38 (fun H7 L8 z9 o10 hat11 hL12 => ?_)
    have hB8 : Blk q (q + 2) H0 H7 := Blk.trans hB9 ((Blk.one z9 o10).wide (by omega) (by omega))
    have hat7 := pt_k hat5 (o10 q (by omega))
    have e9 : nI (cntF sl 4920) + 1 = nI (cntF (upd sl (sIx k x y) (v + 2)) 4920) := by rw [cnt_keep hz hv 4920 (sIx_lt hk hx0 hy0)]; exact nI_1 _
    exact rt_dv hQ hx hb hr hlk ⟨⟨by rw [← e9]; exact hat7, hat11⟩, hB8⟩ hL12 (Nat.le_of_ble_eq_true rfl) (Nat.le_of_ble_eq_true rfl) d_N_keep_39
