theorem hat_IX : ∀ w ∈ (vx_atS "RuleChoice" 237 cIX CH).filter goodWord, w ∈ TB := fun w h => tb_of ((by decide +kernel : ∀ w ∈ (vx_atS "RuleChoice" 237 cIX CH).filter goodWord, w ∈ lw_tbl) w h) (List.mem_filter.mp h).2
theorem hno_IX : ∀ w ∈ (vx_atS "RuleChoice" 237 cIX CH).filter (fun w => !goodWord w), w ∈ [Cond.declares (Bundle.initS "java/lang/RuntimeException"), Cond.declares (Bundle.initS "java/lang/Exception"), Cond.declares (Bundle.initS Bundle.tN), Cond.castable cIX cIX, Cond.castable cIA cIA] := by decide +kernel
theorem hgo_IX : ∀ w ∈ Cond.classLink "RuleChoice" 233 cIX :: Cond.initialized cIX :: vx_atS "RuleChoice" 237 cIX CH, vx_ot w = true := by decide +kernel
theorem hat_IA : ∀ w ∈ (vx_atS "RuleChoice" 258 cIA CH).filter goodWord, w ∈ TB := fun w h => tb_of ((by decide +kernel : ∀ w ∈ (vx_atS "RuleChoice" 258 cIA CH).filter goodWord, w ∈ lw_tbl) w h) (List.mem_filter.mp h).2
theorem hno_IA : ∀ w ∈ (vx_atS "RuleChoice" 258 cIA CH).filter (fun w => !goodWord w), w ∈ [Cond.declares (Bundle.initS "java/lang/RuntimeException"), Cond.declares (Bundle.initS "java/lang/Exception"), Cond.declares (Bundle.initS Bundle.tN), Cond.castable cIX cIX, Cond.castable cIA cIA] := by decide +kernel
theorem hgo_IA : ∀ w ∈ Cond.classLink "RuleChoice" 254 cIA :: Cond.initialized cIA :: vx_atS "RuleChoice" 258 cIA CH, vx_ot w = true := by decide +kernel
def rm_X_needKind : Room := { frames := 6, cells := 1, slots := 6, locals := 83 }
set_option maxRecDepth 100000 in
set_option maxHeartbeats 4000000 in
theorem c_X_needKind {l : Launch} {ev : EV} {H0 : Heap} {b : Nat} (hT : l.stackTraces = false) (hold : Old ev H0) (x : Int32) : vx_Met l my_X_needKind mw_X_needKind rm_X_needKind (cP [.ref b, .int x] (KG ev) H0) (cQo (okK x)) (cX (fun E H1 => ¬ (okK x) ∧ E = cIX ∧ Ext H0 H1)) 1 6 cNo := by
  refine cHeadX [.ref b, .int x] (by decide) rfl (Nat.le_of_ble_eq_true rfl) ?_
  intro p e s m below meth c ls args QQ hQ htab S hr hlk hnm hs hK hl
  have S : CallFix p m c mb_X_needKind 2 s args TB "RuleChoice" := S
  obtain ⟨hx, hb, hml, hown, hts⟩ := id S
  have hl : lv_has ls 2 [(0, .ref b), (1, .int x)] := hl
  refine lv_iload_n hx hb d_X_needKind_0 rfl (lv_at hl 1 rfl) ?_
  refine lv_if_lt (tgt := 10) hx hb d_X_needKind_1 (by decide) (fun c1 => ?_) (fun c1 => ?_)
  · exact rx_throw (cls := cIX) (text := "no such kind") (ik := 233) (is := 235) (ic := 237) hQ hx hb hT hown hK hs hold (hl.1.trans hml.symm) hts htab hlk (by decide) cl_X_233 iz_IndexOutOfBoundsException (by decide) hat_IX hno_IX hgo_IX d_X_needKind_10 d_X_needKind_13 d_X_needKind_14 d_X_needKind_16 d_X_needKind_19 (Nat.le_of_ble_eq_true rfl) (Nat.le_of_ble_eq_true rfl) (Nat.le_of_ble_eq_true rfl) (Nat.le_of_ble_eq_true rfl) (Nat.le_of_ble_eq_true rfl) (Nat.le_of_ble_eq_true rfl) (fun H1 he => ⟨by simp [okK, c1, Int32.not_le.mpr c1], rfl, he⟩)
  · refine lv_iload_n hx hb d_X_needKind_4 rfl (lv_at hl 1 rfl) ?_
    refine lv_bipush (v := 6) hx hb d_X_needKind_5 (by decide) ?_
    refine lv_icmp_lt (tgt := 20) hx hb d_X_needKind_7 (by decide) (fun c7 => ?_) (fun c7 => ?_)
    · exact rx_v hQ (by simp [okK, c1, Int32.not_lt.mp c1, c7, Int32.not_le.mpr c7]) hx hb hr hlk hs d_X_needKind_20
    · exact rx_throw (cls := cIX) (text := "no such kind") (ik := 233) (is := 235) (ic := 237) hQ hx hb hT hown hK hs hold (hl.1.trans hml.symm) hts htab hlk (by decide) cl_X_233 iz_IndexOutOfBoundsException (by decide) hat_IX hno_IX hgo_IX d_X_needKind_10 d_X_needKind_13 d_X_needKind_14 d_X_needKind_16 d_X_needKind_19 (Nat.le_of_ble_eq_true rfl) (Nat.le_of_ble_eq_true rfl) (Nat.le_of_ble_eq_true rfl) (Nat.le_of_ble_eq_true rfl) (Nat.le_of_ble_eq_true rfl) (Nat.le_of_ble_eq_true rfl) (fun H1 he => ⟨by simp [okK, c1, Int32.not_lt.mp c1, c7, Int32.not_lt.mp c7], rfl, he⟩)
def rm_X_needLayer : Room := { frames := 6, cells := 1, slots := 6, locals := 83 }
set_option maxRecDepth 100000 in
set_option maxHeartbeats 4000000 in
theorem c_X_needLayer {l : Launch} {ev : EV} {H0 : Heap} {b : Nat} (hT : l.stackTraces = false) (hold : Old ev H0) (x : Int32) : vx_Met l my_X_needLayer mw_X_needLayer rm_X_needLayer (cP [.ref b, .int x] (KG ev) H0) (cQo (okL x)) (cX (fun E H1 => ¬ (okL x) ∧ E = cIX ∧ Ext H0 H1)) 1 6 cNo := by
  refine cHeadX [.ref b, .int x] (by decide) rfl (Nat.le_of_ble_eq_true rfl) ?_
  intro p e s m below meth c ls args QQ hQ htab S hr hlk hnm hs hK hl
  have S : CallFix p m c mb_X_needLayer 2 s args TB "RuleChoice" := S
  obtain ⟨hx, hb, hml, hown, hts⟩ := id S
  have hl : lv_has ls 2 [(0, .ref b), (1, .int x)] := hl
  refine lv_iload_n hx hb d_X_needLayer_0 rfl (lv_at hl 1 rfl) ?_
  refine lv_if_lt (tgt := 10) hx hb d_X_needLayer_1 (by decide) (fun c1 => ?_) (fun c1 => ?_)
  · exact rx_throw (cls := cIX) (text := "no such layer") (ik := 233) (is := 242) (ic := 237) hQ hx hb hT hown hK hs hold (hl.1.trans hml.symm) hts htab hlk (by decide) cl_X_233 iz_IndexOutOfBoundsException (by decide) hat_IX hno_IX hgo_IX d_X_needLayer_10 d_X_needLayer_13 d_X_needLayer_14 d_X_needLayer_16 d_X_needLayer_19 (Nat.le_of_ble_eq_true rfl) (Nat.le_of_ble_eq_true rfl) (Nat.le_of_ble_eq_true rfl) (Nat.le_of_ble_eq_true rfl) (Nat.le_of_ble_eq_true rfl) (Nat.le_of_ble_eq_true rfl) (fun H1 he => ⟨by simp [okL, c1, Int32.not_le.mpr c1], rfl, he⟩)
  · refine lv_iload_n hx hb d_X_needLayer_4 rfl (lv_at hl 1 rfl) ?_
    refine lv_bipush (v := 8) hx hb d_X_needLayer_5 (by decide) ?_
    refine lv_icmp_lt (tgt := 20) hx hb d_X_needLayer_7 (by decide) (fun c7 => ?_) (fun c7 => ?_)
    · exact rx_v hQ (by simp [okL, c1, Int32.not_lt.mp c1, c7, Int32.not_le.mpr c7]) hx hb hr hlk hs d_X_needLayer_20
    · exact rx_throw (cls := cIX) (text := "no such layer") (ik := 233) (is := 242) (ic := 237) hQ hx hb hT hown hK hs hold (hl.1.trans hml.symm) hts htab hlk (by decide) cl_X_233 iz_IndexOutOfBoundsException (by decide) hat_IX hno_IX hgo_IX d_X_needLayer_10 d_X_needLayer_13 d_X_needLayer_14 d_X_needLayer_16 d_X_needLayer_19 (Nat.le_of_ble_eq_true rfl) (Nat.le_of_ble_eq_true rfl) (Nat.le_of_ble_eq_true rfl) (Nat.le_of_ble_eq_true rfl) (Nat.le_of_ble_eq_true rfl) (Nat.le_of_ble_eq_true rfl) (fun H1 he => ⟨by simp [okL, c1, Int32.not_lt.mp c1, c7, Int32.not_lt.mp c7], rfl, he⟩)
def rm_X_needSide : Room := { frames := 6, cells := 1, slots := 6, locals := 83 }
set_option maxRecDepth 100000 in
set_option maxHeartbeats 4000000 in
theorem c_X_needSide {l : Launch} {ev : EV} {H0 : Heap} {b : Nat} (hT : l.stackTraces = false) (hold : Old ev H0) (x : Int32) : vx_Met l my_X_needSide mw_X_needSide rm_X_needSide (cP [.ref b, .int x] (KG ev) H0) (cQo (okS x)) (cX (fun E H1 => ¬ (okS x) ∧ E = cIX ∧ Ext H0 H1)) 1 6 cNo := by
  refine cHeadX [.ref b, .int x] (by decide) rfl (Nat.le_of_ble_eq_true rfl) ?_
  intro p e s m below meth c ls args QQ hQ htab S hr hlk hnm hs hK hl
  have S : CallFix p m c mb_X_needSide 2 s args TB "RuleChoice" := S
  obtain ⟨hx, hb, hml, hown, hts⟩ := id S
  have hl : lv_has ls 2 [(0, .ref b), (1, .int x)] := hl
  refine lv_iload_n hx hb d_X_needSide_0 rfl (lv_at hl 1 rfl) ?_
  refine lv_if_eq (tgt := 19) hx hb d_X_needSide_1 (by decide) (fun c1 => ?_) (fun c1 => ?_)
  · exact rx_v hQ (by simp [okS, c1]) hx hb hr hlk hs d_X_needSide_19
  · refine lv_iload_n hx hb d_X_needSide_4 rfl (lv_at hl 1 rfl) ?_
    refine lv_iconst (v := 1) hx hb d_X_needSide_5 (by decide) ?_
    refine lv_icmp_eq (tgt := 19) hx hb d_X_needSide_6 (by decide) (fun c6 => ?_) (fun c6 => ?_)
    · exact rx_v hQ (by simp [okS, c1, c6]) hx hb hr hlk hs d_X_needSide_19
    · exact rx_throw (cls := cIX) (text := "which is 0 or 1") (ik := 233) (is := 250) (ic := 237) hQ hx hb hT hown hK hs hold (hl.1.trans hml.symm) hts htab hlk (by decide) cl_X_233 iz_IndexOutOfBoundsException (by decide) hat_IX hno_IX hgo_IX d_X_needSide_9 d_X_needSide_12 d_X_needSide_13 d_X_needSide_15 d_X_needSide_18 (Nat.le_of_ble_eq_true rfl) (Nat.le_of_ble_eq_true rfl) (Nat.le_of_ble_eq_true rfl) (Nat.le_of_ble_eq_true rfl) (Nat.le_of_ble_eq_true rfl) (Nat.le_of_ble_eq_true rfl) (fun H1 he => ⟨by simp [okS, c1, c6], rfl, he⟩)
def rm_X_needRank : Room := { frames := 6, cells := 1, slots := 6, locals := 83 }
set_option maxRecDepth 100000 in
set_option maxHeartbeats 4000000 in
theorem c_X_needRank {l : Launch} {ev : EV} {H0 : Heap} {b : Nat} (hT : l.stackTraces = false) (hold : Old ev H0) (x : Int32) : vx_Met l my_X_needRank mw_X_needRank rm_X_needRank (cP [.ref b, .int x] (KG ev) H0) (cQo (okR x)) (cX (fun E H1 => ¬ (okR x) ∧ E = cIA ∧ Ext H0 H1)) 1 6 cNo := by
  refine cHeadX [.ref b, .int x] (by decide) rfl (Nat.le_of_ble_eq_true rfl) ?_
  intro p e s m below meth c ls args QQ hQ htab S hr hlk hnm hs hK hl
  have S : CallFix p m c mb_X_needRank 2 s args TB "RuleChoice" := S
  obtain ⟨hx, hb, hml, hown, hts⟩ := id S
  have hl : lv_has ls 2 [(0, .ref b), (1, .int x)] := hl
  refine lv_iload_n hx hb d_X_needRank_0 rfl (lv_at hl 1 rfl) ?_
  refine lv_sipush (v := (-1000)) hx hb d_X_needRank_1 (by decide) ?_
  refine lv_icmp_lt (tgt := 14) hx hb d_X_needRank_4 (by decide) (fun c4 => ?_) (fun c4 => ?_)
  · exact rx_throwW (cls := cIA) (text := "no rank") (ik := 254) (is := 259) (ic := 258) hQ hx hb hT hown hK hs hold (hl.1.trans hml.symm) hts htab hlk (by decide) cl_X_254 iz_IllegalArgumentException (by decide) hat_IA hno_IA hgo_IA d_X_needRank_14 d_X_needRank_17 d_X_needRank_18 d_X_needRank_21 d_X_needRank_24 (Nat.le_of_ble_eq_true rfl) (Nat.le_of_ble_eq_true rfl) (Nat.le_of_ble_eq_true rfl) (Nat.le_of_ble_eq_true rfl) (Nat.le_of_ble_eq_true rfl) (Nat.le_of_ble_eq_true rfl) (fun H1 he => ⟨by simp [okR, c4, Int32.not_le.mpr c4], rfl, he⟩)
  · refine lv_iload_n hx hb d_X_needRank_7 rfl (lv_at hl 1 rfl) ?_
    refine lv_sipush (v := 1000) hx hb d_X_needRank_8 (by decide) ?_
    refine lv_icmp_le (tgt := 25) hx hb d_X_needRank_11 (by decide) (fun c11 => ?_) (fun c11 => ?_)
    · exact rx_v hQ (by simp [okR, c4, Int32.not_lt.mp c4, c11, Int32.not_lt.mpr c11]) hx hb hr hlk hs d_X_needRank_25
    · exact rx_throwW (cls := cIA) (text := "no rank") (ik := 254) (is := 259) (ic := 258) hQ hx hb hT hown hK hs hold (hl.1.trans hml.symm) hts htab hlk (by decide) cl_X_254 iz_IllegalArgumentException (by decide) hat_IA hno_IA hgo_IA d_X_needRank_14 d_X_needRank_17 d_X_needRank_18 d_X_needRank_21 d_X_needRank_24 (Nat.le_of_ble_eq_true rfl) (Nat.le_of_ble_eq_true rfl) (Nat.le_of_ble_eq_true rfl) (Nat.le_of_ble_eq_true rfl) (Nat.le_of_ble_eq_true rfl) (Nat.le_of_ble_eq_true rfl) (fun H1 he => ⟨by simp [okR, c4, Int32.not_lt.mp c4, c11, Int32.not_le.mp c11], rfl, he⟩)
def rm_X_needClass : Room := { frames := 6, cells := 1, slots := 6, locals := 83 }
set_option maxRecDepth 100000 in
set_option maxHeartbeats 4000000 in
theorem c_X_needClass {l : Launch} {ev : EV} {H0 : Heap} {b : Nat} {u : XS} (hT : l.stackTraces = false) (hold : Old ev H0) (hw : XW ev b u H0) (x : Int32) : vx_Met l my_X_needClass mw_X_needClass rm_X_needClass (cP [.ref b, .int x] (KG ev) H0) (cQo (okC u.1.1 x)) (cX (fun E H1 => ¬ (okC u.1.1 x) ∧ E = cIX ∧ Ext H0 H1)) 1 6 cNo := by
  refine cHeadX [.ref b, .int x] (by decide) rfl (Nat.le_of_ble_eq_true rfl) ?_
  intro p e s m below meth c ls args QQ hQ htab S hr hlk hnm hs hK hl
  have S : CallFix p m c mb_X_needClass 2 s args TB "RuleChoice" := S
  obtain ⟨hx, hb, hml, hown, hts⟩ := id S
  have hl : lv_has ls 2 [(0, .ref b), (1, .int x)] := hl
  refine lv_iload_n hx hb d_X_needClass_0 rfl (lv_at hl 1 rfl) ?_
  refine lv_if_lt (tgt := 12) hx hb d_X_needClass_1 (by decide) (fun c1 => ?_) (fun c1 => ?_)
  · exact rx_throw (cls := cIX) (text := "no such class") (ik := 233) (is := 240) (ic := 237) hQ hx hb hT hown hK hs hold (hl.1.trans hml.symm) hts htab hlk (by decide) cl_X_233 iz_IndexOutOfBoundsException (by decide) hat_IX hno_IX hgo_IX d_X_needClass_12 d_X_needClass_15 d_X_needClass_16 d_X_needClass_18 d_X_needClass_21 (Nat.le_of_ble_eq_true rfl) (Nat.le_of_ble_eq_true rfl) (Nat.le_of_ble_eq_true rfl) (Nat.le_of_ble_eq_true rfl) (Nat.le_of_ble_eq_true rfl) (Nat.le_of_ble_eq_true rfl) (fun H1 he => ⟨by simp [okC, c1, Int32.not_le.mpr c1], rfl, he⟩)
  · refine lv_iload_n hx hb d_X_needClass_4 rfl (lv_at hl 1 rfl) ?_
    refine lv_aload_n hx hb d_X_needClass_5 rfl (lv_at hl 0 rfl) ?_
    refine rw_get hx hb hts in_X hown hK.1 hw.1 rfl 0 (by decide) (hts _ fl_X_18) rfl d_X_needClass_6 ?_
    refine lv_icmp_lt (tgt := 22) hx hb d_X_needClass_9 (by decide) (fun c9 => ?_) (fun c9 => ?_)
    · exact rx_v hQ (by simp [okC, c1, Int32.not_lt.mp c1, c9, Int32.not_le.mpr c9]) hx hb hr hlk hs d_X_needClass_22
    · exact rx_throw (cls := cIX) (text := "no such class") (ik := 233) (is := 240) (ic := 237) hQ hx hb hT hown hK hs hold (hl.1.trans hml.symm) hts htab hlk (by decide) cl_X_233 iz_IndexOutOfBoundsException (by decide) hat_IX hno_IX hgo_IX d_X_needClass_12 d_X_needClass_15 d_X_needClass_16 d_X_needClass_18 d_X_needClass_21 (Nat.le_of_ble_eq_true rfl) (Nat.le_of_ble_eq_true rfl) (Nat.le_of_ble_eq_true rfl) (Nat.le_of_ble_eq_true rfl) (Nat.le_of_ble_eq_true rfl) (Nat.le_of_ble_eq_true rfl) (fun H1 he => ⟨by simp [okC, c1, Int32.not_lt.mp c1, c9, Int32.not_lt.mp c9], rfl, he⟩)
def rm_X_needRule : Room := { frames := 6, cells := 1, slots := 6, locals := 83 }
set_option maxRecDepth 100000 in
set_option maxHeartbeats 4000000 in
theorem c_X_needRule {l : Launch} {ev : EV} {H0 : Heap} {b : Nat} {u : XS} (hT : l.stackTraces = false) (hold : Old ev H0) (hw : XW ev b u H0) (x : Int32) : vx_Met l my_X_needRule mw_X_needRule rm_X_needRule (cP [.ref b, .int x] (KG ev) H0) (cQo (okI u.1.2.1 x)) (cX (fun E H1 => ¬ (okI u.1.2.1 x) ∧ E = cIX ∧ Ext H0 H1)) 1 6 cNo := by
  refine cHeadX [.ref b, .int x] (by decide) rfl (Nat.le_of_ble_eq_true rfl) ?_
  intro p e s m below meth c ls args QQ hQ htab S hr hlk hnm hs hK hl
  have S : CallFix p m c mb_X_needRule 2 s args TB "RuleChoice" := S
  obtain ⟨hx, hb, hml, hown, hts⟩ := id S
  have hl : lv_has ls 2 [(0, .ref b), (1, .int x)] := hl
  refine lv_iload_n hx hb d_X_needRule_0 rfl (lv_at hl 1 rfl) ?_
  refine lv_if_lt (tgt := 12) hx hb d_X_needRule_1 (by decide) (fun c1 => ?_) (fun c1 => ?_)
  · exact rx_throw (cls := cIX) (text := "no such rule") (ik := 233) (is := 244) (ic := 237) hQ hx hb hT hown hK hs hold (hl.1.trans hml.symm) hts htab hlk (by decide) cl_X_233 iz_IndexOutOfBoundsException (by decide) hat_IX hno_IX hgo_IX d_X_needRule_12 d_X_needRule_15 d_X_needRule_16 d_X_needRule_18 d_X_needRule_21 (Nat.le_of_ble_eq_true rfl) (Nat.le_of_ble_eq_true rfl) (Nat.le_of_ble_eq_true rfl) (Nat.le_of_ble_eq_true rfl) (Nat.le_of_ble_eq_true rfl) (Nat.le_of_ble_eq_true rfl) (fun H1 he => ⟨by simp [okI, c1, Int32.not_le.mpr c1], rfl, he⟩)
  · refine lv_iload_n hx hb d_X_needRule_4 rfl (lv_at hl 1 rfl) ?_
    refine lv_aload_n hx hb d_X_needRule_5 rfl (lv_at hl 0 rfl) ?_
    refine rw_get hx hb hts in_X hown hK.1 hw.1 rfl 6 (by decide) (hts _ fl_X_71) rfl d_X_needRule_6 ?_
    refine lv_icmp_lt (tgt := 22) hx hb d_X_needRule_9 (by decide) (fun c9 => ?_) (fun c9 => ?_)
    · exact rx_v hQ (by simp [okI, c1, Int32.not_lt.mp c1, c9, Int32.not_le.mpr c9]) hx hb hr hlk hs d_X_needRule_22
    · exact rx_throw (cls := cIX) (text := "no such rule") (ik := 233) (is := 244) (ic := 237) hQ hx hb hT hown hK hs hold (hl.1.trans hml.symm) hts htab hlk (by decide) cl_X_233 iz_IndexOutOfBoundsException (by decide) hat_IX hno_IX hgo_IX d_X_needRule_12 d_X_needRule_15 d_X_needRule_16 d_X_needRule_18 d_X_needRule_21 (Nat.le_of_ble_eq_true rfl) (Nat.le_of_ble_eq_true rfl) (Nat.le_of_ble_eq_true rfl) (Nat.le_of_ble_eq_true rfl) (Nat.le_of_ble_eq_true rfl) (Nat.le_of_ble_eq_true rfl) (fun H1 he => ⟨by simp [okI, c1, Int32.not_lt.mp c1, c9, Int32.not_lt.mp c9], rfl, he⟩)
def rm_X_needThing : Room := { frames := 6, cells := 1, slots := 6, locals := 83 }
set_option maxRecDepth 100000 in
set_option maxHeartbeats 4000000 in
theorem c_X_needThing {l : Launch} {ev : EV} {H0 : Heap} {b : Nat} {u : XS} (hT : l.stackTraces = false) (hold : Old ev H0) (hw : XW ev b u H0) (x : Int32) : vx_Met l my_X_needThing mw_X_needThing rm_X_needThing (cP [.ref b, .int x] (KG ev) H0) (cQo (okI u.1.2.2.2.1 x)) (cX (fun E H1 => ¬ (okI u.1.2.2.2.1 x) ∧ E = cIX ∧ Ext H0 H1)) 1 6 cNo := by
  refine cHeadX [.ref b, .int x] (by decide) rfl (Nat.le_of_ble_eq_true rfl) ?_
  intro p e s m below meth c ls args QQ hQ htab S hr hlk hnm hs hK hl
  have S : CallFix p m c mb_X_needThing 2 s args TB "RuleChoice" := S
  obtain ⟨hx, hb, hml, hown, hts⟩ := id S
  have hl : lv_has ls 2 [(0, .ref b), (1, .int x)] := hl
  refine lv_iload_n hx hb d_X_needThing_0 rfl (lv_at hl 1 rfl) ?_
  refine lv_if_lt (tgt := 12) hx hb d_X_needThing_1 (by decide) (fun c1 => ?_) (fun c1 => ?_)
  · exact rx_throw (cls := cIX) (text := "no such thing") (ik := 233) (is := 248) (ic := 237) hQ hx hb hT hown hK hs hold (hl.1.trans hml.symm) hts htab hlk (by decide) cl_X_233 iz_IndexOutOfBoundsException (by decide) hat_IX hno_IX hgo_IX d_X_needThing_12 d_X_needThing_15 d_X_needThing_16 d_X_needThing_18 d_X_needThing_21 (Nat.le_of_ble_eq_true rfl) (Nat.le_of_ble_eq_true rfl) (Nat.le_of_ble_eq_true rfl) (Nat.le_of_ble_eq_true rfl) (Nat.le_of_ble_eq_true rfl) (Nat.le_of_ble_eq_true rfl) (fun H1 he => ⟨by simp [okI, c1, Int32.not_le.mpr c1], rfl, he⟩)
  · refine lv_iload_n hx hb d_X_needThing_4 rfl (lv_at hl 1 rfl) ?_
    refine lv_aload_n hx hb d_X_needThing_5 rfl (lv_at hl 0 rfl) ?_
    refine rw_get hx hb hts in_X hown hK.1 hw.1 rfl 8 (by decide) (hts _ fl_X_119) rfl d_X_needThing_6 ?_
    refine lv_icmp_lt (tgt := 22) hx hb d_X_needThing_9 (by decide) (fun c9 => ?_) (fun c9 => ?_)
    · exact rx_v hQ (by simp [okI, c1, Int32.not_lt.mp c1, c9, Int32.not_le.mpr c9]) hx hb hr hlk hs d_X_needThing_22
    · exact rx_throw (cls := cIX) (text := "no such thing") (ik := 233) (is := 248) (ic := 237) hQ hx hb hT hown hK hs hold (hl.1.trans hml.symm) hts htab hlk (by decide) cl_X_233 iz_IndexOutOfBoundsException (by decide) hat_IX hno_IX hgo_IX d_X_needThing_12 d_X_needThing_15 d_X_needThing_16 d_X_needThing_18 d_X_needThing_21 (Nat.le_of_ble_eq_true rfl) (Nat.le_of_ble_eq_true rfl) (Nat.le_of_ble_eq_true rfl) (Nat.le_of_ble_eq_true rfl) (Nat.le_of_ble_eq_true rfl) (Nat.le_of_ble_eq_true rfl) (fun H1 he => ⟨by simp [okI, c1, Int32.not_lt.mp c1, c9, Int32.not_lt.mp c9], rfl, he⟩)
def rm_X_needAreaOrNone : Room := { frames := 6, cells := 1, slots := 6, locals := 83 }
set_option maxRecDepth 100000 in
set_option maxHeartbeats 4000000 in
theorem c_X_needAreaOrNone {l : Launch} {ev : EV} {H0 : Heap} {b : Nat} {u : XS} (hT : l.stackTraces = false) (hold : Old ev H0) (hw : XW ev b u H0) (x : Int32) : vx_Met l my_X_needAreaOrNone mw_X_needAreaOrNone rm_X_needAreaOrNone (cP [.ref b, .int x] (KG ev) H0) (cQo (okIN u.1.2.2.1 x)) (cX (fun E H1 => ¬ (okIN u.1.2.2.1 x) ∧ E = cIX ∧ Ext H0 H1)) 1 6 cNo := by
  refine cHeadX [.ref b, .int x] (by decide) rfl (Nat.le_of_ble_eq_true rfl) ?_
  intro p e s m below meth c ls args QQ hQ htab S hr hlk hnm hs hK hl
  have S : CallFix p m c mb_X_needAreaOrNone 2 s args TB "RuleChoice" := S
  obtain ⟨hx, hb, hml, hown, hts⟩ := id S
  have hl : lv_has ls 2 [(0, .ref b), (1, .int x)] := hl
  refine lv_iload_n hx hb d_X_needAreaOrNone_0 rfl (lv_at hl 1 rfl) ?_
  refine lv_iconst (v := (-1)) hx hb d_X_needAreaOrNone_1 (by decide) ?_
  refine lv_icmp_eq (tgt := 27) hx hb d_X_needAreaOrNone_2 (by decide) (fun c2 => ?_) (fun c2 => ?_)
  · exact rx_v hQ (by simp [okIN, okI, c2]) hx hb hr hlk hs d_X_needAreaOrNone_27
  · refine lv_iload_n hx hb d_X_needAreaOrNone_5 rfl (lv_at hl 1 rfl) ?_
    refine lv_if_lt (tgt := 17) hx hb d_X_needAreaOrNone_6 (by decide) (fun c6 => ?_) (fun c6 => ?_)
    · exact rx_throw (cls := cIX) (text := "no such area") (ik := 233) (is := 246) (ic := 237) hQ hx hb hT hown hK hs hold (hl.1.trans hml.symm) hts htab hlk (by decide) cl_X_233 iz_IndexOutOfBoundsException (by decide) hat_IX hno_IX hgo_IX d_X_needAreaOrNone_17 d_X_needAreaOrNone_20 d_X_needAreaOrNone_21 d_X_needAreaOrNone_23 d_X_needAreaOrNone_26 (Nat.le_of_ble_eq_true rfl) (Nat.le_of_ble_eq_true rfl) (Nat.le_of_ble_eq_true rfl) (Nat.le_of_ble_eq_true rfl) (Nat.le_of_ble_eq_true rfl) (Nat.le_of_ble_eq_true rfl) (fun H1 he => ⟨by simp [okIN, okI, c2, c6, Int32.not_le.mpr c6], rfl, he⟩)
    · refine lv_iload_n hx hb d_X_needAreaOrNone_9 rfl (lv_at hl 1 rfl) ?_
      refine lv_aload_n hx hb d_X_needAreaOrNone_10 rfl (lv_at hl 0 rfl) ?_
      refine rw_get hx hb hts in_X hown hK.1 hw.1 rfl 7 (by decide) (hts _ fl_X_101) rfl d_X_needAreaOrNone_11 ?_
      refine lv_icmp_lt (tgt := 27) hx hb d_X_needAreaOrNone_14 (by decide) (fun c14 => ?_) (fun c14 => ?_)
      · exact rx_v hQ (by simp [okIN, okI, c2, c6, Int32.not_lt.mp c6, c14, Int32.not_le.mpr c14]) hx hb hr hlk hs d_X_needAreaOrNone_27
      · exact rx_throw (cls := cIX) (text := "no such area") (ik := 233) (is := 246) (ic := 237) hQ hx hb hT hown hK hs hold (hl.1.trans hml.symm) hts htab hlk (by decide) cl_X_233 iz_IndexOutOfBoundsException (by decide) hat_IX hno_IX hgo_IX d_X_needAreaOrNone_17 d_X_needAreaOrNone_20 d_X_needAreaOrNone_21 d_X_needAreaOrNone_23 d_X_needAreaOrNone_26 (Nat.le_of_ble_eq_true rfl) (Nat.le_of_ble_eq_true rfl) (Nat.le_of_ble_eq_true rfl) (Nat.le_of_ble_eq_true rfl) (Nat.le_of_ble_eq_true rfl) (Nat.le_of_ble_eq_true rfl) (fun H1 he => ⟨by simp [okIN, okI, c2, c6, Int32.not_lt.mp c6, c14, Int32.not_lt.mp c14], rfl, he⟩)
def rm_X_needValue : Room := { frames := 6, cells := 1, slots := 6, locals := 83 }
set_option maxRecDepth 100000 in
set_option maxHeartbeats 4000000 in
theorem c_X_needValue {l : Launch} {ev : EV} {H0 : Heap} {b : Nat} (hT : l.stackTraces = false) (hold : Old ev H0) (x : Int64) : vx_Met l my_X_needValue mw_X_needValue rm_X_needValue (cP [.ref b, .long x] (KG ev) H0) (cQo (okV x)) (cX (fun E H1 => ¬ (okV x) ∧ E = cIA ∧ Ext H0 H1)) 1 6 cNo := by
  refine cHeadX [.ref b, .long x] (by decide) rfl (Nat.le_of_ble_eq_true rfl) ?_
  intro p e s m below meth c ls args QQ hQ htab S hr hlk hnm hs hK hl
  have S : CallFix p m c mb_X_needValue 3 s args TB "RuleChoice" := S
  obtain ⟨hx, hb, hml, hown, hts⟩ := id S
  have hl : lv_has ls 3 [(0, .ref b), (1, .long x)] := hl
  refine lv_lload_n hx hb d_X_needValue_0 rfl (lv_at hl 1 rfl) ?_
  refine lv_lconst (v := 0) hx hb d_X_needValue_1 (by decide) ?_
  refine ll_lt (tgt := 14) hx hb d_X_needValue_2 d_X_needValue_3 (by decide) (fun c3 => ?_) (fun c3 => ?_)
  · exact rx_throwW (cls := cIA) (text := "no value") (ik := 254) (is := 256) (ic := 258) hQ hx hb hT hown hK hs hold (hl.1.trans hml.symm) hts htab hlk (by decide) cl_X_254 iz_IllegalArgumentException (by decide) hat_IA hno_IA hgo_IA d_X_needValue_14 d_X_needValue_17 d_X_needValue_18 d_X_needValue_21 d_X_needValue_24 (Nat.le_of_ble_eq_true rfl) (Nat.le_of_ble_eq_true rfl) (Nat.le_of_ble_eq_true rfl) (Nat.le_of_ble_eq_true rfl) (Nat.le_of_ble_eq_true rfl) (Nat.le_of_ble_eq_true rfl) (fun H1 he => ⟨by simp [okV, c3, Int64.not_le.mpr c3], rfl, he⟩)
  · refine lv_lload_n hx hb d_X_needValue_6 rfl (lv_at hl 1 rfl) ?_
    refine lv_ldc2 (v := 1000000) hx hb hown (hts _ kl_X_252) d_X_needValue_7 ?_
    refine ll_le (tgt := 25) hx hb d_X_needValue_10 d_X_needValue_11 (by decide) (fun c11 => ?_) (fun c11 => ?_)
    · exact rx_v hQ (by simp [okV, c3, Int64.not_lt.mp c3, c11, Int64.not_lt.mpr c11]) hx hb hr hlk hs d_X_needValue_25
    · exact rx_throwW (cls := cIA) (text := "no value") (ik := 254) (is := 256) (ic := 258) hQ hx hb hT hown hK hs hold (hl.1.trans hml.symm) hts htab hlk (by decide) cl_X_254 iz_IllegalArgumentException (by decide) hat_IA hno_IA hgo_IA d_X_needValue_14 d_X_needValue_17 d_X_needValue_18 d_X_needValue_21 d_X_needValue_24 (Nat.le_of_ble_eq_true rfl) (Nat.le_of_ble_eq_true rfl) (Nat.le_of_ble_eq_true rfl) (Nat.le_of_ble_eq_true rfl) (Nat.le_of_ble_eq_true rfl) (Nat.le_of_ble_eq_true rfl) (fun H1 he => ⟨by simp [okV, c3, Int64.not_lt.mp c3, c11, Int64.not_le.mp c11], rfl, he⟩)
def rm_X_needPlace : Room := { frames := 6, cells := 1, slots := 6, locals := 83 }
set_option maxRecDepth 100000 in
set_option maxHeartbeats 4000000 in
theorem c_X_needPlace {l : Launch} {ev : EV} {H0 : Heap} {b : Nat} (hT : l.stackTraces = false) (hold : Old ev H0) (x y : Int64) : vx_Met l my_X_needPlace mw_X_needPlace rm_X_needPlace (cP [.ref b, .long x, .long y] (KG ev) H0) (cQo (okP x y)) (cX (fun E H1 => ¬ (okP x y) ∧ E = cIA ∧ Ext H0 H1)) 1 6 cNo := by
  refine cHeadX [.ref b, .long x, .long y] (by decide) rfl (Nat.le_of_ble_eq_true rfl) ?_
  intro p e s m below meth c ls args QQ hQ htab S hr hlk hnm hs hK hl
  have S : CallFix p m c mb_X_needPlace 5 s args TB "RuleChoice" := S
  obtain ⟨hx, hb, hml, hown, hts⟩ := id S
  have hl : lv_has ls 5 [(0, .ref b), (1, .long x), (3, .long y)] := hl
  refine lv_lload_n hx hb d_X_needPlace_0 rfl (lv_at hl 1 rfl) ?_
  refine lv_ldc2 (v := (-1000000)) hx hb hown (hts _ kl_X_261) d_X_needPlace_1 ?_
  refine ll_lt (tgt := 32) hx hb d_X_needPlace_4 d_X_needPlace_5 (by decide) (fun c5 => ?_) (fun c5 => ?_)
  · exact rx_throwW (cls := cIA) (text := "no place") (ik := 254) (is := 263) (ic := 258) hQ hx hb hT hown hK hs hold (hl.1.trans hml.symm) hts htab hlk (by decide) cl_X_254 iz_IllegalArgumentException (by decide) hat_IA hno_IA hgo_IA d_X_needPlace_32 d_X_needPlace_35 d_X_needPlace_36 d_X_needPlace_39 d_X_needPlace_42 (Nat.le_of_ble_eq_true rfl) (Nat.le_of_ble_eq_true rfl) (Nat.le_of_ble_eq_true rfl) (Nat.le_of_ble_eq_true rfl) (Nat.le_of_ble_eq_true rfl) (Nat.le_of_ble_eq_true rfl) (fun H1 he => ⟨by simp [okP, c5, Int64.not_le.mpr c5], rfl, he⟩)
  · refine lv_lload_n hx hb d_X_needPlace_8 rfl (lv_at hl 1 rfl) ?_
    refine lv_ldc2 (v := 1000000) hx hb hown (hts _ kl_X_252) d_X_needPlace_9 ?_
    refine ll_gt (tgt := 32) hx hb d_X_needPlace_12 d_X_needPlace_13 (by decide) (fun c13 => ?_) (fun c13 => ?_)
    · exact rx_throwW (cls := cIA) (text := "no place") (ik := 254) (is := 263) (ic := 258) hQ hx hb hT hown hK hs hold (hl.1.trans hml.symm) hts htab hlk (by decide) cl_X_254 iz_IllegalArgumentException (by decide) hat_IA hno_IA hgo_IA d_X_needPlace_32 d_X_needPlace_35 d_X_needPlace_36 d_X_needPlace_39 d_X_needPlace_42 (Nat.le_of_ble_eq_true rfl) (Nat.le_of_ble_eq_true rfl) (Nat.le_of_ble_eq_true rfl) (Nat.le_of_ble_eq_true rfl) (Nat.le_of_ble_eq_true rfl) (Nat.le_of_ble_eq_true rfl) (fun H1 he => ⟨by simp [okP, c5, Int64.not_lt.mp c5, c13, Int64.not_le.mpr c13], rfl, he⟩)
    · refine lv_lload_n hx hb d_X_needPlace_16 rfl (lv_at hl 2 rfl) ?_
      refine lv_ldc2 (v := (-1000000)) hx hb hown (hts _ kl_X_261) d_X_needPlace_17 ?_
      refine ll_lt (tgt := 32) hx hb d_X_needPlace_20 d_X_needPlace_21 (by decide) (fun c21 => ?_) (fun c21 => ?_)
      · exact rx_throwW (cls := cIA) (text := "no place") (ik := 254) (is := 263) (ic := 258) hQ hx hb hT hown hK hs hold (hl.1.trans hml.symm) hts htab hlk (by decide) cl_X_254 iz_IllegalArgumentException (by decide) hat_IA hno_IA hgo_IA d_X_needPlace_32 d_X_needPlace_35 d_X_needPlace_36 d_X_needPlace_39 d_X_needPlace_42 (Nat.le_of_ble_eq_true rfl) (Nat.le_of_ble_eq_true rfl) (Nat.le_of_ble_eq_true rfl) (Nat.le_of_ble_eq_true rfl) (Nat.le_of_ble_eq_true rfl) (Nat.le_of_ble_eq_true rfl) (fun H1 he => ⟨by simp [okP, c5, Int64.not_lt.mp c5, c13, Int64.not_lt.mp c13, c21, Int64.not_le.mpr c21], rfl, he⟩)
      · refine lv_lload_n hx hb d_X_needPlace_24 rfl (lv_at hl 2 rfl) ?_
        refine lv_ldc2 (v := 1000000) hx hb hown (hts _ kl_X_252) d_X_needPlace_25 ?_
        refine ll_le (tgt := 43) hx hb d_X_needPlace_28 d_X_needPlace_29 (by decide) (fun c29 => ?_) (fun c29 => ?_)
        · exact rx_v hQ (by simp [okP, c5, Int64.not_lt.mp c5, c13, Int64.not_lt.mp c13, c21, Int64.not_lt.mp c21, c29, Int64.not_lt.mpr c29]) hx hb hr hlk hs d_X_needPlace_43
        · exact rx_throwW (cls := cIA) (text := "no place") (ik := 254) (is := 263) (ic := 258) hQ hx hb hT hown hK hs hold (hl.1.trans hml.symm) hts htab hlk (by decide) cl_X_254 iz_IllegalArgumentException (by decide) hat_IA hno_IA hgo_IA d_X_needPlace_32 d_X_needPlace_35 d_X_needPlace_36 d_X_needPlace_39 d_X_needPlace_42 (Nat.le_of_ble_eq_true rfl) (Nat.le_of_ble_eq_true rfl) (Nat.le_of_ble_eq_true rfl) (Nat.le_of_ble_eq_true rfl) (Nat.le_of_ble_eq_true rfl) (Nat.le_of_ble_eq_true rfl) (fun H1 he => ⟨by simp [okP, c5, Int64.not_lt.mp c5, c13, Int64.not_lt.mp c13, c21, Int64.not_lt.mp c21, c29, Int64.not_le.mp c29], rfl, he⟩)
def rm_X_needUnturned : Room := { frames := 6, cells := 1, slots := 6, locals := 83 }
set_option maxRecDepth 100000 in
set_option maxHeartbeats 4000000 in
theorem c_X_needUnturned {l : Launch} {ev : EV} {H0 : Heap} {b : Nat} (hT : l.stackTraces = false) (hold : Old ev H0) (x0 y0 x1 y1 : Int64) : vx_Met l my_X_needUnturned mw_X_needUnturned rm_X_needUnturned (cP [.ref b, .long x0, .long y0, .long x1, .long y1] (KG ev) H0) (cQo (okT x0 y0 x1 y1)) (cX (fun E H1 => ¬ (okT x0 y0 x1 y1) ∧ E = cIA ∧ Ext H0 H1)) 1 6 cNo := by
  refine cHeadX [.ref b, .long x0, .long y0, .long x1, .long y1] (by decide) rfl (Nat.le_of_ble_eq_true rfl) ?_
  intro p e s m below meth c ls args QQ hQ htab S hr hlk hnm hs hK hl
  have S : CallFix p m c mb_X_needUnturned 9 s args TB "RuleChoice" := S
  obtain ⟨hx, hb, hml, hown, hts⟩ := id S
  have hl : lv_has ls 9 [(0, .ref b), (1, .long x0), (3, .long y0), (5, .long x1), (7, .long y1)] := hl
  refine lv_lload_n hx hb d_X_needUnturned_0 rfl (lv_at hl 1 rfl) ?_
  refine lv_lload hx hb d_X_needUnturned_1 (lv_at hl 3 rfl) ?_
  refine ll_gt (tgt := 14) hx hb d_X_needUnturned_3 d_X_needUnturned_4 (by decide) (fun c4 => ?_) (fun c4 => ?_)
  · exact rx_throwW (cls := cIA) (text := "the area is turned") (ik := 254) (is := 265) (ic := 258) hQ hx hb hT hown hK hs hold (hl.1.trans hml.symm) hts htab hlk (by decide) cl_X_254 iz_IllegalArgumentException (by decide) hat_IA hno_IA hgo_IA d_X_needUnturned_14 d_X_needUnturned_17 d_X_needUnturned_18 d_X_needUnturned_21 d_X_needUnturned_24 (Nat.le_of_ble_eq_true rfl) (Nat.le_of_ble_eq_true rfl) (Nat.le_of_ble_eq_true rfl) (Nat.le_of_ble_eq_true rfl) (Nat.le_of_ble_eq_true rfl) (Nat.le_of_ble_eq_true rfl) (fun H1 he => ⟨by simp [okT, c4, Int64.not_le.mpr c4], rfl, he⟩)
  · refine lv_lload_n hx hb d_X_needUnturned_7 rfl (lv_at hl 2 rfl) ?_
    refine lv_lload hx hb d_X_needUnturned_8 (lv_at hl 4 rfl) ?_
    refine ll_le (tgt := 25) hx hb d_X_needUnturned_10 d_X_needUnturned_11 (by decide) (fun c11 => ?_) (fun c11 => ?_)
    · exact rx_v hQ (by simp [okT, c4, Int64.not_lt.mp c4, c11, Int64.not_lt.mpr c11]) hx hb hr hlk hs d_X_needUnturned_25
    · exact rx_throwW (cls := cIA) (text := "the area is turned") (ik := 254) (is := 265) (ic := 258) hQ hx hb hT hown hK hs hold (hl.1.trans hml.symm) hts htab hlk (by decide) cl_X_254 iz_IllegalArgumentException (by decide) hat_IA hno_IA hgo_IA d_X_needUnturned_14 d_X_needUnturned_17 d_X_needUnturned_18 d_X_needUnturned_21 d_X_needUnturned_24 (Nat.le_of_ble_eq_true rfl) (Nat.le_of_ble_eq_true rfl) (Nat.le_of_ble_eq_true rfl) (Nat.le_of_ble_eq_true rfl) (Nat.le_of_ble_eq_true rfl) (Nat.le_of_ble_eq_true rfl) (fun H1 he => ⟨by simp [okT, c4, Int64.not_lt.mp c4, c11, Int64.not_le.mp c11], rfl, he⟩)
