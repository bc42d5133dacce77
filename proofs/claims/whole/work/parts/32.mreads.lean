def rm_M_isKind : Room := { frames := 0, cells := 0, slots := 0, locals := 0 }
set_option maxRecDepth 100000 in
set_option maxHeartbeats 4000000 in
theorem c_M_isKind {l : Launch} {ev : EV} {H0 : Heap} (x : Int32)  : Met l my_M_isKind mw_M_isKind rm_M_isKind (cP [.int x] (KG ev) H0) (cQp (some (.int (bI (kB x))))) 0 0 cNo := by
  refine cHead [.int x] (by decide) rfl (Nat.le_of_ble_eq_true rfl) ?_
  intro p e s m below meth c ls args QQ hQ S hr hlk hnm hs hK hl
  have S : CallFix p m c mb_M_isKind 1 s args TB "RuleChoiceModel" := S
  obtain ⟨hx, hb, hml, hown, hts⟩ := id S
  have hl : lv_has ls 1 [(0, .int x)] := hl
  refine lv_iload_n hx hb d_M_isKind_0 rfl (lv_at hl 0 rfl) ?_
  refine lv_if_lt (tgt := 14) hx hb d_M_isKind_1 (by decide) (fun c1 => ?_) (fun c1 => ?_)
  · refine lv_iconst (v := 0) hx hb d_M_isKind_14 (by decide) ?_
    exact rt_i hQ hx hb hr hlk hs (rfl) (by simp [kB, bI, c1, Int32.not_le.mpr c1]) d_M_isKind_15
  · refine lv_iload_n hx hb d_M_isKind_4 rfl (lv_at hl 0 rfl) ?_
    refine lv_bipush (v := 6) hx hb d_M_isKind_5 (by decide) ?_
    refine lv_icmp_ge (tgt := 14) hx hb d_M_isKind_7 (by decide) (fun c7 => ?_) (fun c7 => ?_)
    · refine lv_iconst (v := 0) hx hb d_M_isKind_14 (by decide) ?_
      exact rt_i hQ hx hb hr hlk hs (rfl) (by simp [kB, bI, c1, Int32.not_lt.mp c1, c7, Int32.not_lt.mpr c7]) d_M_isKind_15
    · refine lv_iconst (v := 1) hx hb d_M_isKind_10 (by decide) ?_
      refine lv_goto (tgt := 15) hx hb d_M_isKind_11 (by decide) ?_
      exact rt_i hQ hx hb hr hlk hs (rfl) (by simp [kB, bI, c1, Int32.not_lt.mp c1, c7, Int32.not_le.mp c7]) d_M_isKind_15
def rm_M_isLayer : Room := { frames := 0, cells := 0, slots := 0, locals := 0 }
set_option maxRecDepth 100000 in
set_option maxHeartbeats 4000000 in
theorem c_M_isLayer {l : Launch} {ev : EV} {H0 : Heap} (x : Int32)  : Met l my_M_isLayer mw_M_isLayer rm_M_isLayer (cP [.int x] (KG ev) H0) (cQp (some (.int (bI (lB x))))) 0 0 cNo := by
  refine cHead [.int x] (by decide) rfl (Nat.le_of_ble_eq_true rfl) ?_
  intro p e s m below meth c ls args QQ hQ S hr hlk hnm hs hK hl
  have S : CallFix p m c mb_M_isLayer 1 s args TB "RuleChoiceModel" := S
  obtain ⟨hx, hb, hml, hown, hts⟩ := id S
  have hl : lv_has ls 1 [(0, .int x)] := hl
  refine lv_iload_n hx hb d_M_isLayer_0 rfl (lv_at hl 0 rfl) ?_
  refine lv_if_lt (tgt := 14) hx hb d_M_isLayer_1 (by decide) (fun c1 => ?_) (fun c1 => ?_)
  · refine lv_iconst (v := 0) hx hb d_M_isLayer_14 (by decide) ?_
    exact rt_i hQ hx hb hr hlk hs (rfl) (by simp [lB, bI, c1, Int32.not_le.mpr c1]) d_M_isLayer_15
  · refine lv_iload_n hx hb d_M_isLayer_4 rfl (lv_at hl 0 rfl) ?_
    refine lv_bipush (v := 8) hx hb d_M_isLayer_5 (by decide) ?_
    refine lv_icmp_ge (tgt := 14) hx hb d_M_isLayer_7 (by decide) (fun c7 => ?_) (fun c7 => ?_)
    · refine lv_iconst (v := 0) hx hb d_M_isLayer_14 (by decide) ?_
      exact rt_i hQ hx hb hr hlk hs (rfl) (by simp [lB, bI, c1, Int32.not_lt.mp c1, c7, Int32.not_lt.mpr c7]) d_M_isLayer_15
    · refine lv_iconst (v := 1) hx hb d_M_isLayer_10 (by decide) ?_
      refine lv_goto (tgt := 15) hx hb d_M_isLayer_11 (by decide) ?_
      exact rt_i hQ hx hb hr hlk hs (rfl) (by simp [lB, bI, c1, Int32.not_lt.mp c1, c7, Int32.not_le.mp c7]) d_M_isLayer_15
def rm_M_isPlace : Room := { frames := 0, cells := 0, slots := 0, locals := 0 }
set_option maxRecDepth 100000 in
set_option maxHeartbeats 4000000 in
theorem c_M_isPlace {l : Launch} {ev : EV} {H0 : Heap} (x y : Int64)  : Met l my_M_isPlace mw_M_isPlace rm_M_isPlace (cP [.long x, .long y] (KG ev) H0) (cQp (some (.int (bI (pB x y))))) 0 0 cNo := by
  refine cHead [.long x, .long y] (by decide) rfl (Nat.le_of_ble_eq_true rfl) ?_
  intro p e s m below meth c ls args QQ hQ S hr hlk hnm hs hK hl
  have S : CallFix p m c mb_M_isPlace 4 s args TB "RuleChoiceModel" := S
  obtain ⟨hx, hb, hml, hown, hts⟩ := id S
  have hl : lv_has ls 4 [(0, .long x), (2, .long y)] := hl
  refine lv_lload_n hx hb d_M_isPlace_0 rfl (lv_at hl 0 rfl) ?_
  refine lv_ldc2 (v := (-1000000)) hx hb hown (hts _ kl_M_70) d_M_isPlace_1 ?_
  refine ll_lt (tgt := 36) hx hb d_M_isPlace_4 d_M_isPlace_5 (by decide) (fun c5 => ?_) (fun c5 => ?_)
  · refine lv_iconst (v := 0) hx hb d_M_isPlace_36 (by decide) ?_
    exact rt_i hQ hx hb hr hlk hs (rfl) (by simp [pB, bI, c5, Int64.not_le.mpr c5]) d_M_isPlace_37
  · refine lv_lload_n hx hb d_M_isPlace_8 rfl (lv_at hl 0 rfl) ?_
    refine lv_ldc2 (v := 1000000) hx hb hown (hts _ kl_M_72) d_M_isPlace_9 ?_
    refine ll_gt (tgt := 36) hx hb d_M_isPlace_12 d_M_isPlace_13 (by decide) (fun c13 => ?_) (fun c13 => ?_)
    · refine lv_iconst (v := 0) hx hb d_M_isPlace_36 (by decide) ?_
      exact rt_i hQ hx hb hr hlk hs (rfl) (by simp [pB, bI, c5, Int64.not_lt.mp c5, c13, Int64.not_le.mpr c13]) d_M_isPlace_37
    · refine lv_lload_n hx hb d_M_isPlace_16 rfl (lv_at hl 1 rfl) ?_
      refine lv_ldc2 (v := (-1000000)) hx hb hown (hts _ kl_M_70) d_M_isPlace_17 ?_
      refine ll_lt (tgt := 36) hx hb d_M_isPlace_20 d_M_isPlace_21 (by decide) (fun c21 => ?_) (fun c21 => ?_)
      · refine lv_iconst (v := 0) hx hb d_M_isPlace_36 (by decide) ?_
        exact rt_i hQ hx hb hr hlk hs (rfl) (by simp [pB, bI, c5, Int64.not_lt.mp c5, c13, Int64.not_lt.mp c13, c21, Int64.not_le.mpr c21]) d_M_isPlace_37
      · refine lv_lload_n hx hb d_M_isPlace_24 rfl (lv_at hl 1 rfl) ?_
        refine lv_ldc2 (v := 1000000) hx hb hown (hts _ kl_M_72) d_M_isPlace_25 ?_
        refine ll_gt (tgt := 36) hx hb d_M_isPlace_28 d_M_isPlace_29 (by decide) (fun c29 => ?_) (fun c29 => ?_)
        · refine lv_iconst (v := 0) hx hb d_M_isPlace_36 (by decide) ?_
          exact rt_i hQ hx hb hr hlk hs (rfl) (by simp [pB, bI, c5, Int64.not_lt.mp c5, c13, Int64.not_lt.mp c13, c21, Int64.not_lt.mp c21, c29, Int64.not_le.mpr c29]) d_M_isPlace_37
        · refine lv_iconst (v := 1) hx hb d_M_isPlace_32 (by decide) ?_
          refine lv_goto (tgt := 37) hx hb d_M_isPlace_33 (by decide) ?_
          exact rt_i hQ hx hb hr hlk hs (rfl) (by simp [pB, bI, c5, Int64.not_lt.mp c5, c13, Int64.not_lt.mp c13, c21, Int64.not_lt.mp c21, c29, Int64.not_lt.mp c29]) d_M_isPlace_37
def rm_M_isOf : Room := { frames := 0, cells := 0, slots := 0, locals := 0 }
set_option maxRecDepth 100000 in
set_option maxHeartbeats 4000000 in
theorem c_M_isOf {l : Launch} {ev : EV} {H0 : Heap} (w g : Int32)  : Met l my_M_isOf mw_M_isOf rm_M_isOf (cP [.int w, .int g] (KG ev) H0) (cQp (some (.int (bI (fitB w g))))) 0 0 cNo := by
  refine cHead [.int w, .int g] (by decide) rfl (Nat.le_of_ble_eq_true rfl) ?_
  intro p e s m below meth c ls args QQ hQ S hr hlk hnm hs hK hl
  have S : CallFix p m c mb_M_isOf 2 s args TB "RuleChoiceModel" := S
  obtain ⟨hx, hb, hml, hown, hts⟩ := id S
  have hl : lv_has ls 2 [(0, .int w), (1, .int g)] := hl
  refine lv_iload_n hx hb d_M_isOf_0 rfl (lv_at hl 0 rfl) ?_
  refine lv_iconst (v := (-1)) hx hb d_M_isOf_1 (by decide) ?_
  refine lv_icmp_eq (tgt := 10) hx hb d_M_isOf_2 (by decide) (fun c2 => ?_) (fun c2 => ?_)
  · refine lv_iconst (v := 1) hx hb d_M_isOf_10 (by decide) ?_
    refine lv_goto (tgt := 15) hx hb d_M_isOf_11 (by decide) ?_
    exact rt_i hQ hx hb hr hlk hs (rfl) (by simp [fitB, bI, c2]) d_M_isOf_15
  · refine lv_iload_n hx hb d_M_isOf_5 rfl (lv_at hl 0 rfl) ?_
    refine lv_iload_n hx hb d_M_isOf_6 rfl (lv_at hl 1 rfl) ?_
    refine lv_icmp_ne (tgt := 14) hx hb d_M_isOf_7 (by decide) (fun c7 => ?_) (fun c7 => ?_)
    · refine lv_iconst (v := 0) hx hb d_M_isOf_14 (by decide) ?_
      exact rt_i hQ hx hb hr hlk hs (rfl) (by simp [fitB, bI, c2, c7]) d_M_isOf_15
    · refine lv_iconst (v := 1) hx hb d_M_isOf_10 (by decide) ?_
      refine lv_goto (tgt := 15) hx hb d_M_isOf_11 (by decide) ?_
      exact rt_i hQ hx hb hr hlk hs (rfl) (by simp [fitB, bI, c2, c7]) d_M_isOf_15
def rm_M_isClass : Room := { frames := 0, cells := 0, slots := 0, locals := 0 }
set_option maxRecDepth 100000 in
set_option maxHeartbeats 4000000 in
theorem c_M_isClass {l : Launch} {ev : EV} {H0 : Heap} {d : Nat} {th : Int32} {u : XS} {v : PT} (ho : pt ev H0 d (oC 6 (mO d th u v))) (x : Int32) : Met l my_M_isClass mw_M_isClass rm_M_isClass (cP [.ref d, .int x] (KG ev) H0) (cQp (some (.int (bI (cB u.1.1 x))))) 0 0 cNo := by
  refine cHead [.ref d, .int x] (by decide) rfl (Nat.le_of_ble_eq_true rfl) ?_
  intro p e s m below meth c ls args QQ hQ S hr hlk hnm hs hK hl
  have S : CallFix p m c mb_M_isClass 2 s args TB "RuleChoiceModel" := S
  obtain ⟨hx, hb, hml, hown, hts⟩ := id S
  have hl : lv_has ls 2 [(0, .ref d), (1, .int x)] := hl
  refine lv_iload_n hx hb d_M_isClass_0 rfl (lv_at hl 1 rfl) ?_
  refine lv_if_lt (tgt := 16) hx hb d_M_isClass_1 (by decide) (fun c1 => ?_) (fun c1 => ?_)
  · refine lv_iconst (v := 0) hx hb d_M_isClass_16 (by decide) ?_
    exact rt_i hQ hx hb hr hlk hs (rfl) (by simp [cB, bI, c1, Int32.not_le.mpr c1]) d_M_isClass_17
  · refine lv_iload_n hx hb d_M_isClass_4 rfl (lv_at hl 1 rfl) ?_
    refine lv_aload_n hx hb d_M_isClass_5 rfl (lv_at hl 0 rfl) ?_
    refine rw_get hx hb hts in_M hown hK.1 ho rfl 1 (by decide) (hts _ fl_M_57) rfl d_M_isClass_6 ?_
    refine lv_icmp_ge (tgt := 16) hx hb d_M_isClass_9 (by decide) (fun c9 => ?_) (fun c9 => ?_)
    · refine lv_iconst (v := 0) hx hb d_M_isClass_16 (by decide) ?_
      exact rt_i hQ hx hb hr hlk hs (rfl) (by simp [cB, bI, c1, Int32.not_lt.mp c1, c9, Int32.not_lt.mpr c9]) d_M_isClass_17
    · refine lv_iconst (v := 1) hx hb d_M_isClass_12 (by decide) ?_
      refine lv_goto (tgt := 17) hx hb d_M_isClass_13 (by decide) ?_
      exact rt_i hQ hx hb hr hlk hs (rfl) (by simp [cB, bI, c1, Int32.not_lt.mp c1, c9, Int32.not_le.mp c9]) d_M_isClass_17
def rm_M_isThing : Room := { frames := 0, cells := 0, slots := 0, locals := 0 }
set_option maxRecDepth 100000 in
set_option maxHeartbeats 4000000 in
theorem c_M_isThing {l : Launch} {ev : EV} {H0 : Heap} {d : Nat} {th : Int32} {u : XS} {v : PT} (ho : pt ev H0 d (oC 6 (mO d th u v))) (x : Int32) : Met l my_M_isThing mw_M_isThing rm_M_isThing (cP [.ref d, .int x] (KG ev) H0) (cQp (some (.int (bI (iB u.1.2.2.2.1 x))))) 0 0 cNo := by
  refine cHead [.ref d, .int x] (by decide) rfl (Nat.le_of_ble_eq_true rfl) ?_
  intro p e s m below meth c ls args QQ hQ S hr hlk hnm hs hK hl
  have S : CallFix p m c mb_M_isThing 2 s args TB "RuleChoiceModel" := S
  obtain ⟨hx, hb, hml, hown, hts⟩ := id S
  have hl : lv_has ls 2 [(0, .ref d), (1, .int x)] := hl
  refine lv_iload_n hx hb d_M_isThing_0 rfl (lv_at hl 1 rfl) ?_
  refine lv_if_lt (tgt := 16) hx hb d_M_isThing_1 (by decide) (fun c1 => ?_) (fun c1 => ?_)
  · refine lv_iconst (v := 0) hx hb d_M_isThing_16 (by decide) ?_
    exact rt_i hQ hx hb hr hlk hs (rfl) (by simp [iB, bI, c1, Int32.not_le.mpr c1]) d_M_isThing_17
  · refine lv_iload_n hx hb d_M_isThing_4 rfl (lv_at hl 1 rfl) ?_
    refine lv_aload_n hx hb d_M_isThing_5 rfl (lv_at hl 0 rfl) ?_
    refine rw_get hx hb hts in_M hown hK.1 ho rfl 12 (by decide) (hts _ fl_M_64) rfl d_M_isThing_6 ?_
    refine lv_icmp_ge (tgt := 16) hx hb d_M_isThing_9 (by decide) (fun c9 => ?_) (fun c9 => ?_)
    · refine lv_iconst (v := 0) hx hb d_M_isThing_16 (by decide) ?_
      exact rt_i hQ hx hb hr hlk hs (rfl) (by simp [iB, bI, c1, Int32.not_lt.mp c1, c9, Int32.not_lt.mpr c9]) d_M_isThing_17
    · refine lv_iconst (v := 1) hx hb d_M_isThing_12 (by decide) ?_
      refine lv_goto (tgt := 17) hx hb d_M_isThing_13 (by decide) ?_
      exact rt_i hQ hx hb hr hlk hs (rfl) (by simp [iB, bI, c1, Int32.not_lt.mp c1, c9, Int32.not_le.mp c9]) d_M_isThing_17
def rm_M_isRule : Room := { frames := 0, cells := 0, slots := 0, locals := 0 }
set_option maxRecDepth 100000 in
set_option maxHeartbeats 4000000 in
theorem c_M_isRule {l : Launch} {ev : EV} {H0 : Heap} {d : Nat} {th : Int32} {u : XS} {v : PT} (ho : pt ev H0 d (oC 6 (mO d th u v))) (x : Int32) : Met l my_M_isRule mw_M_isRule rm_M_isRule (cP [.ref d, .int x] (KG ev) H0) (cQp (some (.int (bI (iB u.1.2.1 x))))) 0 0 cNo := by
  refine cHead [.ref d, .int x] (by decide) rfl (Nat.le_of_ble_eq_true rfl) ?_
  intro p e s m below meth c ls args QQ hQ S hr hlk hnm hs hK hl
  have S : CallFix p m c mb_M_isRule 2 s args TB "RuleChoiceModel" := S
  obtain ⟨hx, hb, hml, hown, hts⟩ := id S
  have hl : lv_has ls 2 [(0, .ref d), (1, .int x)] := hl
  refine lv_iload_n hx hb d_M_isRule_0 rfl (lv_at hl 1 rfl) ?_
  refine lv_if_lt (tgt := 16) hx hb d_M_isRule_1 (by decide) (fun c1 => ?_) (fun c1 => ?_)
  · refine lv_iconst (v := 0) hx hb d_M_isRule_16 (by decide) ?_
    exact rt_i hQ hx hb hr hlk hs (rfl) (by simp [iB, bI, c1, Int32.not_le.mpr c1]) d_M_isRule_17
  · refine lv_iload_n hx hb d_M_isRule_4 rfl (lv_at hl 1 rfl) ?_
    refine lv_aload_n hx hb d_M_isRule_5 rfl (lv_at hl 0 rfl) ?_
    refine rw_get hx hb hts in_M hown hK.1 ho rfl 2 (by decide) (hts _ fl_M_67) rfl d_M_isRule_6 ?_
    refine lv_icmp_ge (tgt := 16) hx hb d_M_isRule_9 (by decide) (fun c9 => ?_) (fun c9 => ?_)
    · refine lv_iconst (v := 0) hx hb d_M_isRule_16 (by decide) ?_
      exact rt_i hQ hx hb hr hlk hs (rfl) (by simp [iB, bI, c1, Int32.not_lt.mp c1, c9, Int32.not_lt.mpr c9]) d_M_isRule_17
    · refine lv_iconst (v := 1) hx hb d_M_isRule_12 (by decide) ?_
      refine lv_goto (tgt := 17) hx hb d_M_isRule_13 (by decide) ?_
      exact rt_i hQ hx hb hr hlk hs (rfl) (by simp [iB, bI, c1, Int32.not_lt.mp c1, c9, Int32.not_le.mp c9]) d_M_isRule_17
def rm_M_thrown : Room := { frames := 0, cells := 0, slots := 0, locals := 0 }
set_option maxRecDepth 100000 in
set_option maxHeartbeats 4000000 in
theorem c_M_thrown {l : Launch} {ev : EV} {H0 : Heap} {d : Nat} {th : Int32} {u : XS} {v : PT} (ho : pt ev H0 d (oC 6 (mO d th u v))) : Met l my_M_thrown mw_M_thrown rm_M_thrown (cP [.ref d] (KG ev) H0) (cQp (some (.int th))) 0 0 cNo := by
  refine cHead [.ref d] (by decide) rfl (Nat.le_of_ble_eq_true rfl) ?_
  intro p e s m below meth c ls args QQ hQ S hr hlk hnm hs hK hl
  have S : CallFix p m c mb_M_thrown 1 s args TB "RuleChoiceModel" := S
  obtain ⟨hx, hb, hml, hown, hts⟩ := id S
  have hl : lv_has ls 1 [(0, .ref d)] := hl
  refine lv_aload_n hx hb d_M_thrown_0 rfl (lv_at hl 0 rfl) ?_
  refine rw_get hx hb hts in_M hown hK.1 ho rfl 0 (by decide) (hts _ fl_M_61) rfl d_M_thrown_1 ?_
  exact rt_i hQ hx hb hr hlk hs (rfl) (rfl) d_M_thrown_4
def rm_M_isAsked : Room := { frames := 1, cells := 0, slots := 0, locals := 21 }
set_option maxRecDepth 100000 in
set_option maxHeartbeats 4000000 in
theorem c_M_isAsked {l : Launch} {ev : EV} {H0 : Heap} {d : Nat} {th : Int32} {u : XS} {v : PT} (ho : pt ev H0 d (oC 6 (mO d th u v))) (k x y : Int32) : Met l my_M_isAsked mw_M_isAsked rm_M_isAsked (cP [.ref d, .int k, .int x, .int y] (KG ev) H0) (cQp (some (.int (bI (kB k && (iB u.1.2.2.2.1 x && iB u.1.2.2.2.1 y)))))) 0 0 cNo := by
  refine cHead [.ref d, .int k, .int x, .int y] (by decide) rfl (Nat.le_of_ble_eq_true rfl) ?_
  intro p e s m below meth c ls args QQ hQ S hr hlk hnm hs hK hl
  have S : CallFix p m c mb_M_isAsked 4 s args TB "RuleChoiceModel" := S
  obtain ⟨hx, hb, hml, hown, hts⟩ := id S
  have hl : lv_has ls 4 [(0, .ref d), (1, .int k), (2, .int x), (3, .int y)] := hl
  refine lv_iload_n hx hb d_M_isAsked_0 rfl (lv_at hl 1 rfl) ?_
  refine cl_i (W.runS (As := [.int k]) (rest := []) S (c_M_isKind k) (va_cwS 1 hts gs_M_74 rfl rfl rfl (by decide +kernel) ⟨Nat.le_of_ble_eq_true rfl, Nat.le_of_ble_eq_true rfl⟩) (cP_S (KG_ok _) hK) rfl rfl hl.1 rfl (lv_room (Nat.le_of_ble_eq_true rfl)) d_M_isAsked_1 ⟨Nat.le_of_ble_eq_true rfl, Nat.le_of_ble_eq_true rfl⟩) ?_
  refine lv_if_eq (tgt := 27) hx hb d_M_isAsked_4 (by decide) (fun c4 => ?_) (fun c4 => ?_)
  · refine lv_iconst (v := 0) hx hb d_M_isAsked_27 (by decide) ?_
    exact rt_i hQ hx hb hr hlk hs (rfl) (by (try simp only [bI_eq, bI_ne] at c4); simp [bI, c4]) d_M_isAsked_28
  · refine lv_aload_n hx hb d_M_isAsked_7 rfl (lv_at hl 0 rfl) ?_
    refine lv_iload_n hx hb d_M_isAsked_8 rfl (lv_at hl 2 rfl) ?_
    refine cl_i (W.runV (As := [.int x]) (rest := []) S (c_M_isThing ho x) (cwV 1 hts gv_M_98 rfl rfl rfl (by decide +kernel) ⟨Nat.le_of_ble_eq_true rfl, Nat.le_of_ble_eq_true rfl⟩) (cP_V (KG_ok _) hK hK.1 ho rfl) rfl rfl hl.1 rfl (lv_room (Nat.le_of_ble_eq_true rfl)) d_M_isAsked_9 ⟨Nat.le_of_ble_eq_true rfl, Nat.le_of_ble_eq_true rfl⟩) ?_
    refine lv_if_eq (tgt := 27) hx hb d_M_isAsked_12 (by decide) (fun c12 => ?_) (fun c12 => ?_)
    · refine lv_iconst (v := 0) hx hb d_M_isAsked_27 (by decide) ?_
      exact rt_i hQ hx hb hr hlk hs (rfl) (by (try simp only [bI_eq, bI_ne] at c4 c12); simp [bI, c4, c12]) d_M_isAsked_28
    · refine lv_aload_n hx hb d_M_isAsked_15 rfl (lv_at hl 0 rfl) ?_
      refine lv_iload_n hx hb d_M_isAsked_16 rfl (lv_at hl 3 rfl) ?_
      refine cl_i (W.runV (As := [.int y]) (rest := []) S (c_M_isThing ho y) (cwV 1 hts gv_M_98 rfl rfl rfl (by decide +kernel) ⟨Nat.le_of_ble_eq_true rfl, Nat.le_of_ble_eq_true rfl⟩) (cP_V (KG_ok _) hK hK.1 ho rfl) rfl rfl hl.1 rfl (lv_room (Nat.le_of_ble_eq_true rfl)) d_M_isAsked_17 ⟨Nat.le_of_ble_eq_true rfl, Nat.le_of_ble_eq_true rfl⟩) ?_
      refine lv_if_eq (tgt := 27) hx hb d_M_isAsked_20 (by decide) (fun c20 => ?_) (fun c20 => ?_)
      · refine lv_iconst (v := 0) hx hb d_M_isAsked_27 (by decide) ?_
        exact rt_i hQ hx hb hr hlk hs (rfl) (by (try simp only [bI_eq, bI_ne] at c4 c12 c20); simp [bI, c4, c12, c20]) d_M_isAsked_28
      · refine lv_iconst (v := 1) hx hb d_M_isAsked_23 (by decide) ?_
        refine lv_goto (tgt := 28) hx hb d_M_isAsked_24 (by decide) ?_
        exact rt_i hQ hx hb hr hlk hs (rfl) (by (try simp only [bI_eq, bI_ne] at c4 c12 c20); simp [bI, c4, c12, c20]) d_M_isAsked_28
def rm_M_lies : Room := { frames := 0, cells := 0, slots := 0, locals := 0 }
set_option maxRecDepth 100000 in
set_option maxHeartbeats 4000000 in
theorem c_M_lies {l : Launch} {ev : EV} {H0 : Heap} {d : Nat} {th : Int32} {u : XS} {kp : KT} {v : PT} (hm : MW ev d th u kp v H0) {t a : Nat} {p_t p_a : Int32} (e_t : p_t = nI t) (e_a : p_a = nI a) (h_t : t < 40) (h_a : a < 12) : Met l my_M_lies mw_M_lies rm_M_lies (cP [.ref d, .int p_t, .int p_a] (KG ev) H0) (cQp (some (.int (bI (inB (u.2.2.1 a) (u.2.2.2 t).2.2.1 (u.2.2.2 t).2.2.2))))) 0 0 cNo := by
  refine cHead [.ref d, .int p_t, .int p_a] (by decide) rfl (Nat.le_of_ble_eq_true rfl) ?_
  intro p e s m below meth c ls args QQ hQ S hr hlk hnm hs hK hl
  have S : CallFix p m c mb_M_lies 4 s args TB "RuleChoiceModel" := S
  obtain ⟨hx, hb, hml, hown, hts⟩ := id S
  subst e_t; subst e_a
  obtain ⟨m0, m1, m2, m3, m4, m5, m6, m7, m8, m9, m10, m11, m12, m13, m14, m15, hxb, hv7⟩ := id hm
  have hl : lv_has ls 4 [(0, .ref d), (1, .int (nI t)), (2, .int (nI a))] := hl
  refine lv_iconst (v := 4) hx hb d_M_lies_0 (by decide) ?_
  refine lv_iload_n hx hb d_M_lies_1 rfl (lv_at hl 2 rfl) ?_
  refine lv_imul hx hb d_M_lies_2 ?_
  refine tp_i (y := (nI (4 * a))) (pk_mul 4 a) ?_
  refine lv_istore_n (lv' := [(3, .int (nI (4 * a))), (0, .ref d), (1, .int (nI t)), (2, .int (nI a))]) hx hb d_M_lies_3 rfl hl (by decide) rfl (fun ls hl => ?_)
  refine lv_aload_n hx hb d_M_lies_4 rfl (lv_at hl 1 rfl) ?_
  refine rw_get hx hb hts in_M hown hK.1 m0 rfl 15 (by decide) (hts _ fl_M_41) rfl d_M_lies_5 ?_
  refine lv_iload_n hx hb d_M_lies_8 rfl (lv_at hl 2 rfl) ?_
  refine rw_lald hx hb hK.1 1 m11 rfl t (rfl) (h_t) (by decide) d_M_lies_9 ?_
  refine lv_aload_n hx hb d_M_lies_10 rfl (lv_at hl 1 rfl) ?_
  refine rw_get hx hb hts in_M hown hK.1 m0 rfl 11 (by decide) (hts _ fl_M_32) rfl d_M_lies_11 ?_
  refine lv_iload_n hx hb d_M_lies_14 rfl (lv_at hl 0 rfl) ?_
  refine rw_lald hx hb hK.1 1 m8 rfl (4 * a) (rfl) (by omega) (by decide) d_M_lies_15 ?_
  refine ll_lt (tgt := 78) hx hb d_M_lies_16 d_M_lies_17 (by decide) (fun c17 => ?_) (fun c17 => ?_)
  · refine lv_iconst (v := 0) hx hb d_M_lies_78 (by decide) ?_
    exact rt_i hQ hx hb hr hlk hs (rfl) (by simp only [cor_0, cor_1, cor_2, cor_3] at c17; simp [inB, bI, c17, Int64.not_le.mpr c17]) d_M_lies_79
  · refine lv_aload_n hx hb d_M_lies_20 rfl (lv_at hl 1 rfl) ?_
    refine rw_get hx hb hts in_M hown hK.1 m0 rfl 15 (by decide) (hts _ fl_M_41) rfl d_M_lies_21 ?_
    refine lv_iload_n hx hb d_M_lies_24 rfl (lv_at hl 2 rfl) ?_
    refine rw_lald hx hb hK.1 1 m11 rfl t (rfl) (h_t) (by decide) d_M_lies_25 ?_
    refine lv_aload_n hx hb d_M_lies_26 rfl (lv_at hl 1 rfl) ?_
    refine rw_get hx hb hts in_M hown hK.1 m0 rfl 11 (by decide) (hts _ fl_M_32) rfl d_M_lies_27 ?_
    refine lv_iload_n hx hb d_M_lies_30 rfl (lv_at hl 0 rfl) ?_
    refine lv_iconst (v := 2) hx hb d_M_lies_31 (by decide) ?_
    refine lv_iadd hx hb d_M_lies_32 ?_
    refine rw_lald hx hb hK.1 1 m8 rfl (4 * a + 2) (nI_add (4 * a) 2) (by omega) (by decide) d_M_lies_33 ?_
    refine ll_gt (tgt := 78) hx hb d_M_lies_34 d_M_lies_35 (by decide) (fun c35 => ?_) (fun c35 => ?_)
    · refine lv_iconst (v := 0) hx hb d_M_lies_78 (by decide) ?_
      exact rt_i hQ hx hb hr hlk hs (rfl) (by simp only [cor_0, cor_1, cor_2, cor_3] at c17 c35; simp [inB, bI, c17, Int64.not_lt.mp c17, c35, Int64.not_le.mpr c35]) d_M_lies_79
    · refine lv_aload_n hx hb d_M_lies_38 rfl (lv_at hl 1 rfl) ?_
      refine rw_get hx hb hts in_M hown hK.1 m0 rfl 16 (by decide) (hts _ fl_M_44) rfl d_M_lies_39 ?_
      refine lv_iload_n hx hb d_M_lies_42 rfl (lv_at hl 2 rfl) ?_
      refine rw_lald hx hb hK.1 1 m12 rfl t (rfl) (h_t) (by decide) d_M_lies_43 ?_
      refine lv_aload_n hx hb d_M_lies_44 rfl (lv_at hl 1 rfl) ?_
      refine rw_get hx hb hts in_M hown hK.1 m0 rfl 11 (by decide) (hts _ fl_M_32) rfl d_M_lies_45 ?_
      refine lv_iload_n hx hb d_M_lies_48 rfl (lv_at hl 0 rfl) ?_
      refine lv_iconst (v := 1) hx hb d_M_lies_49 (by decide) ?_
      refine lv_iadd hx hb d_M_lies_50 ?_
      refine rw_lald hx hb hK.1 1 m8 rfl (4 * a + 1) (nI_add (4 * a) 1) (by omega) (by decide) d_M_lies_51 ?_
      refine ll_lt (tgt := 78) hx hb d_M_lies_52 d_M_lies_53 (by decide) (fun c53 => ?_) (fun c53 => ?_)
      · refine lv_iconst (v := 0) hx hb d_M_lies_78 (by decide) ?_
        exact rt_i hQ hx hb hr hlk hs (rfl) (by simp only [cor_0, cor_1, cor_2, cor_3] at c17 c35 c53; simp [inB, bI, c17, Int64.not_lt.mp c17, c35, Int64.not_lt.mp c35, c53, Int64.not_le.mpr c53]) d_M_lies_79
      · refine lv_aload_n hx hb d_M_lies_56 rfl (lv_at hl 1 rfl) ?_
        refine rw_get hx hb hts in_M hown hK.1 m0 rfl 16 (by decide) (hts _ fl_M_44) rfl d_M_lies_57 ?_
        refine lv_iload_n hx hb d_M_lies_60 rfl (lv_at hl 2 rfl) ?_
        refine rw_lald hx hb hK.1 1 m12 rfl t (rfl) (h_t) (by decide) d_M_lies_61 ?_
        refine lv_aload_n hx hb d_M_lies_62 rfl (lv_at hl 1 rfl) ?_
        refine rw_get hx hb hts in_M hown hK.1 m0 rfl 11 (by decide) (hts _ fl_M_32) rfl d_M_lies_63 ?_
        refine lv_iload_n hx hb d_M_lies_66 rfl (lv_at hl 0 rfl) ?_
        refine lv_iconst (v := 3) hx hb d_M_lies_67 (by decide) ?_
        refine lv_iadd hx hb d_M_lies_68 ?_
        refine rw_lald hx hb hK.1 1 m8 rfl (4 * a + 3) (nI_add (4 * a) 3) (by omega) (by decide) d_M_lies_69 ?_
        refine ll_gt (tgt := 78) hx hb d_M_lies_70 d_M_lies_71 (by decide) (fun c71 => ?_) (fun c71 => ?_)
        · refine lv_iconst (v := 0) hx hb d_M_lies_78 (by decide) ?_
          exact rt_i hQ hx hb hr hlk hs (rfl) (by simp only [cor_0, cor_1, cor_2, cor_3] at c17 c35 c53 c71; simp [inB, bI, c17, Int64.not_lt.mp c17, c35, Int64.not_lt.mp c35, c53, Int64.not_lt.mp c53, c71, Int64.not_le.mpr c71]) d_M_lies_79
        · refine lv_iconst (v := 1) hx hb d_M_lies_74 (by decide) ?_
          refine lv_goto (tgt := 79) hx hb d_M_lies_75 (by decide) ?_
          exact rt_i hQ hx hb hr hlk hs (rfl) (by simp only [cor_0, cor_1, cor_2, cor_3] at c17 c35 c53 c71; simp [inB, bI, c17, Int64.not_lt.mp c17, c35, Int64.not_lt.mp c35, c53, Int64.not_lt.mp c53, c71, Int64.not_lt.mp c71]) d_M_lies_79
def rm_M_areasOf : Room := { frames := 1, cells := 0, slots := 0, locals := 23 }
set_option maxRecDepth 100000 in
set_option maxHeartbeats 4000000 in
theorem c_M_areasOf {l : Launch} {ev : EV} {H0 : Heap} {d : Nat} {th : Int32} {u : XS} {kp : KT} {v : PT} (hm : MW ev d th u kp v H0) {t : Nat} {p_t : Int32} (e_t : p_t = nI t) (h_t : t < 40) : Met l my_M_areasOf mw_M_areasOf rm_M_areasOf (cP [.ref d, .int p_t] (KG ev) H0) (cQp (some (.int (arnF u.2.2.1 (u.2.2.2 t).2.2.1 (u.2.2.2 t).2.2.2 u.1.2.2.1)))) 0 0 cNo := by
  refine cHead [.ref d, .int p_t] (by decide) rfl (Nat.le_of_ble_eq_true rfl) ?_
  intro p e s m below meth c ls args QQ hQ S hr hlk hnm hs hK hl
  have S : CallFix p m c mb_M_areasOf 4 s args TB "RuleChoiceModel" := S
  obtain ⟨hx, hb, hml, hown, hts⟩ := id S
  subst e_t
  obtain ⟨m0, m1, m2, m3, m4, m5, m6, m7, m8, m9, m10, m11, m12, m13, m14, m15, hxb, hv7⟩ := id hm
  have hn12 : u.1.2.2.1 ≤ 12 := hxb.2.1
  have hl : lv_has ls 4 [(0, .ref d), (1, .int (nI t))] := hl
  refine lv_iconst (v := 0) hx hb d_M_areasOf_0 (by decide) ?_
  refine lv_istore_n (lv' := [(2, .int 0), (0, .ref d), (1, .int (nI t))]) hx hb d_M_areasOf_1 rfl hl (by decide) rfl (fun ls hl => ?_)
  refine lv_iconst (v := 0) hx hb d_M_areasOf_2 (by decide) ?_
  refine lv_istore_n (lv' := [(3, .int 0), (2, .int 0), (0, .ref d), (1, .int (nI t))]) hx hb d_M_areasOf_3 rfl hl (by decide) rfl (fun ls hl => ?_)
  have LP : ∀ (n i : Nat) (bs : Int32) (ls : Array Slot), bs = arnF u.2.2.1 (u.2.2.2 t).2.2.1 (u.2.2.2 t).2.2.2 i → i ≤ u.1.2.2.1 → u.1.2.2.1 - i < n → lv_has ls 4 [(0, .ref d), (1, .int (nI t)), (2, .int bs), (3, .int (nI i))] → W p l e rm_M_areasOf s m args below meth c H0 [] 0 0 QQ (F0 m 4 ls []) := by
    intro n
    induction n with
    | zero => intro i bs ls h1 h2 h3; exact absurd h3 (by omega)
    | succ n ih =>
      intro i bs ls ebs hle hn hl
      refine lv_iload_n hx hb d_M_areasOf_4 rfl (lv_at hl 3 rfl) ?_
      refine lv_aload_n hx hb d_M_areasOf_5 rfl (lv_at hl 0 rfl) ?_
      refine rw_get hx hb hts in_M hown hK.1 m0 rfl 10 (by decide) (hts _ fl_M_95) rfl d_M_areasOf_6 ?_
      refine lv_icmp_ge (tgt := 37) hx hb d_M_areasOf_9 (by decide) (fun c9 => ?_) (fun c9 => ?_)
      · refine lv_iload_n hx hb d_M_areasOf_37 rfl (lv_at hl 2 rfl) ?_
        exact rt_i hQ hx hb hr hlk hs (rfl) (by rw [ebs]; congr 1; exact Nat.le_antisymm hle (Nat.not_lt.mp (fun h => absurd c9 (nI_ge h (by omega))))) d_M_areasOf_38
      · have hlt : i < u.1.2.2.1 := Nat.not_le.mp (fun h => c9 (nI_le h (by omega)))
        have h12 : i < 12 := by omega
        refine lv_iload_n hx hb d_M_areasOf_12 rfl (lv_at hl 2 rfl) ?_
        refine lv_aload_n hx hb d_M_areasOf_13 rfl (lv_at hl 0 rfl) ?_
        refine lv_iload_n hx hb d_M_areasOf_14 rfl (lv_at hl 1 rfl) ?_
        refine lv_iload_n hx hb d_M_areasOf_15 rfl (lv_at hl 3 rfl) ?_
        refine cl_i (W.runV (As := [.int (nI t), .int (nI i)]) (rest := [.int bs]) S (c_M_lies hm (rfl) (rfl) (h_t) (h12)) (cwV 2 hts gv_M_104 rfl rfl rfl (by decide +kernel) ⟨Nat.le_of_ble_eq_true rfl, Nat.le_of_ble_eq_true rfl⟩) (cP_V (KG_ok _) hK hK.1 m0 rfl) rfl rfl hl.1 rfl (lv_room (Nat.le_of_ble_eq_true rfl)) d_M_areasOf_16 ⟨Nat.le_of_ble_eq_true rfl, Nat.le_of_ble_eq_true rfl⟩) ?_
        refine lv_if_eq (tgt := 28) hx hb d_M_areasOf_19 (by decide) (fun c19 => ?_) (fun c19 => ?_)
        · refine lv_iconst (v := 0) hx hb d_M_areasOf_28 (by decide) ?_
          refine lv_ior hx hb d_M_areasOf_29 ?_
          refine lv_istore_n (lv' := [(2, .int (bs ||| 0)), (0, .ref d), (1, .int (nI t)), (3, .int (nI i))]) hx hb d_M_areasOf_30 rfl hl (by decide) rfl (fun ls hl => ?_)
          refine lv_iinc (v := (nI (i + 1))) (lv' := [(3, .int (nI (i + 1))), (2, .int (bs ||| 0)), (0, .ref d), (1, .int (nI t))]) hx hb d_M_areasOf_31 hl (k := 3) rfl ((nI_1 i)) (by decide) rfl (fun ls hl => ?_)
          refine lv_goto (tgt := 4) hx hb d_M_areasOf_34 (by decide) ?_
          exact ih (i + 1) _ ls (by rw [arnF_n ((bI_eq _).mp c19), ebs]; exact Int32.or_zero) (by omega) (by omega) (lv_sub hl [2, 3, 1, 0] rfl)
        · refine lv_iconst (v := 1) hx hb d_M_areasOf_22 (by decide) ?_
          refine lv_iload_n hx hb d_M_areasOf_23 rfl (lv_at hl 3 rfl) ?_
          refine lv_ishl hx hb d_M_areasOf_24 ?_
          refine lv_goto (tgt := 29) hx hb d_M_areasOf_25 (by decide) ?_
          refine lv_ior hx hb d_M_areasOf_29 ?_
          refine lv_istore_n (lv' := [(2, .int (bs ||| (1 <<< ((nI i) &&& 31)))), (0, .ref d), (1, .int (nI t)), (3, .int (nI i))]) hx hb d_M_areasOf_30 rfl hl (by decide) rfl (fun ls hl => ?_)
          refine lv_iinc (v := (nI (i + 1))) (lv' := [(3, .int (nI (i + 1))), (2, .int (bs ||| (1 <<< ((nI i) &&& 31)))), (0, .ref d), (1, .int (nI t))]) hx hb d_M_areasOf_31 hl (k := 3) rfl ((nI_1 i)) (by decide) rfl (fun ls hl => ?_)
          refine lv_goto (tgt := 4) hx hb d_M_areasOf_34 (by decide) ?_
          exact ih (i + 1) _ ls (by rw [arnF_y ((bI_ne _).mp c19), ebs]) (by omega) (by omega) (lv_sub hl [2, 3, 1, 0] rfl)
  exact LP _ 0 0 ls rfl (Nat.zero_le _) (Nat.lt_succ_self _) (lv_sub hl [2, 3, 1, 0] rfl)
def rm_M_haveClasses : Room := { frames := 1, cells := 0, slots := 0, locals := 21 }
set_option maxRecDepth 100000 in
set_option maxHeartbeats 4000000 in
theorem c_M_haveClasses {l : Launch} {ev : EV} {H0 : Heap} {d : Nat} {th : Int32} {u : XS} {kp : KT} {v : PT} (hm : MW ev d th u kp v H0) {i j k : Nat} {p_i p_j p_k : Int32} (e_i : p_i = nI i) (e_j : p_j = nI j) (e_k : p_k = nI k) (h_i : i < 40) (h_j : j < 40) (h_k : k < 40) : Met l my_M_haveClasses mw_M_haveClasses rm_M_haveClasses (cP [.ref d, .int p_i, .int p_j, .int p_k] (KG ev) H0) (cQp (some (.int (bI (btwB (u.2.1 i) (u.2.2.2 j).1 (u.2.2.2 k).1))))) 0 0 cNo := by
  refine cHead [.ref d, .int p_i, .int p_j, .int p_k] (by decide) rfl (Nat.le_of_ble_eq_true rfl) ?_
  intro p e s m below meth c ls args QQ hQ S hr hlk hnm hs hK hl
  have S : CallFix p m c mb_M_haveClasses 6 s args TB "RuleChoiceModel" := S
  obtain ⟨hx, hb, hml, hown, hts⟩ := id S
  subst e_i; subst e_j; subst e_k
  obtain ⟨m0, m1, m2, m3, m4, m5, m6, m7, m8, m9, m10, m11, m12, m13, m14, m15, hxb, hv7⟩ := id hm
  have hl : lv_has ls 6 [(0, .ref d), (1, .int (nI i)), (2, .int (nI j)), (3, .int (nI k))] := hl
  refine lv_aload_n hx hb d_M_haveClasses_0 rfl (lv_at hl 0 rfl) ?_
  refine rw_get hx hb hts in_M hown hK.1 m0 rfl 13 (by decide) (hts _ fl_M_35) rfl d_M_haveClasses_1 ?_
  refine lv_iload_n hx hb d_M_haveClasses_4 rfl (lv_at hl 2 rfl) ?_
  refine rw_iald hx hb hK.1 0 m9 rfl j (rfl) (h_j) (by decide) d_M_haveClasses_5 ?_
  refine lv_istore (lv' := [(4, .int ((u.2.2.2 j).1)), (0, .ref d), (1, .int (nI i)), (2, .int (nI j)), (3, .int (nI k))]) hx hb d_M_haveClasses_6 hl (by decide) rfl (fun ls hl => ?_)
  refine lv_aload_n hx hb d_M_haveClasses_8 rfl (lv_at hl 1 rfl) ?_
  refine rw_get hx hb hts in_M hown hK.1 m0 rfl 13 (by decide) (hts _ fl_M_35) rfl d_M_haveClasses_9 ?_
  refine lv_iload_n hx hb d_M_haveClasses_12 rfl (lv_at hl 4 rfl) ?_
  refine rw_iald hx hb hK.1 0 m9 rfl k (rfl) (h_k) (by decide) d_M_haveClasses_13 ?_
  refine lv_istore (lv' := [(5, .int ((u.2.2.2 k).1)), (4, .int ((u.2.2.2 j).1)), (0, .ref d), (1, .int (nI i)), (2, .int (nI j)), (3, .int (nI k))]) hx hb d_M_haveClasses_14 hl (by decide) rfl (fun ls hl => ?_)
  refine lv_aload_n hx hb d_M_haveClasses_16 rfl (lv_at hl 2 rfl) ?_
  refine rw_get hx hb hts in_M hown hK.1 m0 rfl 4 (by decide) (hts _ fl_M_13) rfl d_M_haveClasses_17 ?_
  refine lv_iload_n hx hb d_M_haveClasses_20 rfl (lv_at hl 3 rfl) ?_
  refine rw_iald hx hb hK.1 0 m2 rfl i (rfl) (h_i) (by decide) d_M_haveClasses_21 ?_
  refine lv_iload hx hb d_M_haveClasses_22 (lv_at hl 1 rfl) ?_
  refine cl_i (W.runS (As := [.int ((u.2.1 i).2.1), .int ((u.2.2.2 j).1)]) (rest := []) S (c_M_isOf ((u.2.1 i).2.1) ((u.2.2.2 j).1)) (va_cwS 2 hts gs_M_112 rfl rfl rfl (by decide +kernel) ⟨Nat.le_of_ble_eq_true rfl, Nat.le_of_ble_eq_true rfl⟩) (cP_S (KG_ok _) hK) rfl rfl hl.1 rfl (lv_room (Nat.le_of_ble_eq_true rfl)) d_M_haveClasses_24 ⟨Nat.le_of_ble_eq_true rfl, Nat.le_of_ble_eq_true rfl⟩) ?_
  refine lv_if_eq (tgt := 44) hx hb d_M_haveClasses_27 (by decide) (fun c27 => ?_) (fun c27 => ?_)
  · refine lv_aload_n hx hb d_M_haveClasses_44 rfl (lv_at hl 2 rfl) ?_
    refine rw_get hx hb hts in_M hown hK.1 m0 rfl 4 (by decide) (hts _ fl_M_13) rfl d_M_haveClasses_45 ?_
    refine lv_iload_n hx hb d_M_haveClasses_48 rfl (lv_at hl 3 rfl) ?_
    refine rw_iald hx hb hK.1 0 m2 rfl i (rfl) (h_i) (by decide) d_M_haveClasses_49 ?_
    refine lv_iload hx hb d_M_haveClasses_50 (lv_at hl 0 rfl) ?_
    refine cl_i (W.runS (As := [.int ((u.2.1 i).2.1), .int ((u.2.2.2 k).1)]) (rest := []) S (c_M_isOf ((u.2.1 i).2.1) ((u.2.2.2 k).1)) (va_cwS 2 hts gs_M_112 rfl rfl rfl (by decide +kernel) ⟨Nat.le_of_ble_eq_true rfl, Nat.le_of_ble_eq_true rfl⟩) (cP_S (KG_ok _) hK) rfl rfl hl.1 rfl (lv_room (Nat.le_of_ble_eq_true rfl)) d_M_haveClasses_52 ⟨Nat.le_of_ble_eq_true rfl, Nat.le_of_ble_eq_true rfl⟩) ?_
    refine lv_if_eq (tgt := 76) hx hb d_M_haveClasses_55 (by decide) (fun c55 => ?_) (fun c55 => ?_)
    · refine lv_iconst (v := 0) hx hb d_M_haveClasses_76 (by decide) ?_
      exact rt_i hQ hx hb hr hlk hs (rfl) (by simp only [bI_eq, bI_ne] at c27 c55; simp [btwB, bI, c27, c55]) d_M_haveClasses_77
    · refine lv_aload_n hx hb d_M_haveClasses_58 rfl (lv_at hl 2 rfl) ?_
      refine rw_get hx hb hts in_M hown hK.1 m0 rfl 5 (by decide) (hts _ fl_M_16) rfl d_M_haveClasses_59 ?_
      refine lv_iload_n hx hb d_M_haveClasses_62 rfl (lv_at hl 3 rfl) ?_
      refine rw_iald hx hb hK.1 0 m3 rfl i (rfl) (h_i) (by decide) d_M_haveClasses_63 ?_
      refine lv_iload hx hb d_M_haveClasses_64 (lv_at hl 1 rfl) ?_
      refine cl_i (W.runS (As := [.int ((u.2.1 i).2.2.1), .int ((u.2.2.2 j).1)]) (rest := []) S (c_M_isOf ((u.2.1 i).2.2.1) ((u.2.2.2 j).1)) (va_cwS 2 hts gs_M_112 rfl rfl rfl (by decide +kernel) ⟨Nat.le_of_ble_eq_true rfl, Nat.le_of_ble_eq_true rfl⟩) (cP_S (KG_ok _) hK) rfl rfl hl.1 rfl (lv_room (Nat.le_of_ble_eq_true rfl)) d_M_haveClasses_66 ⟨Nat.le_of_ble_eq_true rfl, Nat.le_of_ble_eq_true rfl⟩) ?_
      refine lv_if_eq (tgt := 76) hx hb d_M_haveClasses_69 (by decide) (fun c69 => ?_) (fun c69 => ?_)
      · refine lv_iconst (v := 0) hx hb d_M_haveClasses_76 (by decide) ?_
        exact rt_i hQ hx hb hr hlk hs (rfl) (by simp only [bI_eq, bI_ne] at c27 c55 c69; simp [btwB, bI, c27, c55, c69]) d_M_haveClasses_77
      · refine lv_iconst (v := 1) hx hb d_M_haveClasses_72 (by decide) ?_
        refine lv_goto (tgt := 77) hx hb d_M_haveClasses_73 (by decide) ?_
        exact rt_i hQ hx hb hr hlk hs (rfl) (by simp only [bI_eq, bI_ne] at c27 c55 c69; simp [btwB, bI, c27, c55, c69]) d_M_haveClasses_77
  · refine lv_aload_n hx hb d_M_haveClasses_30 rfl (lv_at hl 2 rfl) ?_
    refine rw_get hx hb hts in_M hown hK.1 m0 rfl 5 (by decide) (hts _ fl_M_16) rfl d_M_haveClasses_31 ?_
    refine lv_iload_n hx hb d_M_haveClasses_34 rfl (lv_at hl 3 rfl) ?_
    refine rw_iald hx hb hK.1 0 m3 rfl i (rfl) (h_i) (by decide) d_M_haveClasses_35 ?_
    refine lv_iload hx hb d_M_haveClasses_36 (lv_at hl 0 rfl) ?_
    refine cl_i (W.runS (As := [.int ((u.2.1 i).2.2.1), .int ((u.2.2.2 k).1)]) (rest := []) S (c_M_isOf ((u.2.1 i).2.2.1) ((u.2.2.2 k).1)) (va_cwS 2 hts gs_M_112 rfl rfl rfl (by decide +kernel) ⟨Nat.le_of_ble_eq_true rfl, Nat.le_of_ble_eq_true rfl⟩) (cP_S (KG_ok _) hK) rfl rfl hl.1 rfl (lv_room (Nat.le_of_ble_eq_true rfl)) d_M_haveClasses_38 ⟨Nat.le_of_ble_eq_true rfl, Nat.le_of_ble_eq_true rfl⟩) ?_
    refine lv_if_ne (tgt := 72) hx hb d_M_haveClasses_41 (by decide) (fun c41 => ?_) (fun c41 => ?_)
    · refine lv_iconst (v := 1) hx hb d_M_haveClasses_72 (by decide) ?_
      refine lv_goto (tgt := 77) hx hb d_M_haveClasses_73 (by decide) ?_
      exact rt_i hQ hx hb hr hlk hs (rfl) (by simp only [bI_eq, bI_ne] at c27 c41; simp [btwB, bI, c27, c41]) d_M_haveClasses_77
    · refine lv_aload_n hx hb d_M_haveClasses_44 rfl (lv_at hl 2 rfl) ?_
      refine rw_get hx hb hts in_M hown hK.1 m0 rfl 4 (by decide) (hts _ fl_M_13) rfl d_M_haveClasses_45 ?_
      refine lv_iload_n hx hb d_M_haveClasses_48 rfl (lv_at hl 3 rfl) ?_
      refine rw_iald hx hb hK.1 0 m2 rfl i (rfl) (h_i) (by decide) d_M_haveClasses_49 ?_
      refine lv_iload hx hb d_M_haveClasses_50 (lv_at hl 0 rfl) ?_
      refine cl_i (W.runS (As := [.int ((u.2.1 i).2.1), .int ((u.2.2.2 k).1)]) (rest := []) S (c_M_isOf ((u.2.1 i).2.1) ((u.2.2.2 k).1)) (va_cwS 2 hts gs_M_112 rfl rfl rfl (by decide +kernel) ⟨Nat.le_of_ble_eq_true rfl, Nat.le_of_ble_eq_true rfl⟩) (cP_S (KG_ok _) hK) rfl rfl hl.1 rfl (lv_room (Nat.le_of_ble_eq_true rfl)) d_M_haveClasses_52 ⟨Nat.le_of_ble_eq_true rfl, Nat.le_of_ble_eq_true rfl⟩) ?_
      refine lv_if_eq (tgt := 76) hx hb d_M_haveClasses_55 (by decide) (fun c55 => ?_) (fun c55 => ?_)
      · refine lv_iconst (v := 0) hx hb d_M_haveClasses_76 (by decide) ?_
        exact rt_i hQ hx hb hr hlk hs (rfl) (by simp only [bI_eq, bI_ne] at c27 c41 c55; simp [btwB, bI, c27, c41, c55]) d_M_haveClasses_77
      · refine lv_aload_n hx hb d_M_haveClasses_58 rfl (lv_at hl 2 rfl) ?_
        refine rw_get hx hb hts in_M hown hK.1 m0 rfl 5 (by decide) (hts _ fl_M_16) rfl d_M_haveClasses_59 ?_
        refine lv_iload_n hx hb d_M_haveClasses_62 rfl (lv_at hl 3 rfl) ?_
        refine rw_iald hx hb hK.1 0 m3 rfl i (rfl) (h_i) (by decide) d_M_haveClasses_63 ?_
        refine lv_iload hx hb d_M_haveClasses_64 (lv_at hl 1 rfl) ?_
        refine cl_i (W.runS (As := [.int ((u.2.1 i).2.2.1), .int ((u.2.2.2 j).1)]) (rest := []) S (c_M_isOf ((u.2.1 i).2.2.1) ((u.2.2.2 j).1)) (va_cwS 2 hts gs_M_112 rfl rfl rfl (by decide +kernel) ⟨Nat.le_of_ble_eq_true rfl, Nat.le_of_ble_eq_true rfl⟩) (cP_S (KG_ok _) hK) rfl rfl hl.1 rfl (lv_room (Nat.le_of_ble_eq_true rfl)) d_M_haveClasses_66 ⟨Nat.le_of_ble_eq_true rfl, Nat.le_of_ble_eq_true rfl⟩) ?_
        refine lv_if_eq (tgt := 76) hx hb d_M_haveClasses_69 (by decide) (fun c69 => ?_) (fun c69 => ?_)
        · refine lv_iconst (v := 0) hx hb d_M_haveClasses_76 (by decide) ?_
          exact rt_i hQ hx hb hr hlk hs (rfl) (by simp only [bI_eq, bI_ne] at c27 c41 c55 c69; simp [btwB, bI, c27, c41, c55, c69]) d_M_haveClasses_77
        · refine lv_iconst (v := 1) hx hb d_M_haveClasses_72 (by decide) ?_
          refine lv_goto (tgt := 77) hx hb d_M_haveClasses_73 (by decide) ?_
          exact rt_i hQ hx hb hr hlk hs (rfl) (by simp only [bI_eq, bI_ne] at c27 c41 c55 c69; simp [btwB, bI, c27, c41, c55, c69]) d_M_haveClasses_77
def rm_M_haveLayer : Room := { frames := 1, cells := 0, slots := 0, locals := 21 }
set_option maxRecDepth 100000 in
set_option maxHeartbeats 4000000 in
theorem c_M_haveLayer {l : Launch} {ev : EV} {H0 : Heap} {d : Nat} {th : Int32} {u : XS} {kp : KT} {v : PT} (hm : MW ev d th u kp v H0) {i j k : Nat} {p_i p_j p_k : Int32} (e_i : p_i = nI i) (e_j : p_j = nI j) (e_k : p_k = nI k) (h_i : i < 40) (h_j : j < 40) (h_k : k < 40) : Met l my_M_haveLayer mw_M_haveLayer rm_M_haveLayer (cP [.ref d, .int p_i, .int p_j, .int p_k] (KG ev) H0) (cQp (some (.int (bI (layB (u.2.1 i) (u.2.2.2 j).2.1 && layB (u.2.1 i) (u.2.2.2 k).2.1))))) 0 0 cNo := by
  refine cHead [.ref d, .int p_i, .int p_j, .int p_k] (by decide) rfl (Nat.le_of_ble_eq_true rfl) ?_
  intro p e s m below meth c ls args QQ hQ S hr hlk hnm hs hK hl
  have S : CallFix p m c mb_M_haveLayer 4 s args TB "RuleChoiceModel" := S
  obtain ⟨hx, hb, hml, hown, hts⟩ := id S
  subst e_i; subst e_j; subst e_k
  obtain ⟨m0, m1, m2, m3, m4, m5, m6, m7, m8, m9, m10, m11, m12, m13, m14, m15, hxb, hv7⟩ := id hm
  have hl : lv_has ls 4 [(0, .ref d), (1, .int (nI i)), (2, .int (nI j)), (3, .int (nI k))] := hl
  refine lv_aload_n hx hb d_M_haveLayer_0 rfl (lv_at hl 0 rfl) ?_
  refine rw_get hx hb hts in_M hown hK.1 m0 rfl 6 (by decide) (hts _ fl_M_19) rfl d_M_haveLayer_1 ?_
  refine lv_iload_n hx hb d_M_haveLayer_4 rfl (lv_at hl 1 rfl) ?_
  refine rw_iald hx hb hK.1 0 m4 rfl i (rfl) (h_i) (by decide) d_M_haveLayer_5 ?_
  refine lv_aload_n hx hb d_M_haveLayer_6 rfl (lv_at hl 0 rfl) ?_
  refine rw_get hx hb hts in_M hown hK.1 m0 rfl 14 (by decide) (hts _ fl_M_38) rfl d_M_haveLayer_7 ?_
  refine lv_iload_n hx hb d_M_haveLayer_10 rfl (lv_at hl 2 rfl) ?_
  refine rw_iald hx hb hK.1 0 m10 rfl j (rfl) (h_j) (by decide) d_M_haveLayer_11 ?_
  refine cl_i (W.runS (As := [.int ((u.2.1 i).2.2.2.1), .int ((u.2.2.2 j).2.1)]) (rest := []) S (c_M_isOf ((u.2.1 i).2.2.2.1) ((u.2.2.2 j).2.1)) (va_cwS 2 hts gs_M_112 rfl rfl rfl (by decide +kernel) ⟨Nat.le_of_ble_eq_true rfl, Nat.le_of_ble_eq_true rfl⟩) (cP_S (KG_ok _) hK) rfl rfl hl.1 rfl (lv_room (Nat.le_of_ble_eq_true rfl)) d_M_haveLayer_12 ⟨Nat.le_of_ble_eq_true rfl, Nat.le_of_ble_eq_true rfl⟩) ?_
  refine lv_if_eq (tgt := 40) hx hb d_M_haveLayer_15 (by decide) (fun c15 => ?_) (fun c15 => ?_)
  · refine lv_iconst (v := 0) hx hb d_M_haveLayer_40 (by decide) ?_
    exact rt_i hQ hx hb hr hlk hs (rfl) (by simp only [bI_eq, bI_ne] at c15; simp [layB, bI, c15]) d_M_haveLayer_41
  · refine lv_aload_n hx hb d_M_haveLayer_18 rfl (lv_at hl 0 rfl) ?_
    refine rw_get hx hb hts in_M hown hK.1 m0 rfl 6 (by decide) (hts _ fl_M_19) rfl d_M_haveLayer_19 ?_
    refine lv_iload_n hx hb d_M_haveLayer_22 rfl (lv_at hl 1 rfl) ?_
    refine rw_iald hx hb hK.1 0 m4 rfl i (rfl) (h_i) (by decide) d_M_haveLayer_23 ?_
    refine lv_aload_n hx hb d_M_haveLayer_24 rfl (lv_at hl 0 rfl) ?_
    refine rw_get hx hb hts in_M hown hK.1 m0 rfl 14 (by decide) (hts _ fl_M_38) rfl d_M_haveLayer_25 ?_
    refine lv_iload_n hx hb d_M_haveLayer_28 rfl (lv_at hl 3 rfl) ?_
    refine rw_iald hx hb hK.1 0 m10 rfl k (rfl) (h_k) (by decide) d_M_haveLayer_29 ?_
    refine cl_i (W.runS (As := [.int ((u.2.1 i).2.2.2.1), .int ((u.2.2.2 k).2.1)]) (rest := []) S (c_M_isOf ((u.2.1 i).2.2.2.1) ((u.2.2.2 k).2.1)) (va_cwS 2 hts gs_M_112 rfl rfl rfl (by decide +kernel) ⟨Nat.le_of_ble_eq_true rfl, Nat.le_of_ble_eq_true rfl⟩) (cP_S (KG_ok _) hK) rfl rfl hl.1 rfl (lv_room (Nat.le_of_ble_eq_true rfl)) d_M_haveLayer_30 ⟨Nat.le_of_ble_eq_true rfl, Nat.le_of_ble_eq_true rfl⟩) ?_
    refine lv_if_eq (tgt := 40) hx hb d_M_haveLayer_33 (by decide) (fun c33 => ?_) (fun c33 => ?_)
    · refine lv_iconst (v := 0) hx hb d_M_haveLayer_40 (by decide) ?_
      exact rt_i hQ hx hb hr hlk hs (rfl) (by simp only [bI_eq, bI_ne] at c15 c33; simp [layB, bI, c15, c33]) d_M_haveLayer_41
    · refine lv_iconst (v := 1) hx hb d_M_haveLayer_36 (by decide) ?_
      refine lv_goto (tgt := 41) hx hb d_M_haveLayer_37 (by decide) ?_
      exact rt_i hQ hx hb hr hlk hs (rfl) (by simp only [bI_eq, bI_ne] at c15 c33; simp [layB, bI, c15, c33]) d_M_haveLayer_41
def rm_M_lieWithin : Room := { frames := 1, cells := 0, slots := 0, locals := 23 }
set_option maxRecDepth 100000 in
set_option maxHeartbeats 4000000 in
theorem c_M_lieWithin {l : Launch} {ev : EV} {H0 : Heap} {d : Nat} {th : Int32} {u : XS} {kp : KT} {v : PT} (hm : MW ev d th u kp v H0) {i j k : Nat} {p_i p_j p_k : Int32} (e_i : p_i = nI i) (e_j : p_j = nI j) (e_k : p_k = nI k) (h_i : i < 40) (h_j : j < 40) (h_k : k < 40) : Met l my_M_lieWithin mw_M_lieWithin rm_M_lieWithin (cP [.ref d, .int p_i, .int p_j, .int p_k] (KG ev) H0) (cQp (some (.int (bI (arB u.2.2.1 (u.2.1 i).2.2.2.2.2.2 (u.2.2.2 j) (u.2.2.2 k)))))) 0 0 cNo := by
  refine cHead [.ref d, .int p_i, .int p_j, .int p_k] (by decide) rfl (Nat.le_of_ble_eq_true rfl) ?_
  intro p e s m below meth c ls args QQ hQ S hr hlk hnm hs hK hl
  have S : CallFix p m c mb_M_lieWithin 4 s args TB "RuleChoiceModel" := S
  obtain ⟨hx, hb, hml, hown, hts⟩ := id S
  subst e_i; subst e_j; subst e_k
  obtain ⟨m0, m1, m2, m3, m4, m5, m6, m7, m8, m9, m10, m11, m12, m13, m14, m15, hxb, hv7⟩ := id hm
  have hl : lv_has ls 4 [(0, .ref d), (1, .int (nI i)), (2, .int (nI j)), (3, .int (nI k))] := hl
  refine lv_aload_n hx hb d_M_lieWithin_0 rfl (lv_at hl 0 rfl) ?_
  refine rw_get hx hb hts in_M hown hK.1 m0 rfl 9 (by decide) (hts _ fl_M_29) rfl d_M_lieWithin_1 ?_
  refine lv_iload_n hx hb d_M_lieWithin_4 rfl (lv_at hl 1 rfl) ?_
  refine rw_iald hx hb hK.1 0 m7 rfl i (rfl) (h_i) (by decide) d_M_lieWithin_5 ?_
  refine lv_if_eq (tgt := 41) hx hb d_M_lieWithin_6 (by decide) (fun c6 => ?_) (fun c6 => ?_)
  · refine lv_iconst (v := 1) hx hb d_M_lieWithin_41 (by decide) ?_
    refine lv_goto (tgt := 46) hx hb d_M_lieWithin_42 (by decide) ?_
    exact rt_i hQ hx hb hr hlk hs (rfl) (by have g6 := oW_0 (fun a h => xB_12 hxb h_i h) c6; rw [g6]; rfl) d_M_lieWithin_46
  · obtain ⟨a9, ha9⟩ := oW_1 c6
    have hb9 : a9 < 12 := xB_12 hxb h_i ha9
    have e9 : oW (u.2.1 i).2.2.2.2.2.2 - 1 = nI a9 := by rw [ha9]; exact nI_pred a9
    refine lv_aload_n hx hb d_M_lieWithin_9 rfl (lv_at hl 0 rfl) ?_
    refine lv_iload_n hx hb d_M_lieWithin_10 rfl (lv_at hl 2 rfl) ?_
    refine lv_aload_n hx hb d_M_lieWithin_11 rfl (lv_at hl 0 rfl) ?_
    refine rw_get hx hb hts in_M hown hK.1 m0 rfl 9 (by decide) (hts _ fl_M_29) rfl d_M_lieWithin_12 ?_
    refine lv_iload_n hx hb d_M_lieWithin_15 rfl (lv_at hl 1 rfl) ?_
    refine rw_iald hx hb hK.1 0 m7 rfl i (rfl) (h_i) (by decide) d_M_lieWithin_16 ?_
    refine lv_iconst (v := 1) hx hb d_M_lieWithin_17 (by decide) ?_
    refine lv_isub hx hb d_M_lieWithin_18 ?_
    refine cl_i (W.runV (As := [.int (nI j), .int ((oW (u.2.1 i).2.2.2.2.2.2) - 1)]) (rest := []) S (c_M_lies hm (rfl) (e9) (h_j) (hb9)) (cwV 2 hts gv_M_104 rfl rfl rfl (by decide +kernel) ⟨Nat.le_of_ble_eq_true rfl, Nat.le_of_ble_eq_true rfl⟩) (cP_V (KG_ok _) hK hK.1 m0 rfl) rfl rfl hl.1 rfl (lv_room (Nat.le_of_ble_eq_true rfl)) d_M_lieWithin_19 ⟨Nat.le_of_ble_eq_true rfl, Nat.le_of_ble_eq_true rfl⟩) ?_
    refine lv_if_eq (tgt := 45) hx hb d_M_lieWithin_22 (by decide) (fun c22 => ?_) (fun c22 => ?_)
    · refine lv_iconst (v := 0) hx hb d_M_lieWithin_45 (by decide) ?_
      exact rt_i hQ hx hb hr hlk hs (rfl) (by simp only [bI_eq, bI_ne] at c22; rw [ha9]; simp [arB, bI, c22]) d_M_lieWithin_46
    · refine lv_aload_n hx hb d_M_lieWithin_25 rfl (lv_at hl 0 rfl) ?_
      refine lv_iload_n hx hb d_M_lieWithin_26 rfl (lv_at hl 3 rfl) ?_
      refine lv_aload_n hx hb d_M_lieWithin_27 rfl (lv_at hl 0 rfl) ?_
      refine rw_get hx hb hts in_M hown hK.1 m0 rfl 9 (by decide) (hts _ fl_M_29) rfl d_M_lieWithin_28 ?_
      refine lv_iload_n hx hb d_M_lieWithin_31 rfl (lv_at hl 1 rfl) ?_
      refine rw_iald hx hb hK.1 0 m7 rfl i (rfl) (h_i) (by decide) d_M_lieWithin_32 ?_
      refine lv_iconst (v := 1) hx hb d_M_lieWithin_33 (by decide) ?_
      refine lv_isub hx hb d_M_lieWithin_34 ?_
      refine cl_i (W.runV (As := [.int (nI k), .int ((oW (u.2.1 i).2.2.2.2.2.2) - 1)]) (rest := []) S (c_M_lies hm (rfl) (e9) (h_k) (hb9)) (cwV 2 hts gv_M_104 rfl rfl rfl (by decide +kernel) ⟨Nat.le_of_ble_eq_true rfl, Nat.le_of_ble_eq_true rfl⟩) (cP_V (KG_ok _) hK hK.1 m0 rfl) rfl rfl hl.1 rfl (lv_room (Nat.le_of_ble_eq_true rfl)) d_M_lieWithin_35 ⟨Nat.le_of_ble_eq_true rfl, Nat.le_of_ble_eq_true rfl⟩) ?_
      refine lv_if_eq (tgt := 45) hx hb d_M_lieWithin_38 (by decide) (fun c38 => ?_) (fun c38 => ?_)
      · refine lv_iconst (v := 0) hx hb d_M_lieWithin_45 (by decide) ?_
        exact rt_i hQ hx hb hr hlk hs (rfl) (by simp only [bI_eq, bI_ne] at c22 c38; rw [ha9]; simp [arB, bI, c22, c38]) d_M_lieWithin_46
      · refine lv_iconst (v := 1) hx hb d_M_lieWithin_41 (by decide) ?_
        refine lv_goto (tgt := 46) hx hb d_M_lieWithin_42 (by decide) ?_
        exact rt_i hQ hx hb hr hlk hs (rfl) (by simp only [bI_eq, bI_ne] at c22 c38; rw [ha9]; simp [arB, bI, c22, c38]) d_M_lieWithin_46
def rm_M_matches : Room := { frames := 2, cells := 0, slots := 0, locals := 46 }
set_option maxRecDepth 100000 in
set_option maxHeartbeats 4000000 in
theorem c_M_matches {l : Launch} {ev : EV} {H0 : Heap} {d : Nat} {th : Int32} {u : XS} {kp : KT} {v : PT} (hm : MW ev d th u kp v H0) (kind : Int32) {i j k : Nat} {p_i p_j p_k : Int32} (e_i : p_i = nI i) (e_j : p_j = nI j) (e_k : p_k = nI k) (h_i : i < 40) (h_j : j < 40) (h_k : k < 40) : Met l my_M_matches mw_M_matches rm_M_matches (cP [.ref d, .int p_i, .int kind, .int p_j, .int p_k] (KG ev) H0) (cQp (some (.int (bI (matB u.2.2.1 (u.2.1 i) kind (u.2.2.2 j) (u.2.2.2 k)))))) 0 0 cNo := by
  refine cHead [.ref d, .int p_i, .int kind, .int p_j, .int p_k] (by decide) rfl (Nat.le_of_ble_eq_true rfl) ?_
  intro p e s m below meth c ls args QQ hQ S hr hlk hnm hs hK hl
  have S : CallFix p m c mb_M_matches 5 s args TB "RuleChoiceModel" := S
  obtain ⟨hx, hb, hml, hown, hts⟩ := id S
  subst e_i; subst e_j; subst e_k
  obtain ⟨m0, m1, m2, m3, m4, m5, m6, m7, m8, m9, m10, m11, m12, m13, m14, m15, hxb, hv7⟩ := id hm
  have hl : lv_has ls 5 [(0, .ref d), (1, .int (nI i)), (2, .int kind), (3, .int (nI j)), (4, .int (nI k))] := hl
  refine lv_aload_n hx hb d_M_matches_0 rfl (lv_at hl 0 rfl) ?_
  refine rw_get hx hb hts in_M hown hK.1 m0 rfl 3 (by decide) (hts _ fl_M_7) rfl d_M_matches_1 ?_
  refine lv_iload_n hx hb d_M_matches_4 rfl (lv_at hl 1 rfl) ?_
  refine rw_iald hx hb hK.1 0 m1 rfl i (rfl) (h_i) (by decide) d_M_matches_5 ?_
  refine lv_iload_n hx hb d_M_matches_6 rfl (lv_at hl 2 rfl) ?_
  refine lv_icmp_ne (tgt := 47) hx hb d_M_matches_7 (by decide) (fun c7 => ?_) (fun c7 => ?_)
  · refine lv_iconst (v := 0) hx hb d_M_matches_47 (by decide) ?_
    exact rt_i hQ hx hb hr hlk hs (rfl) (by (try simp only [bI_eq, bI_ne] at c7); simp [matB, bI, c7]) d_M_matches_48
  · refine lv_aload_n hx hb d_M_matches_10 rfl (lv_at hl 0 rfl) ?_
    refine lv_iload_n hx hb d_M_matches_11 rfl (lv_at hl 1 rfl) ?_
    refine lv_iload_n hx hb d_M_matches_12 rfl (lv_at hl 3 rfl) ?_
    refine lv_iload hx hb d_M_matches_13 (lv_at hl 4 rfl) ?_
    refine cl_i (W.runV (As := [.int (nI i), .int (nI j), .int (nI k)]) (rest := []) S (c_M_haveClasses hm (rfl) (rfl) (rfl) (h_i) (h_j) (h_k)) (cwV 3 hts gv_M_115 rfl rfl rfl (by decide +kernel) ⟨Nat.le_of_ble_eq_true rfl, Nat.le_of_ble_eq_true rfl⟩) (cP_V (KG_ok _) hK hK.1 m0 rfl) rfl rfl hl.1 rfl (lv_room (Nat.le_of_ble_eq_true rfl)) d_M_matches_15 ⟨Nat.le_of_ble_eq_true rfl, Nat.le_of_ble_eq_true rfl⟩) ?_
    refine lv_if_eq (tgt := 47) hx hb d_M_matches_18 (by decide) (fun c18 => ?_) (fun c18 => ?_)
    · refine lv_iconst (v := 0) hx hb d_M_matches_47 (by decide) ?_
      exact rt_i hQ hx hb hr hlk hs (rfl) (by (try simp only [bI_eq, bI_ne] at c7 c18); simp [matB, bI, c7, c18]) d_M_matches_48
    · refine lv_aload_n hx hb d_M_matches_21 rfl (lv_at hl 0 rfl) ?_
      refine lv_iload_n hx hb d_M_matches_22 rfl (lv_at hl 1 rfl) ?_
      refine lv_iload_n hx hb d_M_matches_23 rfl (lv_at hl 3 rfl) ?_
      refine lv_iload hx hb d_M_matches_24 (lv_at hl 4 rfl) ?_
      refine cl_i (W.runV (As := [.int (nI i), .int (nI j), .int (nI k)]) (rest := []) S (c_M_haveLayer hm (rfl) (rfl) (rfl) (h_i) (h_j) (h_k)) (cwV 3 hts gv_M_119 rfl rfl rfl (by decide +kernel) ⟨Nat.le_of_ble_eq_true rfl, Nat.le_of_ble_eq_true rfl⟩) (cP_V (KG_ok _) hK hK.1 m0 rfl) rfl rfl hl.1 rfl (lv_room (Nat.le_of_ble_eq_true rfl)) d_M_matches_26 ⟨Nat.le_of_ble_eq_true rfl, Nat.le_of_ble_eq_true rfl⟩) ?_
      refine lv_if_eq (tgt := 47) hx hb d_M_matches_29 (by decide) (fun c29 => ?_) (fun c29 => ?_)
      · refine lv_iconst (v := 0) hx hb d_M_matches_47 (by decide) ?_
        exact rt_i hQ hx hb hr hlk hs (rfl) (by (try simp only [bI_eq, bI_ne] at c7 c18 c29); simp [matB, bI, c7, c18, c29]) d_M_matches_48
      · refine lv_aload_n hx hb d_M_matches_32 rfl (lv_at hl 0 rfl) ?_
        refine lv_iload_n hx hb d_M_matches_33 rfl (lv_at hl 1 rfl) ?_
        refine lv_iload_n hx hb d_M_matches_34 rfl (lv_at hl 3 rfl) ?_
        refine lv_iload hx hb d_M_matches_35 (lv_at hl 4 rfl) ?_
        refine cl_i (W.runV (As := [.int (nI i), .int (nI j), .int (nI k)]) (rest := []) S (c_M_lieWithin hm (rfl) (rfl) (rfl) (h_i) (h_j) (h_k)) (cwV 3 hts gv_M_122 rfl rfl rfl (by decide +kernel) ⟨Nat.le_of_ble_eq_true rfl, Nat.le_of_ble_eq_true rfl⟩) (cP_V (KG_ok _) hK hK.1 m0 rfl) rfl rfl hl.1 rfl (lv_room (Nat.le_of_ble_eq_true rfl)) d_M_matches_37 ⟨Nat.le_of_ble_eq_true rfl, Nat.le_of_ble_eq_true rfl⟩) ?_
        refine lv_if_eq (tgt := 47) hx hb d_M_matches_40 (by decide) (fun c40 => ?_) (fun c40 => ?_)
        · refine lv_iconst (v := 0) hx hb d_M_matches_47 (by decide) ?_
          exact rt_i hQ hx hb hr hlk hs (rfl) (by (try simp only [bI_eq, bI_ne] at c7 c18 c29 c40); simp [matB, bI, c7, c18, c29, c40]) d_M_matches_48
        · refine lv_iconst (v := 1) hx hb d_M_matches_43 (by decide) ?_
          refine lv_goto (tgt := 48) hx hb d_M_matches_44 (by decide) ?_
          exact rt_i hQ hx hb hr hlk hs (rfl) (by (try simp only [bI_eq, bI_ne] at c7 c18 c29 c40); simp [matB, bI, c7, c18, c29, c40]) d_M_matches_48
def rm_M_isAhead : Room := { frames := 0, cells := 0, slots := 0, locals := 0 }
set_option maxRecDepth 100000 in
set_option maxHeartbeats 4000000 in
theorem c_M_isAhead {l : Launch} {ev : EV} {H0 : Heap} {d : Nat} {th : Int32} {u : XS} {kp : KT} {v : PT} (hm : MW ev d th u kp v H0) {i j : Nat} {p_i p_j : Int32} (e_i : p_i = nI i) (e_j : p_j = nI j) (h_i : i < 40) (h_j : j < 40) : Met l my_M_isAhead mw_M_isAhead rm_M_isAhead (cP [.ref d, .int p_i, .int p_j] (KG ev) H0) (cQp (some (.int (bI (ahB u.2.1 i j))))) 0 0 cNo := by
  refine cHead [.ref d, .int p_i, .int p_j] (by decide) rfl (Nat.le_of_ble_eq_true rfl) ?_
  intro p e s m below meth c ls args QQ hQ S hr hlk hnm hs hK hl
  have S : CallFix p m c mb_M_isAhead 3 s args TB "RuleChoiceModel" := S
  obtain ⟨hx, hb, hml, hown, hts⟩ := id S
  subst e_i; subst e_j
  obtain ⟨m0, m1, m2, m3, m4, m5, m6, m7, m8, m9, m10, m11, m12, m13, m14, m15, hxb, hv7⟩ := id hm
  have hl : lv_has ls 3 [(0, .ref d), (1, .int (nI i)), (2, .int (nI j))] := hl
  refine lv_aload_n hx hb d_M_isAhead_0 rfl (lv_at hl 0 rfl) ?_
  refine rw_get hx hb hts in_M hown hK.1 m0 rfl 8 (by decide) (hts _ fl_M_26) rfl d_M_isAhead_1 ?_
  refine lv_iload_n hx hb d_M_isAhead_4 rfl (lv_at hl 1 rfl) ?_
  refine rw_iald hx hb hK.1 0 m6 rfl i (rfl) (h_i) (by decide) d_M_isAhead_5 ?_
  refine lv_aload_n hx hb d_M_isAhead_6 rfl (lv_at hl 0 rfl) ?_
  refine rw_get hx hb hts in_M hown hK.1 m0 rfl 8 (by decide) (hts _ fl_M_26) rfl d_M_isAhead_7 ?_
  refine lv_iload_n hx hb d_M_isAhead_10 rfl (lv_at hl 2 rfl) ?_
  refine rw_iald hx hb hK.1 0 m6 rfl j (rfl) (h_j) (by decide) d_M_isAhead_11 ?_
  refine lv_icmp_eq (tgt := 38) hx hb d_M_isAhead_12 (by decide) (fun c12 => ?_) (fun c12 => ?_)
  · refine lv_iload_n hx hb d_M_isAhead_38 rfl (lv_at hl 1 rfl) ?_
    refine lv_iload_n hx hb d_M_isAhead_39 rfl (lv_at hl 2 rfl) ?_
    refine lv_icmp_le (tgt := 47) hx hb d_M_isAhead_40 (by decide) (fun c40 => ?_) (fun c40 => ?_)
    · refine lv_iconst (v := 0) hx hb d_M_isAhead_47 (by decide) ?_
      exact rt_i hQ hx hb hr hlk hs (rfl) (by have g40 : ¬ j < i := Nat.not_lt.mpr ((nI_leI (by omega) (by omega)).mp c40); simp [ahB, bI, c12, g40]) d_M_isAhead_48
    · refine lv_iconst (v := 1) hx hb d_M_isAhead_43 (by decide) ?_
      refine lv_goto (tgt := 48) hx hb d_M_isAhead_44 (by decide) ?_
      exact rt_i hQ hx hb hr hlk hs (rfl) (by have g40 : j < i := Nat.not_le.mp (fun h => c40 ((nI_leI (by omega) (by omega)).mpr h)); simp [ahB, bI, c12, g40]) d_M_isAhead_48
  · refine lv_aload_n hx hb d_M_isAhead_15 rfl (lv_at hl 0 rfl) ?_
    refine rw_get hx hb hts in_M hown hK.1 m0 rfl 8 (by decide) (hts _ fl_M_26) rfl d_M_isAhead_16 ?_
    refine lv_iload_n hx hb d_M_isAhead_19 rfl (lv_at hl 1 rfl) ?_
    refine rw_iald hx hb hK.1 0 m6 rfl i (rfl) (h_i) (by decide) d_M_isAhead_20 ?_
    refine lv_aload_n hx hb d_M_isAhead_21 rfl (lv_at hl 0 rfl) ?_
    refine rw_get hx hb hts in_M hown hK.1 m0 rfl 8 (by decide) (hts _ fl_M_26) rfl d_M_isAhead_22 ?_
    refine lv_iload_n hx hb d_M_isAhead_25 rfl (lv_at hl 2 rfl) ?_
    refine rw_iald hx hb hK.1 0 m6 rfl j (rfl) (h_j) (by decide) d_M_isAhead_26 ?_
    refine lv_icmp_le (tgt := 34) hx hb d_M_isAhead_27 (by decide) (fun c27 => ?_) (fun c27 => ?_)
    · refine lv_iconst (v := 0) hx hb d_M_isAhead_34 (by decide) ?_
      refine lv_goto (tgt := 48) hx hb d_M_isAhead_35 (by decide) ?_
      exact rt_i hQ hx hb hr hlk hs (rfl) (by simp [ahB, bI, c12, c27, Int32.not_lt.mpr c27]) d_M_isAhead_48
    · refine lv_iconst (v := 1) hx hb d_M_isAhead_30 (by decide) ?_
      refine lv_goto (tgt := 48) hx hb d_M_isAhead_31 (by decide) ?_
      exact rt_i hQ hx hb hr hlk hs (rfl) (by simp [ahB, bI, c12, c27, Int32.not_le.mp c27]) d_M_isAhead_48
def rm_M_best : Room := { frames := 3, cells := 0, slots := 0, locals := 70 }
set_option maxRecDepth 100000 in
set_option maxHeartbeats 4000000 in
theorem c_M_best {l : Launch} {ev : EV} {H0 : Heap} {d : Nat} {th : Int32} {u : XS} {kp : KT} {v : PT} (hm : MW ev d th u kp v H0) (kind : Int32) {j k : Nat} {p_j p_k : Int32} (e_j : p_j = nI j) (e_k : p_k = nI k) (h_j : j < 40) (h_k : k < 40) : Met l my_M_best mw_M_best rm_M_best (cP [.ref d, .int kind, .int p_j, .int p_k] (KG ev) H0) (cQp (some (.int (oI (besF u.2.1 u.2.2.1 none kind (u.2.2.2 j) (u.2.2.2 k) u.1.2.1))))) 0 0 cNo := by
  refine cHead [.ref d, .int kind, .int p_j, .int p_k] (by decide) rfl (Nat.le_of_ble_eq_true rfl) ?_
  intro p e s m below meth c ls args QQ hQ S hr hlk hnm hs hK hl
  have S : CallFix p m c mb_M_best 6 s args TB "RuleChoiceModel" := S
  obtain ⟨hx, hb, hml, hown, hts⟩ := id S
  subst e_j; subst e_k
  obtain ⟨m0, m1, m2, m3, m4, m5, m6, m7, m8, m9, m10, m11, m12, m13, m14, m15, hxb, hv7⟩ := id hm
  have hn40 : u.1.2.1 ≤ 40 := hxb.1
  have hl : lv_has ls 6 [(0, .ref d), (1, .int kind), (2, .int (nI j)), (3, .int (nI k))] := hl
  refine lv_iconst (v := (-1)) hx hb d_M_best_0 (by decide) ?_
  refine lv_istore (lv' := [(4, .int (-1)), (0, .ref d), (1, .int kind), (2, .int (nI j)), (3, .int (nI k))]) hx hb d_M_best_1 hl (by decide) rfl (fun ls hl => ?_)
  refine lv_iconst (v := 0) hx hb d_M_best_3 (by decide) ?_
  refine lv_istore (lv' := [(5, .int 0), (4, .int (-1)), (0, .ref d), (1, .int kind), (2, .int (nI j)), (3, .int (nI k))]) hx hb d_M_best_4 hl (by decide) rfl (fun ls hl => ?_)
  have LP : ∀ (n i : Nat) (bs : Int32) (ls : Array Slot), bs = oI (besF u.2.1 u.2.2.1 none kind (u.2.2.2 j) (u.2.2.2 k) i) → i ≤ u.1.2.1 → u.1.2.1 - i < n → lv_has ls 6 [(0, .ref d), (1, .int kind), (2, .int (nI j)), (3, .int (nI k)), (4, .int bs), (5, .int (nI i))] → W p l e rm_M_best s m args below meth c H0 [] 0 0 QQ (F0 m 6 ls []) := by
    intro n
    induction n with
    | zero => intro i bs ls h1 h2 h3; exact absurd h3 (by omega)
    | succ n ih =>
      intro i bs ls ebs hle hn hl
      refine lv_iload hx hb d_M_best_6 (lv_at hl 5 rfl) ?_
      refine lv_aload_n hx hb d_M_best_8 rfl (lv_at hl 0 rfl) ?_
      refine rw_get hx hb hts in_M hown hK.1 m0 rfl 2 (by decide) (hts _ fl_M_67) rfl d_M_best_9 ?_
      refine lv_icmp_ge (tgt := 54) hx hb d_M_best_12 (by decide) (fun c12 => ?_) (fun c12 => ?_)
      · refine lv_iload hx hb d_M_best_54 (lv_at hl 4 rfl) ?_
        exact rt_i hQ hx hb hr hlk hs (rfl) (by rw [ebs]; congr 2; exact Nat.le_antisymm hle (Nat.not_lt.mp (fun h => absurd c12 (nI_ge h (by omega))))) d_M_best_56
      · have hlt : i < u.1.2.1 := Nat.not_le.mp (fun h => c12 (nI_le h (by omega)))
        have h40 : i < 40 := by omega
        refine lv_aload_n hx hb d_M_best_15 rfl (lv_at hl 0 rfl) ?_
        refine lv_iload hx hb d_M_best_16 (lv_at hl 5 rfl) ?_
        refine lv_iload_n hx hb d_M_best_18 rfl (lv_at hl 1 rfl) ?_
        refine lv_iload_n hx hb d_M_best_19 rfl (lv_at hl 2 rfl) ?_
        refine lv_iload_n hx hb d_M_best_20 rfl (lv_at hl 3 rfl) ?_
        refine cl_i (W.runV (As := [.int (nI i), .int kind, .int (nI j), .int (nI k)]) (rest := []) S (c_M_matches hm kind (rfl) (rfl) (rfl) (h40) (h_j) (h_k)) (cwV 4 hts gv_M_125 rfl rfl rfl (by decide +kernel) ⟨Nat.le_of_ble_eq_true rfl, Nat.le_of_ble_eq_true rfl⟩) (cP_V (KG_ok _) hK hK.1 m0 rfl) rfl rfl hl.1 rfl (lv_room (Nat.le_of_ble_eq_true rfl)) d_M_best_21 ⟨Nat.le_of_ble_eq_true rfl, Nat.le_of_ble_eq_true rfl⟩) ?_
        refine lv_if_eq (tgt := 48) hx hb d_M_best_24 (by decide) (fun c24 => ?_) (fun c24 => ?_)
        · refine lv_iinc (v := (nI (i + 1))) (lv' := [(5, .int (nI (i + 1))), (0, .ref d), (1, .int kind), (2, .int (nI j)), (3, .int (nI k)), (4, .int bs)]) hx hb d_M_best_48 hl (k := 5) rfl ((nI_1 i)) (by decide) rfl (fun ls hl => ?_)
          refine lv_goto (tgt := 6) hx hb d_M_best_51 (by decide) ?_
          exact ih (i + 1) _ ls (by rw [besF_m ((bI_eq _).mp c24)]; exact ebs) (by omega) (by omega) (lv_sub hl [1, 2, 3, 4, 5, 0] rfl)
        · refine lv_iload hx hb d_M_best_27 (lv_at hl 4 rfl) ?_
          refine lv_iconst (v := (-1)) hx hb d_M_best_29 (by decide) ?_
          refine lv_icmp_eq (tgt := 44) hx hb d_M_best_30 (by decide) (fun c30 => ?_) (fun c30 => ?_)
          · refine lv_iload hx hb d_M_best_44 (lv_at hl 5 rfl) ?_
            refine lv_istore (lv' := [(4, .int (nI i)), (0, .ref d), (1, .int kind), (2, .int (nI j)), (3, .int (nI k)), (5, .int (nI i))]) hx hb d_M_best_46 hl (by decide) rfl (fun ls hl => ?_)
            refine lv_iinc (v := (nI (i + 1))) (lv' := [(5, .int (nI (i + 1))), (4, .int (nI i)), (0, .ref d), (1, .int kind), (2, .int (nI j)), (3, .int (nI k))]) hx hb d_M_best_48 hl (k := 5) rfl ((nI_1 i)) (by decide) rfl (fun ls hl => ?_)
            refine lv_goto (tgt := 6) hx hb d_M_best_51 (by decide) ?_
            exact ih (i + 1) _ ls (by rw [besF_y rfl (by rw [oI_m1 (fun a h => Nat.lt_trans (besF_lt i a h) (by omega)) (by rw [← ebs]; exact c30)]; rfl) ((bI_ne _).mp c24)]; rfl) (by omega) (by omega) (lv_sub hl [2, 3, 4, 5, 1, 0] rfl)
          · obtain ⟨j2, g33⟩ : ∃ a, besF u.2.1 u.2.2.1 none kind (u.2.2.2 j) (u.2.2.2 k) i = some a := oI_no (by rw [← ebs]; exact c30)
            have hj2 : j2 < 40 := Nat.lt_of_lt_of_le (besF_lt i j2 g33) (by omega)
            refine lv_aload_n hx hb d_M_best_33 rfl (lv_at hl 0 rfl) ?_
            refine lv_iload hx hb d_M_best_34 (lv_at hl 5 rfl) ?_
            refine lv_iload hx hb d_M_best_36 (lv_at hl 4 rfl) ?_
            refine cl_i (W.runV (As := [.int (nI i), .int bs]) (rest := []) S (c_M_isAhead hm (rfl) (by rw [ebs, g33]; rfl) (h40) (hj2)) (cwV 2 hts gv_M_129 rfl rfl rfl (by decide +kernel) ⟨Nat.le_of_ble_eq_true rfl, Nat.le_of_ble_eq_true rfl⟩) (cP_V (KG_ok _) hK hK.1 m0 rfl) rfl rfl hl.1 rfl (lv_room (Nat.le_of_ble_eq_true rfl)) d_M_best_38 ⟨Nat.le_of_ble_eq_true rfl, Nat.le_of_ble_eq_true rfl⟩) ?_
            refine lv_if_eq (tgt := 48) hx hb d_M_best_41 (by decide) (fun c41 => ?_) (fun c41 => ?_)
            · refine lv_iinc (v := (nI (i + 1))) (lv' := [(5, .int (nI (i + 1))), (0, .ref d), (1, .int kind), (2, .int (nI j)), (3, .int (nI k)), (4, .int bs)]) hx hb d_M_best_48 hl (k := 5) rfl ((nI_1 i)) (by decide) rfl (fun ls hl => ?_)
              refine lv_goto (tgt := 6) hx hb d_M_best_51 (by decide) ?_
              exact ih (i + 1) _ ls (by rw [besF_b (by rw [g33]; exact (bI_eq _).mp c41)]; exact ebs) (by omega) (by omega) (lv_sub hl [1, 2, 3, 4, 5, 0] rfl)
            · refine lv_iload hx hb d_M_best_44 (lv_at hl 5 rfl) ?_
              refine lv_istore (lv' := [(4, .int (nI i)), (0, .ref d), (1, .int kind), (2, .int (nI j)), (3, .int (nI k)), (5, .int (nI i))]) hx hb d_M_best_46 hl (by decide) rfl (fun ls hl => ?_)
              refine lv_iinc (v := (nI (i + 1))) (lv' := [(5, .int (nI (i + 1))), (4, .int (nI i)), (0, .ref d), (1, .int kind), (2, .int (nI j)), (3, .int (nI k))]) hx hb d_M_best_48 hl (k := 5) rfl ((nI_1 i)) (by decide) rfl (fun ls hl => ?_)
              refine lv_goto (tgt := 6) hx hb d_M_best_51 (by decide) ?_
              exact ih (i + 1) _ ls (by rw [besF_y rfl (by rw [g33]; exact (bI_ne _).mp c41) ((bI_ne _).mp c24)]; rfl) (by omega) (by omega) (lv_sub hl [2, 3, 4, 5, 1, 0] rfl)
  exact LP _ 0 (-1) ls rfl (Nat.zero_le _) (Nat.lt_succ_self _) (lv_sub hl [2, 3, 4, 5, 1, 0] rfl)
def rm_M_isClose : Room := { frames := 4, cells := 0, slots := 0, locals := 95 }
set_option maxRecDepth 100000 in
set_option maxHeartbeats 4000000 in
theorem c_M_isClose {l : Launch} {ev : EV} {H0 : Heap} {d : Nat} {th : Int32} {u : XS} {kp : KT} {v : PT} (hm : MW ev d th u kp v H0) (kind : Int32) {j k : Nat} {p_j p_k : Int32} (e_j : p_j = nI j) (e_k : p_k = nI k) (h_j : j < 40) (h_k : k < 40) : Met l my_M_isClose mw_M_isClose rm_M_isClose (cP [.ref d, .int kind, .int p_j, .int p_k] (KG ev) H0) (cQp (some (.int (bI (nerB u.2.1 u.2.2.1 u.1.2.1 kind (u.2.2.2 j) (u.2.2.2 k)))))) 0 0 cNo := by
  refine cHead [.ref d, .int kind, .int p_j, .int p_k] (by decide) rfl (Nat.le_of_ble_eq_true rfl) ?_
  intro p e s m below meth c ls args QQ hQ S hr hlk hnm hs hK hl
  have S : CallFix p m c mb_M_isClose 9 s args TB "RuleChoiceModel" := S
  obtain ⟨hx, hb, hml, hown, hts⟩ := id S
  subst e_j; subst e_k
  obtain ⟨m0, m1, m2, m3, m4, m5, m6, m7, m8, m9, m10, m11, m12, m13, m14, m15, hxb, hv7⟩ := id hm
  have hl : lv_has ls 9 [(0, .ref d), (1, .int kind), (2, .int (nI j)), (3, .int (nI k))] := hl
  refine lv_aload_n hx hb d_M_isClose_0 rfl (lv_at hl 0 rfl) ?_
  refine rw_get hx hb hts in_M hown hK.1 m0 rfl 14 (by decide) (hts _ fl_M_38) rfl d_M_isClose_1 ?_
  refine lv_iload_n hx hb d_M_isClose_4 rfl (lv_at hl 2 rfl) ?_
  refine rw_iald hx hb hK.1 0 m10 rfl j (rfl) (h_j) (by decide) d_M_isClose_5 ?_
  refine lv_aload_n hx hb d_M_isClose_6 rfl (lv_at hl 0 rfl) ?_
  refine rw_get hx hb hts in_M hown hK.1 m0 rfl 14 (by decide) (hts _ fl_M_38) rfl d_M_isClose_7 ?_
  refine lv_iload_n hx hb d_M_isClose_10 rfl (lv_at hl 3 rfl) ?_
  refine rw_iald hx hb hK.1 0 m10 rfl k (rfl) (h_k) (by decide) d_M_isClose_11 ?_
  refine lv_icmp_eq (tgt := 17) hx hb d_M_isClose_12 (by decide) (fun c12 => ?_) (fun c12 => ?_)
  · refine lv_aload_n hx hb d_M_isClose_17 rfl (lv_at hl 0 rfl) ?_
    refine lv_iload_n hx hb d_M_isClose_18 rfl (lv_at hl 1 rfl) ?_
    refine lv_iload_n hx hb d_M_isClose_19 rfl (lv_at hl 2 rfl) ?_
    refine lv_iload_n hx hb d_M_isClose_20 rfl (lv_at hl 3 rfl) ?_
    refine cl_i (W.runV (As := [.int kind, .int (nI j), .int (nI k)]) (rest := []) S (c_M_best hm kind (rfl) (rfl) (h_j) (h_k)) (cwV 3 hts gv_M_143 rfl rfl rfl (by decide +kernel) ⟨Nat.le_of_ble_eq_true rfl, Nat.le_of_ble_eq_true rfl⟩) (cP_V (KG_ok _) hK hK.1 m0 rfl) rfl rfl hl.1 rfl (lv_room (Nat.le_of_ble_eq_true rfl)) d_M_isClose_21 ⟨Nat.le_of_ble_eq_true rfl, Nat.le_of_ble_eq_true rfl⟩) ?_
    refine lv_istore (lv' := [(4, .int (oI (besF u.2.1 u.2.2.1 none kind (u.2.2.2 j) (u.2.2.2 k) u.1.2.1))), (0, .ref d), (1, .int kind), (2, .int (nI j)), (3, .int (nI k))]) hx hb d_M_isClose_24 hl (by decide) rfl (fun ls hl => ?_)
    refine lv_aload_n hx hb d_M_isClose_26 rfl (lv_at hl 1 rfl) ?_
    refine rw_get hx hb hts in_M hown hK.1 m0 rfl 15 (by decide) (hts _ fl_M_41) rfl d_M_isClose_27 ?_
    refine lv_iload_n hx hb d_M_isClose_30 rfl (lv_at hl 3 rfl) ?_
    refine rw_lald hx hb hK.1 1 m11 rfl j (rfl) (h_j) (by decide) d_M_isClose_31 ?_
    refine lv_aload_n hx hb d_M_isClose_32 rfl (lv_at hl 1 rfl) ?_
    refine rw_get hx hb hts in_M hown hK.1 m0 rfl 15 (by decide) (hts _ fl_M_41) rfl d_M_isClose_33 ?_
    refine lv_iload_n hx hb d_M_isClose_36 rfl (lv_at hl 4 rfl) ?_
    refine rw_lald hx hb hK.1 1 m11 rfl k (rfl) (h_k) (by decide) d_M_isClose_37 ?_
    refine lv_lsub hx hb d_M_isClose_38 ?_
    refine lv_lstore (lv' := [(5, .long (((u.2.2.2 j).2.2.1) - ((u.2.2.2 k).2.2.1))), (4, .int (oI (besF u.2.1 u.2.2.1 none kind (u.2.2.2 j) (u.2.2.2 k) u.1.2.1))), (0, .ref d), (1, .int kind), (2, .int (nI j)), (3, .int (nI k))]) hx hb d_M_isClose_39 hl (by decide) rfl (fun ls hl => ?_)
    refine lv_aload_n hx hb d_M_isClose_41 rfl (lv_at hl 2 rfl) ?_
    refine rw_get hx hb hts in_M hown hK.1 m0 rfl 16 (by decide) (hts _ fl_M_44) rfl d_M_isClose_42 ?_
    refine lv_iload_n hx hb d_M_isClose_45 rfl (lv_at hl 4 rfl) ?_
    refine rw_lald hx hb hK.1 1 m12 rfl j (rfl) (h_j) (by decide) d_M_isClose_46 ?_
    refine lv_aload_n hx hb d_M_isClose_47 rfl (lv_at hl 2 rfl) ?_
    refine rw_get hx hb hts in_M hown hK.1 m0 rfl 16 (by decide) (hts _ fl_M_44) rfl d_M_isClose_48 ?_
    refine lv_iload_n hx hb d_M_isClose_51 rfl (lv_at hl 5 rfl) ?_
    refine rw_lald hx hb hK.1 1 m12 rfl k (rfl) (h_k) (by decide) d_M_isClose_52 ?_
    refine lv_lsub hx hb d_M_isClose_53 ?_
    refine lv_lstore (lv' := [(7, .long (((u.2.2.2 j).2.2.2) - ((u.2.2.2 k).2.2.2))), (5, .long (((u.2.2.2 j).2.2.1) - ((u.2.2.2 k).2.2.1))), (4, .int (oI (besF u.2.1 u.2.2.1 none kind (u.2.2.2 j) (u.2.2.2 k) u.1.2.1))), (0, .ref d), (1, .int kind), (2, .int (nI j)), (3, .int (nI k))]) hx hb d_M_isClose_54 hl (by decide) rfl (fun ls hl => ?_)
    refine lv_iload hx hb d_M_isClose_56 (lv_at hl 2 rfl) ?_
    refine lv_iconst (v := (-1)) hx hb d_M_isClose_58 (by decide) ?_
    refine lv_icmp_eq (tgt := 96) hx hb d_M_isClose_59 (by decide) (fun c59 => ?_) (fun c59 => ?_)
    · refine lv_iconst (v := 0) hx hb d_M_isClose_96 (by decide) ?_
      exact rt_i hQ hx hb hr hlk hs (rfl) (by have gi : besF u.2.1 u.2.2.1 none kind (u.2.2.2 j) (u.2.2.2 k) u.1.2.1 = none := oI_m1 (fun a h => Nat.lt_trans (besF_lt _ _ h) (Nat.lt_of_le_of_lt hxb.1 (by decide))) c59; simp [nerB, bI, gi]) d_M_isClose_97
    · obtain ⟨i, gi⟩ := oI_no c59
      have hi : i < 40 := Nat.lt_of_lt_of_le (besF_lt _ _ gi) hxb.1
      refine lv_lload hx hb d_M_isClose_62 (lv_at hl 1 rfl) ?_
      refine lv_lload hx hb d_M_isClose_64 (lv_at hl 1 rfl) ?_
      refine lv_lmul hx hb d_M_isClose_66 ?_
      refine lv_lload hx hb d_M_isClose_67 (lv_at hl 0 rfl) ?_
      refine lv_lload hx hb d_M_isClose_69 (lv_at hl 0 rfl) ?_
      refine lv_lmul hx hb d_M_isClose_71 ?_
      refine lv_ladd hx hb d_M_isClose_72 ?_
      refine lv_aload_n hx hb d_M_isClose_73 rfl (lv_at hl 3 rfl) ?_
      refine rw_get hx hb hts in_M hown hK.1 m0 rfl 7 (by decide) (hts _ fl_M_22) rfl d_M_isClose_74 ?_
      refine lv_iload hx hb d_M_isClose_77 (lv_at hl 2 rfl) ?_
      refine rw_lald hx hb hK.1 1 m5 rfl i (by rw [gi]; rfl) (hi) (by decide) d_M_isClose_79 ?_
      refine lv_aload_n hx hb d_M_isClose_80 rfl (lv_at hl 3 rfl) ?_
      refine rw_get hx hb hts in_M hown hK.1 m0 rfl 7 (by decide) (hts _ fl_M_22) rfl d_M_isClose_81 ?_
      refine lv_iload hx hb d_M_isClose_84 (lv_at hl 2 rfl) ?_
      refine rw_lald hx hb hK.1 1 m5 rfl i (by rw [gi]; rfl) (hi) (by decide) d_M_isClose_86 ?_
      refine lv_lmul hx hb d_M_isClose_87 ?_
      refine ll_ge (tgt := 96) hx hb d_M_isClose_88 d_M_isClose_89 (by decide) (fun c89 => ?_) (fun c89 => ?_)
      · refine lv_iconst (v := 0) hx hb d_M_isClose_96 (by decide) ?_
        exact rt_i hQ hx hb hr hlk hs (rfl) (by simp [nerB, bI, c12, gi, dsF, c89, Int64.not_lt.mpr c89]) d_M_isClose_97
      · refine lv_iconst (v := 1) hx hb d_M_isClose_92 (by decide) ?_
        refine lv_goto (tgt := 97) hx hb d_M_isClose_93 (by decide) ?_
        exact rt_i hQ hx hb hr hlk hs (rfl) (by simp [nerB, bI, c12, gi, dsF, c89, Int64.not_le.mp c89]) d_M_isClose_97
  · refine lv_iconst (v := 0) hx hb d_M_isClose_15 (by decide) ?_
    exact rt_i hQ hx hb hr hlk hs (rfl) (by simp [nerB, bI, c12]) d_M_isClose_16
