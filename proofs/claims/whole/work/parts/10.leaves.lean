def rm_R_fits : Room := { frames := 0, cells := 0, slots := 0, locals := 0 }
set_option maxRecDepth 100000 in
set_option maxHeartbeats 4000000 in
theorem c_R_fits {l : Launch} {ev : EV} {H0 : Heap} (w g : Int32)  : Met l my_R_fits mw_R_fits rm_R_fits (cP [.int w, .int g] (KG ev) H0) (cQp (some (.int (bI (fitB w g))))) 0 0 cNo := by
  refine cHead [.int w, .int g] (by decide) rfl (Nat.le_of_ble_eq_true rfl) ?_
  intro p e s m below meth c ls args QQ hQ S hr hlk hnm hs hK hl
  have S : CallFix p m c mb_R_fits 2 s args TB "RuleChoice$Rule" := S
  obtain ⟨hx, hb, hml, hown, hts⟩ := id S
  have hl : lv_has ls 2 [(0, .int w), (1, .int g)] := hl
  refine lv_iload_n hx hb d_R_fits_0 rfl (lv_at hl 0 rfl) ?_
  refine lv_iconst (v := (-1)) hx hb d_R_fits_1 (by decide) ?_
  refine lv_icmp_eq (tgt := 10) hx hb d_R_fits_2 (by decide) (fun c2 => ?_) (fun c2 => ?_)
  · refine lv_iconst (v := 1) hx hb d_R_fits_10 (by decide) ?_
    refine lv_goto (tgt := 15) hx hb d_R_fits_11 (by decide) ?_
    exact rt_i hQ hx hb hr hlk hs (rfl) (by simp [fitB, bI, c2]) d_R_fits_15
  · refine lv_iload_n hx hb d_R_fits_5 rfl (lv_at hl 0 rfl) ?_
    refine lv_iload_n hx hb d_R_fits_6 rfl (lv_at hl 1 rfl) ?_
    refine lv_icmp_ne (tgt := 14) hx hb d_R_fits_7 (by decide) (fun c7 => ?_) (fun c7 => ?_)
    · refine lv_iconst (v := 0) hx hb d_R_fits_14 (by decide) ?_
      exact rt_i hQ hx hb hr hlk hs (rfl) (by simp [fitB, bI, c2, c7]) d_R_fits_15
    · refine lv_iconst (v := 1) hx hb d_R_fits_10 (by decide) ?_
      refine lv_goto (tgt := 15) hx hb d_R_fits_11 (by decide) ?_
      exact rt_i hQ hx hb hr hlk hs (rfl) (by simp [fitB, bI, c2, c7]) d_R_fits_15
def rm_R_isBetween : Room := { frames := 1, cells := 0, slots := 0, locals := 21 }
set_option maxRecDepth 100000 in
set_option maxHeartbeats 4000000 in
theorem c_R_isBetween {l : Launch} {ev : EV} {H0 : Heap} {a : Nat} {r : Ru} (hr0 : pt ev H0 a (oC 4 (ruV r))) (x y : Int32) : Met l my_R_isBetween mw_R_isBetween rm_R_isBetween (cP [.ref a, .int x, .int y] (KG ev) H0) (cQp (some (.int (bI (btwB r x y))))) 0 0 cNo := by
  refine cHead [.ref a, .int x, .int y] (by decide) rfl (Nat.le_of_ble_eq_true rfl) ?_
  intro p e s m below meth c ls args QQ hQ S hr hlk hnm hs hK hl
  have S : CallFix p m c mb_R_isBetween 3 s args TB "RuleChoice$Rule" := S
  obtain ⟨hx, hb, hml, hown, hts⟩ := id S
  have hl : lv_has ls 3 [(0, .ref a), (1, .int x), (2, .int y)] := hl
  refine lv_aload_n hx hb d_R_isBetween_0 rfl (lv_at hl 0 rfl) ?_
  refine rw_get hx hb hts in_R hown hK.1 hr0 rfl 1 (by decide) (hts _ fl_R_18) rfl d_R_isBetween_1 ?_
  refine lv_iload_n hx hb d_R_isBetween_4 rfl (lv_at hl 1 rfl) ?_
  refine cl_i (W.runS (As := [.int r.2.1, .int x]) (rest := []) S (c_R_fits r.2.1 x) (va_cwS 2 hts gs_R_31 rfl rfl rfl (by decide +kernel) ⟨Nat.le_of_ble_eq_true rfl, Nat.le_of_ble_eq_true rfl⟩) (cP_S (KG_ok _) hK) rfl rfl hl.1 rfl (lv_room (Nat.le_of_ble_eq_true rfl)) d_R_isBetween_5 ⟨Nat.le_of_ble_eq_true rfl, Nat.le_of_ble_eq_true rfl⟩) ?_
  refine lv_if_eq (tgt := 22) hx hb d_R_isBetween_8 (by decide) (fun c8 => ?_) (fun c8 => ?_)
  · refine lv_aload_n hx hb d_R_isBetween_22 rfl (lv_at hl 0 rfl) ?_
    refine rw_get hx hb hts in_R hown hK.1 hr0 rfl 1 (by decide) (hts _ fl_R_18) rfl d_R_isBetween_23 ?_
    refine lv_iload_n hx hb d_R_isBetween_26 rfl (lv_at hl 2 rfl) ?_
    refine cl_i (W.runS (As := [.int r.2.1, .int y]) (rest := []) S (c_R_fits r.2.1 y) (va_cwS 2 hts gs_R_31 rfl rfl rfl (by decide +kernel) ⟨Nat.le_of_ble_eq_true rfl, Nat.le_of_ble_eq_true rfl⟩) (cP_S (KG_ok _) hK) rfl rfl hl.1 rfl (lv_room (Nat.le_of_ble_eq_true rfl)) d_R_isBetween_27 ⟨Nat.le_of_ble_eq_true rfl, Nat.le_of_ble_eq_true rfl⟩) ?_
    refine lv_if_eq (tgt := 48) hx hb d_R_isBetween_30 (by decide) (fun c30 => ?_) (fun c30 => ?_)
    · refine lv_iconst (v := 0) hx hb d_R_isBetween_48 (by decide) ?_
      exact rt_i hQ hx hb hr hlk hs (rfl) (by simp only [bI_eq, bI_ne] at c8 c30; simp [btwB, bI, c8, c30]) d_R_isBetween_49
    · refine lv_aload_n hx hb d_R_isBetween_33 rfl (lv_at hl 0 rfl) ?_
      refine rw_get hx hb hts in_R hown hK.1 hr0 rfl 2 (by decide) (hts _ fl_R_21) rfl d_R_isBetween_34 ?_
      refine lv_iload_n hx hb d_R_isBetween_37 rfl (lv_at hl 1 rfl) ?_
      refine cl_i (W.runS (As := [.int r.2.2.1, .int x]) (rest := []) S (c_R_fits r.2.2.1 x) (va_cwS 2 hts gs_R_31 rfl rfl rfl (by decide +kernel) ⟨Nat.le_of_ble_eq_true rfl, Nat.le_of_ble_eq_true rfl⟩) (cP_S (KG_ok _) hK) rfl rfl hl.1 rfl (lv_room (Nat.le_of_ble_eq_true rfl)) d_R_isBetween_38 ⟨Nat.le_of_ble_eq_true rfl, Nat.le_of_ble_eq_true rfl⟩) ?_
      refine lv_if_eq (tgt := 48) hx hb d_R_isBetween_41 (by decide) (fun c41 => ?_) (fun c41 => ?_)
      · refine lv_iconst (v := 0) hx hb d_R_isBetween_48 (by decide) ?_
        exact rt_i hQ hx hb hr hlk hs (rfl) (by simp only [bI_eq, bI_ne] at c8 c30 c41; simp [btwB, bI, c8, c30, c41]) d_R_isBetween_49
      · refine lv_iconst (v := 1) hx hb d_R_isBetween_44 (by decide) ?_
        refine lv_goto (tgt := 49) hx hb d_R_isBetween_45 (by decide) ?_
        exact rt_i hQ hx hb hr hlk hs (rfl) (by simp only [bI_eq, bI_ne] at c8 c30 c41; simp [btwB, bI, c8, c30, c41]) d_R_isBetween_49
  · refine lv_aload_n hx hb d_R_isBetween_11 rfl (lv_at hl 0 rfl) ?_
    refine rw_get hx hb hts in_R hown hK.1 hr0 rfl 2 (by decide) (hts _ fl_R_21) rfl d_R_isBetween_12 ?_
    refine lv_iload_n hx hb d_R_isBetween_15 rfl (lv_at hl 2 rfl) ?_
    refine cl_i (W.runS (As := [.int r.2.2.1, .int y]) (rest := []) S (c_R_fits r.2.2.1 y) (va_cwS 2 hts gs_R_31 rfl rfl rfl (by decide +kernel) ⟨Nat.le_of_ble_eq_true rfl, Nat.le_of_ble_eq_true rfl⟩) (cP_S (KG_ok _) hK) rfl rfl hl.1 rfl (lv_room (Nat.le_of_ble_eq_true rfl)) d_R_isBetween_16 ⟨Nat.le_of_ble_eq_true rfl, Nat.le_of_ble_eq_true rfl⟩) ?_
    refine lv_if_ne (tgt := 44) hx hb d_R_isBetween_19 (by decide) (fun c19 => ?_) (fun c19 => ?_)
    · refine lv_iconst (v := 1) hx hb d_R_isBetween_44 (by decide) ?_
      refine lv_goto (tgt := 49) hx hb d_R_isBetween_45 (by decide) ?_
      exact rt_i hQ hx hb hr hlk hs (rfl) (by simp only [bI_eq, bI_ne] at c8 c19; simp [btwB, bI, c8, c19]) d_R_isBetween_49
    · refine lv_aload_n hx hb d_R_isBetween_22 rfl (lv_at hl 0 rfl) ?_
      refine rw_get hx hb hts in_R hown hK.1 hr0 rfl 1 (by decide) (hts _ fl_R_18) rfl d_R_isBetween_23 ?_
      refine lv_iload_n hx hb d_R_isBetween_26 rfl (lv_at hl 2 rfl) ?_
      refine cl_i (W.runS (As := [.int r.2.1, .int y]) (rest := []) S (c_R_fits r.2.1 y) (va_cwS 2 hts gs_R_31 rfl rfl rfl (by decide +kernel) ⟨Nat.le_of_ble_eq_true rfl, Nat.le_of_ble_eq_true rfl⟩) (cP_S (KG_ok _) hK) rfl rfl hl.1 rfl (lv_room (Nat.le_of_ble_eq_true rfl)) d_R_isBetween_27 ⟨Nat.le_of_ble_eq_true rfl, Nat.le_of_ble_eq_true rfl⟩) ?_
      refine lv_if_eq (tgt := 48) hx hb d_R_isBetween_30 (by decide) (fun c30 => ?_) (fun c30 => ?_)
      · refine lv_iconst (v := 0) hx hb d_R_isBetween_48 (by decide) ?_
        exact rt_i hQ hx hb hr hlk hs (rfl) (by simp only [bI_eq, bI_ne] at c8 c19 c30; simp [btwB, bI, c8, c19, c30]) d_R_isBetween_49
      · refine lv_aload_n hx hb d_R_isBetween_33 rfl (lv_at hl 0 rfl) ?_
        refine rw_get hx hb hts in_R hown hK.1 hr0 rfl 2 (by decide) (hts _ fl_R_21) rfl d_R_isBetween_34 ?_
        refine lv_iload_n hx hb d_R_isBetween_37 rfl (lv_at hl 1 rfl) ?_
        refine cl_i (W.runS (As := [.int r.2.2.1, .int x]) (rest := []) S (c_R_fits r.2.2.1 x) (va_cwS 2 hts gs_R_31 rfl rfl rfl (by decide +kernel) ⟨Nat.le_of_ble_eq_true rfl, Nat.le_of_ble_eq_true rfl⟩) (cP_S (KG_ok _) hK) rfl rfl hl.1 rfl (lv_room (Nat.le_of_ble_eq_true rfl)) d_R_isBetween_38 ⟨Nat.le_of_ble_eq_true rfl, Nat.le_of_ble_eq_true rfl⟩) ?_
        refine lv_if_eq (tgt := 48) hx hb d_R_isBetween_41 (by decide) (fun c41 => ?_) (fun c41 => ?_)
        · refine lv_iconst (v := 0) hx hb d_R_isBetween_48 (by decide) ?_
          exact rt_i hQ hx hb hr hlk hs (rfl) (by simp only [bI_eq, bI_ne] at c8 c19 c30 c41; simp [btwB, bI, c8, c19, c30, c41]) d_R_isBetween_49
        · refine lv_iconst (v := 1) hx hb d_R_isBetween_44 (by decide) ?_
          refine lv_goto (tgt := 49) hx hb d_R_isBetween_45 (by decide) ?_
          exact rt_i hQ hx hb hr hlk hs (rfl) (by simp only [bI_eq, bI_ne] at c8 c19 c30 c41; simp [btwB, bI, c8, c19, c30, c41]) d_R_isBetween_49
def rm_R_isForLayer : Room := { frames := 1, cells := 0, slots := 0, locals := 21 }
set_option maxRecDepth 100000 in
set_option maxHeartbeats 4000000 in
theorem c_R_isForLayer {l : Launch} {ev : EV} {H0 : Heap} {a : Nat} {r : Ru} (hr0 : pt ev H0 a (oC 4 (ruV r))) (x : Int32) : Met l my_R_isForLayer mw_R_isForLayer rm_R_isForLayer (cP [.ref a, .int x] (KG ev) H0) (cQp (some (.int (bI (layB r x))))) 0 0 cNo := by
  refine cHead [.ref a, .int x] (by decide) rfl (Nat.le_of_ble_eq_true rfl) ?_
  intro p e s m below meth c ls args QQ hQ S hr hlk hnm hs hK hl
  have S : CallFix p m c mb_R_isForLayer 2 s args TB "RuleChoice$Rule" := S
  obtain ⟨hx, hb, hml, hown, hts⟩ := id S
  have hl : lv_has ls 2 [(0, .ref a), (1, .int x)] := hl
  refine lv_aload_n hx hb d_R_isForLayer_0 rfl (lv_at hl 0 rfl) ?_
  refine rw_get hx hb hts in_R hown hK.1 hr0 rfl 3 (by decide) (hts _ fl_R_24) rfl d_R_isForLayer_1 ?_
  refine lv_iload_n hx hb d_R_isForLayer_4 rfl (lv_at hl 1 rfl) ?_
  refine cl_i (W.runS (As := [.int r.2.2.2.1, .int x]) (rest := []) S (c_R_fits r.2.2.2.1 x) (va_cwS 2 hts gs_R_31 rfl rfl rfl (by decide +kernel) ⟨Nat.le_of_ble_eq_true rfl, Nat.le_of_ble_eq_true rfl⟩) (cP_S (KG_ok _) hK) rfl rfl hl.1 rfl (lv_room (Nat.le_of_ble_eq_true rfl)) d_R_isForLayer_5 ⟨Nat.le_of_ble_eq_true rfl, Nat.le_of_ble_eq_true rfl⟩) ?_
  exact rt_i hQ hx hb hr hlk hs (bI_n _) (rfl) d_R_isForLayer_8
def rm_A_holds : Room := { frames := 0, cells := 0, slots := 0, locals := 0 }
set_option maxRecDepth 100000 in
set_option maxHeartbeats 4000000 in
theorem c_A_holds {l : Launch} {ev : EV} {H0 : Heap} {a : Nat} {r : Aa} (hr0 : pt ev H0 a (oC 2 (aaV r))) (x y : Int64) : Met l my_A_holds mw_A_holds rm_A_holds (cP [.ref a, .long x, .long y] (KG ev) H0) (cQp (some (.int (bI (inB r x y))))) 0 0 cNo := by
  refine cHead [.ref a, .long x, .long y] (by decide) rfl (Nat.le_of_ble_eq_true rfl) ?_
  intro p e s m below meth c ls args QQ hQ S hr hlk hnm hs hK hl
  have S : CallFix p m c mb_A_holds 5 s args TB "RuleChoice$Area" := S
  obtain ⟨hx, hb, hml, hown, hts⟩ := id S
  have hl : lv_has ls 5 [(0, .ref a), (1, .long x), (3, .long y)] := hl
  refine lv_aload_n hx hb d_A_holds_0 rfl (lv_at hl 0 rfl) ?_
  refine rw_get hx hb hts in_A hown hK.1 hr0 rfl 0 (by decide) (hts _ fl_A_7) rfl d_A_holds_1 ?_
  refine lv_lload_n hx hb d_A_holds_4 rfl (lv_at hl 1 rfl) ?_
  refine ll_gt (tgt := 40) hx hb d_A_holds_5 d_A_holds_6 (by decide) (fun c6 => ?_) (fun c6 => ?_)
  · refine lv_iconst (v := 0) hx hb d_A_holds_40 (by decide) ?_
    exact rt_i hQ hx hb hr hlk hs (rfl) (by simp [inB, bI, c6]) d_A_holds_41
  · refine lv_lload_n hx hb d_A_holds_9 rfl (lv_at hl 1 rfl) ?_
    refine lv_aload_n hx hb d_A_holds_10 rfl (lv_at hl 0 rfl) ?_
    refine rw_get hx hb hts in_A hown hK.1 hr0 rfl 2 (by decide) (hts _ fl_A_16) rfl d_A_holds_11 ?_
    refine ll_gt (tgt := 40) hx hb d_A_holds_14 d_A_holds_15 (by decide) (fun c15 => ?_) (fun c15 => ?_)
    · refine lv_iconst (v := 0) hx hb d_A_holds_40 (by decide) ?_
      exact rt_i hQ hx hb hr hlk hs (rfl) (by simp [inB, bI, c6, c15]) d_A_holds_41
    · refine lv_aload_n hx hb d_A_holds_18 rfl (lv_at hl 0 rfl) ?_
      refine rw_get hx hb hts in_A hown hK.1 hr0 rfl 1 (by decide) (hts _ fl_A_13) rfl d_A_holds_19 ?_
      refine lv_lload_n hx hb d_A_holds_22 rfl (lv_at hl 2 rfl) ?_
      refine ll_gt (tgt := 40) hx hb d_A_holds_23 d_A_holds_24 (by decide) (fun c24 => ?_) (fun c24 => ?_)
      · refine lv_iconst (v := 0) hx hb d_A_holds_40 (by decide) ?_
        exact rt_i hQ hx hb hr hlk hs (rfl) (by simp [inB, bI, c6, c15, c24]) d_A_holds_41
      · refine lv_lload_n hx hb d_A_holds_27 rfl (lv_at hl 2 rfl) ?_
        refine lv_aload_n hx hb d_A_holds_28 rfl (lv_at hl 0 rfl) ?_
        refine rw_get hx hb hts in_A hown hK.1 hr0 rfl 3 (by decide) (hts _ fl_A_19) rfl d_A_holds_29 ?_
        refine ll_gt (tgt := 40) hx hb d_A_holds_32 d_A_holds_33 (by decide) (fun c33 => ?_) (fun c33 => ?_)
        · refine lv_iconst (v := 0) hx hb d_A_holds_40 (by decide) ?_
          exact rt_i hQ hx hb hr hlk hs (rfl) (by simp [inB, bI, c6, c15, c24, c33]) d_A_holds_41
        · refine lv_iconst (v := 1) hx hb d_A_holds_36 (by decide) ?_
          refine lv_goto (tgt := 41) hx hb d_A_holds_37 (by decide) ?_
          exact rt_i hQ hx hb hr hlk hs (rfl) (by simp [inB, bI, c6, c15, c24, c33]) d_A_holds_41
