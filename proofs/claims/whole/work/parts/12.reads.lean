def rm_X_hindrance : Room := { frames := 2, cells := 0, slots := 0, locals := 43 }
set_option maxRecDepth 100000 in
set_option maxHeartbeats 4000000 in
theorem c_X_hindrance {l : Launch} {ev : EV} {H0 : Heap} {b : Nat} {u : XS} (hw : XW ev b u H0) {i j k : Nat} (hi : i < 40) (hj : j < 40) (hk : k < 40) (kind : Int32) : Met l my_X_hindrance mw_X_hindrance rm_X_hindrance (cP [.ref b, .ref (b + 2 + i), .int kind, .ref (b + 56 + j), .ref (b + 56 + k)] (KG ev) H0) (cQp (some (.int (hindF u.2.2.1 (u.2.1 i) kind (u.2.2.2 j) (u.2.2.2 k))))) 0 0 cNo := by
  refine cHead [.ref b, .ref (b + 2 + i), .int kind, .ref (b + 56 + j), .ref (b + 56 + k)] (by decide) rfl (Nat.le_of_ble_eq_true rfl) ?_
  intro p e s m below meth c ls args QQ hQ S hr hlk hnm hs hK hl
  have S : CallFix p m c mb_X_hindrance 5 s args TB "RuleChoice" := S
  obtain ⟨hx, hb, hml, hown, hts⟩ := id S
  have hl : lv_has ls 5 [(0, .ref b), (1, .ref (b + 2 + i)), (2, .int kind), (3, .ref (b + 56 + j)), (4, .ref (b + 56 + k))] := hl
  refine lv_aload_n hx hb d_X_hindrance_0 rfl (lv_at hl 1 rfl) ?_
  refine rw_get hx hb hts in_R hown hK.1 (hw.2.1.2 i (hi)) rfl 0 (by decide) (hts _ fl_X_90) rfl d_X_hindrance_1 ?_
  refine lv_iload_n hx hb d_X_hindrance_4 rfl (lv_at hl 2 rfl) ?_
  refine lv_icmp_eq (tgt := 10) hx hb d_X_hindrance_5 (by decide) (fun c5 => ?_) (fun c5 => ?_)
  · refine lv_aload_n hx hb d_X_hindrance_10 rfl (lv_at hl 1 rfl) ?_
    refine lv_aload_n hx hb d_X_hindrance_11 rfl (lv_at hl 3 rfl) ?_
    refine rw_get hx hb hts in_T hown hK.1 (hw.2.2.2.1.2 j (hj)) rfl 0 (by decide) (hts _ fl_X_132) rfl d_X_hindrance_12 ?_
    refine lv_aload hx hb d_X_hindrance_15 (lv_at hl 4 rfl) ?_
    refine rw_get hx hb hts in_T hown hK.1 (hw.2.2.2.1.2 k (hk)) rfl 0 (by decide) (hts _ fl_X_132) rfl d_X_hindrance_17 ?_
    refine cl_i (W.runV (As := [.int ((u.2.2.2 j).1), .int ((u.2.2.2 k).1)]) (rest := []) S (c_R_isBetween (hw.2.1.2 i (hi)) ((u.2.2.2 j).1) ((u.2.2.2 k).1)) (cwV 2 hts gv_X_226 rfl rfl rfl (by decide +kernel) ⟨Nat.le_of_ble_eq_true rfl, Nat.le_of_ble_eq_true rfl⟩) (cP_V (KG_ok _) hK hK.1 (hw.2.1.2 i (hi)) rfl) rfl rfl hl.1 rfl (lv_room (Nat.le_of_ble_eq_true rfl)) d_X_hindrance_20 ⟨Nat.le_of_ble_eq_true rfl, Nat.le_of_ble_eq_true rfl⟩) ?_
    refine lv_if_ne (tgt := 28) hx hb d_X_hindrance_23 (by decide) (fun c23 => ?_) (fun c23 => ?_)
    · refine lv_aload_n hx hb d_X_hindrance_28 rfl (lv_at hl 1 rfl) ?_
      refine lv_aload_n hx hb d_X_hindrance_29 rfl (lv_at hl 3 rfl) ?_
      refine rw_get hx hb hts in_T hown hK.1 (hw.2.2.2.1.2 j (hj)) rfl 1 (by decide) (hts _ fl_X_135) rfl d_X_hindrance_30 ?_
      refine cl_i (W.runV (As := [.int ((u.2.2.2 j).2.1)]) (rest := []) S (c_R_isForLayer (hw.2.1.2 i (hi)) ((u.2.2.2 j).2.1)) (cwV 1 hts gv_X_174 rfl rfl rfl (by decide +kernel) ⟨Nat.le_of_ble_eq_true rfl, Nat.le_of_ble_eq_true rfl⟩) (cP_V (KG_ok _) hK hK.1 (hw.2.1.2 i (hi)) rfl) rfl rfl hl.1 rfl (lv_room (Nat.le_of_ble_eq_true rfl)) d_X_hindrance_33 ⟨Nat.le_of_ble_eq_true rfl, Nat.le_of_ble_eq_true rfl⟩) ?_
      refine lv_if_eq (tgt := 51) hx hb d_X_hindrance_36 (by decide) (fun c36 => ?_) (fun c36 => ?_)
      · refine lv_iconst (v := 3) hx hb d_X_hindrance_51 (by decide) ?_
        exact rt_i hQ hx hb hr hlk hs (rfl) (by (try simp only [bI_eq, bI_ne] at c5 c23 c36); simp [hindF, arB, c5, c23, c36]) d_X_hindrance_52
      · refine lv_aload_n hx hb d_X_hindrance_39 rfl (lv_at hl 1 rfl) ?_
        refine lv_aload hx hb d_X_hindrance_40 (lv_at hl 4 rfl) ?_
        refine rw_get hx hb hts in_T hown hK.1 (hw.2.2.2.1.2 k (hk)) rfl 1 (by decide) (hts _ fl_X_135) rfl d_X_hindrance_42 ?_
        refine cl_i (W.runV (As := [.int ((u.2.2.2 k).2.1)]) (rest := []) S (c_R_isForLayer (hw.2.1.2 i (hi)) ((u.2.2.2 k).2.1)) (cwV 1 hts gv_X_174 rfl rfl rfl (by decide +kernel) ⟨Nat.le_of_ble_eq_true rfl, Nat.le_of_ble_eq_true rfl⟩) (cP_V (KG_ok _) hK hK.1 (hw.2.1.2 i (hi)) rfl) rfl rfl hl.1 rfl (lv_room (Nat.le_of_ble_eq_true rfl)) d_X_hindrance_45 ⟨Nat.le_of_ble_eq_true rfl, Nat.le_of_ble_eq_true rfl⟩) ?_
        refine lv_if_ne (tgt := 53) hx hb d_X_hindrance_48 (by decide) (fun c48 => ?_) (fun c48 => ?_)
        · refine lv_aload_n hx hb d_X_hindrance_53 rfl (lv_at hl 1 rfl) ?_
          refine rw_get hx hb hts in_R hown hK.1 (hw.2.1.2 i (hi)) rfl 6 (by decide) (hts _ fl_X_110) rfl d_X_hindrance_54 ?_
          refine lv_iconst (v := (-1)) hx hb d_X_hindrance_57 (by decide) ?_
          refine lv_icmp_eq (tgt := 111) hx hb d_X_hindrance_58 (by decide) (fun c58 => ?_) (fun c58 => ?_)
          · refine lv_iconst (v := 0) hx hb d_X_hindrance_111 (by decide) ?_
            exact rt_i hQ hx hb hr hlk hs (rfl) (by have g58 : (u.2.1 i).2.2.2.2.2.2 = none := oI_m1 (fun a h => Nat.lt_trans (xB_12 hw.2.2.2.2 hi h) (by decide)) c58; (try simp only [bI_eq, bI_ne] at c5 c23 c36 c48 c58); simp [hindF, arB, g58, c5, c23, c36, c48]) d_X_hindrance_112
          · obtain ⟨a9, ha9⟩ := oI_no c58
            have hb9 : a9 < 12 := xB_12 hw.2.2.2.2 hi ha9
            refine lv_aload_n hx hb d_X_hindrance_61 rfl (lv_at hl 0 rfl) ?_
            refine rw_get hx hb hts in_X hown hK.1 hw.1 rfl 2 (by decide) (hts _ fl_X_31) rfl d_X_hindrance_62 ?_
            refine lv_aload_n hx hb d_X_hindrance_65 rfl (lv_at hl 1 rfl) ?_
            refine rw_get hx hb hts in_R hown hK.1 (hw.2.1.2 i (hi)) rfl 6 (by decide) (hts _ fl_X_110) rfl d_X_hindrance_66 ?_
            refine rw_aald hx hb hK.1 4 hw.2.2.1.1 rfl a9 (by rw [ha9]; rfl) (hb9) (by decide) rfl d_X_hindrance_69 ?_
            refine lv_aload_n hx hb d_X_hindrance_70 rfl (lv_at hl 3 rfl) ?_
            refine rw_get hx hb hts in_T hown hK.1 (hw.2.2.2.1.2 j (hj)) rfl 2 (by decide) (hts _ fl_X_141) rfl d_X_hindrance_71 ?_
            refine lv_aload_n hx hb d_X_hindrance_74 rfl (lv_at hl 3 rfl) ?_
            refine rw_get hx hb hts in_T hown hK.1 (hw.2.2.2.1.2 j (hj)) rfl 3 (by decide) (hts _ fl_X_145) rfl d_X_hindrance_75 ?_
            refine cl_i (W.runV (As := [.long ((u.2.2.2 j).2.2.1), .long ((u.2.2.2 j).2.2.2)]) (rest := []) S (c_A_holds (hw.2.2.1.2 a9 (hb9)) ((u.2.2.2 j).2.2.1) ((u.2.2.2 j).2.2.2)) (cwV 2 hts gv_X_229 rfl rfl rfl (by decide +kernel) ⟨Nat.le_of_ble_eq_true rfl, Nat.le_of_ble_eq_true rfl⟩) (cP_V (KG_ok _) hK hK.1 (hw.2.2.1.2 a9 (hb9)) rfl) rfl rfl hl.1 rfl (lv_room (Nat.le_of_ble_eq_true rfl)) d_X_hindrance_78 ⟨Nat.le_of_ble_eq_true rfl, Nat.le_of_ble_eq_true rfl⟩) ?_
            refine lv_if_eq (tgt := 109) hx hb d_X_hindrance_81 (by decide) (fun c81 => ?_) (fun c81 => ?_)
            · refine lv_iconst (v := 4) hx hb d_X_hindrance_109 (by decide) ?_
              exact rt_i hQ hx hb hr hlk hs (rfl) (by (try simp only [bI_eq, bI_ne] at c5 c23 c36 c48 c58 c81); simp [hindF, arB, ha9, c5, c23, c36, c48, c58, c81]) d_X_hindrance_110
            · refine lv_aload_n hx hb d_X_hindrance_84 rfl (lv_at hl 0 rfl) ?_
              refine rw_get hx hb hts in_X hown hK.1 hw.1 rfl 2 (by decide) (hts _ fl_X_31) rfl d_X_hindrance_85 ?_
              refine lv_aload_n hx hb d_X_hindrance_88 rfl (lv_at hl 1 rfl) ?_
              refine rw_get hx hb hts in_R hown hK.1 (hw.2.1.2 i (hi)) rfl 6 (by decide) (hts _ fl_X_110) rfl d_X_hindrance_89 ?_
              refine rw_aald hx hb hK.1 4 hw.2.2.1.1 rfl a9 (by rw [ha9]; rfl) (hb9) (by decide) rfl d_X_hindrance_92 ?_
              refine lv_aload hx hb d_X_hindrance_93 (lv_at hl 4 rfl) ?_
              refine rw_get hx hb hts in_T hown hK.1 (hw.2.2.2.1.2 k (hk)) rfl 2 (by decide) (hts _ fl_X_141) rfl d_X_hindrance_95 ?_
              refine lv_aload hx hb d_X_hindrance_98 (lv_at hl 4 rfl) ?_
              refine rw_get hx hb hts in_T hown hK.1 (hw.2.2.2.1.2 k (hk)) rfl 3 (by decide) (hts _ fl_X_145) rfl d_X_hindrance_100 ?_
              refine cl_i (W.runV (As := [.long ((u.2.2.2 k).2.2.1), .long ((u.2.2.2 k).2.2.2)]) (rest := []) S (c_A_holds (hw.2.2.1.2 a9 (hb9)) ((u.2.2.2 k).2.2.1) ((u.2.2.2 k).2.2.2)) (cwV 2 hts gv_X_229 rfl rfl rfl (by decide +kernel) ⟨Nat.le_of_ble_eq_true rfl, Nat.le_of_ble_eq_true rfl⟩) (cP_V (KG_ok _) hK hK.1 (hw.2.2.1.2 a9 (hb9)) rfl) rfl rfl hl.1 rfl (lv_room (Nat.le_of_ble_eq_true rfl)) d_X_hindrance_103 ⟨Nat.le_of_ble_eq_true rfl, Nat.le_of_ble_eq_true rfl⟩) ?_
              refine lv_if_ne (tgt := 111) hx hb d_X_hindrance_106 (by decide) (fun c106 => ?_) (fun c106 => ?_)
              · refine lv_iconst (v := 0) hx hb d_X_hindrance_111 (by decide) ?_
                exact rt_i hQ hx hb hr hlk hs (rfl) (by (try simp only [bI_eq, bI_ne] at c5 c23 c36 c48 c58 c81 c106); simp [hindF, arB, ha9, c5, c23, c36, c48, c58, c81, c106]) d_X_hindrance_112
              · refine lv_iconst (v := 4) hx hb d_X_hindrance_109 (by decide) ?_
                exact rt_i hQ hx hb hr hlk hs (rfl) (by (try simp only [bI_eq, bI_ne] at c5 c23 c36 c48 c58 c81 c106); simp [hindF, arB, ha9, c5, c23, c36, c48, c58, c81, c106]) d_X_hindrance_110
        · refine lv_iconst (v := 3) hx hb d_X_hindrance_51 (by decide) ?_
          exact rt_i hQ hx hb hr hlk hs (rfl) (by (try simp only [bI_eq, bI_ne] at c5 c23 c36 c48); simp [hindF, arB, c5, c23, c36, c48]) d_X_hindrance_52
    · refine lv_iconst (v := 2) hx hb d_X_hindrance_26 (by decide) ?_
      exact rt_i hQ hx hb hr hlk hs (rfl) (by (try simp only [bI_eq, bI_ne] at c5 c23); simp [hindF, arB, c5, c23]) d_X_hindrance_27
  · refine lv_iconst (v := 1) hx hb d_X_hindrance_8 (by decide) ?_
    exact rt_i hQ hx hb hr hlk hs (rfl) (by (try simp only [bI_eq, bI_ne] at c5); simp [hindF, arB, c5]) d_X_hindrance_9
def rm_X_beats : Room := { frames := 0, cells := 0, slots := 0, locals := 0 }
set_option maxRecDepth 100000 in
set_option maxHeartbeats 4000000 in
theorem c_X_beats {l : Launch} {ev : EV} {H0 : Heap} {b : Nat} {u : XS} (hw : XW ev b u H0) {i j : Nat} {x y : Int32} (ex : x = nI i) (ey : y = nI j) (hi : i < 40) (hj : j < 40) : Met l my_X_beats mw_X_beats rm_X_beats (cP [.ref b, .int x, .int y] (KG ev) H0) (cQp (some (.int (bI (ahB u.2.1 i j))))) 0 0 cNo := by
  refine cHead [.ref b, .int x, .int y] (by decide) rfl (Nat.le_of_ble_eq_true rfl) ?_
  intro p e s m below meth c ls args QQ hQ S hr hlk hnm hs hK hl
  have S : CallFix p m c mb_X_beats 5 s args TB "RuleChoice" := S
  obtain ⟨hx, hb, hml, hown, hts⟩ := id S
  subst ex; subst ey
  have hl : lv_has ls 5 [(0, .ref b), (1, .int (nI i)), (2, .int (nI j))] := hl
  refine lv_aload_n hx hb d_X_beats_0 rfl (lv_at hl 0 rfl) ?_
  refine rw_get hx hb hts in_X hown hK.1 hw.1 rfl 1 (by decide) (hts _ fl_X_24) rfl d_X_beats_1 ?_
  refine lv_iload_n hx hb d_X_beats_4 rfl (lv_at hl 1 rfl) ?_
  refine rw_aald hx hb hK.1 3 hw.2.1.1 rfl i (rfl) (hi) (by decide) rfl d_X_beats_5 ?_
  refine rw_get hx hb hts in_R hown hK.1 (hw.2.1.2 i (hi)) rfl 5 (by decide) (hts _ fl_X_87) rfl d_X_beats_6 ?_
  refine lv_istore_n (lv' := [(3, .int ((u.2.1 i).2.2.2.2.2.1)), (0, .ref b), (1, .int (nI i)), (2, .int (nI j))]) hx hb d_X_beats_9 rfl hl (by decide) rfl (fun ls hl => ?_)
  refine lv_aload_n hx hb d_X_beats_10 rfl (lv_at hl 1 rfl) ?_
  refine rw_get hx hb hts in_X hown hK.1 hw.1 rfl 1 (by decide) (hts _ fl_X_24) rfl d_X_beats_11 ?_
  refine lv_iload_n hx hb d_X_beats_14 rfl (lv_at hl 3 rfl) ?_
  refine rw_aald hx hb hK.1 3 hw.2.1.1 rfl j (rfl) (hj) (by decide) rfl d_X_beats_15 ?_
  refine rw_get hx hb hts in_R hown hK.1 (hw.2.1.2 j (hj)) rfl 5 (by decide) (hts _ fl_X_87) rfl d_X_beats_16 ?_
  refine lv_istore (lv' := [(4, .int ((u.2.1 j).2.2.2.2.2.1)), (3, .int ((u.2.1 i).2.2.2.2.2.1)), (0, .ref b), (1, .int (nI i)), (2, .int (nI j))]) hx hb d_X_beats_19 hl (by decide) rfl (fun ls hl => ?_)
  refine lv_iload_n hx hb d_X_beats_21 rfl (lv_at hl 1 rfl) ?_
  refine lv_iload hx hb d_X_beats_22 (lv_at hl 0 rfl) ?_
  refine lv_icmp_gt (tgt := 38) hx hb d_X_beats_24 (by decide) (fun c24 => ?_) (fun c24 => ?_)
  · refine lv_iconst (v := 1) hx hb d_X_beats_38 (by decide) ?_
    refine lv_goto (tgt := 43) hx hb d_X_beats_39 (by decide) ?_
    exact rt_i hQ hx hb hr hlk hs (rfl) (by simp [ahB, bI, c24, Int32.not_le.mpr c24]) d_X_beats_43
  · refine lv_iload_n hx hb d_X_beats_27 rfl (lv_at hl 1 rfl) ?_
    refine lv_iload hx hb d_X_beats_28 (lv_at hl 0 rfl) ?_
    refine lv_icmp_ne (tgt := 42) hx hb d_X_beats_30 (by decide) (fun c30 => ?_) (fun c30 => ?_)
    · refine lv_iconst (v := 0) hx hb d_X_beats_42 (by decide) ?_
      exact rt_i hQ hx hb hr hlk hs (rfl) (by simp [ahB, bI, c24, c30, Int32.not_lt.mp c24]) d_X_beats_43
    · refine lv_iload_n hx hb d_X_beats_33 rfl (lv_at hl 3 rfl) ?_
      refine lv_iload_n hx hb d_X_beats_34 rfl (lv_at hl 4 rfl) ?_
      refine lv_icmp_le (tgt := 42) hx hb d_X_beats_35 (by decide) (fun c35 => ?_) (fun c35 => ?_)
      · refine lv_iconst (v := 0) hx hb d_X_beats_42 (by decide) ?_
        exact rt_i hQ hx hb hr hlk hs (rfl) (by have g35 : ¬ j < i := Nat.not_lt.mpr ((nI_leI (by omega) (by omega)).mp c35); simp [ahB, bI, c24, c30, g35, Int32.not_lt.mp c24]) d_X_beats_43
      · refine lv_iconst (v := 1) hx hb d_X_beats_38 (by decide) ?_
        refine lv_goto (tgt := 43) hx hb d_X_beats_39 (by decide) ?_
        exact rt_i hQ hx hb hr hlk hs (rfl) (by have g35 : j < i := Nat.not_le.mp (fun h => c35 ((nI_leI (by omega) (by omega)).mpr h)); simp [ahB, bI, c24, c30, g35, Int32.not_lt.mp c24]) d_X_beats_43
def rm_X_bestBelow : Room := { frames := 3, cells := 0, slots := 0, locals := 67 }
set_option maxRecDepth 100000 in
set_option maxHeartbeats 4000000 in
theorem c_X_bestBelow {l : Launch} {ev : EV} {H0 : Heap} {b : Nat} {u : XS} (hw : XW ev b u H0) {up : Option Nat} {j k : Nat} (hu : ∀ a, up = some a → a < 40) (hj : j < 40) (hk : k < 40) (kind : Int32) : Met l my_X_bestBelow mw_X_bestBelow rm_X_bestBelow (cP [.ref b, .int (oI up), .int kind, .ref (b + 56 + j), .ref (b + 56 + k)] (KG ev) H0) (cQp (some (.int (oI (besF u.2.1 u.2.2.1 up kind (u.2.2.2 j) (u.2.2.2 k) u.1.2.1))))) 0 0 cNo := by
  refine cHead [.ref b, .int (oI up), .int kind, .ref (b + 56 + j), .ref (b + 56 + k)] (by decide) rfl (Nat.le_of_ble_eq_true rfl) ?_
  intro p e s m below meth c ls args QQ hQ S hr hlk hnm hs hK hl
  have S : CallFix p m c mb_X_bestBelow 8 s args TB "RuleChoice" := S
  obtain ⟨hx, hb, hml, hown, hts⟩ := id S
  have hn40 : u.1.2.1 ≤ 40 := hw.2.2.2.2.1
  have hl : lv_has ls 8 [(0, .ref b), (1, .int (oI up)), (2, .int kind), (3, .ref (b + 56 + j)), (4, .ref (b + 56 + k))] := hl
  refine lv_iconst (v := (-1)) hx hb d_X_bestBelow_0 (by decide) ?_
  refine lv_istore (lv' := [(5, .int (-1)), (0, .ref b), (1, .int (oI up)), (2, .int kind), (3, .ref (b + 56 + j)), (4, .ref (b + 56 + k))]) hx hb d_X_bestBelow_1 hl (by decide) rfl (fun ls hl => ?_)
  refine lv_iconst (v := 0) hx hb d_X_bestBelow_3 (by decide) ?_
  refine lv_istore (lv' := [(6, .int 0), (5, .int (-1)), (0, .ref b), (1, .int (oI up)), (2, .int kind), (3, .ref (b + 56 + j)), (4, .ref (b + 56 + k))]) hx hb d_X_bestBelow_4 hl (by decide) rfl (fun ls hl => ?_)
  have LP : ∀ (n i : Nat) (bs : Int32) (ls : Array Slot), bs = oI (besF u.2.1 u.2.2.1 up kind (u.2.2.2 j) (u.2.2.2 k) i) → i ≤ u.1.2.1 → u.1.2.1 - i < n → lv_has ls 8 [(0, .ref b), (1, .int (oI up)), (2, .int kind), (3, .ref (b + 56 + j)), (4, .ref (b + 56 + k)), (5, .int bs), (6, .int (nI i))] → W p l e rm_X_bestBelow s m args below meth c H0 [] 0 0 QQ (F0 m 6 ls []) := by
    intro n
    induction n with
    | zero => intro i bs ls h1 h2 h3; exact absurd h3 (by omega)
    | succ n ih =>
      intro i bs ls ebs hle hn hl
      refine lv_iload hx hb d_X_bestBelow_6 (lv_at hl 6 rfl) ?_
      refine lv_aload_n hx hb d_X_bestBelow_8 rfl (lv_at hl 0 rfl) ?_
      refine rw_get hx hb hts in_X hown hK.1 hw.1 rfl 6 (by decide) (hts _ fl_X_71) rfl d_X_bestBelow_9 ?_
      refine lv_icmp_ge (tgt := 87) hx hb d_X_bestBelow_12 (by decide) (fun c12 => ?_) (fun c12 => ?_)
      · refine lv_iload hx hb d_X_bestBelow_87 (lv_at hl 5 rfl) ?_
        exact rt_i hQ hx hb hr hlk hs (rfl) (by rw [ebs]; congr 2; exact Nat.le_antisymm hle (Nat.not_lt.mp (fun h => absurd c12 (nI_ge h (by omega))))) d_X_bestBelow_89
      · have hlt : i < u.1.2.1 := Nat.not_le.mp (fun h => c12 (nI_le h (by omega)))
        have h40 : i < 40 := by omega
        refine lv_iload_n hx hb d_X_bestBelow_15 rfl (lv_at hl 1 rfl) ?_
        refine lv_iconst (v := (-1)) hx hb d_X_bestBelow_16 (by decide) ?_
        refine lv_icmp_eq (tgt := 30) hx hb d_X_bestBelow_17 (by decide) (fun c17 => ?_) (fun c17 => ?_)
        · have gup : up = none := oI_m1 (fun a h => Nat.lt_trans (hu a h) (by decide)) c17
          refine lv_iload hx hb d_X_bestBelow_30 (lv_at hl 5 rfl) ?_
          refine lv_iconst (v := (-1)) hx hb d_X_bestBelow_32 (by decide) ?_
          refine lv_icmp_eq (tgt := 47) hx hb d_X_bestBelow_33 (by decide) (fun c33 => ?_) (fun c33 => ?_)
          · have g33 : besF u.2.1 u.2.2.1 up kind (u.2.2.2 j) (u.2.2.2 k) i = none := oI_m1 (fun a h => Nat.lt_trans (besF_lt i a h) (by omega)) (by rw [← ebs]; exact c33)
            refine lv_iconst (v := 1) hx hb d_X_bestBelow_47 (by decide) ?_
            refine lv_goto (tgt := 52) hx hb d_X_bestBelow_48 (by decide) ?_
            refine lv_istore (lv' := [(7, .int 1), (0, .ref b), (1, .int (oI up)), (2, .int kind), (3, .ref (b + 56 + j)), (4, .ref (b + 56 + k)), (5, .int bs), (6, .int (nI i))]) hx hb d_X_bestBelow_52 hl (by decide) rfl (fun ls hl => ?_)
            refine lv_iload hx hb d_X_bestBelow_54 (lv_at hl 0 rfl) ?_
            refine lv_if_eq (tgt := 81) hx hb d_X_bestBelow_56 (by decide) (fun c56 => ?_) (fun c56 => ?_)
            · exact absurd c56 (by decide)
            · refine lv_aload_n hx hb d_X_bestBelow_59 rfl (lv_at hl 1 rfl) ?_
              refine lv_aload_n hx hb d_X_bestBelow_60 rfl (lv_at hl 1 rfl) ?_
              refine rw_get hx hb hts in_X hown hK.1 hw.1 rfl 1 (by decide) (hts _ fl_X_24) rfl d_X_bestBelow_61 ?_
              refine lv_iload hx hb d_X_bestBelow_64 (lv_at hl 7 rfl) ?_
              refine rw_aald hx hb hK.1 3 hw.2.1.1 rfl i (rfl) (h40) (by decide) rfl d_X_bestBelow_66 ?_
              refine lv_iload_n hx hb d_X_bestBelow_67 rfl (lv_at hl 3 rfl) ?_
              refine lv_aload_n hx hb d_X_bestBelow_68 rfl (lv_at hl 4 rfl) ?_
              refine lv_aload hx hb d_X_bestBelow_69 (lv_at hl 5 rfl) ?_
              refine cl_i (W.runV (As := [.ref (b + 2 + i), .int kind, .ref (b + 56 + j), .ref (b + 56 + k)]) (rest := []) S (c_X_hindrance hw (i := i) (j := j) (k := k) (h40) (hj) (hk) kind) (cwV 4 hts gv_X_168 rfl rfl rfl (by decide +kernel) ⟨Nat.le_of_ble_eq_true rfl, Nat.le_of_ble_eq_true rfl⟩) (cP_V (KG_ok _) hK hK.1 hw.1 rfl) rfl rfl hl.1 rfl (lv_room (Nat.le_of_ble_eq_true rfl)) d_X_bestBelow_71 ⟨Nat.le_of_ble_eq_true rfl, Nat.le_of_ble_eq_true rfl⟩) ?_
              refine lv_if_ne (tgt := 81) hx hb d_X_bestBelow_74 (by decide) (fun c74 => ?_) (fun c74 => ?_)
              · refine lv_iinc (v := (nI (i + 1))) (lv' := [(6, .int (nI (i + 1))), (7, .int 1), (0, .ref b), (1, .int (oI up)), (2, .int kind), (3, .ref (b + 56 + j)), (4, .ref (b + 56 + k)), (5, .int bs)]) hx hb d_X_bestBelow_81 hl (k := 7) rfl ((nI_1 i)) (by decide) rfl (fun ls hl => ?_)
                refine lv_goto (tgt := 6) hx hb d_X_bestBelow_84 (by decide) ?_
                exact ih (i + 1) _ ls (by rw [besF_m (mat_f c74)]; exact ebs) (by omega) (by omega) (lv_sub hl [2, 3, 4, 5, 6, 7, 0] rfl)
              · refine lv_iload hx hb d_X_bestBelow_77 (lv_at hl 7 rfl) ?_
                refine lv_istore (lv' := [(5, .int (nI i)), (7, .int 1), (0, .ref b), (1, .int (oI up)), (2, .int kind), (3, .ref (b + 56 + j)), (4, .ref (b + 56 + k)), (6, .int (nI i))]) hx hb d_X_bestBelow_79 hl (by decide) rfl (fun ls hl => ?_)
                refine lv_iinc (v := (nI (i + 1))) (lv' := [(6, .int (nI (i + 1))), (5, .int (nI i)), (7, .int 1), (0, .ref b), (1, .int (oI up)), (2, .int kind), (3, .ref (b + 56 + j)), (4, .ref (b + 56 + k))]) hx hb d_X_bestBelow_81 hl (k := 7) rfl ((nI_1 i)) (by decide) rfl (fun ls hl => ?_)
                refine lv_goto (tgt := 6) hx hb d_X_bestBelow_84 (by decide) ?_
                exact ih (i + 1) _ ls (by rw [besF_y (by rw [gup]; rfl) (by rw [g33]; rfl) ((hind_mat _ _ _ _ _).mp c74)]; rfl) (by omega) (by omega) (lv_sub hl [3, 4, 5, 6, 7, 1, 0] rfl)
          · obtain ⟨j2, g33⟩ : ∃ a, besF u.2.1 u.2.2.1 up kind (u.2.2.2 j) (u.2.2.2 k) i = some a := oI_no (by rw [← ebs]; exact c33)
            have hj2 : j2 < 40 := Nat.lt_of_lt_of_le (besF_lt i j2 g33) (by omega)
            refine lv_aload_n hx hb d_X_bestBelow_36 rfl (lv_at hl 0 rfl) ?_
            refine lv_iload hx hb d_X_bestBelow_37 (lv_at hl 6 rfl) ?_
            refine lv_iload hx hb d_X_bestBelow_39 (lv_at hl 5 rfl) ?_
            refine cl_i (W.runV (As := [.int (nI i), .int bs]) (rest := []) S (c_X_beats hw (i := i) (j := j2) (rfl) (by rw [ebs, g33]; rfl) (h40) (hj2)) (cwV 2 hts gv_X_222 rfl rfl rfl (by decide +kernel) ⟨Nat.le_of_ble_eq_true rfl, Nat.le_of_ble_eq_true rfl⟩) (cP_V (KG_ok _) hK hK.1 hw.1 rfl) rfl rfl hl.1 rfl (lv_room (Nat.le_of_ble_eq_true rfl)) d_X_bestBelow_41 ⟨Nat.le_of_ble_eq_true rfl, Nat.le_of_ble_eq_true rfl⟩) ?_
            refine lv_if_eq (tgt := 51) hx hb d_X_bestBelow_44 (by decide) (fun c44 => ?_) (fun c44 => ?_)
            · refine lv_iconst (v := 0) hx hb d_X_bestBelow_51 (by decide) ?_
              refine lv_istore (lv' := [(7, .int 0), (0, .ref b), (1, .int (oI up)), (2, .int kind), (3, .ref (b + 56 + j)), (4, .ref (b + 56 + k)), (5, .int bs), (6, .int (nI i))]) hx hb d_X_bestBelow_52 hl (by decide) rfl (fun ls hl => ?_)
              refine lv_iload hx hb d_X_bestBelow_54 (lv_at hl 0 rfl) ?_
              refine lv_if_eq (tgt := 81) hx hb d_X_bestBelow_56 (by decide) (fun c56 => ?_) (fun c56 => ?_)
              · refine lv_iinc (v := (nI (i + 1))) (lv' := [(6, .int (nI (i + 1))), (7, .int 0), (0, .ref b), (1, .int (oI up)), (2, .int kind), (3, .ref (b + 56 + j)), (4, .ref (b + 56 + k)), (5, .int bs)]) hx hb d_X_bestBelow_81 hl (k := 7) rfl ((nI_1 i)) (by decide) rfl (fun ls hl => ?_)
                refine lv_goto (tgt := 6) hx hb d_X_bestBelow_84 (by decide) ?_
                exact ih (i + 1) _ ls (by rw [besF_b (by simp only [bI_eq] at c44; rw [g33]; exact c44)]; exact ebs) (by omega) (by omega) (lv_sub hl [2, 3, 4, 5, 6, 7, 0] rfl)
              · exact absurd c56 (by decide)
            · refine lv_iconst (v := 1) hx hb d_X_bestBelow_47 (by decide) ?_
              refine lv_goto (tgt := 52) hx hb d_X_bestBelow_48 (by decide) ?_
              refine lv_istore (lv' := [(7, .int 1), (0, .ref b), (1, .int (oI up)), (2, .int kind), (3, .ref (b + 56 + j)), (4, .ref (b + 56 + k)), (5, .int bs), (6, .int (nI i))]) hx hb d_X_bestBelow_52 hl (by decide) rfl (fun ls hl => ?_)
              refine lv_iload hx hb d_X_bestBelow_54 (lv_at hl 0 rfl) ?_
              refine lv_if_eq (tgt := 81) hx hb d_X_bestBelow_56 (by decide) (fun c56 => ?_) (fun c56 => ?_)
              · exact absurd c56 (by decide)
              · refine lv_aload_n hx hb d_X_bestBelow_59 rfl (lv_at hl 1 rfl) ?_
                refine lv_aload_n hx hb d_X_bestBelow_60 rfl (lv_at hl 1 rfl) ?_
                refine rw_get hx hb hts in_X hown hK.1 hw.1 rfl 1 (by decide) (hts _ fl_X_24) rfl d_X_bestBelow_61 ?_
                refine lv_iload hx hb d_X_bestBelow_64 (lv_at hl 7 rfl) ?_
                refine rw_aald hx hb hK.1 3 hw.2.1.1 rfl i (rfl) (h40) (by decide) rfl d_X_bestBelow_66 ?_
                refine lv_iload_n hx hb d_X_bestBelow_67 rfl (lv_at hl 3 rfl) ?_
                refine lv_aload_n hx hb d_X_bestBelow_68 rfl (lv_at hl 4 rfl) ?_
                refine lv_aload hx hb d_X_bestBelow_69 (lv_at hl 5 rfl) ?_
                refine cl_i (W.runV (As := [.ref (b + 2 + i), .int kind, .ref (b + 56 + j), .ref (b + 56 + k)]) (rest := []) S (c_X_hindrance hw (i := i) (j := j) (k := k) (h40) (hj) (hk) kind) (cwV 4 hts gv_X_168 rfl rfl rfl (by decide +kernel) ⟨Nat.le_of_ble_eq_true rfl, Nat.le_of_ble_eq_true rfl⟩) (cP_V (KG_ok _) hK hK.1 hw.1 rfl) rfl rfl hl.1 rfl (lv_room (Nat.le_of_ble_eq_true rfl)) d_X_bestBelow_71 ⟨Nat.le_of_ble_eq_true rfl, Nat.le_of_ble_eq_true rfl⟩) ?_
                refine lv_if_ne (tgt := 81) hx hb d_X_bestBelow_74 (by decide) (fun c74 => ?_) (fun c74 => ?_)
                · refine lv_iinc (v := (nI (i + 1))) (lv' := [(6, .int (nI (i + 1))), (7, .int 1), (0, .ref b), (1, .int (oI up)), (2, .int kind), (3, .ref (b + 56 + j)), (4, .ref (b + 56 + k)), (5, .int bs)]) hx hb d_X_bestBelow_81 hl (k := 7) rfl ((nI_1 i)) (by decide) rfl (fun ls hl => ?_)
                  refine lv_goto (tgt := 6) hx hb d_X_bestBelow_84 (by decide) ?_
                  exact ih (i + 1) _ ls (by rw [besF_m (mat_f c74)]; exact ebs) (by omega) (by omega) (lv_sub hl [2, 3, 4, 5, 6, 7, 0] rfl)
                · refine lv_iload hx hb d_X_bestBelow_77 (lv_at hl 7 rfl) ?_
                  refine lv_istore (lv' := [(5, .int (nI i)), (7, .int 1), (0, .ref b), (1, .int (oI up)), (2, .int kind), (3, .ref (b + 56 + j)), (4, .ref (b + 56 + k)), (6, .int (nI i))]) hx hb d_X_bestBelow_79 hl (by decide) rfl (fun ls hl => ?_)
                  refine lv_iinc (v := (nI (i + 1))) (lv' := [(6, .int (nI (i + 1))), (5, .int (nI i)), (7, .int 1), (0, .ref b), (1, .int (oI up)), (2, .int kind), (3, .ref (b + 56 + j)), (4, .ref (b + 56 + k))]) hx hb d_X_bestBelow_81 hl (k := 7) rfl ((nI_1 i)) (by decide) rfl (fun ls hl => ?_)
                  refine lv_goto (tgt := 6) hx hb d_X_bestBelow_84 (by decide) ?_
                  exact ih (i + 1) _ ls (by rw [besF_y (by rw [gup]; rfl) (by simp only [bI_eq, Bool.not_eq_false] at c44; rw [g33]; exact c44) ((hind_mat _ _ _ _ _).mp c74)]; rfl) (by omega) (by omega) (lv_sub hl [3, 4, 5, 6, 7, 1, 0] rfl)
        · obtain ⟨j1, hup⟩ := oI_no c17
          have hj1 : j1 < 40 := hu j1 hup
          refine lv_aload_n hx hb d_X_bestBelow_20 rfl (lv_at hl 0 rfl) ?_
          refine lv_iload_n hx hb d_X_bestBelow_21 rfl (lv_at hl 1 rfl) ?_
          refine lv_iload hx hb d_X_bestBelow_22 (lv_at hl 6 rfl) ?_
          refine cl_i (W.runV (As := [.int (oI up), .int (nI i)]) (rest := []) S (c_X_beats hw (i := j1) (j := i) (by rw [hup]; rfl) (rfl) (hj1) (h40)) (cwV 2 hts gv_X_222 rfl rfl rfl (by decide +kernel) ⟨Nat.le_of_ble_eq_true rfl, Nat.le_of_ble_eq_true rfl⟩) (cP_V (KG_ok _) hK hK.1 hw.1 rfl) rfl rfl hl.1 rfl (lv_room (Nat.le_of_ble_eq_true rfl)) d_X_bestBelow_24 ⟨Nat.le_of_ble_eq_true rfl, Nat.le_of_ble_eq_true rfl⟩) ?_
          refine lv_if_eq (tgt := 51) hx hb d_X_bestBelow_27 (by decide) (fun c27 => ?_) (fun c27 => ?_)
          · refine lv_iconst (v := 0) hx hb d_X_bestBelow_51 (by decide) ?_
            refine lv_istore (lv' := [(7, .int 0), (0, .ref b), (1, .int (oI up)), (2, .int kind), (3, .ref (b + 56 + j)), (4, .ref (b + 56 + k)), (5, .int bs), (6, .int (nI i))]) hx hb d_X_bestBelow_52 hl (by decide) rfl (fun ls hl => ?_)
            refine lv_iload hx hb d_X_bestBelow_54 (lv_at hl 0 rfl) ?_
            refine lv_if_eq (tgt := 81) hx hb d_X_bestBelow_56 (by decide) (fun c56 => ?_) (fun c56 => ?_)
            · refine lv_iinc (v := (nI (i + 1))) (lv' := [(6, .int (nI (i + 1))), (7, .int 0), (0, .ref b), (1, .int (oI up)), (2, .int kind), (3, .ref (b + 56 + j)), (4, .ref (b + 56 + k)), (5, .int bs)]) hx hb d_X_bestBelow_81 hl (k := 7) rfl ((nI_1 i)) (by decide) rfl (fun ls hl => ?_)
              refine lv_goto (tgt := 6) hx hb d_X_bestBelow_84 (by decide) ?_
              exact ih (i + 1) _ ls (by rw [besF_u (by simp only [bI_eq] at c27; rw [hup]; exact c27)]; exact ebs) (by omega) (by omega) (lv_sub hl [2, 3, 4, 5, 6, 7, 0] rfl)
            · exact absurd c56 (by decide)
          · refine lv_iload hx hb d_X_bestBelow_30 (lv_at hl 5 rfl) ?_
            refine lv_iconst (v := (-1)) hx hb d_X_bestBelow_32 (by decide) ?_
            refine lv_icmp_eq (tgt := 47) hx hb d_X_bestBelow_33 (by decide) (fun c33 => ?_) (fun c33 => ?_)
            · have g33 : besF u.2.1 u.2.2.1 up kind (u.2.2.2 j) (u.2.2.2 k) i = none := oI_m1 (fun a h => Nat.lt_trans (besF_lt i a h) (by omega)) (by rw [← ebs]; exact c33)
              refine lv_iconst (v := 1) hx hb d_X_bestBelow_47 (by decide) ?_
              refine lv_goto (tgt := 52) hx hb d_X_bestBelow_48 (by decide) ?_
              refine lv_istore (lv' := [(7, .int 1), (0, .ref b), (1, .int (oI up)), (2, .int kind), (3, .ref (b + 56 + j)), (4, .ref (b + 56 + k)), (5, .int bs), (6, .int (nI i))]) hx hb d_X_bestBelow_52 hl (by decide) rfl (fun ls hl => ?_)
              refine lv_iload hx hb d_X_bestBelow_54 (lv_at hl 0 rfl) ?_
              refine lv_if_eq (tgt := 81) hx hb d_X_bestBelow_56 (by decide) (fun c56 => ?_) (fun c56 => ?_)
              · exact absurd c56 (by decide)
              · refine lv_aload_n hx hb d_X_bestBelow_59 rfl (lv_at hl 1 rfl) ?_
                refine lv_aload_n hx hb d_X_bestBelow_60 rfl (lv_at hl 1 rfl) ?_
                refine rw_get hx hb hts in_X hown hK.1 hw.1 rfl 1 (by decide) (hts _ fl_X_24) rfl d_X_bestBelow_61 ?_
                refine lv_iload hx hb d_X_bestBelow_64 (lv_at hl 7 rfl) ?_
                refine rw_aald hx hb hK.1 3 hw.2.1.1 rfl i (rfl) (h40) (by decide) rfl d_X_bestBelow_66 ?_
                refine lv_iload_n hx hb d_X_bestBelow_67 rfl (lv_at hl 3 rfl) ?_
                refine lv_aload_n hx hb d_X_bestBelow_68 rfl (lv_at hl 4 rfl) ?_
                refine lv_aload hx hb d_X_bestBelow_69 (lv_at hl 5 rfl) ?_
                refine cl_i (W.runV (As := [.ref (b + 2 + i), .int kind, .ref (b + 56 + j), .ref (b + 56 + k)]) (rest := []) S (c_X_hindrance hw (i := i) (j := j) (k := k) (h40) (hj) (hk) kind) (cwV 4 hts gv_X_168 rfl rfl rfl (by decide +kernel) ⟨Nat.le_of_ble_eq_true rfl, Nat.le_of_ble_eq_true rfl⟩) (cP_V (KG_ok _) hK hK.1 hw.1 rfl) rfl rfl hl.1 rfl (lv_room (Nat.le_of_ble_eq_true rfl)) d_X_bestBelow_71 ⟨Nat.le_of_ble_eq_true rfl, Nat.le_of_ble_eq_true rfl⟩) ?_
                refine lv_if_ne (tgt := 81) hx hb d_X_bestBelow_74 (by decide) (fun c74 => ?_) (fun c74 => ?_)
                · refine lv_iinc (v := (nI (i + 1))) (lv' := [(6, .int (nI (i + 1))), (7, .int 1), (0, .ref b), (1, .int (oI up)), (2, .int kind), (3, .ref (b + 56 + j)), (4, .ref (b + 56 + k)), (5, .int bs)]) hx hb d_X_bestBelow_81 hl (k := 7) rfl ((nI_1 i)) (by decide) rfl (fun ls hl => ?_)
                  refine lv_goto (tgt := 6) hx hb d_X_bestBelow_84 (by decide) ?_
                  exact ih (i + 1) _ ls (by rw [besF_m (mat_f c74)]; exact ebs) (by omega) (by omega) (lv_sub hl [2, 3, 4, 5, 6, 7, 0] rfl)
                · refine lv_iload hx hb d_X_bestBelow_77 (lv_at hl 7 rfl) ?_
                  refine lv_istore (lv' := [(5, .int (nI i)), (7, .int 1), (0, .ref b), (1, .int (oI up)), (2, .int kind), (3, .ref (b + 56 + j)), (4, .ref (b + 56 + k)), (6, .int (nI i))]) hx hb d_X_bestBelow_79 hl (by decide) rfl (fun ls hl => ?_)
                  refine lv_iinc (v := (nI (i + 1))) (lv' := [(6, .int (nI (i + 1))), (5, .int (nI i)), (7, .int 1), (0, .ref b), (1, .int (oI up)), (2, .int kind), (3, .ref (b + 56 + j)), (4, .ref (b + 56 + k))]) hx hb d_X_bestBelow_81 hl (k := 7) rfl ((nI_1 i)) (by decide) rfl (fun ls hl => ?_)
                  refine lv_goto (tgt := 6) hx hb d_X_bestBelow_84 (by decide) ?_
                  exact ih (i + 1) _ ls (by rw [besF_y (by simp only [bI_eq, Bool.not_eq_false] at c27; rw [hup]; exact c27) (by rw [g33]; rfl) ((hind_mat _ _ _ _ _).mp c74)]; rfl) (by omega) (by omega) (lv_sub hl [3, 4, 5, 6, 7, 1, 0] rfl)
            · obtain ⟨j2, g33⟩ : ∃ a, besF u.2.1 u.2.2.1 up kind (u.2.2.2 j) (u.2.2.2 k) i = some a := oI_no (by rw [← ebs]; exact c33)
              have hj2 : j2 < 40 := Nat.lt_of_lt_of_le (besF_lt i j2 g33) (by omega)
              refine lv_aload_n hx hb d_X_bestBelow_36 rfl (lv_at hl 0 rfl) ?_
              refine lv_iload hx hb d_X_bestBelow_37 (lv_at hl 6 rfl) ?_
              refine lv_iload hx hb d_X_bestBelow_39 (lv_at hl 5 rfl) ?_
              refine cl_i (W.runV (As := [.int (nI i), .int bs]) (rest := []) S (c_X_beats hw (i := i) (j := j2) (rfl) (by rw [ebs, g33]; rfl) (h40) (hj2)) (cwV 2 hts gv_X_222 rfl rfl rfl (by decide +kernel) ⟨Nat.le_of_ble_eq_true rfl, Nat.le_of_ble_eq_true rfl⟩) (cP_V (KG_ok _) hK hK.1 hw.1 rfl) rfl rfl hl.1 rfl (lv_room (Nat.le_of_ble_eq_true rfl)) d_X_bestBelow_41 ⟨Nat.le_of_ble_eq_true rfl, Nat.le_of_ble_eq_true rfl⟩) ?_
              refine lv_if_eq (tgt := 51) hx hb d_X_bestBelow_44 (by decide) (fun c44 => ?_) (fun c44 => ?_)
              · refine lv_iconst (v := 0) hx hb d_X_bestBelow_51 (by decide) ?_
                refine lv_istore (lv' := [(7, .int 0), (0, .ref b), (1, .int (oI up)), (2, .int kind), (3, .ref (b + 56 + j)), (4, .ref (b + 56 + k)), (5, .int bs), (6, .int (nI i))]) hx hb d_X_bestBelow_52 hl (by decide) rfl (fun ls hl => ?_)
                refine lv_iload hx hb d_X_bestBelow_54 (lv_at hl 0 rfl) ?_
                refine lv_if_eq (tgt := 81) hx hb d_X_bestBelow_56 (by decide) (fun c56 => ?_) (fun c56 => ?_)
                · refine lv_iinc (v := (nI (i + 1))) (lv' := [(6, .int (nI (i + 1))), (7, .int 0), (0, .ref b), (1, .int (oI up)), (2, .int kind), (3, .ref (b + 56 + j)), (4, .ref (b + 56 + k)), (5, .int bs)]) hx hb d_X_bestBelow_81 hl (k := 7) rfl ((nI_1 i)) (by decide) rfl (fun ls hl => ?_)
                  refine lv_goto (tgt := 6) hx hb d_X_bestBelow_84 (by decide) ?_
                  exact ih (i + 1) _ ls (by rw [besF_b (by simp only [bI_eq] at c44; rw [g33]; exact c44)]; exact ebs) (by omega) (by omega) (lv_sub hl [2, 3, 4, 5, 6, 7, 0] rfl)
                · exact absurd c56 (by decide)
              · refine lv_iconst (v := 1) hx hb d_X_bestBelow_47 (by decide) ?_
                refine lv_goto (tgt := 52) hx hb d_X_bestBelow_48 (by decide) ?_
                refine lv_istore (lv' := [(7, .int 1), (0, .ref b), (1, .int (oI up)), (2, .int kind), (3, .ref (b + 56 + j)), (4, .ref (b + 56 + k)), (5, .int bs), (6, .int (nI i))]) hx hb d_X_bestBelow_52 hl (by decide) rfl (fun ls hl => ?_)
                refine lv_iload hx hb d_X_bestBelow_54 (lv_at hl 0 rfl) ?_
                refine lv_if_eq (tgt := 81) hx hb d_X_bestBelow_56 (by decide) (fun c56 => ?_) (fun c56 => ?_)
                · exact absurd c56 (by decide)
                · refine lv_aload_n hx hb d_X_bestBelow_59 rfl (lv_at hl 1 rfl) ?_
                  refine lv_aload_n hx hb d_X_bestBelow_60 rfl (lv_at hl 1 rfl) ?_
                  refine rw_get hx hb hts in_X hown hK.1 hw.1 rfl 1 (by decide) (hts _ fl_X_24) rfl d_X_bestBelow_61 ?_
                  refine lv_iload hx hb d_X_bestBelow_64 (lv_at hl 7 rfl) ?_
                  refine rw_aald hx hb hK.1 3 hw.2.1.1 rfl i (rfl) (h40) (by decide) rfl d_X_bestBelow_66 ?_
                  refine lv_iload_n hx hb d_X_bestBelow_67 rfl (lv_at hl 3 rfl) ?_
                  refine lv_aload_n hx hb d_X_bestBelow_68 rfl (lv_at hl 4 rfl) ?_
                  refine lv_aload hx hb d_X_bestBelow_69 (lv_at hl 5 rfl) ?_
                  refine cl_i (W.runV (As := [.ref (b + 2 + i), .int kind, .ref (b + 56 + j), .ref (b + 56 + k)]) (rest := []) S (c_X_hindrance hw (i := i) (j := j) (k := k) (h40) (hj) (hk) kind) (cwV 4 hts gv_X_168 rfl rfl rfl (by decide +kernel) ⟨Nat.le_of_ble_eq_true rfl, Nat.le_of_ble_eq_true rfl⟩) (cP_V (KG_ok _) hK hK.1 hw.1 rfl) rfl rfl hl.1 rfl (lv_room (Nat.le_of_ble_eq_true rfl)) d_X_bestBelow_71 ⟨Nat.le_of_ble_eq_true rfl, Nat.le_of_ble_eq_true rfl⟩) ?_
                  refine lv_if_ne (tgt := 81) hx hb d_X_bestBelow_74 (by decide) (fun c74 => ?_) (fun c74 => ?_)
                  · refine lv_iinc (v := (nI (i + 1))) (lv' := [(6, .int (nI (i + 1))), (7, .int 1), (0, .ref b), (1, .int (oI up)), (2, .int kind), (3, .ref (b + 56 + j)), (4, .ref (b + 56 + k)), (5, .int bs)]) hx hb d_X_bestBelow_81 hl (k := 7) rfl ((nI_1 i)) (by decide) rfl (fun ls hl => ?_)
                    refine lv_goto (tgt := 6) hx hb d_X_bestBelow_84 (by decide) ?_
                    exact ih (i + 1) _ ls (by rw [besF_m (mat_f c74)]; exact ebs) (by omega) (by omega) (lv_sub hl [2, 3, 4, 5, 6, 7, 0] rfl)
                  · refine lv_iload hx hb d_X_bestBelow_77 (lv_at hl 7 rfl) ?_
                    refine lv_istore (lv' := [(5, .int (nI i)), (7, .int 1), (0, .ref b), (1, .int (oI up)), (2, .int kind), (3, .ref (b + 56 + j)), (4, .ref (b + 56 + k)), (6, .int (nI i))]) hx hb d_X_bestBelow_79 hl (by decide) rfl (fun ls hl => ?_)
                    refine lv_iinc (v := (nI (i + 1))) (lv' := [(6, .int (nI (i + 1))), (5, .int (nI i)), (7, .int 1), (0, .ref b), (1, .int (oI up)), (2, .int kind), (3, .ref (b + 56 + j)), (4, .ref (b + 56 + k))]) hx hb d_X_bestBelow_81 hl (k := 7) rfl ((nI_1 i)) (by decide) rfl (fun ls hl => ?_)
                    refine lv_goto (tgt := 6) hx hb d_X_bestBelow_84 (by decide) ?_
                    exact ih (i + 1) _ ls (by rw [besF_y (by simp only [bI_eq, Bool.not_eq_false] at c27; rw [hup]; exact c27) (by simp only [bI_eq, Bool.not_eq_false] at c44; rw [g33]; exact c44) ((hind_mat _ _ _ _ _).mp c74)]; rfl) (by omega) (by omega) (lv_sub hl [3, 4, 5, 6, 7, 1, 0] rfl)
  exact LP _ 0 (-1) ls rfl (Nat.zero_le _) (Nat.lt_succ_self _) (lv_sub hl [2, 3, 4, 5, 6, 1, 0] rfl)
