def rm_X_area : Room := { frames := 7, cells := 3, slots := 18, locals := 111 }
set_option maxRecDepth 100000 in
set_option maxHeartbeats 4000000 in
theorem c_X_area {l : Launch} {ev : EV} {H0 : Heap} {b : Nat} {u : XS} {kp : KT} {v : PT} (hT : l.stackTraces = false) (hf : XF ev b u kp v H0) (x0 y0 x1 y1 : Int64) : vx_Met l my_X_area mw_X_area rm_X_area (cP [.ref b, .long x0, .long y0, .long x1, .long y1] (KG ev) H0) (cQod (okP x0 y0 ∧ okP x1 y1 ∧ okT x0 y0 x1 y1) (some (.int (if u.1.2.2.1 < 12 then nI u.1.2.2.1 else -1))) (fun H1 => XF ev b (areU u (x0, y0, x1, y1)) kp v H1 ∧ Frm b 101 H0 H1)) (cX (fun E H1 => (¬ (okP x0 y0 ∧ okP x1 y1 ∧ okT x0 y0 x1 y1)) ∧ E = cIA ∧ XF ev b u kp v H1 ∧ Frm b 101 H0 H1)) 3 18 (inBk b (b + 101)) := by
  refine cHeadX [.ref b, .long x0, .long y0, .long x1, .long y1] (by decide) rfl (Nat.le_of_ble_eq_true rfl) ?_
  intro p e s m below meth c ls args QQ hQ htab S hr hlk hnm hs hK hl
  have S : CallFix p m c mb_X_area 9 s args TB "RuleChoice" := S
  obtain ⟨hx, hb, hml, hown, hts⟩ := id S
  obtain ⟨hw, ⟨sl, hkp, hn⟩, hp, hO, hz⟩ := id hf
  have hold := hO
  have ht40 : u.1.2.2.2.1 ≤ 40 := hw.2.2.2.2.2.2.1
  have hr40 : u.1.2.1 ≤ 40 := hw.2.2.2.2.1
  have ha12 : u.1.2.2.1 ≤ 12 := hw.2.2.2.2.2.1
  have hl : lv_has ls 9 [(0, .ref b), (1, .long x0), (3, .long y0), (5, .long x1), (7, .long y1)] := hl
  refine lv_aload_n hx hb d_X_area_0 rfl (lv_at hl 0 rfl) ?_
  refine lv_lload_n hx hb d_X_area_1 rfl (lv_at hl 1 rfl) ?_
  refine lv_lload_n hx hb d_X_area_2 rfl (lv_at hl 2 rfl) ?_
  refine cx_v (vx_runV (As := [.long x0, .long y0]) (rest := []) S (c_X_needPlace hT hold x0 y0) (cwV 2 hts gv_X_93 rfl rfl rfl (by decide +kernel) ⟨Nat.le_of_ble_eq_true rfl, Nat.le_of_ble_eq_true rfl⟩) (cP_V (KG_ok _) hK hK.1 hw.1 rfl) rfl rfl hl.1 rfl (lv_room (Nat.le_of_ble_eq_true rfl)) d_X_area_3 ⟨Nat.le_of_ble_eq_true rfl, Nat.le_of_ble_eq_true rfl⟩) (A := inBk b (b + 101)) cNil (fun E1 H2 ce3 q4 L5 hp6 hL7 h8 h9 h10 => ?_) (fun k11 => ?_)
  · exact cx_out hQ htab hlk h8 h9 h10 (⟨fun h => hp6.1 h.1, hp6.2.1, XF_ext hf hp6.2.2, Frm.ext hp6.2.2⟩) hL7 (Nat.le_of_ble_eq_true rfl) (Nat.le_of_ble_eq_true rfl)
  · refine lv_aload_n hx hb d_X_area_6 rfl (lv_at hl 0 rfl) ?_
    refine lv_lload hx hb d_X_area_7 (lv_at hl 3 rfl) ?_
    refine lv_lload hx hb d_X_area_9 (lv_at hl 4 rfl) ?_
    refine cx_v (vx_runV (As := [.long x1, .long y1]) (rest := []) S (c_X_needPlace hT hold x1 y1) (cwV 2 hts gv_X_93 rfl rfl rfl (by decide +kernel) ⟨Nat.le_of_ble_eq_true rfl, Nat.le_of_ble_eq_true rfl⟩) (cP_V (KG_ok _) hK hK.1 hw.1 rfl) rfl rfl hl.1 rfl (lv_room (Nat.le_of_ble_eq_true rfl)) d_X_area_11 ⟨Nat.le_of_ble_eq_true rfl, Nat.le_of_ble_eq_true rfl⟩) (A := inBk b (b + 101)) cNil (fun E12 H13 ce14 q15 L16 hp17 hL18 h19 h20 h21 => ?_) (fun k22 => ?_)
    · exact cx_out hQ htab hlk h19 h20 h21 (⟨fun h => hp17.1 h.2.1, hp17.2.1, XF_ext hf hp17.2.2, Frm.ext hp17.2.2⟩) hL18 (Nat.le_of_ble_eq_true rfl) (Nat.le_of_ble_eq_true rfl)
    · refine lv_aload_n hx hb d_X_area_14 rfl (lv_at hl 0 rfl) ?_
      refine lv_lload_n hx hb d_X_area_15 rfl (lv_at hl 1 rfl) ?_
      refine lv_lload_n hx hb d_X_area_16 rfl (lv_at hl 2 rfl) ?_
      refine lv_lload hx hb d_X_area_17 (lv_at hl 3 rfl) ?_
      refine lv_lload hx hb d_X_area_19 (lv_at hl 4 rfl) ?_
      refine cx_v (vx_runV (As := [.long x0, .long y0, .long x1, .long y1]) (rest := []) S (c_X_needUnturned hT hold x0 y0 x1 y1) (cwV 4 hts gv_X_97 rfl rfl rfl (by decide +kernel) ⟨Nat.le_of_ble_eq_true rfl, Nat.le_of_ble_eq_true rfl⟩) (cP_V (KG_ok _) hK hK.1 hw.1 rfl) rfl rfl hl.1 rfl (lv_room (Nat.le_of_ble_eq_true rfl)) d_X_area_21 ⟨Nat.le_of_ble_eq_true rfl, Nat.le_of_ble_eq_true rfl⟩) (A := inBk b (b + 101)) cNil (fun E23 H24 ce25 q26 L27 hp28 hL29 h30 h31 h32 => ?_) (fun k33 => ?_)
      · exact cx_out hQ htab hlk h30 h31 h32 (⟨fun h => hp28.1 h.2.2, hp28.2.1, XF_ext hf hp28.2.2, Frm.ext hp28.2.2⟩) hL29 (Nat.le_of_ble_eq_true rfl) (Nat.le_of_ble_eq_true rfl)
      · refine lv_aload_n hx hb d_X_area_24 rfl (lv_at hl 0 rfl) ?_
        refine rw_get hx hb hts in_X hown hK.1 hw.1 rfl 7 (by decide) (hts _ fl_X_101) rfl d_X_area_25 ?_
        refine lv_bipush (v := 12) hx hb d_X_area_28 (by decide) ?_
        refine lv_icmp_lt (tgt := 35) hx hb d_X_area_30 (by decide) (fun c30 => ?_) (fun c30 => ?_)
        · have hlt : u.1.2.2.1 < 12 := (nI_ltI (b := 12) (by omega) (by decide)).mp c30
          refine lv_aload_n hx hb d_X_area_35 rfl (lv_at hl 0 rfl) ?_
          refine rw_get hx hb hts in_X hown hK.1 hw.1 rfl 2 (by decide) (hts _ fl_X_31) rfl d_X_area_36 ?_
          refine lv_aload_n hx hb d_X_area_39 rfl (lv_at hl 0 rfl) ?_
          refine rw_get hx hb hts in_X hown hK.1 hw.1 rfl 7 (by decide) (hts _ fl_X_101) rfl d_X_area_40 ?_
          refine rw_aald hx hb hK.1 4 hw.2.2.1.1 rfl u.1.2.2.1 (rfl) (hlt) (by decide) rfl d_X_area_43 ?_
          refine lv_lload_n hx hb d_X_area_44 rfl (lv_at hl 1 rfl) ?_
          refine lv_lload_n hx hb d_X_area_45 rfl (lv_at hl 2 rfl) ?_
          refine lv_lload hx hb d_X_area_46 (lv_at hl 3 rfl) ?_
          refine lv_lload hx hb d_X_area_48 (lv_at hl 4 rfl) ?_
          refine cl_d (W.runV (As := [.long x0, .long y0, .long x1, .long y1]) (rest := []) S (c_A_span (hw.2.2.1.2 u.1.2.2.1 (hlt)) x0 y0 x1 y1) (cwV 4 hts gv_X_104 rfl rfl rfl (by decide +kernel) ⟨Nat.le_of_ble_eq_true rfl, Nat.le_of_ble_eq_true rfl⟩) (cP_V (KG_ok _) hK hK.1 (hw.2.2.1.2 u.1.2.2.1 (hlt)) rfl) rfl rfl hl.1 rfl (lv_room (Nat.le_of_ble_eq_true rfl)) d_X_area_50 ⟨Nat.le_of_ble_eq_true rfl, Nat.le_of_ble_eq_true rfl⟩) (A := inBk b (b + 101)) cNil (fun z h => ⟨by omega, by omega⟩) (fun H34 L35 hp36 hL37 => ?_)
          have hw38 := XW_a hw (hlt) hp36.1 hp36.2
          have hBt39 := hp36.2
          have hn40 := xN_k hn (fun q _ _ => hBt39.2 q (by omega))
          have hp41 := xP_k hp (fun q _ _ => hBt39.2 q (by omega))
          have hO42 := Old.blk hO hBt39 (by omega)
          have hB43 := Blk.trans (Blk.rf (lo := b) (hi := b + 101) (H := H0)) (hBt39.wide (by omega) (by omega))
          refine lv_aload_n hx hb d_X_area_53 rfl (lv_at hl 0 rfl) ?_
          refine lv_dup hx hb d_X_area_54 rfl ?_
          refine rw_get hx hb hts in_X hown hK.1 hw38.1 rfl 7 (by decide) (hts _ fl_X_101) rfl d_X_area_55 ?_
          refine lv_dup_x1 hx hb d_X_area_58 rfl rfl ?_
          refine lv_iconst (v := 1) hx hb d_X_area_59 (by decide) ?_
          refine lv_iadd hx hb d_X_area_60 ?_
          refine rw_put hx hb hts in_X ck_X ok_X nm_X hown hK.1 hw38.1 rfl 7 (by decide) (hts _ fl_X_101) rfl (ok_X 7 (by decide)) rfl rfl (Nat.le_of_ble_eq_true rfl) (⟨Nat.le_refl _, by omega⟩) hL37 d_X_area_61 (fun H44 L45 z46 o47 hat48 hL49 => ?_)
          have hBo := Blk.one z46 o47
          have hwF : XW ev b ((u.1.1, u.1.2.1, u.1.2.2.1 + 1, u.1.2.2.2), u.2.1, va_up u.2.2.1 u.1.2.2.1 (x0, y0, x1, y1), u.2.2.2) H44 := XW_o hw38 (xO_a (q := u.1) (n := u.1.2.2.1) hat48) o47 ⟨hr40, hlt, ht40, fun i a h1 h2 => Nat.lt_succ_of_lt (hw.2.2.2.2.2.2.2.1 i a h1 h2), hw.2.2.2.2.2.2.2.2⟩
          have hn50 := xN_k hn40 (fun q _ _ => hBo.2 q (by omega))
          have hp51 := xP_k hp41 (fun q _ _ => hBo.2 q (by omega))
          have hO52 := Old.blk hO42 hBo (by omega)
          have hB53 := Blk.trans hB43 (hBo.wide (by omega) (by omega))
          exact ry_i hQ (⟨k11, k22, k33⟩) hx hb hr hlk (rfl) (by rw [if_pos hlt]) (by unfold areU; rw [if_pos hlt]; exact ⟨⟨hwF, ⟨_, KP_same hkp (Nat.le_refl _) (fun k x y _ _ _ => bes_area hw.2.2.2.2 k x y), hn50⟩, hp51, hO52, hz⟩, Frm.blk hB53 (Nat.le_refl _) (Nat.le_refl _)⟩) hL49 (Nat.le_of_ble_eq_true rfl) (Nat.le_of_ble_eq_true rfl) d_X_area_64
        · refine lv_iconst (v := (-1)) hx hb d_X_area_33 (by decide) ?_
          have hge : ¬ u.1.2.2.1 < 12 := fun h => c30 ((nI_ltI (b := 12) (by omega) (by decide)).mpr h)
          exact ry_i hQ (⟨k11, k22, k33⟩) hx hb hr hlk (rfl) (by rw [if_neg hge]) (by unfold areU; rw [if_neg hge]; exact ⟨hf, Frm.ext Ext.rf⟩) cNil (Nat.le_of_ble_eq_true rfl) (Nat.le_of_ble_eq_true rfl) d_X_area_34
def rm_X_thing : Room := { frames := 7, cells := 3, slots := 18, locals := 107 }
set_option maxRecDepth 100000 in
set_option maxHeartbeats 4000000 in
theorem c_X_thing {l : Launch} {ev : EV} {H0 : Heap} {b : Nat} {u : XS} {kp : KT} {v : PT} (hT : l.stackTraces = false) (hf : XF ev b u kp v H0) (ca la : Int32) (x y : Int64) : vx_Met l my_X_thing mw_X_thing rm_X_thing (cP [.ref b, .int ca, .int la, .long x, .long y] (KG ev) H0) (cQod ((okC u.1.1 ca ∧ okL la) ∧ okP x y) (some (.int (if u.1.2.2.2.1 < 40 then nI u.1.2.2.2.1 else -1))) (fun H1 => XF ev b (thiU u (ca, la, x, y)) kp v H1 ∧ Frm b 101 H0 H1)) (cX (fun E H1 => (¬ (okC u.1.1 ca ∧ okL la) ∧ E = cIX ∨ (okC u.1.1 ca ∧ okL la) ∧ ¬ okP x y ∧ E = cIA) ∧ XF ev b u kp v H1 ∧ Frm b 101 H0 H1)) 3 18 (inBk b (b + 101)) := by
  refine cHeadX [.ref b, .int ca, .int la, .long x, .long y] (by decide) rfl (Nat.le_of_ble_eq_true rfl) ?_
  intro p e s m below meth c ls args QQ hQ htab S hr hlk hnm hs hK hl
  have S : CallFix p m c mb_X_thing 8 s args TB "RuleChoice" := S
  obtain ⟨hx, hb, hml, hown, hts⟩ := id S
  obtain ⟨hw, ⟨sl, hkp, hn⟩, hp, hO, hz⟩ := id hf
  have hold := hO
  have ht40 : u.1.2.2.2.1 ≤ 40 := hw.2.2.2.2.2.2.1
  have hr40 : u.1.2.1 ≤ 40 := hw.2.2.2.2.1
  have ha12 : u.1.2.2.1 ≤ 12 := hw.2.2.2.2.2.1
  have hl : lv_has ls 8 [(0, .ref b), (1, .int ca), (2, .int la), (3, .long x), (5, .long y)] := hl
  refine lv_aload_n hx hb d_X_thing_0 rfl (lv_at hl 0 rfl) ?_
  refine lv_iload_n hx hb d_X_thing_1 rfl (lv_at hl 1 rfl) ?_
  refine cx_v (vx_runV (As := [.int ca]) (rest := []) S (c_X_needClass hT hold hw ca) (cwV 1 hts gv_X_113 rfl rfl rfl (by decide +kernel) ⟨Nat.le_of_ble_eq_true rfl, Nat.le_of_ble_eq_true rfl⟩) (cP_V (KG_ok _) hK hK.1 hw.1 rfl) rfl rfl hl.1 rfl (lv_room (Nat.le_of_ble_eq_true rfl)) d_X_thing_2 ⟨Nat.le_of_ble_eq_true rfl, Nat.le_of_ble_eq_true rfl⟩) (A := inBk b (b + 101)) cNil (fun E1 H2 ce3 q4 L5 hp6 hL7 h8 h9 h10 => ?_) (fun k11 => ?_)
  · exact cx_out hQ htab hlk h8 h9 h10 (⟨Or.inl ⟨fun h => hp6.1 h.1, hp6.2.1⟩, XF_ext hf hp6.2.2, Frm.ext hp6.2.2⟩) hL7 (Nat.le_of_ble_eq_true rfl) (Nat.le_of_ble_eq_true rfl)
  · refine lv_aload_n hx hb d_X_thing_5 rfl (lv_at hl 0 rfl) ?_
    refine lv_iload_n hx hb d_X_thing_6 rfl (lv_at hl 2 rfl) ?_
    refine cx_v (vx_runV (As := [.int la]) (rest := []) S (c_X_needLayer hT hold la) (cwV 1 hts gv_X_116 rfl rfl rfl (by decide +kernel) ⟨Nat.le_of_ble_eq_true rfl, Nat.le_of_ble_eq_true rfl⟩) (cP_V (KG_ok _) hK hK.1 hw.1 rfl) rfl rfl hl.1 rfl (lv_room (Nat.le_of_ble_eq_true rfl)) d_X_thing_7 ⟨Nat.le_of_ble_eq_true rfl, Nat.le_of_ble_eq_true rfl⟩) (A := inBk b (b + 101)) cNil (fun E12 H13 ce14 q15 L16 hp17 hL18 h19 h20 h21 => ?_) (fun k22 => ?_)
    · exact cx_out hQ htab hlk h19 h20 h21 (⟨Or.inl ⟨fun h => hp17.1 h.2, hp17.2.1⟩, XF_ext hf hp17.2.2, Frm.ext hp17.2.2⟩) hL18 (Nat.le_of_ble_eq_true rfl) (Nat.le_of_ble_eq_true rfl)
    · refine lv_aload_n hx hb d_X_thing_10 rfl (lv_at hl 0 rfl) ?_
      refine lv_lload_n hx hb d_X_thing_11 rfl (lv_at hl 3 rfl) ?_
      refine lv_lload hx hb d_X_thing_12 (lv_at hl 4 rfl) ?_
      refine cx_v (vx_runV (As := [.long x, .long y]) (rest := []) S (c_X_needPlace hT hold x y) (cwV 2 hts gv_X_93 rfl rfl rfl (by decide +kernel) ⟨Nat.le_of_ble_eq_true rfl, Nat.le_of_ble_eq_true rfl⟩) (cP_V (KG_ok _) hK hK.1 hw.1 rfl) rfl rfl hl.1 rfl (lv_room (Nat.le_of_ble_eq_true rfl)) d_X_thing_14 ⟨Nat.le_of_ble_eq_true rfl, Nat.le_of_ble_eq_true rfl⟩) (A := inBk b (b + 101)) cNil (fun E23 H24 ce25 q26 L27 hp28 hL29 h30 h31 h32 => ?_) (fun k33 => ?_)
      · exact cx_out hQ htab hlk h30 h31 h32 (⟨Or.inr ⟨⟨k11, k22⟩, hp28.1, hp28.2.1⟩, XF_ext hf hp28.2.2, Frm.ext hp28.2.2⟩) hL29 (Nat.le_of_ble_eq_true rfl) (Nat.le_of_ble_eq_true rfl)
      · refine lv_aload_n hx hb d_X_thing_17 rfl (lv_at hl 0 rfl) ?_
        refine rw_get hx hb hts in_X hown hK.1 hw.1 rfl 8 (by decide) (hts _ fl_X_119) rfl d_X_thing_18 ?_
        refine lv_bipush (v := 40) hx hb d_X_thing_21 (by decide) ?_
        refine lv_icmp_lt (tgt := 28) hx hb d_X_thing_23 (by decide) (fun c23 => ?_) (fun c23 => ?_)
        · have hlt : u.1.2.2.2.1 < 40 := (nI_ltI (b := 40) (by omega) (by decide)).mp c23
          refine lv_aload_n hx hb d_X_thing_28 rfl (lv_at hl 0 rfl) ?_
          refine rw_get hx hb hts in_X hown hK.1 hw.1 rfl 3 (by decide) (hts _ fl_X_38) rfl d_X_thing_29 ?_
          refine lv_aload_n hx hb d_X_thing_32 rfl (lv_at hl 0 rfl) ?_
          refine rw_get hx hb hts in_X hown hK.1 hw.1 rfl 8 (by decide) (hts _ fl_X_119) rfl d_X_thing_33 ?_
          refine rw_aald hx hb hK.1 5 hw.2.2.2.1.1 rfl u.1.2.2.2.1 (rfl) (hlt) (by decide) rfl d_X_thing_36 ?_
          refine lv_astore (lv' := [(7, .ref (b + 56 + u.1.2.2.2.1)), (0, .ref b), (1, .int ca), (2, .int la), (3, .long x), (5, .long y)]) hx hb d_X_thing_37 hl (by decide) rfl (fun ls hl => ?_)
          refine lv_aload hx hb d_X_thing_39 (lv_at hl 0 rfl) ?_
          refine lv_iload_n hx hb d_X_thing_41 rfl (lv_at hl 2 rfl) ?_
          refine lv_iload_n hx hb d_X_thing_42 rfl (lv_at hl 3 rfl) ?_
          refine cl_d (W.runV (As := [.int ca, .int la]) (rest := []) S (c_T_become (hw.2.2.2.1.2 u.1.2.2.2.1 (hlt)) ca la) (cwV 2 hts gv_X_122 rfl rfl rfl (by decide +kernel) ⟨Nat.le_of_ble_eq_true rfl, Nat.le_of_ble_eq_true rfl⟩) (cP_V (KG_ok _) hK hK.1 (hw.2.2.2.1.2 u.1.2.2.2.1 (hlt)) rfl) rfl rfl hl.1 rfl (lv_room (Nat.le_of_ble_eq_true rfl)) d_X_thing_43 ⟨Nat.le_of_ble_eq_true rfl, Nat.le_of_ble_eq_true rfl⟩) (A := inBk b (b + 101)) cNil (fun z h => ⟨by omega, by omega⟩) (fun H34 L35 hp36 hL37 => ?_)
          have hw38 := XW_t hw (hlt) hp36.1 hp36.2
          have hBt39 := hp36.2
          have hn40 := xN_k hn (fun q _ _ => hBt39.2 q (by omega))
          have hp41 := xP_k hp (fun q _ _ => hBt39.2 q (by omega))
          have hO42 := Old.blk hO hBt39 (by omega)
          have hB43 := Blk.trans (Blk.rf (lo := b) (hi := b + 101) (H := H0)) (hBt39.wide (by omega) (by omega))
          refine lv_aload hx hb d_X_thing_46 (lv_at hl 0 rfl) ?_
          refine lv_lload_n hx hb d_X_thing_48 rfl (lv_at hl 4 rfl) ?_
          refine lv_lload hx hb d_X_thing_49 (lv_at hl 5 rfl) ?_
          refine cl_d (W.runV (As := [.long x, .long y]) (rest := []) S (c_T_put (hw38.2.2.2.1.2 u.1.2.2.2.1 (hlt)) x y) (cwV 2 hts gv_X_126 rfl rfl rfl (by decide +kernel) ⟨Nat.le_of_ble_eq_true rfl, Nat.le_of_ble_eq_true rfl⟩) (cP_V (KG_ok _) hK hK.1 (hw38.2.2.2.1.2 u.1.2.2.2.1 (hlt)) rfl) rfl rfl hl.1 rfl (lv_room (Nat.le_of_ble_eq_true rfl)) d_X_thing_51 ⟨Nat.le_of_ble_eq_true rfl, Nat.le_of_ble_eq_true rfl⟩) hL37 (fun z h => ⟨by omega, by omega⟩) (fun H44 L45 hp46 hL47 => ?_)
          have hw48 := XW_t hw38 (hlt) hp46.1 hp46.2
          have hBt49 := hp46.2
          have hn50 := xN_k hn40 (fun q _ _ => hBt49.2 q (by omega))
          have hp51 := xP_k hp41 (fun q _ _ => hBt49.2 q (by omega))
          have hO52 := Old.blk hO42 hBt49 (by omega)
          have hB53 := Blk.trans hB43 (hBt49.wide (by omega) (by omega))
          refine lv_aload_n hx hb d_X_thing_54 rfl (lv_at hl 1 rfl) ?_
          refine lv_dup hx hb d_X_thing_55 rfl ?_
          refine rw_get hx hb hts in_X hown hK.1 hw48.1 rfl 8 (by decide) (hts _ fl_X_119) rfl d_X_thing_56 ?_
          refine lv_dup_x1 hx hb d_X_thing_59 rfl rfl ?_
          refine lv_iconst (v := 1) hx hb d_X_thing_60 (by decide) ?_
          refine lv_iadd hx hb d_X_thing_61 ?_
          refine rw_put hx hb hts in_X ck_X ok_X nm_X hown hK.1 hw48.1 rfl 8 (by decide) (hts _ fl_X_119) rfl (ok_X 8 (by decide)) rfl rfl (Nat.le_of_ble_eq_true rfl) (⟨Nat.le_refl _, by omega⟩) hL47 d_X_thing_62 (fun H54 L55 z56 o57 hat58 hL59 => ?_)
          have hBo := Blk.one z56 o57
          have hwF : XW ev b ((u.1.1, u.1.2.1, u.1.2.2.1, u.1.2.2.2.1 + 1, u.1.2.2.2.2), u.2.1, u.2.2.1, va_up u.2.2.2 u.1.2.2.2.1 (ca, la, x, y)) H54 := by
            have h9 := XW_o hw48 (xO_t (q := u.1) (n := u.1.2.2.2.1) hat58) o57 ⟨hr40, ha12, hlt, hw.2.2.2.2.2.2.2⟩
            have e9 : va_up (va_up u.2.2.2 u.1.2.2.2.1 (ca, la, (u.2.2.2 u.1.2.2.2.1).2.2)) u.1.2.2.2.1 ((va_up u.2.2.2 u.1.2.2.2.1 (ca, la, (u.2.2.2 u.1.2.2.2.1).2.2) u.1.2.2.2.1).1, (va_up u.2.2.2 u.1.2.2.2.1 (ca, la, (u.2.2.2 u.1.2.2.2.1).2.2) u.1.2.2.2.1).2.1, x, y) = va_up u.2.2.2 u.1.2.2.2.1 (ca, la, x, y) := by rw [bx_uu, va_up_self]
            rw [← e9]; exact h9
          have hn60 := xN_k hn50 (fun q _ _ => hBo.2 q (by omega))
          have hp61 := xP_k hp51 (fun q _ _ => hBo.2 q (by omega))
          have hO62 := Old.blk hO52 hBo (by omega)
          have hB63 := Blk.trans hB53 (hBo.wide (by omega) (by omega))
          exact ry_i hQ (⟨⟨k11, k22⟩, k33⟩) hx hb hr hlk (rfl) (by rw [if_pos hlt]) (by unfold thiU; rw [if_pos hlt]; exact ⟨⟨hwF, ⟨_, KP_same hkp (Nat.le_succ _) (fun k x y _ h1 h2 => bes_thing rfl (by omega) (by omega) k), hn60⟩, hp61, hO62, hz⟩, Frm.blk hB63 (Nat.le_refl _) (Nat.le_refl _)⟩) hL59 (Nat.le_of_ble_eq_true rfl) (Nat.le_of_ble_eq_true rfl) d_X_thing_65
        · refine lv_iconst (v := (-1)) hx hb d_X_thing_26 (by decide) ?_
          have hge : ¬ u.1.2.2.2.1 < 40 := fun h => c23 ((nI_ltI (b := 40) (by omega) (by decide)).mpr h)
          exact ry_i hQ (⟨⟨k11, k22⟩, k33⟩) hx hb hr hlk (rfl) (by rw [if_neg hge]) (by unfold thiU; rw [if_neg hge]; exact ⟨hf, Frm.ext Ext.rf⟩) cNil (Nat.le_of_ble_eq_true rfl) (Nat.le_of_ble_eq_true rfl) d_X_thing_27
def rm_X_make : Room := { frames := 7, cells := 3, slots := 18, locals := 104 }
set_option maxRecDepth 100000 in
set_option maxHeartbeats 4000000 in
theorem c_X_make {l : Launch} {ev : EV} {H0 : Heap} {b : Nat} {u : XS} {kp : KT} {v : PT} (hT : l.stackTraces = false) (hf : XF ev b u kp v H0) (t ca la : Int32) : vx_Met l my_X_make mw_X_make rm_X_make (cP [.ref b, .int t, .int ca, .int la] (KG ev) H0) (cQod (okI u.1.2.2.2.1 t ∧ okC u.1.1 ca ∧ okL la) (some (.int (bI (!decide ((u.2.2.2 (nn t)).1 = ca ∧ (u.2.2.2 (nn t)).2.1 = la))))) (fun H1 => XF ev b (if (u.2.2.2 (nn t)).1 = ca ∧ (u.2.2.2 (nn t)).2.1 = la then u else thgU u (nn t) (ca, la, (u.2.2.2 (nn t)).2.2)) (if (u.2.2.2 (nn t)).1 = ca ∧ (u.2.2.2 (nn t)).2.1 = la then kp else kpD kp (nn t)) v H1 ∧ Frm b 101 H0 H1)) (cX (fun E H1 => (¬ (okI u.1.2.2.2.1 t ∧ okC u.1.1 ca ∧ okL la)) ∧ E = cIX ∧ XF ev b u kp v H1 ∧ Frm b 101 H0 H1)) 3 18 (inBk b (b + 101)) := by
  refine cHeadX [.ref b, .int t, .int ca, .int la] (by decide) rfl (Nat.le_of_ble_eq_true rfl) ?_
  intro p e s m below meth c ls args QQ hQ htab S hr hlk hnm hs hK hl
  have S : CallFix p m c mb_X_make 5 s args TB "RuleChoice" := S
  obtain ⟨hx, hb, hml, hown, hts⟩ := id S
  obtain ⟨hw, ⟨sl, hkp, hn⟩, hp, hO, hz⟩ := id hf
  have hold := hO
  have ht40 : u.1.2.2.2.1 ≤ 40 := hw.2.2.2.2.2.2.1
  have hr40 : u.1.2.1 ≤ 40 := hw.2.2.2.2.1
  have ha12 : u.1.2.2.1 ≤ 12 := hw.2.2.2.2.2.1
  have hl : lv_has ls 5 [(0, .ref b), (1, .int t), (2, .int ca), (3, .int la)] := hl
  refine lv_aload_n hx hb d_X_make_0 rfl (lv_at hl 0 rfl) ?_
  refine lv_iload_n hx hb d_X_make_1 rfl (lv_at hl 1 rfl) ?_
  refine cx_v (vx_runV (As := [.int t]) (rest := []) S (c_X_needThing hT hold hw t) (cwV 1 hts gv_X_129 rfl rfl rfl (by decide +kernel) ⟨Nat.le_of_ble_eq_true rfl, Nat.le_of_ble_eq_true rfl⟩) (cP_V (KG_ok _) hK hK.1 hw.1 rfl) rfl rfl hl.1 rfl (lv_room (Nat.le_of_ble_eq_true rfl)) d_X_make_2 ⟨Nat.le_of_ble_eq_true rfl, Nat.le_of_ble_eq_true rfl⟩) (A := inBk b (b + 101)) cNil (fun E1 H2 ce3 q4 L5 hp6 hL7 h8 h9 h10 => ?_) (fun k11 => ?_)
  · exact cx_out hQ htab hlk h8 h9 h10 (⟨fun h => hp6.1 h.1, hp6.2.1, XF_ext hf hp6.2.2, Frm.ext hp6.2.2⟩) hL7 (Nat.le_of_ble_eq_true rfl) (Nat.le_of_ble_eq_true rfl)
  · refine lv_aload_n hx hb d_X_make_5 rfl (lv_at hl 0 rfl) ?_
    refine lv_iload_n hx hb d_X_make_6 rfl (lv_at hl 2 rfl) ?_
    refine cx_v (vx_runV (As := [.int ca]) (rest := []) S (c_X_needClass hT hold hw ca) (cwV 1 hts gv_X_113 rfl rfl rfl (by decide +kernel) ⟨Nat.le_of_ble_eq_true rfl, Nat.le_of_ble_eq_true rfl⟩) (cP_V (KG_ok _) hK hK.1 hw.1 rfl) rfl rfl hl.1 rfl (lv_room (Nat.le_of_ble_eq_true rfl)) d_X_make_7 ⟨Nat.le_of_ble_eq_true rfl, Nat.le_of_ble_eq_true rfl⟩) (A := inBk b (b + 101)) cNil (fun E12 H13 ce14 q15 L16 hp17 hL18 h19 h20 h21 => ?_) (fun k22 => ?_)
    · exact cx_out hQ htab hlk h19 h20 h21 (⟨fun h => hp17.1 h.2.1, hp17.2.1, XF_ext hf hp17.2.2, Frm.ext hp17.2.2⟩) hL18 (Nat.le_of_ble_eq_true rfl) (Nat.le_of_ble_eq_true rfl)
    · refine lv_aload_n hx hb d_X_make_10 rfl (lv_at hl 0 rfl) ?_
      refine lv_iload_n hx hb d_X_make_11 rfl (lv_at hl 3 rfl) ?_
      refine cx_v (vx_runV (As := [.int la]) (rest := []) S (c_X_needLayer hT hold la) (cwV 1 hts gv_X_116 rfl rfl rfl (by decide +kernel) ⟨Nat.le_of_ble_eq_true rfl, Nat.le_of_ble_eq_true rfl⟩) (cP_V (KG_ok _) hK hK.1 hw.1 rfl) rfl rfl hl.1 rfl (lv_room (Nat.le_of_ble_eq_true rfl)) d_X_make_12 ⟨Nat.le_of_ble_eq_true rfl, Nat.le_of_ble_eq_true rfl⟩) (A := inBk b (b + 101)) cNil (fun E23 H24 ce25 q26 L27 hp28 hL29 h30 h31 h32 => ?_) (fun k33 => ?_)
      · exact cx_out hQ htab hlk h30 h31 h32 (⟨fun h => hp28.1 h.2.2, hp28.2.1, XF_ext hf hp28.2.2, Frm.ext hp28.2.2⟩) hL29 (Nat.le_of_ble_eq_true rfl) (Nat.le_of_ble_eq_true rfl)
      · obtain ⟨i, hni, hi, rfl⟩ := okIdx hw.2.2.2.2.2.2.1 k11
        simp only [nn_nI (i := i) (by omega)] at hQ
        refine lv_aload_n hx hb d_X_make_15 rfl (lv_at hl 0 rfl) ?_
        refine rw_get hx hb hts in_X hown hK.1 hw.1 rfl 3 (by decide) (hts _ fl_X_38) rfl d_X_make_16 ?_
        refine lv_iload_n hx hb d_X_make_19 rfl (lv_at hl 1 rfl) ?_
        refine rw_aald hx hb hK.1 5 hw.2.2.2.1.1 rfl i (rfl) (hi) (by decide) rfl d_X_make_20 ?_
        refine lv_astore (lv' := [(4, .ref (b + 56 + i)), (0, .ref b), (1, .int (nI i)), (2, .int ca), (3, .int la)]) hx hb d_X_make_21 hl (by decide) rfl (fun ls hl => ?_)
        refine lv_aload hx hb d_X_make_23 (lv_at hl 0 rfl) ?_
        refine rw_get hx hb hts in_T hown hK.1 (hw.2.2.2.1.2 i (hi)) rfl 0 (by decide) (hts _ fl_X_132) rfl d_X_make_25 ?_
        refine lv_iload_n hx hb d_X_make_28 rfl (lv_at hl 3 rfl) ?_
        refine lv_icmp_ne (tgt := 43) hx hb d_X_make_29 (by decide) (fun c29 => ?_) (fun c29 => ?_)
        · refine lv_aload hx hb d_X_make_43 (lv_at hl 0 rfl) ?_
          refine lv_iload_n hx hb d_X_make_45 rfl (lv_at hl 3 rfl) ?_
          refine lv_iload_n hx hb d_X_make_46 rfl (lv_at hl 4 rfl) ?_
          refine cl_d (W.runV (As := [.int ca, .int la]) (rest := []) S (c_T_become (hw.2.2.2.1.2 i (hi)) ca la) (cwV 2 hts gv_X_122 rfl rfl rfl (by decide +kernel) ⟨Nat.le_of_ble_eq_true rfl, Nat.le_of_ble_eq_true rfl⟩) (cP_V (KG_ok _) hK hK.1 (hw.2.2.2.1.2 i (hi)) rfl) rfl rfl hl.1 rfl (lv_room (Nat.le_of_ble_eq_true rfl)) d_X_make_47 ⟨Nat.le_of_ble_eq_true rfl, Nat.le_of_ble_eq_true rfl⟩) (A := inBk b (b + 101)) cNil (fun z h => ⟨by omega, by omega⟩) (fun H34 L35 hp36 hL37 => ?_)
          have hw38 := XW_t hw (hi) hp36.1 hp36.2
          have hBt39 := hp36.2
          have hn40 := xN_k hn (fun q _ _ => hBt39.2 q (by omega))
          have hp41 := xP_k hp (fun q _ _ => hBt39.2 q (by omega))
          have hO42 := Old.blk hO hBt39 (by omega)
          have hB43 := Blk.trans (Blk.rf (lo := b) (hi := b + 101) (H := H0)) (hBt39.wide (by omega) (by omega))
          refine lv_aload_n hx hb d_X_make_50 rfl (lv_at hl 1 rfl) ?_
          refine rw_get hx hb hts in_X hown hK.1 hw38.1 rfl 4 (by decide) (hts _ fl_X_46) rfl d_X_make_51 ?_
          refine lv_iload_n hx hb d_X_make_54 rfl (lv_at hl 2 rfl) ?_
          refine cl_d (W.runV (As := [.int (nI i)]) (rest := []) S (c_N_dropThing hn40 (t := i) (rfl) (hi)) (cwV 1 hts gv_X_138 rfl rfl rfl (by decide +kernel) ⟨Nat.le_of_ble_eq_true rfl, Nat.le_of_ble_eq_true rfl⟩) (cP_V (KG_ok _) hK hK.1 hn40.1 rfl) rfl rfl hl.1 rfl (lv_room (Nat.le_of_ble_eq_true rfl)) d_X_make_55 ⟨Nat.le_of_ble_eq_true rfl, Nat.le_of_ble_eq_true rfl⟩) hL37 (fun z h => ⟨by omega, by omega⟩) (fun H44 L45 hp46 hL47 => ?_)
          have hn48 := hp46.1
          have hBd49 := hp46.2
          have hw50 := XW_k hw38 (fun q _ _ => hBd49.2 q (by omega))
          have hp51 := xP_k hp41 (fun q _ _ => hBd49.2 q (by omega))
          have hO52 := Old.blk hO42 hBd49 (by omega)
          have hB53 := Blk.trans hB43 (hBd49.wide (by omega) (by omega))
          refine lv_iconst (v := 1) hx hb d_X_make_58 (by decide) ?_
          have g29 : ¬ ((u.2.2.2 i).1 = ca ∧ (u.2.2.2 i).2.1 = la) := fun h => c29 h.1
          exact ry_i hQ (⟨okI_of (by omega) hni, k22, k33⟩) hx hb hr hlk (rfl) (by rw [decide_eq_false g29]; rfl) (by rw [if_neg g29, if_neg g29]; exact ⟨⟨hw50, ⟨_, KP_dropT hi hkp rfl (fun k x y _ h1 h2 _ _ => bes_thing rfl h1 h2 k), hn48⟩, hp51, hO52, hz⟩, Frm.blk hB53 (Nat.le_refl _) (Nat.le_refl _)⟩) hL47 (Nat.le_of_ble_eq_true rfl) (Nat.le_of_ble_eq_true rfl) d_X_make_59
        · refine lv_aload hx hb d_X_make_32 (lv_at hl 0 rfl) ?_
          refine rw_get hx hb hts in_T hown hK.1 (hw.2.2.2.1.2 i (hi)) rfl 1 (by decide) (hts _ fl_X_135) rfl d_X_make_34 ?_
          refine lv_iload_n hx hb d_X_make_37 rfl (lv_at hl 4 rfl) ?_
          refine lv_icmp_ne (tgt := 43) hx hb d_X_make_38 (by decide) (fun c38 => ?_) (fun c38 => ?_)
          · refine lv_aload hx hb d_X_make_43 (lv_at hl 0 rfl) ?_
            refine lv_iload_n hx hb d_X_make_45 rfl (lv_at hl 3 rfl) ?_
            refine lv_iload_n hx hb d_X_make_46 rfl (lv_at hl 4 rfl) ?_
            refine cl_d (W.runV (As := [.int ca, .int la]) (rest := []) S (c_T_become (hw.2.2.2.1.2 i (hi)) ca la) (cwV 2 hts gv_X_122 rfl rfl rfl (by decide +kernel) ⟨Nat.le_of_ble_eq_true rfl, Nat.le_of_ble_eq_true rfl⟩) (cP_V (KG_ok _) hK hK.1 (hw.2.2.2.1.2 i (hi)) rfl) rfl rfl hl.1 rfl (lv_room (Nat.le_of_ble_eq_true rfl)) d_X_make_47 ⟨Nat.le_of_ble_eq_true rfl, Nat.le_of_ble_eq_true rfl⟩) (A := inBk b (b + 101)) cNil (fun z h => ⟨by omega, by omega⟩) (fun H54 L55 hp56 hL57 => ?_)
            have hw58 := XW_t hw (hi) hp56.1 hp56.2
            have hBt59 := hp56.2
            have hn60 := xN_k hn (fun q _ _ => hBt59.2 q (by omega))
            have hp61 := xP_k hp (fun q _ _ => hBt59.2 q (by omega))
            have hO62 := Old.blk hO hBt59 (by omega)
            have hB63 := Blk.trans (Blk.rf (lo := b) (hi := b + 101) (H := H0)) (hBt59.wide (by omega) (by omega))
            refine lv_aload_n hx hb d_X_make_50 rfl (lv_at hl 1 rfl) ?_
            refine rw_get hx hb hts in_X hown hK.1 hw58.1 rfl 4 (by decide) (hts _ fl_X_46) rfl d_X_make_51 ?_
            refine lv_iload_n hx hb d_X_make_54 rfl (lv_at hl 2 rfl) ?_
            refine cl_d (W.runV (As := [.int (nI i)]) (rest := []) S (c_N_dropThing hn60 (t := i) (rfl) (hi)) (cwV 1 hts gv_X_138 rfl rfl rfl (by decide +kernel) ⟨Nat.le_of_ble_eq_true rfl, Nat.le_of_ble_eq_true rfl⟩) (cP_V (KG_ok _) hK hK.1 hn60.1 rfl) rfl rfl hl.1 rfl (lv_room (Nat.le_of_ble_eq_true rfl)) d_X_make_55 ⟨Nat.le_of_ble_eq_true rfl, Nat.le_of_ble_eq_true rfl⟩) hL57 (fun z h => ⟨by omega, by omega⟩) (fun H64 L65 hp66 hL67 => ?_)
            have hn68 := hp66.1
            have hBd69 := hp66.2
            have hw70 := XW_k hw58 (fun q _ _ => hBd69.2 q (by omega))
            have hp71 := xP_k hp61 (fun q _ _ => hBd69.2 q (by omega))
            have hO72 := Old.blk hO62 hBd69 (by omega)
            have hB73 := Blk.trans hB63 (hBd69.wide (by omega) (by omega))
            refine lv_iconst (v := 1) hx hb d_X_make_58 (by decide) ?_
            have g29 : ¬ ((u.2.2.2 i).1 = ca ∧ (u.2.2.2 i).2.1 = la) := fun h => c38 h.2
            exact ry_i hQ (⟨okI_of (by omega) hni, k22, k33⟩) hx hb hr hlk (rfl) (by rw [decide_eq_false g29]; rfl) (by rw [if_neg g29, if_neg g29]; exact ⟨⟨hw70, ⟨_, KP_dropT hi hkp rfl (fun k x y _ h1 h2 _ _ => bes_thing rfl h1 h2 k), hn68⟩, hp71, hO72, hz⟩, Frm.blk hB73 (Nat.le_refl _) (Nat.le_refl _)⟩) hL67 (Nat.le_of_ble_eq_true rfl) (Nat.le_of_ble_eq_true rfl) d_X_make_59
          · refine lv_iconst (v := 0) hx hb d_X_make_41 (by decide) ?_
            exact ry_i hQ (⟨okI_of (by omega) hni, k22, k33⟩) hx hb hr hlk (rfl) (by simp [bI, c29, c38]) (by rw [if_pos ⟨c29, c38⟩, if_pos ⟨c29, c38⟩]; exact ⟨hf, Frm.ext Ext.rf⟩) cNil (Nat.le_of_ble_eq_true rfl) (Nat.le_of_ble_eq_true rfl) d_X_make_42
def rm_X_move : Room := { frames := 7, cells := 2, slots := 12, locals := 107 }
set_option maxRecDepth 100000 in
set_option maxHeartbeats 4000000 in
theorem c_X_move {l : Launch} {ev : EV} {H0 : Heap} {b : Nat} {u : XS} {kp : KT} {v : PT} (hT : l.stackTraces = false) (hf : XF ev b u kp v H0) (t : Int32) (x y : Int64) : vx_Met l my_X_move mw_X_move rm_X_move (cP [.ref b, .int t, .long x, .long y] (KG ev) H0) (cQod (okI u.1.2.2.2.1 t ∧ okP x y) (some (.int (bI (!decide ((u.2.2.2 (nn t)).2.2.1 = x ∧ (u.2.2.2 (nn t)).2.2.2 = y))))) (fun H1 => XF ev b (if (u.2.2.2 (nn t)).2.2.1 = x ∧ (u.2.2.2 (nn t)).2.2.2 = y then u else thgU u (nn t) ((u.2.2.2 (nn t)).1, (u.2.2.2 (nn t)).2.1, x, y)) (if (u.2.2.2 (nn t)).2.2.1 = x ∧ (u.2.2.2 (nn t)).2.2.2 = y then kp else if arnF u.2.2.1 (u.2.2.2 (nn t)).2.2.1 (u.2.2.2 (nn t)).2.2.2 u.1.2.2.1 = arnF u.2.2.1 x y u.1.2.2.1 then kp else kpD kp (nn t)) v H1 ∧ Frm b 101 H0 H1)) (cX (fun E H1 => (¬ okI u.1.2.2.2.1 t ∧ E = cIX ∨ okI u.1.2.2.2.1 t ∧ ¬ okP x y ∧ E = cIA) ∧ XF ev b u kp v H1 ∧ Frm b 101 H0 H1)) 2 12 (inBk b (b + 101)) := by
  refine cHeadX [.ref b, .int t, .long x, .long y] (by decide) rfl (Nat.le_of_ble_eq_true rfl) ?_
  intro p e s m below meth c ls args QQ hQ htab S hr hlk hnm hs hK hl
  have S : CallFix p m c mb_X_move 7 s args TB "RuleChoice" := S
  obtain ⟨hx, hb, hml, hown, hts⟩ := id S
  obtain ⟨hw, ⟨sl, hkp, hn⟩, hp, hO, hz⟩ := id hf
  have hold := hO
  have ht40 : u.1.2.2.2.1 ≤ 40 := hw.2.2.2.2.2.2.1
  have hr40 : u.1.2.1 ≤ 40 := hw.2.2.2.2.1
  have ha12 : u.1.2.2.1 ≤ 12 := hw.2.2.2.2.2.1
  have hl : lv_has ls 7 [(0, .ref b), (1, .int t), (2, .long x), (4, .long y)] := hl
  refine lv_aload_n hx hb d_X_move_0 rfl (lv_at hl 0 rfl) ?_
  refine lv_iload_n hx hb d_X_move_1 rfl (lv_at hl 1 rfl) ?_
  refine cx_v (vx_runV (As := [.int t]) (rest := []) S (c_X_needThing hT hold hw t) (cwV 1 hts gv_X_129 rfl rfl rfl (by decide +kernel) ⟨Nat.le_of_ble_eq_true rfl, Nat.le_of_ble_eq_true rfl⟩) (cP_V (KG_ok _) hK hK.1 hw.1 rfl) rfl rfl hl.1 rfl (lv_room (Nat.le_of_ble_eq_true rfl)) d_X_move_2 ⟨Nat.le_of_ble_eq_true rfl, Nat.le_of_ble_eq_true rfl⟩) (A := inBk b (b + 101)) cNil (fun E1 H2 ce3 q4 L5 hp6 hL7 h8 h9 h10 => ?_) (fun k11 => ?_)
  · exact cx_out hQ htab hlk h8 h9 h10 (⟨Or.inl ⟨hp6.1, hp6.2.1⟩, XF_ext hf hp6.2.2, Frm.ext hp6.2.2⟩) hL7 (Nat.le_of_ble_eq_true rfl) (Nat.le_of_ble_eq_true rfl)
  · refine lv_aload_n hx hb d_X_move_5 rfl (lv_at hl 0 rfl) ?_
    refine lv_lload_n hx hb d_X_move_6 rfl (lv_at hl 2 rfl) ?_
    refine lv_lload hx hb d_X_move_7 (lv_at hl 3 rfl) ?_
    refine cx_v (vx_runV (As := [.long x, .long y]) (rest := []) S (c_X_needPlace hT hold x y) (cwV 2 hts gv_X_93 rfl rfl rfl (by decide +kernel) ⟨Nat.le_of_ble_eq_true rfl, Nat.le_of_ble_eq_true rfl⟩) (cP_V (KG_ok _) hK hK.1 hw.1 rfl) rfl rfl hl.1 rfl (lv_room (Nat.le_of_ble_eq_true rfl)) d_X_move_9 ⟨Nat.le_of_ble_eq_true rfl, Nat.le_of_ble_eq_true rfl⟩) (A := inBk b (b + 101)) cNil (fun E12 H13 ce14 q15 L16 hp17 hL18 h19 h20 h21 => ?_) (fun k22 => ?_)
    · exact cx_out hQ htab hlk h19 h20 h21 (⟨Or.inr ⟨k11, hp17.1, hp17.2.1⟩, XF_ext hf hp17.2.2, Frm.ext hp17.2.2⟩) hL18 (Nat.le_of_ble_eq_true rfl) (Nat.le_of_ble_eq_true rfl)
    · obtain ⟨i, hni, hi, rfl⟩ := okIdx hw.2.2.2.2.2.2.1 k11
      simp only [nn_nI (i := i) (by omega)] at hQ
      refine lv_aload_n hx hb d_X_move_12 rfl (lv_at hl 0 rfl) ?_
      refine rw_get hx hb hts in_X hown hK.1 hw.1 rfl 3 (by decide) (hts _ fl_X_38) rfl d_X_move_13 ?_
      refine lv_iload_n hx hb d_X_move_16 rfl (lv_at hl 1 rfl) ?_
      refine rw_aald hx hb hK.1 5 hw.2.2.2.1.1 rfl i (rfl) (hi) (by decide) rfl d_X_move_17 ?_
      refine lv_astore (lv' := [(6, .ref (b + 56 + i)), (0, .ref b), (1, .int (nI i)), (2, .long x), (4, .long y)]) hx hb d_X_move_18 hl (by decide) rfl (fun ls hl => ?_)
      refine lv_aload hx hb d_X_move_20 (lv_at hl 0 rfl) ?_
      refine rw_get hx hb hts in_T hown hK.1 (hw.2.2.2.1.2 i (hi)) rfl 2 (by decide) (hts _ fl_X_141) rfl d_X_move_22 ?_
      refine lv_lload_n hx hb d_X_move_25 rfl (lv_at hl 3 rfl) ?_
      refine ll_ne (tgt := 43) hx hb d_X_move_26 d_X_move_27 (by decide) (fun c27 => ?_) (fun c27 => ?_)
      · refine lv_aload_n hx hb d_X_move_43 rfl (lv_at hl 1 rfl) ?_
        refine lv_aload hx hb d_X_move_44 (lv_at hl 0 rfl) ?_
        refine rw_get hx hb hts in_T hown hK.1 (hw.2.2.2.1.2 i (hi)) rfl 2 (by decide) (hts _ fl_X_141) rfl d_X_move_46 ?_
        refine lv_aload hx hb d_X_move_49 (lv_at hl 0 rfl) ?_
        refine rw_get hx hb hts in_T hown hK.1 (hw.2.2.2.1.2 i (hi)) rfl 3 (by decide) (hts _ fl_X_145) rfl d_X_move_51 ?_
        refine cl_i (W.runV (As := [.long ((u.2.2.2 i).2.2.1), .long ((u.2.2.2 i).2.2.2)]) (rest := []) S (c_X_areasAround hw ((u.2.2.2 i).2.2.1) ((u.2.2.2 i).2.2.2)) (cwV 2 hts gv_X_148 rfl rfl rfl (by decide +kernel) ⟨Nat.le_of_ble_eq_true rfl, Nat.le_of_ble_eq_true rfl⟩) (cP_V (KG_ok _) hK hK.1 hw.1 rfl) rfl rfl hl.1 rfl (lv_room (Nat.le_of_ble_eq_true rfl)) d_X_move_54 ⟨Nat.le_of_ble_eq_true rfl, Nat.le_of_ble_eq_true rfl⟩) ?_
        refine lv_aload_n hx hb d_X_move_57 rfl (lv_at hl 1 rfl) ?_
        refine lv_lload_n hx hb d_X_move_58 rfl (lv_at hl 3 rfl) ?_
        refine lv_lload hx hb d_X_move_59 (lv_at hl 4 rfl) ?_
        refine cl_i (W.runV (As := [.long x, .long y]) (rest := [.int (arnF u.2.2.1 ((u.2.2.2 i).2.2.1) ((u.2.2.2 i).2.2.2) u.1.2.2.1)]) S (c_X_areasAround hw x y) (cwV 2 hts gv_X_148 rfl rfl rfl (by decide +kernel) ⟨Nat.le_of_ble_eq_true rfl, Nat.le_of_ble_eq_true rfl⟩) (cP_V (KG_ok _) hK hK.1 hw.1 rfl) rfl rfl hl.1 rfl (lv_room (Nat.le_of_ble_eq_true rfl)) d_X_move_61 ⟨Nat.le_of_ble_eq_true rfl, Nat.le_of_ble_eq_true rfl⟩) ?_
        refine lv_icmp_eq (tgt := 75) hx hb d_X_move_64 (by decide) (fun c64 => ?_) (fun c64 => ?_)
        · refine lv_aload hx hb d_X_move_75 (lv_at hl 0 rfl) ?_
          refine lv_lload_n hx hb d_X_move_77 rfl (lv_at hl 3 rfl) ?_
          refine lv_lload hx hb d_X_move_78 (lv_at hl 4 rfl) ?_
          refine cl_d (W.runV (As := [.long x, .long y]) (rest := []) S (c_T_put (hw.2.2.2.1.2 i (hi)) x y) (cwV 2 hts gv_X_126 rfl rfl rfl (by decide +kernel) ⟨Nat.le_of_ble_eq_true rfl, Nat.le_of_ble_eq_true rfl⟩) (cP_V (KG_ok _) hK hK.1 (hw.2.2.2.1.2 i (hi)) rfl) rfl rfl hl.1 rfl (lv_room (Nat.le_of_ble_eq_true rfl)) d_X_move_80 ⟨Nat.le_of_ble_eq_true rfl, Nat.le_of_ble_eq_true rfl⟩) (A := inBk b (b + 101)) cNil (fun z h => ⟨by omega, by omega⟩) (fun H23 L24 hp25 hL26 => ?_)
          have hw27 := XW_t hw (hi) hp25.1 hp25.2
          have hBt28 := hp25.2
          have hn29 := xN_k hn (fun q _ _ => hBt28.2 q (by omega))
          have hp30 := xP_k hp (fun q _ _ => hBt28.2 q (by omega))
          have hO31 := Old.blk hO hBt28 (by omega)
          have hB32 := Blk.trans (Blk.rf (lo := b) (hi := b + 101) (H := H0)) (hBt28.wide (by omega) (by omega))
          refine lv_iconst (v := 1) hx hb d_X_move_83 (by decide) ?_
          have g29 : ¬ ((u.2.2.2 i).2.2.1 = x ∧ (u.2.2.2 i).2.2.2 = y) := fun h => c27 h.1
          exact ry_i hQ (⟨okI_of (by omega) hni, k22⟩) hx hb hr hlk (rfl) (by rw [decide_eq_false g29]; rfl) (by rw [if_neg g29, if_neg g29, if_pos c64]; exact ⟨⟨hw27, ⟨_, KP_same hkp (Nat.le_refl _) (fun k x y _ _ _ => bes_move hw.2.2.2.2 (arn_eq ha12 c64) k x y), hn29⟩, hp30, hO31, hz⟩, Frm.blk hB32 (Nat.le_refl _) (Nat.le_refl _)⟩) hL26 (Nat.le_of_ble_eq_true rfl) (Nat.le_of_ble_eq_true rfl) d_X_move_84
        · refine lv_aload_n hx hb d_X_move_67 rfl (lv_at hl 1 rfl) ?_
          refine rw_get hx hb hts in_X hown hK.1 hw.1 rfl 4 (by decide) (hts _ fl_X_46) rfl d_X_move_68 ?_
          refine lv_iload_n hx hb d_X_move_71 rfl (lv_at hl 2 rfl) ?_
          refine cl_d (W.runV (As := [.int (nI i)]) (rest := []) S (c_N_dropThing hn (t := i) (rfl) (hi)) (cwV 1 hts gv_X_138 rfl rfl rfl (by decide +kernel) ⟨Nat.le_of_ble_eq_true rfl, Nat.le_of_ble_eq_true rfl⟩) (cP_V (KG_ok _) hK hK.1 hn.1 rfl) rfl rfl hl.1 rfl (lv_room (Nat.le_of_ble_eq_true rfl)) d_X_move_72 ⟨Nat.le_of_ble_eq_true rfl, Nat.le_of_ble_eq_true rfl⟩) (A := inBk b (b + 101)) cNil (fun z h => ⟨by omega, by omega⟩) (fun H33 L34 hp35 hL36 => ?_)
          have hn37 := hp35.1
          have hBd38 := hp35.2
          have hw39 := XW_k hw (fun q _ _ => hBd38.2 q (by omega))
          have hp40 := xP_k hp (fun q _ _ => hBd38.2 q (by omega))
          have hO41 := Old.blk hO hBd38 (by omega)
          have hB42 := Blk.trans (Blk.rf (lo := b) (hi := b + 101) (H := H0)) (hBd38.wide (by omega) (by omega))
          refine lv_aload hx hb d_X_move_75 (lv_at hl 0 rfl) ?_
          refine lv_lload_n hx hb d_X_move_77 rfl (lv_at hl 3 rfl) ?_
          refine lv_lload hx hb d_X_move_78 (lv_at hl 4 rfl) ?_
          refine cl_d (W.runV (As := [.long x, .long y]) (rest := []) S (c_T_put (hw39.2.2.2.1.2 i (hi)) x y) (cwV 2 hts gv_X_126 rfl rfl rfl (by decide +kernel) ⟨Nat.le_of_ble_eq_true rfl, Nat.le_of_ble_eq_true rfl⟩) (cP_V (KG_ok _) hK hK.1 (hw39.2.2.2.1.2 i (hi)) rfl) rfl rfl hl.1 rfl (lv_room (Nat.le_of_ble_eq_true rfl)) d_X_move_80 ⟨Nat.le_of_ble_eq_true rfl, Nat.le_of_ble_eq_true rfl⟩) hL36 (fun z h => ⟨by omega, by omega⟩) (fun H43 L44 hp45 hL46 => ?_)
          have hw47 := XW_t hw39 (hi) hp45.1 hp45.2
          have hBt48 := hp45.2
          have hn49 := xN_k hn37 (fun q _ _ => hBt48.2 q (by omega))
          have hp50 := xP_k hp40 (fun q _ _ => hBt48.2 q (by omega))
          have hO51 := Old.blk hO41 hBt48 (by omega)
          have hB52 := Blk.trans hB42 (hBt48.wide (by omega) (by omega))
          refine lv_iconst (v := 1) hx hb d_X_move_83 (by decide) ?_
          have g29 : ¬ ((u.2.2.2 i).2.2.1 = x ∧ (u.2.2.2 i).2.2.2 = y) := fun h => c27 h.1
          exact ry_i hQ (⟨okI_of (by omega) hni, k22⟩) hx hb hr hlk (rfl) (by rw [decide_eq_false g29]; rfl) (by rw [if_neg g29, if_neg g29, if_neg c64]; exact ⟨⟨hw47, ⟨_, KP_dropT hi hkp rfl (fun k x y _ h1 h2 _ _ => bes_thing rfl h1 h2 k), hn49⟩, hp50, hO51, hz⟩, Frm.blk hB52 (Nat.le_refl _) (Nat.le_refl _)⟩) hL46 (Nat.le_of_ble_eq_true rfl) (Nat.le_of_ble_eq_true rfl) d_X_move_84
      · refine lv_aload hx hb d_X_move_30 (lv_at hl 0 rfl) ?_
        refine rw_get hx hb hts in_T hown hK.1 (hw.2.2.2.1.2 i (hi)) rfl 3 (by decide) (hts _ fl_X_145) rfl d_X_move_32 ?_
        refine lv_lload hx hb d_X_move_35 (lv_at hl 4 rfl) ?_
        refine ll_ne (tgt := 43) hx hb d_X_move_37 d_X_move_38 (by decide) (fun c38 => ?_) (fun c38 => ?_)
        · refine lv_aload_n hx hb d_X_move_43 rfl (lv_at hl 1 rfl) ?_
          refine lv_aload hx hb d_X_move_44 (lv_at hl 0 rfl) ?_
          refine rw_get hx hb hts in_T hown hK.1 (hw.2.2.2.1.2 i (hi)) rfl 2 (by decide) (hts _ fl_X_141) rfl d_X_move_46 ?_
          refine lv_aload hx hb d_X_move_49 (lv_at hl 0 rfl) ?_
          refine rw_get hx hb hts in_T hown hK.1 (hw.2.2.2.1.2 i (hi)) rfl 3 (by decide) (hts _ fl_X_145) rfl d_X_move_51 ?_
          refine cl_i (W.runV (As := [.long ((u.2.2.2 i).2.2.1), .long ((u.2.2.2 i).2.2.2)]) (rest := []) S (c_X_areasAround hw ((u.2.2.2 i).2.2.1) ((u.2.2.2 i).2.2.2)) (cwV 2 hts gv_X_148 rfl rfl rfl (by decide +kernel) ⟨Nat.le_of_ble_eq_true rfl, Nat.le_of_ble_eq_true rfl⟩) (cP_V (KG_ok _) hK hK.1 hw.1 rfl) rfl rfl hl.1 rfl (lv_room (Nat.le_of_ble_eq_true rfl)) d_X_move_54 ⟨Nat.le_of_ble_eq_true rfl, Nat.le_of_ble_eq_true rfl⟩) ?_
          refine lv_aload_n hx hb d_X_move_57 rfl (lv_at hl 1 rfl) ?_
          refine lv_lload_n hx hb d_X_move_58 rfl (lv_at hl 3 rfl) ?_
          refine lv_lload hx hb d_X_move_59 (lv_at hl 4 rfl) ?_
          refine cl_i (W.runV (As := [.long x, .long y]) (rest := [.int (arnF u.2.2.1 ((u.2.2.2 i).2.2.1) ((u.2.2.2 i).2.2.2) u.1.2.2.1)]) S (c_X_areasAround hw x y) (cwV 2 hts gv_X_148 rfl rfl rfl (by decide +kernel) ⟨Nat.le_of_ble_eq_true rfl, Nat.le_of_ble_eq_true rfl⟩) (cP_V (KG_ok _) hK hK.1 hw.1 rfl) rfl rfl hl.1 rfl (lv_room (Nat.le_of_ble_eq_true rfl)) d_X_move_61 ⟨Nat.le_of_ble_eq_true rfl, Nat.le_of_ble_eq_true rfl⟩) ?_
          refine lv_icmp_eq (tgt := 75) hx hb d_X_move_64 (by decide) (fun c64 => ?_) (fun c64 => ?_)
          · refine lv_aload hx hb d_X_move_75 (lv_at hl 0 rfl) ?_
            refine lv_lload_n hx hb d_X_move_77 rfl (lv_at hl 3 rfl) ?_
            refine lv_lload hx hb d_X_move_78 (lv_at hl 4 rfl) ?_
            refine cl_d (W.runV (As := [.long x, .long y]) (rest := []) S (c_T_put (hw.2.2.2.1.2 i (hi)) x y) (cwV 2 hts gv_X_126 rfl rfl rfl (by decide +kernel) ⟨Nat.le_of_ble_eq_true rfl, Nat.le_of_ble_eq_true rfl⟩) (cP_V (KG_ok _) hK hK.1 (hw.2.2.2.1.2 i (hi)) rfl) rfl rfl hl.1 rfl (lv_room (Nat.le_of_ble_eq_true rfl)) d_X_move_80 ⟨Nat.le_of_ble_eq_true rfl, Nat.le_of_ble_eq_true rfl⟩) (A := inBk b (b + 101)) cNil (fun z h => ⟨by omega, by omega⟩) (fun H53 L54 hp55 hL56 => ?_)
            have hw57 := XW_t hw (hi) hp55.1 hp55.2
            have hBt58 := hp55.2
            have hn59 := xN_k hn (fun q _ _ => hBt58.2 q (by omega))
            have hp60 := xP_k hp (fun q _ _ => hBt58.2 q (by omega))
            have hO61 := Old.blk hO hBt58 (by omega)
            have hB62 := Blk.trans (Blk.rf (lo := b) (hi := b + 101) (H := H0)) (hBt58.wide (by omega) (by omega))
            refine lv_iconst (v := 1) hx hb d_X_move_83 (by decide) ?_
            have g29 : ¬ ((u.2.2.2 i).2.2.1 = x ∧ (u.2.2.2 i).2.2.2 = y) := fun h => c38 h.2
            exact ry_i hQ (⟨okI_of (by omega) hni, k22⟩) hx hb hr hlk (rfl) (by rw [decide_eq_false g29]; rfl) (by rw [if_neg g29, if_neg g29, if_pos c64]; exact ⟨⟨hw57, ⟨_, KP_same hkp (Nat.le_refl _) (fun k x y _ _ _ => bes_move hw.2.2.2.2 (arn_eq ha12 c64) k x y), hn59⟩, hp60, hO61, hz⟩, Frm.blk hB62 (Nat.le_refl _) (Nat.le_refl _)⟩) hL56 (Nat.le_of_ble_eq_true rfl) (Nat.le_of_ble_eq_true rfl) d_X_move_84
          · refine lv_aload_n hx hb d_X_move_67 rfl (lv_at hl 1 rfl) ?_
            refine rw_get hx hb hts in_X hown hK.1 hw.1 rfl 4 (by decide) (hts _ fl_X_46) rfl d_X_move_68 ?_
            refine lv_iload_n hx hb d_X_move_71 rfl (lv_at hl 2 rfl) ?_
            refine cl_d (W.runV (As := [.int (nI i)]) (rest := []) S (c_N_dropThing hn (t := i) (rfl) (hi)) (cwV 1 hts gv_X_138 rfl rfl rfl (by decide +kernel) ⟨Nat.le_of_ble_eq_true rfl, Nat.le_of_ble_eq_true rfl⟩) (cP_V (KG_ok _) hK hK.1 hn.1 rfl) rfl rfl hl.1 rfl (lv_room (Nat.le_of_ble_eq_true rfl)) d_X_move_72 ⟨Nat.le_of_ble_eq_true rfl, Nat.le_of_ble_eq_true rfl⟩) (A := inBk b (b + 101)) cNil (fun z h => ⟨by omega, by omega⟩) (fun H63 L64 hp65 hL66 => ?_)
            have hn67 := hp65.1
            have hBd68 := hp65.2
            have hw69 := XW_k hw (fun q _ _ => hBd68.2 q (by omega))
            have hp70 := xP_k hp (fun q _ _ => hBd68.2 q (by omega))
            have hO71 := Old.blk hO hBd68 (by omega)
            have hB72 := Blk.trans (Blk.rf (lo := b) (hi := b + 101) (H := H0)) (hBd68.wide (by omega) (by omega))
            refine lv_aload hx hb d_X_move_75 (lv_at hl 0 rfl) ?_
            refine lv_lload_n hx hb d_X_move_77 rfl (lv_at hl 3 rfl) ?_
            refine lv_lload hx hb d_X_move_78 (lv_at hl 4 rfl) ?_
            refine cl_d (W.runV (As := [.long x, .long y]) (rest := []) S (c_T_put (hw69.2.2.2.1.2 i (hi)) x y) (cwV 2 hts gv_X_126 rfl rfl rfl (by decide +kernel) ⟨Nat.le_of_ble_eq_true rfl, Nat.le_of_ble_eq_true rfl⟩) (cP_V (KG_ok _) hK hK.1 (hw69.2.2.2.1.2 i (hi)) rfl) rfl rfl hl.1 rfl (lv_room (Nat.le_of_ble_eq_true rfl)) d_X_move_80 ⟨Nat.le_of_ble_eq_true rfl, Nat.le_of_ble_eq_true rfl⟩) hL66 (fun z h => ⟨by omega, by omega⟩) (fun H73 L74 hp75 hL76 => ?_)
            have hw77 := XW_t hw69 (hi) hp75.1 hp75.2
            have hBt78 := hp75.2
            have hn79 := xN_k hn67 (fun q _ _ => hBt78.2 q (by omega))
            have hp80 := xP_k hp70 (fun q _ _ => hBt78.2 q (by omega))
            have hO81 := Old.blk hO71 hBt78 (by omega)
            have hB82 := Blk.trans hB72 (hBt78.wide (by omega) (by omega))
            refine lv_iconst (v := 1) hx hb d_X_move_83 (by decide) ?_
            have g29 : ¬ ((u.2.2.2 i).2.2.1 = x ∧ (u.2.2.2 i).2.2.2 = y) := fun h => c38 h.2
            exact ry_i hQ (⟨okI_of (by omega) hni, k22⟩) hx hb hr hlk (rfl) (by rw [decide_eq_false g29]; rfl) (by rw [if_neg g29, if_neg g29, if_neg c64]; exact ⟨⟨hw77, ⟨_, KP_dropT hi hkp rfl (fun k x y _ h1 h2 _ _ => bes_thing rfl h1 h2 k), hn79⟩, hp80, hO81, hz⟩, Frm.blk hB82 (Nat.le_refl _) (Nat.le_refl _)⟩) hL76 (Nat.le_of_ble_eq_true rfl) (Nat.le_of_ble_eq_true rfl) d_X_move_84
        · refine lv_iconst (v := 0) hx hb d_X_move_41 (by decide) ?_
          exact ry_i hQ (⟨okI_of (by omega) hni, k22⟩) hx hb hr hlk (rfl) (by simp [bI, c27, c38]) (by rw [if_pos ⟨c27, c38⟩, if_pos ⟨c27, c38⟩]; exact ⟨hf, Frm.ext Ext.rf⟩) cNil (Nat.le_of_ble_eq_true rfl) (Nat.le_of_ble_eq_true rfl) d_X_move_42
