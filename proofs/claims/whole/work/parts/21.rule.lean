def rulU (u : XS) (k ca cb la : Int32) (w : Int64) : XS := if u.1.2.1 < 40 then ((u.1.1, u.1.2.1 + 1, u.1.2.2), va_up u.2.1 u.1.2.1 (k, ca, cb, la, w, (u.2.1 u.1.2.1).2.2.2.2.2), u.2.2) else u
def rulK (u : XS) (kp : KT) (k : Int32) : KT := if u.1.2.1 < 40 then kpK kp (nn k) else kp
def setR (r : Ru) (x : Int32) : Ru := (r.1, r.2.1, r.2.2.1, r.2.2.2.1, r.2.2.2.2.1, x, r.2.2.2.2.2.2)
def setO (r : Ru) (o : Option Nat) : Ru := (r.1, r.2.1, r.2.2.1, r.2.2.2.1, r.2.2.2.2.1, r.2.2.2.2.2.1, o)
def rowU (u : XS) (i : Nat) (r : Ru) : XS := (u.1, va_up u.2.1 i r, u.2.2)
def areU (u : XS) (r : Aa) : XS := if u.1.2.2.1 < 12 then ((u.1.1, u.1.2.1, u.1.2.2.1 + 1, u.1.2.2.2), u.2.1, va_up u.2.2.1 u.1.2.2.1 r, u.2.2.2) else u
def thiU (u : XS) (r : Tt) : XS := if u.1.2.2.2.1 < 40 then ((u.1.1, u.1.2.1, u.1.2.2.1, u.1.2.2.2.1 + 1, u.1.2.2.2.2), u.2.1, u.2.2.1, va_up u.2.2.2 u.1.2.2.2.1 r) else u
def thgU (u : XS) (t : Nat) (r : Tt) : XS := (u.1, u.2.1, u.2.2.1, va_up u.2.2.2 t r)
def rm_X_rule : Room := { frames := 8, cells := 5, slots := 30, locals := 125 }
set_option maxRecDepth 100000 in
set_option maxHeartbeats 4000000 in
theorem c_X_rule {l : Launch} {ev : EV} {H0 : Heap} {b : Nat} {u : XS} {kp : KT} {v : PT} (hT : l.stackTraces = false) (hf : XF ev b u kp v H0) (k ca cb la : Int32) (vv : Int64) : vx_Met l my_X_rule mw_X_rule rm_X_rule (cP [.ref b, .int k, .int ca, .int cb, .int la, .long vv] (KG ev) H0) (cQod ((okK k ∧ okCN u.1.1 ca ∧ okCN u.1.1 cb ∧ okLN la) ∧ okV vv) (some (.int (if u.1.2.1 < 40 then nI u.1.2.1 else -1))) (fun H1 => XF ev b (rulU u k ca cb la vv) (rulK u kp k) v H1 ∧ Frm b 101 H0 H1)) (cX (fun E H1 => (¬ (okK k ∧ okCN u.1.1 ca ∧ okCN u.1.1 cb ∧ okLN la) ∧ E = cIX ∨ (okK k ∧ okCN u.1.1 ca ∧ okCN u.1.1 cb ∧ okLN la) ∧ ¬ okV vv ∧ E = cIA) ∧ XF ev b u kp v H1 ∧ Frm b 101 H0 H1)) 5 30 (inBk b (b + 101)) := by
  refine cHeadX [.ref b, .int k, .int ca, .int cb, .int la, .long vv] (by decide) rfl (Nat.le_of_ble_eq_true rfl) ?_
  intro p e s m below meth c ls args QQ hQ htab S hr hlk hnm hs hK hl
  have S : CallFix p m c mb_X_rule 7 s args TB "RuleChoice" := S
  obtain ⟨hx, hb, hml, hown, hts⟩ := id S
  obtain ⟨hw, ⟨sl, hkp, hn⟩, hp, hO, hz⟩ := id hf
  have hold := hO
  have ht40 : u.1.2.2.2.1 ≤ 40 := hw.2.2.2.2.2.2.1
  have hr40 : u.1.2.1 ≤ 40 := hw.2.2.2.2.1
  have ha12 : u.1.2.2.1 ≤ 12 := hw.2.2.2.2.2.1
  have hl : lv_has ls 7 [(0, .ref b), (1, .int k), (2, .int ca), (3, .int cb), (4, .int la), (5, .long vv)] := hl
  refine lv_aload_n hx hb d_X_rule_0 rfl (lv_at hl 0 rfl) ?_
  refine lv_iload_n hx hb d_X_rule_1 rfl (lv_at hl 1 rfl) ?_
  refine cx_v (vx_runV (As := [.int k]) (rest := []) S (c_X_needKind hT hold k) (cwV 1 hts gv_X_57 rfl rfl rfl (by decide +kernel) ⟨Nat.le_of_ble_eq_true rfl, Nat.le_of_ble_eq_true rfl⟩) (cP_V (KG_ok _) hK hK.1 hw.1 rfl) rfl rfl hl.1 rfl (lv_room (Nat.le_of_ble_eq_true rfl)) d_X_rule_2 ⟨Nat.le_of_ble_eq_true rfl, Nat.le_of_ble_eq_true rfl⟩) (A := inBk b (b + 101)) cNil (fun E1 H2 ce3 q4 L5 hp6 hL7 h8 h9 h10 => ?_) (fun k11 => ?_)
  · exact cx_out hQ htab hlk h8 h9 h10 (⟨Or.inl ⟨fun h => hp6.1 h.1, hp6.2.1⟩, XF_ext hf hp6.2.2, Frm.ext hp6.2.2⟩) hL7 (Nat.le_of_ble_eq_true rfl) (Nat.le_of_ble_eq_true rfl)
  · refine lv_aload_n hx hb d_X_rule_5 rfl (lv_at hl 0 rfl) ?_
    refine lv_iload_n hx hb d_X_rule_6 rfl (lv_at hl 2 rfl) ?_
    refine cx_v (vx_runV (As := [.int ca]) (rest := []) S (c_X_needClassOrNone hT hold hw ca) (cwV 1 hts gv_X_61 rfl rfl rfl (by decide +kernel) ⟨Nat.le_of_ble_eq_true rfl, Nat.le_of_ble_eq_true rfl⟩) (cP_V (KG_ok _) hK hK.1 hw.1 rfl) rfl rfl hl.1 rfl (lv_room (Nat.le_of_ble_eq_true rfl)) d_X_rule_7 ⟨Nat.le_of_ble_eq_true rfl, Nat.le_of_ble_eq_true rfl⟩) (A := inBk b (b + 101)) cNil (fun E12 H13 ce14 q15 L16 hp17 hL18 h19 h20 h21 => ?_) (fun k22 => ?_)
    · exact cx_out hQ htab hlk h19 h20 h21 (⟨Or.inl ⟨fun h => hp17.1 h.2.1, hp17.2.1⟩, XF_ext hf hp17.2.2, Frm.ext hp17.2.2⟩) hL18 (Nat.le_of_ble_eq_true rfl) (Nat.le_of_ble_eq_true rfl)
    · refine lv_aload_n hx hb d_X_rule_10 rfl (lv_at hl 0 rfl) ?_
      refine lv_iload_n hx hb d_X_rule_11 rfl (lv_at hl 3 rfl) ?_
      refine cx_v (vx_runV (As := [.int cb]) (rest := []) S (c_X_needClassOrNone hT hold hw cb) (cwV 1 hts gv_X_61 rfl rfl rfl (by decide +kernel) ⟨Nat.le_of_ble_eq_true rfl, Nat.le_of_ble_eq_true rfl⟩) (cP_V (KG_ok _) hK hK.1 hw.1 rfl) rfl rfl hl.1 rfl (lv_room (Nat.le_of_ble_eq_true rfl)) d_X_rule_12 ⟨Nat.le_of_ble_eq_true rfl, Nat.le_of_ble_eq_true rfl⟩) (A := inBk b (b + 101)) cNil (fun E23 H24 ce25 q26 L27 hp28 hL29 h30 h31 h32 => ?_) (fun k33 => ?_)
      · exact cx_out hQ htab hlk h30 h31 h32 (⟨Or.inl ⟨fun h => hp28.1 h.2.2.1, hp28.2.1⟩, XF_ext hf hp28.2.2, Frm.ext hp28.2.2⟩) hL29 (Nat.le_of_ble_eq_true rfl) (Nat.le_of_ble_eq_true rfl)
      · refine lv_aload_n hx hb d_X_rule_15 rfl (lv_at hl 0 rfl) ?_
        refine lv_iload hx hb d_X_rule_16 (lv_at hl 4 rfl) ?_
        refine cx_v (vx_runV (As := [.int la]) (rest := []) S (c_X_needLayerOrNone hT hold hw.1 la) (cwV 1 hts gv_X_64 rfl rfl rfl (by decide +kernel) ⟨Nat.le_of_ble_eq_true rfl, Nat.le_of_ble_eq_true rfl⟩) (cP_V (KG_ok _) hK hK.1 hw.1 rfl) rfl rfl hl.1 rfl (lv_room (Nat.le_of_ble_eq_true rfl)) d_X_rule_18 ⟨Nat.le_of_ble_eq_true rfl, Nat.le_of_ble_eq_true rfl⟩) (A := inBk b (b + 101)) cNil (fun E34 H35 ce36 q37 L38 hp39 hL40 h41 h42 h43 => ?_) (fun k44 => ?_)
        · exact cx_out hQ htab hlk h41 h42 h43 (⟨Or.inl ⟨fun h => hp39.1 h.2.2.2, hp39.2.1⟩, XF_ext hf hp39.2.2, Frm.ext hp39.2.2⟩) hL40 (Nat.le_of_ble_eq_true rfl) (Nat.le_of_ble_eq_true rfl)
        · refine lv_aload_n hx hb d_X_rule_21 rfl (lv_at hl 0 rfl) ?_
          refine lv_lload hx hb d_X_rule_22 (lv_at hl 5 rfl) ?_
          refine cx_v (vx_runV (As := [.long vv]) (rest := []) S (c_X_needValue hT hold vv) (cwV 1 hts gv_X_67 rfl rfl rfl (by decide +kernel) ⟨Nat.le_of_ble_eq_true rfl, Nat.le_of_ble_eq_true rfl⟩) (cP_V (KG_ok _) hK hK.1 hw.1 rfl) rfl rfl hl.1 rfl (lv_room (Nat.le_of_ble_eq_true rfl)) d_X_rule_24 ⟨Nat.le_of_ble_eq_true rfl, Nat.le_of_ble_eq_true rfl⟩) (A := inBk b (b + 101)) cNil (fun E45 H46 ce47 q48 L49 hp50 hL51 h52 h53 h54 => ?_) (fun k55 => ?_)
          · exact cx_out hQ htab hlk h52 h53 h54 (⟨Or.inr ⟨⟨k11, k22, k33, k44⟩, hp50.1, hp50.2.1⟩, XF_ext hf hp50.2.2, Frm.ext hp50.2.2⟩) hL51 (Nat.le_of_ble_eq_true rfl) (Nat.le_of_ble_eq_true rfl)
          · refine lv_aload_n hx hb d_X_rule_27 rfl (lv_at hl 0 rfl) ?_
            refine rw_get hx hb hts in_X hown hK.1 hw.1 rfl 6 (by decide) (hts _ fl_X_71) rfl d_X_rule_28 ?_
            refine lv_bipush (v := 40) hx hb d_X_rule_31 (by decide) ?_
            refine lv_icmp_lt (tgt := 38) hx hb d_X_rule_33 (by decide) (fun c33 => ?_) (fun c33 => ?_)
            · have hlt : u.1.2.1 < 40 := (nI_ltI (b := 40) (by omega) (by decide)).mp c33
              obtain ⟨kk, hkk, rfl⟩ := okK_ix k11
              have enn : nn (nI kk) = kk := nn_nI (by omega)
              refine lv_aload_n hx hb d_X_rule_38 rfl (lv_at hl 0 rfl) ?_
              refine rw_get hx hb hts in_X hown hK.1 hw.1 rfl 1 (by decide) (hts _ fl_X_24) rfl d_X_rule_39 ?_
              refine lv_aload_n hx hb d_X_rule_42 rfl (lv_at hl 0 rfl) ?_
              refine rw_get hx hb hts in_X hown hK.1 hw.1 rfl 6 (by decide) (hts _ fl_X_71) rfl d_X_rule_43 ?_
              refine rw_aald hx hb hK.1 3 hw.2.1.1 rfl u.1.2.1 (rfl) (hlt) (by decide) rfl d_X_rule_46 ?_
              refine lv_iload_n hx hb d_X_rule_47 rfl (lv_at hl 1 rfl) ?_
              refine lv_iload_n hx hb d_X_rule_48 rfl (lv_at hl 2 rfl) ?_
              refine lv_iload_n hx hb d_X_rule_49 rfl (lv_at hl 3 rfl) ?_
              refine lv_iload hx hb d_X_rule_50 (lv_at hl 4 rfl) ?_
              refine lv_lload hx hb d_X_rule_52 (lv_at hl 5 rfl) ?_
              refine cl_d (W.runV (As := [.int (nI kk), .int ca, .int cb, .int la, .long vv]) (rest := []) S (c_R_tell (hw.2.1.2 u.1.2.1 (hlt)) (nI kk) ca cb la vv) (cwV 5 hts gv_X_74 rfl rfl rfl (by decide +kernel) ⟨Nat.le_of_ble_eq_true rfl, Nat.le_of_ble_eq_true rfl⟩) (cP_V (KG_ok _) hK hK.1 (hw.2.1.2 u.1.2.1 (hlt)) rfl) rfl rfl hl.1 rfl (lv_room (Nat.le_of_ble_eq_true rfl)) d_X_rule_54 ⟨Nat.le_of_ble_eq_true rfl, Nat.le_of_ble_eq_true rfl⟩) (A := inBk b (b + 101)) cNil (fun z h => ⟨by omega, by omega⟩) (fun H56 L57 hp58 hL59 => ?_)
              have hw1 := XW_r hw hlt hp58.1 hp58.2 (xB_r hw.2.2.2.2 (fun a e => hw.2.2.2.2.2.2.2.1 _ a hlt e) k11)
              have hBt := hp58.2
              have hn60 := xN_k hn (fun q _ _ => hBt.2 q (by omega))
              have hp61 := xP_k hp (fun q _ _ => hBt.2 q (by omega))
              have hO62 := Old.blk hO hBt (by omega)
              have hB63 := Blk.trans (Blk.rf (lo := b) (hi := b + 101) (H := H0)) (hBt.wide (by omega) (by omega))
              refine lv_aload_n hx hb d_X_rule_57 rfl (lv_at hl 0 rfl) ?_
              refine rw_get hx hb hts in_X hown hK.1 hw1.1 rfl 4 (by decide) (hts _ fl_X_46) rfl d_X_rule_58 ?_
              refine lv_iload_n hx hb d_X_rule_61 rfl (lv_at hl 1 rfl) ?_
              refine cl_d (W.runV (As := [.int (nI kk)]) (rest := []) S (c_N_dropKind hn60 (k := kk) (rfl) (hkk)) (cwV 1 hts gv_X_78 rfl rfl rfl (by decide +kernel) ⟨Nat.le_of_ble_eq_true rfl, Nat.le_of_ble_eq_true rfl⟩) (cP_V (KG_ok _) hK hK.1 hn60.1 rfl) rfl rfl hl.1 rfl (lv_room (Nat.le_of_ble_eq_true rfl)) d_X_rule_62 ⟨Nat.le_of_ble_eq_true rfl, Nat.le_of_ble_eq_true rfl⟩) hL59 (fun z h => ⟨by omega, by omega⟩) (fun H64 L65 hp66 hL67 => ?_)
              have hn68 := hp66.1
              have hBd69 := hp66.2
              have hw70 := XW_k hw1 (fun q _ _ => hBd69.2 q (by omega))
              have hp71 := xP_k hp61 (fun q _ _ => hBd69.2 q (by omega))
              have hO72 := Old.blk hO62 hBd69 (by omega)
              have hB73 := Blk.trans hB63 (hBd69.wide (by omega) (by omega))
              refine lv_aload_n hx hb d_X_rule_65 rfl (lv_at hl 0 rfl) ?_
              refine lv_dup hx hb d_X_rule_66 rfl ?_
              refine rw_get hx hb hts in_X hown hK.1 hw70.1 rfl 6 (by decide) (hts _ fl_X_71) rfl d_X_rule_67 ?_
              refine lv_dup_x1 hx hb d_X_rule_70 rfl rfl ?_
              refine lv_iconst (v := 1) hx hb d_X_rule_71 (by decide) ?_
              refine lv_iadd hx hb d_X_rule_72 ?_
              refine rw_put hx hb hts in_X ck_X ok_X nm_X hown hK.1 hw70.1 rfl 6 (by decide) (hts _ fl_X_71) rfl (ok_X 6 (by decide)) rfl rfl (Nat.le_of_ble_eq_true rfl) (⟨Nat.le_refl _, by omega⟩) hL67 d_X_rule_73 (fun H74 L75 z76 o77 hat78 hL79 => ?_)
              have hBo := Blk.one z76 o77
              have hwF : XW ev b ((u.1.1, u.1.2.1 + 1, u.1.2.2), va_up u.2.1 u.1.2.1 (nI kk, ca, cb, la, vv, (u.2.1 u.1.2.1).2.2.2.2.2), u.2.2) H74 := XW_o hw70 (xO_r (q := u.1) (n := u.1.2.1) hat78) o77 ⟨hlt, hw70.2.2.2.2.2⟩
              have hn80 := xN_k hn68 (fun q _ _ => hBo.2 q (by omega))
              have hp81 := xP_k hp71 (fun q _ _ => hBo.2 q (by omega))
              have hO82 := Old.blk hO72 hBo (by omega)
              have hB83 := Blk.trans hB73 (hBo.wide (by omega) (by omega))
              exact ry_i hQ (⟨⟨k11, k22, k33, k44⟩, k55⟩) hx hb hr hlk (rfl) (by rw [if_pos hlt]) (by unfold rulU rulK; rw [if_pos hlt, if_pos hlt, enn]; exact ⟨⟨hwF, ⟨_, KP_dropK hkp rfl (fun k x y h1 h2 _ _ => bes_rul rfl hkk h1 h2 x y), hn80⟩, hp81, hO82, hz⟩, Frm.blk hB83 (Nat.le_refl _) (Nat.le_refl _)⟩) hL79 (Nat.le_of_ble_eq_true rfl) (Nat.le_of_ble_eq_true rfl) d_X_rule_76
            · refine lv_iconst (v := (-1)) hx hb d_X_rule_36 (by decide) ?_
              have hge : ¬ u.1.2.1 < 40 := fun h => c33 ((nI_ltI (b := 40) (by omega) (by decide)).mpr h)
              exact ry_i hQ (⟨⟨k11, k22, k33, k44⟩, k55⟩) hx hb hr hlk (rfl) (by rw [if_neg hge]) (by unfold rulU rulK; rw [if_neg hge, if_neg hge]; exact ⟨hf, Frm.ext Ext.rf⟩) cNil (Nat.le_of_ble_eq_true rfl) (Nat.le_of_ble_eq_true rfl) d_X_rule_37
def rm_X_rank : Room := { frames := 7, cells := 2, slots := 12, locals := 104 }
set_option maxRecDepth 100000 in
set_option maxHeartbeats 4000000 in
theorem c_X_rank {l : Launch} {ev : EV} {H0 : Heap} {b : Nat} {u : XS} {kp : KT} {v : PT} (hT : l.stackTraces = false) (hf : XF ev b u kp v H0) (x r : Int32) : vx_Met l my_X_rank mw_X_rank rm_X_rank (cP [.ref b, .int x, .int r] (KG ev) H0) (cQod (okI u.1.2.1 x ∧ okR r) (some (.int (bI (!decide ((u.2.1 (nn x)).2.2.2.2.2.1 = r))))) (fun H1 => XF ev b (if (u.2.1 (nn x)).2.2.2.2.2.1 = r then u else rowU u (nn x) (setR (u.2.1 (nn x)) r)) (if (u.2.1 (nn x)).2.2.2.2.2.1 = r then kp else kpK kp (nn (u.2.1 (nn x)).1)) v H1 ∧ Frm b 101 H0 H1)) (cX (fun E H1 => (¬ okI u.1.2.1 x ∧ E = cIX ∨ okI u.1.2.1 x ∧ ¬ okR r ∧ E = cIA) ∧ XF ev b u kp v H1 ∧ Frm b 101 H0 H1)) 2 12 (inBk b (b + 101)) := by
  refine cHeadX [.ref b, .int x, .int r] (by decide) rfl (Nat.le_of_ble_eq_true rfl) ?_
  intro p e s m below meth c ls args QQ hQ htab S hr hlk hnm hs hK hl
  have S : CallFix p m c mb_X_rank 4 s args TB "RuleChoice" := S
  obtain ⟨hx, hb, hml, hown, hts⟩ := id S
  obtain ⟨hw, ⟨sl, hkp, hn⟩, hp, hO, hz⟩ := id hf
  have hold := hO
  have ht40 : u.1.2.2.2.1 ≤ 40 := hw.2.2.2.2.2.2.1
  have hr40 : u.1.2.1 ≤ 40 := hw.2.2.2.2.1
  have ha12 : u.1.2.2.1 ≤ 12 := hw.2.2.2.2.2.1
  have hl : lv_has ls 4 [(0, .ref b), (1, .int x), (2, .int r)] := hl
  refine lv_aload_n hx hb d_X_rank_0 rfl (lv_at hl 0 rfl) ?_
  refine lv_iload_n hx hb d_X_rank_1 rfl (lv_at hl 1 rfl) ?_
  refine cx_v (vx_runV (As := [.int x]) (rest := []) S (c_X_needRule hT hold hw x) (cwV 1 hts gv_X_81 rfl rfl rfl (by decide +kernel) ⟨Nat.le_of_ble_eq_true rfl, Nat.le_of_ble_eq_true rfl⟩) (cP_V (KG_ok _) hK hK.1 hw.1 rfl) rfl rfl hl.1 rfl (lv_room (Nat.le_of_ble_eq_true rfl)) d_X_rank_2 ⟨Nat.le_of_ble_eq_true rfl, Nat.le_of_ble_eq_true rfl⟩) (A := inBk b (b + 101)) cNil (fun E1 H2 ce3 q4 L5 hp6 hL7 h8 h9 h10 => ?_) (fun k11 => ?_)
  · exact cx_out hQ htab hlk h8 h9 h10 (⟨Or.inl ⟨hp6.1, hp6.2.1⟩, XF_ext hf hp6.2.2, Frm.ext hp6.2.2⟩) hL7 (Nat.le_of_ble_eq_true rfl) (Nat.le_of_ble_eq_true rfl)
  · refine lv_aload_n hx hb d_X_rank_5 rfl (lv_at hl 0 rfl) ?_
    refine lv_iload_n hx hb d_X_rank_6 rfl (lv_at hl 2 rfl) ?_
    refine cx_v (vx_runV (As := [.int r]) (rest := []) S (c_X_needRank hT hold r) (cwV 1 hts gv_X_84 rfl rfl rfl (by decide +kernel) ⟨Nat.le_of_ble_eq_true rfl, Nat.le_of_ble_eq_true rfl⟩) (cP_V (KG_ok _) hK hK.1 hw.1 rfl) rfl rfl hl.1 rfl (lv_room (Nat.le_of_ble_eq_true rfl)) d_X_rank_7 ⟨Nat.le_of_ble_eq_true rfl, Nat.le_of_ble_eq_true rfl⟩) (A := inBk b (b + 101)) cNil (fun E12 H13 ce14 q15 L16 hp17 hL18 h19 h20 h21 => ?_) (fun k22 => ?_)
    · exact cx_out hQ htab hlk h19 h20 h21 (⟨Or.inr ⟨k11, hp17.1, hp17.2.1⟩, XF_ext hf hp17.2.2, Frm.ext hp17.2.2⟩) hL18 (Nat.le_of_ble_eq_true rfl) (Nat.le_of_ble_eq_true rfl)
    · obtain ⟨i, hni, hi, rfl⟩ := okIdx hw.2.2.2.2.1 k11
      simp only [nn_nI (i := i) (by omega)] at hQ
      obtain ⟨kk, hkk, ek⟩ := okK_ix (hw.2.2.2.2.2.2.2.2 i hi)
      refine lv_aload_n hx hb d_X_rank_10 rfl (lv_at hl 0 rfl) ?_
      refine rw_get hx hb hts in_X hown hK.1 hw.1 rfl 1 (by decide) (hts _ fl_X_24) rfl d_X_rank_11 ?_
      refine lv_iload_n hx hb d_X_rank_14 rfl (lv_at hl 1 rfl) ?_
      refine rw_aald hx hb hK.1 3 hw.2.1.1 rfl i (rfl) (hi) (by decide) rfl d_X_rank_15 ?_
      refine lv_astore_n (lv' := [(3, .ref (b + 2 + i)), (0, .ref b), (1, .int (nI i)), (2, .int r)]) hx hb d_X_rank_16 rfl hl (by decide) rfl (fun ls hl => ?_)
      refine lv_aload_n hx hb d_X_rank_17 rfl (lv_at hl 0 rfl) ?_
      refine rw_get hx hb hts in_R hown hK.1 (hw.2.1.2 i (hi)) rfl 5 (by decide) (hts _ fl_X_87) rfl d_X_rank_18 ?_
      refine lv_iload_n hx hb d_X_rank_21 rfl (lv_at hl 3 rfl) ?_
      refine lv_icmp_ne (tgt := 27) hx hb d_X_rank_22 (by decide) (fun c22 => ?_) (fun c22 => ?_)
      · refine lv_aload_n hx hb d_X_rank_27 rfl (lv_at hl 0 rfl) ?_
        refine lv_iload_n hx hb d_X_rank_28 rfl (lv_at hl 3 rfl) ?_
        refine rw_put hx hb hts in_R ck_R ok_R nm_R hown hK.1 (hw.2.1.2 i (hi)) rfl 5 (by decide) (hts _ fl_X_87) rfl (ok_R 5 (by decide)) rfl rfl (Nat.le_of_ble_eq_true rfl) (⟨by omega, by omega⟩) (A := inBk b (b + 101)) cNil d_X_rank_29 (fun H23 L24 z25 o26 hat27 hL28 => ?_)
        have hBr := Blk.one z25 o26
        have hw1 : XW ev b (rowU u i (setR (u.2.1 i) r)) H23 := XW_r hw hi (hat27) hBr (xB_r hw.2.2.2.2 (fun a e => hw.2.2.2.2.2.2.2.1 i a hi e) (hw.2.2.2.2.2.2.2.2 i hi))
        have hn29 := xN_k hn (fun q _ _ => hBr.2 q (by omega))
        have hp30 := xP_k hp (fun q _ _ => hBr.2 q (by omega))
        have hO31 := Old.blk hO hBr (by omega)
        have hB32 := Blk.trans (Blk.rf (lo := b) (hi := b + 101) (H := H0)) (hBr.wide (by omega) (by omega))
        refine lv_aload_n hx hb d_X_rank_32 rfl (lv_at hl 1 rfl) ?_
        refine rw_get hx hb hts in_X hown hK.1 hw1.1 rfl 4 (by decide) (hts _ fl_X_46) rfl d_X_rank_33 ?_
        refine lv_aload_n hx hb d_X_rank_36 rfl (lv_at hl 0 rfl) ?_
        refine rw_get hx hb hts in_R hown hK.1 hat27 rfl 0 (by decide) (hts _ fl_X_90) rfl d_X_rank_37 ?_
        refine cl_d (W.runV (As := [.int ((u.2.1 i).1)]) (rest := []) S (c_N_dropKind hn29 (k := kk) (ek) (hkk)) (cwV 1 hts gv_X_78 rfl rfl rfl (by decide +kernel) ⟨Nat.le_of_ble_eq_true rfl, Nat.le_of_ble_eq_true rfl⟩) (cP_V (KG_ok _) hK hK.1 hn29.1 rfl) rfl rfl hl.1 rfl (lv_room (Nat.le_of_ble_eq_true rfl)) d_X_rank_40 ⟨Nat.le_of_ble_eq_true rfl, Nat.le_of_ble_eq_true rfl⟩) hL28 (fun z h => ⟨by omega, by omega⟩) (fun H33 L34 hp35 hL36 => ?_)
        have hn37 := hp35.1
        have hBd38 := hp35.2
        have hw39 := XW_k hw1 (fun q _ _ => hBd38.2 q (by omega))
        have hp40 := xP_k hp30 (fun q _ _ => hBd38.2 q (by omega))
        have hO41 := Old.blk hO31 hBd38 (by omega)
        have hB42 := Blk.trans hB32 (hBd38.wide (by omega) (by omega))
        refine lv_iconst (v := 1) hx hb d_X_rank_43 (by decide) ?_
        exact ry_i hQ (⟨okI_of (by omega) hni, k22⟩) hx hb hr hlk (rfl) (by simp [bI, c22]) (by rw [if_neg c22, if_neg c22, show nn (u.2.1 i).1 = kk by rw [ek]; exact nn_nI (by omega)]; exact ⟨⟨hw39, ⟨_, KP_dropK hkp rfl (fun k x y h1 h2 _ _ => bes_row ek (by exact ek) hkk h1 h2 x y), hn37⟩, hp40, hO41, hz⟩, Frm.blk hB42 (Nat.le_refl _) (Nat.le_refl _)⟩) hL36 (Nat.le_of_ble_eq_true rfl) (Nat.le_of_ble_eq_true rfl) d_X_rank_44
      · refine lv_iconst (v := 0) hx hb d_X_rank_25 (by decide) ?_
        exact ry_i hQ (⟨okI_of (by omega) hni, k22⟩) hx hb hr hlk (rfl) (by simp [bI, c22]) (by rw [if_pos c22, if_pos c22]; exact ⟨hf, Frm.ext Ext.rf⟩) cNil (Nat.le_of_ble_eq_true rfl) (Nat.le_of_ble_eq_true rfl) d_X_rank_26
def rm_X_inArea : Room := { frames := 7, cells := 2, slots := 12, locals := 104 }
set_option maxRecDepth 100000 in
set_option maxHeartbeats 4000000 in
theorem c_X_inArea {l : Launch} {ev : EV} {H0 : Heap} {b : Nat} {u : XS} {kp : KT} {v : PT} (hT : l.stackTraces = false) (hf : XF ev b u kp v H0) (x a : Int32) : vx_Met l my_X_inArea mw_X_inArea rm_X_inArea (cP [.ref b, .int x, .int a] (KG ev) H0) (cQod (okI u.1.2.1 x ∧ okIN u.1.2.2.1 a) (some (.int (bI (!decide ((u.2.1 (nn x)).2.2.2.2.2.2 = aO a))))) (fun H1 => XF ev b (if (u.2.1 (nn x)).2.2.2.2.2.2 = aO a then u else rowU u (nn x) (setO (u.2.1 (nn x)) (aO a))) (if (u.2.1 (nn x)).2.2.2.2.2.2 = aO a then kp else kpK kp (nn (u.2.1 (nn x)).1)) v H1 ∧ Frm b 101 H0 H1)) (cX (fun E H1 => (¬ (okI u.1.2.1 x ∧ okIN u.1.2.2.1 a)) ∧ E = cIX ∧ XF ev b u kp v H1 ∧ Frm b 101 H0 H1)) 2 12 (inBk b (b + 101)) := by
  refine cHeadX [.ref b, .int x, .int a] (by decide) rfl (Nat.le_of_ble_eq_true rfl) ?_
  intro p e s m below meth c ls args QQ hQ htab S hr hlk hnm hs hK hl
  have S : CallFix p m c mb_X_inArea 4 s args TB "RuleChoice" := S
  obtain ⟨hx, hb, hml, hown, hts⟩ := id S
  obtain ⟨hw, ⟨sl, hkp, hn⟩, hp, hO, hz⟩ := id hf
  have hold := hO
  have ht40 : u.1.2.2.2.1 ≤ 40 := hw.2.2.2.2.2.2.1
  have hr40 : u.1.2.1 ≤ 40 := hw.2.2.2.2.1
  have ha12 : u.1.2.2.1 ≤ 12 := hw.2.2.2.2.2.1
  have hl : lv_has ls 4 [(0, .ref b), (1, .int x), (2, .int a)] := hl
  refine lv_aload_n hx hb d_X_inArea_0 rfl (lv_at hl 0 rfl) ?_
  refine lv_iload_n hx hb d_X_inArea_1 rfl (lv_at hl 1 rfl) ?_
  refine cx_v (vx_runV (As := [.int x]) (rest := []) S (c_X_needRule hT hold hw x) (cwV 1 hts gv_X_81 rfl rfl rfl (by decide +kernel) ⟨Nat.le_of_ble_eq_true rfl, Nat.le_of_ble_eq_true rfl⟩) (cP_V (KG_ok _) hK hK.1 hw.1 rfl) rfl rfl hl.1 rfl (lv_room (Nat.le_of_ble_eq_true rfl)) d_X_inArea_2 ⟨Nat.le_of_ble_eq_true rfl, Nat.le_of_ble_eq_true rfl⟩) (A := inBk b (b + 101)) cNil (fun E1 H2 ce3 q4 L5 hp6 hL7 h8 h9 h10 => ?_) (fun k11 => ?_)
  · exact cx_out hQ htab hlk h8 h9 h10 (⟨fun h => hp6.1 h.1, hp6.2.1, XF_ext hf hp6.2.2, Frm.ext hp6.2.2⟩) hL7 (Nat.le_of_ble_eq_true rfl) (Nat.le_of_ble_eq_true rfl)
  · refine lv_aload_n hx hb d_X_inArea_5 rfl (lv_at hl 0 rfl) ?_
    refine lv_iload_n hx hb d_X_inArea_6 rfl (lv_at hl 2 rfl) ?_
    refine cx_v (vx_runV (As := [.int a]) (rest := []) S (c_X_needAreaOrNone hT hold hw a) (cwV 1 hts gv_X_107 rfl rfl rfl (by decide +kernel) ⟨Nat.le_of_ble_eq_true rfl, Nat.le_of_ble_eq_true rfl⟩) (cP_V (KG_ok _) hK hK.1 hw.1 rfl) rfl rfl hl.1 rfl (lv_room (Nat.le_of_ble_eq_true rfl)) d_X_inArea_7 ⟨Nat.le_of_ble_eq_true rfl, Nat.le_of_ble_eq_true rfl⟩) (A := inBk b (b + 101)) cNil (fun E12 H13 ce14 q15 L16 hp17 hL18 h19 h20 h21 => ?_) (fun k22 => ?_)
    · exact cx_out hQ htab hlk h19 h20 h21 (⟨fun h => hp17.1 h.2, hp17.2.1, XF_ext hf hp17.2.2, Frm.ext hp17.2.2⟩) hL18 (Nat.le_of_ble_eq_true rfl) (Nat.le_of_ble_eq_true rfl)
    · obtain ⟨i, hni, hi, rfl⟩ := okIdx hw.2.2.2.2.1 k11
      simp only [nn_nI (i := i) (by omega)] at hQ
      obtain ⟨kk, hkk, ek⟩ := okK_ix (hw.2.2.2.2.2.2.2.2 i hi)
      obtain ⟨eA, lA⟩ := aO_I ha12 k22
      refine lv_aload_n hx hb d_X_inArea_10 rfl (lv_at hl 0 rfl) ?_
      refine rw_get hx hb hts in_X hown hK.1 hw.1 rfl 1 (by decide) (hts _ fl_X_24) rfl d_X_inArea_11 ?_
      refine lv_iload_n hx hb d_X_inArea_14 rfl (lv_at hl 1 rfl) ?_
      refine rw_aald hx hb hK.1 3 hw.2.1.1 rfl i (rfl) (hi) (by decide) rfl d_X_inArea_15 ?_
      refine lv_astore_n (lv' := [(3, .ref (b + 2 + i)), (0, .ref b), (1, .int (nI i)), (2, .int a)]) hx hb d_X_inArea_16 rfl hl (by decide) rfl (fun ls hl => ?_)
      refine lv_aload_n hx hb d_X_inArea_17 rfl (lv_at hl 0 rfl) ?_
      refine rw_get hx hb hts in_R hown hK.1 (hw.2.1.2 i (hi)) rfl 6 (by decide) (hts _ fl_X_110) rfl d_X_inArea_18 ?_
      refine lv_iload_n hx hb d_X_inArea_21 rfl (lv_at hl 3 rfl) ?_
      refine lv_icmp_ne (tgt := 27) hx hb d_X_inArea_22 (by decide) (fun c22 => ?_) (fun c22 => ?_)
      · refine lv_aload_n hx hb d_X_inArea_27 rfl (lv_at hl 0 rfl) ?_
        refine lv_iload_n hx hb d_X_inArea_28 rfl (lv_at hl 3 rfl) ?_
        refine rw_put hx hb hts in_R ck_R ok_R nm_R hown hK.1 (hw.2.1.2 i (hi)) rfl 6 (by decide) (hts _ fl_X_110) rfl (ok_R 6 (by decide)) rfl rfl (Nat.le_of_ble_eq_true rfl) (⟨by omega, by omega⟩) (A := inBk b (b + 101)) cNil d_X_inArea_29 (fun H23 L24 z25 o26 hat27 hL28 => ?_)
        have hBr := Blk.one z25 o26
        have hw1 : XW ev b (rowU u i (setO (u.2.1 i) (aO a))) H23 := XW_r hw hi (by show pt ev H23 (b + 2 + i) (oC 4 (ruV (setO (u.2.1 i) (aO a)))); unfold setO; rw [ruV, eA]; exact hat27) hBr (xB_r hw.2.2.2.2 (lA) (hw.2.2.2.2.2.2.2.2 i hi))
        have hn29 := xN_k hn (fun q _ _ => hBr.2 q (by omega))
        have hp30 := xP_k hp (fun q _ _ => hBr.2 q (by omega))
        have hO31 := Old.blk hO hBr (by omega)
        have hB32 := Blk.trans (Blk.rf (lo := b) (hi := b + 101) (H := H0)) (hBr.wide (by omega) (by omega))
        refine lv_aload_n hx hb d_X_inArea_32 rfl (lv_at hl 1 rfl) ?_
        refine rw_get hx hb hts in_X hown hK.1 hw1.1 rfl 4 (by decide) (hts _ fl_X_46) rfl d_X_inArea_33 ?_
        refine lv_aload_n hx hb d_X_inArea_36 rfl (lv_at hl 0 rfl) ?_
        refine rw_get hx hb hts in_R hown hK.1 hat27 rfl 0 (by decide) (hts _ fl_X_90) rfl d_X_inArea_37 ?_
        refine cl_d (W.runV (As := [.int ((u.2.1 i).1)]) (rest := []) S (c_N_dropKind hn29 (k := kk) (ek) (hkk)) (cwV 1 hts gv_X_78 rfl rfl rfl (by decide +kernel) ⟨Nat.le_of_ble_eq_true rfl, Nat.le_of_ble_eq_true rfl⟩) (cP_V (KG_ok _) hK hK.1 hn29.1 rfl) rfl rfl hl.1 rfl (lv_room (Nat.le_of_ble_eq_true rfl)) d_X_inArea_40 ⟨Nat.le_of_ble_eq_true rfl, Nat.le_of_ble_eq_true rfl⟩) hL28 (fun z h => ⟨by omega, by omega⟩) (fun H33 L34 hp35 hL36 => ?_)
        have hn37 := hp35.1
        have hBd38 := hp35.2
        have hw39 := XW_k hw1 (fun q _ _ => hBd38.2 q (by omega))
        have hp40 := xP_k hp30 (fun q _ _ => hBd38.2 q (by omega))
        have hO41 := Old.blk hO31 hBd38 (by omega)
        have hB42 := Blk.trans hB32 (hBd38.wide (by omega) (by omega))
        refine lv_iconst (v := 1) hx hb d_X_inArea_43 (by decide) ?_
        have g22 : ¬ (u.2.1 i).2.2.2.2.2.2 = aO a := fun e => c22 (by rw [e]; exact eA)
        exact ry_i hQ (⟨okI_of (by omega) hni, k22⟩) hx hb hr hlk (rfl) (by simp [bI, g22]) (by rw [if_neg g22, if_neg g22, show nn (u.2.1 i).1 = kk by rw [ek]; exact nn_nI (by omega)]; exact ⟨⟨hw39, ⟨_, KP_dropK hkp rfl (fun k x y h1 h2 _ _ => bes_row ek (by exact ek) hkk h1 h2 x y), hn37⟩, hp40, hO41, hz⟩, Frm.blk hB42 (Nat.le_refl _) (Nat.le_refl _)⟩) hL36 (Nat.le_of_ble_eq_true rfl) (Nat.le_of_ble_eq_true rfl) d_X_inArea_44
      · refine lv_iconst (v := 0) hx hb d_X_inArea_25 (by decide) ?_
        have g22 : (u.2.1 i).2.2.2.2.2.2 = aO a := oI_inj (fun z e => Nat.lt_trans (xB_12 hw.2.2.2.2 hi e) (by decide)) (fun z e => Nat.lt_of_lt_of_le (lA z e) (by omega)) (c22.trans eA.symm)
        exact ry_i hQ (⟨okI_of (by omega) hni, k22⟩) hx hb hr hlk (rfl) (by simp [bI, g22]) (by rw [if_pos g22, if_pos g22]; exact ⟨hf, Frm.ext Ext.rf⟩) cNil (Nat.le_of_ble_eq_true rfl) (Nat.le_of_ble_eq_true rfl) d_X_inArea_26
