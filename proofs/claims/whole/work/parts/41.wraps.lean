def rm_L_rule : Room := { frames := 9, cells := 5, slots := 30, locals := 151 }
set_option maxRecDepth 100000 in
set_option maxHeartbeats 4000000 in
theorem c_L_rule {l : Launch} {ev : EV} {H0 : Heap} {b o : Nat} {u : XS} {kp : KT} {v : PT} {f : Nat → Int64} (hT : l.stackTraces = false) (hf : XF ev b u kp v H0) (ho : pt ev H0 o (aL ev 1 f)) (hbo : b + 101 ≤ o) (k ca cb la : Int32) (vv : Int64) : Met l my_L_rule mw_L_rule rm_L_rule (cP [.ref b, .int k, .int ca, .int cb, .int la, .long vv, .ref o] (KG ev) H0) (cQe (fun r H1 => (((okK k ∧ okCN u.1.1 ca ∧ okCN u.1.1 cb ∧ okLN la) ∧ okV vv) ∧ r = .int 0 ∧ XF ev b (rulU u k ca cb la vv) (rulK u kp k) v H1 ∧ pt ev H1 o (aL ev 1 (vp_updL f 0 (if u.1.2.1 < 40 then nI u.1.2.1 else -1).toInt64)) ∨ (¬ (okK k ∧ okCN u.1.1 ca ∧ okCN u.1.1 cb ∧ okLN la)) ∧ r = .int 1 ∧ XF ev b u kp v H1 ∧ pt ev H1 o (aL ev 1 f) ∨ ((okK k ∧ okCN u.1.1 ca ∧ okCN u.1.1 cb ∧ okLN la) ∧ ¬ okV vv) ∧ r = .int 2 ∧ XF ev b u kp v H1 ∧ pt ev H1 o (aL ev 1 f)) ∧ FrL b o H0 H1)) 5 30 (fun z => b ≤ z) := by
  refine cHeadW [.ref b, .int k, .int ca, .int cb, .int la, .long vv, .ref o] (by decide) rfl (Nat.le_of_ble_eq_true rfl) ?_
  intro p e s m below meth c ls args QQ hQ htab S hr hlk hnm hs hK hl
  have S : CallFix p m c mb_L_rule 9 s args TB "RuleChoiceLaw" := S
  obtain ⟨hx, hb, hml, hown, hts⟩ := id S
  have hl : lv_has ls 9 [(0, .ref b), (1, .int k), (2, .int ca), (3, .int cb), (4, .int la), (5, .long vv), (7, .ref o)] := hl
  refine lv_aload hx hb d_L_rule_0 (lv_at hl 6 rfl) ?_
  refine lv_iconst (v := 0) hx hb d_L_rule_2 (by decide) ?_
  refine lv_aload_n hx hb d_L_rule_3 rfl (lv_at hl 0 rfl) ?_
  refine lv_iload_n hx hb d_L_rule_4 rfl (lv_at hl 1 rfl) ?_
  refine lv_iload_n hx hb d_L_rule_5 rfl (lv_at hl 2 rfl) ?_
  refine lv_iload_n hx hb d_L_rule_6 rfl (lv_at hl 3 rfl) ?_
  refine lv_iload hx hb d_L_rule_7 (lv_at hl 4 rfl) ?_
  refine lv_lload hx hb d_L_rule_9 (lv_at hl 5 rfl) ?_
  refine cx_od (A := (fun z => b ≤ z)) (vx_runV (As := [.int k, .int ca, .int cb, .int la, .long vv]) (rest := [.int 0, .ref o]) S (c_X_rule hT hf k ca cb la vv) (cwV 5 hts gv_L_7 rfl rfl rfl (by decide +kernel) ⟨Nat.le_of_ble_eq_true rfl, Nat.le_of_ble_eq_true rfl⟩) (cP_V (KG_ok _) hK hK.1 hf.1.1 rfl) rfl rfl hl.1 rfl (lv_room (Nat.le_of_ble_eq_true rfl)) d_L_rule_11 ⟨Nat.le_of_ble_eq_true rfl, Nat.le_of_ble_eq_true rfl⟩) cNil (fun z h => h.1) (fun E H1 ce q9 L1 hp hL h1 h2 h3 => ?_) (fun H1 L1 hok hp hL => ?_)
  · rcases hp with ⟨⟨hb1, rfl⟩ | ⟨hb1, hb2, rfl⟩, hXF, hFr⟩
    · refine vx_catch (own := "RuleChoiceLaw") (name := cIX) hown [] ⟨0, 16, 19, 13⟩ [⟨0, 16, 23, 15⟩] htab (fun z hz => nomatch hz) (by decide) (by decide) (hts _ cl_L_13) (va_Nw.use rfl hK.2.2.2.2.1.1) h1 h2 h3 ?_
      refine W.eq (g2 := F0 m 19 ls [.ref q9]) rfl ?_
      refine lv_astore (lv' := [(8, .ref q9), (0, .ref b), (1, .int k), (2, .int ca), (3, .int cb), (4, .int la), (5, .long vv), (7, .ref o)]) hx hb d_L_rule_19 hl (by decide) rfl (fun ls hl => ?_)
      refine lv_iconst (v := 1) hx hb d_L_rule_21 (by decide) ?_
      exact re_i hQ hx hb hr hlk rfl (⟨Or.inr (Or.inl ⟨hb1, rfl, hXF, pt_k ho (hFr.2 o (pt_lt ho) (Or.inr hbo))⟩), FrL.of hFr⟩) hL (Nat.le_of_ble_eq_true rfl) (Nat.le_of_ble_eq_true rfl) d_L_rule_22
    · refine vx_catch (own := "RuleChoiceLaw") (name := cIA) hown [⟨0, 16, 19, 13⟩] ⟨0, 16, 23, 15⟩ [] htab (fun z hz => by cases List.mem_singleton.mp hz; exact Or.inr ⟨by decide, cIX, hts _ cl_L_13, hK.2.2.2.2.1.2.2⟩) (by decide) (by decide) (hts _ cl_L_15) (va_Nw.use rfl hK.2.2.2.2.1.2.1) h1 h2 h3 ?_
      refine W.eq (g2 := F0 m 23 ls [.ref q9]) rfl ?_
      refine lv_astore (lv' := [(8, .ref q9), (0, .ref b), (1, .int k), (2, .int ca), (3, .int cb), (4, .int la), (5, .long vv), (7, .ref o)]) hx hb d_L_rule_23 hl (by decide) rfl (fun ls hl => ?_)
      refine lv_iconst (v := 2) hx hb d_L_rule_25 (by decide) ?_
      exact re_i hQ hx hb hr hlk rfl (⟨Or.inr (Or.inr ⟨⟨hb1, hb2⟩, rfl, hXF, pt_k ho (hFr.2 o (pt_lt ho) (Or.inr hbo))⟩), FrL.of hFr⟩) hL (Nat.le_of_ble_eq_true rfl) (Nat.le_of_ble_eq_true rfl) d_L_rule_26
  · have ho2 := pt_k ho (hp.2.2 o (pt_lt ho) (Or.inr hbo))
    refine lv_i2l (v := (if u.1.2.1 < 40 then nI u.1.2.1 else -1).toInt64) hx hb d_L_rule_14 rfl ?_
    refine rw_last hx hb hK.1 1 ho2 rfl 0 (rfl) (by decide) (by decide) ((by show b ≤ o; omega)) hL d_L_rule_15 (fun H1 L2 z3 o4 hat5 hL6 => ?_)
    refine lv_goto (tgt := 27) hx hb d_L_rule_16 (by decide) ?_
    refine lv_iconst (v := 0) hx hb d_L_rule_27 (by decide) ?_
    exact re_i hQ hx hb hr hlk rfl (⟨Or.inl ⟨hok, rfl, XF_o hp.1 hbo z3 o4, hat5⟩, FrL.st hp.2 z3 o4⟩) hL6 (Nat.le_of_ble_eq_true rfl) (Nat.le_of_ble_eq_true rfl) d_L_rule_28
def rm_L_rank : Room := { frames := 8, cells := 2, slots := 12, locals := 127 }
set_option maxRecDepth 100000 in
set_option maxHeartbeats 4000000 in
theorem c_L_rank {l : Launch} {ev : EV} {H0 : Heap} {b o : Nat} {u : XS} {kp : KT} {v : PT} {f : Nat → Int64} (hT : l.stackTraces = false) (hf : XF ev b u kp v H0) (ho : pt ev H0 o (aL ev 1 f)) (hbo : b + 101 ≤ o) (x r1 : Int32) : Met l my_L_rank mw_L_rank rm_L_rank (cP [.ref b, .int x, .int r1, .ref o] (KG ev) H0) (cQe (fun r H1 => ((okI u.1.2.1 x ∧ okR r1) ∧ r = .int 0 ∧ XF ev b (if (u.2.1 (nn x)).2.2.2.2.2.1 = r1 then u else rowU u (nn x) (setR (u.2.1 (nn x)) r1)) (if (u.2.1 (nn x)).2.2.2.2.2.1 = r1 then kp else kpK kp (nn (u.2.1 (nn x)).1)) v H1 ∧ pt ev H1 o (aL ev 1 (vp_updL f 0 (bI (!decide ((u.2.1 (nn x)).2.2.2.2.2.1 = r1))).toInt64)) ∨ (¬ okI u.1.2.1 x) ∧ r = .int 1 ∧ XF ev b u kp v H1 ∧ pt ev H1 o (aL ev 1 f) ∨ (okI u.1.2.1 x ∧ ¬ okR r1) ∧ r = .int 2 ∧ XF ev b u kp v H1 ∧ pt ev H1 o (aL ev 1 f)) ∧ FrL b o H0 H1)) 2 12 (fun z => b ≤ z) := by
  refine cHeadW [.ref b, .int x, .int r1, .ref o] (by decide) rfl (Nat.le_of_ble_eq_true rfl) ?_
  intro p e s m below meth c ls args QQ hQ htab S hr hlk hnm hs hK hl
  have S : CallFix p m c mb_L_rank 5 s args TB "RuleChoiceLaw" := S
  obtain ⟨hx, hb, hml, hown, hts⟩ := id S
  have hl : lv_has ls 5 [(0, .ref b), (1, .int x), (2, .int r1), (3, .ref o)] := hl
  refine lv_aload_n hx hb d_L_rank_0 rfl (lv_at hl 3 rfl) ?_
  refine lv_iconst (v := 0) hx hb d_L_rank_1 (by decide) ?_
  refine lv_aload_n hx hb d_L_rank_2 rfl (lv_at hl 0 rfl) ?_
  refine lv_iload_n hx hb d_L_rank_3 rfl (lv_at hl 1 rfl) ?_
  refine lv_iload_n hx hb d_L_rank_4 rfl (lv_at hl 2 rfl) ?_
  refine cx_od (A := (fun z => b ≤ z)) (vx_runV (As := [.int x, .int r1]) (rest := [.int 0, .ref o]) S (c_X_rank hT hf x r1) (cwV 2 hts gv_L_17 rfl rfl rfl (by decide +kernel) ⟨Nat.le_of_ble_eq_true rfl, Nat.le_of_ble_eq_true rfl⟩) (cP_V (KG_ok _) hK hK.1 hf.1.1 rfl) rfl rfl hl.1 rfl (lv_room (Nat.le_of_ble_eq_true rfl)) d_L_rank_5 ⟨Nat.le_of_ble_eq_true rfl, Nat.le_of_ble_eq_true rfl⟩) cNil (fun z h => h.1) (fun E H1 ce q9 L1 hp hL h1 h2 h3 => ?_) (fun H1 L1 hok hp hL => ?_)
  · rcases hp with ⟨⟨hb1, rfl⟩ | ⟨hb1, hb2, rfl⟩, hXF, hFr⟩
    · refine vx_catch (own := "RuleChoiceLaw") (name := cIX) hown [] ⟨0, 17, 20, 13⟩ [⟨0, 17, 24, 15⟩] htab (fun z hz => nomatch hz) (by decide) (by decide) (hts _ cl_L_13) (va_Nw.use rfl hK.2.2.2.2.1.1) h1 h2 h3 ?_
      refine W.eq (g2 := F0 m 20 ls [.ref q9]) rfl ?_
      refine lv_astore (lv' := [(4, .ref q9), (0, .ref b), (1, .int x), (2, .int r1), (3, .ref o)]) hx hb d_L_rank_20 hl (by decide) rfl (fun ls hl => ?_)
      refine lv_iconst (v := 1) hx hb d_L_rank_22 (by decide) ?_
      exact re_i hQ hx hb hr hlk rfl (⟨Or.inr (Or.inl ⟨hb1, rfl, hXF, pt_k ho (hFr.2 o (pt_lt ho) (Or.inr hbo))⟩), FrL.of hFr⟩) hL (Nat.le_of_ble_eq_true rfl) (Nat.le_of_ble_eq_true rfl) d_L_rank_23
    · refine vx_catch (own := "RuleChoiceLaw") (name := cIA) hown [⟨0, 17, 20, 13⟩] ⟨0, 17, 24, 15⟩ [] htab (fun z hz => by cases List.mem_singleton.mp hz; exact Or.inr ⟨by decide, cIX, hts _ cl_L_13, hK.2.2.2.2.1.2.2⟩) (by decide) (by decide) (hts _ cl_L_15) (va_Nw.use rfl hK.2.2.2.2.1.2.1) h1 h2 h3 ?_
      refine W.eq (g2 := F0 m 24 ls [.ref q9]) rfl ?_
      refine lv_astore (lv' := [(4, .ref q9), (0, .ref b), (1, .int x), (2, .int r1), (3, .ref o)]) hx hb d_L_rank_24 hl (by decide) rfl (fun ls hl => ?_)
      refine lv_iconst (v := 2) hx hb d_L_rank_26 (by decide) ?_
      exact re_i hQ hx hb hr hlk rfl (⟨Or.inr (Or.inr ⟨⟨hb1, hb2⟩, rfl, hXF, pt_k ho (hFr.2 o (pt_lt ho) (Or.inr hbo))⟩), FrL.of hFr⟩) hL (Nat.le_of_ble_eq_true rfl) (Nat.le_of_ble_eq_true rfl) d_L_rank_27
  · have ho2 := pt_k ho (hp.2.2 o (pt_lt ho) (Or.inr hbo))
    refine lv_if_eq (tgt := 15) hx hb d_L_rank_8 (by decide) (fun c8 => ?_) (fun c8 => ?_)
    · refine lv_lconst (v := 0) hx hb d_L_rank_15 (by decide) ?_
      refine tp_l (y := (bI (!decide ((u.2.1 (nn x)).2.2.2.2.2.1 = r1))).toInt64) (by rw [c8]; rfl) ?_
      refine rw_last hx hb hK.1 1 ho2 rfl 0 (rfl) (by decide) (by decide) ((by show b ≤ o; omega)) hL d_L_rank_16 (fun H1 L2 z3 o4 hat5 hL6 => ?_)
      refine lv_goto (tgt := 28) hx hb d_L_rank_17 (by decide) ?_
      refine lv_iconst (v := 0) hx hb d_L_rank_28 (by decide) ?_
      exact re_i hQ hx hb hr hlk rfl (⟨Or.inl ⟨hok, rfl, XF_o hp.1 hbo z3 o4, hat5⟩, FrL.st hp.2 z3 o4⟩) hL6 (Nat.le_of_ble_eq_true rfl) (Nat.le_of_ble_eq_true rfl) d_L_rank_29
    · refine lv_lconst (v := 1) hx hb d_L_rank_11 (by decide) ?_
      refine lv_goto (tgt := 16) hx hb d_L_rank_12 (by decide) ?_
      refine tp_l (y := (bI (!decide ((u.2.1 (nn x)).2.2.2.2.2.1 = r1))).toInt64) (by rw [bI_1 c8]; rfl) ?_
      refine rw_last hx hb hK.1 1 ho2 rfl 0 (rfl) (by decide) (by decide) ((by show b ≤ o; omega)) hL d_L_rank_16 (fun H7 L8 z9 o10 hat11 hL12 => ?_)
      refine lv_goto (tgt := 28) hx hb d_L_rank_17 (by decide) ?_
      refine lv_iconst (v := 0) hx hb d_L_rank_28 (by decide) ?_
      exact re_i hQ hx hb hr hlk rfl (⟨Or.inl ⟨hok, rfl, XF_o hp.1 hbo z9 o10, hat11⟩, FrL.st hp.2 z9 o10⟩) hL12 (Nat.le_of_ble_eq_true rfl) (Nat.le_of_ble_eq_true rfl) d_L_rank_29
def rm_L_area : Room := { frames := 8, cells := 3, slots := 18, locals := 139 }
set_option maxRecDepth 100000 in
set_option maxHeartbeats 4000000 in
theorem c_L_area {l : Launch} {ev : EV} {H0 : Heap} {b o : Nat} {u : XS} {kp : KT} {v : PT} {f : Nat → Int64} (hT : l.stackTraces = false) (hf : XF ev b u kp v H0) (ho : pt ev H0 o (aL ev 1 f)) (hbo : b + 101 ≤ o) (x0 y0 x1 y1 : Int64) : Met l my_L_area mw_L_area rm_L_area (cP [.ref b, .long x0, .long y0, .long x1, .long y1, .ref o] (KG ev) H0) (cQe (fun r H1 => ((okP x0 y0 ∧ okP x1 y1 ∧ okT x0 y0 x1 y1) ∧ r = .int 0 ∧ XF ev b (areU u (x0, y0, x1, y1)) kp v H1 ∧ pt ev H1 o (aL ev 1 (vp_updL f 0 (if u.1.2.2.1 < 12 then nI u.1.2.2.1 else -1).toInt64)) ∨ (¬ (okP x0 y0 ∧ okP x1 y1 ∧ okT x0 y0 x1 y1)) ∧ r = .int 1 ∧ XF ev b u kp v H1 ∧ pt ev H1 o (aL ev 1 f)) ∧ FrL b o H0 H1)) 3 18 (fun z => b ≤ z) := by
  refine cHeadW [.ref b, .long x0, .long y0, .long x1, .long y1, .ref o] (by decide) rfl (Nat.le_of_ble_eq_true rfl) ?_
  intro p e s m below meth c ls args QQ hQ htab S hr hlk hnm hs hK hl
  have S : CallFix p m c mb_L_area 11 s args TB "RuleChoiceLaw" := S
  obtain ⟨hx, hb, hml, hown, hts⟩ := id S
  have hl : lv_has ls 11 [(0, .ref b), (1, .long x0), (3, .long y0), (5, .long x1), (7, .long y1), (9, .ref o)] := hl
  refine lv_aload hx hb d_L_area_0 (lv_at hl 5 rfl) ?_
  refine lv_iconst (v := 0) hx hb d_L_area_2 (by decide) ?_
  refine lv_aload_n hx hb d_L_area_3 rfl (lv_at hl 0 rfl) ?_
  refine lv_lload_n hx hb d_L_area_4 rfl (lv_at hl 1 rfl) ?_
  refine lv_lload_n hx hb d_L_area_5 rfl (lv_at hl 2 rfl) ?_
  refine lv_lload hx hb d_L_area_6 (lv_at hl 3 rfl) ?_
  refine lv_lload hx hb d_L_area_8 (lv_at hl 4 rfl) ?_
  refine cx_od (A := (fun z => b ≤ z)) (vx_runV (As := [.long x0, .long y0, .long x1, .long y1]) (rest := [.int 0, .ref o]) S (c_X_area hT hf x0 y0 x1 y1) (cwV 4 hts gv_L_21 rfl rfl rfl (by decide +kernel) ⟨Nat.le_of_ble_eq_true rfl, Nat.le_of_ble_eq_true rfl⟩) (cP_V (KG_ok _) hK hK.1 hf.1.1 rfl) rfl rfl hl.1 rfl (lv_room (Nat.le_of_ble_eq_true rfl)) d_L_area_10 ⟨Nat.le_of_ble_eq_true rfl, Nat.le_of_ble_eq_true rfl⟩) cNil (fun z h => h.1) (fun E H1 ce q9 L1 hp hL h1 h2 h3 => ?_) (fun H1 L1 hok hp hL => ?_)
  · obtain ⟨hb1, rfl, hXF, hFr⟩ := hp
    refine vx_catch (own := "RuleChoiceLaw") (name := cIA) hown [] ⟨0, 15, 18, 15⟩ [] htab (fun z hz => nomatch hz) (by decide) (by decide) (hts _ cl_L_15) (va_Nw.use rfl hK.2.2.2.2.1.2.1) h1 h2 h3 ?_
    refine W.eq (g2 := F0 m 18 ls [.ref q9]) rfl ?_
    refine lv_astore (lv' := [(10, .ref q9), (0, .ref b), (1, .long x0), (3, .long y0), (5, .long x1), (7, .long y1), (9, .ref o)]) hx hb d_L_area_18 hl (by decide) rfl (fun ls hl => ?_)
    refine lv_iconst (v := 1) hx hb d_L_area_20 (by decide) ?_
    exact re_i hQ hx hb hr hlk rfl (⟨Or.inr ⟨hb1, rfl, hXF, pt_k ho (hFr.2 o (pt_lt ho) (Or.inr hbo))⟩, FrL.of hFr⟩) hL (Nat.le_of_ble_eq_true rfl) (Nat.le_of_ble_eq_true rfl) d_L_area_21
  · have ho2 := pt_k ho (hp.2.2 o (pt_lt ho) (Or.inr hbo))
    refine lv_i2l (v := (if u.1.2.2.1 < 12 then nI u.1.2.2.1 else -1).toInt64) hx hb d_L_area_13 rfl ?_
    refine rw_last hx hb hK.1 1 ho2 rfl 0 (rfl) (by decide) (by decide) ((by show b ≤ o; omega)) hL d_L_area_14 (fun H1 L2 z3 o4 hat5 hL6 => ?_)
    refine lv_goto (tgt := 22) hx hb d_L_area_15 (by decide) ?_
    refine lv_iconst (v := 0) hx hb d_L_area_22 (by decide) ?_
    exact re_i hQ hx hb hr hlk rfl (⟨Or.inl ⟨hok, rfl, XF_o hp.1 hbo z3 o4, hat5⟩, FrL.st hp.2 z3 o4⟩) hL6 (Nat.le_of_ble_eq_true rfl) (Nat.le_of_ble_eq_true rfl) d_L_area_23
def rm_L_inArea : Room := { frames := 8, cells := 2, slots := 12, locals := 127 }
set_option maxRecDepth 100000 in
set_option maxHeartbeats 4000000 in
theorem c_L_inArea {l : Launch} {ev : EV} {H0 : Heap} {b o : Nat} {u : XS} {kp : KT} {v : PT} {f : Nat → Int64} (hT : l.stackTraces = false) (hf : XF ev b u kp v H0) (ho : pt ev H0 o (aL ev 1 f)) (hbo : b + 101 ≤ o) (x a : Int32) : Met l my_L_inArea mw_L_inArea rm_L_inArea (cP [.ref b, .int x, .int a, .ref o] (KG ev) H0) (cQe (fun r H1 => ((okI u.1.2.1 x ∧ okIN u.1.2.2.1 a) ∧ r = .int 0 ∧ XF ev b (if (u.2.1 (nn x)).2.2.2.2.2.2 = aO a then u else rowU u (nn x) (setO (u.2.1 (nn x)) (aO a))) (if (u.2.1 (nn x)).2.2.2.2.2.2 = aO a then kp else kpK kp (nn (u.2.1 (nn x)).1)) v H1 ∧ pt ev H1 o (aL ev 1 (vp_updL f 0 (bI (!decide ((u.2.1 (nn x)).2.2.2.2.2.2 = aO a))).toInt64)) ∨ (¬ (okI u.1.2.1 x ∧ okIN u.1.2.2.1 a)) ∧ r = .int 1 ∧ XF ev b u kp v H1 ∧ pt ev H1 o (aL ev 1 f)) ∧ FrL b o H0 H1)) 2 12 (fun z => b ≤ z) := by
  refine cHeadW [.ref b, .int x, .int a, .ref o] (by decide) rfl (Nat.le_of_ble_eq_true rfl) ?_
  intro p e s m below meth c ls args QQ hQ htab S hr hlk hnm hs hK hl
  have S : CallFix p m c mb_L_inArea 5 s args TB "RuleChoiceLaw" := S
  obtain ⟨hx, hb, hml, hown, hts⟩ := id S
  have hl : lv_has ls 5 [(0, .ref b), (1, .int x), (2, .int a), (3, .ref o)] := hl
  refine lv_aload_n hx hb d_L_inArea_0 rfl (lv_at hl 3 rfl) ?_
  refine lv_iconst (v := 0) hx hb d_L_inArea_1 (by decide) ?_
  refine lv_aload_n hx hb d_L_inArea_2 rfl (lv_at hl 0 rfl) ?_
  refine lv_iload_n hx hb d_L_inArea_3 rfl (lv_at hl 1 rfl) ?_
  refine lv_iload_n hx hb d_L_inArea_4 rfl (lv_at hl 2 rfl) ?_
  refine cx_od (A := (fun z => b ≤ z)) (vx_runV (As := [.int x, .int a]) (rest := [.int 0, .ref o]) S (c_X_inArea hT hf x a) (cwV 2 hts gv_L_25 rfl rfl rfl (by decide +kernel) ⟨Nat.le_of_ble_eq_true rfl, Nat.le_of_ble_eq_true rfl⟩) (cP_V (KG_ok _) hK hK.1 hf.1.1 rfl) rfl rfl hl.1 rfl (lv_room (Nat.le_of_ble_eq_true rfl)) d_L_inArea_5 ⟨Nat.le_of_ble_eq_true rfl, Nat.le_of_ble_eq_true rfl⟩) cNil (fun z h => h.1) (fun E H1 ce q9 L1 hp hL h1 h2 h3 => ?_) (fun H1 L1 hok hp hL => ?_)
  · obtain ⟨hb1, rfl, hXF, hFr⟩ := hp
    refine vx_catch (own := "RuleChoiceLaw") (name := cIX) hown [] ⟨0, 17, 20, 13⟩ [] htab (fun z hz => nomatch hz) (by decide) (by decide) (hts _ cl_L_13) (va_Nw.use rfl hK.2.2.2.2.1.1) h1 h2 h3 ?_
    refine W.eq (g2 := F0 m 20 ls [.ref q9]) rfl ?_
    refine lv_astore (lv' := [(4, .ref q9), (0, .ref b), (1, .int x), (2, .int a), (3, .ref o)]) hx hb d_L_inArea_20 hl (by decide) rfl (fun ls hl => ?_)
    refine lv_iconst (v := 1) hx hb d_L_inArea_22 (by decide) ?_
    exact re_i hQ hx hb hr hlk rfl (⟨Or.inr ⟨hb1, rfl, hXF, pt_k ho (hFr.2 o (pt_lt ho) (Or.inr hbo))⟩, FrL.of hFr⟩) hL (Nat.le_of_ble_eq_true rfl) (Nat.le_of_ble_eq_true rfl) d_L_inArea_23
  · have ho2 := pt_k ho (hp.2.2 o (pt_lt ho) (Or.inr hbo))
    refine lv_if_eq (tgt := 15) hx hb d_L_inArea_8 (by decide) (fun c8 => ?_) (fun c8 => ?_)
    · refine lv_lconst (v := 0) hx hb d_L_inArea_15 (by decide) ?_
      refine tp_l (y := (bI (!decide ((u.2.1 (nn x)).2.2.2.2.2.2 = aO a))).toInt64) (by rw [c8]; rfl) ?_
      refine rw_last hx hb hK.1 1 ho2 rfl 0 (rfl) (by decide) (by decide) ((by show b ≤ o; omega)) hL d_L_inArea_16 (fun H1 L2 z3 o4 hat5 hL6 => ?_)
      refine lv_goto (tgt := 24) hx hb d_L_inArea_17 (by decide) ?_
      refine lv_iconst (v := 0) hx hb d_L_inArea_24 (by decide) ?_
      exact re_i hQ hx hb hr hlk rfl (⟨Or.inl ⟨hok, rfl, XF_o hp.1 hbo z3 o4, hat5⟩, FrL.st hp.2 z3 o4⟩) hL6 (Nat.le_of_ble_eq_true rfl) (Nat.le_of_ble_eq_true rfl) d_L_inArea_25
    · refine lv_lconst (v := 1) hx hb d_L_inArea_11 (by decide) ?_
      refine lv_goto (tgt := 16) hx hb d_L_inArea_12 (by decide) ?_
      refine tp_l (y := (bI (!decide ((u.2.1 (nn x)).2.2.2.2.2.2 = aO a))).toInt64) (by rw [bI_1 c8]; rfl) ?_
      refine rw_last hx hb hK.1 1 ho2 rfl 0 (rfl) (by decide) (by decide) ((by show b ≤ o; omega)) hL d_L_inArea_16 (fun H7 L8 z9 o10 hat11 hL12 => ?_)
      refine lv_goto (tgt := 24) hx hb d_L_inArea_17 (by decide) ?_
      refine lv_iconst (v := 0) hx hb d_L_inArea_24 (by decide) ?_
      exact re_i hQ hx hb hr hlk rfl (⟨Or.inl ⟨hok, rfl, XF_o hp.1 hbo z9 o10, hat11⟩, FrL.st hp.2 z9 o10⟩) hL12 (Nat.le_of_ble_eq_true rfl) (Nat.le_of_ble_eq_true rfl) d_L_inArea_25
def rm_L_thing : Room := { frames := 8, cells := 3, slots := 18, locals := 134 }
set_option maxRecDepth 100000 in
set_option maxHeartbeats 4000000 in
theorem c_L_thing {l : Launch} {ev : EV} {H0 : Heap} {b o : Nat} {u : XS} {kp : KT} {v : PT} {f : Nat → Int64} (hT : l.stackTraces = false) (hf : XF ev b u kp v H0) (ho : pt ev H0 o (aL ev 1 f)) (hbo : b + 101 ≤ o) (ca la : Int32) (x y : Int64) : Met l my_L_thing mw_L_thing rm_L_thing (cP [.ref b, .int ca, .int la, .long x, .long y, .ref o] (KG ev) H0) (cQe (fun r H1 => (((okC u.1.1 ca ∧ okL la) ∧ okP x y) ∧ r = .int 0 ∧ XF ev b (thiU u (ca, la, x, y)) kp v H1 ∧ pt ev H1 o (aL ev 1 (vp_updL f 0 (if u.1.2.2.2.1 < 40 then nI u.1.2.2.2.1 else -1).toInt64)) ∨ (¬ (okC u.1.1 ca ∧ okL la)) ∧ r = .int 1 ∧ XF ev b u kp v H1 ∧ pt ev H1 o (aL ev 1 f) ∨ ((okC u.1.1 ca ∧ okL la) ∧ ¬ okP x y) ∧ r = .int 2 ∧ XF ev b u kp v H1 ∧ pt ev H1 o (aL ev 1 f)) ∧ FrL b o H0 H1)) 3 18 (fun z => b ≤ z) := by
  refine cHeadW [.ref b, .int ca, .int la, .long x, .long y, .ref o] (by decide) rfl (Nat.le_of_ble_eq_true rfl) ?_
  intro p e s m below meth c ls args QQ hQ htab S hr hlk hnm hs hK hl
  have S : CallFix p m c mb_L_thing 9 s args TB "RuleChoiceLaw" := S
  obtain ⟨hx, hb, hml, hown, hts⟩ := id S
  have hl : lv_has ls 9 [(0, .ref b), (1, .int ca), (2, .int la), (3, .long x), (5, .long y), (7, .ref o)] := hl
  refine lv_aload hx hb d_L_thing_0 (lv_at hl 5 rfl) ?_
  refine lv_iconst (v := 0) hx hb d_L_thing_2 (by decide) ?_
  refine lv_aload_n hx hb d_L_thing_3 rfl (lv_at hl 0 rfl) ?_
  refine lv_iload_n hx hb d_L_thing_4 rfl (lv_at hl 1 rfl) ?_
  refine lv_iload_n hx hb d_L_thing_5 rfl (lv_at hl 2 rfl) ?_
  refine lv_lload_n hx hb d_L_thing_6 rfl (lv_at hl 3 rfl) ?_
  refine lv_lload hx hb d_L_thing_7 (lv_at hl 4 rfl) ?_
  refine cx_od (A := (fun z => b ≤ z)) (vx_runV (As := [.int ca, .int la, .long x, .long y]) (rest := [.int 0, .ref o]) S (c_X_thing hT hf ca la x y) (cwV 4 hts gv_L_28 rfl rfl rfl (by decide +kernel) ⟨Nat.le_of_ble_eq_true rfl, Nat.le_of_ble_eq_true rfl⟩) (cP_V (KG_ok _) hK hK.1 hf.1.1 rfl) rfl rfl hl.1 rfl (lv_room (Nat.le_of_ble_eq_true rfl)) d_L_thing_9 ⟨Nat.le_of_ble_eq_true rfl, Nat.le_of_ble_eq_true rfl⟩) cNil (fun z h => h.1) (fun E H1 ce q9 L1 hp hL h1 h2 h3 => ?_) (fun H1 L1 hok hp hL => ?_)
  · rcases hp with ⟨⟨hb1, rfl⟩ | ⟨hb1, hb2, rfl⟩, hXF, hFr⟩
    · refine vx_catch (own := "RuleChoiceLaw") (name := cIX) hown [] ⟨0, 14, 17, 13⟩ [⟨0, 14, 21, 15⟩] htab (fun z hz => nomatch hz) (by decide) (by decide) (hts _ cl_L_13) (va_Nw.use rfl hK.2.2.2.2.1.1) h1 h2 h3 ?_
      refine W.eq (g2 := F0 m 17 ls [.ref q9]) rfl ?_
      refine lv_astore (lv' := [(8, .ref q9), (0, .ref b), (1, .int ca), (2, .int la), (3, .long x), (5, .long y), (7, .ref o)]) hx hb d_L_thing_17 hl (by decide) rfl (fun ls hl => ?_)
      refine lv_iconst (v := 1) hx hb d_L_thing_19 (by decide) ?_
      exact re_i hQ hx hb hr hlk rfl (⟨Or.inr (Or.inl ⟨hb1, rfl, hXF, pt_k ho (hFr.2 o (pt_lt ho) (Or.inr hbo))⟩), FrL.of hFr⟩) hL (Nat.le_of_ble_eq_true rfl) (Nat.le_of_ble_eq_true rfl) d_L_thing_20
    · refine vx_catch (own := "RuleChoiceLaw") (name := cIA) hown [⟨0, 14, 17, 13⟩] ⟨0, 14, 21, 15⟩ [] htab (fun z hz => by cases List.mem_singleton.mp hz; exact Or.inr ⟨by decide, cIX, hts _ cl_L_13, hK.2.2.2.2.1.2.2⟩) (by decide) (by decide) (hts _ cl_L_15) (va_Nw.use rfl hK.2.2.2.2.1.2.1) h1 h2 h3 ?_
      refine W.eq (g2 := F0 m 21 ls [.ref q9]) rfl ?_
      refine lv_astore (lv' := [(8, .ref q9), (0, .ref b), (1, .int ca), (2, .int la), (3, .long x), (5, .long y), (7, .ref o)]) hx hb d_L_thing_21 hl (by decide) rfl (fun ls hl => ?_)
      refine lv_iconst (v := 2) hx hb d_L_thing_23 (by decide) ?_
      exact re_i hQ hx hb hr hlk rfl (⟨Or.inr (Or.inr ⟨⟨hb1, hb2⟩, rfl, hXF, pt_k ho (hFr.2 o (pt_lt ho) (Or.inr hbo))⟩), FrL.of hFr⟩) hL (Nat.le_of_ble_eq_true rfl) (Nat.le_of_ble_eq_true rfl) d_L_thing_24
  · have ho2 := pt_k ho (hp.2.2 o (pt_lt ho) (Or.inr hbo))
    refine lv_i2l (v := (if u.1.2.2.2.1 < 40 then nI u.1.2.2.2.1 else -1).toInt64) hx hb d_L_thing_12 rfl ?_
    refine rw_last hx hb hK.1 1 ho2 rfl 0 (rfl) (by decide) (by decide) ((by show b ≤ o; omega)) hL d_L_thing_13 (fun H1 L2 z3 o4 hat5 hL6 => ?_)
    refine lv_goto (tgt := 25) hx hb d_L_thing_14 (by decide) ?_
    refine lv_iconst (v := 0) hx hb d_L_thing_25 (by decide) ?_
    exact re_i hQ hx hb hr hlk rfl (⟨Or.inl ⟨hok, rfl, XF_o hp.1 hbo z3 o4, hat5⟩, FrL.st hp.2 z3 o4⟩) hL6 (Nat.le_of_ble_eq_true rfl) (Nat.le_of_ble_eq_true rfl) d_L_thing_26
def rm_L_make : Room := { frames := 8, cells := 3, slots := 18, locals := 128 }
set_option maxRecDepth 100000 in
set_option maxHeartbeats 4000000 in
theorem c_L_make {l : Launch} {ev : EV} {H0 : Heap} {b o : Nat} {u : XS} {kp : KT} {v : PT} {f : Nat → Int64} (hT : l.stackTraces = false) (hf : XF ev b u kp v H0) (ho : pt ev H0 o (aL ev 1 f)) (hbo : b + 101 ≤ o) (t ca la : Int32) : Met l my_L_make mw_L_make rm_L_make (cP [.ref b, .int t, .int ca, .int la, .ref o] (KG ev) H0) (cQe (fun r H1 => ((okI u.1.2.2.2.1 t ∧ okC u.1.1 ca ∧ okL la) ∧ r = .int 0 ∧ XF ev b (if (u.2.2.2 (nn t)).1 = ca ∧ (u.2.2.2 (nn t)).2.1 = la then u else thgU u (nn t) (ca, la, (u.2.2.2 (nn t)).2.2)) (if (u.2.2.2 (nn t)).1 = ca ∧ (u.2.2.2 (nn t)).2.1 = la then kp else kpD kp (nn t)) v H1 ∧ pt ev H1 o (aL ev 1 (vp_updL f 0 (bI (!decide ((u.2.2.2 (nn t)).1 = ca ∧ (u.2.2.2 (nn t)).2.1 = la))).toInt64)) ∨ (¬ (okI u.1.2.2.2.1 t ∧ okC u.1.1 ca ∧ okL la)) ∧ r = .int 1 ∧ XF ev b u kp v H1 ∧ pt ev H1 o (aL ev 1 f)) ∧ FrL b o H0 H1)) 3 18 (fun z => b ≤ z) := by
  refine cHeadW [.ref b, .int t, .int ca, .int la, .ref o] (by decide) rfl (Nat.le_of_ble_eq_true rfl) ?_
  intro p e s m below meth c ls args QQ hQ htab S hr hlk hnm hs hK hl
  have S : CallFix p m c mb_L_make 6 s args TB "RuleChoiceLaw" := S
  obtain ⟨hx, hb, hml, hown, hts⟩ := id S
  have hl : lv_has ls 6 [(0, .ref b), (1, .int t), (2, .int ca), (3, .int la), (4, .ref o)] := hl
  refine lv_aload hx hb d_L_make_0 (lv_at hl 4 rfl) ?_
  refine lv_iconst (v := 0) hx hb d_L_make_2 (by decide) ?_
  refine lv_aload_n hx hb d_L_make_3 rfl (lv_at hl 0 rfl) ?_
  refine lv_iload_n hx hb d_L_make_4 rfl (lv_at hl 1 rfl) ?_
  refine lv_iload_n hx hb d_L_make_5 rfl (lv_at hl 2 rfl) ?_
  refine lv_iload_n hx hb d_L_make_6 rfl (lv_at hl 3 rfl) ?_
  refine cx_od (A := (fun z => b ≤ z)) (vx_runV (As := [.int t, .int ca, .int la]) (rest := [.int 0, .ref o]) S (c_X_make hT hf t ca la) (cwV 3 hts gv_L_32 rfl rfl rfl (by decide +kernel) ⟨Nat.le_of_ble_eq_true rfl, Nat.le_of_ble_eq_true rfl⟩) (cP_V (KG_ok _) hK hK.1 hf.1.1 rfl) rfl rfl hl.1 rfl (lv_room (Nat.le_of_ble_eq_true rfl)) d_L_make_7 ⟨Nat.le_of_ble_eq_true rfl, Nat.le_of_ble_eq_true rfl⟩) cNil (fun z h => h.1) (fun E H1 ce q9 L1 hp hL h1 h2 h3 => ?_) (fun H1 L1 hok hp hL => ?_)
  · obtain ⟨hb1, rfl, hXF, hFr⟩ := hp
    refine vx_catch (own := "RuleChoiceLaw") (name := cIX) hown [] ⟨0, 19, 22, 13⟩ [] htab (fun z hz => nomatch hz) (by decide) (by decide) (hts _ cl_L_13) (va_Nw.use rfl hK.2.2.2.2.1.1) h1 h2 h3 ?_
    refine W.eq (g2 := F0 m 22 ls [.ref q9]) rfl ?_
    refine lv_astore (lv' := [(5, .ref q9), (0, .ref b), (1, .int t), (2, .int ca), (3, .int la), (4, .ref o)]) hx hb d_L_make_22 hl (by decide) rfl (fun ls hl => ?_)
    refine lv_iconst (v := 1) hx hb d_L_make_24 (by decide) ?_
    exact re_i hQ hx hb hr hlk rfl (⟨Or.inr ⟨hb1, rfl, hXF, pt_k ho (hFr.2 o (pt_lt ho) (Or.inr hbo))⟩, FrL.of hFr⟩) hL (Nat.le_of_ble_eq_true rfl) (Nat.le_of_ble_eq_true rfl) d_L_make_25
  · have ho2 := pt_k ho (hp.2.2 o (pt_lt ho) (Or.inr hbo))
    refine lv_if_eq (tgt := 17) hx hb d_L_make_10 (by decide) (fun c10 => ?_) (fun c10 => ?_)
    · refine lv_lconst (v := 0) hx hb d_L_make_17 (by decide) ?_
      refine tp_l (y := (bI (!decide ((u.2.2.2 (nn t)).1 = ca ∧ (u.2.2.2 (nn t)).2.1 = la))).toInt64) (by rw [c10]; rfl) ?_
      refine rw_last hx hb hK.1 1 ho2 rfl 0 (rfl) (by decide) (by decide) ((by show b ≤ o; omega)) hL d_L_make_18 (fun H1 L2 z3 o4 hat5 hL6 => ?_)
      refine lv_goto (tgt := 26) hx hb d_L_make_19 (by decide) ?_
      refine lv_iconst (v := 0) hx hb d_L_make_26 (by decide) ?_
      exact re_i hQ hx hb hr hlk rfl (⟨Or.inl ⟨hok, rfl, XF_o hp.1 hbo z3 o4, hat5⟩, FrL.st hp.2 z3 o4⟩) hL6 (Nat.le_of_ble_eq_true rfl) (Nat.le_of_ble_eq_true rfl) d_L_make_27
    · refine lv_lconst (v := 1) hx hb d_L_make_13 (by decide) ?_
      refine lv_goto (tgt := 18) hx hb d_L_make_14 (by decide) ?_
      refine tp_l (y := (bI (!decide ((u.2.2.2 (nn t)).1 = ca ∧ (u.2.2.2 (nn t)).2.1 = la))).toInt64) (by rw [bI_1 c10]; rfl) ?_
      refine rw_last hx hb hK.1 1 ho2 rfl 0 (rfl) (by decide) (by decide) ((by show b ≤ o; omega)) hL d_L_make_18 (fun H7 L8 z9 o10 hat11 hL12 => ?_)
      refine lv_goto (tgt := 26) hx hb d_L_make_19 (by decide) ?_
      refine lv_iconst (v := 0) hx hb d_L_make_26 (by decide) ?_
      exact re_i hQ hx hb hr hlk rfl (⟨Or.inl ⟨hok, rfl, XF_o hp.1 hbo z9 o10, hat11⟩, FrL.st hp.2 z9 o10⟩) hL12 (Nat.le_of_ble_eq_true rfl) (Nat.le_of_ble_eq_true rfl) d_L_make_27
def rm_L_move : Room := { frames := 8, cells := 2, slots := 12, locals := 133 }
set_option maxRecDepth 100000 in
set_option maxHeartbeats 4000000 in
theorem c_L_move {l : Launch} {ev : EV} {H0 : Heap} {b o : Nat} {u : XS} {kp : KT} {v : PT} {f : Nat → Int64} (hT : l.stackTraces = false) (hf : XF ev b u kp v H0) (ho : pt ev H0 o (aL ev 1 f)) (hbo : b + 101 ≤ o) (t : Int32) (x y : Int64) : Met l my_L_move mw_L_move rm_L_move (cP [.ref b, .int t, .long x, .long y, .ref o] (KG ev) H0) (cQe (fun r H1 => ((okI u.1.2.2.2.1 t ∧ okP x y) ∧ r = .int 0 ∧ XF ev b (if (u.2.2.2 (nn t)).2.2.1 = x ∧ (u.2.2.2 (nn t)).2.2.2 = y then u else thgU u (nn t) ((u.2.2.2 (nn t)).1, (u.2.2.2 (nn t)).2.1, x, y)) (if (u.2.2.2 (nn t)).2.2.1 = x ∧ (u.2.2.2 (nn t)).2.2.2 = y then kp else if arnF u.2.2.1 (u.2.2.2 (nn t)).2.2.1 (u.2.2.2 (nn t)).2.2.2 u.1.2.2.1 = arnF u.2.2.1 x y u.1.2.2.1 then kp else kpD kp (nn t)) v H1 ∧ pt ev H1 o (aL ev 1 (vp_updL f 0 (bI (!decide ((u.2.2.2 (nn t)).2.2.1 = x ∧ (u.2.2.2 (nn t)).2.2.2 = y))).toInt64)) ∨ (¬ okI u.1.2.2.2.1 t) ∧ r = .int 1 ∧ XF ev b u kp v H1 ∧ pt ev H1 o (aL ev 1 f) ∨ (okI u.1.2.2.2.1 t ∧ ¬ okP x y) ∧ r = .int 2 ∧ XF ev b u kp v H1 ∧ pt ev H1 o (aL ev 1 f)) ∧ FrL b o H0 H1)) 2 12 (fun z => b ≤ z) := by
  refine cHeadW [.ref b, .int t, .long x, .long y, .ref o] (by decide) rfl (Nat.le_of_ble_eq_true rfl) ?_
  intro p e s m below meth c ls args QQ hQ htab S hr hlk hnm hs hK hl
  have S : CallFix p m c mb_L_move 8 s args TB "RuleChoiceLaw" := S
  obtain ⟨hx, hb, hml, hown, hts⟩ := id S
  have hl : lv_has ls 8 [(0, .ref b), (1, .int t), (2, .long x), (4, .long y), (6, .ref o)] := hl
  refine lv_aload hx hb d_L_move_0 (lv_at hl 4 rfl) ?_
  refine lv_iconst (v := 0) hx hb d_L_move_2 (by decide) ?_
  refine lv_aload_n hx hb d_L_move_3 rfl (lv_at hl 0 rfl) ?_
  refine lv_iload_n hx hb d_L_move_4 rfl (lv_at hl 1 rfl) ?_
  refine lv_lload_n hx hb d_L_move_5 rfl (lv_at hl 2 rfl) ?_
  refine lv_lload hx hb d_L_move_6 (lv_at hl 3 rfl) ?_
  refine cx_od (A := (fun z => b ≤ z)) (vx_runV (As := [.int t, .long x, .long y]) (rest := [.int 0, .ref o]) S (c_X_move hT hf t x y) (cwV 3 hts gv_L_36 rfl rfl rfl (by decide +kernel) ⟨Nat.le_of_ble_eq_true rfl, Nat.le_of_ble_eq_true rfl⟩) (cP_V (KG_ok _) hK hK.1 hf.1.1 rfl) rfl rfl hl.1 rfl (lv_room (Nat.le_of_ble_eq_true rfl)) d_L_move_8 ⟨Nat.le_of_ble_eq_true rfl, Nat.le_of_ble_eq_true rfl⟩) cNil (fun z h => h.1) (fun E H1 ce q9 L1 hp hL h1 h2 h3 => ?_) (fun H1 L1 hok hp hL => ?_)
  · rcases hp with ⟨⟨hb1, rfl⟩ | ⟨hb1, hb2, rfl⟩, hXF, hFr⟩
    · refine vx_catch (own := "RuleChoiceLaw") (name := cIX) hown [] ⟨0, 20, 23, 13⟩ [⟨0, 20, 27, 15⟩] htab (fun z hz => nomatch hz) (by decide) (by decide) (hts _ cl_L_13) (va_Nw.use rfl hK.2.2.2.2.1.1) h1 h2 h3 ?_
      refine W.eq (g2 := F0 m 23 ls [.ref q9]) rfl ?_
      refine lv_astore (lv' := [(7, .ref q9), (0, .ref b), (1, .int t), (2, .long x), (4, .long y), (6, .ref o)]) hx hb d_L_move_23 hl (by decide) rfl (fun ls hl => ?_)
      refine lv_iconst (v := 1) hx hb d_L_move_25 (by decide) ?_
      exact re_i hQ hx hb hr hlk rfl (⟨Or.inr (Or.inl ⟨hb1, rfl, hXF, pt_k ho (hFr.2 o (pt_lt ho) (Or.inr hbo))⟩), FrL.of hFr⟩) hL (Nat.le_of_ble_eq_true rfl) (Nat.le_of_ble_eq_true rfl) d_L_move_26
    · refine vx_catch (own := "RuleChoiceLaw") (name := cIA) hown [⟨0, 20, 23, 13⟩] ⟨0, 20, 27, 15⟩ [] htab (fun z hz => by cases List.mem_singleton.mp hz; exact Or.inr ⟨by decide, cIX, hts _ cl_L_13, hK.2.2.2.2.1.2.2⟩) (by decide) (by decide) (hts _ cl_L_15) (va_Nw.use rfl hK.2.2.2.2.1.2.1) h1 h2 h3 ?_
      refine W.eq (g2 := F0 m 27 ls [.ref q9]) rfl ?_
      refine lv_astore (lv' := [(7, .ref q9), (0, .ref b), (1, .int t), (2, .long x), (4, .long y), (6, .ref o)]) hx hb d_L_move_27 hl (by decide) rfl (fun ls hl => ?_)
      refine lv_iconst (v := 2) hx hb d_L_move_29 (by decide) ?_
      exact re_i hQ hx hb hr hlk rfl (⟨Or.inr (Or.inr ⟨⟨hb1, hb2⟩, rfl, hXF, pt_k ho (hFr.2 o (pt_lt ho) (Or.inr hbo))⟩), FrL.of hFr⟩) hL (Nat.le_of_ble_eq_true rfl) (Nat.le_of_ble_eq_true rfl) d_L_move_30
  · have ho2 := pt_k ho (hp.2.2 o (pt_lt ho) (Or.inr hbo))
    refine lv_if_eq (tgt := 18) hx hb d_L_move_11 (by decide) (fun c11 => ?_) (fun c11 => ?_)
    · refine lv_lconst (v := 0) hx hb d_L_move_18 (by decide) ?_
      refine tp_l (y := (bI (!decide ((u.2.2.2 (nn t)).2.2.1 = x ∧ (u.2.2.2 (nn t)).2.2.2 = y))).toInt64) (by rw [c11]; rfl) ?_
      refine rw_last hx hb hK.1 1 ho2 rfl 0 (rfl) (by decide) (by decide) ((by show b ≤ o; omega)) hL d_L_move_19 (fun H1 L2 z3 o4 hat5 hL6 => ?_)
      refine lv_goto (tgt := 31) hx hb d_L_move_20 (by decide) ?_
      refine lv_iconst (v := 0) hx hb d_L_move_31 (by decide) ?_
      exact re_i hQ hx hb hr hlk rfl (⟨Or.inl ⟨hok, rfl, XF_o hp.1 hbo z3 o4, hat5⟩, FrL.st hp.2 z3 o4⟩) hL6 (Nat.le_of_ble_eq_true rfl) (Nat.le_of_ble_eq_true rfl) d_L_move_32
    · refine lv_lconst (v := 1) hx hb d_L_move_14 (by decide) ?_
      refine lv_goto (tgt := 19) hx hb d_L_move_15 (by decide) ?_
      refine tp_l (y := (bI (!decide ((u.2.2.2 (nn t)).2.2.1 = x ∧ (u.2.2.2 (nn t)).2.2.2 = y))).toInt64) (by rw [bI_1 c11]; rfl) ?_
      refine rw_last hx hb hK.1 1 ho2 rfl 0 (rfl) (by decide) (by decide) ((by show b ≤ o; omega)) hL d_L_move_19 (fun H7 L8 z9 o10 hat11 hL12 => ?_)
      refine lv_goto (tgt := 31) hx hb d_L_move_20 (by decide) ?_
      refine lv_iconst (v := 0) hx hb d_L_move_31 (by decide) ?_
      exact re_i hQ hx hb hr hlk rfl (⟨Or.inl ⟨hok, rfl, XF_o hp.1 hbo z9 o10, hat11⟩, FrL.st hp.2 z9 o10⟩) hL12 (Nat.le_of_ble_eq_true rfl) (Nat.le_of_ble_eq_true rfl) d_L_move_32
def rm_L_winner : Room := { frames := 9, cells := 3, slots := 18, locals := 150 }
set_option maxRecDepth 100000 in
set_option maxHeartbeats 4000000 in
theorem c_L_winner {l : Launch} {ev : EV} {H0 : Heap} {b o : Nat} {u : XS} {kp : KT} {v : PT} {f : Nat → Int64} (hT : l.stackTraces = false) (hf : XF ev b u kp v H0) (ho : pt ev H0 o (aL ev 1 f)) (hbo : b + 101 ≤ o) (k x y : Int32) : Met l my_L_winner mw_L_winner rm_L_winner (cP [.ref b, .int k, .int x, .int y, .ref o] (KG ev) H0) (cQe (fun r H1 => ((okK k ∧ okI u.1.2.2.2.1 x ∧ okI u.1.2.2.2.1 y) ∧ r = .int 0 ∧ XF ev b (winU u kp (nn k) (nn x) (nn y)) (winK kp (nn k) (nn x) (nn y)) v H1 ∧ pt ev H1 o (aL ev 1 (vp_updL f 0 (oI (besU u (nn k) (nn x) (nn y))).toInt64)) ∨ (¬ (okK k ∧ okI u.1.2.2.2.1 x ∧ okI u.1.2.2.2.1 y)) ∧ r = .int 1 ∧ XF ev b u kp v H1 ∧ pt ev H1 o (aL ev 1 f)) ∧ FrL b o H0 H1)) 3 18 (fun z => b ≤ z) := by
  refine cHeadW [.ref b, .int k, .int x, .int y, .ref o] (by decide) rfl (Nat.le_of_ble_eq_true rfl) ?_
  intro p e s m below meth c ls args QQ hQ htab S hr hlk hnm hs hK hl
  have S : CallFix p m c mb_L_winner 6 s args TB "RuleChoiceLaw" := S
  obtain ⟨hx, hb, hml, hown, hts⟩ := id S
  have hl : lv_has ls 6 [(0, .ref b), (1, .int k), (2, .int x), (3, .int y), (4, .ref o)] := hl
  refine lv_aload hx hb d_L_winner_0 (lv_at hl 4 rfl) ?_
  refine lv_iconst (v := 0) hx hb d_L_winner_2 (by decide) ?_
  refine lv_aload_n hx hb d_L_winner_3 rfl (lv_at hl 0 rfl) ?_
  refine lv_iload_n hx hb d_L_winner_4 rfl (lv_at hl 1 rfl) ?_
  refine lv_iload_n hx hb d_L_winner_5 rfl (lv_at hl 2 rfl) ?_
  refine lv_iload_n hx hb d_L_winner_6 rfl (lv_at hl 3 rfl) ?_
  refine cx_od (A := (fun z => b ≤ z)) (vx_runV (As := [.int k, .int x, .int y]) (rest := [.int 0, .ref o]) S (c_X_winner hT hf k x y) (cwV 3 hts gv_L_40 rfl rfl rfl (by decide +kernel) ⟨Nat.le_of_ble_eq_true rfl, Nat.le_of_ble_eq_true rfl⟩) (cP_V (KG_ok _) hK hK.1 hf.1.1 rfl) rfl rfl hl.1 rfl (lv_room (Nat.le_of_ble_eq_true rfl)) d_L_winner_7 ⟨Nat.le_of_ble_eq_true rfl, Nat.le_of_ble_eq_true rfl⟩) cNil (fun z h => h.1) (fun E H1 ce q9 L1 hp hL h1 h2 h3 => ?_) (fun H1 L1 hok hp hL => ?_)
  · obtain ⟨hb1, rfl, hXF, hFr⟩ := hp
    refine vx_catch (own := "RuleChoiceLaw") (name := cIX) hown [] ⟨0, 12, 15, 13⟩ [] htab (fun z hz => nomatch hz) (by decide) (by decide) (hts _ cl_L_13) (va_Nw.use rfl hK.2.2.2.2.1.1) h1 h2 h3 ?_
    refine W.eq (g2 := F0 m 15 ls [.ref q9]) rfl ?_
    refine lv_astore (lv' := [(5, .ref q9), (0, .ref b), (1, .int k), (2, .int x), (3, .int y), (4, .ref o)]) hx hb d_L_winner_15 hl (by decide) rfl (fun ls hl => ?_)
    refine lv_iconst (v := 1) hx hb d_L_winner_17 (by decide) ?_
    exact re_i hQ hx hb hr hlk rfl (⟨Or.inr ⟨hb1, rfl, hXF, pt_k ho (hFr.2 o (pt_lt ho) (Or.inr hbo))⟩, FrL.of hFr⟩) hL (Nat.le_of_ble_eq_true rfl) (Nat.le_of_ble_eq_true rfl) d_L_winner_18
  · have ho2 := pt_k ho (hp.2.2 o (pt_lt ho) (Or.inr hbo))
    refine lv_i2l (v := (oI (besU u (nn k) (nn x) (nn y))).toInt64) hx hb d_L_winner_10 rfl ?_
    refine rw_last hx hb hK.1 1 ho2 rfl 0 (rfl) (by decide) (by decide) ((by show b ≤ o; omega)) hL d_L_winner_11 (fun H1 L2 z3 o4 hat5 hL6 => ?_)
    refine lv_goto (tgt := 19) hx hb d_L_winner_12 (by decide) ?_
    refine lv_iconst (v := 0) hx hb d_L_winner_19 (by decide) ?_
    exact re_i hQ hx hb hr hlk rfl (⟨Or.inl ⟨hok, rfl, XF_o hp.1 hbo z3 o4, hat5⟩, FrL.st hp.2 z3 o4⟩) hL6 (Nat.le_of_ble_eq_true rfl) (Nat.le_of_ble_eq_true rfl) d_L_winner_20
def rm_L_value : Room := { frames := 9, cells := 3, slots := 18, locals := 150 }
set_option maxRecDepth 100000 in
set_option maxHeartbeats 4000000 in
theorem c_L_value {l : Launch} {ev : EV} {H0 : Heap} {b o : Nat} {u : XS} {kp : KT} {v : PT} {f : Nat → Int64} (hT : l.stackTraces = false) (hf : XF ev b u kp v H0) (ho : pt ev H0 o (aL ev 1 f)) (hbo : b + 101 ≤ o) (k x y : Int32) : Met l my_L_value mw_L_value rm_L_value (cP [.ref b, .int k, .int x, .int y, .ref o] (KG ev) H0) (cQe (fun r H1 => ((okK k ∧ okI u.1.2.2.2.1 x ∧ okI u.1.2.2.2.1 y) ∧ r = .int 0 ∧ XF ev b (winU u kp (nn k) (nn x) (nn y)) (winK kp (nn k) (nn x) (nn y)) v H1 ∧ pt ev H1 o (aL ev 1 (vp_updL f 0 (valF u.2.1 (besU u (nn k) (nn x) (nn y))))) ∨ (¬ (okK k ∧ okI u.1.2.2.2.1 x ∧ okI u.1.2.2.2.1 y)) ∧ r = .int 1 ∧ XF ev b u kp v H1 ∧ pt ev H1 o (aL ev 1 f)) ∧ FrL b o H0 H1)) 3 18 (fun z => b ≤ z) := by
  refine cHeadW [.ref b, .int k, .int x, .int y, .ref o] (by decide) rfl (Nat.le_of_ble_eq_true rfl) ?_
  intro p e s m below meth c ls args QQ hQ htab S hr hlk hnm hs hK hl
  have S : CallFix p m c mb_L_value 6 s args TB "RuleChoiceLaw" := S
  obtain ⟨hx, hb, hml, hown, hts⟩ := id S
  have hl : lv_has ls 6 [(0, .ref b), (1, .int k), (2, .int x), (3, .int y), (4, .ref o)] := hl
  refine lv_aload hx hb d_L_value_0 (lv_at hl 4 rfl) ?_
  refine lv_iconst (v := 0) hx hb d_L_value_2 (by decide) ?_
  refine lv_aload_n hx hb d_L_value_3 rfl (lv_at hl 0 rfl) ?_
  refine lv_iload_n hx hb d_L_value_4 rfl (lv_at hl 1 rfl) ?_
  refine lv_iload_n hx hb d_L_value_5 rfl (lv_at hl 2 rfl) ?_
  refine lv_iload_n hx hb d_L_value_6 rfl (lv_at hl 3 rfl) ?_
  refine cx_od (A := (fun z => b ≤ z)) (vx_runV (As := [.int k, .int x, .int y]) (rest := [.int 0, .ref o]) S (c_X_value hT hf k x y) (cwV 3 hts gv_L_44 rfl rfl rfl (by decide +kernel) ⟨Nat.le_of_ble_eq_true rfl, Nat.le_of_ble_eq_true rfl⟩) (cP_V (KG_ok _) hK hK.1 hf.1.1 rfl) rfl rfl hl.1 rfl (lv_room (Nat.le_of_ble_eq_true rfl)) d_L_value_7 ⟨Nat.le_of_ble_eq_true rfl, Nat.le_of_ble_eq_true rfl⟩) cNil (fun z h => h.1) (fun E H1 ce q9 L1 hp hL h1 h2 h3 => ?_) (fun H1 L1 hok hp hL => ?_)
  · obtain ⟨hb1, rfl, hXF, hFr⟩ := hp
    refine vx_catch (own := "RuleChoiceLaw") (name := cIX) hown [] ⟨0, 11, 14, 13⟩ [] htab (fun z hz => nomatch hz) (by decide) (by decide) (hts _ cl_L_13) (va_Nw.use rfl hK.2.2.2.2.1.1) h1 h2 h3 ?_
    refine W.eq (g2 := F0 m 14 ls [.ref q9]) rfl ?_
    refine lv_astore (lv' := [(5, .ref q9), (0, .ref b), (1, .int k), (2, .int x), (3, .int y), (4, .ref o)]) hx hb d_L_value_14 hl (by decide) rfl (fun ls hl => ?_)
    refine lv_iconst (v := 1) hx hb d_L_value_16 (by decide) ?_
    exact re_i hQ hx hb hr hlk rfl (⟨Or.inr ⟨hb1, rfl, hXF, pt_k ho (hFr.2 o (pt_lt ho) (Or.inr hbo))⟩, FrL.of hFr⟩) hL (Nat.le_of_ble_eq_true rfl) (Nat.le_of_ble_eq_true rfl) d_L_value_17
  · have ho2 := pt_k ho (hp.2.2 o (pt_lt ho) (Or.inr hbo))
    refine rw_last hx hb hK.1 1 ho2 rfl 0 (rfl) (by decide) (by decide) ((by show b ≤ o; omega)) hL d_L_value_10 (fun H1 L2 z3 o4 hat5 hL6 => ?_)
    refine lv_goto (tgt := 18) hx hb d_L_value_11 (by decide) ?_
    refine lv_iconst (v := 0) hx hb d_L_value_18 (by decide) ?_
    exact re_i hQ hx hb hr hlk rfl (⟨Or.inl ⟨hok, rfl, XF_o hp.1 hbo z3 o4, hat5⟩, FrL.st hp.2 z3 o4⟩) hL6 (Nat.le_of_ble_eq_true rfl) (Nat.le_of_ble_eq_true rfl) d_L_value_19
def rm_L_listed : Room := { frames := 9, cells := 3, slots := 18, locals := 153 }
set_option maxRecDepth 100000 in
set_option maxHeartbeats 4000000 in
theorem c_L_listed {l : Launch} {ev : EV} {H0 : Heap} {b o : Nat} {u : XS} {kp : KT} {v : PT} {f : Nat → Int64} (hT : l.stackTraces = false) (hf : XF ev b u kp v H0) (ho : pt ev H0 o (aL ev 1 f)) (hbo : b + 101 ≤ o) (k x y z : Int32) : Met l my_L_listed mw_L_listed rm_L_listed (cP [.ref b, .int k, .int x, .int y, .int z, .ref o] (KG ev) H0) (cQe (fun r H1 => ((okK k ∧ okI u.1.2.2.2.1 x ∧ okI u.1.2.2.2.1 y) ∧ r = .int 0 ∧ XF ev b u kp v H1 ∧ pt ev H1 o (aL ev 1 (vp_updL f 0 (lsV u (nn k) (nn x) (nn y) z).toInt64)) ∨ (¬ (okK k ∧ okI u.1.2.2.2.1 x ∧ okI u.1.2.2.2.1 y)) ∧ r = .int 1 ∧ XF ev b u kp v H1 ∧ pt ev H1 o (aL ev 1 f)) ∧ FrL b o H0 H1)) 3 18 (fun z => b ≤ z) := by
  refine cHeadW [.ref b, .int k, .int x, .int y, .int z, .ref o] (by decide) rfl (Nat.le_of_ble_eq_true rfl) ?_
  intro p e s m below meth c ls args QQ hQ htab S hr hlk hnm hs hK hl
  have S : CallFix p m c mb_L_listed 7 s args TB "RuleChoiceLaw" := S
  obtain ⟨hx, hb, hml, hown, hts⟩ := id S
  have hl : lv_has ls 7 [(0, .ref b), (1, .int k), (2, .int x), (3, .int y), (4, .int z), (5, .ref o)] := hl
  refine lv_aload hx hb d_L_listed_0 (lv_at hl 5 rfl) ?_
  refine lv_iconst (v := 0) hx hb d_L_listed_2 (by decide) ?_
  refine lv_aload_n hx hb d_L_listed_3 rfl (lv_at hl 0 rfl) ?_
  refine lv_iload_n hx hb d_L_listed_4 rfl (lv_at hl 1 rfl) ?_
  refine lv_iload_n hx hb d_L_listed_5 rfl (lv_at hl 2 rfl) ?_
  refine lv_iload_n hx hb d_L_listed_6 rfl (lv_at hl 3 rfl) ?_
  refine lv_iload hx hb d_L_listed_7 (lv_at hl 4 rfl) ?_
  refine cx_od (A := (fun z => b ≤ z)) (vx_runV (As := [.int k, .int x, .int y, .int z]) (rest := [.int 0, .ref o]) S (c_X_listed hT hf k x y z) (cwV 4 hts gv_L_48 rfl rfl rfl (by decide +kernel) ⟨Nat.le_of_ble_eq_true rfl, Nat.le_of_ble_eq_true rfl⟩) (cP_V (KG_ok _) hK hK.1 hf.1.1 rfl) rfl rfl hl.1 rfl (lv_room (Nat.le_of_ble_eq_true rfl)) d_L_listed_9 ⟨Nat.le_of_ble_eq_true rfl, Nat.le_of_ble_eq_true rfl⟩) cNil (fun z h => h.1) (fun E H1 ce q9 L1 hp hL h1 h2 h3 => ?_) (fun H1 L1 hok hp hL => ?_)
  · obtain ⟨hb1, rfl, hXF, hFr⟩ := hp
    refine vx_catch (own := "RuleChoiceLaw") (name := cIX) hown [] ⟨0, 14, 17, 13⟩ [] htab (fun z hz => nomatch hz) (by decide) (by decide) (hts _ cl_L_13) (va_Nw.use rfl hK.2.2.2.2.1.1) h1 h2 h3 ?_
    refine W.eq (g2 := F0 m 17 ls [.ref q9]) rfl ?_
    refine lv_astore (lv' := [(6, .ref q9), (0, .ref b), (1, .int k), (2, .int x), (3, .int y), (4, .int z), (5, .ref o)]) hx hb d_L_listed_17 hl (by decide) rfl (fun ls hl => ?_)
    refine lv_iconst (v := 1) hx hb d_L_listed_19 (by decide) ?_
    exact re_i hQ hx hb hr hlk rfl (⟨Or.inr ⟨hb1, rfl, hXF, pt_k ho (hFr.2 o (pt_lt ho) (Or.inr hbo))⟩, FrL.of hFr⟩) hL (Nat.le_of_ble_eq_true rfl) (Nat.le_of_ble_eq_true rfl) d_L_listed_20
  · have ho2 := pt_k ho (hp.2.2 o (pt_lt ho) (Or.inr hbo))
    refine lv_i2l (v := (lsV u (nn k) (nn x) (nn y) z).toInt64) hx hb d_L_listed_12 rfl ?_
    refine rw_last hx hb hK.1 1 ho2 rfl 0 (rfl) (by decide) (by decide) ((by show b ≤ o; omega)) hL d_L_listed_13 (fun H1 L2 z3 o4 hat5 hL6 => ?_)
    refine lv_goto (tgt := 21) hx hb d_L_listed_14 (by decide) ?_
    refine lv_iconst (v := 0) hx hb d_L_listed_21 (by decide) ?_
    exact re_i hQ hx hb hr hlk rfl (⟨Or.inl ⟨hok, rfl, XF_o hp.1 hbo z3 o4, hat5⟩, FrL.st hp.2 z3 o4⟩) hL6 (Nat.le_of_ble_eq_true rfl) (Nat.le_of_ble_eq_true rfl) d_L_listed_22
def rm_L_why : Room := { frames := 9, cells := 4, slots := 24, locals := 153 }
set_option maxRecDepth 100000 in
set_option maxHeartbeats 4000000 in
theorem c_L_why {l : Launch} {ev : EV} {H0 : Heap} {b o : Nat} {u : XS} {kp : KT} {v : PT} {f : Nat → Int64} (hT : l.stackTraces = false) (hf : XF ev b u kp v H0) (ho : pt ev H0 o (aL ev 1 f)) (hbo : b + 101 ≤ o) (k x y z : Int32) : Met l my_L_why mw_L_why rm_L_why (cP [.ref b, .int k, .int x, .int y, .int z, .ref o] (KG ev) H0) (cQe (fun r H1 => (((okK k ∧ okI u.1.2.2.2.1 x ∧ okI u.1.2.2.2.1 y) ∧ okI u.1.2.1 z) ∧ r = .int 0 ∧ XF ev b u kp v H1 ∧ pt ev H1 o (aL ev 1 (vp_updL f 0 (whyF u (nn k) (nn x) (nn y) (nn z)).toInt64)) ∨ (¬ ((okK k ∧ okI u.1.2.2.2.1 x ∧ okI u.1.2.2.2.1 y) ∧ okI u.1.2.1 z)) ∧ r = .int 1 ∧ XF ev b u kp v H1 ∧ pt ev H1 o (aL ev 1 f)) ∧ FrL b o H0 H1)) 4 24 (fun z => b ≤ z) := by
  refine cHeadW [.ref b, .int k, .int x, .int y, .int z, .ref o] (by decide) rfl (Nat.le_of_ble_eq_true rfl) ?_
  intro p e s m below meth c ls args QQ hQ htab S hr hlk hnm hs hK hl
  have S : CallFix p m c mb_L_why 7 s args TB "RuleChoiceLaw" := S
  obtain ⟨hx, hb, hml, hown, hts⟩ := id S
  have hl : lv_has ls 7 [(0, .ref b), (1, .int k), (2, .int x), (3, .int y), (4, .int z), (5, .ref o)] := hl
  refine lv_aload hx hb d_L_why_0 (lv_at hl 5 rfl) ?_
  refine lv_iconst (v := 0) hx hb d_L_why_2 (by decide) ?_
  refine lv_aload_n hx hb d_L_why_3 rfl (lv_at hl 0 rfl) ?_
  refine lv_iload_n hx hb d_L_why_4 rfl (lv_at hl 1 rfl) ?_
  refine lv_iload_n hx hb d_L_why_5 rfl (lv_at hl 2 rfl) ?_
  refine lv_iload_n hx hb d_L_why_6 rfl (lv_at hl 3 rfl) ?_
  refine lv_iload hx hb d_L_why_7 (lv_at hl 4 rfl) ?_
  refine cx_od (A := (fun z => b ≤ z)) (vx_runV (As := [.int k, .int x, .int y, .int z]) (rest := [.int 0, .ref o]) S (c_X_why hT hf k x y z) (cwV 4 hts gv_L_52 rfl rfl rfl (by decide +kernel) ⟨Nat.le_of_ble_eq_true rfl, Nat.le_of_ble_eq_true rfl⟩) (cP_V (KG_ok _) hK hK.1 hf.1.1 rfl) rfl rfl hl.1 rfl (lv_room (Nat.le_of_ble_eq_true rfl)) d_L_why_9 ⟨Nat.le_of_ble_eq_true rfl, Nat.le_of_ble_eq_true rfl⟩) cNil (fun z h => h.1) (fun E H1 ce q9 L1 hp hL h1 h2 h3 => ?_) (fun H1 L1 hok hp hL => ?_)
  · obtain ⟨hb1, rfl, hXF, hFr⟩ := hp
    refine vx_catch (own := "RuleChoiceLaw") (name := cIX) hown [] ⟨0, 14, 17, 13⟩ [] htab (fun z hz => nomatch hz) (by decide) (by decide) (hts _ cl_L_13) (va_Nw.use rfl hK.2.2.2.2.1.1) h1 h2 h3 ?_
    refine W.eq (g2 := F0 m 17 ls [.ref q9]) rfl ?_
    refine lv_astore (lv' := [(6, .ref q9), (0, .ref b), (1, .int k), (2, .int x), (3, .int y), (4, .int z), (5, .ref o)]) hx hb d_L_why_17 hl (by decide) rfl (fun ls hl => ?_)
    refine lv_iconst (v := 1) hx hb d_L_why_19 (by decide) ?_
    exact re_i hQ hx hb hr hlk rfl (⟨Or.inr ⟨hb1, rfl, hXF, pt_k ho (hFr.2 o (pt_lt ho) (Or.inr hbo))⟩, FrL.of hFr⟩) hL (Nat.le_of_ble_eq_true rfl) (Nat.le_of_ble_eq_true rfl) d_L_why_20
  · have ho2 := pt_k ho (hp.2.2 o (pt_lt ho) (Or.inr hbo))
    refine lv_i2l (v := (whyF u (nn k) (nn x) (nn y) (nn z)).toInt64) hx hb d_L_why_12 rfl ?_
    refine rw_last hx hb hK.1 1 ho2 rfl 0 (rfl) (by decide) (by decide) ((by show b ≤ o; omega)) hL d_L_why_13 (fun H1 L2 z3 o4 hat5 hL6 => ?_)
    refine lv_goto (tgt := 21) hx hb d_L_why_14 (by decide) ?_
    refine lv_iconst (v := 0) hx hb d_L_why_21 (by decide) ?_
    exact re_i hQ hx hb hr hlk rfl (⟨Or.inl ⟨hok, rfl, XF_o hp.1 hbo z3 o4, hat5⟩, FrL.st hp.2 z3 o4⟩) hL6 (Nat.le_of_ble_eq_true rfl) (Nat.le_of_ble_eq_true rfl) d_L_why_22
def rm_L_greatest : Room := { frames := 8, cells := 2, slots := 12, locals := 129 }
set_option maxRecDepth 100000 in
set_option maxHeartbeats 4000000 in
theorem c_L_greatest {l : Launch} {ev : EV} {H0 : Heap} {b o : Nat} {u : XS} {kp : KT} {v : PT} {f : Nat → Int64} (hT : l.stackTraces = false) (hf : XF ev b u kp v H0) (ho : pt ev H0 o (aL ev 1 f)) (hbo : b + 101 ≤ o) (k la : Int32) : Met l my_L_greatest mw_L_greatest rm_L_greatest (cP [.ref b, .int k, .int la, .ref o] (KG ev) H0) (cQe (fun r H1 => ((okK k ∧ okL la) ∧ r = .int 0 ∧ XF ev b u kp v H1 ∧ pt ev H1 o (aL ev 1 (vp_updL f 0 (grtF u k la u.1.2.1))) ∨ (¬ (okK k ∧ okL la)) ∧ r = .int 1 ∧ XF ev b u kp v H1 ∧ pt ev H1 o (aL ev 1 f)) ∧ FrL b o H0 H1)) 2 12 (fun z => b ≤ z) := by
  refine cHeadW [.ref b, .int k, .int la, .ref o] (by decide) rfl (Nat.le_of_ble_eq_true rfl) ?_
  intro p e s m below meth c ls args QQ hQ htab S hr hlk hnm hs hK hl
  have S : CallFix p m c mb_L_greatest 5 s args TB "RuleChoiceLaw" := S
  obtain ⟨hx, hb, hml, hown, hts⟩ := id S
  have hl : lv_has ls 5 [(0, .ref b), (1, .int k), (2, .int la), (3, .ref o)] := hl
  refine lv_aload_n hx hb d_L_greatest_0 rfl (lv_at hl 3 rfl) ?_
  refine lv_iconst (v := 0) hx hb d_L_greatest_1 (by decide) ?_
  refine lv_aload_n hx hb d_L_greatest_2 rfl (lv_at hl 0 rfl) ?_
  refine lv_iload_n hx hb d_L_greatest_3 rfl (lv_at hl 1 rfl) ?_
  refine lv_iload_n hx hb d_L_greatest_4 rfl (lv_at hl 2 rfl) ?_
  refine cx_od (A := (fun z => b ≤ z)) (vx_runV (As := [.int k, .int la]) (rest := [.int 0, .ref o]) S (c_X_greatest hT hf k la) (cwV 2 hts gv_L_55 rfl rfl rfl (by decide +kernel) ⟨Nat.le_of_ble_eq_true rfl, Nat.le_of_ble_eq_true rfl⟩) (cP_V (KG_ok _) hK hK.1 hf.1.1 rfl) rfl rfl hl.1 rfl (lv_room (Nat.le_of_ble_eq_true rfl)) d_L_greatest_5 ⟨Nat.le_of_ble_eq_true rfl, Nat.le_of_ble_eq_true rfl⟩) cNil (fun z h => h.1) (fun E H1 ce q9 L1 hp hL h1 h2 h3 => ?_) (fun H1 L1 hok hp hL => ?_)
  · obtain ⟨hb1, rfl, hXF, hFr⟩ := hp
    refine vx_catch (own := "RuleChoiceLaw") (name := cIX) hown [] ⟨0, 9, 12, 13⟩ [] htab (fun z hz => nomatch hz) (by decide) (by decide) (hts _ cl_L_13) (va_Nw.use rfl hK.2.2.2.2.1.1) h1 h2 h3 ?_
    refine W.eq (g2 := F0 m 12 ls [.ref q9]) rfl ?_
    refine lv_astore (lv' := [(4, .ref q9), (0, .ref b), (1, .int k), (2, .int la), (3, .ref o)]) hx hb d_L_greatest_12 hl (by decide) rfl (fun ls hl => ?_)
    refine lv_iconst (v := 1) hx hb d_L_greatest_14 (by decide) ?_
    exact re_i hQ hx hb hr hlk rfl (⟨Or.inr ⟨hb1, rfl, hXF, pt_k ho (hFr.2 o (pt_lt ho) (Or.inr hbo))⟩, FrL.of hFr⟩) hL (Nat.le_of_ble_eq_true rfl) (Nat.le_of_ble_eq_true rfl) d_L_greatest_15
  · have ho2 := pt_k ho (hp.2.2 o (pt_lt ho) (Or.inr hbo))
    refine rw_last hx hb hK.1 1 ho2 rfl 0 (rfl) (by decide) (by decide) ((by show b ≤ o; omega)) hL d_L_greatest_8 (fun H1 L2 z3 o4 hat5 hL6 => ?_)
    refine lv_goto (tgt := 16) hx hb d_L_greatest_9 (by decide) ?_
    refine lv_iconst (v := 0) hx hb d_L_greatest_16 (by decide) ?_
    exact re_i hQ hx hb hr hlk rfl (⟨Or.inl ⟨hok, rfl, XF_o hp.1 hbo z3 o4, hat5⟩, FrL.st hp.2 z3 o4⟩) hL6 (Nat.le_of_ble_eq_true rfl) (Nat.le_of_ble_eq_true rfl) d_L_greatest_17
def rm_L_close : Room := { frames := 8, cells := 1, slots := 6, locals := 147 }
set_option maxRecDepth 100000 in
set_option maxHeartbeats 4000000 in
theorem c_L_close {l : Launch} {ev : EV} {H0 : Heap} {b o : Nat} {u : XS} {kp : KT} {v : PT} {f : Nat → Int64} (hT : l.stackTraces = false) (hf : XF ev b u kp v H0) (ho : pt ev H0 o (aL ev 1 f)) (hbo : b + 101 ≤ o) (k : Int32) : Met l my_L_close mw_L_close rm_L_close (cP [.ref b, .int k, .ref o] (KG ev) H0) (cQe (fun r H1 => ((okK k) ∧ r = .int 0 ∧ XF ev b u kp (coF u k v u.1.2.2.2.1) H1 ∧ pt ev H1 o (aL ev 1 (vp_updL f 0 (nI (coF u k v u.1.2.2.2.1).1).toInt64)) ∨ (¬ okK k) ∧ r = .int 1 ∧ XF ev b u kp v H1 ∧ pt ev H1 o (aL ev 1 f)) ∧ FrL b o H0 H1)) 1 6 (fun z => b ≤ z) := by
  refine cHeadW [.ref b, .int k, .ref o] (by decide) rfl (Nat.le_of_ble_eq_true rfl) ?_
  intro p e s m below meth c ls args QQ hQ htab S hr hlk hnm hs hK hl
  have S : CallFix p m c mb_L_close 4 s args TB "RuleChoiceLaw" := S
  obtain ⟨hx, hb, hml, hown, hts⟩ := id S
  have hl : lv_has ls 4 [(0, .ref b), (1, .int k), (2, .ref o)] := hl
  refine lv_aload_n hx hb d_L_close_0 rfl (lv_at hl 2 rfl) ?_
  refine lv_iconst (v := 0) hx hb d_L_close_1 (by decide) ?_
  refine lv_aload_n hx hb d_L_close_2 rfl (lv_at hl 0 rfl) ?_
  refine lv_iload_n hx hb d_L_close_3 rfl (lv_at hl 1 rfl) ?_
  refine cx_od (A := (fun z => b ≤ z)) (vx_runV (As := [.int k]) (rest := [.int 0, .ref o]) S (c_X_close hT hf k) (cwV 1 hts gv_L_59 rfl rfl rfl (by decide +kernel) ⟨Nat.le_of_ble_eq_true rfl, Nat.le_of_ble_eq_true rfl⟩) (cP_V (KG_ok _) hK hK.1 hf.1.1 rfl) rfl rfl hl.1 rfl (lv_room (Nat.le_of_ble_eq_true rfl)) d_L_close_4 ⟨Nat.le_of_ble_eq_true rfl, Nat.le_of_ble_eq_true rfl⟩) cNil (fun z h => h.1) (fun E H1 ce q9 L1 hp hL h1 h2 h3 => ?_) (fun H1 L1 hok hp hL => ?_)
  · obtain ⟨hb1, rfl, hXF, hFr⟩ := hp
    refine vx_catch (own := "RuleChoiceLaw") (name := cIX) hown [] ⟨0, 9, 12, 13⟩ [] htab (fun z hz => nomatch hz) (by decide) (by decide) (hts _ cl_L_13) (va_Nw.use rfl hK.2.2.2.2.1.1) h1 h2 h3 ?_
    refine W.eq (g2 := F0 m 12 ls [.ref q9]) rfl ?_
    refine lv_astore_n (lv' := [(3, .ref q9), (0, .ref b), (1, .int k), (2, .ref o)]) hx hb d_L_close_12 rfl hl (by decide) rfl (fun ls hl => ?_)
    refine lv_iconst (v := 1) hx hb d_L_close_13 (by decide) ?_
    exact re_i hQ hx hb hr hlk rfl (⟨Or.inr ⟨hb1, rfl, hXF, pt_k ho (hFr.2 o (pt_lt ho) (Or.inr hbo))⟩, FrL.of hFr⟩) hL (Nat.le_of_ble_eq_true rfl) (Nat.le_of_ble_eq_true rfl) d_L_close_14
  · have ho2 := pt_k ho (hp.2.2 o (pt_lt ho) (Or.inr hbo))
    refine lv_i2l (v := (nI (coF u k v u.1.2.2.2.1).1).toInt64) hx hb d_L_close_7 rfl ?_
    refine rw_last hx hb hK.1 1 ho2 rfl 0 (rfl) (by decide) (by decide) ((by show b ≤ o; omega)) hL d_L_close_8 (fun H1 L2 z3 o4 hat5 hL6 => ?_)
    refine lv_goto (tgt := 15) hx hb d_L_close_9 (by decide) ?_
    refine lv_iconst (v := 0) hx hb d_L_close_15 (by decide) ?_
    exact re_i hQ hx hb hr hlk rfl (⟨Or.inl ⟨hok, rfl, XF_o hp.1 hbo z3 o4, hat5⟩, FrL.st hp.2 z3 o4⟩) hL6 (Nat.le_of_ble_eq_true rfl) (Nat.le_of_ble_eq_true rfl) d_L_close_16
def rm_L_pair : Room := { frames := 8, cells := 1, slots := 6, locals := 126 }
set_option maxRecDepth 100000 in
set_option maxHeartbeats 4000000 in
theorem c_L_pair {l : Launch} {ev : EV} {H0 : Heap} {b o : Nat} {u : XS} {kp : KT} {v : PT} {f : Nat → Int64} (hT : l.stackTraces = false) (hf : XF ev b u kp v H0) (ho : pt ev H0 o (aL ev 1 f)) (hbo : b + 101 ≤ o) (k z : Int32) : Met l my_L_pair mw_L_pair rm_L_pair (cP [.ref b, .int k, .int z, .ref o] (KG ev) H0) (cQe (fun r H1 => ((okS z) ∧ r = .int 0 ∧ XF ev b u kp v H1 ∧ pt ev H1 o (aL ev 1 (vp_updL f 0 (if k < 0 then -1 else if k < nI v.1 then (if z = 0 then v.2.1 (nn k) else v.2.2 (nn k)) else -1).toInt64)) ∨ (¬ okS z) ∧ r = .int 1 ∧ XF ev b u kp v H1 ∧ pt ev H1 o (aL ev 1 f)) ∧ FrL b o H0 H1)) 1 6 (fun z => b ≤ z) := by
  refine cHeadW [.ref b, .int k, .int z, .ref o] (by decide) rfl (Nat.le_of_ble_eq_true rfl) ?_
  intro p e s m below meth c ls args QQ hQ htab S hr hlk hnm hs hK hl
  have S : CallFix p m c mb_L_pair 5 s args TB "RuleChoiceLaw" := S
  obtain ⟨hx, hb, hml, hown, hts⟩ := id S
  have hl : lv_has ls 5 [(0, .ref b), (1, .int k), (2, .int z), (3, .ref o)] := hl
  refine lv_aload_n hx hb d_L_pair_0 rfl (lv_at hl 3 rfl) ?_
  refine lv_iconst (v := 0) hx hb d_L_pair_1 (by decide) ?_
  refine lv_aload_n hx hb d_L_pair_2 rfl (lv_at hl 0 rfl) ?_
  refine lv_iload_n hx hb d_L_pair_3 rfl (lv_at hl 1 rfl) ?_
  refine lv_iload_n hx hb d_L_pair_4 rfl (lv_at hl 2 rfl) ?_
  refine cx_od (A := (fun z => b ≤ z)) (vx_runV (As := [.int k, .int z]) (rest := [.int 0, .ref o]) S (c_X_pair hT hf k z) (cwV 2 hts gv_L_63 rfl rfl rfl (by decide +kernel) ⟨Nat.le_of_ble_eq_true rfl, Nat.le_of_ble_eq_true rfl⟩) (cP_V (KG_ok _) hK hK.1 hf.1.1 rfl) rfl rfl hl.1 rfl (lv_room (Nat.le_of_ble_eq_true rfl)) d_L_pair_5 ⟨Nat.le_of_ble_eq_true rfl, Nat.le_of_ble_eq_true rfl⟩) cNil (fun z h => h.1) (fun E H1 ce q9 L1 hp hL h1 h2 h3 => ?_) (fun H1 L1 hok hp hL => ?_)
  · obtain ⟨hb1, rfl, hXF, hFr⟩ := hp
    refine vx_catch (own := "RuleChoiceLaw") (name := cIX) hown [] ⟨0, 10, 13, 13⟩ [] htab (fun z hz => nomatch hz) (by decide) (by decide) (hts _ cl_L_13) (va_Nw.use rfl hK.2.2.2.2.1.1) h1 h2 h3 ?_
    refine W.eq (g2 := F0 m 13 ls [.ref q9]) rfl ?_
    refine lv_astore (lv' := [(4, .ref q9), (0, .ref b), (1, .int k), (2, .int z), (3, .ref o)]) hx hb d_L_pair_13 hl (by decide) rfl (fun ls hl => ?_)
    refine lv_iconst (v := 1) hx hb d_L_pair_15 (by decide) ?_
    exact re_i hQ hx hb hr hlk rfl (⟨Or.inr ⟨hb1, rfl, hXF, pt_k ho (hFr.2 o (pt_lt ho) (Or.inr hbo))⟩, FrL.of hFr⟩) hL (Nat.le_of_ble_eq_true rfl) (Nat.le_of_ble_eq_true rfl) d_L_pair_16
  · have ho2 := pt_k ho (hp.2.2 o (pt_lt ho) (Or.inr hbo))
    refine lv_i2l (v := (if k < 0 then -1 else if k < nI v.1 then (if z = 0 then v.2.1 (nn k) else v.2.2 (nn k)) else -1).toInt64) hx hb d_L_pair_8 rfl ?_
    refine rw_last hx hb hK.1 1 ho2 rfl 0 (rfl) (by decide) (by decide) ((by show b ≤ o; omega)) hL d_L_pair_9 (fun H1 L2 z3 o4 hat5 hL6 => ?_)
    refine lv_goto (tgt := 17) hx hb d_L_pair_10 (by decide) ?_
    refine lv_iconst (v := 0) hx hb d_L_pair_17 (by decide) ?_
    exact re_i hQ hx hb hr hlk rfl (⟨Or.inl ⟨hok, rfl, XF_o hp.1 hbo z3 o4, hat5⟩, FrL.st hp.2 z3 o4⟩) hL6 (Nat.le_of_ble_eq_true rfl) (Nat.le_of_ble_eq_true rfl) d_L_pair_18
def rm_L_cell : Room := { frames := 0, cells := 0, slots := 0, locals := 0 }
def KX (ev : EV) (b L : Nat) (xs : Nat → Int32) (H : Heap) (U : State) : Prop := KG ev U ∧ va_X b L xs U H
theorem KX_ok (ev : EV) (b L : Nat) (xs : Nat → Int32) (H : Heap) : cK (KX ev b L xs H) :=
  ⟨fun u U hv h => ⟨(KG_ok ev).1 u U hv h.1, va_X.moved (by rw [hv]; exact Vm.Alike.refl _) h.2⟩, fun s U hW h => ⟨(KG_ok ev).2 s U hW h.1, va_X.moved hW.alike h.2⟩⟩
set_option maxRecDepth 100000 in
set_option maxHeartbeats 4000000 in
theorem c_L_cell {l : Launch} {ev : EV} {H0 : Heap} {b L : Nat} {xs : Nat → Int32} (hbl : b < H0.size) (hL : L < 2 ^ 31) : Met l my_L_cell mw_L_cell rm_L_cell (cP [.ref b, .int 0] (KX ev b L xs H0) H0) (cQp (some (.int (if 0 < L then xs 0 else 0)))) 0 0 cNo := by
  refine cHead [.ref b, .int 0] (by decide) rfl (Nat.le_of_ble_eq_true rfl) ?_
  intro p e s m below meth c ls args QQ hQ S hr hlk hnm hs hK hl
  have S : CallFix p m c mb_L_cell 2 s args TB "RuleChoiceLaw" := S
  obtain ⟨hx, hb, hml, hown, hts⟩ := id S
  have hl : lv_has ls 2 [(0, .ref b), (1, .int 0)] := hl
  refine lv_iload_n hx hb d_L_cell_0 rfl (lv_at hl 1 rfl) ?_
  refine lv_aload_n hx hb d_L_cell_1 rfl (lv_at hl 0 rfl) ?_
  refine va_slen (A := cNo) hx hb hK.2 hbl (fun h => h) va_S.rf d_L_cell_2 ?_
  refine lv_icmp_ge (tgt := 12) hx hb d_L_cell_3 (by decide) (fun c3 => ?_) (fun c3 => ?_)
  · refine lv_iconst (v := 0) hx hb d_L_cell_12 (by decide) ?_
    exact rt_i hQ hx hb hr hlk hs rfl (by rw [if_neg (fun h => absurd c3 (nI_ge (a := 0) h hL))]) d_L_cell_13
  · refine lv_aload_n hx hb d_L_cell_6 rfl (lv_at hl 0 rfl) ?_
    refine lv_iload_n hx hb d_L_cell_7 rfl (lv_at hl 1 rfl) ?_
    have h0L : 0 < L := Nat.not_le.mp (fun h => c3 (nI_le (b := 0) h (by decide)))
    refine va_sld (A := cNo) hx hb hK.2 hbl (fun h => h) va_S.rf (i := 0) (vp_in_nI (n := 0) h0L hL) d_L_cell_8 ?_
    refine lv_goto (tgt := 13) hx hb d_L_cell_9 (by decide) ?_
    exact rt_i hQ hx hb hr hlk hs rfl (by rw [if_pos h0L]; rfl) d_L_cell_13
