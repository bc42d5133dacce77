abbrev nn (x : Int32) : Nat := x.toNatClampNeg
theorem nn_nI {i : Nat} (h : i < 2 ^ 31) : (nI i).toNatClampNeg = i := nI_clamp h
def rm_X_winner : Room := { frames := 8, cells := 3, slots := 18, locals := 127 }
set_option maxRecDepth 100000 in
set_option maxHeartbeats 4000000 in
theorem c_X_winner {l : Launch} {ev : EV} {H0 : Heap} {b : Nat} {u : XS} {kp : KT} {v : PT} (hT : l.stackTraces = false) (hf : XF ev b u kp v H0) (k x y : Int32) : vx_Met l my_X_winner mw_X_winner rm_X_winner (cP [.ref b, .int k, .int x, .int y] (KG ev) H0) (cQod (okK k ∧ okI u.1.2.2.2.1 x ∧ okI u.1.2.2.2.1 y) (some (.int (oI (besU u (nn k) (nn x) (nn y))))) (fun H1 => XF ev b (winU u kp (nn k) (nn x) (nn y)) (winK kp (nn k) (nn x) (nn y)) v H1 ∧ Frm b 101 H0 H1)) (cX (fun E H1 => (¬ (okK k ∧ okI u.1.2.2.2.1 x ∧ okI u.1.2.2.2.1 y)) ∧ E = cIX ∧ XF ev b u kp v H1 ∧ Frm b 101 H0 H1)) 3 18 (inBk b (b + 101)) := by
  refine cHeadX [.ref b, .int k, .int x, .int y] (by decide) rfl (Nat.le_of_ble_eq_true rfl) ?_
  intro p e s m below meth c ls args QQ hQ htab S hr hlk hnm hs hK hl
  have S : CallFix p m c mb_X_winner 4 s args TB "RuleChoice" := S
  obtain ⟨hx, hb, hml, hown, hts⟩ := id S
  obtain ⟨hw, ⟨sl, hkp, hn⟩, hp, hO, hz⟩ := id hf
  have hold := hO
  have ht40 : u.1.2.2.2.1 ≤ 40 := hw.2.2.2.2.2.2.1
  have hr40 : u.1.2.1 ≤ 40 := hw.2.2.2.2.1
  have hl : lv_has ls 4 [(0, .ref b), (1, .int k), (2, .int x), (3, .int y)] := hl
  refine lv_aload_n hx hb d_X_winner_0 rfl (lv_at hl 0 rfl) ?_
  refine lv_iload_n hx hb d_X_winner_1 rfl (lv_at hl 1 rfl) ?_
  refine lv_iload_n hx hb d_X_winner_2 rfl (lv_at hl 2 rfl) ?_
  refine lv_iload_n hx hb d_X_winner_3 rfl (lv_at hl 3 rfl) ?_
  refine cx_v (vx_runV (As := [.int k, .int x, .int y]) (rest := []) S (c_X_needKindAndThings hT hold hw k x y) (cwV 3 hts gv_X_152 rfl rfl rfl (by decide +kernel) ⟨Nat.le_of_ble_eq_true rfl, Nat.le_of_ble_eq_true rfl⟩) (cP_V (KG_ok _) hK hK.1 hw.1 rfl) rfl rfl hl.1 rfl (lv_room (Nat.le_of_ble_eq_true rfl)) d_X_winner_4 ⟨Nat.le_of_ble_eq_true rfl, Nat.le_of_ble_eq_true rfl⟩) (A := inBk b (b + 101)) cNil (fun E1 H2 ce3 q4 L5 hp6 hL7 h8 h9 h10 => ?_) (fun k11 => ?_)
  · exact cx_out hQ htab hlk h8 h9 h10 (⟨hp6.1, hp6.2.1, XF_ext hf hp6.2.2, Frm.ext hp6.2.2⟩) hL7 (Nat.le_of_ble_eq_true rfl) (Nat.le_of_ble_eq_true rfl)
  · obtain ⟨kk, hkk, rfl⟩ := okK_ix k11.1
    obtain ⟨j, hnj, hj, rfl⟩ := okIdx hw.2.2.2.2.2.2.1 k11.2.1
    obtain ⟨j2, hnj2, hj2, rfl⟩ := okIdx hw.2.2.2.2.2.2.1 k11.2.2
    simp only [nn_nI (i := kk) (by omega), nn_nI (i := j) (by omega), nn_nI (i := j2) (by omega)] at hQ
    refine lv_aload_n hx hb d_X_winner_7 rfl (lv_at hl 0 rfl) ?_
    refine lv_iload_n hx hb d_X_winner_8 rfl (lv_at hl 1 rfl) ?_
    refine lv_iload_n hx hb d_X_winner_9 rfl (lv_at hl 2 rfl) ?_
    refine lv_iload_n hx hb d_X_winner_10 rfl (lv_at hl 3 rfl) ?_
    refine cl_d (W.runV (As := [.int (nI kk), .int (nI j), .int (nI j2)]) (rest := []) S (c_X_keptWinner hf (kk := kk) (j := j) (k := j2) rfl rfl rfl (hkk) hnj hnj2) (cwV 3 hts gv_X_156 rfl rfl rfl (by decide +kernel) ⟨Nat.le_of_ble_eq_true rfl, Nat.le_of_ble_eq_true rfl⟩) (cP_V (KG_ok _) hK hK.1 hw.1 rfl) rfl rfl hl.1 rfl (lv_room (Nat.le_of_ble_eq_true rfl)) d_X_winner_11 ⟨Nat.le_of_ble_eq_true rfl, Nat.le_of_ble_eq_true rfl⟩) (A := inBk b (b + 101)) cNil (fun z h => h) (fun H12 L13 hp14 hL15 => ?_)
    exact ry_i hQ (⟨okI_of (n := 6) (by decide) hkk, okI_of (by omega) hnj, okI_of (by omega) hnj2⟩) hx hb hr hlk (rfl) (rfl) (⟨hp14.1, Frm.blk hp14.2 (Nat.le_refl _) (Nat.le_refl _)⟩) hL15 (Nat.le_of_ble_eq_true rfl) (Nat.le_of_ble_eq_true rfl) d_X_winner_14
def rm_X_value : Room := { frames := 8, cells := 3, slots := 18, locals := 127 }
set_option maxRecDepth 100000 in
set_option maxHeartbeats 4000000 in
theorem c_X_value {l : Launch} {ev : EV} {H0 : Heap} {b : Nat} {u : XS} {kp : KT} {v : PT} (hT : l.stackTraces = false) (hf : XF ev b u kp v H0) (k x y : Int32) : vx_Met l my_X_value mw_X_value rm_X_value (cP [.ref b, .int k, .int x, .int y] (KG ev) H0) (cQod (okK k ∧ okI u.1.2.2.2.1 x ∧ okI u.1.2.2.2.1 y) (some (.long (valF u.2.1 (besU u (nn k) (nn x) (nn y))))) (fun H1 => XF ev b (winU u kp (nn k) (nn x) (nn y)) (winK kp (nn k) (nn x) (nn y)) v H1 ∧ Frm b 101 H0 H1)) (cX (fun E H1 => (¬ (okK k ∧ okI u.1.2.2.2.1 x ∧ okI u.1.2.2.2.1 y)) ∧ E = cIX ∧ XF ev b u kp v H1 ∧ Frm b 101 H0 H1)) 3 18 (inBk b (b + 101)) := by
  refine cHeadX [.ref b, .int k, .int x, .int y] (by decide) rfl (Nat.le_of_ble_eq_true rfl) ?_
  intro p e s m below meth c ls args QQ hQ htab S hr hlk hnm hs hK hl
  have S : CallFix p m c mb_X_value 4 s args TB "RuleChoice" := S
  obtain ⟨hx, hb, hml, hown, hts⟩ := id S
  obtain ⟨hw, ⟨sl, hkp, hn⟩, hp, hO, hz⟩ := id hf
  have hold := hO
  have ht40 : u.1.2.2.2.1 ≤ 40 := hw.2.2.2.2.2.2.1
  have hr40 : u.1.2.1 ≤ 40 := hw.2.2.2.2.1
  have hl : lv_has ls 4 [(0, .ref b), (1, .int k), (2, .int x), (3, .int y)] := hl
  refine lv_aload_n hx hb d_X_value_0 rfl (lv_at hl 0 rfl) ?_
  refine lv_iload_n hx hb d_X_value_1 rfl (lv_at hl 1 rfl) ?_
  refine lv_iload_n hx hb d_X_value_2 rfl (lv_at hl 2 rfl) ?_
  refine lv_iload_n hx hb d_X_value_3 rfl (lv_at hl 3 rfl) ?_
  refine cx_v (vx_runV (As := [.int k, .int x, .int y]) (rest := []) S (c_X_needKindAndThings hT hold hw k x y) (cwV 3 hts gv_X_152 rfl rfl rfl (by decide +kernel) ⟨Nat.le_of_ble_eq_true rfl, Nat.le_of_ble_eq_true rfl⟩) (cP_V (KG_ok _) hK hK.1 hw.1 rfl) rfl rfl hl.1 rfl (lv_room (Nat.le_of_ble_eq_true rfl)) d_X_value_4 ⟨Nat.le_of_ble_eq_true rfl, Nat.le_of_ble_eq_true rfl⟩) (A := inBk b (b + 101)) cNil (fun E1 H2 ce3 q4 L5 hp6 hL7 h8 h9 h10 => ?_) (fun k11 => ?_)
  · exact cx_out hQ htab hlk h8 h9 h10 (⟨hp6.1, hp6.2.1, XF_ext hf hp6.2.2, Frm.ext hp6.2.2⟩) hL7 (Nat.le_of_ble_eq_true rfl) (Nat.le_of_ble_eq_true rfl)
  · obtain ⟨kk, hkk, rfl⟩ := okK_ix k11.1
    obtain ⟨j, hnj, hj, rfl⟩ := okIdx hw.2.2.2.2.2.2.1 k11.2.1
    obtain ⟨j2, hnj2, hj2, rfl⟩ := okIdx hw.2.2.2.2.2.2.1 k11.2.2
    simp only [nn_nI (i := kk) (by omega), nn_nI (i := j) (by omega), nn_nI (i := j2) (by omega)] at hQ
    refine lv_aload_n hx hb d_X_value_7 rfl (lv_at hl 0 rfl) ?_
    refine lv_aload_n hx hb d_X_value_8 rfl (lv_at hl 0 rfl) ?_
    refine lv_iload_n hx hb d_X_value_9 rfl (lv_at hl 1 rfl) ?_
    refine lv_iload_n hx hb d_X_value_10 rfl (lv_at hl 2 rfl) ?_
    refine lv_iload_n hx hb d_X_value_11 rfl (lv_at hl 3 rfl) ?_
    refine cl_d (W.runV (As := [.int (nI kk), .int (nI j), .int (nI j2)]) (rest := [.ref b]) S (c_X_keptWinner hf (kk := kk) (j := j) (k := j2) rfl rfl rfl (hkk) hnj hnj2) (cwV 3 hts gv_X_156 rfl rfl rfl (by decide +kernel) ⟨Nat.le_of_ble_eq_true rfl, Nat.le_of_ble_eq_true rfl⟩) (cP_V (KG_ok _) hK hK.1 hw.1 rfl) rfl rfl hl.1 rfl (lv_room (Nat.le_of_ble_eq_true rfl)) d_X_value_12 ⟨Nat.le_of_ble_eq_true rfl, Nat.le_of_ble_eq_true rfl⟩) (A := inBk b (b + 101)) cNil (fun z h => h) (fun H12 L13 hp14 hL15 => ?_)
    refine cl_l (W.runV (As := [.int (oI (besU u kk j j2))]) (rest := []) S (c_X_valueOf hp14.1.1 (o := besU u kk j j2) (besF_40 hr40)) (cwV 1 hts gv_X_160 rfl rfl rfl (by decide +kernel) ⟨Nat.le_of_ble_eq_true rfl, Nat.le_of_ble_eq_true rfl⟩) (cP_V (KG_ok _) hK hK.1 hp14.1.1.1 rfl) rfl rfl hl.1 rfl (lv_room (Nat.le_of_ble_eq_true rfl)) d_X_value_15 ⟨Nat.le_of_ble_eq_true rfl, Nat.le_of_ble_eq_true rfl⟩) ?_
    exact ry_l hQ (⟨okI_of (n := 6) (by decide) hkk, okI_of (by omega) hnj, okI_of (by omega) hnj2⟩) hx hb hr hlk (rfl) (⟨hp14.1, Frm.blk hp14.2 (Nat.le_refl _) (Nat.le_refl _)⟩) hL15 (Nat.le_of_ble_eq_true rfl) (Nat.le_of_ble_eq_true rfl) d_X_value_18
