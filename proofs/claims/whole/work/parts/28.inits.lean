def rm_R_init : Room := { frames := 1, cells := 0, slots := 0, locals := 20 }
set_option maxRecDepth 100000 in
set_option maxHeartbeats 4000000 in
theorem c_R_init {l : Launch} {ev : EV} {H0 : Heap} {a : Nat} (h0 : pt ev H0 a (oC 4 [.int 0, .int 0, .int 0, .int 0, .long 0, .int 0, .int 0])) : Met l my_R_init mw_R_init rm_R_init (cP [.ref a] (KG ev) H0) (cQd none (fun H1 => pt ev H1 a (oC 4 (ruV r0)) ∧ Blk a (a + 1) H0 H1)) 0 0 (fun z => a ≤ z) := by
  refine cHead [.ref a] (by decide) rfl (Nat.le_of_ble_eq_true rfl) ?_
  intro p e s m below meth c ls args QQ hQ S hr hlk hnm hs hK hl
  have S : CallFix p m c mb_R_init 1 s args TB "RuleChoice$Rule" := S
  obtain ⟨hx, hb, hml, hown, hts⟩ := id S
  have hl : lv_has ls 1 [(0, .ref a)] := hl
  refine lv_aload_n hx hb d_R_init_0 rfl (lv_at hl 0 rfl) ?_
  refine W.objInit hx hb hown (hts _ ml_R_3) (hts _ im_objinit) (hts _ in_objinit) rfl (hl.1.trans hml.symm) rfl d_R_init_1 (Nat.le_of_ble_eq_true rfl) (Nat.le_of_ble_eq_true rfl) ?_
  refine W.eq (g2 := F0 m 4 ls []) rfl ?_
  refine lv_aload_n hx hb d_R_init_4 rfl (lv_at hl 0 rfl) ?_
  refine lv_iconst (v := (-1)) hx hb d_R_init_5 (by decide) ?_
  refine rw_put hx hb hts in_R ck_R ok_R nm_R hown hK.1 h0 rfl 6 (by decide) (hts _ fl_R_9) rfl (ok_R 6 (by decide)) rfl rfl (Nat.le_of_ble_eq_true rfl) (Nat.le_refl _) (A := (fun z => a ≤ z)) cNil d_R_init_6 (fun H1 L2 z3 o4 hat5 hL6 => ?_)
  exact rt_dv hQ hx hb hr hlk ⟨hat5, Blk.one z3 o4⟩ hL6 (Nat.le_of_ble_eq_true rfl) (Nat.le_of_ble_eq_true rfl) d_R_init_9
def rm_A_init : Room := { frames := 1, cells := 0, slots := 0, locals := 20 }
set_option maxRecDepth 100000 in
set_option maxHeartbeats 4000000 in
theorem c_A_init {l : Launch} {ev : EV} {H0 : Heap} {a : Nat}  : Met l my_A_init mw_A_init rm_A_init (cP [.ref a] (KG ev) H0) (cQp none) 0 0 cNo := by
  refine cHead [.ref a] (by decide) rfl (Nat.le_of_ble_eq_true rfl) ?_
  intro p e s m below meth c ls args QQ hQ S hr hlk hnm hs hK hl
  have S : CallFix p m c mb_A_init 1 s args TB "RuleChoice$Area" := S
  obtain ⟨hx, hb, hml, hown, hts⟩ := id S
  have hl : lv_has ls 1 [(0, .ref a)] := hl
  refine lv_aload_n hx hb d_A_init_0 rfl (lv_at hl 0 rfl) ?_
  refine W.objInit hx hb hown (hts _ ml_A_1) (hts _ im_objinit) (hts _ in_objinit) rfl (hl.1.trans hml.symm) rfl d_A_init_1 (Nat.le_of_ble_eq_true rfl) (Nat.le_of_ble_eq_true rfl) ?_
  refine W.eq (g2 := F0 m 4 ls []) rfl ?_
  exact rt_v hQ hx hb hr hlk hs d_A_init_4
def rm_T_init : Room := { frames := 1, cells := 0, slots := 0, locals := 20 }
set_option maxRecDepth 100000 in
set_option maxHeartbeats 4000000 in
theorem c_T_init {l : Launch} {ev : EV} {H0 : Heap} {a : Nat}  : Met l my_T_init mw_T_init rm_T_init (cP [.ref a] (KG ev) H0) (cQp none) 0 0 cNo := by
  refine cHead [.ref a] (by decide) rfl (Nat.le_of_ble_eq_true rfl) ?_
  intro p e s m below meth c ls args QQ hQ S hr hlk hnm hs hK hl
  have S : CallFix p m c mb_T_init 1 s args TB "RuleChoice$Thing" := S
  obtain ⟨hx, hb, hml, hown, hts⟩ := id S
  have hl : lv_has ls 1 [(0, .ref a)] := hl
  refine lv_aload_n hx hb d_T_init_0 rfl (lv_at hl 0 rfl) ?_
  refine W.objInit hx hb hown (hts _ ml_T_1) (hts _ im_objinit) (hts _ in_objinit) rfl (hl.1.trans hml.symm) rfl d_T_init_1 (Nat.le_of_ble_eq_true rfl) (Nat.le_of_ble_eq_true rfl) ?_
  refine W.eq (g2 := F0 m 4 ls []) rfl ?_
  exact rt_v hQ hx hb hr hlk hs d_T_init_4
def rm_N_init : Room := { frames := 1, cells := 1, slots := 4920, locals := 20 }
set_option maxRecDepth 100000 in
set_option maxHeartbeats 4000000 in
theorem c_N_init {l : Launch} {ev : EV} {H0 : Heap} {q : Nat} (h0 : pt ev H0 q (oC 1 [.null, .int 0])) (hsz : H0.size = q + 1) : Met l my_N_init mw_N_init rm_N_init (cP [.ref q] (KG ev) H0) (cQd none (fun H1 => xN ev q (fun _ => 0) H1 ∧ H1.size = q + 2 ∧ ∀ z : Nat, z < q → H1[z]? = H0[z]?)) 1 4920 (fun z => q ≤ z) := by
  refine cHead [.ref q] (by decide) rfl (Nat.le_of_ble_eq_true rfl) ?_
  intro p e s m below meth c ls args QQ hQ S hr hlk hnm hs hK hl
  have S : CallFix p m c mb_N_init 1 s args TB "RuleChoice$Answers" := S
  obtain ⟨hx, hb, hml, hown, hts⟩ := id S
  have hl : lv_has ls 1 [(0, .ref q)] := hl
  refine lv_aload_n hx hb d_N_init_0 rfl (lv_at hl 0 rfl) ?_
  refine W.objInit hx hb hown (hts _ ml_N_3) (hts _ im_objinit) (hts _ in_objinit) rfl (hl.1.trans hml.symm) rfl d_N_init_1 (Nat.le_of_ble_eq_true rfl) (Nat.le_of_ble_eq_true rfl) ?_
  refine W.eq (g2 := F0 m 4 ls []) rfl ?_
  refine lv_aload_n hx hb d_N_init_4 rfl (lv_at hl 0 rfl) ?_
  refine lv_sipush (v := 4920) hx hb d_N_init_5 (by decide) ?_
  refine rz_newa (atype := .int) (z := q + 1) (hsz) hx hb (hts _ ac_int) hK.1 0 rfl (a0 := (4920, .inl (fun _ => 0))) (fun _ => rfl) (by decide) rfl (by decide) (Nat.le_of_ble_eq_true rfl) (Nat.le_of_ble_eq_true rfl) d_N_init_8 (fun H1 z2 o3 hat4 => ?_)
  have h1 := pt_k h0 (o3 q (by omega))
  refine rw_putF hx hb hts in_N ck_N ok_N nm_N hown hK.1 h1 rfl 0 (by decide) (hts _ fl_N_11) rfl hnm rfl (ok_N 0 (by decide)) rfl rfl (Nat.le_of_ble_eq_true rfl) (Nat.le_refl _) (A := (fun z => q ≤ z)) cNil d_N_init_10 (fun H5 L6 z7 o8 hat9 hL10 => ?_)
  exact rt_dv hQ hx hb hr hlk ⟨⟨by rw [← nI_c0]; exact hat9, pt_k hat4 (o8 _ (by omega))⟩, z7.trans z2, fun z hz9 => (o8 z (by omega)).trans (o3 z (by omega))⟩ hL10 (Nat.le_of_ble_eq_true rfl) (Nat.le_of_ble_eq_true rfl) d_N_init_13
def rm_P_init : Room := { frames := 1, cells := 2, slots := 1560, locals := 20 }
set_option maxRecDepth 100000 in
set_option maxHeartbeats 4000000 in
theorem c_P_init {l : Launch} {ev : EV} {H0 : Heap} {q : Nat} (h0 : pt ev H0 q (oC 3 [.null, .null, .int 0])) (hsz : H0.size = q + 1) : Met l my_P_init mw_P_init rm_P_init (cP [.ref q] (KG ev) H0) (cQd none (fun H1 => xP ev q (0, (fun _ => 0), (fun _ => 0)) H1 ∧ H1.size = q + 3 ∧ ∀ z : Nat, z < q → H1[z]? = H0[z]?)) 2 1560 (fun z => q ≤ z) := by
  refine cHead [.ref q] (by decide) rfl (Nat.le_of_ble_eq_true rfl) ?_
  intro p e s m below meth c ls args QQ hQ S hr hlk hnm hs hK hl
  have S : CallFix p m c mb_P_init 1 s args TB "RuleChoice$Pairs" := S
  obtain ⟨hx, hb, hml, hown, hts⟩ := id S
  have hl : lv_has ls 1 [(0, .ref q)] := hl
  refine lv_aload_n hx hb d_P_init_0 rfl (lv_at hl 0 rfl) ?_
  refine W.objInit hx hb hown (hts _ ml_P_3) (hts _ im_objinit) (hts _ in_objinit) rfl (hl.1.trans hml.symm) rfl d_P_init_1 (Nat.le_of_ble_eq_true rfl) (Nat.le_of_ble_eq_true rfl) ?_
  refine W.eq (g2 := F0 m 4 ls []) rfl ?_
  refine lv_aload_n hx hb d_P_init_4 rfl (lv_at hl 0 rfl) ?_
  refine lv_sipush (v := 780) hx hb d_P_init_5 (by decide) ?_
  refine rz_newa (atype := .int) (z := q + 1) (hsz) hx hb (hts _ ac_int) hK.1 0 rfl (a0 := (780, .inl (fun _ => 0))) (fun _ => rfl) (by decide) rfl (by decide) (Nat.le_of_ble_eq_true rfl) (Nat.le_of_ble_eq_true rfl) d_P_init_8 (fun H1 z2 o3 hat4 => ?_)
  have g1 := pt_k h0 (o3 q (by omega))
  refine rw_putF hx hb hts in_P ck_P ok_P nm_P hown hK.1 g1 rfl 0 (by decide) (hts _ fl_P_11) rfl hnm rfl (ok_P 0 (by decide)) rfl rfl (Nat.le_of_ble_eq_true rfl) (Nat.le_refl _) (A := (fun z => q ≤ z)) cNil d_P_init_10 (fun H5 L6 z7 o8 hat9 hL10 => ?_)
  have s1 := z7.trans z2
  have g2 := pt_k hat4 (o8 (q + 1) (by omega))
  refine lv_aload_n hx hb d_P_init_13 rfl (lv_at hl 0 rfl) ?_
  refine lv_sipush (v := 780) hx hb d_P_init_14 (by decide) ?_
  refine rz_newa (atype := .int) (z := q + 2) (s1) hx hb (hts _ ac_int) hK.1 0 rfl (a0 := (780, .inl (fun _ => 0))) (fun _ => rfl) (by decide) rfl (by decide) (Nat.le_of_ble_eq_true rfl) (Nat.le_of_ble_eq_true rfl) d_P_init_17 (fun H11 z12 o13 hat14 => ?_)
  have g3 := pt_k hat9 (o13 q (by omega))
  have g4 := pt_k g2 (o13 (q + 1) (by omega))
  refine rw_putF hx hb hts in_P ck_P ok_P nm_P hown hK.1 g3 rfl 1 (by decide) (hts _ fl_P_15) rfl hnm rfl (ok_P 1 (by decide)) rfl rfl (Nat.le_of_ble_eq_true rfl) (Nat.le_refl _) hL10 d_P_init_19 (fun H15 L16 z17 o18 hat19 hL20 => ?_)
  have s2 := z17.trans z12
  exact rt_dv hQ hx hb hr hlk ⟨⟨hat19, pt_k g4 (o18 _ (by omega)), pt_k hat14 (o18 _ (by omega)), Nat.zero_le _⟩, s2, fun z hz9 => ((((o18 z (by omega)).trans (o13 z (by omega))).trans (o8 z (by omega))).trans (o3 z (by omega)))⟩ hL20 (Nat.le_of_ble_eq_true rfl) (Nat.le_of_ble_eq_true rfl) d_P_init_22
