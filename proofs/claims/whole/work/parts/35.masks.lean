def rm_M_winner : Room := { frames := 4, cells := 0, slots := 0, locals := 95 }
set_option maxRecDepth 100000 in
set_option maxHeartbeats 4000000 in
theorem c_M_winner {l : Launch} {ev : EV} {H0 : Heap} {d : Nat} {th : Int32} {u : XS} {kp : KT} {v : PT} (hm : MW ev d th u kp v H0) (k x y : Int32) : Met l my_M_winner mw_M_winner rm_M_winner (cP [.ref d, .int k, .int x, .int y] (KG ev) H0) (cQe (fun r H1 => ((okK k ∧ okI u.1.2.2.2.1 x ∧ okI u.1.2.2.2.1 y) ∧ r = .int (oI (besU u (nn k) (nn x) (nn y))) ∧ MW ev d 0 (winU u kp (nn k) (nn x) (nn y)) (winK kp (nn k) (nn x) (nn y)) v H1 ∨ (¬ (okK k ∧ okI u.1.2.2.2.1 x ∧ okI u.1.2.2.2.1 y)) ∧ r = .int 0 ∧ MW ev d 1 u kp v H1) ∧ Blk d (d + 16) H0 H1)) 0 0 (inBk d (d + 16)) := by
  refine cHead [.ref d, .int k, .int x, .int y] (by decide) rfl (Nat.le_of_ble_eq_true rfl) ?_
  intro p e s m below meth c ls args QQ hQ S hr hlk hnm hs hK hl
  have S : CallFix p m c mb_M_winner 4 s args TB "RuleChoiceModel" := S
  obtain ⟨hx, hb, hml, hown, hts⟩ := id S
  obtain ⟨m0, m1, m2, m3, m4, m5, m6, m7, m8, m9, m10, m11, m12, m13, m14, m15, hxb, hv7⟩ := id hm
  have hr40 : u.1.2.1 ≤ 40 := hxb.1
  have ha12 : u.1.2.2.1 ≤ 12 := hxb.2.1
  have ht40 : u.1.2.2.2.1 ≤ 40 := hxb.2.2.1
  have hl : lv_has ls 4 [(0, .ref d), (1, .int k), (2, .int x), (3, .int y)] := hl
  refine lv_aload_n hx hb d_M_winner_0 rfl (lv_at hl 0 rfl) ?_
  refine lv_aload_n hx hb d_M_winner_1 rfl (lv_at hl 0 rfl) ?_
  refine lv_iload_n hx hb d_M_winner_2 rfl (lv_at hl 1 rfl) ?_
  refine lv_iload_n hx hb d_M_winner_3 rfl (lv_at hl 2 rfl) ?_
  refine lv_iload_n hx hb d_M_winner_4 rfl (lv_at hl 3 rfl) ?_
  refine cl_i (W.runV (As := [.int k, .int x, .int y]) (rest := [.ref d]) S (c_M_isAsked m0 k x y) (cwV 3 hts gv_M_136 rfl rfl rfl (by decide +kernel) ⟨Nat.le_of_ble_eq_true rfl, Nat.le_of_ble_eq_true rfl⟩) (cP_V (KG_ok _) hK hK.1 m0 rfl) rfl rfl hl.1 rfl (lv_room (Nat.le_of_ble_eq_true rfl)) d_M_winner_5 ⟨Nat.le_of_ble_eq_true rfl, Nat.le_of_ble_eq_true rfl⟩) ?_
  refine lv_if_eq (tgt := 15) hx hb d_M_winner_8 (by decide) (fun c8 => ?_) (fun c8 => ?_)
  · refine lv_iconst (v := 1) hx hb d_M_winner_15 (by decide) ?_
    refine rw_put hx hb hts in_M ck_M ok_M nm_M hown hK.1 m0 rfl 0 (by decide) (hts _ fl_M_61) rfl (ok_M 0 (by decide)) rfl rfl (Nat.le_of_ble_eq_true rfl) (⟨Nat.le_refl _, by omega⟩) (A := inBk d (d + 16)) cNil d_M_winner_16 (fun H1 L2 z3 o4 hat5 hL6 => ?_)
    have hm := MW_th (th' := 1) hm hat5 o4
    obtain ⟨m0, m1, m2, m3, m4, m5, m6, m7, m8, m9, m10, m11, m12, m13, m14, m15, hxb, hv7⟩ := id hm
    have hB := (Blk.one z3 o4).wide (lo' := d) (hi' := d + 16) (by omega) (by omega)
    have hbad : ¬ (okK k ∧ okI u.1.2.2.2.1 x ∧ okI u.1.2.2.2.1 y) := by (try simp only [Classical.not_not, bI_eq, bI_ne, ask_t, ask_f, kB_t, kB_f, cB_t, cB_f, lB_t, lB_f, iB_t, iB_f, pB_t, pB_f] at c8); simp [c8]
    refine lv_aload_n hx hb d_M_winner_19 rfl (lv_at hl 0 rfl) ?_
    refine rw_get hx hb hts in_M hown hK.1 m0 rfl 0 (by decide) (hts _ fl_M_61) rfl d_M_winner_20 ?_
    refine lv_if_eq (tgt := 28) hx hb d_M_winner_23 (by decide) (fun c23 => ?_) (fun c23 => ?_)
    · exact absurd c23 (by decide)
    · refine lv_iconst (v := 0) hx hb d_M_winner_26 (by decide) ?_
      exact re_i hQ hx hb hr hlk (rfl) (⟨Or.inr ⟨hbad, rfl, hm⟩, hB⟩) hL6 (Nat.le_of_ble_eq_true rfl) (Nat.le_of_ble_eq_true rfl) d_M_winner_27
  · refine lv_iconst (v := 0) hx hb d_M_winner_11 (by decide) ?_
    refine lv_goto (tgt := 16) hx hb d_M_winner_12 (by decide) ?_
    refine rw_put hx hb hts in_M ck_M ok_M nm_M hown hK.1 m0 rfl 0 (by decide) (hts _ fl_M_61) rfl (ok_M 0 (by decide)) rfl rfl (Nat.le_of_ble_eq_true rfl) (⟨Nat.le_refl _, by omega⟩) (A := inBk d (d + 16)) cNil d_M_winner_16 (fun H7 L8 z9 o10 hat11 hL12 => ?_)
    have hm := MW_th (th' := 0) hm hat11 o10
    obtain ⟨m0, m1, m2, m3, m4, m5, m6, m7, m8, m9, m10, m11, m12, m13, m14, m15, hxb, hv7⟩ := id hm
    have hB := (Blk.one z9 o10).wide (lo' := d) (hi' := d + 16) (by omega) (by omega)
    have hok : okK k ∧ okI u.1.2.2.2.1 x ∧ okI u.1.2.2.2.1 y := by (try simp only [Classical.not_not, bI_eq, bI_ne, ask_t, ask_f, kB_t, kB_f, cB_t, cB_f, lB_t, lB_f, iB_t, iB_f, pB_t, pB_f] at c8); simp [c8]
    obtain ⟨kk, h_kk, rfl⟩ := okK_ix (hok.1)
    obtain ⟨j, hn_j, h_j, rfl⟩ := okIdx hxb.2.2.1 (hok.2.1)
    obtain ⟨j2, hn_j2, h_j2, rfl⟩ := okIdx hxb.2.2.1 (hok.2.2)
    simp only [nn_nI (i := kk) (by omega), nn_nI (i := j) (by omega), nn_nI (i := j2) (by omega)] at hQ
    refine lv_aload_n hx hb d_M_winner_19 rfl (lv_at hl 0 rfl) ?_
    refine rw_get hx hb hts in_M hown hK.1 m0 rfl 0 (by decide) (hts _ fl_M_61) rfl d_M_winner_20 ?_
    refine lv_if_eq (tgt := 28) hx hb d_M_winner_23 (by decide) (fun c23 => ?_) (fun c23 => ?_)
    · refine lv_aload_n hx hb d_M_winner_28 rfl (lv_at hl 0 rfl) ?_
      refine lv_iload_n hx hb d_M_winner_29 rfl (lv_at hl 1 rfl) ?_
      refine lv_iload_n hx hb d_M_winner_30 rfl (lv_at hl 2 rfl) ?_
      refine lv_iload_n hx hb d_M_winner_31 rfl (lv_at hl 3 rfl) ?_
      refine cl_d (W.runV (As := [.int (nI kk), .int (nI j), .int (nI j2)]) (rest := []) S (c_M_keep hm (rfl) (rfl) (rfl) (h_kk) (h_j) (h_j2)) (cwV 3 hts gv_M_139 rfl rfl rfl (by decide +kernel) ⟨Nat.le_of_ble_eq_true rfl, Nat.le_of_ble_eq_true rfl⟩) (cP_V (KG_ok _) hK hK.1 m0 rfl) rfl rfl hl.1 rfl (lv_room (Nat.le_of_ble_eq_true rfl)) d_M_winner_32 ⟨Nat.le_of_ble_eq_true rfl, Nat.le_of_ble_eq_true rfl⟩) hL12 (fun z h => h) (fun H13 L14 hp15 hL16 => ?_)
      have hm2 := hp15.1
      have hB := Blk.trans hB hp15.2
      obtain ⟨n0, n1, n2, n3, n4, n5, n6, n7, n8, n9, n10, n11, n12, n13, n14, n15, -, -⟩ := id hm2
      refine lv_aload_n hx hb d_M_winner_35 rfl (lv_at hl 0 rfl) ?_
      refine lv_iload_n hx hb d_M_winner_36 rfl (lv_at hl 1 rfl) ?_
      refine lv_iload_n hx hb d_M_winner_37 rfl (lv_at hl 2 rfl) ?_
      refine lv_iload_n hx hb d_M_winner_38 rfl (lv_at hl 3 rfl) ?_
      refine cl_i (W.runV (As := [.int (nI kk), .int (nI j), .int (nI j2)]) (rest := []) S (c_M_best hm2 (nI kk) (rfl) (rfl) (h_j) (h_j2)) (cwV 3 hts gv_M_143 rfl rfl rfl (by decide +kernel) ⟨Nat.le_of_ble_eq_true rfl, Nat.le_of_ble_eq_true rfl⟩) (cP_V (KG_ok _) hK hK.1 n0 rfl) rfl rfl hl.1 rfl (lv_room (Nat.le_of_ble_eq_true rfl)) d_M_winner_39 ⟨Nat.le_of_ble_eq_true rfl, Nat.le_of_ble_eq_true rfl⟩) ?_
      exact re_i hQ hx hb hr hlk (rfl) (⟨Or.inl ⟨⟨okI_of (n := 6) (by decide) h_kk, okI_of (by omega) hn_j, okI_of (by omega) hn_j2⟩, rfl, hm2⟩, hB⟩) hL16 (Nat.le_of_ble_eq_true rfl) (Nat.le_of_ble_eq_true rfl) d_M_winner_42
    · exact absurd c23 (by decide)
def rm_M_value : Room := { frames := 4, cells := 0, slots := 0, locals := 95 }
set_option maxRecDepth 100000 in
set_option maxHeartbeats 4000000 in
theorem c_M_value {l : Launch} {ev : EV} {H0 : Heap} {d : Nat} {th : Int32} {u : XS} {kp : KT} {v : PT} (hm : MW ev d th u kp v H0) (k x y : Int32) : Met l my_M_value mw_M_value rm_M_value (cP [.ref d, .int k, .int x, .int y] (KG ev) H0) (cQe (fun r H1 => ((okK k ∧ okI u.1.2.2.2.1 x ∧ okI u.1.2.2.2.1 y) ∧ r = .long (valF u.2.1 (besU u (nn k) (nn x) (nn y))) ∧ MW ev d 0 (winU u kp (nn k) (nn x) (nn y)) (winK kp (nn k) (nn x) (nn y)) v H1 ∨ (¬ (okK k ∧ okI u.1.2.2.2.1 x ∧ okI u.1.2.2.2.1 y)) ∧ r = .long 0 ∧ MW ev d 1 u kp v H1) ∧ Blk d (d + 16) H0 H1)) 0 0 (inBk d (d + 16)) := by
  refine cHead [.ref d, .int k, .int x, .int y] (by decide) rfl (Nat.le_of_ble_eq_true rfl) ?_
  intro p e s m below meth c ls args QQ hQ S hr hlk hnm hs hK hl
  have S : CallFix p m c mb_M_value 5 s args TB "RuleChoiceModel" := S
  obtain ⟨hx, hb, hml, hown, hts⟩ := id S
  obtain ⟨m0, m1, m2, m3, m4, m5, m6, m7, m8, m9, m10, m11, m12, m13, m14, m15, hxb, hv7⟩ := id hm
  have hr40 : u.1.2.1 ≤ 40 := hxb.1
  have ha12 : u.1.2.2.1 ≤ 12 := hxb.2.1
  have ht40 : u.1.2.2.2.1 ≤ 40 := hxb.2.2.1
  have hl : lv_has ls 5 [(0, .ref d), (1, .int k), (2, .int x), (3, .int y)] := hl
  refine lv_aload_n hx hb d_M_value_0 rfl (lv_at hl 0 rfl) ?_
  refine lv_aload_n hx hb d_M_value_1 rfl (lv_at hl 0 rfl) ?_
  refine lv_iload_n hx hb d_M_value_2 rfl (lv_at hl 1 rfl) ?_
  refine lv_iload_n hx hb d_M_value_3 rfl (lv_at hl 2 rfl) ?_
  refine lv_iload_n hx hb d_M_value_4 rfl (lv_at hl 3 rfl) ?_
  refine cl_i (W.runV (As := [.int k, .int x, .int y]) (rest := [.ref d]) S (c_M_isAsked m0 k x y) (cwV 3 hts gv_M_136 rfl rfl rfl (by decide +kernel) ⟨Nat.le_of_ble_eq_true rfl, Nat.le_of_ble_eq_true rfl⟩) (cP_V (KG_ok _) hK hK.1 m0 rfl) rfl rfl hl.1 rfl (lv_room (Nat.le_of_ble_eq_true rfl)) d_M_value_5 ⟨Nat.le_of_ble_eq_true rfl, Nat.le_of_ble_eq_true rfl⟩) ?_
  refine lv_if_eq (tgt := 15) hx hb d_M_value_8 (by decide) (fun c8 => ?_) (fun c8 => ?_)
  · refine lv_iconst (v := 1) hx hb d_M_value_15 (by decide) ?_
    refine rw_put hx hb hts in_M ck_M ok_M nm_M hown hK.1 m0 rfl 0 (by decide) (hts _ fl_M_61) rfl (ok_M 0 (by decide)) rfl rfl (Nat.le_of_ble_eq_true rfl) (⟨Nat.le_refl _, by omega⟩) (A := inBk d (d + 16)) cNil d_M_value_16 (fun H1 L2 z3 o4 hat5 hL6 => ?_)
    have hm := MW_th (th' := 1) hm hat5 o4
    obtain ⟨m0, m1, m2, m3, m4, m5, m6, m7, m8, m9, m10, m11, m12, m13, m14, m15, hxb, hv7⟩ := id hm
    have hB := (Blk.one z3 o4).wide (lo' := d) (hi' := d + 16) (by omega) (by omega)
    have hbad : ¬ (okK k ∧ okI u.1.2.2.2.1 x ∧ okI u.1.2.2.2.1 y) := by (try simp only [Classical.not_not, bI_eq, bI_ne, ask_t, ask_f, kB_t, kB_f, cB_t, cB_f, lB_t, lB_f, iB_t, iB_f, pB_t, pB_f] at c8); simp [c8]
    refine lv_aload_n hx hb d_M_value_19 rfl (lv_at hl 0 rfl) ?_
    refine rw_get hx hb hts in_M hown hK.1 m0 rfl 0 (by decide) (hts _ fl_M_61) rfl d_M_value_20 ?_
    refine lv_if_eq (tgt := 28) hx hb d_M_value_23 (by decide) (fun c23 => ?_) (fun c23 => ?_)
    · exact absurd c23 (by decide)
    · refine lv_lconst (v := 0) hx hb d_M_value_26 (by decide) ?_
      exact re_l hQ hx hb hr hlk (⟨Or.inr ⟨hbad, rfl, hm⟩, hB⟩) hL6 (Nat.le_of_ble_eq_true rfl) (Nat.le_of_ble_eq_true rfl) d_M_value_27
  · refine lv_iconst (v := 0) hx hb d_M_value_11 (by decide) ?_
    refine lv_goto (tgt := 16) hx hb d_M_value_12 (by decide) ?_
    refine rw_put hx hb hts in_M ck_M ok_M nm_M hown hK.1 m0 rfl 0 (by decide) (hts _ fl_M_61) rfl (ok_M 0 (by decide)) rfl rfl (Nat.le_of_ble_eq_true rfl) (⟨Nat.le_refl _, by omega⟩) (A := inBk d (d + 16)) cNil d_M_value_16 (fun H7 L8 z9 o10 hat11 hL12 => ?_)
    have hm := MW_th (th' := 0) hm hat11 o10
    obtain ⟨m0, m1, m2, m3, m4, m5, m6, m7, m8, m9, m10, m11, m12, m13, m14, m15, hxb, hv7⟩ := id hm
    have hB := (Blk.one z9 o10).wide (lo' := d) (hi' := d + 16) (by omega) (by omega)
    have hok : okK k ∧ okI u.1.2.2.2.1 x ∧ okI u.1.2.2.2.1 y := by (try simp only [Classical.not_not, bI_eq, bI_ne, ask_t, ask_f, kB_t, kB_f, cB_t, cB_f, lB_t, lB_f, iB_t, iB_f, pB_t, pB_f] at c8); simp [c8]
    obtain ⟨kk, h_kk, rfl⟩ := okK_ix (hok.1)
    obtain ⟨j, hn_j, h_j, rfl⟩ := okIdx hxb.2.2.1 (hok.2.1)
    obtain ⟨j2, hn_j2, h_j2, rfl⟩ := okIdx hxb.2.2.1 (hok.2.2)
    simp only [nn_nI (i := kk) (by omega), nn_nI (i := j) (by omega), nn_nI (i := j2) (by omega)] at hQ
    refine lv_aload_n hx hb d_M_value_19 rfl (lv_at hl 0 rfl) ?_
    refine rw_get hx hb hts in_M hown hK.1 m0 rfl 0 (by decide) (hts _ fl_M_61) rfl d_M_value_20 ?_
    refine lv_if_eq (tgt := 28) hx hb d_M_value_23 (by decide) (fun c23 => ?_) (fun c23 => ?_)
    · refine lv_aload_n hx hb d_M_value_28 rfl (lv_at hl 0 rfl) ?_
      refine lv_iload_n hx hb d_M_value_29 rfl (lv_at hl 1 rfl) ?_
      refine lv_iload_n hx hb d_M_value_30 rfl (lv_at hl 2 rfl) ?_
      refine lv_iload_n hx hb d_M_value_31 rfl (lv_at hl 3 rfl) ?_
      refine cl_d (W.runV (As := [.int (nI kk), .int (nI j), .int (nI j2)]) (rest := []) S (c_M_keep hm (rfl) (rfl) (rfl) (h_kk) (h_j) (h_j2)) (cwV 3 hts gv_M_139 rfl rfl rfl (by decide +kernel) ⟨Nat.le_of_ble_eq_true rfl, Nat.le_of_ble_eq_true rfl⟩) (cP_V (KG_ok _) hK hK.1 m0 rfl) rfl rfl hl.1 rfl (lv_room (Nat.le_of_ble_eq_true rfl)) d_M_value_32 ⟨Nat.le_of_ble_eq_true rfl, Nat.le_of_ble_eq_true rfl⟩) hL12 (fun z h => h) (fun H13 L14 hp15 hL16 => ?_)
      have hm2 := hp15.1
      have hB := Blk.trans hB hp15.2
      obtain ⟨n0, n1, n2, n3, n4, n5, n6, n7, n8, n9, n10, n11, n12, n13, n14, n15, -, -⟩ := id hm2
      refine lv_aload_n hx hb d_M_value_35 rfl (lv_at hl 0 rfl) ?_
      refine lv_iload_n hx hb d_M_value_36 rfl (lv_at hl 1 rfl) ?_
      refine lv_iload_n hx hb d_M_value_37 rfl (lv_at hl 2 rfl) ?_
      refine lv_iload_n hx hb d_M_value_38 rfl (lv_at hl 3 rfl) ?_
      refine cl_i (W.runV (As := [.int (nI kk), .int (nI j), .int (nI j2)]) (rest := []) S (c_M_best hm2 (nI kk) (rfl) (rfl) (h_j) (h_j2)) (cwV 3 hts gv_M_143 rfl rfl rfl (by decide +kernel) ⟨Nat.le_of_ble_eq_true rfl, Nat.le_of_ble_eq_true rfl⟩) (cP_V (KG_ok _) hK hK.1 n0 rfl) rfl rfl hl.1 rfl (lv_room (Nat.le_of_ble_eq_true rfl)) d_M_value_39 ⟨Nat.le_of_ble_eq_true rfl, Nat.le_of_ble_eq_true rfl⟩) ?_
      refine lv_istore (lv' := [(4, .int (oI (besF u.2.1 u.2.2.1 none (nI kk) (u.2.2.2 j) (u.2.2.2 j2) u.1.2.1))), (0, .ref d), (1, .int (nI kk)), (2, .int (nI j)), (3, .int (nI j2))]) hx hb d_M_value_42 hl (by decide) rfl (fun ls hl => ?_)
      refine lv_iload hx hb d_M_value_44 (lv_at hl 0 rfl) ?_
      refine lv_iconst (v := (-1)) hx hb d_M_value_46 (by decide) ?_
      refine lv_icmp_ne (tgt := 56) hx hb d_M_value_47 (by decide) (fun c47 => ?_) (fun c47 => ?_)
      · obtain ⟨i, gi⟩ : ∃ i, besU u kk j j2 = some i := oI_no c47
        have hi : i < 40 := besF_40 hr40 i gi
        refine lv_aload_n hx hb d_M_value_56 rfl (lv_at hl 1 rfl) ?_
        refine rw_get hx hb hts in_M hown hK.1 n0 rfl 7 (by decide) (hts _ fl_M_22) rfl d_M_value_57 ?_
        refine lv_iload hx hb d_M_value_60 (lv_at hl 0 rfl) ?_
        refine rw_lald hx hb hK.1 1 n5 rfl i (by show oI (besU u kk j j2) = _; rw [gi]; rfl) (hi) (by decide) d_M_value_62 ?_
        exact re_l hQ hx hb hr hlk (⟨Or.inl ⟨⟨okI_of (n := 6) (by decide) h_kk, okI_of (by omega) hn_j, okI_of (by omega) hn_j2⟩, by rw [gi]; rfl, hm2⟩, hB⟩) hL16 (Nat.le_of_ble_eq_true rfl) (Nat.le_of_ble_eq_true rfl) d_M_value_63
      · refine lv_ldc2 (v := (-1)) hx hb hown (hts _ kl_M_147) d_M_value_50 ?_
        refine lv_goto (tgt := 63) hx hb d_M_value_53 (by decide) ?_
        exact re_l hQ hx hb hr hlk (⟨Or.inl ⟨⟨okI_of (n := 6) (by decide) h_kk, okI_of (by omega) hn_j, okI_of (by omega) hn_j2⟩, by rw [show besU u kk j j2 = none from oI_m1 (fun a h => Nat.lt_trans (besF_40 hr40 a h) (by decide)) c47]; rfl, hm2⟩, hB⟩) hL16 (Nat.le_of_ble_eq_true rfl) (Nat.le_of_ble_eq_true rfl) d_M_value_63
    · exact absurd c23 (by decide)
def rm_M_listed : Room := { frames := 3, cells := 0, slots := 0, locals := 70 }
set_option maxRecDepth 100000 in
set_option maxHeartbeats 4000000 in
theorem c_M_listed {l : Launch} {ev : EV} {H0 : Heap} {d : Nat} {th : Int32} {u : XS} {kp : KT} {v : PT} (hm : MW ev d th u kp v H0) (k x y z : Int32) : Met l my_M_listed mw_M_listed rm_M_listed (cP [.ref d, .int k, .int x, .int y, .int z] (KG ev) H0) (cQe (fun r H1 => ((okK k ∧ okI u.1.2.2.2.1 x ∧ okI u.1.2.2.2.1 y) ∧ r = .int (lsV u (nn k) (nn x) (nn y) z) ∧ MW ev d 0 u kp v H1 ∨ (¬ (okK k ∧ okI u.1.2.2.2.1 x ∧ okI u.1.2.2.2.1 y)) ∧ r = .int 0 ∧ MW ev d 1 u kp v H1) ∧ Blk d (d + 16) H0 H1)) 0 0 (inBk d (d + 16)) := by
  refine cHead [.ref d, .int k, .int x, .int y, .int z] (by decide) rfl (Nat.le_of_ble_eq_true rfl) ?_
  intro p e s m below meth c ls args QQ hQ S hr hlk hnm hs hK hl
  have S : CallFix p m c mb_M_listed 8 s args TB "RuleChoiceModel" := S
  obtain ⟨hx, hb, hml, hown, hts⟩ := id S
  obtain ⟨m0, m1, m2, m3, m4, m5, m6, m7, m8, m9, m10, m11, m12, m13, m14, m15, hxb, hv7⟩ := id hm
  have hr40 : u.1.2.1 ≤ 40 := hxb.1
  have ha12 : u.1.2.2.1 ≤ 12 := hxb.2.1
  have ht40 : u.1.2.2.2.1 ≤ 40 := hxb.2.2.1
  have hl : lv_has ls 8 [(0, .ref d), (1, .int k), (2, .int x), (3, .int y), (4, .int z)] := hl
  refine lv_aload_n hx hb d_M_listed_0 rfl (lv_at hl 0 rfl) ?_
  refine lv_aload_n hx hb d_M_listed_1 rfl (lv_at hl 0 rfl) ?_
  refine lv_iload_n hx hb d_M_listed_2 rfl (lv_at hl 1 rfl) ?_
  refine lv_iload_n hx hb d_M_listed_3 rfl (lv_at hl 2 rfl) ?_
  refine lv_iload_n hx hb d_M_listed_4 rfl (lv_at hl 3 rfl) ?_
  refine cl_i (W.runV (As := [.int k, .int x, .int y]) (rest := [.ref d]) S (c_M_isAsked m0 k x y) (cwV 3 hts gv_M_136 rfl rfl rfl (by decide +kernel) ⟨Nat.le_of_ble_eq_true rfl, Nat.le_of_ble_eq_true rfl⟩) (cP_V (KG_ok _) hK hK.1 m0 rfl) rfl rfl hl.1 rfl (lv_room (Nat.le_of_ble_eq_true rfl)) d_M_listed_5 ⟨Nat.le_of_ble_eq_true rfl, Nat.le_of_ble_eq_true rfl⟩) ?_
  refine lv_if_eq (tgt := 15) hx hb d_M_listed_8 (by decide) (fun c8 => ?_) (fun c8 => ?_)
  · refine lv_iconst (v := 1) hx hb d_M_listed_15 (by decide) ?_
    refine rw_put hx hb hts in_M ck_M ok_M nm_M hown hK.1 m0 rfl 0 (by decide) (hts _ fl_M_61) rfl (ok_M 0 (by decide)) rfl rfl (Nat.le_of_ble_eq_true rfl) (⟨Nat.le_refl _, by omega⟩) (A := inBk d (d + 16)) cNil d_M_listed_16 (fun H1 L2 z3 o4 hat5 hL6 => ?_)
    have hm := MW_th (th' := 1) hm hat5 o4
    obtain ⟨m0, m1, m2, m3, m4, m5, m6, m7, m8, m9, m10, m11, m12, m13, m14, m15, hxb, hv7⟩ := id hm
    have hB := (Blk.one z3 o4).wide (lo' := d) (hi' := d + 16) (by omega) (by omega)
    have hbad : ¬ (okK k ∧ okI u.1.2.2.2.1 x ∧ okI u.1.2.2.2.1 y) := by (try simp only [Classical.not_not, bI_eq, bI_ne, ask_t, ask_f, kB_t, kB_f, cB_t, cB_f, lB_t, lB_f, iB_t, iB_f, pB_t, pB_f] at c8); simp [c8]
    refine lv_aload_n hx hb d_M_listed_19 rfl (lv_at hl 0 rfl) ?_
    refine rw_get hx hb hts in_M hown hK.1 m0 rfl 0 (by decide) (hts _ fl_M_61) rfl d_M_listed_20 ?_
    refine lv_if_eq (tgt := 28) hx hb d_M_listed_23 (by decide) (fun c23 => ?_) (fun c23 => ?_)
    · exact absurd c23 (by decide)
    · refine lv_iconst (v := 0) hx hb d_M_listed_26 (by decide) ?_
      exact re_i hQ hx hb hr hlk (rfl) (⟨Or.inr ⟨hbad, rfl, hm⟩, hB⟩) hL6 (Nat.le_of_ble_eq_true rfl) (Nat.le_of_ble_eq_true rfl) d_M_listed_27
  · refine lv_iconst (v := 0) hx hb d_M_listed_11 (by decide) ?_
    refine lv_goto (tgt := 16) hx hb d_M_listed_12 (by decide) ?_
    refine rw_put hx hb hts in_M ck_M ok_M nm_M hown hK.1 m0 rfl 0 (by decide) (hts _ fl_M_61) rfl (ok_M 0 (by decide)) rfl rfl (Nat.le_of_ble_eq_true rfl) (⟨Nat.le_refl _, by omega⟩) (A := inBk d (d + 16)) cNil d_M_listed_16 (fun H7 L8 z9 o10 hat11 hL12 => ?_)
    have hm := MW_th (th' := 0) hm hat11 o10
    obtain ⟨m0, m1, m2, m3, m4, m5, m6, m7, m8, m9, m10, m11, m12, m13, m14, m15, hxb, hv7⟩ := id hm
    have hB := (Blk.one z9 o10).wide (lo' := d) (hi' := d + 16) (by omega) (by omega)
    have hok : okK k ∧ okI u.1.2.2.2.1 x ∧ okI u.1.2.2.2.1 y := by (try simp only [Classical.not_not, bI_eq, bI_ne, ask_t, ask_f, kB_t, kB_f, cB_t, cB_f, lB_t, lB_f, iB_t, iB_f, pB_t, pB_f] at c8); simp [c8]
    obtain ⟨kk, h_kk, rfl⟩ := okK_ix (hok.1)
    obtain ⟨j, hn_j, h_j, rfl⟩ := okIdx hxb.2.2.1 (hok.2.1)
    obtain ⟨j2, hn_j2, h_j2, rfl⟩ := okIdx hxb.2.2.1 (hok.2.2)
    simp only [nn_nI (i := kk) (by omega), nn_nI (i := j) (by omega), nn_nI (i := j2) (by omega)] at hQ
    refine lv_aload_n hx hb d_M_listed_19 rfl (lv_at hl 0 rfl) ?_
    refine rw_get hx hb hts in_M hown hK.1 m0 rfl 0 (by decide) (hts _ fl_M_61) rfl d_M_listed_20 ?_
    refine lv_if_eq (tgt := 28) hx hb d_M_listed_23 (by decide) (fun c23 => ?_) (fun c23 => ?_)
    · refine lv_iconst (v := 0) hx hb d_M_listed_28 (by decide) ?_
      refine lv_istore (lv' := [(5, .int 0), (0, .ref d), (1, .int (nI kk)), (2, .int (nI j)), (3, .int (nI j2)), (4, .int z)]) hx hb d_M_listed_29 hl (by decide) rfl (fun ls hl => ?_)
      have LP : ∀ (n i : Nat) (ls : Array Slot), (∀ r, r < i → mtU u kk j j2 r = true → ¬ nI (cuF (anU u kk j j2 r) u.1.2.1) = z) → i ≤ u.1.2.1 → u.1.2.1 - i < n → lv_has ls 8 [(0, .ref d), (1, .int (nI kk)), (2, .int (nI j)), (3, .int (nI j2)), (4, .int z), (5, .int (nI i))] → W p l e rm_M_listed s m args below meth c H7 L8 0 0 QQ (F0 m 31 ls []) := by
        intro n
        induction n with
        | zero => intro i ls _ h2 h3; exact absurd h3 (by omega)
        | succ n ih =>
          intro i ls hinv hle hn hl
          refine lv_iload hx hb d_M_listed_31 (lv_at hl 5 rfl) ?_
          refine lv_aload_n hx hb d_M_listed_33 rfl (lv_at hl 0 rfl) ?_
          refine rw_get hx hb hts in_M hown hK.1 m0 rfl 2 (by decide) (hts _ fl_M_67) rfl d_M_listed_34 ?_
          refine lv_icmp_ge (tgt := 125) hx hb d_M_listed_37 (by decide) (fun c37 => ?_) (fun c37 => ?_)
          · refine lv_iconst (v := (-1)) hx hb d_M_listed_125 (by decide) ?_
            have ei9 : i = u.1.2.1 := Nat.le_antisymm hle (Nat.not_lt.mp (fun h => absurd c37 (nI_ge h (by omega))))
            exact re_i hQ hx hb hr hlk (rfl) (⟨Or.inl ⟨⟨okI_of (n := 6) (by decide) h_kk, okI_of (by omega) hn_j, okI_of (by omega) hn_j2⟩, by rw [ls_n hr40 (fun r hr hm9 => hinv r (by omega) hm9)], hm⟩, hB⟩) hL12 (Nat.le_of_ble_eq_true rfl) (Nat.le_of_ble_eq_true rfl) d_M_listed_126
          · have hlt : i < u.1.2.1 := Nat.not_le.mp (fun h => c37 (nI_le h (by omega)))
            have h40 : i < 40 := by omega
            refine lv_aload_n hx hb d_M_listed_40 rfl (lv_at hl 0 rfl) ?_
            refine lv_iload hx hb d_M_listed_41 (lv_at hl 5 rfl) ?_
            refine lv_iload_n hx hb d_M_listed_43 rfl (lv_at hl 1 rfl) ?_
            refine lv_iload_n hx hb d_M_listed_44 rfl (lv_at hl 2 rfl) ?_
            refine lv_iload_n hx hb d_M_listed_45 rfl (lv_at hl 3 rfl) ?_
            refine cl_i (W.runV (As := [.int (nI i), .int (nI kk), .int (nI j), .int (nI j2)]) (rest := []) S (c_M_matches hm (nI kk) (rfl) (rfl) (rfl) (h40) (h_j) (h_j2)) (cwV 4 hts gv_M_125 rfl rfl rfl (by decide +kernel) ⟨Nat.le_of_ble_eq_true rfl, Nat.le_of_ble_eq_true rfl⟩) (cP_V (KG_ok _) hK hK.1 m0 rfl) rfl rfl hl.1 rfl (lv_room (Nat.le_of_ble_eq_true rfl)) d_M_listed_46 ⟨Nat.le_of_ble_eq_true rfl, Nat.le_of_ble_eq_true rfl⟩) ?_
            refine lv_if_ne (tgt := 55) hx hb d_M_listed_49 (by decide) (fun c49 => ?_) (fun c49 => ?_)
            · refine lv_iconst (v := 0) hx hb d_M_listed_55 (by decide) ?_
              refine lv_istore (lv' := [(6, .int 0), (0, .ref d), (1, .int (nI kk)), (2, .int (nI j)), (3, .int (nI j2)), (4, .int z), (5, .int (nI i))]) hx hb d_M_listed_56 hl (by decide) rfl (fun ls hl => ?_)
              refine lv_iconst (v := 0) hx hb d_M_listed_58 (by decide) ?_
              refine lv_istore (lv' := [(7, .int 0), (6, .int 0), (0, .ref d), (1, .int (nI kk)), (2, .int (nI j)), (3, .int (nI j2)), (4, .int z), (5, .int (nI i))]) hx hb d_M_listed_59 hl (by decide) rfl (fun ls hl => ?_)
              have hmi : mtU u kk j j2 i = true := (bI_ne _).mp c49
              have LQ : ∀ (n2 q : Nat) (bs : Int32) (ls : Array Slot), bs = nI (cuF (anU u kk j j2 i) q) → q ≤ u.1.2.1 → u.1.2.1 - q < n2 → lv_has ls 8 [(0, .ref d), (1, .int (nI kk)), (2, .int (nI j)), (3, .int (nI j2)), (4, .int z), (5, .int (nI i)), (6, .int bs), (7, .int (nI q))] → W p l e rm_M_listed s m args below meth c H7 L8 0 0 QQ (F0 m 61 ls []) := by
                intro n2
                induction n2 with
                | zero => intro q bs ls _ h2 h3; exact absurd h3 (by omega)
                | succ n2 ih2 =>
                  intro q bs ls ebs hle2 hn2 hl
                  refine lv_iload hx hb d_M_listed_61 (lv_at hl 7 rfl) ?_
                  refine lv_aload_n hx hb d_M_listed_63 rfl (lv_at hl 0 rfl) ?_
                  refine rw_get hx hb hts in_M hown hK.1 m0 rfl 2 (by decide) (hts _ fl_M_67) rfl d_M_listed_64 ?_
                  refine lv_icmp_ge (tgt := 109) hx hb d_M_listed_67 (by decide) (fun c67 => ?_) (fun c67 => ?_)
                  · have eq9 : q = u.1.2.1 := Nat.le_antisymm hle2 (Nat.not_lt.mp (fun h => absurd c67 (nI_ge h (by omega))))
                    have ebs9 : bs = nI (cuF (anU u kk j j2 i) u.1.2.1) := by rw [ebs, eq9]
                    refine lv_iload hx hb d_M_listed_109 (lv_at hl 6 rfl) ?_
                    refine lv_iload hx hb d_M_listed_111 (lv_at hl 4 rfl) ?_
                    refine lv_icmp_ne (tgt := 119) hx hb d_M_listed_113 (by decide) (fun c113 => ?_) (fun c113 => ?_)
                    · refine lv_iinc (v := (nI (i + 1))) (lv' := [(5, .int (nI (i + 1))), (0, .ref d), (1, .int (nI kk)), (2, .int (nI j)), (3, .int (nI j2)), (4, .int z), (6, .int bs), (7, .int (nI q))]) hx hb d_M_listed_119 hl (k := 5) rfl ((nI_1 i)) (by decide) rfl (fun ls hl => ?_)
                      refine lv_goto (tgt := 31) hx hb d_M_listed_122 (by decide) ?_
                      exact ih (i + 1) ls (fun r hr hm9 => by
                          by_cases e : r = i
                          · subst e; exact fun h => c113 (ebs9.trans h)
                          · exact hinv r (by omega) hm9) (by omega) (by omega) (lv_sub hl [1, 2, 3, 4, 5, 0] rfl)
                    · refine lv_iload hx hb d_M_listed_116 (lv_at hl 5 rfl) ?_
                      exact re_i hQ hx hb hr hlk (rfl) (⟨Or.inl ⟨⟨okI_of (n := 6) (by decide) h_kk, okI_of (by omega) hn_j, okI_of (by omega) hn_j2⟩, by rw [ls_y hr40 hlt hmi (ebs9.symm.trans c113)], hm⟩, hB⟩) hL12 (Nat.le_of_ble_eq_true rfl) (Nat.le_of_ble_eq_true rfl) d_M_listed_118
                  · have hltq : q < u.1.2.1 := Nat.not_le.mp (fun h => c67 (nI_le h (by omega)))
                    have hq40 : q < 40 := by omega
                    refine lv_iload hx hb d_M_listed_70 (lv_at hl 6 rfl) ?_
                    refine lv_aload_n hx hb d_M_listed_72 rfl (lv_at hl 0 rfl) ?_
                    refine lv_iload hx hb d_M_listed_73 (lv_at hl 7 rfl) ?_
                    refine lv_iload_n hx hb d_M_listed_75 rfl (lv_at hl 1 rfl) ?_
                    refine lv_iload_n hx hb d_M_listed_76 rfl (lv_at hl 2 rfl) ?_
                    refine lv_iload_n hx hb d_M_listed_77 rfl (lv_at hl 3 rfl) ?_
                    refine cl_i (W.runV (As := [.int (nI q), .int (nI kk), .int (nI j), .int (nI j2)]) (rest := [.int bs]) S (c_M_matches hm (nI kk) (rfl) (rfl) (rfl) (hq40) (h_j) (h_j2)) (cwV 4 hts gv_M_125 rfl rfl rfl (by decide +kernel) ⟨Nat.le_of_ble_eq_true rfl, Nat.le_of_ble_eq_true rfl⟩) (cP_V (KG_ok _) hK hK.1 m0 rfl) rfl rfl hl.1 rfl (lv_room (Nat.le_of_ble_eq_true rfl)) d_M_listed_78 ⟨Nat.le_of_ble_eq_true rfl, Nat.le_of_ble_eq_true rfl⟩) ?_
                    refine lv_if_eq (tgt := 99) hx hb d_M_listed_81 (by decide) (fun c81 => ?_) (fun c81 => ?_)
                    · refine lv_iconst (v := 0) hx hb d_M_listed_99 (by decide) ?_
                      refine lv_iadd hx hb d_M_listed_100 ?_
                      refine lv_istore (lv' := [(6, .int (bs + 0)), (0, .ref d), (1, .int (nI kk)), (2, .int (nI j)), (3, .int (nI j2)), (4, .int z), (5, .int (nI i)), (7, .int (nI q))]) hx hb d_M_listed_101 hl (by decide) rfl (fun ls hl => ?_)
                      refine lv_iinc (v := (nI (q + 1))) (lv' := [(7, .int (nI (q + 1))), (6, .int (bs + 0)), (0, .ref d), (1, .int (nI kk)), (2, .int (nI j)), (3, .int (nI j2)), (4, .int z), (5, .int (nI i))]) hx hb d_M_listed_103 hl (k := 7) rfl ((nI_1 q)) (by decide) rfl (fun ls hl => ?_)
                      refine lv_goto (tgt := 61) hx hb d_M_listed_106 (by decide) ?_
                      exact ih2 (q + 1) _ ls (by rw [cu_n (show anU u kk j j2 i q = false by unfold anU; rw [show mtU u kk j j2 q = false from (bI_eq _).mp c81]; rfl), ebs]; simp) (by omega) (by omega) (lv_sub hl [2, 3, 4, 5, 6, 7, 1, 0] rfl)
                    · refine lv_aload_n hx hb d_M_listed_84 rfl (lv_at hl 0 rfl) ?_
                      refine lv_iload hx hb d_M_listed_85 (lv_at hl 7 rfl) ?_
                      refine lv_iload hx hb d_M_listed_87 (lv_at hl 5 rfl) ?_
                      refine cl_i (W.runV (As := [.int (nI q), .int (nI i)]) (rest := [.int bs]) S (c_M_isAhead hm (rfl) (rfl) (hq40) (h40)) (cwV 2 hts gv_M_129 rfl rfl rfl (by decide +kernel) ⟨Nat.le_of_ble_eq_true rfl, Nat.le_of_ble_eq_true rfl⟩) (cP_V (KG_ok _) hK hK.1 m0 rfl) rfl rfl hl.1 rfl (lv_room (Nat.le_of_ble_eq_true rfl)) d_M_listed_89 ⟨Nat.le_of_ble_eq_true rfl, Nat.le_of_ble_eq_true rfl⟩) ?_
                      refine lv_if_eq (tgt := 99) hx hb d_M_listed_92 (by decide) (fun c92 => ?_) (fun c92 => ?_)
                      · refine lv_iconst (v := 0) hx hb d_M_listed_99 (by decide) ?_
                        refine lv_iadd hx hb d_M_listed_100 ?_
                        refine lv_istore (lv' := [(6, .int (bs + 0)), (0, .ref d), (1, .int (nI kk)), (2, .int (nI j)), (3, .int (nI j2)), (4, .int z), (5, .int (nI i)), (7, .int (nI q))]) hx hb d_M_listed_101 hl (by decide) rfl (fun ls hl => ?_)
                        refine lv_iinc (v := (nI (q + 1))) (lv' := [(7, .int (nI (q + 1))), (6, .int (bs + 0)), (0, .ref d), (1, .int (nI kk)), (2, .int (nI j)), (3, .int (nI j2)), (4, .int z), (5, .int (nI i))]) hx hb d_M_listed_103 hl (k := 7) rfl ((nI_1 q)) (by decide) rfl (fun ls hl => ?_)
                        refine lv_goto (tgt := 61) hx hb d_M_listed_106 (by decide) ?_
                        exact ih2 (q + 1) _ ls (by rw [cu_n (show anU u kk j j2 i q = false by unfold anU; rw [(bI_eq _).mp c92, Bool.and_false]), ebs]; simp) (by omega) (by omega) (lv_sub hl [2, 3, 4, 5, 6, 7, 1, 0] rfl)
                      · refine lv_iconst (v := 1) hx hb d_M_listed_95 (by decide) ?_
                        refine lv_goto (tgt := 100) hx hb d_M_listed_96 (by decide) ?_
                        refine lv_iadd hx hb d_M_listed_100 ?_
                        refine lv_istore (lv' := [(6, .int (bs + 1)), (0, .ref d), (1, .int (nI kk)), (2, .int (nI j)), (3, .int (nI j2)), (4, .int z), (5, .int (nI i)), (7, .int (nI q))]) hx hb d_M_listed_101 hl (by decide) rfl (fun ls hl => ?_)
                        refine lv_iinc (v := (nI (q + 1))) (lv' := [(7, .int (nI (q + 1))), (6, .int (bs + 1)), (0, .ref d), (1, .int (nI kk)), (2, .int (nI j)), (3, .int (nI j2)), (4, .int z), (5, .int (nI i))]) hx hb d_M_listed_103 hl (k := 7) rfl ((nI_1 q)) (by decide) rfl (fun ls hl => ?_)
                        refine lv_goto (tgt := 61) hx hb d_M_listed_106 (by decide) ?_
                        exact ih2 (q + 1) _ ls (by rw [cu_y (show anU u kk j j2 i q = true by unfold anU; rw [show mtU u kk j j2 q = true from (bI_ne _).mp c81, (bI_ne _).mp c92]; rfl), ebs]; exact nI_1 _) (by omega) (by omega) (lv_sub hl [2, 3, 4, 5, 6, 7, 1, 0] rfl)
              exact LQ _ 0 _ ls rfl (Nat.zero_le _) (Nat.lt_succ_self _) (lv_sub hl [2, 3, 4, 5, 6, 7, 1, 0] rfl)
            · refine lv_goto (tgt := 119) hx hb d_M_listed_52 (by decide) ?_
              refine lv_iinc (v := (nI (i + 1))) (lv' := [(5, .int (nI (i + 1))), (0, .ref d), (1, .int (nI kk)), (2, .int (nI j)), (3, .int (nI j2)), (4, .int z)]) hx hb d_M_listed_119 hl (k := 5) rfl ((nI_1 i)) (by decide) rfl (fun ls hl => ?_)
              refine lv_goto (tgt := 31) hx hb d_M_listed_122 (by decide) ?_
              exact ih (i + 1) ls (fun r hr hm9 => by
                  by_cases e : r = i
                  · subst e; rw [show mtU u kk j j2 r = false from (bI_eq _).mp c49] at hm9; cases hm9
                  · exact hinv r (by omega) hm9) (by omega) (by omega) (lv_sub hl [1, 2, 3, 4, 5, 0] rfl)
      exact LP _ 0 ls (fun r hr => absurd hr (Nat.not_lt_zero _)) (Nat.zero_le _) (Nat.lt_succ_self _) (lv_sub hl [1, 2, 3, 4, 5, 0] rfl)
    · exact absurd c23 (by decide)
def rm_M_why : Room := { frames := 4, cells := 0, slots := 0, locals := 95 }
set_option maxRecDepth 100000 in
set_option maxHeartbeats 4000000 in
theorem c_M_why {l : Launch} {ev : EV} {H0 : Heap} {d : Nat} {th : Int32} {u : XS} {kp : KT} {v : PT} (hm : MW ev d th u kp v H0) (k x y z : Int32) : Met l my_M_why mw_M_why rm_M_why (cP [.ref d, .int k, .int x, .int y, .int z] (KG ev) H0) (cQe (fun r H1 => (((okK k ∧ okI u.1.2.2.2.1 x ∧ okI u.1.2.2.2.1 y) ∧ okI u.1.2.1 z) ∧ r = .int (whyF u (nn k) (nn x) (nn y) (nn z)) ∧ MW ev d 0 u kp v H1 ∨ (¬ ((okK k ∧ okI u.1.2.2.2.1 x ∧ okI u.1.2.2.2.1 y) ∧ okI u.1.2.1 z)) ∧ r = .int 0 ∧ MW ev d 1 u kp v H1) ∧ Blk d (d + 16) H0 H1)) 0 0 (inBk d (d + 16)) := by
  refine cHead [.ref d, .int k, .int x, .int y, .int z] (by decide) rfl (Nat.le_of_ble_eq_true rfl) ?_
  intro p e s m below meth c ls args QQ hQ S hr hlk hnm hs hK hl
  have S : CallFix p m c mb_M_why 6 s args TB "RuleChoiceModel" := S
  obtain ⟨hx, hb, hml, hown, hts⟩ := id S
  obtain ⟨m0, m1, m2, m3, m4, m5, m6, m7, m8, m9, m10, m11, m12, m13, m14, m15, hxb, hv7⟩ := id hm
  have hr40 : u.1.2.1 ≤ 40 := hxb.1
  have ha12 : u.1.2.2.1 ≤ 12 := hxb.2.1
  have ht40 : u.1.2.2.2.1 ≤ 40 := hxb.2.2.1
  have hl : lv_has ls 6 [(0, .ref d), (1, .int k), (2, .int x), (3, .int y), (4, .int z)] := hl
  refine lv_aload_n hx hb d_M_why_0 rfl (lv_at hl 0 rfl) ?_
  refine lv_aload_n hx hb d_M_why_1 rfl (lv_at hl 0 rfl) ?_
  refine lv_iload_n hx hb d_M_why_2 rfl (lv_at hl 1 rfl) ?_
  refine lv_iload_n hx hb d_M_why_3 rfl (lv_at hl 2 rfl) ?_
  refine lv_iload_n hx hb d_M_why_4 rfl (lv_at hl 3 rfl) ?_
  refine cl_i (W.runV (As := [.int k, .int x, .int y]) (rest := [.ref d]) S (c_M_isAsked m0 k x y) (cwV 3 hts gv_M_136 rfl rfl rfl (by decide +kernel) ⟨Nat.le_of_ble_eq_true rfl, Nat.le_of_ble_eq_true rfl⟩) (cP_V (KG_ok _) hK hK.1 m0 rfl) rfl rfl hl.1 rfl (lv_room (Nat.le_of_ble_eq_true rfl)) d_M_why_5 ⟨Nat.le_of_ble_eq_true rfl, Nat.le_of_ble_eq_true rfl⟩) ?_
  refine lv_if_eq (tgt := 24) hx hb d_M_why_8 (by decide) (fun c8 => ?_) (fun c8 => ?_)
  · refine lv_iconst (v := 1) hx hb d_M_why_24 (by decide) ?_
    refine rw_put hx hb hts in_M ck_M ok_M nm_M hown hK.1 m0 rfl 0 (by decide) (hts _ fl_M_61) rfl (ok_M 0 (by decide)) rfl rfl (Nat.le_of_ble_eq_true rfl) (⟨Nat.le_refl _, by omega⟩) (A := inBk d (d + 16)) cNil d_M_why_25 (fun H1 L2 z3 o4 hat5 hL6 => ?_)
    have hm := MW_th (th' := 1) hm hat5 o4
    obtain ⟨m0, m1, m2, m3, m4, m5, m6, m7, m8, m9, m10, m11, m12, m13, m14, m15, hxb, hv7⟩ := id hm
    have hB := (Blk.one z3 o4).wide (lo' := d) (hi' := d + 16) (by omega) (by omega)
    have hbad : ¬ ((okK k ∧ okI u.1.2.2.2.1 x ∧ okI u.1.2.2.2.1 y) ∧ okI u.1.2.1 z) := by (try simp only [Classical.not_not, bI_eq, bI_ne, ask_t, ask_f, kB_t, kB_f, cB_t, cB_f, lB_t, lB_f, iB_t, iB_f, pB_t, pB_f] at c8); simp [c8]
    refine lv_aload_n hx hb d_M_why_28 rfl (lv_at hl 0 rfl) ?_
    refine rw_get hx hb hts in_M hown hK.1 m0 rfl 0 (by decide) (hts _ fl_M_61) rfl d_M_why_29 ?_
    refine lv_if_eq (tgt := 37) hx hb d_M_why_32 (by decide) (fun c32 => ?_) (fun c32 => ?_)
    · exact absurd c32 (by decide)
    · refine lv_iconst (v := 0) hx hb d_M_why_35 (by decide) ?_
      exact re_i hQ hx hb hr hlk (rfl) (⟨Or.inr ⟨hbad, rfl, hm⟩, hB⟩) hL6 (Nat.le_of_ble_eq_true rfl) (Nat.le_of_ble_eq_true rfl) d_M_why_36
  · refine lv_aload_n hx hb d_M_why_11 rfl (lv_at hl 0 rfl) ?_
    refine lv_iload hx hb d_M_why_12 (lv_at hl 4 rfl) ?_
    refine cl_i (W.runV (As := [.int z]) (rest := [.ref d]) S (c_M_isRule m0 z) (cwV 1 hts gv_M_88 rfl rfl rfl (by decide +kernel) ⟨Nat.le_of_ble_eq_true rfl, Nat.le_of_ble_eq_true rfl⟩) (cP_V (KG_ok _) hK hK.1 m0 rfl) rfl rfl hl.1 rfl (lv_room (Nat.le_of_ble_eq_true rfl)) d_M_why_14 ⟨Nat.le_of_ble_eq_true rfl, Nat.le_of_ble_eq_true rfl⟩) ?_
    refine lv_if_eq (tgt := 24) hx hb d_M_why_17 (by decide) (fun c17 => ?_) (fun c17 => ?_)
    · refine lv_iconst (v := 1) hx hb d_M_why_24 (by decide) ?_
      refine rw_put hx hb hts in_M ck_M ok_M nm_M hown hK.1 m0 rfl 0 (by decide) (hts _ fl_M_61) rfl (ok_M 0 (by decide)) rfl rfl (Nat.le_of_ble_eq_true rfl) (⟨Nat.le_refl _, by omega⟩) (A := inBk d (d + 16)) cNil d_M_why_25 (fun H7 L8 z9 o10 hat11 hL12 => ?_)
      have hm := MW_th (th' := 1) hm hat11 o10
      obtain ⟨m0, m1, m2, m3, m4, m5, m6, m7, m8, m9, m10, m11, m12, m13, m14, m15, hxb, hv7⟩ := id hm
      have hB := (Blk.one z9 o10).wide (lo' := d) (hi' := d + 16) (by omega) (by omega)
      have hbad : ¬ ((okK k ∧ okI u.1.2.2.2.1 x ∧ okI u.1.2.2.2.1 y) ∧ okI u.1.2.1 z) := by (try simp only [Classical.not_not, bI_eq, bI_ne, ask_t, ask_f, kB_t, kB_f, cB_t, cB_f, lB_t, lB_f, iB_t, iB_f, pB_t, pB_f] at c8 c17); simp [c8, c17]
      refine lv_aload_n hx hb d_M_why_28 rfl (lv_at hl 0 rfl) ?_
      refine rw_get hx hb hts in_M hown hK.1 m0 rfl 0 (by decide) (hts _ fl_M_61) rfl d_M_why_29 ?_
      refine lv_if_eq (tgt := 37) hx hb d_M_why_32 (by decide) (fun c32 => ?_) (fun c32 => ?_)
      · exact absurd c32 (by decide)
      · refine lv_iconst (v := 0) hx hb d_M_why_35 (by decide) ?_
        exact re_i hQ hx hb hr hlk (rfl) (⟨Or.inr ⟨hbad, rfl, hm⟩, hB⟩) hL12 (Nat.le_of_ble_eq_true rfl) (Nat.le_of_ble_eq_true rfl) d_M_why_36
    · refine lv_iconst (v := 0) hx hb d_M_why_20 (by decide) ?_
      refine lv_goto (tgt := 25) hx hb d_M_why_21 (by decide) ?_
      refine rw_put hx hb hts in_M ck_M ok_M nm_M hown hK.1 m0 rfl 0 (by decide) (hts _ fl_M_61) rfl (ok_M 0 (by decide)) rfl rfl (Nat.le_of_ble_eq_true rfl) (⟨Nat.le_refl _, by omega⟩) (A := inBk d (d + 16)) cNil d_M_why_25 (fun H13 L14 z15 o16 hat17 hL18 => ?_)
      have hm := MW_th (th' := 0) hm hat17 o16
      obtain ⟨m0, m1, m2, m3, m4, m5, m6, m7, m8, m9, m10, m11, m12, m13, m14, m15, hxb, hv7⟩ := id hm
      have hB := (Blk.one z15 o16).wide (lo' := d) (hi' := d + 16) (by omega) (by omega)
      have hok : (okK k ∧ okI u.1.2.2.2.1 x ∧ okI u.1.2.2.2.1 y) ∧ okI u.1.2.1 z := by (try simp only [Classical.not_not, bI_eq, bI_ne, ask_t, ask_f, kB_t, kB_f, cB_t, cB_f, lB_t, lB_f, iB_t, iB_f, pB_t, pB_f] at c8 c17); simp [c8, c17]
      obtain ⟨kk, h_kk, rfl⟩ := okK_ix (hok.1.1)
      obtain ⟨j, hn_j, h_j, rfl⟩ := okIdx hxb.2.2.1 (hok.1.2.1)
      obtain ⟨j2, hn_j2, h_j2, rfl⟩ := okIdx hxb.2.2.1 (hok.1.2.2)
      obtain ⟨i, hn_i, h_i, rfl⟩ := okIdx hxb.1 (hok.2)
      simp only [nn_nI (i := kk) (by omega), nn_nI (i := j) (by omega), nn_nI (i := j2) (by omega), nn_nI (i := i) (by omega)] at hQ
      refine lv_aload_n hx hb d_M_why_28 rfl (lv_at hl 0 rfl) ?_
      refine rw_get hx hb hts in_M hown hK.1 m0 rfl 0 (by decide) (hts _ fl_M_61) rfl d_M_why_29 ?_
      refine lv_if_eq (tgt := 37) hx hb d_M_why_32 (by decide) (fun c32 => ?_) (fun c32 => ?_)
      · refine lv_aload_n hx hb d_M_why_37 rfl (lv_at hl 0 rfl) ?_
        refine rw_get hx hb hts in_M hown hK.1 m0 rfl 3 (by decide) (hts _ fl_M_7) rfl d_M_why_38 ?_
        refine lv_iload hx hb d_M_why_41 (lv_at hl 4 rfl) ?_
        refine rw_iald hx hb hK.1 0 m1 rfl i (rfl) (h_i) (by decide) d_M_why_43 ?_
        refine lv_iload_n hx hb d_M_why_44 rfl (lv_at hl 1 rfl) ?_
        refine lv_icmp_eq (tgt := 50) hx hb d_M_why_45 (by decide) (fun c45 => ?_) (fun c45 => ?_)
        · refine lv_aload_n hx hb d_M_why_50 rfl (lv_at hl 0 rfl) ?_
          refine lv_iload hx hb d_M_why_51 (lv_at hl 4 rfl) ?_
          refine lv_iload_n hx hb d_M_why_53 rfl (lv_at hl 2 rfl) ?_
          refine lv_iload_n hx hb d_M_why_54 rfl (lv_at hl 3 rfl) ?_
          refine cl_i (W.runV (As := [.int (nI i), .int (nI j), .int (nI j2)]) (rest := []) S (c_M_haveClasses hm (rfl) (rfl) (rfl) (h_i) (h_j) (h_j2)) (cwV 3 hts gv_M_115 rfl rfl rfl (by decide +kernel) ⟨Nat.le_of_ble_eq_true rfl, Nat.le_of_ble_eq_true rfl⟩) (cP_V (KG_ok _) hK hK.1 m0 rfl) rfl rfl hl.1 rfl (lv_room (Nat.le_of_ble_eq_true rfl)) d_M_why_55 ⟨Nat.le_of_ble_eq_true rfl, Nat.le_of_ble_eq_true rfl⟩) ?_
          refine lv_if_ne (tgt := 63) hx hb d_M_why_58 (by decide) (fun c58 => ?_) (fun c58 => ?_)
          · refine lv_aload_n hx hb d_M_why_63 rfl (lv_at hl 0 rfl) ?_
            refine lv_iload hx hb d_M_why_64 (lv_at hl 4 rfl) ?_
            refine lv_iload_n hx hb d_M_why_66 rfl (lv_at hl 2 rfl) ?_
            refine lv_iload_n hx hb d_M_why_67 rfl (lv_at hl 3 rfl) ?_
            refine cl_i (W.runV (As := [.int (nI i), .int (nI j), .int (nI j2)]) (rest := []) S (c_M_haveLayer hm (rfl) (rfl) (rfl) (h_i) (h_j) (h_j2)) (cwV 3 hts gv_M_119 rfl rfl rfl (by decide +kernel) ⟨Nat.le_of_ble_eq_true rfl, Nat.le_of_ble_eq_true rfl⟩) (cP_V (KG_ok _) hK hK.1 m0 rfl) rfl rfl hl.1 rfl (lv_room (Nat.le_of_ble_eq_true rfl)) d_M_why_68 ⟨Nat.le_of_ble_eq_true rfl, Nat.le_of_ble_eq_true rfl⟩) ?_
            refine lv_if_ne (tgt := 76) hx hb d_M_why_71 (by decide) (fun c71 => ?_) (fun c71 => ?_)
            · refine lv_aload_n hx hb d_M_why_76 rfl (lv_at hl 0 rfl) ?_
              refine lv_iload hx hb d_M_why_77 (lv_at hl 4 rfl) ?_
              refine lv_iload_n hx hb d_M_why_79 rfl (lv_at hl 2 rfl) ?_
              refine lv_iload_n hx hb d_M_why_80 rfl (lv_at hl 3 rfl) ?_
              refine cl_i (W.runV (As := [.int (nI i), .int (nI j), .int (nI j2)]) (rest := []) S (c_M_lieWithin hm (rfl) (rfl) (rfl) (h_i) (h_j) (h_j2)) (cwV 3 hts gv_M_122 rfl rfl rfl (by decide +kernel) ⟨Nat.le_of_ble_eq_true rfl, Nat.le_of_ble_eq_true rfl⟩) (cP_V (KG_ok _) hK hK.1 m0 rfl) rfl rfl hl.1 rfl (lv_room (Nat.le_of_ble_eq_true rfl)) d_M_why_81 ⟨Nat.le_of_ble_eq_true rfl, Nat.le_of_ble_eq_true rfl⟩) ?_
              refine lv_if_ne (tgt := 89) hx hb d_M_why_84 (by decide) (fun c84 => ?_) (fun c84 => ?_)
              · simp only [bI_eq, bI_ne, Bool.not_eq_false] at c58 c71 c84
                have h0 : hindF u.2.2.1 (u.2.1 i) (nI kk) (u.2.2.2 j) (u.2.2.2 j2) = 0 := by simp [hindF, c45, c58, c71, c84]
                obtain ⟨b9, gb⟩ := bes_ex hn_i ((hind_mat _ _ _ _ _).mp h0)
                have hb9 : b9 < 40 := besF_40 hr40 b9 gb
                have gb2 : oI (besU u kk j j2) = nI b9 := by rw [gb]; rfl
                refine lv_aload_n hx hb d_M_why_89 rfl (lv_at hl 0 rfl) ?_
                refine lv_iload_n hx hb d_M_why_90 rfl (lv_at hl 1 rfl) ?_
                refine lv_iload_n hx hb d_M_why_91 rfl (lv_at hl 2 rfl) ?_
                refine lv_iload_n hx hb d_M_why_92 rfl (lv_at hl 3 rfl) ?_
                refine cl_i (W.runV (As := [.int (nI kk), .int (nI j), .int (nI j2)]) (rest := []) S (c_M_best hm (nI kk) (rfl) (rfl) (h_j) (h_j2)) (cwV 3 hts gv_M_143 rfl rfl rfl (by decide +kernel) ⟨Nat.le_of_ble_eq_true rfl, Nat.le_of_ble_eq_true rfl⟩) (cP_V (KG_ok _) hK hK.1 m0 rfl) rfl rfl hl.1 rfl (lv_room (Nat.le_of_ble_eq_true rfl)) d_M_why_93 ⟨Nat.le_of_ble_eq_true rfl, Nat.le_of_ble_eq_true rfl⟩) ?_
                refine lv_istore (lv' := [(5, .int (oI (besF u.2.1 u.2.2.1 none (nI kk) (u.2.2.2 j) (u.2.2.2 j2) u.1.2.1))), (0, .ref d), (1, .int (nI kk)), (2, .int (nI j)), (3, .int (nI j2)), (4, .int (nI i))]) hx hb d_M_why_96 hl (by decide) rfl (fun ls hl => ?_)
                refine lv_iload hx hb d_M_why_98 (lv_at hl 0 rfl) ?_
                refine lv_iload hx hb d_M_why_100 (lv_at hl 5 rfl) ?_
                refine lv_icmp_ne (tgt := 107) hx hb d_M_why_102 (by decide) (fun c102 => ?_) (fun c102 => ?_)
                · refine lv_aload_n hx hb d_M_why_107 rfl (lv_at hl 1 rfl) ?_
                  refine rw_get hx hb hts in_M hown hK.1 m0 rfl 8 (by decide) (hts _ fl_M_26) rfl d_M_why_108 ?_
                  refine lv_iload hx hb d_M_why_111 (lv_at hl 5 rfl) ?_
                  refine rw_iald hx hb hK.1 0 m6 rfl i (rfl) (h_i) (by decide) d_M_why_113 ?_
                  refine lv_aload_n hx hb d_M_why_114 rfl (lv_at hl 1 rfl) ?_
                  refine rw_get hx hb hts in_M hown hK.1 m0 rfl 8 (by decide) (hts _ fl_M_26) rfl d_M_why_115 ?_
                  refine lv_iload hx hb d_M_why_118 (lv_at hl 0 rfl) ?_
                  refine rw_iald hx hb hK.1 0 m6 rfl b9 (gb2) (hb9) (by decide) d_M_why_120 ?_
                  refine lv_icmp_ge (tgt := 128) hx hb d_M_why_121 (by decide) (fun c121 => ?_) (fun c121 => ?_)
                  · refine lv_bipush (v := 6) hx hb d_M_why_128 (by decide) ?_
                    have e7 : ¬ b9 = i := fun q => c102 (gb2.trans (by rw [q]))
                    exact re_i hQ hx hb hr hlk (rfl) (⟨Or.inl ⟨⟨⟨okI_of (n := 6) (by decide) h_kk, okI_of (by omega) hn_j, okI_of (by omega) hn_j2⟩, okI_of (by omega) hn_i⟩, by unfold whyF; rw [if_pos h0, gb]; simp [e7, c121, Int32.not_lt.mpr c121], hm⟩, hB⟩) hL18 (Nat.le_of_ble_eq_true rfl) (Nat.le_of_ble_eq_true rfl) d_M_why_130
                  · refine lv_iconst (v := 5) hx hb d_M_why_124 (by decide) ?_
                    refine lv_goto (tgt := 130) hx hb d_M_why_125 (by decide) ?_
                    have e7 : ¬ b9 = i := fun q => c102 (gb2.trans (by rw [q]))
                    exact re_i hQ hx hb hr hlk (rfl) (⟨Or.inl ⟨⟨⟨okI_of (n := 6) (by decide) h_kk, okI_of (by omega) hn_j, okI_of (by omega) hn_j2⟩, okI_of (by omega) hn_i⟩, by unfold whyF; rw [if_pos h0, gb]; simp [e7, c121, Int32.not_le.mp c121], hm⟩, hB⟩) hL18 (Nat.le_of_ble_eq_true rfl) (Nat.le_of_ble_eq_true rfl) d_M_why_130
                · refine lv_iconst (v := 0) hx hb d_M_why_105 (by decide) ?_
                  have e7 : b9 = i := (nI_eq (by omega) (by omega)).mp (gb2.symm.trans c102)
                  exact re_i hQ hx hb hr hlk (rfl) (⟨Or.inl ⟨⟨⟨okI_of (n := 6) (by decide) h_kk, okI_of (by omega) hn_j, okI_of (by omega) hn_j2⟩, okI_of (by omega) hn_i⟩, by unfold whyF; rw [if_pos h0, gb]; simp [e7], hm⟩, hB⟩) hL18 (Nat.le_of_ble_eq_true rfl) (Nat.le_of_ble_eq_true rfl) d_M_why_106
              · refine lv_iconst (v := 4) hx hb d_M_why_87 (by decide) ?_
                (try simp only [bI_eq, bI_ne, Bool.not_eq_false] at c58 c71 c84)
                have h0 : hindF u.2.2.1 (u.2.1 i) (nI kk) (u.2.2.2 j) (u.2.2.2 j2) = 4 := by simp [hindF, c45, c58, c71, c84]
                exact re_i hQ hx hb hr hlk (rfl) (⟨Or.inl ⟨⟨⟨okI_of (n := 6) (by decide) h_kk, okI_of (by omega) hn_j, okI_of (by omega) hn_j2⟩, okI_of (by omega) hn_i⟩, by unfold whyF; rw [h0, if_neg (by decide)], hm⟩, hB⟩) hL18 (Nat.le_of_ble_eq_true rfl) (Nat.le_of_ble_eq_true rfl) d_M_why_88
            · refine lv_iconst (v := 3) hx hb d_M_why_74 (by decide) ?_
              (try simp only [bI_eq, bI_ne, Bool.not_eq_false] at c58 c71)
              have h0 : hindF u.2.2.1 (u.2.1 i) (nI kk) (u.2.2.2 j) (u.2.2.2 j2) = 3 := by simp [hindF, c45, c58, c71]
              exact re_i hQ hx hb hr hlk (rfl) (⟨Or.inl ⟨⟨⟨okI_of (n := 6) (by decide) h_kk, okI_of (by omega) hn_j, okI_of (by omega) hn_j2⟩, okI_of (by omega) hn_i⟩, by unfold whyF; rw [h0, if_neg (by decide)], hm⟩, hB⟩) hL18 (Nat.le_of_ble_eq_true rfl) (Nat.le_of_ble_eq_true rfl) d_M_why_75
          · refine lv_iconst (v := 2) hx hb d_M_why_61 (by decide) ?_
            (try simp only [bI_eq, bI_ne, Bool.not_eq_false] at c58)
            have h0 : hindF u.2.2.1 (u.2.1 i) (nI kk) (u.2.2.2 j) (u.2.2.2 j2) = 2 := by simp [hindF, c45, c58]
            exact re_i hQ hx hb hr hlk (rfl) (⟨Or.inl ⟨⟨⟨okI_of (n := 6) (by decide) h_kk, okI_of (by omega) hn_j, okI_of (by omega) hn_j2⟩, okI_of (by omega) hn_i⟩, by unfold whyF; rw [h0, if_neg (by decide)], hm⟩, hB⟩) hL18 (Nat.le_of_ble_eq_true rfl) (Nat.le_of_ble_eq_true rfl) d_M_why_62
        · refine lv_iconst (v := 1) hx hb d_M_why_48 (by decide) ?_
          skip
          have h0 : hindF u.2.2.1 (u.2.1 i) (nI kk) (u.2.2.2 j) (u.2.2.2 j2) = 1 := by simp [hindF, c45]
          exact re_i hQ hx hb hr hlk (rfl) (⟨Or.inl ⟨⟨⟨okI_of (n := 6) (by decide) h_kk, okI_of (by omega) hn_j, okI_of (by omega) hn_j2⟩, okI_of (by omega) hn_i⟩, by unfold whyF; rw [h0, if_neg (by decide)], hm⟩, hB⟩) hL18 (Nat.le_of_ble_eq_true rfl) (Nat.le_of_ble_eq_true rfl) d_M_why_49
      · exact absurd c32 (by decide)
def rm_M_greatest : Room := { frames := 1, cells := 0, slots := 0, locals := 21 }
set_option maxRecDepth 100000 in
set_option maxHeartbeats 4000000 in
theorem c_M_greatest {l : Launch} {ev : EV} {H0 : Heap} {d : Nat} {th : Int32} {u : XS} {kp : KT} {v : PT} (hm : MW ev d th u kp v H0) (k la : Int32) : Met l my_M_greatest mw_M_greatest rm_M_greatest (cP [.ref d, .int k, .int la] (KG ev) H0) (cQe (fun r H1 => ((okK k ∧ okL la) ∧ r = .long (grtF u k la u.1.2.1) ∧ MW ev d 0 u kp v H1 ∨ (¬ (okK k ∧ okL la)) ∧ r = .long 0 ∧ MW ev d 1 u kp v H1) ∧ Blk d (d + 16) H0 H1)) 0 0 (inBk d (d + 16)) := by
  refine cHead [.ref d, .int k, .int la] (by decide) rfl (Nat.le_of_ble_eq_true rfl) ?_
  intro p e s m below meth c ls args QQ hQ S hr hlk hnm hs hK hl
  have S : CallFix p m c mb_M_greatest 6 s args TB "RuleChoiceModel" := S
  obtain ⟨hx, hb, hml, hown, hts⟩ := id S
  obtain ⟨m0, m1, m2, m3, m4, m5, m6, m7, m8, m9, m10, m11, m12, m13, m14, m15, hxb, hv7⟩ := id hm
  have hr40 : u.1.2.1 ≤ 40 := hxb.1
  have ha12 : u.1.2.2.1 ≤ 12 := hxb.2.1
  have ht40 : u.1.2.2.2.1 ≤ 40 := hxb.2.2.1
  have hl : lv_has ls 6 [(0, .ref d), (1, .int k), (2, .int la)] := hl
  refine lv_aload_n hx hb d_M_greatest_0 rfl (lv_at hl 0 rfl) ?_
  refine lv_iload_n hx hb d_M_greatest_1 rfl (lv_at hl 1 rfl) ?_
  refine cl_i (W.runS (As := [.int k]) (rest := [.ref d]) S (c_M_isKind k) (va_cwS 1 hts gs_M_74 rfl rfl rfl (by decide +kernel) ⟨Nat.le_of_ble_eq_true rfl, Nat.le_of_ble_eq_true rfl⟩) (cP_S (KG_ok _) hK) rfl rfl hl.1 rfl (lv_room (Nat.le_of_ble_eq_true rfl)) d_M_greatest_2 ⟨Nat.le_of_ble_eq_true rfl, Nat.le_of_ble_eq_true rfl⟩) ?_
  refine lv_if_eq (tgt := 19) hx hb d_M_greatest_5 (by decide) (fun c5 => ?_) (fun c5 => ?_)
  · refine lv_iconst (v := 1) hx hb d_M_greatest_19 (by decide) ?_
    refine rw_put hx hb hts in_M ck_M ok_M nm_M hown hK.1 m0 rfl 0 (by decide) (hts _ fl_M_61) rfl (ok_M 0 (by decide)) rfl rfl (Nat.le_of_ble_eq_true rfl) (⟨Nat.le_refl _, by omega⟩) (A := inBk d (d + 16)) cNil d_M_greatest_20 (fun H1 L2 z3 o4 hat5 hL6 => ?_)
    have hm := MW_th (th' := 1) hm hat5 o4
    obtain ⟨m0, m1, m2, m3, m4, m5, m6, m7, m8, m9, m10, m11, m12, m13, m14, m15, hxb, hv7⟩ := id hm
    have hB := (Blk.one z3 o4).wide (lo' := d) (hi' := d + 16) (by omega) (by omega)
    have hbad : ¬ (okK k ∧ okL la) := by (try simp only [Classical.not_not, bI_eq, bI_ne, ask_t, ask_f, kB_t, kB_f, cB_t, cB_f, lB_t, lB_f, iB_t, iB_f, pB_t, pB_f] at c5); simp [c5]
    refine lv_ldc2 (v := (-1)) hx hb hown (hts _ kl_M_147) d_M_greatest_23 ?_
    refine lv_lstore_n (lv' := [(3, .long (-1)), (0, .ref d), (1, .int k), (2, .int la)]) hx hb d_M_greatest_26 rfl hl (by decide) rfl (fun ls hl => ?_)
    refine lv_iconst (v := 0) hx hb d_M_greatest_27 (by decide) ?_
    refine lv_istore (lv' := [(5, .int 0), (3, .long (-1)), (0, .ref d), (1, .int k), (2, .int la)]) hx hb d_M_greatest_28 hl (by decide) rfl (fun ls hl => ?_)
    refine lv_iload hx hb d_M_greatest_30 (lv_at hl 0 rfl) ?_
    refine lv_aload_n hx hb d_M_greatest_32 rfl (lv_at hl 2 rfl) ?_
    refine rw_get hx hb hts in_M hown hK.1 m0 rfl 2 (by decide) (hts _ fl_M_67) rfl d_M_greatest_33 ?_
    refine lv_icmp_ge (tgt := 97) hx hb d_M_greatest_36 (by decide) (fun c36 => ?_) (fun c36 => ?_)
    · refine lv_aload_n hx hb d_M_greatest_97 rfl (lv_at hl 2 rfl) ?_
      refine rw_get hx hb hts in_M hown hK.1 m0 rfl 0 (by decide) (hts _ fl_M_61) rfl d_M_greatest_98 ?_
      refine lv_if_eq (tgt := 108) hx hb d_M_greatest_101 (by decide) (fun c101 => ?_) (fun c101 => ?_)
      · exact absurd c101 (by decide)
      · refine lv_lconst (v := 0) hx hb d_M_greatest_104 (by decide) ?_
        refine lv_goto (tgt := 109) hx hb d_M_greatest_105 (by decide) ?_
        exact re_l hQ hx hb hr hlk (⟨Or.inr ⟨hbad, rfl, hm⟩, hB⟩) hL6 (Nat.le_of_ble_eq_true rfl) (Nat.le_of_ble_eq_true rfl) d_M_greatest_109
    · refine lv_aload_n hx hb d_M_greatest_39 rfl (lv_at hl 2 rfl) ?_
      refine rw_get hx hb hts in_M hown hK.1 m0 rfl 0 (by decide) (hts _ fl_M_61) rfl d_M_greatest_40 ?_
      refine lv_if_ne (tgt := 97) hx hb d_M_greatest_43 (by decide) (fun c43 => ?_) (fun c43 => ?_)
      · refine lv_aload_n hx hb d_M_greatest_97 rfl (lv_at hl 2 rfl) ?_
        refine rw_get hx hb hts in_M hown hK.1 m0 rfl 0 (by decide) (hts _ fl_M_61) rfl d_M_greatest_98 ?_
        refine lv_if_eq (tgt := 108) hx hb d_M_greatest_101 (by decide) (fun c101 => ?_) (fun c101 => ?_)
        · exact absurd c101 (by decide)
        · refine lv_lconst (v := 0) hx hb d_M_greatest_104 (by decide) ?_
          refine lv_goto (tgt := 109) hx hb d_M_greatest_105 (by decide) ?_
          exact re_l hQ hx hb hr hlk (⟨Or.inr ⟨hbad, rfl, hm⟩, hB⟩) hL6 (Nat.le_of_ble_eq_true rfl) (Nat.le_of_ble_eq_true rfl) d_M_greatest_109
      · exact absurd c43 (by decide)
  · refine lv_iload_n hx hb d_M_greatest_8 rfl (lv_at hl 2 rfl) ?_
    refine cl_i (W.runS (As := [.int la]) (rest := [.ref d]) S (c_M_isLayer la) (va_cwS 1 hts gs_M_81 rfl rfl rfl (by decide +kernel) ⟨Nat.le_of_ble_eq_true rfl, Nat.le_of_ble_eq_true rfl⟩) (cP_S (KG_ok _) hK) rfl rfl hl.1 rfl (lv_room (Nat.le_of_ble_eq_true rfl)) d_M_greatest_9 ⟨Nat.le_of_ble_eq_true rfl, Nat.le_of_ble_eq_true rfl⟩) ?_
    refine lv_if_eq (tgt := 19) hx hb d_M_greatest_12 (by decide) (fun c12 => ?_) (fun c12 => ?_)
    · refine lv_iconst (v := 1) hx hb d_M_greatest_19 (by decide) ?_
      refine rw_put hx hb hts in_M ck_M ok_M nm_M hown hK.1 m0 rfl 0 (by decide) (hts _ fl_M_61) rfl (ok_M 0 (by decide)) rfl rfl (Nat.le_of_ble_eq_true rfl) (⟨Nat.le_refl _, by omega⟩) (A := inBk d (d + 16)) cNil d_M_greatest_20 (fun H7 L8 z9 o10 hat11 hL12 => ?_)
      have hm := MW_th (th' := 1) hm hat11 o10
      obtain ⟨m0, m1, m2, m3, m4, m5, m6, m7, m8, m9, m10, m11, m12, m13, m14, m15, hxb, hv7⟩ := id hm
      have hB := (Blk.one z9 o10).wide (lo' := d) (hi' := d + 16) (by omega) (by omega)
      have hbad : ¬ (okK k ∧ okL la) := by (try simp only [Classical.not_not, bI_eq, bI_ne, ask_t, ask_f, kB_t, kB_f, cB_t, cB_f, lB_t, lB_f, iB_t, iB_f, pB_t, pB_f] at c5 c12); simp [c5, c12]
      refine lv_ldc2 (v := (-1)) hx hb hown (hts _ kl_M_147) d_M_greatest_23 ?_
      refine lv_lstore_n (lv' := [(3, .long (-1)), (0, .ref d), (1, .int k), (2, .int la)]) hx hb d_M_greatest_26 rfl hl (by decide) rfl (fun ls hl => ?_)
      refine lv_iconst (v := 0) hx hb d_M_greatest_27 (by decide) ?_
      refine lv_istore (lv' := [(5, .int 0), (3, .long (-1)), (0, .ref d), (1, .int k), (2, .int la)]) hx hb d_M_greatest_28 hl (by decide) rfl (fun ls hl => ?_)
      refine lv_iload hx hb d_M_greatest_30 (lv_at hl 0 rfl) ?_
      refine lv_aload_n hx hb d_M_greatest_32 rfl (lv_at hl 2 rfl) ?_
      refine rw_get hx hb hts in_M hown hK.1 m0 rfl 2 (by decide) (hts _ fl_M_67) rfl d_M_greatest_33 ?_
      refine lv_icmp_ge (tgt := 97) hx hb d_M_greatest_36 (by decide) (fun c36 => ?_) (fun c36 => ?_)
      · refine lv_aload_n hx hb d_M_greatest_97 rfl (lv_at hl 2 rfl) ?_
        refine rw_get hx hb hts in_M hown hK.1 m0 rfl 0 (by decide) (hts _ fl_M_61) rfl d_M_greatest_98 ?_
        refine lv_if_eq (tgt := 108) hx hb d_M_greatest_101 (by decide) (fun c101 => ?_) (fun c101 => ?_)
        · exact absurd c101 (by decide)
        · refine lv_lconst (v := 0) hx hb d_M_greatest_104 (by decide) ?_
          refine lv_goto (tgt := 109) hx hb d_M_greatest_105 (by decide) ?_
          exact re_l hQ hx hb hr hlk (⟨Or.inr ⟨hbad, rfl, hm⟩, hB⟩) hL12 (Nat.le_of_ble_eq_true rfl) (Nat.le_of_ble_eq_true rfl) d_M_greatest_109
      · refine lv_aload_n hx hb d_M_greatest_39 rfl (lv_at hl 2 rfl) ?_
        refine rw_get hx hb hts in_M hown hK.1 m0 rfl 0 (by decide) (hts _ fl_M_61) rfl d_M_greatest_40 ?_
        refine lv_if_ne (tgt := 97) hx hb d_M_greatest_43 (by decide) (fun c43 => ?_) (fun c43 => ?_)
        · refine lv_aload_n hx hb d_M_greatest_97 rfl (lv_at hl 2 rfl) ?_
          refine rw_get hx hb hts in_M hown hK.1 m0 rfl 0 (by decide) (hts _ fl_M_61) rfl d_M_greatest_98 ?_
          refine lv_if_eq (tgt := 108) hx hb d_M_greatest_101 (by decide) (fun c101 => ?_) (fun c101 => ?_)
          · exact absurd c101 (by decide)
          · refine lv_lconst (v := 0) hx hb d_M_greatest_104 (by decide) ?_
            refine lv_goto (tgt := 109) hx hb d_M_greatest_105 (by decide) ?_
            exact re_l hQ hx hb hr hlk (⟨Or.inr ⟨hbad, rfl, hm⟩, hB⟩) hL12 (Nat.le_of_ble_eq_true rfl) (Nat.le_of_ble_eq_true rfl) d_M_greatest_109
        · exact absurd c43 (by decide)
    · refine lv_iconst (v := 0) hx hb d_M_greatest_15 (by decide) ?_
      refine lv_goto (tgt := 20) hx hb d_M_greatest_16 (by decide) ?_
      refine rw_put hx hb hts in_M ck_M ok_M nm_M hown hK.1 m0 rfl 0 (by decide) (hts _ fl_M_61) rfl (ok_M 0 (by decide)) rfl rfl (Nat.le_of_ble_eq_true rfl) (⟨Nat.le_refl _, by omega⟩) (A := inBk d (d + 16)) cNil d_M_greatest_20 (fun H13 L14 z15 o16 hat17 hL18 => ?_)
      have hm := MW_th (th' := 0) hm hat17 o16
      obtain ⟨m0, m1, m2, m3, m4, m5, m6, m7, m8, m9, m10, m11, m12, m13, m14, m15, hxb, hv7⟩ := id hm
      have hB := (Blk.one z15 o16).wide (lo' := d) (hi' := d + 16) (by omega) (by omega)
      have hok : okK k ∧ okL la := by (try simp only [Classical.not_not, bI_eq, bI_ne, ask_t, ask_f, kB_t, kB_f, cB_t, cB_f, lB_t, lB_f, iB_t, iB_f, pB_t, pB_f] at c5 c12); simp [c5, c12]
      refine lv_ldc2 (v := (-1)) hx hb hown (hts _ kl_M_147) d_M_greatest_23 ?_
      refine lv_lstore_n (lv' := [(3, .long (-1)), (0, .ref d), (1, .int k), (2, .int la)]) hx hb d_M_greatest_26 rfl hl (by decide) rfl (fun ls hl => ?_)
      refine lv_iconst (v := 0) hx hb d_M_greatest_27 (by decide) ?_
      refine lv_istore (lv' := [(5, .int 0), (3, .long (-1)), (0, .ref d), (1, .int k), (2, .int la)]) hx hb d_M_greatest_28 hl (by decide) rfl (fun ls hl => ?_)
      have LP : ∀ (n i : Nat) (bs : Int64) (ls : Array Slot), bs = grtF u k la i → i ≤ u.1.2.1 → u.1.2.1 - i < n → lv_has ls 6 [(0, .ref d), (1, .int k), (2, .int la), (3, .long bs), (5, .int (nI i))] → W p l e rm_M_greatest s m args below meth c H13 L14 0 0 QQ (F0 m 30 ls []) := by
        intro n
        induction n with
        | zero => intro i bs ls _ h2 h3; exact absurd h3 (by omega)
        | succ n ih =>
          intro i bs ls ebs hle hn hl
          refine lv_iload hx hb d_M_greatest_30 (lv_at hl 4 rfl) ?_
          refine lv_aload_n hx hb d_M_greatest_32 rfl (lv_at hl 0 rfl) ?_
          refine rw_get hx hb hts in_M hown hK.1 m0 rfl 2 (by decide) (hts _ fl_M_67) rfl d_M_greatest_33 ?_
          refine lv_icmp_ge (tgt := 97) hx hb d_M_greatest_36 (by decide) (fun c36 => ?_) (fun c36 => ?_)
          · refine lv_aload_n hx hb d_M_greatest_97 rfl (lv_at hl 0 rfl) ?_
            refine rw_get hx hb hts in_M hown hK.1 m0 rfl 0 (by decide) (hts _ fl_M_61) rfl d_M_greatest_98 ?_
            refine lv_if_eq (tgt := 108) hx hb d_M_greatest_101 (by decide) (fun c101 => ?_) (fun c101 => ?_)
            · refine lv_lload_n hx hb d_M_greatest_108 rfl (lv_at hl 3 rfl) ?_
              exact re_l hQ hx hb hr hlk (⟨Or.inl ⟨hok, by rw [ebs, show i = u.1.2.1 from Nat.le_antisymm hle (Nat.not_lt.mp (fun h => absurd c36 (nI_ge h (by omega))))], hm⟩, hB⟩) hL18 (Nat.le_of_ble_eq_true rfl) (Nat.le_of_ble_eq_true rfl) d_M_greatest_109
            · exact absurd c101 (by decide)
          · refine lv_aload_n hx hb d_M_greatest_39 rfl (lv_at hl 0 rfl) ?_
            refine rw_get hx hb hts in_M hown hK.1 m0 rfl 0 (by decide) (hts _ fl_M_61) rfl d_M_greatest_40 ?_
            refine lv_if_ne (tgt := 97) hx hb d_M_greatest_43 (by decide) (fun c43 => ?_) (fun c43 => ?_)
            · exact absurd c43 (by decide)
            · have hlt : i < u.1.2.1 := Nat.not_le.mp (fun h => c36 (nI_le h (by omega)))
              have h40 : i < 40 := by omega
              refine lv_aload_n hx hb d_M_greatest_46 rfl (lv_at hl 0 rfl) ?_
              refine rw_get hx hb hts in_M hown hK.1 m0 rfl 3 (by decide) (hts _ fl_M_7) rfl d_M_greatest_47 ?_
              refine lv_iload hx hb d_M_greatest_50 (lv_at hl 4 rfl) ?_
              refine rw_iald hx hb hK.1 0 m1 rfl i (rfl) (h40) (by decide) d_M_greatest_52 ?_
              refine lv_iload_n hx hb d_M_greatest_53 rfl (lv_at hl 1 rfl) ?_
              refine lv_icmp_ne (tgt := 91) hx hb d_M_greatest_54 (by decide) (fun c54 => ?_) (fun c54 => ?_)
              · refine lv_iinc (v := (nI (i + 1))) (lv' := [(5, .int (nI (i + 1))), (0, .ref d), (1, .int k), (2, .int la), (3, .long bs)]) hx hb d_M_greatest_91 hl (k := 4) rfl ((nI_1 i)) (by decide) rfl (fun ls hl => ?_)
                refine lv_goto (tgt := 30) hx hb d_M_greatest_94 (by decide) ?_
                exact ih (i + 1) _ ls (by rw [grtF, if_neg (fun h => c54 h.1)]; exact ebs) (by omega) (by omega) (lv_sub hl [1, 2, 3, 4, 0] rfl)
              · refine lv_aload_n hx hb d_M_greatest_57 rfl (lv_at hl 0 rfl) ?_
                refine rw_get hx hb hts in_M hown hK.1 m0 rfl 6 (by decide) (hts _ fl_M_19) rfl d_M_greatest_58 ?_
                refine lv_iload hx hb d_M_greatest_61 (lv_at hl 4 rfl) ?_
                refine rw_iald hx hb hK.1 0 m4 rfl i (rfl) (h40) (by decide) d_M_greatest_63 ?_
                refine lv_iload_n hx hb d_M_greatest_64 rfl (lv_at hl 2 rfl) ?_
                refine cl_i (W.runS (As := [.int ((u.2.1 i).2.2.2.1), .int la]) (rest := []) S (c_M_isOf ((u.2.1 i).2.2.2.1) la) (va_cwS 2 hts gs_M_112 rfl rfl rfl (by decide +kernel) ⟨Nat.le_of_ble_eq_true rfl, Nat.le_of_ble_eq_true rfl⟩) (cP_S (KG_ok _) hK) rfl rfl hl.1 rfl (lv_room (Nat.le_of_ble_eq_true rfl)) d_M_greatest_65 ⟨Nat.le_of_ble_eq_true rfl, Nat.le_of_ble_eq_true rfl⟩) ?_
                refine lv_if_eq (tgt := 91) hx hb d_M_greatest_68 (by decide) (fun c68 => ?_) (fun c68 => ?_)
                · refine lv_iinc (v := (nI (i + 1))) (lv' := [(5, .int (nI (i + 1))), (0, .ref d), (1, .int k), (2, .int la), (3, .long bs)]) hx hb d_M_greatest_91 hl (k := 4) rfl ((nI_1 i)) (by decide) rfl (fun ls hl => ?_)
                  refine lv_goto (tgt := 30) hx hb d_M_greatest_94 (by decide) ?_
                  exact ih (i + 1) _ ls (by rw [grtF, if_neg (fun h => by rw [show layB (u.2.1 i) la = false from (bI_eq _).mp c68] at h; exact absurd h.2 (by decide))]; exact ebs) (by omega) (by omega) (lv_sub hl [1, 2, 3, 4, 0] rfl)
                · refine lv_aload_n hx hb d_M_greatest_71 rfl (lv_at hl 0 rfl) ?_
                  refine rw_get hx hb hts in_M hown hK.1 m0 rfl 7 (by decide) (hts _ fl_M_22) rfl d_M_greatest_72 ?_
                  refine lv_iload hx hb d_M_greatest_75 (lv_at hl 4 rfl) ?_
                  refine rw_lald hx hb hK.1 1 m5 rfl i (rfl) (h40) (by decide) d_M_greatest_77 ?_
                  refine lv_lload_n hx hb d_M_greatest_78 rfl (lv_at hl 3 rfl) ?_
                  refine ll_le (tgt := 91) hx hb d_M_greatest_79 d_M_greatest_80 (by decide) (fun c80 => ?_) (fun c80 => ?_)
                  · refine lv_iinc (v := (nI (i + 1))) (lv' := [(5, .int (nI (i + 1))), (0, .ref d), (1, .int k), (2, .int la), (3, .long bs)]) hx hb d_M_greatest_91 hl (k := 4) rfl ((nI_1 i)) (by decide) rfl (fun ls hl => ?_)
                    refine lv_goto (tgt := 30) hx hb d_M_greatest_94 (by decide) ?_
                    exact ih (i + 1) _ ls (by rw [grt_o c54 ((bI_ne _).mp c68) (by rw [← ebs]; exact Int64.not_lt.mpr c80)]; exact ebs) (by omega) (by omega) (lv_sub hl [1, 2, 3, 4, 0] rfl)
                  · refine lv_aload_n hx hb d_M_greatest_83 rfl (lv_at hl 0 rfl) ?_
                    refine rw_get hx hb hts in_M hown hK.1 m0 rfl 7 (by decide) (hts _ fl_M_22) rfl d_M_greatest_84 ?_
                    refine lv_iload hx hb d_M_greatest_87 (lv_at hl 4 rfl) ?_
                    refine rw_lald hx hb hK.1 1 m5 rfl i (rfl) (h40) (by decide) d_M_greatest_89 ?_
                    refine lv_lstore_n (lv' := [(3, .long ((u.2.1 i).2.2.2.2.1)), (0, .ref d), (1, .int k), (2, .int la), (5, .int (nI i))]) hx hb d_M_greatest_90 rfl hl (by decide) rfl (fun ls hl => ?_)
                    refine lv_iinc (v := (nI (i + 1))) (lv' := [(5, .int (nI (i + 1))), (3, .long ((u.2.1 i).2.2.2.2.1)), (0, .ref d), (1, .int k), (2, .int la)]) hx hb d_M_greatest_91 hl (k := 4) rfl ((nI_1 i)) (by decide) rfl (fun ls hl => ?_)
                    refine lv_goto (tgt := 30) hx hb d_M_greatest_94 (by decide) ?_
                    exact ih (i + 1) _ ls (by rw [grt_m c54 ((bI_ne _).mp c68) (by rw [← ebs]; exact Int64.not_le.mp c80)]) (by omega) (by omega) (lv_sub hl [2, 3, 4, 1, 0] rfl)
      exact LP _ 0 _ ls rfl (Nat.zero_le _) (Nat.lt_succ_self _) (lv_sub hl [2, 3, 4, 1, 0] rfl)
def rm_M_close : Room := { frames := 5, cells := 0, slots := 0, locals := 123 }
set_option maxRecDepth 100000 in
set_option maxHeartbeats 4000000 in
theorem c_M_close {l : Launch} {ev : EV} {H0 : Heap} {d : Nat} {th : Int32} {u : XS} {kp : KT} {v : PT} (hm : MW ev d th u kp v H0) (k : Int32) : Met l my_M_close mw_M_close rm_M_close (cP [.ref d, .int k] (KG ev) H0) (cQe (fun r H1 => ((okK k) ∧ r = .int (nI (coF u k v u.1.2.2.2.1).1) ∧ MW ev d 0 u kp (coF u k v u.1.2.2.2.1) H1 ∨ (¬ okK k) ∧ r = .int 0 ∧ MW ev d 1 u kp v H1) ∧ Blk d (d + 16) H0 H1)) 0 0 (inBk d (d + 16)) := by
  refine cHead [.ref d, .int k] (by decide) rfl (Nat.le_of_ble_eq_true rfl) ?_
  intro p e s m below meth c ls args QQ hQ S hr hlk hnm hs hK hl
  have S : CallFix p m c mb_M_close 4 s args TB "RuleChoiceModel" := S
  obtain ⟨hx, hb, hml, hown, hts⟩ := id S
  obtain ⟨m0, m1, m2, m3, m4, m5, m6, m7, m8, m9, m10, m11, m12, m13, m14, m15, hxb, hv7⟩ := id hm
  have hr40 : u.1.2.1 ≤ 40 := hxb.1
  have ha12 : u.1.2.2.1 ≤ 12 := hxb.2.1
  have ht40 : u.1.2.2.2.1 ≤ 40 := hxb.2.2.1
  have hl : lv_has ls 4 [(0, .ref d), (1, .int k)] := hl
  refine lv_aload_n hx hb d_M_close_0 rfl (lv_at hl 0 rfl) ?_
  refine lv_iload_n hx hb d_M_close_1 rfl (lv_at hl 1 rfl) ?_
  refine cl_i (W.runS (As := [.int k]) (rest := [.ref d]) S (c_M_isKind k) (va_cwS 1 hts gs_M_74 rfl rfl rfl (by decide +kernel) ⟨Nat.le_of_ble_eq_true rfl, Nat.le_of_ble_eq_true rfl⟩) (cP_S (KG_ok _) hK) rfl rfl hl.1 rfl (lv_room (Nat.le_of_ble_eq_true rfl)) d_M_close_2 ⟨Nat.le_of_ble_eq_true rfl, Nat.le_of_ble_eq_true rfl⟩) ?_
  refine lv_if_eq (tgt := 12) hx hb d_M_close_5 (by decide) (fun c5 => ?_) (fun c5 => ?_)
  · refine lv_iconst (v := 1) hx hb d_M_close_12 (by decide) ?_
    refine rw_put hx hb hts in_M ck_M ok_M nm_M hown hK.1 m0 rfl 0 (by decide) (hts _ fl_M_61) rfl (ok_M 0 (by decide)) rfl rfl (Nat.le_of_ble_eq_true rfl) (⟨Nat.le_refl _, by omega⟩) (A := inBk d (d + 16)) cNil d_M_close_13 (fun H1 L2 z3 o4 hat5 hL6 => ?_)
    have hm := MW_th (th' := 1) hm hat5 o4
    obtain ⟨m0, m1, m2, m3, m4, m5, m6, m7, m8, m9, m10, m11, m12, m13, m14, m15, hxb, hv7⟩ := id hm
    have hB := (Blk.one z3 o4).wide (lo' := d) (hi' := d + 16) (by omega) (by omega)
    have hbad : ¬ okK k := by (try simp only [Classical.not_not, bI_eq, bI_ne, ask_t, ask_f, kB_t, kB_f, cB_t, cB_f, lB_t, lB_f, iB_t, iB_f, pB_t, pB_f] at c5); simp [c5]
    refine lv_aload_n hx hb d_M_close_16 rfl (lv_at hl 0 rfl) ?_
    refine rw_get hx hb hts in_M hown hK.1 m0 rfl 0 (by decide) (hts _ fl_M_61) rfl d_M_close_17 ?_
    refine lv_if_eq (tgt := 25) hx hb d_M_close_20 (by decide) (fun c20 => ?_) (fun c20 => ?_)
    · exact absurd c20 (by decide)
    · refine lv_iconst (v := 0) hx hb d_M_close_23 (by decide) ?_
      exact re_i hQ hx hb hr hlk (rfl) (⟨Or.inr ⟨hbad, rfl, hm⟩, hB⟩) hL6 (Nat.le_of_ble_eq_true rfl) (Nat.le_of_ble_eq_true rfl) d_M_close_24
  · refine lv_iconst (v := 0) hx hb d_M_close_8 (by decide) ?_
    refine lv_goto (tgt := 13) hx hb d_M_close_9 (by decide) ?_
    refine rw_put hx hb hts in_M ck_M ok_M nm_M hown hK.1 m0 rfl 0 (by decide) (hts _ fl_M_61) rfl (ok_M 0 (by decide)) rfl rfl (Nat.le_of_ble_eq_true rfl) (⟨Nat.le_refl _, by omega⟩) (A := inBk d (d + 16)) cNil d_M_close_13 (fun H7 L8 z9 o10 hat11 hL12 => ?_)
    have hm := MW_th (th' := 0) hm hat11 o10
    obtain ⟨m0, m1, m2, m3, m4, m5, m6, m7, m8, m9, m10, m11, m12, m13, m14, m15, hxb, hv7⟩ := id hm
    have hB := (Blk.one z9 o10).wide (lo' := d) (hi' := d + 16) (by omega) (by omega)
    have hok : okK k := by (try simp only [Classical.not_not, bI_eq, bI_ne, ask_t, ask_f, kB_t, kB_f, cB_t, cB_f, lB_t, lB_f, iB_t, iB_f, pB_t, pB_f] at c5); simp [c5]
    refine lv_aload_n hx hb d_M_close_16 rfl (lv_at hl 0 rfl) ?_
    refine rw_get hx hb hts in_M hown hK.1 m0 rfl 0 (by decide) (hts _ fl_M_61) rfl d_M_close_17 ?_
    refine lv_if_eq (tgt := 25) hx hb d_M_close_20 (by decide) (fun c20 => ?_) (fun c20 => ?_)
    · refine lv_aload_n hx hb d_M_close_25 rfl (lv_at hl 0 rfl) ?_
      refine lv_iconst (v := 0) hx hb d_M_close_26 (by decide) ?_
      refine rw_put hx hb hts in_M ck_M ok_M nm_M hown hK.1 m0 rfl 19 (by decide) (hts _ fl_M_149) rfl (ok_M 19 (by decide)) rfl rfl (Nat.le_of_ble_eq_true rfl) (⟨Nat.le_refl _, by omega⟩) hL12 d_M_close_27 (fun H13 L14 z15 o16 hat17 hL18 => ?_)
      have hk : MW ev d 0 u kp (coF u k v 0) H13 := ⟨hat17, pt_k m1 (o16 _ (by omega)), pt_k m2 (o16 _ (by omega)), pt_k m3 (o16 _ (by omega)), pt_k m4 (o16 _ (by omega)), pt_k m5 (o16 _ (by omega)), pt_k m6 (o16 _ (by omega)), pt_k m7 (o16 _ (by omega)), pt_k m8 (o16 _ (by omega)), pt_k m9 (o16 _ (by omega)), pt_k m10 (o16 _ (by omega)), pt_k m11 (o16 _ (by omega)), pt_k m12 (o16 _ (by omega)), pt_k m13 (o16 _ (by omega)), pt_k m14 (o16 _ (by omega)), pt_k m15 (o16 _ (by omega)), hxb, Nat.zero_le _⟩
      have hB := Blk.trans hB ((Blk.one z15 o16).wide (by omega) (by omega))
      refine lv_iconst (v := 0) hx hb d_M_close_30 (by decide) ?_
      refine lv_istore_n (lv' := [(2, .int 0), (0, .ref d), (1, .int k)]) hx hb d_M_close_31 rfl hl (by decide) rfl (fun ls hl => ?_)
      have LP : ∀ (n a : Nat) (ls : Array Slot) (H : Heap) (locs : List Loc), MW ev d 0 u kp (coF u k v a) H → Blk d (d + 16) H0 H → (∀ q ∈ locs, inBk d (d + 16) q.base) → a ≤ u.1.2.2.2.1 → u.1.2.2.2.1 - a < n → lv_has ls 4 [(0, .ref d), (1, .int k), (2, .int (nI a))] → W p l e rm_M_close s m args below meth c H locs 0 0 QQ (F0 m 32 ls []) := by
        intro n
        induction n with
        | zero => intro a ls H locs _ _ _ h2 h3; exact absurd h3 (by omega)
        | succ n ih =>
          intro a ls H locs hk hB hL2 hle hlt9 hl
          obtain ⟨k0, k1, k2, k3, k4, k5, k6, k7, k8, k9, k10, k11, k12, k13, k14, k15, -, kv⟩ := id hk
          refine lv_iload_n hx hb d_M_close_32 rfl (lv_at hl 2 rfl) ?_
          refine lv_aload_n hx hb d_M_close_33 rfl (lv_at hl 0 rfl) ?_
          refine rw_get hx hb hts in_M hown hK.1 k0 rfl 12 (by decide) (hts _ fl_M_64) rfl d_M_close_34 ?_
          refine lv_icmp_ge (tgt := 107) hx hb d_M_close_37 (by decide) (fun c37 => ?_) (fun c37 => ?_)
          · refine lv_aload_n hx hb d_M_close_107 rfl (lv_at hl 0 rfl) ?_
            refine rw_get hx hb hts in_M hown hK.1 k0 rfl 19 (by decide) (hts _ fl_M_149) rfl d_M_close_108 ?_
            have e9 : a = u.1.2.2.2.1 := Nat.le_antisymm hle (Nat.not_lt.mp (fun h => absurd c37 (nI_ge h (by omega))))
            exact re_i hQ hx hb hr hlk (rfl) (⟨Or.inl ⟨hok, by rw [← e9], by rw [← e9]; exact hk⟩, hB⟩) hL2 (Nat.le_of_ble_eq_true rfl) (Nat.le_of_ble_eq_true rfl) d_M_close_111
          · have hlt : a < u.1.2.2.2.1 := Nat.not_le.mp (fun h => c37 (nI_le h (by omega)))
            have ha40 : a < 40 := by omega
            refine lv_iload_n hx hb d_M_close_40 rfl (lv_at hl 2 rfl) ?_
            refine lv_iconst (v := 1) hx hb d_M_close_41 (by decide) ?_
            refine lv_iadd hx hb d_M_close_42 ?_
            refine tp_i (y := (nI (a + 1 + 0))) (nI_1 a) ?_
            refine lv_istore_n (lv' := [(3, .int (nI (a + 1 + 0))), (0, .ref d), (1, .int k), (2, .int (nI a))]) hx hb d_M_close_43 rfl hl (by decide) rfl (fun ls hl => ?_)
            have LQ : ∀ (n2 i : Nat) (ls : Array Slot) (H : Heap) (locs : List Loc), MW ev d 0 u kp (ciF u k (coF u k v a) a i) H → Blk d (d + 16) H0 H → (∀ q ∈ locs, inBk d (d + 16) q.base) → i ≤ u.1.2.2.2.1 - (a + 1) → u.1.2.2.2.1 - (a + 1) - i < n2 → lv_has ls 4 [(0, .ref d), (1, .int k), (2, .int (nI a)), (3, .int (nI (a + 1 + i)))] → W p l e rm_M_close s m args below meth c H locs 0 0 QQ (F0 m 44 ls []) := by
              intro n2
              induction n2 with
              | zero => intro i ls H locs _ _ _ h2 h3; exact absurd h3 (by omega)
              | succ n2 ih2 =>
                intro i ls H locs hk hB hL2 hle2 hlt8 hl
                obtain ⟨k0, k1, k2, k3, k4, k5, k6, k7, k8, k9, k10, k11, k12, k13, k14, k15, -, kv⟩ := id hk
                refine lv_iload_n hx hb d_M_close_44 rfl (lv_at hl 3 rfl) ?_
                refine lv_aload_n hx hb d_M_close_45 rfl (lv_at hl 0 rfl) ?_
                refine rw_get hx hb hts in_M hown hK.1 k0 rfl 12 (by decide) (hts _ fl_M_64) rfl d_M_close_46 ?_
                refine lv_icmp_ge (tgt := 101) hx hb d_M_close_49 (by decide) (fun c49 => ?_) (fun c49 => ?_)
                · have e8 : i = u.1.2.2.2.1 - (a + 1) := Nat.le_antisymm hle2 (Nat.not_lt.mp (fun h => absurd c49 (nI_ge (by omega) (by omega))))
                  have hk : MW ev d 0 u kp (coF u k v (a + 1)) H := by subst e8; exact hk
                  refine lv_iinc (v := (nI (a + 1))) (lv' := [(2, .int (nI (a + 1))), (0, .ref d), (1, .int k), (3, .int (nI (a + 1 + i)))]) hx hb d_M_close_101 hl (k := 2) rfl ((nI_1 a)) (by decide) rfl (fun ls hl => ?_)
                  refine lv_goto (tgt := 32) hx hb d_M_close_104 (by decide) ?_
                  exact ih (a + 1) ls _ _ hk hB hL2 (by omega) (by omega) (lv_sub hl [1, 2, 0] rfl)
                · have a1 : i < u.1.2.2.2.1 - (a + 1) := by have h9 : ¬ u.1.2.2.2.1 ≤ a + 1 + i := fun h => c49 (nI_le h (by omega)); omega
                  have hb40 : a + 1 + i < 40 := by omega
                  refine lv_aload_n hx hb d_M_close_52 rfl (lv_at hl 0 rfl) ?_
                  refine lv_iload_n hx hb d_M_close_53 rfl (lv_at hl 1 rfl) ?_
                  refine lv_iload_n hx hb d_M_close_54 rfl (lv_at hl 2 rfl) ?_
                  refine lv_iload_n hx hb d_M_close_55 rfl (lv_at hl 3 rfl) ?_
                  refine cl_i (W.runV (As := [.int k, .int (nI a), .int (nI (a + 1 + i))]) (rest := []) S (c_M_isClose hk k (rfl) (rfl) (ha40) (hb40)) (cwV 3 hts gv_M_152 rfl rfl rfl (by decide +kernel) ⟨Nat.le_of_ble_eq_true rfl, Nat.le_of_ble_eq_true rfl⟩) (cP_V (KG_ok _) hK hK.1 k0 rfl) rfl rfl hl.1 rfl (lv_room (Nat.le_of_ble_eq_true rfl)) d_M_close_56 ⟨Nat.le_of_ble_eq_true rfl, Nat.le_of_ble_eq_true rfl⟩) ?_
                  refine lv_if_ne (tgt := 65) hx hb d_M_close_59 (by decide) (fun c59 => ?_) (fun c59 => ?_)
                  · refine lv_aload_n hx hb d_M_close_65 rfl (lv_at hl 0 rfl) ?_
                    refine rw_get hx hb hts in_M hown hK.1 k0 rfl 20 (by decide) (hts _ fl_M_51) rfl d_M_close_66 ?_
                    refine lv_aload_n hx hb d_M_close_69 rfl (lv_at hl 0 rfl) ?_
                    refine rw_get hx hb hts in_M hown hK.1 k0 rfl 19 (by decide) (hts _ fl_M_149) rfl d_M_close_70 ?_
                    refine lv_iload_n hx hb d_M_close_73 rfl (lv_at hl 2 rfl) ?_
                    refine rw_iast hx hb hK.1 0 k14 rfl ((ciF u k (coF u k v a) a i).1) (rfl) (ci_780 ht40 hlt a1) (by decide) (⟨by omega, by omega⟩) hL2 d_M_close_74 (fun H19 L20 z21 o22 hat23 hL24 => ?_)
                    refine lv_aload_n hx hb d_M_close_75 rfl (lv_at hl 0 rfl) ?_
                    refine rw_get hx hb hts in_M hown hK.1 (pt_k k0 (o22 _ (by omega))) rfl 21 (by decide) (hts _ fl_M_54) rfl d_M_close_76 ?_
                    refine lv_aload_n hx hb d_M_close_79 rfl (lv_at hl 0 rfl) ?_
                    refine rw_get hx hb hts in_M hown hK.1 (pt_k k0 (o22 _ (by omega))) rfl 19 (by decide) (hts _ fl_M_149) rfl d_M_close_80 ?_
                    refine lv_iload_n hx hb d_M_close_83 rfl (lv_at hl 3 rfl) ?_
                    refine rw_iast hx hb hK.1 0 (pt_k k15 (o22 _ (by omega))) rfl ((ciF u k (coF u k v a) a i).1) (rfl) (ci_780 ht40 hlt a1) (by decide) (⟨by omega, by omega⟩) hL24 d_M_close_84 (fun H25 L26 z27 o28 hat29 hL30 => ?_)
                    refine lv_aload_n hx hb d_M_close_85 rfl (lv_at hl 0 rfl) ?_
                    refine lv_dup hx hb d_M_close_86 rfl ?_
                    refine rw_get hx hb hts in_M hown hK.1 (pt_k (pt_k k0 (o22 _ (by omega))) (o28 _ (by omega))) rfl 19 (by decide) (hts _ fl_M_149) rfl d_M_close_87 ?_
                    refine lv_iconst (v := 1) hx hb d_M_close_90 (by decide) ?_
                    refine lv_iadd hx hb d_M_close_91 ?_
                    refine rw_put hx hb hts in_M ck_M ok_M nm_M hown hK.1 (pt_k (pt_k k0 (o22 _ (by omega))) (o28 _ (by omega))) rfl 19 (by decide) (hts _ fl_M_149) rfl (ok_M 19 (by decide)) rfl rfl (Nat.le_of_ble_eq_true rfl) (⟨Nat.le_refl _, by omega⟩) hL30 d_M_close_92 (fun H31 L32 z33 o34 hat35 hL36 => ?_)
                    have hk : MW ev d 0 u kp (ciF u k (coF u k v a) a (i + 1)) H31 := by rw [ci_y ((bI_ne _).mp c59)]; exact ⟨mO_p hat35, pt_k (pt_k (pt_k k1 (o22 _ (by omega))) (o28 _ (by omega))) (o34 _ (by omega)), pt_k (pt_k (pt_k k2 (o22 _ (by omega))) (o28 _ (by omega))) (o34 _ (by omega)), pt_k (pt_k (pt_k k3 (o22 _ (by omega))) (o28 _ (by omega))) (o34 _ (by omega)), pt_k (pt_k (pt_k k4 (o22 _ (by omega))) (o28 _ (by omega))) (o34 _ (by omega)), pt_k (pt_k (pt_k k5 (o22 _ (by omega))) (o28 _ (by omega))) (o34 _ (by omega)), pt_k (pt_k (pt_k k6 (o22 _ (by omega))) (o28 _ (by omega))) (o34 _ (by omega)), pt_k (pt_k (pt_k k7 (o22 _ (by omega))) (o28 _ (by omega))) (o34 _ (by omega)), pt_k (pt_k (pt_k k8 (o22 _ (by omega))) (o28 _ (by omega))) (o34 _ (by omega)), pt_k (pt_k (pt_k k9 (o22 _ (by omega))) (o28 _ (by omega))) (o34 _ (by omega)), pt_k (pt_k (pt_k k10 (o22 _ (by omega))) (o28 _ (by omega))) (o34 _ (by omega)), pt_k (pt_k (pt_k k11 (o22 _ (by omega))) (o28 _ (by omega))) (o34 _ (by omega)), pt_k (pt_k (pt_k k12 (o22 _ (by omega))) (o28 _ (by omega))) (o34 _ (by omega)), pt_k (pt_k (pt_k k13 (o22 _ (by omega))) (o28 _ (by omega))) (o34 _ (by omega)), pt_k (pt_k hat23 (o28 _ (by omega))) (o34 _ (by omega)), pt_k hat29 (o34 _ (by omega)), hxb, ci_780 ht40 hlt a1⟩
                    have hB := Blk.trans hB (Blk.trans ((Blk.one z21 o22).wide (by omega) (by omega)) (Blk.trans ((Blk.one z27 o28).wide (by omega) (by omega)) ((Blk.one z33 o34).wide (by omega) (by omega))))
                    refine lv_iinc (v := (nI (a + 1 + (i + 1)))) (lv' := [(3, .int (nI (a + 1 + (i + 1)))), (0, .ref d), (1, .int k), (2, .int (nI a))]) hx hb d_M_close_95 hl (k := 3) rfl ((nI_1 (a + 1 + i))) (by decide) rfl (fun ls hl => ?_)
                    refine lv_goto (tgt := 44) hx hb d_M_close_98 (by decide) ?_
                    exact ih2 (i + 1) ls _ _ hk hB hL36 (by omega) (by omega) (lv_sub hl [1, 2, 3, 0] rfl)
                  · refine lv_goto (tgt := 95) hx hb d_M_close_62 (by decide) ?_
                    refine lv_iinc (v := (nI (a + 1 + (i + 1)))) (lv' := [(3, .int (nI (a + 1 + (i + 1)))), (0, .ref d), (1, .int k), (2, .int (nI a))]) hx hb d_M_close_95 hl (k := 3) rfl ((nI_1 (a + 1 + i))) (by decide) rfl (fun ls hl => ?_)
                    refine lv_goto (tgt := 44) hx hb d_M_close_98 (by decide) ?_
                    exact ih2 (i + 1) ls _ _ (by rw [ci_n ((bI_eq _).mp c59)]; exact hk) hB hL2 (by omega) (by omega) (lv_sub hl [1, 2, 3, 0] rfl)
            exact LQ _ 0 ls _ _ hk hB hL2 (Nat.zero_le _) (Nat.lt_succ_self _) (lv_sub hl [1, 2, 3, 0] rfl)
      exact LP _ 0 ls _ _ hk hB hL18 (Nat.zero_le _) (Nat.lt_succ_self _) (lv_sub hl [1, 2, 0] rfl)
    · exact absurd c20 (by decide)
def rm_M_pair : Room := { frames := 0, cells := 0, slots := 0, locals := 0 }
set_option maxRecDepth 100000 in
set_option maxHeartbeats 4000000 in
theorem c_M_pair {l : Launch} {ev : EV} {H0 : Heap} {d : Nat} {th : Int32} {u : XS} {kp : KT} {v : PT} (hm : MW ev d th u kp v H0) (k z : Int32) : Met l my_M_pair mw_M_pair rm_M_pair (cP [.ref d, .int k, .int z] (KG ev) H0) (cQe (fun r H1 => ((okS z) ∧ r = .int (if k < 0 then -1 else if k < nI v.1 then (if z = 0 then v.2.1 (nn k) else v.2.2 (nn k)) else -1) ∧ MW ev d 0 u kp v H1 ∨ (¬ okS z) ∧ r = .int 0 ∧ MW ev d 1 u kp v H1) ∧ Blk d (d + 16) H0 H1)) 0 0 (inBk d (d + 16)) := by
  refine cHead [.ref d, .int k, .int z] (by decide) rfl (Nat.le_of_ble_eq_true rfl) ?_
  intro p e s m below meth c ls args QQ hQ S hr hlk hnm hs hK hl
  have S : CallFix p m c mb_M_pair 3 s args TB "RuleChoiceModel" := S
  obtain ⟨hx, hb, hml, hown, hts⟩ := id S
  obtain ⟨m0, m1, m2, m3, m4, m5, m6, m7, m8, m9, m10, m11, m12, m13, m14, m15, hxb, hv7⟩ := id hm
  have hr40 : u.1.2.1 ≤ 40 := hxb.1
  have ha12 : u.1.2.2.1 ≤ 12 := hxb.2.1
  have ht40 : u.1.2.2.2.1 ≤ 40 := hxb.2.2.1
  have hl : lv_has ls 3 [(0, .ref d), (1, .int k), (2, .int z)] := hl
  refine lv_aload_n hx hb d_M_pair_0 rfl (lv_at hl 0 rfl) ?_
  refine lv_iload_n hx hb d_M_pair_1 rfl (lv_at hl 2 rfl) ?_
  refine lv_if_eq (tgt := 10) hx hb d_M_pair_2 (by decide) (fun c2 => ?_) (fun c2 => ?_)
  · refine lv_iconst (v := 0) hx hb d_M_pair_10 (by decide) ?_
    refine lv_goto (tgt := 15) hx hb d_M_pair_11 (by decide) ?_
    refine rw_put hx hb hts in_M ck_M ok_M nm_M hown hK.1 m0 rfl 0 (by decide) (hts _ fl_M_61) rfl (ok_M 0 (by decide)) rfl rfl (Nat.le_of_ble_eq_true rfl) (⟨Nat.le_refl _, by omega⟩) (A := inBk d (d + 16)) cNil d_M_pair_15 (fun H1 L2 z3 o4 hat5 hL6 => ?_)
    have hm := MW_th (th' := 0) hm hat5 o4
    obtain ⟨m0, m1, m2, m3, m4, m5, m6, m7, m8, m9, m10, m11, m12, m13, m14, m15, hxb, hv7⟩ := id hm
    have hB := (Blk.one z3 o4).wide (lo' := d) (hi' := d + 16) (by omega) (by omega)
    have hok : okS z := by (try simp only [Classical.not_not, bI_eq, bI_ne, ask_t, ask_f, kB_t, kB_f, cB_t, cB_f, lB_t, lB_f, iB_t, iB_f, pB_t, pB_f] at c2); simp [okS, c2]
    refine lv_aload_n hx hb d_M_pair_18 rfl (lv_at hl 0 rfl) ?_
    refine rw_get hx hb hts in_M hown hK.1 m0 rfl 0 (by decide) (hts _ fl_M_61) rfl d_M_pair_19 ?_
    refine lv_if_eq (tgt := 27) hx hb d_M_pair_22 (by decide) (fun c22 => ?_) (fun c22 => ?_)
    · refine lv_iload_n hx hb d_M_pair_27 rfl (lv_at hl 1 rfl) ?_
      refine lv_if_lt (tgt := 39) hx hb d_M_pair_28 (by decide) (fun c28 => ?_) (fun c28 => ?_)
      · refine lv_iconst (v := (-1)) hx hb d_M_pair_39 (by decide) ?_
        exact re_i hQ hx hb hr hlk (rfl) (⟨Or.inl ⟨hok, by simp [c28], hm⟩, hB⟩) hL6 (Nat.le_of_ble_eq_true rfl) (Nat.le_of_ble_eq_true rfl) d_M_pair_40
      · refine lv_iload_n hx hb d_M_pair_31 rfl (lv_at hl 1 rfl) ?_
        refine lv_aload_n hx hb d_M_pair_32 rfl (lv_at hl 0 rfl) ?_
        refine rw_get hx hb hts in_M hown hK.1 m0 rfl 19 (by decide) (hts _ fl_M_149) rfl d_M_pair_33 ?_
        refine lv_icmp_lt (tgt := 41) hx hb d_M_pair_36 (by decide) (fun c36 => ?_) (fun c36 => ?_)
        · obtain ⟨i, hi, rfl⟩ := okI_ix (Nat.lt_of_le_of_lt hv7 (by decide)) ⟨c28, c36⟩
          have hi780 : i < 780 := Nat.lt_of_lt_of_le hi hv7
          simp only [nn_nI (i := i) (by omega), if_neg c28, if_pos c36] at hQ
          refine lv_iload_n hx hb d_M_pair_41 rfl (lv_at hl 2 rfl) ?_
          refine lv_if_ne (tgt := 54) hx hb d_M_pair_42 (by decide) (fun c42 => ?_) (fun c42 => ?_)
          · refine lv_aload_n hx hb d_M_pair_54 rfl (lv_at hl 0 rfl) ?_
            refine rw_get hx hb hts in_M hown hK.1 m0 rfl 21 (by decide) (hts _ fl_M_54) rfl d_M_pair_55 ?_
            refine lv_iload_n hx hb d_M_pair_58 rfl (lv_at hl 1 rfl) ?_
            refine rw_iald hx hb hK.1 0 m15 rfl i (rfl) (hi780) (by decide) d_M_pair_59 ?_
            exact re_i hQ hx hb hr hlk (rfl) (⟨Or.inl ⟨hok, by rw [if_neg c42], hm⟩, hB⟩) hL6 (Nat.le_of_ble_eq_true rfl) (Nat.le_of_ble_eq_true rfl) d_M_pair_60
          · refine lv_aload_n hx hb d_M_pair_45 rfl (lv_at hl 0 rfl) ?_
            refine rw_get hx hb hts in_M hown hK.1 m0 rfl 20 (by decide) (hts _ fl_M_51) rfl d_M_pair_46 ?_
            refine lv_iload_n hx hb d_M_pair_49 rfl (lv_at hl 1 rfl) ?_
            refine rw_iald hx hb hK.1 0 m14 rfl i (rfl) (hi780) (by decide) d_M_pair_50 ?_
            refine lv_goto (tgt := 60) hx hb d_M_pair_51 (by decide) ?_
            exact re_i hQ hx hb hr hlk (rfl) (⟨Or.inl ⟨hok, by rw [if_pos c42], hm⟩, hB⟩) hL6 (Nat.le_of_ble_eq_true rfl) (Nat.le_of_ble_eq_true rfl) d_M_pair_60
        · refine lv_iconst (v := (-1)) hx hb d_M_pair_39 (by decide) ?_
          exact re_i hQ hx hb hr hlk (rfl) (⟨Or.inl ⟨hok, by simp [c28, c36], hm⟩, hB⟩) hL6 (Nat.le_of_ble_eq_true rfl) (Nat.le_of_ble_eq_true rfl) d_M_pair_40
    · exact absurd c22 (by decide)
  · refine lv_iload_n hx hb d_M_pair_5 rfl (lv_at hl 2 rfl) ?_
    refine lv_iconst (v := 1) hx hb d_M_pair_6 (by decide) ?_
    refine lv_icmp_ne (tgt := 14) hx hb d_M_pair_7 (by decide) (fun c7 => ?_) (fun c7 => ?_)
    · refine lv_iconst (v := 1) hx hb d_M_pair_14 (by decide) ?_
      refine rw_put hx hb hts in_M ck_M ok_M nm_M hown hK.1 m0 rfl 0 (by decide) (hts _ fl_M_61) rfl (ok_M 0 (by decide)) rfl rfl (Nat.le_of_ble_eq_true rfl) (⟨Nat.le_refl _, by omega⟩) (A := inBk d (d + 16)) cNil d_M_pair_15 (fun H7 L8 z9 o10 hat11 hL12 => ?_)
      have hm := MW_th (th' := 1) hm hat11 o10
      obtain ⟨m0, m1, m2, m3, m4, m5, m6, m7, m8, m9, m10, m11, m12, m13, m14, m15, hxb, hv7⟩ := id hm
      have hB := (Blk.one z9 o10).wide (lo' := d) (hi' := d + 16) (by omega) (by omega)
      have hbad : ¬ okS z := by (try simp only [Classical.not_not, bI_eq, bI_ne, ask_t, ask_f, kB_t, kB_f, cB_t, cB_f, lB_t, lB_f, iB_t, iB_f, pB_t, pB_f] at c2 c7); simp [okS, c2, c7]
      refine lv_aload_n hx hb d_M_pair_18 rfl (lv_at hl 0 rfl) ?_
      refine rw_get hx hb hts in_M hown hK.1 m0 rfl 0 (by decide) (hts _ fl_M_61) rfl d_M_pair_19 ?_
      refine lv_if_eq (tgt := 27) hx hb d_M_pair_22 (by decide) (fun c22 => ?_) (fun c22 => ?_)
      · exact absurd c22 (by decide)
      · refine lv_iconst (v := 0) hx hb d_M_pair_25 (by decide) ?_
        exact re_i hQ hx hb hr hlk (rfl) (⟨Or.inr ⟨hbad, rfl, hm⟩, hB⟩) hL12 (Nat.le_of_ble_eq_true rfl) (Nat.le_of_ble_eq_true rfl) d_M_pair_26
    · refine lv_iconst (v := 0) hx hb d_M_pair_10 (by decide) ?_
      refine lv_goto (tgt := 15) hx hb d_M_pair_11 (by decide) ?_
      refine rw_put hx hb hts in_M ck_M ok_M nm_M hown hK.1 m0 rfl 0 (by decide) (hts _ fl_M_61) rfl (ok_M 0 (by decide)) rfl rfl (Nat.le_of_ble_eq_true rfl) (⟨Nat.le_refl _, by omega⟩) (A := inBk d (d + 16)) cNil d_M_pair_15 (fun H13 L14 z15 o16 hat17 hL18 => ?_)
      have hm := MW_th (th' := 0) hm hat17 o16
      obtain ⟨m0, m1, m2, m3, m4, m5, m6, m7, m8, m9, m10, m11, m12, m13, m14, m15, hxb, hv7⟩ := id hm
      have hB := (Blk.one z15 o16).wide (lo' := d) (hi' := d + 16) (by omega) (by omega)
      have hok : okS z := by (try simp only [Classical.not_not, bI_eq, bI_ne, ask_t, ask_f, kB_t, kB_f, cB_t, cB_f, lB_t, lB_f, iB_t, iB_f, pB_t, pB_f] at c2 c7); simp [okS, c2, c7]
      refine lv_aload_n hx hb d_M_pair_18 rfl (lv_at hl 0 rfl) ?_
      refine rw_get hx hb hts in_M hown hK.1 m0 rfl 0 (by decide) (hts _ fl_M_61) rfl d_M_pair_19 ?_
      refine lv_if_eq (tgt := 27) hx hb d_M_pair_22 (by decide) (fun c22 => ?_) (fun c22 => ?_)
      · refine lv_iload_n hx hb d_M_pair_27 rfl (lv_at hl 1 rfl) ?_
        refine lv_if_lt (tgt := 39) hx hb d_M_pair_28 (by decide) (fun c28 => ?_) (fun c28 => ?_)
        · refine lv_iconst (v := (-1)) hx hb d_M_pair_39 (by decide) ?_
          exact re_i hQ hx hb hr hlk (rfl) (⟨Or.inl ⟨hok, by simp [c28], hm⟩, hB⟩) hL18 (Nat.le_of_ble_eq_true rfl) (Nat.le_of_ble_eq_true rfl) d_M_pair_40
        · refine lv_iload_n hx hb d_M_pair_31 rfl (lv_at hl 1 rfl) ?_
          refine lv_aload_n hx hb d_M_pair_32 rfl (lv_at hl 0 rfl) ?_
          refine rw_get hx hb hts in_M hown hK.1 m0 rfl 19 (by decide) (hts _ fl_M_149) rfl d_M_pair_33 ?_
          refine lv_icmp_lt (tgt := 41) hx hb d_M_pair_36 (by decide) (fun c36 => ?_) (fun c36 => ?_)
          · obtain ⟨i, hi, rfl⟩ := okI_ix (Nat.lt_of_le_of_lt hv7 (by decide)) ⟨c28, c36⟩
            have hi780 : i < 780 := Nat.lt_of_lt_of_le hi hv7
            simp only [nn_nI (i := i) (by omega), if_neg c28, if_pos c36] at hQ
            refine lv_iload_n hx hb d_M_pair_41 rfl (lv_at hl 2 rfl) ?_
            refine lv_if_ne (tgt := 54) hx hb d_M_pair_42 (by decide) (fun c42 => ?_) (fun c42 => ?_)
            · refine lv_aload_n hx hb d_M_pair_54 rfl (lv_at hl 0 rfl) ?_
              refine rw_get hx hb hts in_M hown hK.1 m0 rfl 21 (by decide) (hts _ fl_M_54) rfl d_M_pair_55 ?_
              refine lv_iload_n hx hb d_M_pair_58 rfl (lv_at hl 1 rfl) ?_
              refine rw_iald hx hb hK.1 0 m15 rfl i (rfl) (hi780) (by decide) d_M_pair_59 ?_
              exact re_i hQ hx hb hr hlk (rfl) (⟨Or.inl ⟨hok, by rw [if_neg c42], hm⟩, hB⟩) hL18 (Nat.le_of_ble_eq_true rfl) (Nat.le_of_ble_eq_true rfl) d_M_pair_60
            · refine lv_aload_n hx hb d_M_pair_45 rfl (lv_at hl 0 rfl) ?_
              refine rw_get hx hb hts in_M hown hK.1 m0 rfl 20 (by decide) (hts _ fl_M_51) rfl d_M_pair_46 ?_
              refine lv_iload_n hx hb d_M_pair_49 rfl (lv_at hl 1 rfl) ?_
              refine rw_iald hx hb hK.1 0 m14 rfl i (rfl) (hi780) (by decide) d_M_pair_50 ?_
              refine lv_goto (tgt := 60) hx hb d_M_pair_51 (by decide) ?_
              exact re_i hQ hx hb hr hlk (rfl) (⟨Or.inl ⟨hok, by rw [if_pos c42], hm⟩, hB⟩) hL18 (Nat.le_of_ble_eq_true rfl) (Nat.le_of_ble_eq_true rfl) d_M_pair_60
          · refine lv_iconst (v := (-1)) hx hb d_M_pair_39 (by decide) ?_
            exact re_i hQ hx hb hr hlk (rfl) (⟨Or.inl ⟨hok, by simp [c28, c36], hm⟩, hB⟩) hL18 (Nat.le_of_ble_eq_true rfl) (Nat.le_of_ble_eq_true rfl) d_M_pair_40
      · exact absurd c22 (by decide)
def rm_M_spared : Room := { frames := 0, cells := 0, slots := 0, locals := 0 }
set_option maxRecDepth 100000 in
set_option maxHeartbeats 4000000 in
theorem c_M_spared {l : Launch} {ev : EV} {H0 : Heap} {d : Nat} {th : Int32} {u : XS} {kp : KT} {v : PT} (hm : MW ev d th u kp v H0) : Met l my_M_spared mw_M_spared rm_M_spared (cP [.ref d] (KG ev) H0) (cQd (some (.long u.1.2.2.2.2)) (fun H1 => MW ev d 0 u kp v H1 ∧ Blk d (d + 16) H0 H1)) 0 0 (inBk d (d + 16)) := by
  refine cHead [.ref d] (by decide) rfl (Nat.le_of_ble_eq_true rfl) ?_
  intro p e s m below meth c ls args QQ hQ S hr hlk hnm hs hK hl
  have S : CallFix p m c mb_M_spared 1 s args TB "RuleChoiceModel" := S
  obtain ⟨hx, hb, hml, hown, hts⟩ := id S
  obtain ⟨m0, m1, m2, m3, m4, m5, m6, m7, m8, m9, m10, m11, m12, m13, m14, m15, hxb, hv7⟩ := id hm
  have hl : lv_has ls 1 [(0, .ref d)] := hl
  refine lv_aload_n hx hb d_M_spared_0 rfl (lv_at hl 0 rfl) ?_
  refine lv_iconst (v := 0) hx hb d_M_spared_1 (by decide) ?_
  refine rw_put hx hb hts in_M ck_M ok_M nm_M hown hK.1 m0 rfl 0 (by decide) (hts _ fl_M_61) rfl (ok_M 0 (by decide)) rfl rfl (Nat.le_of_ble_eq_true rfl) (⟨Nat.le_refl _, by omega⟩) (A := inBk d (d + 16)) cNil d_M_spared_2 (fun H1 L2 z3 o4 hat5 hL6 => ?_)
  have hm := MW_th (th' := 0) hm hat5 o4
  obtain ⟨m0, m1, m2, m3, m4, m5, m6, m7, m8, m9, m10, m11, m12, m13, m14, m15, hxb, hv7⟩ := id hm
  have hB := (Blk.one z3 o4).wide (lo' := d) (hi' := d + 16) (by omega) (by omega)
  have hok : True := trivial
  refine lv_aload_n hx hb d_M_spared_5 rfl (lv_at hl 0 rfl) ?_
  refine rw_get hx hb hts in_M hown hK.1 m0 rfl 18 (by decide) (hts _ fl_M_132) rfl d_M_spared_6 ?_
  exact rt_dl hQ hx hb hr hlk rfl ⟨hm, hB⟩ hL6 (Nat.le_of_ble_eq_true rfl) (Nat.le_of_ble_eq_true rfl) d_M_spared_9
def rm_M_kept : Room := { frames := 0, cells := 0, slots := 0, locals := 0 }
set_option maxRecDepth 100000 in
set_option maxHeartbeats 4000000 in
theorem c_M_kept {l : Launch} {ev : EV} {H0 : Heap} {d : Nat} {th : Int32} {u : XS} {kp : KT} {v : PT} (hm : MW ev d th u kp v H0) : Met l my_M_kept mw_M_kept rm_M_kept (cP [.ref d] (KG ev) H0) (cQd (some (.int (nI (kcF kp)))) (fun H1 => MW ev d 0 u kp v H1 ∧ Blk d (d + 16) H0 H1)) 0 0 (inBk d (d + 16)) := by
  refine cHead [.ref d] (by decide) rfl (Nat.le_of_ble_eq_true rfl) ?_
  intro p e s m below meth c ls args QQ hQ S hr hlk hnm hs hK hl
  have S : CallFix p m c mb_M_kept 3 s args TB "RuleChoiceModel" := S
  obtain ⟨hx, hb, hml, hown, hts⟩ := id S
  obtain ⟨m0, m1, m2, m3, m4, m5, m6, m7, m8, m9, m10, m11, m12, m13, m14, m15, hxb, hv7⟩ := id hm
  have hl : lv_has ls 3 [(0, .ref d)] := hl
  refine lv_aload_n hx hb d_M_kept_0 rfl (lv_at hl 0 rfl) ?_
  refine lv_iconst (v := 0) hx hb d_M_kept_1 (by decide) ?_
  refine rw_put hx hb hts in_M ck_M ok_M nm_M hown hK.1 m0 rfl 0 (by decide) (hts _ fl_M_61) rfl (ok_M 0 (by decide)) rfl rfl (Nat.le_of_ble_eq_true rfl) (⟨Nat.le_refl _, by omega⟩) (A := inBk d (d + 16)) cNil d_M_kept_2 (fun H1 L2 z3 o4 hat5 hL6 => ?_)
  have hm := MW_th (th' := 0) hm hat5 o4
  obtain ⟨m0, m1, m2, m3, m4, m5, m6, m7, m8, m9, m10, m11, m12, m13, m14, m15, hxb, hv7⟩ := id hm
  have hB := (Blk.one z3 o4).wide (lo' := d) (hi' := d + 16) (by omega) (by omega)
  have hok : True := trivial
  refine lv_iconst (v := 0) hx hb d_M_kept_5 (by decide) ?_
  refine lv_istore_n (lv' := [(1, .int 0), (0, .ref d)]) hx hb d_M_kept_6 rfl hl (by decide) rfl (fun ls hl => ?_)
  refine lv_iconst (v := 0) hx hb d_M_kept_7 (by decide) ?_
  refine lv_istore_n (lv' := [(2, .int 0), (1, .int 0), (0, .ref d)]) hx hb d_M_kept_8 rfl hl (by decide) rfl (fun ls hl => ?_)
  have LP : ∀ (n i : Nat) (bs : Int32) (ls : Array Slot), bs = nI (cntF (kbF kp) i) → i ≤ 9600 → 9600 - i < n → lv_has ls 3 [(0, .ref d), (1, .int bs), (2, .int (nI i))] → W p l e rm_M_kept s m args below meth c H1 L2 0 0 QQ (F0 m 9 ls []) := by
    intro n
    induction n with
    | zero => intro i bs ls _ h2 h3; exact absurd h3 (by omega)
    | succ n ih =>
      intro i bs ls ebs hle hn hl
      refine lv_iload_n hx hb d_M_kept_9 rfl (lv_at hl 2 rfl) ?_
      refine lv_sipush (v := 9600) hx hb d_M_kept_10 (by decide) ?_
      refine lv_icmp_ge (tgt := 39) hx hb d_M_kept_13 (by decide) (fun c13 => ?_) (fun c13 => ?_)
      · refine lv_iload_n hx hb d_M_kept_39 rfl (lv_at hl 1 rfl) ?_
        exact rt_di hQ hx hb hr hlk rfl (by rw [ebs, show i = 9600 from Nat.le_antisymm hle (Nat.not_lt.mp (fun h => absurd c13 (nI_ge (b := 9600) h (by decide))))]; rfl) ⟨hm, hB⟩ hL6 (Nat.le_of_ble_eq_true rfl) (Nat.le_of_ble_eq_true rfl) d_M_kept_40
      · have hi : i < 9600 := Nat.not_le.mp (fun h => c13 (nI_le (a := 9600) h (by omega)))
        refine lv_iload_n hx hb d_M_kept_16 rfl (lv_at hl 1 rfl) ?_
        refine lv_aload_n hx hb d_M_kept_17 rfl (lv_at hl 0 rfl) ?_
        refine rw_get hx hb hts in_M hown hK.1 m0 rfl 17 (by decide) (hts _ fl_M_47) rfl d_M_kept_18 ?_
        refine lv_iload_n hx hb d_M_kept_21 rfl (lv_at hl 2 rfl) ?_
        refine rw_zald hx hb hK.1 2 m13 rfl i (rfl) (hi) (by decide) d_M_kept_22 ?_
        refine lv_if_eq (tgt := 30) hx hb d_M_kept_23 (by decide) (fun c23 => ?_) (fun c23 => ?_)
        · refine lv_iconst (v := 0) hx hb d_M_kept_30 (by decide) ?_
          refine lv_iadd hx hb d_M_kept_31 ?_
          refine lv_istore_n (lv' := [(1, .int (bs + 0)), (0, .ref d), (2, .int (nI i))]) hx hb d_M_kept_32 rfl hl (by decide) rfl (fun ls hl => ?_)
          refine lv_iinc (v := (nI (i + 1))) (lv' := [(2, .int (nI (i + 1))), (1, .int (bs + 0)), (0, .ref d)]) hx hb d_M_kept_33 hl (k := 2) rfl ((nI_1 i)) (by decide) rfl (fun ls hl => ?_)
          refine lv_goto (tgt := 9) hx hb d_M_kept_36 (by decide) ?_
          exact ih (i + 1) _ ls (by rw [cntF, if_pos c23, ebs]; simp) (by omega) (by omega) (lv_sub hl [2, 1, 0] rfl)
        · refine lv_iconst (v := 1) hx hb d_M_kept_26 (by decide) ?_
          refine lv_goto (tgt := 31) hx hb d_M_kept_27 (by decide) ?_
          refine lv_iadd hx hb d_M_kept_31 ?_
          refine lv_istore_n (lv' := [(1, .int (bs + 1)), (0, .ref d), (2, .int (nI i))]) hx hb d_M_kept_32 rfl hl (by decide) rfl (fun ls hl => ?_)
          refine lv_iinc (v := (nI (i + 1))) (lv' := [(2, .int (nI (i + 1))), (1, .int (bs + 1)), (0, .ref d)]) hx hb d_M_kept_33 hl (k := 2) rfl ((nI_1 i)) (by decide) rfl (fun ls hl => ?_)
          refine lv_goto (tgt := 9) hx hb d_M_kept_36 (by decide) ?_
          exact ih (i + 1) _ ls (by rw [cntF, if_neg c23, ebs]; exact nI_1 _) (by omega) (by omega) (lv_sub hl [2, 1, 0] rfl)
  exact LP _ 0 _ ls rfl (Nat.zero_le _) (Nat.lt_succ_self _) (lv_sub hl [2, 1, 0] rfl)
