def rm_X_listed : Room := { frames := 8, cells := 3, slots := 18, locals := 127 }
set_option maxRecDepth 100000 in
set_option maxHeartbeats 4000000 in
theorem c_X_listed {l : Launch} {ev : EV} {H0 : Heap} {b : Nat} {u : XS} {kp : KT} {v : PT} (hT : l.stackTraces = false) (hf : XF ev b u kp v H0) (k x y z : Int32) : vx_Met l my_X_listed mw_X_listed rm_X_listed (cP [.ref b, .int k, .int x, .int y, .int z] (KG ev) H0) (cQod (okK k ∧ okI u.1.2.2.2.1 x ∧ okI u.1.2.2.2.1 y) (some (.int (if z < 0 then -1 else if z < nI u.1.2.1 then oI (lisU u (nn k) (nn x) (nn y) (nn z)) else -1))) (fun H1 => XF ev b u kp v H1 ∧ Frm b 101 H0 H1)) (cX (fun E H1 => (¬ (okK k ∧ okI u.1.2.2.2.1 x ∧ okI u.1.2.2.2.1 y)) ∧ E = cIX ∧ XF ev b u kp v H1 ∧ Frm b 101 H0 H1)) 3 18 (inBk b (b + 101)) := by
  refine cHeadX [.ref b, .int k, .int x, .int y, .int z] (by decide) rfl (Nat.le_of_ble_eq_true rfl) ?_
  intro p e s m below meth c ls args QQ hQ htab S hr hlk hnm hs hK hl
  have S : CallFix p m c mb_X_listed 7 s args TB "RuleChoice" := S
  obtain ⟨hx, hb, hml, hown, hts⟩ := id S
  obtain ⟨hw, ⟨sl, hkp, hn⟩, hp, hO, hz⟩ := id hf
  have hold := hO
  have ht40 : u.1.2.2.2.1 ≤ 40 := hw.2.2.2.2.2.2.1
  have hr40 : u.1.2.1 ≤ 40 := hw.2.2.2.2.1
  have ha12 : u.1.2.2.1 ≤ 12 := hw.2.2.2.2.2.1
  have hl : lv_has ls 7 [(0, .ref b), (1, .int k), (2, .int x), (3, .int y), (4, .int z)] := hl
  refine lv_aload_n hx hb d_X_listed_0 rfl (lv_at hl 0 rfl) ?_
  refine lv_iload_n hx hb d_X_listed_1 rfl (lv_at hl 1 rfl) ?_
  refine lv_iload_n hx hb d_X_listed_2 rfl (lv_at hl 2 rfl) ?_
  refine lv_iload_n hx hb d_X_listed_3 rfl (lv_at hl 3 rfl) ?_
  refine cx_v (vx_runV (As := [.int k, .int x, .int y]) (rest := []) S (c_X_needKindAndThings hT hold hw k x y) (cwV 3 hts gv_X_152 rfl rfl rfl (by decide +kernel) ⟨Nat.le_of_ble_eq_true rfl, Nat.le_of_ble_eq_true rfl⟩) (cP_V (KG_ok _) hK hK.1 hw.1 rfl) rfl rfl hl.1 rfl (lv_room (Nat.le_of_ble_eq_true rfl)) d_X_listed_4 ⟨Nat.le_of_ble_eq_true rfl, Nat.le_of_ble_eq_true rfl⟩) (A := inBk b (b + 101)) cNil (fun E1 H2 ce3 q4 L5 hp6 hL7 h8 h9 h10 => ?_) (fun k11 => ?_)
  · exact cx_out hQ htab hlk h8 h9 h10 (⟨hp6.1, hp6.2.1, XF_ext hf hp6.2.2, Frm.ext hp6.2.2⟩) hL7 (Nat.le_of_ble_eq_true rfl) (Nat.le_of_ble_eq_true rfl)
  · obtain ⟨kk, hkk, rfl⟩ := okK_ix k11.1
    obtain ⟨j, hnj, hj, rfl⟩ := okIdx hw.2.2.2.2.2.2.1 k11.2.1
    obtain ⟨j2, hnj2, hj2, rfl⟩ := okIdx hw.2.2.2.2.2.2.1 k11.2.2
    simp only [nn_nI (i := kk) (by omega), nn_nI (i := j) (by omega), nn_nI (i := j2) (by omega)] at hQ
    refine lv_iload hx hb d_X_listed_7 (lv_at hl 4 rfl) ?_
    refine lv_if_lt (tgt := 21) hx hb d_X_listed_9 (by decide) (fun c9 => ?_) (fun c9 => ?_)
    · refine lv_iconst (v := (-1)) hx hb d_X_listed_21 (by decide) ?_
      exact ry_i hQ (⟨okI_of (n := 6) (by decide) hkk, okI_of (by omega) hnj, okI_of (by omega) hnj2⟩) hx hb hr hlk (rfl) (by simp [c9]) (⟨hf, Frm.ext Ext.rf⟩) cNil (Nat.le_of_ble_eq_true rfl) (Nat.le_of_ble_eq_true rfl) d_X_listed_22
    · refine lv_iload hx hb d_X_listed_12 (lv_at hl 4 rfl) ?_
      refine lv_aload_n hx hb d_X_listed_14 rfl (lv_at hl 0 rfl) ?_
      refine rw_get hx hb hts in_X hown hK.1 hw.1 rfl 6 (by decide) (hts _ fl_X_71) rfl d_X_listed_15 ?_
      refine lv_icmp_lt (tgt := 23) hx hb d_X_listed_18 (by decide) (fun c18 => ?_) (fun c18 => ?_)
      · obtain ⟨n9, hn9, hm9, rfl⟩ := okIdx hr40 ⟨c9, c18⟩
        simp only [nn_nI (i := n9) (by omega), if_neg c9, if_pos c18] at hQ
        refine lv_aload_n hx hb d_X_listed_23 rfl (lv_at hl 0 rfl) ?_
        refine lv_iconst (v := (-1)) hx hb d_X_listed_24 (by decide) ?_
        refine lv_iload_n hx hb d_X_listed_25 rfl (lv_at hl 1 rfl) ?_
        refine lv_aload_n hx hb d_X_listed_26 rfl (lv_at hl 0 rfl) ?_
        refine rw_get hx hb hts in_X hown hK.1 hw.1 rfl 3 (by decide) (hts _ fl_X_38) rfl d_X_listed_27 ?_
        refine lv_iload_n hx hb d_X_listed_30 rfl (lv_at hl 2 rfl) ?_
        refine rw_aald hx hb hK.1 5 hw.2.2.2.1.1 rfl j (rfl) (hj) (by decide) rfl d_X_listed_31 ?_
        refine lv_aload_n hx hb d_X_listed_32 rfl (lv_at hl 0 rfl) ?_
        refine rw_get hx hb hts in_X hown hK.1 hw.1 rfl 3 (by decide) (hts _ fl_X_38) rfl d_X_listed_33 ?_
        refine lv_iload_n hx hb d_X_listed_36 rfl (lv_at hl 3 rfl) ?_
        refine rw_aald hx hb hK.1 5 hw.2.2.2.1.1 rfl j2 (rfl) (hj2) (by decide) rfl d_X_listed_37 ?_
        refine cl_i (W.runV (As := [.int (-1), .int (nI kk), .ref (b + 56 + j), .ref (b + 56 + j2)]) (rest := []) S (c_X_bestBelow hw (up := none) (j := j) (k := j2) (fun _ h => by cases h) (hj) (hj2) (nI kk)) (cwV 4 hts gv_X_164 rfl rfl rfl (by decide +kernel) ⟨Nat.le_of_ble_eq_true rfl, Nat.le_of_ble_eq_true rfl⟩) (cP_V (KG_ok _) hK hK.1 hw.1 rfl) rfl rfl hl.1 rfl (lv_room (Nat.le_of_ble_eq_true rfl)) d_X_listed_38 ⟨Nat.le_of_ble_eq_true rfl, Nat.le_of_ble_eq_true rfl⟩) ?_
        refine lv_istore (lv' := [(5, .int (oI (besF u.2.1 u.2.2.1 none (nI kk) (u.2.2.2 j) (u.2.2.2 j2) u.1.2.1))), (0, .ref b), (1, .int (nI kk)), (2, .int (nI j)), (3, .int (nI j2)), (4, .int (nI n9))]) hx hb d_X_listed_41 hl (by decide) rfl (fun ls hl => ?_)
        refine lv_iconst (v := 0) hx hb d_X_listed_43 (by decide) ?_
        refine lv_istore (lv' := [(6, .int 0), (5, .int (oI (besF u.2.1 u.2.2.1 none (nI kk) (u.2.2.2 j) (u.2.2.2 j2) u.1.2.1))), (0, .ref b), (1, .int (nI kk)), (2, .int (nI j)), (3, .int (nI j2)), (4, .int (nI n9))]) hx hb d_X_listed_44 hl (by decide) rfl (fun ls hl => ?_)
        have LP : ∀ (n i : Nat) (bs : Int32) (ls : Array Slot), bs = oI (lisU u kk j j2 i) → i ≤ n9 → n9 - i < n → lv_has ls 7 [(0, .ref b), (1, .int (nI kk)), (2, .int (nI j)), (3, .int (nI j2)), (4, .int (nI n9)), (5, .int bs), (6, .int (nI i))] → W p l e rm_X_listed s m args below meth c H0 [] (0 + 3) (0 + 18) QQ (F0 m 46 ls []) := by
          intro n
          induction n with
          | zero => intro i bs ls h1 h2 h3; exact absurd h3 (by omega)
          | succ n ih =>
            intro i bs ls ebs hle hlt9 hl
            refine lv_iload hx hb d_X_listed_46 (lv_at hl 6 rfl) ?_
            refine lv_iload hx hb d_X_listed_48 (lv_at hl 4 rfl) ?_
            refine lv_icmp_ge (tgt := 86) hx hb d_X_listed_50 (by decide) (fun c50 => ?_) (fun c50 => ?_)
            · refine lv_iload hx hb d_X_listed_86 (lv_at hl 5 rfl) ?_
              exact ry_i hQ (⟨okI_of (n := 6) (by decide) hkk, okI_of (by omega) hnj, okI_of (by omega) hnj2⟩) hx hb hr hlk (rfl) (by rw [ebs]; congr 2; exact Nat.le_antisymm hle (Nat.not_lt.mp (fun h => absurd c50 (nI_ge h (by omega))))) (⟨hf, Frm.ext Ext.rf⟩) cNil (Nat.le_of_ble_eq_true rfl) (Nat.le_of_ble_eq_true rfl) d_X_listed_88
            · have hin : i < n9 := Nat.not_le.mp (fun h => c50 (nI_le h (by omega)))
              refine lv_iload hx hb d_X_listed_53 (lv_at hl 5 rfl) ?_
              refine lv_iconst (v := (-1)) hx hb d_X_listed_55 (by decide) ?_
              refine lv_icmp_eq (tgt := 86) hx hb d_X_listed_56 (by decide) (fun c56 => ?_) (fun c56 => ?_)
              · refine lv_iload hx hb d_X_listed_86 (lv_at hl 5 rfl) ?_
                have g56 : lisU u kk j j2 i = none := oI_m1 (fun a h => Nat.lt_trans (lis_40 hr40 i a h) (by decide)) (by rw [← ebs]; exact c56)
                exact ry_i hQ (⟨okI_of (n := 6) (by decide) hkk, okI_of (by omega) hnj, okI_of (by omega) hnj2⟩) hx hb hr hlk (rfl) (by rw [ebs, g56, show n9 = i + (n9 - i) by omega, lis_n g56]) (⟨hf, Frm.ext Ext.rf⟩) cNil (Nat.le_of_ble_eq_true rfl) (Nat.le_of_ble_eq_true rfl) d_X_listed_88
              · obtain ⟨j9, gj⟩ : ∃ a, lisU u kk j j2 i = some a := oI_no (by rw [← ebs]; exact c56)
                have hj9 : j9 < 40 := lis_40 hr40 i j9 gj
                have ej9 : bs = oI (some j9) := by rw [ebs, gj]
                subst ej9
                refine lv_aload_n hx hb d_X_listed_59 rfl (lv_at hl 0 rfl) ?_
                refine lv_iload hx hb d_X_listed_60 (lv_at hl 5 rfl) ?_
                refine lv_iload_n hx hb d_X_listed_62 rfl (lv_at hl 1 rfl) ?_
                refine lv_aload_n hx hb d_X_listed_63 rfl (lv_at hl 0 rfl) ?_
                refine rw_get hx hb hts in_X hown hK.1 hw.1 rfl 3 (by decide) (hts _ fl_X_38) rfl d_X_listed_64 ?_
                refine lv_iload_n hx hb d_X_listed_67 rfl (lv_at hl 2 rfl) ?_
                refine rw_aald hx hb hK.1 5 hw.2.2.2.1.1 rfl j (rfl) (hj) (by decide) rfl d_X_listed_68 ?_
                refine lv_aload_n hx hb d_X_listed_69 rfl (lv_at hl 0 rfl) ?_
                refine rw_get hx hb hts in_X hown hK.1 hw.1 rfl 3 (by decide) (hts _ fl_X_38) rfl d_X_listed_70 ?_
                refine lv_iload_n hx hb d_X_listed_73 rfl (lv_at hl 3 rfl) ?_
                refine rw_aald hx hb hK.1 5 hw.2.2.2.1.1 rfl j2 (rfl) (hj2) (by decide) rfl d_X_listed_74 ?_
                refine cl_i (W.runV (As := [.int (oI (some j9)), .int (nI kk), .ref (b + 56 + j), .ref (b + 56 + j2)]) (rest := []) S (c_X_bestBelow hw (up := (some j9)) (j := j) (k := j2) (fun a h => by cases h; exact hj9) (hj) (hj2) (nI kk)) (cwV 4 hts gv_X_164 rfl rfl rfl (by decide +kernel) ⟨Nat.le_of_ble_eq_true rfl, Nat.le_of_ble_eq_true rfl⟩) (cP_V (KG_ok _) hK hK.1 hw.1 rfl) rfl rfl hl.1 rfl (lv_room (Nat.le_of_ble_eq_true rfl)) d_X_listed_75 ⟨Nat.le_of_ble_eq_true rfl, Nat.le_of_ble_eq_true rfl⟩) ?_
                refine lv_istore (lv' := [(5, .int (oI (besF u.2.1 u.2.2.1 (some j9) (nI kk) (u.2.2.2 j) (u.2.2.2 j2) u.1.2.1))), (0, .ref b), (1, .int (nI kk)), (2, .int (nI j)), (3, .int (nI j2)), (4, .int (nI n9)), (6, .int (nI i))]) hx hb d_X_listed_78 hl (by decide) rfl (fun ls hl => ?_)
                refine lv_iinc (v := (nI (i + 1))) (lv' := [(6, .int (nI (i + 1))), (5, .int (oI (besF u.2.1 u.2.2.1 (some j9) (nI kk) (u.2.2.2 j) (u.2.2.2 j2) u.1.2.1))), (0, .ref b), (1, .int (nI kk)), (2, .int (nI j)), (3, .int (nI j2)), (4, .int (nI n9))]) hx hb d_X_listed_80 hl (k := 6) rfl ((nI_1 i)) (by decide) rfl (fun ls hl => ?_)
                refine lv_goto (tgt := 46) hx hb d_X_listed_83 (by decide) ?_
                exact ih (i + 1) _ ls (by rw [lis_s gj]) (by omega) (by omega) (lv_sub hl [2, 3, 4, 5, 6, 1, 0] rfl)
        exact LP _ 0 _ ls rfl (Nat.zero_le _) (Nat.lt_succ_self _) (lv_sub hl [2, 3, 4, 5, 6, 1, 0] rfl)
      · refine lv_iconst (v := (-1)) hx hb d_X_listed_21 (by decide) ?_
        exact ry_i hQ (⟨okI_of (n := 6) (by decide) hkk, okI_of (by omega) hnj, okI_of (by omega) hnj2⟩) hx hb hr hlk (rfl) (by simp [c9, c18]) (⟨hf, Frm.ext Ext.rf⟩) cNil (Nat.le_of_ble_eq_true rfl) (Nat.le_of_ble_eq_true rfl) d_X_listed_22
def rm_X_why : Room := { frames := 8, cells := 4, slots := 24, locals := 127 }
set_option maxRecDepth 100000 in
set_option maxHeartbeats 4000000 in
theorem c_X_why {l : Launch} {ev : EV} {H0 : Heap} {b : Nat} {u : XS} {kp : KT} {v : PT} (hT : l.stackTraces = false) (hf : XF ev b u kp v H0) (k x y z : Int32) : vx_Met l my_X_why mw_X_why rm_X_why (cP [.ref b, .int k, .int x, .int y, .int z] (KG ev) H0) (cQod ((okK k ∧ okI u.1.2.2.2.1 x ∧ okI u.1.2.2.2.1 y) ∧ okI u.1.2.1 z) (some (.int (whyF u (nn k) (nn x) (nn y) (nn z)))) (fun H1 => XF ev b u kp v H1 ∧ Frm b 101 H0 H1)) (cX (fun E H1 => (¬ ((okK k ∧ okI u.1.2.2.2.1 x ∧ okI u.1.2.2.2.1 y) ∧ okI u.1.2.1 z)) ∧ E = cIX ∧ XF ev b u kp v H1 ∧ Frm b 101 H0 H1)) 4 24 (inBk b (b + 101)) := by
  refine cHeadX [.ref b, .int k, .int x, .int y, .int z] (by decide) rfl (Nat.le_of_ble_eq_true rfl) ?_
  intro p e s m below meth c ls args QQ hQ htab S hr hlk hnm hs hK hl
  have S : CallFix p m c mb_X_why 7 s args TB "RuleChoice" := S
  obtain ⟨hx, hb, hml, hown, hts⟩ := id S
  obtain ⟨hw, ⟨sl, hkp, hn⟩, hp, hO, hz⟩ := id hf
  have hold := hO
  have ht40 : u.1.2.2.2.1 ≤ 40 := hw.2.2.2.2.2.2.1
  have hr40 : u.1.2.1 ≤ 40 := hw.2.2.2.2.1
  have ha12 : u.1.2.2.1 ≤ 12 := hw.2.2.2.2.2.1
  have hl : lv_has ls 7 [(0, .ref b), (1, .int k), (2, .int x), (3, .int y), (4, .int z)] := hl
  refine lv_aload_n hx hb d_X_why_0 rfl (lv_at hl 0 rfl) ?_
  refine lv_iload_n hx hb d_X_why_1 rfl (lv_at hl 1 rfl) ?_
  refine lv_iload_n hx hb d_X_why_2 rfl (lv_at hl 2 rfl) ?_
  refine lv_iload_n hx hb d_X_why_3 rfl (lv_at hl 3 rfl) ?_
  refine cx_v (vx_runV (As := [.int k, .int x, .int y]) (rest := []) S (c_X_needKindAndThings hT hold hw k x y) (cwV 3 hts gv_X_152 rfl rfl rfl (by decide +kernel) ⟨Nat.le_of_ble_eq_true rfl, Nat.le_of_ble_eq_true rfl⟩) (cP_V (KG_ok _) hK hK.1 hw.1 rfl) rfl rfl hl.1 rfl (lv_room (Nat.le_of_ble_eq_true rfl)) d_X_why_4 ⟨Nat.le_of_ble_eq_true rfl, Nat.le_of_ble_eq_true rfl⟩) (A := inBk b (b + 101)) cNil (fun E1 H2 ce3 q4 L5 hp6 hL7 h8 h9 h10 => ?_) (fun k11 => ?_)
  · exact cx_out hQ htab hlk h8 h9 h10 (⟨fun h => hp6.1 h.1, hp6.2.1, XF_ext hf hp6.2.2, Frm.ext hp6.2.2⟩) hL7 (Nat.le_of_ble_eq_true rfl) (Nat.le_of_ble_eq_true rfl)
  · refine lv_aload_n hx hb d_X_why_7 rfl (lv_at hl 0 rfl) ?_
    refine lv_iload hx hb d_X_why_8 (lv_at hl 4 rfl) ?_
    refine cx_v (vx_runV (As := [.int z]) (rest := []) S (c_X_needRule hT hold hw z) (cwV 1 hts gv_X_81 rfl rfl rfl (by decide +kernel) ⟨Nat.le_of_ble_eq_true rfl, Nat.le_of_ble_eq_true rfl⟩) (cP_V (KG_ok _) hK hK.1 hw.1 rfl) rfl rfl hl.1 rfl (lv_room (Nat.le_of_ble_eq_true rfl)) d_X_why_10 ⟨Nat.le_of_ble_eq_true rfl, Nat.le_of_ble_eq_true rfl⟩) (A := inBk b (b + 101)) cNil (fun E12 H13 ce14 q15 L16 hp17 hL18 h19 h20 h21 => ?_) (fun k22 => ?_)
    · exact cx_out hQ htab hlk h19 h20 h21 (⟨fun h => hp17.1 h.2, hp17.2.1, XF_ext hf hp17.2.2, Frm.ext hp17.2.2⟩) hL18 (Nat.le_of_ble_eq_true rfl) (Nat.le_of_ble_eq_true rfl)
    · obtain ⟨kk, hkk, rfl⟩ := okK_ix k11.1
      obtain ⟨j, hnj, hj, rfl⟩ := okIdx hw.2.2.2.2.2.2.1 k11.2.1
      obtain ⟨j2, hnj2, hj2, rfl⟩ := okIdx hw.2.2.2.2.2.2.1 k11.2.2
      obtain ⟨i, hni, hi, rfl⟩ := okIdx hw.2.2.2.2.1 k22
      simp only [nn_nI (i := kk) (by omega), nn_nI (i := j) (by omega), nn_nI (i := j2) (by omega), nn_nI (i := i) (by omega)] at hQ
      refine lv_aload_n hx hb d_X_why_13 rfl (lv_at hl 0 rfl) ?_
      refine lv_aload_n hx hb d_X_why_14 rfl (lv_at hl 0 rfl) ?_
      refine rw_get hx hb hts in_X hown hK.1 hw.1 rfl 1 (by decide) (hts _ fl_X_24) rfl d_X_why_15 ?_
      refine lv_iload hx hb d_X_why_18 (lv_at hl 4 rfl) ?_
      refine rw_aald hx hb hK.1 3 hw.2.1.1 rfl i (rfl) (hi) (by decide) rfl d_X_why_20 ?_
      refine lv_iload_n hx hb d_X_why_21 rfl (lv_at hl 1 rfl) ?_
      refine lv_aload_n hx hb d_X_why_22 rfl (lv_at hl 0 rfl) ?_
      refine rw_get hx hb hts in_X hown hK.1 hw.1 rfl 3 (by decide) (hts _ fl_X_38) rfl d_X_why_23 ?_
      refine lv_iload_n hx hb d_X_why_26 rfl (lv_at hl 2 rfl) ?_
      refine rw_aald hx hb hK.1 5 hw.2.2.2.1.1 rfl j (rfl) (hj) (by decide) rfl d_X_why_27 ?_
      refine lv_aload_n hx hb d_X_why_28 rfl (lv_at hl 0 rfl) ?_
      refine rw_get hx hb hts in_X hown hK.1 hw.1 rfl 3 (by decide) (hts _ fl_X_38) rfl d_X_why_29 ?_
      refine lv_iload_n hx hb d_X_why_32 rfl (lv_at hl 3 rfl) ?_
      refine rw_aald hx hb hK.1 5 hw.2.2.2.1.1 rfl j2 (rfl) (hj2) (by decide) rfl d_X_why_33 ?_
      refine cl_i (W.runV (As := [.ref (b + 2 + i), .int (nI kk), .ref (b + 56 + j), .ref (b + 56 + j2)]) (rest := []) S (c_X_hindrance hw (i := i) (j := j) (k := j2) (hi) (hj) (hj2) (nI kk)) (cwV 4 hts gv_X_168 rfl rfl rfl (by decide +kernel) ⟨Nat.le_of_ble_eq_true rfl, Nat.le_of_ble_eq_true rfl⟩) (cP_V (KG_ok _) hK hK.1 hw.1 rfl) rfl rfl hl.1 rfl (lv_room (Nat.le_of_ble_eq_true rfl)) d_X_why_34 ⟨Nat.le_of_ble_eq_true rfl, Nat.le_of_ble_eq_true rfl⟩) ?_
      refine lv_istore (lv' := [(5, .int (hindF u.2.2.1 (u.2.1 i) (nI kk) (u.2.2.2 j) (u.2.2.2 j2))), (0, .ref b), (1, .int (nI kk)), (2, .int (nI j)), (3, .int (nI j2)), (4, .int (nI i))]) hx hb d_X_why_37 hl (by decide) rfl (fun ls hl => ?_)
      refine lv_iload hx hb d_X_why_39 (lv_at hl 0 rfl) ?_
      refine lv_if_eq (tgt := 47) hx hb d_X_why_41 (by decide) (fun c41 => ?_) (fun c41 => ?_)
      · refine lv_aload_n hx hb d_X_why_47 rfl (lv_at hl 1 rfl) ?_
        refine lv_iconst (v := (-1)) hx hb d_X_why_48 (by decide) ?_
        refine lv_iload_n hx hb d_X_why_49 rfl (lv_at hl 2 rfl) ?_
        refine lv_aload_n hx hb d_X_why_50 rfl (lv_at hl 1 rfl) ?_
        refine rw_get hx hb hts in_X hown hK.1 hw.1 rfl 3 (by decide) (hts _ fl_X_38) rfl d_X_why_51 ?_
        refine lv_iload_n hx hb d_X_why_54 rfl (lv_at hl 3 rfl) ?_
        refine rw_aald hx hb hK.1 5 hw.2.2.2.1.1 rfl j (rfl) (hj) (by decide) rfl d_X_why_55 ?_
        refine lv_aload_n hx hb d_X_why_56 rfl (lv_at hl 1 rfl) ?_
        refine rw_get hx hb hts in_X hown hK.1 hw.1 rfl 3 (by decide) (hts _ fl_X_38) rfl d_X_why_57 ?_
        refine lv_iload_n hx hb d_X_why_60 rfl (lv_at hl 4 rfl) ?_
        refine rw_aald hx hb hK.1 5 hw.2.2.2.1.1 rfl j2 (rfl) (hj2) (by decide) rfl d_X_why_61 ?_
        refine cl_i (W.runV (As := [.int (-1), .int (nI kk), .ref (b + 56 + j), .ref (b + 56 + j2)]) (rest := []) S (c_X_bestBelow hw (up := none) (j := j) (k := j2) (fun _ h => by cases h) (hj) (hj2) (nI kk)) (cwV 4 hts gv_X_164 rfl rfl rfl (by decide +kernel) ⟨Nat.le_of_ble_eq_true rfl, Nat.le_of_ble_eq_true rfl⟩) (cP_V (KG_ok _) hK hK.1 hw.1 rfl) rfl rfl hl.1 rfl (lv_room (Nat.le_of_ble_eq_true rfl)) d_X_why_62 ⟨Nat.le_of_ble_eq_true rfl, Nat.le_of_ble_eq_true rfl⟩) ?_
        refine lv_istore (lv' := [(6, .int (oI (besF u.2.1 u.2.2.1 none (nI kk) (u.2.2.2 j) (u.2.2.2 j2) u.1.2.1))), (5, .int (hindF u.2.2.1 (u.2.1 i) (nI kk) (u.2.2.2 j) (u.2.2.2 j2))), (0, .ref b), (1, .int (nI kk)), (2, .int (nI j)), (3, .int (nI j2)), (4, .int (nI i))]) hx hb d_X_why_65 hl (by decide) rfl (fun ls hl => ?_)
        refine lv_iload hx hb d_X_why_67 (lv_at hl 0 rfl) ?_
        refine lv_iconst (v := (-1)) hx hb d_X_why_69 (by decide) ?_
        refine lv_icmp_eq (tgt := 80) hx hb d_X_why_70 (by decide) (fun c70 => ?_) (fun c70 => ?_)
        · refine lv_iconst (v := 0) hx hb d_X_why_80 (by decide) ?_
          have gb : besU u kk j j2 = none := oI_m1 (fun a h => Nat.lt_trans (besF_40 hr40 a h) (by decide)) c70
          exact ry_i hQ (⟨⟨okI_of (n := 6) (by decide) hkk, okI_of (by omega) hnj, okI_of (by omega) hnj2⟩, okI_of (by omega) hni⟩) hx hb hr hlk (rfl) (by unfold whyF; rw [if_pos c41, gb]) (⟨hf, Frm.ext Ext.rf⟩) cNil (Nat.le_of_ble_eq_true rfl) (Nat.le_of_ble_eq_true rfl) d_X_why_81
        · obtain ⟨b9, gb⟩ : ∃ a, besU u kk j j2 = some a := oI_no c70
          have hb9 : b9 < 40 := besF_40 hr40 b9 gb
          refine lv_iload hx hb d_X_why_73 (lv_at hl 0 rfl) ?_
          refine lv_iload hx hb d_X_why_75 (lv_at hl 6 rfl) ?_
          refine lv_icmp_ne (tgt := 82) hx hb d_X_why_77 (by decide) (fun c77 => ?_) (fun c77 => ?_)
          · refine lv_aload_n hx hb d_X_why_82 rfl (lv_at hl 2 rfl) ?_
            refine rw_get hx hb hts in_X hown hK.1 hw.1 rfl 1 (by decide) (hts _ fl_X_24) rfl d_X_why_83 ?_
            refine lv_iload hx hb d_X_why_86 (lv_at hl 6 rfl) ?_
            refine rw_aald hx hb hK.1 3 hw.2.1.1 rfl i (rfl) (hi) (by decide) rfl d_X_why_88 ?_
            refine rw_get hx hb hts in_R hown hK.1 (hw.2.1.2 i (hi)) rfl 5 (by decide) (hts _ fl_X_87) rfl d_X_why_89 ?_
            refine lv_aload_n hx hb d_X_why_92 rfl (lv_at hl 2 rfl) ?_
            refine rw_get hx hb hts in_X hown hK.1 hw.1 rfl 1 (by decide) (hts _ fl_X_24) rfl d_X_why_93 ?_
            refine lv_iload hx hb d_X_why_96 (lv_at hl 0 rfl) ?_
            refine rw_aald hx hb hK.1 3 hw.2.1.1 rfl b9 (by show oI (besU u kk j j2) = _; rw [gb]; rfl) (hb9) (by decide) rfl d_X_why_98 ?_
            refine rw_get hx hb hts in_R hown hK.1 (hw.2.1.2 b9 (hb9)) rfl 5 (by decide) (hts _ fl_X_87) rfl d_X_why_99 ?_
            refine lv_icmp_ge (tgt := 109) hx hb d_X_why_102 (by decide) (fun c102 => ?_) (fun c102 => ?_)
            · refine lv_bipush (v := 6) hx hb d_X_why_109 (by decide) ?_
              have e77 : ¬ b9 = i := fun q => c77 ((show oI (besU u kk j j2) = nI b9 by rw [gb]; rfl).trans (by rw [q]))
              exact ry_i hQ (⟨⟨okI_of (n := 6) (by decide) hkk, okI_of (by omega) hnj, okI_of (by omega) hnj2⟩, okI_of (by omega) hni⟩) hx hb hr hlk (rfl) (by unfold whyF; rw [if_pos c41, gb]; simp [e77, c102, Int32.not_lt.mpr c102]) (⟨hf, Frm.ext Ext.rf⟩) cNil (Nat.le_of_ble_eq_true rfl) (Nat.le_of_ble_eq_true rfl) d_X_why_111
            · refine lv_iconst (v := 5) hx hb d_X_why_105 (by decide) ?_
              refine lv_goto (tgt := 111) hx hb d_X_why_106 (by decide) ?_
              have e77 : ¬ b9 = i := fun q => c77 ((show oI (besU u kk j j2) = nI b9 by rw [gb]; rfl).trans (by rw [q]))
              exact ry_i hQ (⟨⟨okI_of (n := 6) (by decide) hkk, okI_of (by omega) hnj, okI_of (by omega) hnj2⟩, okI_of (by omega) hni⟩) hx hb hr hlk (rfl) (by unfold whyF; rw [if_pos c41, gb]; simp [e77, c102, Int32.not_le.mp c102]) (⟨hf, Frm.ext Ext.rf⟩) cNil (Nat.le_of_ble_eq_true rfl) (Nat.le_of_ble_eq_true rfl) d_X_why_111
          · refine lv_iconst (v := 0) hx hb d_X_why_80 (by decide) ?_
            have e77 : b9 = i := (nI_eq (by omega) (by omega)).mp ((show oI (besU u kk j j2) = nI b9 by rw [gb]; rfl).symm.trans c77)
            exact ry_i hQ (⟨⟨okI_of (n := 6) (by decide) hkk, okI_of (by omega) hnj, okI_of (by omega) hnj2⟩, okI_of (by omega) hni⟩) hx hb hr hlk (rfl) (by unfold whyF; rw [if_pos c41, gb]; simp [e77]) (⟨hf, Frm.ext Ext.rf⟩) cNil (Nat.le_of_ble_eq_true rfl) (Nat.le_of_ble_eq_true rfl) d_X_why_81
      · refine lv_iload hx hb d_X_why_44 (lv_at hl 0 rfl) ?_
        exact ry_i hQ (⟨⟨okI_of (n := 6) (by decide) hkk, okI_of (by omega) hnj, okI_of (by omega) hnj2⟩, okI_of (by omega) hni⟩) hx hb hr hlk (rfl) (by unfold whyF; rw [if_neg c41]) (⟨hf, Frm.ext Ext.rf⟩) cNil (Nat.le_of_ble_eq_true rfl) (Nat.le_of_ble_eq_true rfl) d_X_why_46
def rm_X_greatest : Room := { frames := 7, cells := 2, slots := 12, locals := 104 }
set_option maxRecDepth 100000 in
set_option maxHeartbeats 4000000 in
theorem c_X_greatest {l : Launch} {ev : EV} {H0 : Heap} {b : Nat} {u : XS} {kp : KT} {v : PT} (hT : l.stackTraces = false) (hf : XF ev b u kp v H0) (k la : Int32) : vx_Met l my_X_greatest mw_X_greatest rm_X_greatest (cP [.ref b, .int k, .int la] (KG ev) H0) (cQod (okK k ∧ okL la) (some (.long (grtF u k la u.1.2.1))) (fun H1 => XF ev b u kp v H1 ∧ Frm b 101 H0 H1)) (cX (fun E H1 => (¬ (okK k ∧ okL la)) ∧ E = cIX ∧ XF ev b u kp v H1 ∧ Frm b 101 H0 H1)) 2 12 (inBk b (b + 101)) := by
  refine cHeadX [.ref b, .int k, .int la] (by decide) rfl (Nat.le_of_ble_eq_true rfl) ?_
  intro p e s m below meth c ls args QQ hQ htab S hr hlk hnm hs hK hl
  have S : CallFix p m c mb_X_greatest 6 s args TB "RuleChoice" := S
  obtain ⟨hx, hb, hml, hown, hts⟩ := id S
  obtain ⟨hw, ⟨sl, hkp, hn⟩, hp, hO, hz⟩ := id hf
  have hold := hO
  have ht40 : u.1.2.2.2.1 ≤ 40 := hw.2.2.2.2.2.2.1
  have hr40 : u.1.2.1 ≤ 40 := hw.2.2.2.2.1
  have ha12 : u.1.2.2.1 ≤ 12 := hw.2.2.2.2.2.1
  have hl : lv_has ls 6 [(0, .ref b), (1, .int k), (2, .int la)] := hl
  refine lv_aload_n hx hb d_X_greatest_0 rfl (lv_at hl 0 rfl) ?_
  refine lv_iload_n hx hb d_X_greatest_1 rfl (lv_at hl 1 rfl) ?_
  refine cx_v (vx_runV (As := [.int k]) (rest := []) S (c_X_needKind hT hold k) (cwV 1 hts gv_X_57 rfl rfl rfl (by decide +kernel) ⟨Nat.le_of_ble_eq_true rfl, Nat.le_of_ble_eq_true rfl⟩) (cP_V (KG_ok _) hK hK.1 hw.1 rfl) rfl rfl hl.1 rfl (lv_room (Nat.le_of_ble_eq_true rfl)) d_X_greatest_2 ⟨Nat.le_of_ble_eq_true rfl, Nat.le_of_ble_eq_true rfl⟩) (A := inBk b (b + 101)) cNil (fun E1 H2 ce3 q4 L5 hp6 hL7 h8 h9 h10 => ?_) (fun k11 => ?_)
  · exact cx_out hQ htab hlk h8 h9 h10 (⟨fun h => hp6.1 h.1, hp6.2.1, XF_ext hf hp6.2.2, Frm.ext hp6.2.2⟩) hL7 (Nat.le_of_ble_eq_true rfl) (Nat.le_of_ble_eq_true rfl)
  · refine lv_aload_n hx hb d_X_greatest_5 rfl (lv_at hl 0 rfl) ?_
    refine lv_iload_n hx hb d_X_greatest_6 rfl (lv_at hl 2 rfl) ?_
    refine cx_v (vx_runV (As := [.int la]) (rest := []) S (c_X_needLayer hT hold la) (cwV 1 hts gv_X_116 rfl rfl rfl (by decide +kernel) ⟨Nat.le_of_ble_eq_true rfl, Nat.le_of_ble_eq_true rfl⟩) (cP_V (KG_ok _) hK hK.1 hw.1 rfl) rfl rfl hl.1 rfl (lv_room (Nat.le_of_ble_eq_true rfl)) d_X_greatest_7 ⟨Nat.le_of_ble_eq_true rfl, Nat.le_of_ble_eq_true rfl⟩) (A := inBk b (b + 101)) cNil (fun E12 H13 ce14 q15 L16 hp17 hL18 h19 h20 h21 => ?_) (fun k22 => ?_)
    · exact cx_out hQ htab hlk h19 h20 h21 (⟨fun h => hp17.1 h.2, hp17.2.1, XF_ext hf hp17.2.2, Frm.ext hp17.2.2⟩) hL18 (Nat.le_of_ble_eq_true rfl) (Nat.le_of_ble_eq_true rfl)
    · refine lv_ldc2 (v := (-1)) hx hb hown (hts _ kl_X_172) d_X_greatest_10 ?_
      refine lv_lstore_n (lv' := [(3, .long (-1)), (0, .ref b), (1, .int k), (2, .int la)]) hx hb d_X_greatest_13 rfl hl (by decide) rfl (fun ls hl => ?_)
      refine lv_iconst (v := 0) hx hb d_X_greatest_14 (by decide) ?_
      refine lv_istore (lv' := [(5, .int 0), (3, .long (-1)), (0, .ref b), (1, .int k), (2, .int la)]) hx hb d_X_greatest_15 hl (by decide) rfl (fun ls hl => ?_)
      have LP : ∀ (n i : Nat) (bs : Int64) (ls : Array Slot), bs = grtF u k la i → i ≤ u.1.2.1 → u.1.2.1 - i < n → lv_has ls 6 [(0, .ref b), (1, .int k), (2, .int la), (3, .long bs), (5, .int (nI i))] → W p l e rm_X_greatest s m args below meth c H0 [] (0 + 1 + 1) (0 + 6 + 6) QQ (F0 m 17 ls []) := by
        intro n
        induction n with
        | zero => intro i bs ls h1 h2 h3; exact absurd h3 (by omega)
        | succ n ih =>
          intro i bs ls ebs hle hlt9 hl
          refine lv_iload hx hb d_X_greatest_17 (lv_at hl 4 rfl) ?_
          refine lv_aload_n hx hb d_X_greatest_19 rfl (lv_at hl 0 rfl) ?_
          refine rw_get hx hb hts in_X hown hK.1 hw.1 rfl 6 (by decide) (hts _ fl_X_71) rfl d_X_greatest_20 ?_
          refine lv_icmp_ge (tgt := 75) hx hb d_X_greatest_23 (by decide) (fun c23 => ?_) (fun c23 => ?_)
          · refine lv_lload_n hx hb d_X_greatest_75 rfl (lv_at hl 3 rfl) ?_
            exact ry_l hQ (⟨k11, k22⟩) hx hb hr hlk (by rw [ebs]; congr 1; exact Nat.le_antisymm hle (Nat.not_lt.mp (fun h => absurd c23 (nI_ge h (by omega))))) (⟨hf, Frm.ext Ext.rf⟩) cNil (Nat.le_of_ble_eq_true rfl) (Nat.le_of_ble_eq_true rfl) d_X_greatest_76
          · have hlt : i < u.1.2.1 := Nat.not_le.mp (fun h => c23 (nI_le h (by omega)))
            have h40 : i < 40 := by omega
            refine lv_aload_n hx hb d_X_greatest_26 rfl (lv_at hl 0 rfl) ?_
            refine rw_get hx hb hts in_X hown hK.1 hw.1 rfl 1 (by decide) (hts _ fl_X_24) rfl d_X_greatest_27 ?_
            refine lv_iload hx hb d_X_greatest_30 (lv_at hl 4 rfl) ?_
            refine rw_aald hx hb hK.1 3 hw.2.1.1 rfl i (rfl) (h40) (by decide) rfl d_X_greatest_32 ?_
            refine rw_get hx hb hts in_R hown hK.1 (hw.2.1.2 i (h40)) rfl 0 (by decide) (hts _ fl_X_90) rfl d_X_greatest_33 ?_
            refine lv_iload_n hx hb d_X_greatest_36 rfl (lv_at hl 1 rfl) ?_
            refine lv_icmp_ne (tgt := 69) hx hb d_X_greatest_37 (by decide) (fun c37 => ?_) (fun c37 => ?_)
            · refine lv_iinc (v := (nI (i + 1))) (lv' := [(5, .int (nI (i + 1))), (0, .ref b), (1, .int k), (2, .int la), (3, .long bs)]) hx hb d_X_greatest_69 hl (k := 4) rfl ((nI_1 i)) (by decide) rfl (fun ls hl => ?_)
              refine lv_goto (tgt := 17) hx hb d_X_greatest_72 (by decide) ?_
              exact ih (i + 1) _ ls (by rw [grtF, if_neg (fun h => c37 h.1)]; exact ebs) (by omega) (by omega) (lv_sub hl [1, 2, 3, 4, 0] rfl)
            · refine lv_aload_n hx hb d_X_greatest_40 rfl (lv_at hl 0 rfl) ?_
              refine rw_get hx hb hts in_X hown hK.1 hw.1 rfl 1 (by decide) (hts _ fl_X_24) rfl d_X_greatest_41 ?_
              refine lv_iload hx hb d_X_greatest_44 (lv_at hl 4 rfl) ?_
              refine rw_aald hx hb hK.1 3 hw.2.1.1 rfl i (rfl) (h40) (by decide) rfl d_X_greatest_46 ?_
              refine lv_iload_n hx hb d_X_greatest_47 rfl (lv_at hl 2 rfl) ?_
              refine cl_i (W.runV (As := [.int la]) (rest := []) S (c_R_isForLayer (hw.2.1.2 i (h40)) la) (cwV 1 hts gv_X_174 rfl rfl rfl (by decide +kernel) ⟨Nat.le_of_ble_eq_true rfl, Nat.le_of_ble_eq_true rfl⟩) (cP_V (KG_ok _) hK hK.1 (hw.2.1.2 i (h40)) rfl) rfl rfl hl.1 rfl (lv_room (Nat.le_of_ble_eq_true rfl)) d_X_greatest_48 ⟨Nat.le_of_ble_eq_true rfl, Nat.le_of_ble_eq_true rfl⟩) ?_
              refine lv_if_eq (tgt := 69) hx hb d_X_greatest_51 (by decide) (fun c51 => ?_) (fun c51 => ?_)
              · refine lv_iinc (v := (nI (i + 1))) (lv' := [(5, .int (nI (i + 1))), (0, .ref b), (1, .int k), (2, .int la), (3, .long bs)]) hx hb d_X_greatest_69 hl (k := 4) rfl ((nI_1 i)) (by decide) rfl (fun ls hl => ?_)
                refine lv_goto (tgt := 17) hx hb d_X_greatest_72 (by decide) ?_
                exact ih (i + 1) _ ls (by rw [grtF, if_neg (fun h => by rw [(bI_eq _).mp c51] at h; exact absurd h.2 (by decide))]; exact ebs) (by omega) (by omega) (lv_sub hl [1, 2, 3, 4, 0] rfl)
              · refine lv_lload_n hx hb d_X_greatest_54 rfl (lv_at hl 3 rfl) ?_
                refine lv_aload_n hx hb d_X_greatest_55 rfl (lv_at hl 0 rfl) ?_
                refine rw_get hx hb hts in_X hown hK.1 hw.1 rfl 1 (by decide) (hts _ fl_X_24) rfl d_X_greatest_56 ?_
                refine lv_iload hx hb d_X_greatest_59 (lv_at hl 4 rfl) ?_
                refine rw_aald hx hb hK.1 3 hw.2.1.1 rfl i (rfl) (h40) (by decide) rfl d_X_greatest_61 ?_
                refine rw_get hx hb hts in_R hown hK.1 (hw.2.1.2 i (h40)) rfl 4 (by decide) (hts _ fl_X_178) rfl d_X_greatest_62 ?_
                refine va_mmax_long hx hb (hml.trans hl.1.symm) hown (hts _ ml_X_181) (hts _ st_maxl) (hts _ iz_Math) (hts _ in_maxl) (Nat.le_of_ble_eq_true rfl) (Nat.le_of_ble_eq_true rfl) (Nat.le_of_ble_eq_true rfl) (Nat.le_of_ble_eq_true rfl) d_X_greatest_65 ?_
                refine lv_lstore_n (lv' := [(3, .long (if (u.2.1 i).2.2.2.2.1 < bs then bs else (u.2.1 i).2.2.2.2.1)), (0, .ref b), (1, .int k), (2, .int la), (5, .int (nI i))]) hx hb d_X_greatest_68 rfl hl (by decide) rfl (fun ls hl => ?_)
                refine lv_iinc (v := (nI (i + 1))) (lv' := [(5, .int (nI (i + 1))), (3, .long (if (u.2.1 i).2.2.2.2.1 < bs then bs else (u.2.1 i).2.2.2.2.1)), (0, .ref b), (1, .int k), (2, .int la)]) hx hb d_X_greatest_69 hl (k := 4) rfl ((nI_1 i)) (by decide) rfl (fun ls hl => ?_)
                refine lv_goto (tgt := 17) hx hb d_X_greatest_72 (by decide) ?_
                exact ih (i + 1) _ ls (by rw [grt_y c37 ((bI_ne _).mp c51), ebs]) (by omega) (by omega) (lv_sub hl [2, 3, 4, 1, 0] rfl)
      exact LP _ 0 _ ls rfl (Nat.zero_le _) (Nat.lt_succ_self _) (lv_sub hl [2, 3, 4, 1, 0] rfl)
def rm_X_pair : Room := { frames := 7, cells := 1, slots := 6, locals := 104 }
set_option maxRecDepth 100000 in
set_option maxHeartbeats 4000000 in
theorem c_X_pair {l : Launch} {ev : EV} {H0 : Heap} {b : Nat} {u : XS} {kp : KT} {v : PT} (hT : l.stackTraces = false) (hf : XF ev b u kp v H0) (k z : Int32) : vx_Met l my_X_pair mw_X_pair rm_X_pair (cP [.ref b, .int k, .int z] (KG ev) H0) (cQod (okS z) (some (.int (if k < 0 then -1 else if k < nI v.1 then (if z = 0 then v.2.1 (nn k) else v.2.2 (nn k)) else -1))) (fun H1 => XF ev b u kp v H1 ∧ Frm b 101 H0 H1)) (cX (fun E H1 => (¬ okS z) ∧ E = cIX ∧ XF ev b u kp v H1 ∧ Frm b 101 H0 H1)) 1 6 (inBk b (b + 101)) := by
  refine cHeadX [.ref b, .int k, .int z] (by decide) rfl (Nat.le_of_ble_eq_true rfl) ?_
  intro p e s m below meth c ls args QQ hQ htab S hr hlk hnm hs hK hl
  have S : CallFix p m c mb_X_pair 3 s args TB "RuleChoice" := S
  obtain ⟨hx, hb, hml, hown, hts⟩ := id S
  obtain ⟨hw, ⟨sl, hkp, hn⟩, hp, hO, hz⟩ := id hf
  have hold := hO
  have ht40 : u.1.2.2.2.1 ≤ 40 := hw.2.2.2.2.2.2.1
  have hr40 : u.1.2.1 ≤ 40 := hw.2.2.2.2.1
  have ha12 : u.1.2.2.1 ≤ 12 := hw.2.2.2.2.2.1
  have hl : lv_has ls 3 [(0, .ref b), (1, .int k), (2, .int z)] := hl
  refine lv_aload_n hx hb d_X_pair_0 rfl (lv_at hl 0 rfl) ?_
  refine lv_iload_n hx hb d_X_pair_1 rfl (lv_at hl 2 rfl) ?_
  refine cx_v (vx_runV (As := [.int z]) (rest := []) S (c_X_needSide hT hold z) (cwV 1 hts gv_X_197 rfl rfl rfl (by decide +kernel) ⟨Nat.le_of_ble_eq_true rfl, Nat.le_of_ble_eq_true rfl⟩) (cP_V (KG_ok _) hK hK.1 hw.1 rfl) rfl rfl hl.1 rfl (lv_room (Nat.le_of_ble_eq_true rfl)) d_X_pair_2 ⟨Nat.le_of_ble_eq_true rfl, Nat.le_of_ble_eq_true rfl⟩) (A := inBk b (b + 101)) cNil (fun E1 H2 ce3 q4 L5 hp6 hL7 h8 h9 h10 => ?_) (fun k11 => ?_)
  · exact cx_out hQ htab hlk h8 h9 h10 (⟨hp6.1, hp6.2.1, XF_ext hf hp6.2.2, Frm.ext hp6.2.2⟩) hL7 (Nat.le_of_ble_eq_true rfl) (Nat.le_of_ble_eq_true rfl)
  · refine lv_iload_n hx hb d_X_pair_5 rfl (lv_at hl 1 rfl) ?_
    refine lv_if_lt (tgt := 20) hx hb d_X_pair_6 (by decide) (fun c6 => ?_) (fun c6 => ?_)
    · refine lv_iconst (v := (-1)) hx hb d_X_pair_20 (by decide) ?_
      exact ry_i hQ (k11) hx hb hr hlk (rfl) (by simp [c6]) (⟨hf, Frm.ext Ext.rf⟩) cNil (Nat.le_of_ble_eq_true rfl) (Nat.le_of_ble_eq_true rfl) d_X_pair_21
    · refine lv_iload_n hx hb d_X_pair_9 rfl (lv_at hl 1 rfl) ?_
      refine lv_aload_n hx hb d_X_pair_10 rfl (lv_at hl 0 rfl) ?_
      refine rw_get hx hb hts in_X hown hK.1 hw.1 rfl 5 (by decide) (hts _ fl_X_53) rfl d_X_pair_11 ?_
      refine rw_get hx hb hts in_P hown hK.1 hp.1 rfl 2 (by decide) (hts _ fl_X_194) rfl d_X_pair_14 ?_
      refine lv_icmp_lt (tgt := 22) hx hb d_X_pair_17 (by decide) (fun c17 => ?_) (fun c17 => ?_)
      · obtain ⟨i, hi, rfl⟩ := okI_ix (Nat.lt_of_le_of_lt hp.2.2.2 (by decide)) ⟨c6, c17⟩
        have hi780 : i < 780 := Nat.lt_of_lt_of_le hi hp.2.2.2
        simp only [nn_nI (i := i) (by omega), if_neg c6, if_pos c17] at hQ
        refine lv_iload_n hx hb d_X_pair_22 rfl (lv_at hl 2 rfl) ?_
        refine lv_if_ne (tgt := 38) hx hb d_X_pair_23 (by decide) (fun c23 => ?_) (fun c23 => ?_)
        · refine lv_aload_n hx hb d_X_pair_38 rfl (lv_at hl 0 rfl) ?_
          refine rw_get hx hb hts in_X hown hK.1 hw.1 rfl 5 (by decide) (hts _ fl_X_53) rfl d_X_pair_39 ?_
          refine rw_get hx hb hts in_P hown hK.1 hp.1 rfl 1 (by decide) (hts _ fl_X_204) rfl d_X_pair_42 ?_
          refine lv_iload_n hx hb d_X_pair_45 rfl (lv_at hl 1 rfl) ?_
          refine rw_iald hx hb hK.1 0 hp.2.2.1 rfl i (rfl) (hi780) (by decide) d_X_pair_46 ?_
          exact ry_i hQ (k11) hx hb hr hlk (rfl) (by rw [if_neg c23]) (⟨hf, Frm.ext Ext.rf⟩) cNil (Nat.le_of_ble_eq_true rfl) (Nat.le_of_ble_eq_true rfl) d_X_pair_47
        · refine lv_aload_n hx hb d_X_pair_26 rfl (lv_at hl 0 rfl) ?_
          refine rw_get hx hb hts in_X hown hK.1 hw.1 rfl 5 (by decide) (hts _ fl_X_53) rfl d_X_pair_27 ?_
          refine rw_get hx hb hts in_P hown hK.1 hp.1 rfl 0 (by decide) (hts _ fl_X_200) rfl d_X_pair_30 ?_
          refine lv_iload_n hx hb d_X_pair_33 rfl (lv_at hl 1 rfl) ?_
          refine rw_iald hx hb hK.1 0 hp.2.1 rfl i (rfl) (hi780) (by decide) d_X_pair_34 ?_
          refine lv_goto (tgt := 47) hx hb d_X_pair_35 (by decide) ?_
          exact ry_i hQ (k11) hx hb hr hlk (rfl) (by rw [if_pos c23]) (⟨hf, Frm.ext Ext.rf⟩) cNil (Nat.le_of_ble_eq_true rfl) (Nat.le_of_ble_eq_true rfl) d_X_pair_47
      · refine lv_iconst (v := (-1)) hx hb d_X_pair_20 (by decide) ?_
        exact ry_i hQ (k11) hx hb hr hlk (rfl) (by simp [c6, c17]) (⟨hf, Frm.ext Ext.rf⟩) cNil (Nat.le_of_ble_eq_true rfl) (Nat.le_of_ble_eq_true rfl) d_X_pair_21
def rm_X_kept : Room := { frames := 0, cells := 0, slots := 0, locals := 0 }
set_option maxRecDepth 100000 in
set_option maxHeartbeats 4000000 in
theorem c_X_kept {l : Launch} {ev : EV} {H0 : Heap} {b : Nat} {u : XS} {kp : KT} {v : PT} (hf : XF ev b u kp v H0) : Met l my_X_kept mw_X_kept rm_X_kept (cP [.ref b] (KG ev) H0) (cQp (some (.int (nI (kcF kp))))) 0 0 cNo := by
  refine cHead [.ref b] (by decide) rfl (Nat.le_of_ble_eq_true rfl) ?_
  intro p e s m below meth c ls args QQ hQ S hr hlk hnm hs hK hl
  have S : CallFix p m c mb_X_kept 1 s args TB "RuleChoice" := S
  obtain ⟨hx, hb, hml, hown, hts⟩ := id S
  obtain ⟨hw, ⟨sl, hkp, hn⟩, hp, hO, hz⟩ := id hf
  have hl : lv_has ls 1 [(0, .ref b)] := hl
  refine lv_aload_n hx hb d_X_kept_0 rfl (lv_at hl 0 rfl) ?_
  refine rw_get hx hb hts in_X hown hK.1 hw.1 rfl 4 (by decide) (hts _ fl_X_46) rfl d_X_kept_1 ?_
  refine rw_get hx hb hts in_N hown hK.1 hn.1 rfl 1 (by decide) (hts _ fl_X_207) rfl d_X_kept_4 ?_
  exact rt_i hQ hx hb hr hlk hs (rfl) (by rw [kc_eq hw.2.2.2.2.1 hkp]) d_X_kept_7
def rm_X_spared : Room := { frames := 0, cells := 0, slots := 0, locals := 0 }
set_option maxRecDepth 100000 in
set_option maxHeartbeats 4000000 in
theorem c_X_spared {l : Launch} {ev : EV} {H0 : Heap} {b : Nat} {u : XS} {kp : KT} {v : PT} (hf : XF ev b u kp v H0) : Met l my_X_spared mw_X_spared rm_X_spared (cP [.ref b] (KG ev) H0) (cQp (some (.long u.1.2.2.2.2))) 0 0 cNo := by
  refine cHead [.ref b] (by decide) rfl (Nat.le_of_ble_eq_true rfl) ?_
  intro p e s m below meth c ls args QQ hQ S hr hlk hnm hs hK hl
  have S : CallFix p m c mb_X_spared 1 s args TB "RuleChoice" := S
  obtain ⟨hx, hb, hml, hown, hts⟩ := id S
  obtain ⟨hw, ⟨sl, hkp, hn⟩, hp, hO, hz⟩ := id hf
  have hl : lv_has ls 1 [(0, .ref b)] := hl
  refine lv_aload_n hx hb d_X_spared_0 rfl (lv_at hl 0 rfl) ?_
  refine rw_get hx hb hts in_X hown hK.1 hw.1 rfl 9 (by decide) (hts _ fl_X_208) rfl d_X_spared_1 ?_
  exact rt_l hQ hx hb hr hlk hs (rfl) d_X_spared_4
