def winU (u : XS) (kp : KT) (kk j k : Nat) : XS := ((u.1.1, u.1.2.1, u.1.2.2.1, u.1.2.2.2.1, if kp kk (min j k) (max j k) = true then u.1.2.2.2.2 + 1 else u.1.2.2.2.2), u.2)
def winK (kp : KT) (kk j k : Nat) : KT := kpS kp kk (min j k) (max j k)
theorem KP_mm {u : XS} {kp : KT} {sl : Nat → Int32} (h : KP u kp sl) {kk j k : Nat} (hkk : kk < 6) (hj : j < 40) (hk : k < 40) : sl (sIx kk j k) = (if kp kk (min j k) (max j k) = true then oI (besU u kk j k) + 2 else 0) := by
  rw [sIx_mm, (h kk (min j k) (max j k) hkk (by omega) (by omega)).1, bes_mm]
theorem KP_has {u : XS} {kp : KT} {sl : Nat → Int32} (h : KP u kp sl) (hnr : u.1.2.1 ≤ 40) {kk j k : Nat} (hkk : kk < 6) (hj : j < 40) (hk : k < 40) : (sl (sIx kk j k) = 0 → kp kk (min j k) (max j k) = false) ∧ (¬ sl (sIx kk j k) = 0 → kp kk (min j k) (max j k) = true) := by
  have e := KP_mm h hkk hj hk
  cases hc : kp kk (min j k) (max j k) with
  | false =>
    rw [hc, if_neg (by decide)] at e
    exact ⟨fun _ => rfl, fun q => absurd e q⟩
  | true =>
    rw [hc, if_pos rfl] at e
    exact ⟨fun q => absurd (e.symm.trans q) (oI_2 (besF_40 hnr)), fun _ => rfl⟩
def rm_X_keptWinner : Room := { frames := 4, cells := 0, slots := 0, locals := 94 }
set_option maxRecDepth 100000 in
set_option maxHeartbeats 4000000 in
theorem c_X_keptWinner {l : Launch} {ev : EV} {H0 : Heap} {b : Nat} {u : XS} {kp : KT} {v : PT} (hf : XF ev b u kp v H0) {kk j k : Nat} {p0 p1 p2 : Int32} (e0 : p0 = nI kk) (e1 : p1 = nI j) (e2 : p2 = nI k) (hkk : kk < 6) (hj : j < u.1.2.2.2.1) (hk : k < u.1.2.2.2.1) : Met l my_X_keptWinner mw_X_keptWinner rm_X_keptWinner (cP [.ref b, .int p0, .int p1, .int p2] (KG ev) H0) (cQd (some (.int (oI (besU u kk j k)))) (fun H1 => XF ev b (winU u kp kk j k) (winK kp kk j k) v H1 ∧ Blk b (b + 101) H0 H1)) 0 0 (inBk b (b + 101)) := by
  refine cHead [.ref b, .int p0, .int p1, .int p2] (by decide) rfl (Nat.le_of_ble_eq_true rfl) ?_
  intro p e s m below meth c ls args QQ hQ S hr hlk hnm hs hK hl
  have S : CallFix p m c mb_X_keptWinner 5 s args TB "RuleChoice" := S
  obtain ⟨hx, hb, hml, hown, hts⟩ := id S
  subst e0; subst e1; subst e2
  obtain ⟨hw, ⟨sl, hkp, hn⟩, hp, hO, hz⟩ := id hf
  have hj40 : j < 40 := Nat.lt_of_lt_of_le hj hw.2.2.2.2.2.2.1
  have hk40 : k < 40 := Nat.lt_of_lt_of_le hk hw.2.2.2.2.2.2.1
  have hl : lv_has ls 5 [(0, .ref b), (1, .int (nI kk)), (2, .int (nI j)), (3, .int (nI k))] := hl
  refine lv_aload_n hx hb d_X_keptWinner_0 rfl (lv_at hl 0 rfl) ?_
  refine rw_get hx hb hts in_X hown hK.1 hw.1 rfl 4 (by decide) (hts _ fl_X_46) rfl d_X_keptWinner_1 ?_
  refine lv_iload_n hx hb d_X_keptWinner_4 rfl (lv_at hl 1 rfl) ?_
  refine lv_iload_n hx hb d_X_keptWinner_5 rfl (lv_at hl 2 rfl) ?_
  refine lv_iload_n hx hb d_X_keptWinner_6 rfl (lv_at hl 3 rfl) ?_
  refine cl_i (W.runV (As := [.int (nI kk), .int (nI j), .int (nI k)]) (rest := []) S (c_N_has hn (rfl) (rfl) (rfl) (hkk) (hj40) (hk40)) (cwV 3 hts gv_X_211 rfl rfl rfl (by decide +kernel) ⟨Nat.le_of_ble_eq_true rfl, Nat.le_of_ble_eq_true rfl⟩) (cP_V (KG_ok _) hK hK.1 hn.1 rfl) rfl rfl hl.1 rfl (lv_room (Nat.le_of_ble_eq_true rfl)) d_X_keptWinner_7 ⟨Nat.le_of_ble_eq_true rfl, Nat.le_of_ble_eq_true rfl⟩) ?_
  refine lv_if_eq (tgt := 34) hx hb d_X_keptWinner_10 (by decide) (fun c10 => ?_) (fun c10 => ?_)
  · have hz0 : sl (sIx kk j k) = 0 := by simpa [bI] using c10
    have gk := (KP_has hkp hw.2.2.2.2.1 hkk hj40 hk40).1 hz0
    refine lv_aload_n hx hb d_X_keptWinner_34 rfl (lv_at hl 0 rfl) ?_
    refine lv_iconst (v := (-1)) hx hb d_X_keptWinner_35 (by decide) ?_
    refine lv_iload_n hx hb d_X_keptWinner_36 rfl (lv_at hl 1 rfl) ?_
    refine lv_aload_n hx hb d_X_keptWinner_37 rfl (lv_at hl 0 rfl) ?_
    refine rw_get hx hb hts in_X hown hK.1 hw.1 rfl 3 (by decide) (hts _ fl_X_38) rfl d_X_keptWinner_38 ?_
    refine lv_iload_n hx hb d_X_keptWinner_41 rfl (lv_at hl 2 rfl) ?_
    refine rw_aald hx hb hK.1 5 hw.2.2.2.1.1 rfl j (rfl) (hj40) (by decide) rfl d_X_keptWinner_42 ?_
    refine lv_aload_n hx hb d_X_keptWinner_43 rfl (lv_at hl 0 rfl) ?_
    refine rw_get hx hb hts in_X hown hK.1 hw.1 rfl 3 (by decide) (hts _ fl_X_38) rfl d_X_keptWinner_44 ?_
    refine lv_iload_n hx hb d_X_keptWinner_47 rfl (lv_at hl 3 rfl) ?_
    refine rw_aald hx hb hK.1 5 hw.2.2.2.1.1 rfl k (rfl) (hk40) (by decide) rfl d_X_keptWinner_48 ?_
    refine cl_i (W.runV (As := [.int (-1), .int (nI kk), .ref (b + 56 + j), .ref (b + 56 + k)]) (rest := []) S (c_X_bestBelow hw (up := none) (j := j) (k := k) (fun _ h => by cases h) (hj40) (hk40) (nI kk)) (cwV 4 hts gv_X_164 rfl rfl rfl (by decide +kernel) ⟨Nat.le_of_ble_eq_true rfl, Nat.le_of_ble_eq_true rfl⟩) (cP_V (KG_ok _) hK hK.1 hw.1 rfl) rfl rfl hl.1 rfl (lv_room (Nat.le_of_ble_eq_true rfl)) d_X_keptWinner_49 ⟨Nat.le_of_ble_eq_true rfl, Nat.le_of_ble_eq_true rfl⟩) ?_
    refine lv_istore (lv' := [(4, .int (oI (besF u.2.1 u.2.2.1 none (nI kk) (u.2.2.2 j) (u.2.2.2 k) u.1.2.1))), (0, .ref b), (1, .int (nI kk)), (2, .int (nI j)), (3, .int (nI k))]) hx hb d_X_keptWinner_52 hl (by decide) rfl (fun ls hl => ?_)
    refine lv_aload_n hx hb d_X_keptWinner_54 rfl (lv_at hl 1 rfl) ?_
    refine rw_get hx hb hts in_X hown hK.1 hw.1 rfl 4 (by decide) (hts _ fl_X_46) rfl d_X_keptWinner_55 ?_
    refine lv_iload_n hx hb d_X_keptWinner_58 rfl (lv_at hl 2 rfl) ?_
    refine lv_iload_n hx hb d_X_keptWinner_59 rfl (lv_at hl 3 rfl) ?_
    refine lv_iload_n hx hb d_X_keptWinner_60 rfl (lv_at hl 4 rfl) ?_
    refine lv_iload hx hb d_X_keptWinner_61 (lv_at hl 0 rfl) ?_
    refine cl_d (W.runV (As := [.int (nI kk), .int (nI j), .int (nI k), .int (oI (besF u.2.1 u.2.2.1 none (nI kk) (u.2.2.2 j) (u.2.2.2 k) u.1.2.1))]) (rest := []) S (c_N_keep hn (rfl) (rfl) (rfl) (hkk) (hj40) (hk40) (v := (oI (besF u.2.1 u.2.2.1 none (nI kk) (u.2.2.2 j) (u.2.2.2 k) u.1.2.1))) hz0 (oI_2 (besF_40 hw.2.2.2.2.1))) (cwV 4 hts gv_X_218 rfl rfl rfl (by decide +kernel) ⟨Nat.le_of_ble_eq_true rfl, Nat.le_of_ble_eq_true rfl⟩) (cP_V (KG_ok _) hK hK.1 hn.1 rfl) rfl rfl hl.1 rfl (lv_room (Nat.le_of_ble_eq_true rfl)) d_X_keptWinner_63 ⟨Nat.le_of_ble_eq_true rfl, Nat.le_of_ble_eq_true rfl⟩) (A := inBk b (b + 101)) cNil (fun z h => ⟨by omega, by omega⟩) (fun H1 L2 hp3 hL4 => ?_)
    have hn5 := hp3.1
    have hBk := hp3.2
    have hw6 := XW_k hw (fun q _ _ => hBk.2 q (by omega))
    have hp7 := xP_k hp (fun q _ _ => hBk.2 q (by omega))
    have hO8 := Old.blk hO hBk (by omega)
    have hB9 := Blk.trans (Blk.rf (lo := b) (hi := b + 101) (H := H0)) (hBk.wide (by omega) (by omega))
    refine lv_iload hx hb d_X_keptWinner_66 (lv_at hl 0 rfl) ?_
    have hk9 := KP_keep (kk := kk) hkp (a := min j k) (c := max j k) (by omega) (by omega) (by omega)
    rw [bes_mm, ← sIx_mm] at hk9
    exact rt_di hQ hx hb hr hlk rfl rfl ⟨⟨by unfold winU; rw [if_neg (by rw [gk]; decide)]; exact hw6, ⟨_, hk9, hn5⟩, hp7, hO8, hz⟩, hB9⟩ hL4 (Nat.le_of_ble_eq_true rfl) (Nat.le_of_ble_eq_true rfl) d_X_keptWinner_68
  · have g10 : ¬ sl (sIx kk j k) = 0 := by simpa [bI] using c10
    have gk := (KP_has hkp hw.2.2.2.2.1 hkk hj40 hk40).2 g10
    refine lv_aload_n hx hb d_X_keptWinner_13 rfl (lv_at hl 0 rfl) ?_
    refine lv_dup hx hb d_X_keptWinner_14 rfl ?_
    refine rw_get hx hb hts in_X hown hK.1 hw.1 rfl 9 (by decide) (hts _ fl_X_208) rfl d_X_keptWinner_15 ?_
    refine lv_lconst (v := 1) hx hb d_X_keptWinner_18 (by decide) ?_
    refine lv_ladd hx hb d_X_keptWinner_19 ?_
    refine rw_put hx hb hts in_X ck_X ok_X nm_X hown hK.1 hw.1 rfl 9 (by decide) (hts _ fl_X_208) rfl (ok_X 9 (by decide)) rfl rfl (Nat.le_of_ble_eq_true rfl) (⟨Nat.le_refl _, by omega⟩) (A := inBk b (b + 101)) cNil d_X_keptWinner_20 (fun H10 L11 z12 o13 hat14 hL15 => ?_)
    have hBo := Blk.one z12 o13
    have hw9 : XW ev b (winU u kp kk j k) H10 := XW_o hw (by rw [if_pos gk]; exact hat14) o13 hw.2.2.2.2
    have hn16 := xN_k hn (fun q _ _ => hBo.2 q (by omega))
    have hp17 := xP_k hp (fun q _ _ => hBo.2 q (by omega))
    have hO18 := Old.blk hO hBo (by omega)
    have hB19 := Blk.trans (Blk.rf (lo := b) (hi := b + 101) (H := H0)) (hBo.wide (by omega) (by omega))
    refine lv_aload_n hx hb d_X_keptWinner_23 rfl (lv_at hl 0 rfl) ?_
    refine rw_get hx hb hts in_X hown hK.1 hat14 rfl 4 (by decide) (hts _ fl_X_46) rfl d_X_keptWinner_24 ?_
    refine lv_iload_n hx hb d_X_keptWinner_27 rfl (lv_at hl 1 rfl) ?_
    refine lv_iload_n hx hb d_X_keptWinner_28 rfl (lv_at hl 2 rfl) ?_
    refine lv_iload_n hx hb d_X_keptWinner_29 rfl (lv_at hl 3 rfl) ?_
    refine cl_i (W.runV (As := [.int (nI kk), .int (nI j), .int (nI k)]) (rest := []) S (c_N_read hn16 (rfl) (rfl) (rfl) (hkk) (hj40) (hk40)) (cwV 3 hts gv_X_215 rfl rfl rfl (by decide +kernel) ⟨Nat.le_of_ble_eq_true rfl, Nat.le_of_ble_eq_true rfl⟩) (cP_V (KG_ok _) hK hK.1 hn16.1 rfl) rfl rfl hl.1 rfl (lv_room (Nat.le_of_ble_eq_true rfl)) d_X_keptWinner_30 ⟨Nat.le_of_ble_eq_true rfl, Nat.le_of_ble_eq_true rfl⟩) ?_
    exact rt_di hQ hx hb hr hlk rfl (by rw [KP_mm hkp hkk hj40 hk40, if_pos gk]; exact i_as _) ⟨⟨hw9, ⟨sl, by show KP u (kpS kp kk _ _) sl; rw [kpS_id gk]; exact hkp, hn16⟩, hp17, hO18, hz⟩, hB19⟩ hL15 (Nat.le_of_ble_eq_true rfl) (Nat.le_of_ble_eq_true rfl) d_X_keptWinner_33
