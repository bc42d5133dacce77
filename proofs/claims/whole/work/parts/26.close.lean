def rm_X_close : Room := { frames := 7, cells := 1, slots := 6, locals := 124 }
set_option maxRecDepth 100000 in
set_option maxHeartbeats 4000000 in
theorem c_X_close {l : Launch} {ev : EV} {H0 : Heap} {b : Nat} {u : XS} {kp : KT} {v : PT} (hT : l.stackTraces = false) (hf : XF ev b u kp v H0) (k : Int32) : vx_Met l my_X_close mw_X_close rm_X_close (cP [.ref b, .int k] (KG ev) H0) (cQod (okK k) (some (.int (nI (coF u k v u.1.2.2.2.1).1))) (fun H1 => XF ev b u kp (coF u k v u.1.2.2.2.1) H1 ∧ Frm b 101 H0 H1)) (cX (fun E H1 => (¬ okK k) ∧ E = cIX ∧ XF ev b u kp v H1 ∧ Frm b 101 H0 H1)) 1 6 (inBk b (b + 101)) := by
  refine cHeadX [.ref b, .int k] (by decide) rfl (Nat.le_of_ble_eq_true rfl) ?_
  intro p e s m below meth c ls args QQ hQ htab S hr hlk hnm hs hK hl
  have S : CallFix p m c mb_X_close 4 s args TB "RuleChoice" := S
  obtain ⟨hx, hb, hml, hown, hts⟩ := id S
  obtain ⟨hw, ⟨sl, hkp, hn⟩, hp, hO, hz⟩ := id hf
  have hold := hO
  have ht40 : u.1.2.2.2.1 ≤ 40 := hw.2.2.2.2.2.2.1
  have hr40 : u.1.2.1 ≤ 40 := hw.2.2.2.2.1
  have ha12 : u.1.2.2.1 ≤ 12 := hw.2.2.2.2.2.1
  have hl : lv_has ls 4 [(0, .ref b), (1, .int k)] := hl
  refine lv_aload_n hx hb d_X_close_0 rfl (lv_at hl 0 rfl) ?_
  refine lv_iload_n hx hb d_X_close_1 rfl (lv_at hl 1 rfl) ?_
  refine cx_v (vx_runV (As := [.int k]) (rest := []) S (c_X_needKind hT hold k) (cwV 1 hts gv_X_57 rfl rfl rfl (by decide +kernel) ⟨Nat.le_of_ble_eq_true rfl, Nat.le_of_ble_eq_true rfl⟩) (cP_V (KG_ok _) hK hK.1 hw.1 rfl) rfl rfl hl.1 rfl (lv_room (Nat.le_of_ble_eq_true rfl)) d_X_close_2 ⟨Nat.le_of_ble_eq_true rfl, Nat.le_of_ble_eq_true rfl⟩) (A := inBk b (b + 101)) cNil (fun E1 H2 ce3 q4 L5 hp6 hL7 h8 h9 h10 => ?_) (fun k11 => ?_)
  · exact cx_out hQ htab hlk h8 h9 h10 (⟨hp6.1, hp6.2.1, XF_ext hf hp6.2.2, Frm.ext hp6.2.2⟩) hL7 (Nat.le_of_ble_eq_true rfl) (Nat.le_of_ble_eq_true rfl)
  · refine lv_aload_n hx hb d_X_close_5 rfl (lv_at hl 0 rfl) ?_
    refine rw_get hx hb hts in_X hown hK.1 hw.1 rfl 5 (by decide) (hts _ fl_X_53) rfl d_X_close_6 ?_
    refine cl_d (W.runV (As := []) (rest := []) S (c_P_clear hp) (cwV 0 hts gv_X_184 rfl rfl rfl (by decide +kernel) ⟨Nat.le_of_ble_eq_true rfl, Nat.le_of_ble_eq_true rfl⟩) (cP_V (KG_ok _) hK hK.1 hp.1 rfl) rfl rfl hl.1 rfl (lv_room (Nat.le_of_ble_eq_true rfl)) d_X_close_9 ⟨Nat.le_of_ble_eq_true rfl, Nat.le_of_ble_eq_true rfl⟩) (A := inBk b (b + 101)) cNil (fun z h => ⟨by omega, by omega⟩) (fun H12 L13 hp14 hL15 => ?_)
    have hp16 := hp14.1
    have hBc := hp14.2
    have hw17 := XW_k hw (fun q _ _ => hBc.2 q (by omega))
    have hn18 := xN_k hn (fun q _ _ => hBc.2 q (by omega))
    have hO19 := Old.blk hO hBc (by omega)
    have hB20 := Blk.trans (Blk.rf (lo := b) (hi := b + 101) (H := H0)) (hBc.wide (by omega) (by omega))
    refine lv_iconst (v := 0) hx hb d_X_close_12 (by decide) ?_
    refine lv_istore_n (lv' := [(2, .int 0), (0, .ref b), (1, .int k)]) hx hb d_X_close_13 rfl hl (by decide) rfl (fun ls hl => ?_)
    have LP : ∀ (n a : Nat) (ls : Array Slot) (H : Heap) (locs : List Loc), XW ev b u H → xN ev (b + 96) sl H → xP ev (b + 98) (coF u k v a) H → Old ev H → Blk b (b + 101) H0 H → (∀ q ∈ locs, inBk b (b + 101) q.base) → a ≤ u.1.2.2.2.1 → u.1.2.2.2.1 - a < n → lv_has ls 4 [(0, .ref b), (1, .int k), (2, .int (nI a))] → W p l e rm_X_close s m args below meth c H locs (0 + 1) (0 + 6) QQ (F0 m 14 ls []) := by
      intro n
      induction n with
      | zero => intro a ls H locs _ _ _ _ _ _ h2 h3; exact absurd h3 (by omega)
      | succ n ih =>
        intro a ls H locs hw2 hn2 hp2 hO2 hB2 hL2 hle hlt9 hl
        refine lv_iload_n hx hb d_X_close_14 rfl (lv_at hl 2 rfl) ?_
        refine lv_aload_n hx hb d_X_close_15 rfl (lv_at hl 0 rfl) ?_
        refine rw_get hx hb hts in_X hown hK.1 hw2.1 rfl 8 (by decide) (hts _ fl_X_119) rfl d_X_close_16 ?_
        refine lv_icmp_ge (tgt := 75) hx hb d_X_close_19 (by decide) (fun c19 => ?_) (fun c19 => ?_)
        · refine lv_aload_n hx hb d_X_close_75 rfl (lv_at hl 0 rfl) ?_
          refine rw_get hx hb hts in_X hown hK.1 hw2.1 rfl 5 (by decide) (hts _ fl_X_53) rfl d_X_close_76 ?_
          refine rw_get hx hb hts in_P hown hK.1 hp2.1 rfl 2 (by decide) (hts _ fl_X_194) rfl d_X_close_79 ?_
          have e9 : a = u.1.2.2.2.1 := Nat.le_antisymm hle (Nat.not_lt.mp (fun h => absurd c19 (nI_ge h (by omega))))
          exact ry_i hQ (k11) hx hb hr hlk (rfl) (by rw [← e9]) (by rw [← e9]; exact ⟨⟨hw2, ⟨sl, hkp, hn2⟩, hp2, hO2, hz⟩, Frm.blk hB2 (Nat.le_refl _) (Nat.le_refl _)⟩) hL2 (Nat.le_of_ble_eq_true rfl) (Nat.le_of_ble_eq_true rfl) d_X_close_82
        · have hlt : a < u.1.2.2.2.1 := Nat.not_le.mp (fun h => c19 (nI_le h (by omega)))
          have ha40 : a < 40 := by omega
          refine lv_iload_n hx hb d_X_close_22 rfl (lv_at hl 2 rfl) ?_
          refine lv_iconst (v := 1) hx hb d_X_close_23 (by decide) ?_
          refine lv_iadd hx hb d_X_close_24 ?_
          refine tp_i (y := (nI (a + 1 + 0))) (nI_1 a) ?_
          refine lv_istore_n (lv' := [(3, .int (nI (a + 1 + 0))), (0, .ref b), (1, .int k), (2, .int (nI a))]) hx hb d_X_close_25 rfl hl (by decide) rfl (fun ls hl => ?_)
          have LQ : ∀ (n2 i : Nat) (ls : Array Slot) (H : Heap) (locs : List Loc), XW ev b u H → xN ev (b + 96) sl H → xP ev (b + 98) (ciF u k (coF u k v a) a i) H → Old ev H → Blk b (b + 101) H0 H → (∀ q ∈ locs, inBk b (b + 101) q.base) → i ≤ u.1.2.2.2.1 - (a + 1) → u.1.2.2.2.1 - (a + 1) - i < n2 → lv_has ls 4 [(0, .ref b), (1, .int k), (2, .int (nI a)), (3, .int (nI (a + 1 + i)))] → W p l e rm_X_close s m args below meth c H locs (0 + 1) (0 + 6) QQ (F0 m 26 ls []) := by
            intro n2
            induction n2 with
            | zero => intro i ls H locs _ _ _ _ _ _ h2 h3; exact absurd h3 (by omega)
            | succ n2 ih2 =>
              intro i ls H locs hw2 hn2 hp2 hO2 hB2 hL2 hle2 hlt8 hl
              refine lv_iload_n hx hb d_X_close_26 rfl (lv_at hl 3 rfl) ?_
              refine lv_aload_n hx hb d_X_close_27 rfl (lv_at hl 0 rfl) ?_
              refine rw_get hx hb hts in_X hown hK.1 hw2.1 rfl 8 (by decide) (hts _ fl_X_119) rfl d_X_close_28 ?_
              refine lv_icmp_ge (tgt := 69) hx hb d_X_close_31 (by decide) (fun c31 => ?_) (fun c31 => ?_)
              · have e8 : i = u.1.2.2.2.1 - (a + 1) := Nat.le_antisymm hle2 (Nat.not_lt.mp (fun h => absurd c31 (nI_ge (by omega) (by omega))))
                have hp7 : xP ev (b + 98) (coF u k v (a + 1)) H := by subst e8; exact hp2
                refine lv_iinc (v := (nI (a + 1))) (lv' := [(2, .int (nI (a + 1))), (0, .ref b), (1, .int k), (3, .int (nI (a + 1 + i)))]) hx hb d_X_close_69 hl (k := 2) rfl ((nI_1 a)) (by decide) rfl (fun ls hl => ?_)
                refine lv_goto (tgt := 14) hx hb d_X_close_72 (by decide) ?_
                exact ih (a + 1) ls _ _ hw2 hn2 hp7 hO2 hB2 hL2 (by omega) (by omega) (lv_sub hl [1, 2, 0] rfl)
              · have a1 : i < u.1.2.2.2.1 - (a + 1) := by have h9 : ¬ u.1.2.2.2.1 ≤ a + 1 + i := fun h => c31 (nI_le h (by omega)); omega
                have hb40 : a + 1 + i < 40 := by omega
                refine lv_aload_n hx hb d_X_close_34 rfl (lv_at hl 0 rfl) ?_
                refine lv_iload_n hx hb d_X_close_35 rfl (lv_at hl 1 rfl) ?_
                refine lv_aload_n hx hb d_X_close_36 rfl (lv_at hl 0 rfl) ?_
                refine rw_get hx hb hts in_X hown hK.1 hw2.1 rfl 3 (by decide) (hts _ fl_X_38) rfl d_X_close_37 ?_
                refine lv_iload_n hx hb d_X_close_40 rfl (lv_at hl 2 rfl) ?_
                refine rw_aald hx hb hK.1 5 hw2.2.2.2.1.1 rfl a (rfl) (ha40) (by decide) rfl d_X_close_41 ?_
                refine lv_aload_n hx hb d_X_close_42 rfl (lv_at hl 0 rfl) ?_
                refine rw_get hx hb hts in_X hown hK.1 hw2.1 rfl 3 (by decide) (hts _ fl_X_38) rfl d_X_close_43 ?_
                refine lv_iload_n hx hb d_X_close_46 rfl (lv_at hl 3 rfl) ?_
                refine rw_aald hx hb hK.1 5 hw2.2.2.2.1.1 rfl (a + 1 + i) (rfl) (hb40) (by decide) rfl d_X_close_47 ?_
                refine cl_i (W.runV (As := [.int k, .ref (b + 56 + a), .ref (b + 56 + (a + 1 + i))]) (rest := []) S (c_X_areTooNear hw2 (j := a) (k := (a + 1 + i)) (ha40) (hb40) k) (cwV 3 hts gv_X_187 rfl rfl rfl (by decide +kernel) ⟨Nat.le_of_ble_eq_true rfl, Nat.le_of_ble_eq_true rfl⟩) (cP_V (KG_ok _) hK hK.1 hw2.1 rfl) rfl rfl hl.1 rfl (lv_room (Nat.le_of_ble_eq_true rfl)) d_X_close_48 ⟨Nat.le_of_ble_eq_true rfl, Nat.le_of_ble_eq_true rfl⟩) ?_
                refine lv_if_eq (tgt := 63) hx hb d_X_close_51 (by decide) (fun c51 => ?_) (fun c51 => ?_)
                · refine lv_iinc (v := (nI (a + 1 + (i + 1)))) (lv' := [(3, .int (nI (a + 1 + (i + 1)))), (0, .ref b), (1, .int k), (2, .int (nI a))]) hx hb d_X_close_63 hl (k := 3) rfl ((nI_1 (a + 1 + i))) (by decide) rfl (fun ls hl => ?_)
                  refine lv_goto (tgt := 26) hx hb d_X_close_66 (by decide) ?_
                  exact ih2 (i + 1) ls _ _ hw2 hn2 (by rw [ci_n ((bI_eq _).mp c51)]; exact hp2) hO2 hB2 hL2 (by omega) (by omega) (lv_sub hl [1, 2, 3, 0] rfl)
                · refine lv_aload_n hx hb d_X_close_54 rfl (lv_at hl 0 rfl) ?_
                  refine rw_get hx hb hts in_X hown hK.1 hw2.1 rfl 5 (by decide) (hts _ fl_X_53) rfl d_X_close_55 ?_
                  refine lv_iload_n hx hb d_X_close_58 rfl (lv_at hl 2 rfl) ?_
                  refine lv_iload_n hx hb d_X_close_59 rfl (lv_at hl 3 rfl) ?_
                  refine cl_d (W.runV (As := [.int (nI a), .int (nI (a + 1 + i))]) (rest := []) S (c_P_add hp2 (ci_780 ht40 hlt a1) (nI a) (nI (a + 1 + i))) (cwV 2 hts gv_X_191 rfl rfl rfl (by decide +kernel) ⟨Nat.le_of_ble_eq_true rfl, Nat.le_of_ble_eq_true rfl⟩) (cP_V (KG_ok _) hK hK.1 hp2.1 rfl) rfl rfl hl.1 rfl (lv_room (Nat.le_of_ble_eq_true rfl)) d_X_close_60 ⟨Nat.le_of_ble_eq_true rfl, Nat.le_of_ble_eq_true rfl⟩) hL2 (fun z h => ⟨by omega, by omega⟩) (fun H21 L22 hp23 hL24 => ?_)
                  have hp25 := hp23.1
                  have hBa26 := hp23.2
                  have hw27 := XW_k hw2 (fun q _ _ => hBa26.2 q (by omega))
                  have hn28 := xN_k hn2 (fun q _ _ => hBa26.2 q (by omega))
                  have hO29 := Old.blk hO2 hBa26 (by omega)
                  have hB30 := Blk.trans hB2 (hBa26.wide (by omega) (by omega))
                  refine lv_iinc (v := (nI (a + 1 + (i + 1)))) (lv' := [(3, .int (nI (a + 1 + (i + 1)))), (0, .ref b), (1, .int k), (2, .int (nI a))]) hx hb d_X_close_63 hl (k := 3) rfl ((nI_1 (a + 1 + i))) (by decide) rfl (fun ls hl => ?_)
                  refine lv_goto (tgt := 26) hx hb d_X_close_66 (by decide) ?_
                  exact ih2 (i + 1) ls _ _ hw27 hn28 (by rw [ci_y ((bI_ne _).mp c51)]; exact hp25) hO29 hB30 hL24 (by omega) (by omega) (lv_sub hl [1, 2, 3, 0] rfl)
          exact LQ _ 0 ls _ _ hw2 hn2 hp2 hO2 hB2 hL2 (Nat.zero_le _) (Nat.lt_succ_self _) (lv_sub hl [1, 2, 3, 0] rfl)
    exact LP _ 0 ls _ _ hw17 hn18 hp16 hO19 hB20 hL15 (Nat.zero_le _) (Nat.lt_succ_self _) (lv_sub hl [1, 2, 0] rfl)
