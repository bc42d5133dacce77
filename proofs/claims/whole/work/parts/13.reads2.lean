def rm_X_valueOf : Room := { frames := 0, cells := 0, slots := 0, locals := 0 }
set_option maxRecDepth 100000 in
set_option maxHeartbeats 4000000 in
theorem c_X_valueOf {l : Launch} {ev : EV} {H0 : Heap} {b : Nat} {u : XS} (hw : XW ev b u H0) {o : Option Nat} (ho : ∀ a, o = some a → a < 40) : Met l my_X_valueOf mw_X_valueOf rm_X_valueOf (cP [.ref b, .int (oI o)] (KG ev) H0) (cQp (some (.long (valF u.2.1 o)))) 0 0 cNo := by
  refine cHead [.ref b, .int (oI o)] (by decide) rfl (Nat.le_of_ble_eq_true rfl) ?_
  intro p e s m below meth c ls args QQ hQ S hr hlk hnm hs hK hl
  have S : CallFix p m c mb_X_valueOf 2 s args TB "RuleChoice" := S
  obtain ⟨hx, hb, hml, hown, hts⟩ := id S
  have hl : lv_has ls 2 [(0, .ref b), (1, .int (oI o))] := hl
  refine lv_iload_n hx hb d_X_valueOf_0 rfl (lv_at hl 1 rfl) ?_
  refine lv_iconst (v := (-1)) hx hb d_X_valueOf_1 (by decide) ?_
  refine lv_icmp_ne (tgt := 11) hx hb d_X_valueOf_2 (by decide) (fun c2 => ?_) (fun c2 => ?_)
  · obtain ⟨i, gi⟩ := oI_no c2
    have hi : i < 40 := ho i gi
    refine lv_aload_n hx hb d_X_valueOf_11 rfl (lv_at hl 0 rfl) ?_
    refine rw_get hx hb hts in_X hown hK.1 hw.1 rfl 1 (by decide) (hts _ fl_X_24) rfl d_X_valueOf_12 ?_
    refine lv_iload_n hx hb d_X_valueOf_15 rfl (lv_at hl 1 rfl) ?_
    refine rw_aald hx hb hK.1 3 hw.2.1.1 rfl i (by rw [gi]; rfl) (hi) (by decide) rfl d_X_valueOf_16 ?_
    refine rw_get hx hb hts in_R hown hK.1 (hw.2.1.2 i (hi)) rfl 4 (by decide) (hts _ fl_X_178) rfl d_X_valueOf_17 ?_
    exact rt_l hQ hx hb hr hlk hs (by rw [gi]; rfl) d_X_valueOf_20
  · refine lv_ldc2 (v := (-1)) hx hb hown (hts _ kl_X_172) d_X_valueOf_5 ?_
    refine lv_goto (tgt := 20) hx hb d_X_valueOf_8 (by decide) ?_
    exact rt_l hQ hx hb hr hlk hs (by rw [oI_m1 (fun a h => Nat.lt_trans (ho a h) (by decide)) c2]; rfl) d_X_valueOf_20
def rm_X_areasAround : Room := { frames := 1, cells := 0, slots := 0, locals := 24 }
set_option maxRecDepth 100000 in
set_option maxHeartbeats 4000000 in
theorem c_X_areasAround {l : Launch} {ev : EV} {H0 : Heap} {b : Nat} {u : XS} (hw : XW ev b u H0) (x y : Int64) : Met l my_X_areasAround mw_X_areasAround rm_X_areasAround (cP [.ref b, .long x, .long y] (KG ev) H0) (cQp (some (.int (arnF u.2.2.1 x y u.1.2.2.1)))) 0 0 cNo := by
  refine cHead [.ref b, .long x, .long y] (by decide) rfl (Nat.le_of_ble_eq_true rfl) ?_
  intro p e s m below meth c ls args QQ hQ S hr hlk hnm hs hK hl
  have S : CallFix p m c mb_X_areasAround 7 s args TB "RuleChoice" := S
  obtain ⟨hx, hb, hml, hown, hts⟩ := id S
  have hn12 : u.1.2.2.1 ≤ 12 := hw.2.2.2.2.2.1
  have hl : lv_has ls 7 [(0, .ref b), (1, .long x), (3, .long y)] := hl
  refine lv_iconst (v := 0) hx hb d_X_areasAround_0 (by decide) ?_
  refine lv_istore (lv' := [(5, .int 0), (0, .ref b), (1, .long x), (3, .long y)]) hx hb d_X_areasAround_1 hl (by decide) rfl (fun ls hl => ?_)
  refine lv_iconst (v := 0) hx hb d_X_areasAround_3 (by decide) ?_
  refine lv_istore (lv' := [(6, .int 0), (5, .int 0), (0, .ref b), (1, .long x), (3, .long y)]) hx hb d_X_areasAround_4 hl (by decide) rfl (fun ls hl => ?_)
  have LP : ∀ (n i : Nat) (bs : Int32) (ls : Array Slot), bs = arnF u.2.2.1 x y i → i ≤ u.1.2.2.1 → u.1.2.2.1 - i < n → lv_has ls 7 [(0, .ref b), (1, .long x), (3, .long y), (5, .int bs), (6, .int (nI i))] → W p l e rm_X_areasAround s m args below meth c H0 [] 0 0 QQ (F0 m 6 ls []) := by
    intro n
    induction n with
    | zero => intro i bs ls h1 h2 h3; exact absurd h3 (by omega)
    | succ n ih =>
      intro i bs ls ebs hle hn hl
      refine lv_iload hx hb d_X_areasAround_6 (lv_at hl 4 rfl) ?_
      refine lv_aload_n hx hb d_X_areasAround_8 rfl (lv_at hl 0 rfl) ?_
      refine rw_get hx hb hts in_X hown hK.1 hw.1 rfl 7 (by decide) (hts _ fl_X_101) rfl d_X_areasAround_9 ?_
      refine lv_icmp_ge (tgt := 45) hx hb d_X_areasAround_12 (by decide) (fun c12 => ?_) (fun c12 => ?_)
      · refine lv_iload hx hb d_X_areasAround_45 (lv_at hl 3 rfl) ?_
        exact rt_i hQ hx hb hr hlk hs (rfl) (by rw [ebs]; congr 1; exact Nat.le_antisymm hle (Nat.not_lt.mp (fun h => absurd c12 (nI_ge h (by omega))))) d_X_areasAround_47
      · have hlt : i < u.1.2.2.1 := Nat.not_le.mp (fun h => c12 (nI_le h (by omega)))
        have h12 : i < 12 := by omega
        refine lv_aload_n hx hb d_X_areasAround_15 rfl (lv_at hl 0 rfl) ?_
        refine rw_get hx hb hts in_X hown hK.1 hw.1 rfl 2 (by decide) (hts _ fl_X_31) rfl d_X_areasAround_16 ?_
        refine lv_iload hx hb d_X_areasAround_19 (lv_at hl 4 rfl) ?_
        refine rw_aald hx hb hK.1 4 hw.2.2.1.1 rfl i (rfl) (h12) (by decide) rfl d_X_areasAround_21 ?_
        refine lv_lload_n hx hb d_X_areasAround_22 rfl (lv_at hl 1 rfl) ?_
        refine lv_lload_n hx hb d_X_areasAround_23 rfl (lv_at hl 2 rfl) ?_
        refine cl_i (W.runV (As := [.long x, .long y]) (rest := []) S (c_A_holds (hw.2.2.1.2 i (h12)) x y) (cwV 2 hts gv_X_229 rfl rfl rfl (by decide +kernel) ⟨Nat.le_of_ble_eq_true rfl, Nat.le_of_ble_eq_true rfl⟩) (cP_V (KG_ok _) hK hK.1 (hw.2.2.1.2 i (h12)) rfl) rfl rfl hl.1 rfl (lv_room (Nat.le_of_ble_eq_true rfl)) d_X_areasAround_24 ⟨Nat.le_of_ble_eq_true rfl, Nat.le_of_ble_eq_true rfl⟩) ?_
        refine lv_if_eq (tgt := 39) hx hb d_X_areasAround_27 (by decide) (fun c27 => ?_) (fun c27 => ?_)
        · refine lv_iinc (v := (nI (i + 1))) (lv' := [(6, .int (nI (i + 1))), (0, .ref b), (1, .long x), (3, .long y), (5, .int bs)]) hx hb d_X_areasAround_39 hl (k := 4) rfl ((nI_1 i)) (by decide) rfl (fun ls hl => ?_)
          refine lv_goto (tgt := 6) hx hb d_X_areasAround_42 (by decide) ?_
          exact ih (i + 1) _ ls (by rw [arnF_n ((bI_eq _).mp c27)]; exact ebs) (by omega) (by omega) (lv_sub hl [1, 2, 3, 4, 0] rfl)
        · refine lv_iload hx hb d_X_areasAround_30 (lv_at hl 3 rfl) ?_
          refine lv_iconst (v := 1) hx hb d_X_areasAround_32 (by decide) ?_
          refine lv_iload hx hb d_X_areasAround_33 (lv_at hl 4 rfl) ?_
          refine lv_ishl hx hb d_X_areasAround_35 ?_
          refine lv_ior hx hb d_X_areasAround_36 ?_
          refine lv_istore (lv' := [(5, .int (bs ||| (1 <<< ((nI i) &&& 31)))), (0, .ref b), (1, .long x), (3, .long y), (6, .int (nI i))]) hx hb d_X_areasAround_37 hl (by decide) rfl (fun ls hl => ?_)
          refine lv_iinc (v := (nI (i + 1))) (lv' := [(6, .int (nI (i + 1))), (5, .int (bs ||| (1 <<< ((nI i) &&& 31)))), (0, .ref b), (1, .long x), (3, .long y)]) hx hb d_X_areasAround_39 hl (k := 4) rfl ((nI_1 i)) (by decide) rfl (fun ls hl => ?_)
          refine lv_goto (tgt := 6) hx hb d_X_areasAround_42 (by decide) ?_
          exact ih (i + 1) _ ls (by rw [arnF_y ((bI_ne _).mp c27), ebs]) (by omega) (by omega) (lv_sub hl [2, 3, 4, 1, 0] rfl)
  exact LP _ 0 0 ls rfl (Nat.zero_le _) (Nat.lt_succ_self _) (lv_sub hl [2, 3, 4, 1, 0] rfl)
def rm_X_areTooNear : Room := { frames := 4, cells := 0, slots := 0, locals := 94 }
set_option maxRecDepth 100000 in
set_option maxHeartbeats 4000000 in
theorem c_X_areTooNear {l : Launch} {ev : EV} {H0 : Heap} {b : Nat} {u : XS} (hw : XW ev b u H0) {j k : Nat} (hj : j < 40) (hk : k < 40) (kind : Int32) : Met l my_X_areTooNear mw_X_areTooNear rm_X_areTooNear (cP [.ref b, .int kind, .ref (b + 56 + j), .ref (b + 56 + k)] (KG ev) H0) (cQp (some (.int (bI (nerB u.2.1 u.2.2.1 u.1.2.1 kind (u.2.2.2 j) (u.2.2.2 k)))))) 0 0 cNo := by
  refine cHead [.ref b, .int kind, .ref (b + 56 + j), .ref (b + 56 + k)] (by decide) rfl (Nat.le_of_ble_eq_true rfl) ?_
  intro p e s m below meth c ls args QQ hQ S hr hlk hnm hs hK hl
  have S : CallFix p m c mb_X_areTooNear 11 s args TB "RuleChoice" := S
  obtain ⟨hx, hb, hml, hown, hts⟩ := id S
  have hl : lv_has ls 11 [(0, .ref b), (1, .int kind), (2, .ref (b + 56 + j)), (3, .ref (b + 56 + k))] := hl
  refine lv_aload_n hx hb d_X_areTooNear_0 rfl (lv_at hl 2 rfl) ?_
  refine rw_get hx hb hts in_T hown hK.1 (hw.2.2.2.1.2 j (hj)) rfl 1 (by decide) (hts _ fl_X_135) rfl d_X_areTooNear_1 ?_
  refine lv_aload_n hx hb d_X_areTooNear_4 rfl (lv_at hl 3 rfl) ?_
  refine rw_get hx hb hts in_T hown hK.1 (hw.2.2.2.1.2 k (hk)) rfl 1 (by decide) (hts _ fl_X_135) rfl d_X_areTooNear_5 ?_
  refine lv_icmp_eq (tgt := 13) hx hb d_X_areTooNear_8 (by decide) (fun c8 => ?_) (fun c8 => ?_)
  · refine lv_aload_n hx hb d_X_areTooNear_13 rfl (lv_at hl 0 rfl) ?_
    refine lv_iconst (v := (-1)) hx hb d_X_areTooNear_14 (by decide) ?_
    refine lv_iload_n hx hb d_X_areTooNear_15 rfl (lv_at hl 1 rfl) ?_
    refine lv_aload_n hx hb d_X_areTooNear_16 rfl (lv_at hl 2 rfl) ?_
    refine lv_aload_n hx hb d_X_areTooNear_17 rfl (lv_at hl 3 rfl) ?_
    refine cl_i (W.runV (As := [.int (-1), .int kind, .ref (b + 56 + j), .ref (b + 56 + k)]) (rest := []) S (c_X_bestBelow hw (up := none) (j := j) (k := k) (fun _ h => by cases h) (hj) (hk) kind) (cwV 4 hts gv_X_164 rfl rfl rfl (by decide +kernel) ⟨Nat.le_of_ble_eq_true rfl, Nat.le_of_ble_eq_true rfl⟩) (cP_V (KG_ok _) hK hK.1 hw.1 rfl) rfl rfl hl.1 rfl (lv_room (Nat.le_of_ble_eq_true rfl)) d_X_areTooNear_18 ⟨Nat.le_of_ble_eq_true rfl, Nat.le_of_ble_eq_true rfl⟩) ?_
    refine lv_istore (lv' := [(4, .int (oI (besF u.2.1 u.2.2.1 none kind (u.2.2.2 j) (u.2.2.2 k) u.1.2.1))), (0, .ref b), (1, .int kind), (2, .ref (b + 56 + j)), (3, .ref (b + 56 + k))]) hx hb d_X_areTooNear_21 hl (by decide) rfl (fun ls hl => ?_)
    refine lv_iload hx hb d_X_areTooNear_23 (lv_at hl 0 rfl) ?_
    refine lv_iconst (v := (-1)) hx hb d_X_areTooNear_25 (by decide) ?_
    refine lv_icmp_ne (tgt := 31) hx hb d_X_areTooNear_26 (by decide) (fun c26 => ?_) (fun c26 => ?_)
    · obtain ⟨i, gi⟩ := oI_no c26
      have hi : i < 40 := Nat.lt_of_lt_of_le (besF_lt _ _ gi) hw.2.2.2.2.1
      refine lv_aload_n hx hb d_X_areTooNear_31 rfl (lv_at hl 1 rfl) ?_
      refine rw_get hx hb hts in_X hown hK.1 hw.1 rfl 1 (by decide) (hts _ fl_X_24) rfl d_X_areTooNear_32 ?_
      refine lv_iload hx hb d_X_areTooNear_35 (lv_at hl 0 rfl) ?_
      refine rw_aald hx hb hK.1 3 hw.2.1.1 rfl i (by rw [gi]; rfl) (hi) (by decide) rfl d_X_areTooNear_37 ?_
      refine rw_get hx hb hts in_R hown hK.1 (hw.2.1.2 i (hi)) rfl 4 (by decide) (hts _ fl_X_178) rfl d_X_areTooNear_38 ?_
      refine lv_lstore (lv' := [(5, .long ((u.2.1 i).2.2.2.2.1)), (4, .int (oI (besF u.2.1 u.2.2.1 none kind (u.2.2.2 j) (u.2.2.2 k) u.1.2.1))), (0, .ref b), (1, .int kind), (2, .ref (b + 56 + j)), (3, .ref (b + 56 + k))]) hx hb d_X_areTooNear_41 hl (by decide) rfl (fun ls hl => ?_)
      refine lv_aload_n hx hb d_X_areTooNear_43 rfl (lv_at hl 4 rfl) ?_
      refine rw_get hx hb hts in_T hown hK.1 (hw.2.2.2.1.2 j (hj)) rfl 2 (by decide) (hts _ fl_X_141) rfl d_X_areTooNear_44 ?_
      refine lv_aload_n hx hb d_X_areTooNear_47 rfl (lv_at hl 5 rfl) ?_
      refine rw_get hx hb hts in_T hown hK.1 (hw.2.2.2.1.2 k (hk)) rfl 2 (by decide) (hts _ fl_X_141) rfl d_X_areTooNear_48 ?_
      refine lv_lsub hx hb d_X_areTooNear_51 ?_
      refine lv_lstore (lv' := [(7, .long (((u.2.2.2 j).2.2.1) - ((u.2.2.2 k).2.2.1))), (5, .long ((u.2.1 i).2.2.2.2.1)), (4, .int (oI (besF u.2.1 u.2.2.1 none kind (u.2.2.2 j) (u.2.2.2 k) u.1.2.1))), (0, .ref b), (1, .int kind), (2, .ref (b + 56 + j)), (3, .ref (b + 56 + k))]) hx hb d_X_areTooNear_52 hl (by decide) rfl (fun ls hl => ?_)
      refine lv_aload_n hx hb d_X_areTooNear_54 rfl (lv_at hl 5 rfl) ?_
      refine rw_get hx hb hts in_T hown hK.1 (hw.2.2.2.1.2 j (hj)) rfl 3 (by decide) (hts _ fl_X_145) rfl d_X_areTooNear_55 ?_
      refine lv_aload_n hx hb d_X_areTooNear_58 rfl (lv_at hl 6 rfl) ?_
      refine rw_get hx hb hts in_T hown hK.1 (hw.2.2.2.1.2 k (hk)) rfl 3 (by decide) (hts _ fl_X_145) rfl d_X_areTooNear_59 ?_
      refine lv_lsub hx hb d_X_areTooNear_62 ?_
      refine lv_lstore (lv' := [(9, .long (((u.2.2.2 j).2.2.2) - ((u.2.2.2 k).2.2.2))), (7, .long (((u.2.2.2 j).2.2.1) - ((u.2.2.2 k).2.2.1))), (5, .long ((u.2.1 i).2.2.2.2.1)), (4, .int (oI (besF u.2.1 u.2.2.1 none kind (u.2.2.2 j) (u.2.2.2 k) u.1.2.1))), (0, .ref b), (1, .int kind), (2, .ref (b + 56 + j)), (3, .ref (b + 56 + k))]) hx hb d_X_areTooNear_63 hl (by decide) rfl (fun ls hl => ?_)
      refine lv_lload hx hb d_X_areTooNear_65 (lv_at hl 1 rfl) ?_
      refine lv_lload hx hb d_X_areTooNear_67 (lv_at hl 1 rfl) ?_
      refine lv_lmul hx hb d_X_areTooNear_69 ?_
      refine lv_lload hx hb d_X_areTooNear_70 (lv_at hl 0 rfl) ?_
      refine lv_lload hx hb d_X_areTooNear_72 (lv_at hl 0 rfl) ?_
      refine lv_lmul hx hb d_X_areTooNear_74 ?_
      refine lv_ladd hx hb d_X_areTooNear_75 ?_
      refine lv_lload hx hb d_X_areTooNear_76 (lv_at hl 2 rfl) ?_
      refine lv_lload hx hb d_X_areTooNear_78 (lv_at hl 2 rfl) ?_
      refine lv_lmul hx hb d_X_areTooNear_80 ?_
      refine ll_ge (tgt := 89) hx hb d_X_areTooNear_81 d_X_areTooNear_82 (by decide) (fun c82 => ?_) (fun c82 => ?_)
      · refine lv_iconst (v := 0) hx hb d_X_areTooNear_89 (by decide) ?_
        exact rt_i hQ hx hb hr hlk hs (rfl) (by simp [nerB, bI, c8, gi, dsF, c82, Int64.not_lt.mpr c82]) d_X_areTooNear_90
      · refine lv_iconst (v := 1) hx hb d_X_areTooNear_85 (by decide) ?_
        refine lv_goto (tgt := 90) hx hb d_X_areTooNear_86 (by decide) ?_
        exact rt_i hQ hx hb hr hlk hs (rfl) (by simp [nerB, bI, c8, gi, dsF, c82, Int64.not_le.mp c82]) d_X_areTooNear_90
    · refine lv_iconst (v := 0) hx hb d_X_areTooNear_29 (by decide) ?_
      exact rt_i hQ hx hb hr hlk hs (rfl) (by have gi : besF u.2.1 u.2.2.1 none kind (u.2.2.2 j) (u.2.2.2 k) u.1.2.1 = none := oI_m1 (fun a h => Nat.lt_trans (besF_lt _ _ h) (Nat.lt_of_le_of_lt hw.2.2.2.2.1 (by decide))) c26; simp [nerB, bI, gi]) d_X_areTooNear_30
  · refine lv_iconst (v := 0) hx hb d_X_areTooNear_11 (by decide) ?_
    exact rt_i hQ hx hb hr hlk hs (rfl) (by simp [nerB, bI, c8]) d_X_areTooNear_12
def rm_X_needClassOrNone : Room := { frames := 7, cells := 1, slots := 6, locals := 104 }
set_option maxRecDepth 100000 in
set_option maxHeartbeats 4000000 in
theorem c_X_needClassOrNone {l : Launch} {ev : EV} {H0 : Heap} {b : Nat} {u : XS} (hT : l.stackTraces = false) (hold : Old ev H0) (hw : XW ev b u H0) (x : Int32) : vx_Met l my_X_needClassOrNone mw_X_needClassOrNone rm_X_needClassOrNone (cP [.ref b, .int x] (KG ev) H0) (cQo (okCN u.1.1 x)) (cX (fun E H1 => ¬ (okCN u.1.1 x) ∧ E = cIX ∧ Ext H0 H1)) 1 6 cNo := by
  refine cHeadX [.ref b, .int x] (by decide) rfl (Nat.le_of_ble_eq_true rfl) ?_
  intro p e s m below meth c ls args QQ hQ htab S hr hlk hnm hs hK hl
  have S : CallFix p m c mb_X_needClassOrNone 2 s args TB "RuleChoice" := S
  obtain ⟨hx, hb, hml, hown, hts⟩ := id S
  have hl : lv_has ls 2 [(0, .ref b), (1, .int x)] := hl
  refine lv_iload_n hx hb d_X_needClassOrNone_0 rfl (lv_at hl 1 rfl) ?_
  refine lv_iconst (v := (-1)) hx hb d_X_needClassOrNone_1 (by decide) ?_
  refine lv_icmp_eq (tgt := 10) hx hb d_X_needClassOrNone_2 (by decide) (fun c2 => ?_) (fun c2 => ?_)
  · exact rx_v hQ (Or.inl c2) hx hb hr hlk hs d_X_needClassOrNone_10
  · refine lv_aload_n hx hb d_X_needClassOrNone_5 rfl (lv_at hl 0 rfl) ?_
    refine lv_iload_n hx hb d_X_needClassOrNone_6 rfl (lv_at hl 1 rfl) ?_
    refine cx_v (vx_runV (As := [.int x]) (rest := []) S (c_X_needClass hT hold hw x) (cwV 1 hts gv_X_113 rfl rfl rfl (by decide +kernel) ⟨Nat.le_of_ble_eq_true rfl, Nat.le_of_ble_eq_true rfl⟩) (cP_V (KG_ok _) hK hK.1 hw.1 rfl) rfl rfl hl.1 rfl (lv_room (Nat.le_of_ble_eq_true rfl)) d_X_needClassOrNone_7 ⟨Nat.le_of_ble_eq_true rfl, Nat.le_of_ble_eq_true rfl⟩) (A := cNo) cNil (fun E1 H2 ce3 q4 L5 hp6 hL7 h8 h9 h10 => ?_) (fun k11 => ?_)
    · exact cx_out hQ htab hlk h8 h9 h10 ⟨fun h => h.elim c2 hp6.1, hp6.2.1, hp6.2.2⟩ hL7 (Nat.le_of_ble_eq_true rfl) (Nat.le_of_ble_eq_true rfl)
    · exact rx_vc hQ (Or.inr k11) hx hb hr hlk hs cNil (Nat.le_of_ble_eq_true rfl) (Nat.le_of_ble_eq_true rfl) d_X_needClassOrNone_10
def rm_X_needLayerOrNone : Room := { frames := 7, cells := 1, slots := 6, locals := 104 }
set_option maxRecDepth 100000 in
set_option maxHeartbeats 4000000 in
theorem c_X_needLayerOrNone {l : Launch} {ev : EV} {H0 : Heap} {b : Nat} {fs : List Value} (hT : l.stackTraces = false) (hold : Old ev H0) (hw0 : pt ev H0 b (oC 0 fs)) (x : Int32) : vx_Met l my_X_needLayerOrNone mw_X_needLayerOrNone rm_X_needLayerOrNone (cP [.ref b, .int x] (KG ev) H0) (cQo (okLN x)) (cX (fun E H1 => ¬ (okLN x) ∧ E = cIX ∧ Ext H0 H1)) 1 6 cNo := by
  refine cHeadX [.ref b, .int x] (by decide) rfl (Nat.le_of_ble_eq_true rfl) ?_
  intro p e s m below meth c ls args QQ hQ htab S hr hlk hnm hs hK hl
  have S : CallFix p m c mb_X_needLayerOrNone 2 s args TB "RuleChoice" := S
  obtain ⟨hx, hb, hml, hown, hts⟩ := id S
  have hl : lv_has ls 2 [(0, .ref b), (1, .int x)] := hl
  refine lv_iload_n hx hb d_X_needLayerOrNone_0 rfl (lv_at hl 1 rfl) ?_
  refine lv_iconst (v := (-1)) hx hb d_X_needLayerOrNone_1 (by decide) ?_
  refine lv_icmp_eq (tgt := 10) hx hb d_X_needLayerOrNone_2 (by decide) (fun c2 => ?_) (fun c2 => ?_)
  · exact rx_v hQ (Or.inl c2) hx hb hr hlk hs d_X_needLayerOrNone_10
  · refine lv_aload_n hx hb d_X_needLayerOrNone_5 rfl (lv_at hl 0 rfl) ?_
    refine lv_iload_n hx hb d_X_needLayerOrNone_6 rfl (lv_at hl 1 rfl) ?_
    refine cx_v (vx_runV (As := [.int x]) (rest := []) S (c_X_needLayer hT hold x) (cwV 1 hts gv_X_116 rfl rfl rfl (by decide +kernel) ⟨Nat.le_of_ble_eq_true rfl, Nat.le_of_ble_eq_true rfl⟩) (cP_V (KG_ok _) hK hK.1 hw0 rfl) rfl rfl hl.1 rfl (lv_room (Nat.le_of_ble_eq_true rfl)) d_X_needLayerOrNone_7 ⟨Nat.le_of_ble_eq_true rfl, Nat.le_of_ble_eq_true rfl⟩) (A := cNo) cNil (fun E1 H2 ce3 q4 L5 hp6 hL7 h8 h9 h10 => ?_) (fun k11 => ?_)
    · exact cx_out hQ htab hlk h8 h9 h10 ⟨fun h => h.elim c2 hp6.1, hp6.2.1, hp6.2.2⟩ hL7 (Nat.le_of_ble_eq_true rfl) (Nat.le_of_ble_eq_true rfl)
    · exact rx_vc hQ (Or.inr k11) hx hb hr hlk hs cNil (Nat.le_of_ble_eq_true rfl) (Nat.le_of_ble_eq_true rfl) d_X_needLayerOrNone_10
def rm_X_needKindAndThings : Room := { frames := 7, cells := 3, slots := 18, locals := 104 }
set_option maxRecDepth 100000 in
set_option maxHeartbeats 4000000 in
theorem c_X_needKindAndThings {l : Launch} {ev : EV} {H0 : Heap} {b : Nat} {u : XS} (hT : l.stackTraces = false) (hold : Old ev H0) (hw : XW ev b u H0) (k x y : Int32) : vx_Met l my_X_needKindAndThings mw_X_needKindAndThings rm_X_needKindAndThings (cP [.ref b, .int k, .int x, .int y] (KG ev) H0) (cQo (okK k ∧ okI u.1.2.2.2.1 x ∧ okI u.1.2.2.2.1 y)) (cX (fun E H1 => ¬ (okK k ∧ okI u.1.2.2.2.1 x ∧ okI u.1.2.2.2.1 y) ∧ E = cIX ∧ Ext H0 H1)) 3 18 cNo := by
  refine cHeadX [.ref b, .int k, .int x, .int y] (by decide) rfl (Nat.le_of_ble_eq_true rfl) ?_
  intro p e s m below meth c ls args QQ hQ htab S hr hlk hnm hs hK hl
  have S : CallFix p m c mb_X_needKindAndThings 4 s args TB "RuleChoice" := S
  obtain ⟨hx, hb, hml, hown, hts⟩ := id S
  have hl : lv_has ls 4 [(0, .ref b), (1, .int k), (2, .int x), (3, .int y)] := hl
  refine lv_aload_n hx hb d_X_needKindAndThings_0 rfl (lv_at hl 0 rfl) ?_
  refine lv_iload_n hx hb d_X_needKindAndThings_1 rfl (lv_at hl 1 rfl) ?_
  refine cx_v (vx_runV (As := [.int k]) (rest := []) S (c_X_needKind hT hold k) (cwV 1 hts gv_X_57 rfl rfl rfl (by decide +kernel) ⟨Nat.le_of_ble_eq_true rfl, Nat.le_of_ble_eq_true rfl⟩) (cP_V (KG_ok _) hK hK.1 hw.1 rfl) rfl rfl hl.1 rfl (lv_room (Nat.le_of_ble_eq_true rfl)) d_X_needKindAndThings_2 ⟨Nat.le_of_ble_eq_true rfl, Nat.le_of_ble_eq_true rfl⟩) (A := cNo) cNil (fun E1 H2 ce3 q4 L5 hp6 hL7 h8 h9 h10 => ?_) (fun k11 => ?_)
  · exact cx_out hQ htab hlk h8 h9 h10 ⟨fun h => hp6.1 h.1, hp6.2.1, hp6.2.2⟩ hL7 (Nat.le_of_ble_eq_true rfl) (Nat.le_of_ble_eq_true rfl)
  · refine lv_aload_n hx hb d_X_needKindAndThings_5 rfl (lv_at hl 0 rfl) ?_
    refine lv_iload_n hx hb d_X_needKindAndThings_6 rfl (lv_at hl 2 rfl) ?_
    refine cx_v (vx_runV (As := [.int x]) (rest := []) S (c_X_needThing hT hold hw x) (cwV 1 hts gv_X_129 rfl rfl rfl (by decide +kernel) ⟨Nat.le_of_ble_eq_true rfl, Nat.le_of_ble_eq_true rfl⟩) (cP_V (KG_ok _) hK hK.1 hw.1 rfl) rfl rfl hl.1 rfl (lv_room (Nat.le_of_ble_eq_true rfl)) d_X_needKindAndThings_7 ⟨Nat.le_of_ble_eq_true rfl, Nat.le_of_ble_eq_true rfl⟩) (A := cNo) cNil (fun E12 H13 ce14 q15 L16 hp17 hL18 h19 h20 h21 => ?_) (fun k22 => ?_)
    · exact cx_out hQ htab hlk h19 h20 h21 ⟨fun h => hp17.1 h.2.1, hp17.2.1, hp17.2.2⟩ hL18 (Nat.le_of_ble_eq_true rfl) (Nat.le_of_ble_eq_true rfl)
    · refine lv_aload_n hx hb d_X_needKindAndThings_10 rfl (lv_at hl 0 rfl) ?_
      refine lv_iload_n hx hb d_X_needKindAndThings_11 rfl (lv_at hl 3 rfl) ?_
      refine cx_v (vx_runV (As := [.int y]) (rest := []) S (c_X_needThing hT hold hw y) (cwV 1 hts gv_X_129 rfl rfl rfl (by decide +kernel) ⟨Nat.le_of_ble_eq_true rfl, Nat.le_of_ble_eq_true rfl⟩) (cP_V (KG_ok _) hK hK.1 hw.1 rfl) rfl rfl hl.1 rfl (lv_room (Nat.le_of_ble_eq_true rfl)) d_X_needKindAndThings_12 ⟨Nat.le_of_ble_eq_true rfl, Nat.le_of_ble_eq_true rfl⟩) (A := cNo) cNil (fun E23 H24 ce25 q26 L27 hp28 hL29 h30 h31 h32 => ?_) (fun k33 => ?_)
      · exact cx_out hQ htab hlk h30 h31 h32 ⟨fun h => hp28.1 h.2.2, hp28.2.1, hp28.2.2⟩ hL29 (Nat.le_of_ble_eq_true rfl) (Nat.le_of_ble_eq_true rfl)
      · exact rx_vc hQ (⟨k11, k22, k33⟩) hx hb hr hlk hs cNil (Nat.le_of_ble_eq_true rfl) (Nat.le_of_ble_eq_true rfl) d_X_needKindAndThings_15
