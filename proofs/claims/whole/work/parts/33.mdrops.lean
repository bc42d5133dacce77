def rm_M_dropKind : Room := { frames := 0, cells := 0, slots := 0, locals := 0 }
set_option maxRecDepth 100000 in
set_option maxHeartbeats 4000000 in
theorem c_M_dropKind {l : Launch} {ev : EV} {H0 : Heap} {d : Nat} {th : Int32} {u : XS} {kp : KT} {v : PT} (ho : pt ev H0 d (oC 6 (mO d th u v))) (hz9 : pt ev H0 (d + 13) (aZ ev 9600 (kbF kp))) {k : Nat} {p0 : Int32} (e0 : p0 = nI k) (hk : k < 6) : Met l my_M_dropKind mw_M_dropKind rm_M_dropKind (cP [.ref d, .int p0] (KG ev) H0) (cQd none (fun H1 => pt ev H1 (d + 13) (aZ ev 9600 (kbF (kpK kp k))) ∧ Blk (d + 13) (d + 14) H0 H1)) 0 0 (inBk (d + 13) (d + 14)) := by
  refine cHead [.ref d, .int p0] (by decide) rfl (Nat.le_of_ble_eq_true rfl) ?_
  intro p e s m below meth c ls args QQ hQ S hr hlk hnm hs hK hl
  have S : CallFix p m c mb_M_dropKind 3 s args TB "RuleChoiceModel" := S
  obtain ⟨hx, hb, hml, hown, hts⟩ := id S
  subst e0
  have hl : lv_has ls 3 [(0, .ref d), (1, .int (nI k))] := hl
  refine lv_sipush (v := 1600) hx hb d_M_dropKind_0 (by decide) ?_
  refine lv_iload_n hx hb d_M_dropKind_3 rfl (lv_at hl 1 rfl) ?_
  refine lv_imul hx hb d_M_dropKind_4 ?_
  refine tp_i (y := (nI (1600 * k + 0))) (pk_mul 1600 k) ?_
  refine lv_istore_n (lv' := [(2, .int (nI (1600 * k + 0))), (0, .ref d), (1, .int (nI k))]) hx hb d_M_dropKind_5 rfl hl (by decide) rfl (fun ls hl => ?_)
  have LP : ∀ (n i : Nat) (ls : Array Slot) (H : Heap) (locs : List Loc), pt ev H d (oC 6 (mO d th u v)) → pt ev H (d + 13) (aZ ev 9600 (dSf (kbF kp) (1600 * k) i)) → Blk (d + 13) (d + 14) H0 H → (∀ q ∈ locs, inBk (d + 13) (d + 14) q.base) → i ≤ 1600 → 1600 - i < n → lv_has ls 3 [(0, .ref d), (1, .int (nI k)), (2, .int (nI (1600 * k + i)))] → W p l e rm_M_dropKind s m args below meth c H locs 0 0 QQ (F0 m 6 ls []) := by
    intro n
    induction n with
    | zero => intro i ls H locs _ _ _ _ h2 h3; exact absurd h3 (by omega)
    | succ n ih =>
      intro i ls H locs ho9 hz8 hB hL hle hlt9 hl
      refine lv_iload_n hx hb d_M_dropKind_6 rfl (lv_at hl 2 rfl) ?_
      refine lv_sipush (v := 1600) hx hb d_M_dropKind_7 (by decide) ?_
      refine lv_iload_n hx hb d_M_dropKind_10 rfl (lv_at hl 1 rfl) ?_
      refine lv_imul hx hb d_M_dropKind_11 ?_
      refine tp_i (y := (nI (1600 * k))) (pk_mul 1600 k) ?_
      refine lv_sipush (v := 1600) hx hb d_M_dropKind_12 (by decide) ?_
      refine lv_iadd hx hb d_M_dropKind_15 ?_
      refine tp_i (y := (nI (1600 * k + 1600))) (nI_add (1600 * k) 1600) ?_
      refine lv_icmp_ge (tgt := 32) hx hb d_M_dropKind_16 (by decide) (fun c16 => ?_) (fun c16 => ?_)
      · have e9 : i = 1600 := Nat.le_antisymm hle (Nat.not_lt.mp (fun h => absurd c16 (nI_ge (by omega) (by omega))))
        exact rt_dv hQ hx hb hr hlk ⟨by rw [← kb_K]; subst e9; exact hz8, hB⟩ hL (Nat.le_of_ble_eq_true rfl) (Nat.le_of_ble_eq_true rfl) d_M_dropKind_32
      · have hi : i < 1600 := Nat.not_le.mp (fun h => c16 (nI_le (by omega) (by omega)))
        refine lv_aload_n hx hb d_M_dropKind_19 rfl (lv_at hl 0 rfl) ?_
        refine rw_get hx hb hts in_M hown hK.1 ho9 rfl 17 (by decide) (hts _ fl_M_47) rfl d_M_dropKind_20 ?_
        refine lv_iload_n hx hb d_M_dropKind_23 rfl (lv_at hl 2 rfl) ?_
        refine lv_iconst (v := 0) hx hb d_M_dropKind_24 (by decide) ?_
        refine rw_zast hx hb hK.1 2 hz8 rfl (1600 * k + i) (rfl) (by omega) (by decide) rfl ⟨by omega, by omega⟩ hL d_M_dropKind_25 (fun H1 L2 z3 o4 hat5 hL6 => ?_)
        have ho7 := pt_k ho9 (o4 d (by omega))
        have hB7 := Blk.trans hB (Blk.one z3 o4)
        refine lv_iinc (v := (nI (1600 * k + (i + 1)))) (lv' := [(2, .int (nI (1600 * k + (i + 1)))), (0, .ref d), (1, .int (nI k))]) hx hb d_M_dropKind_26 hl (k := 2) rfl ((nI_1 (1600 * k + i))) (by decide) rfl (fun ls hl => ?_)
        refine lv_goto (tgt := 6) hx hb d_M_dropKind_29 (by decide) ?_
        exact ih (i + 1) ls _ _ ho7 hat5 hB7 hL6 (by omega) (by omega) (lv_sub hl [1, 2, 0] rfl)
  exact LP _ 0 ls H0 [] ho hz9 Blk.rf cNil (Nat.zero_le _) (Nat.lt_succ_self _) (lv_sub hl [1, 2, 0] rfl)
def rm_M_dropThing : Room := { frames := 0, cells := 0, slots := 0, locals := 0 }
set_option maxRecDepth 100000 in
set_option maxHeartbeats 4000000 in
theorem c_M_dropThing {l : Launch} {ev : EV} {H0 : Heap} {d : Nat} {th : Int32} {u : XS} {kp : KT} {v : PT} (ho : pt ev H0 d (oC 6 (mO d th u v))) (hz9 : pt ev H0 (d + 13) (aZ ev 9600 (kbF kp))) {t : Nat} {p0 : Int32} (e0 : p0 = nI t) (ht : t < 40) : Met l my_M_dropThing mw_M_dropThing rm_M_dropThing (cP [.ref d, .int p0] (KG ev) H0) (cQd none (fun H1 => pt ev H1 (d + 13) (aZ ev 9600 (kbF (kpD kp t))) ∧ Blk (d + 13) (d + 14) H0 H1)) 0 0 (inBk (d + 13) (d + 14)) := by
  refine cHead [.ref d, .int p0] (by decide) rfl (Nat.le_of_ble_eq_true rfl) ?_
  intro p e s m below meth c ls args QQ hQ S hr hlk hnm hs hK hl
  have S : CallFix p m c mb_M_dropThing 3 s args TB "RuleChoiceModel" := S
  obtain ⟨hx, hb, hml, hown, hts⟩ := id S
  subst e0
  have hl : lv_has ls 3 [(0, .ref d), (1, .int (nI t))] := hl
  refine lv_iconst (v := 0) hx hb d_M_dropThing_0 (by decide) ?_
  refine lv_istore_n (lv' := [(2, .int 0), (0, .ref d), (1, .int (nI t))]) hx hb d_M_dropThing_1 rfl hl (by decide) rfl (fun ls hl => ?_)
  have LP : ∀ (n i : Nat) (ls : Array Slot) (H : Heap) (locs : List Loc), pt ev H d (oC 6 (mO d th u v)) → pt ev H (d + 13) (aZ ev 9600 (eTf (kbF kp) t i)) → Blk (d + 13) (d + 14) H0 H → (∀ q ∈ locs, inBk (d + 13) (d + 14) q.base) → i ≤ 9600 → 9600 - i < n → lv_has ls 3 [(0, .ref d), (1, .int (nI t)), (2, .int (nI i))] → W p l e rm_M_dropThing s m args below meth c H locs 0 0 QQ (F0 m 2 ls []) := by
    intro n
    induction n with
    | zero => intro i ls H locs _ _ _ _ h2 h3; exact absurd h3 (by omega)
    | succ n ih =>
      intro i ls H locs ho9 hz8 hB hL hle hlt9 hl
      refine lv_iload_n hx hb d_M_dropThing_2 rfl (lv_at hl 2 rfl) ?_
      refine lv_sipush (v := 9600) hx hb d_M_dropThing_3 (by decide) ?_
      refine lv_icmp_ge (tgt := 42) hx hb d_M_dropThing_6 (by decide) (fun c6 => ?_) (fun c6 => ?_)
      · have e9 : i = 9600 := Nat.le_antisymm hle (Nat.not_lt.mp (fun h => absurd c6 (nI_ge (b := 9600) h (by decide))))
        exact rt_dv hQ hx hb hr hlk ⟨pt_ip (kb_D kp t) (by subst e9; exact hz8), hB⟩ hL (Nat.le_of_ble_eq_true rfl) (Nat.le_of_ble_eq_true rfl) d_M_dropThing_42
      · have hi : i < 9600 := Nat.not_le.mp (fun h => c6 (nI_le (a := 9600) h (by omega)))
        refine lv_iload_n hx hb d_M_dropThing_9 rfl (lv_at hl 2 rfl) ?_
        refine lv_sipush (v := 1600) hx hb d_M_dropThing_10 (by decide) ?_
        refine lv_irem hx hb d_M_dropThing_13 (by decide) ?_
        refine tp_i (y := (nI (i % 1600))) (pk_rem (d := 1600) (by omega) (by decide) (by decide)) ?_
        refine lv_bipush (v := 40) hx hb d_M_dropThing_14 (by decide) ?_
        refine lv_idiv hx hb d_M_dropThing_16 (by decide) ?_
        refine tp_i (y := (nI (i % 1600 / 40))) (pk_div (d := 40) (by omega) (by decide) (by decide)) ?_
        refine lv_iload_n hx hb d_M_dropThing_17 rfl (lv_at hl 1 rfl) ?_
        refine lv_icmp_eq (tgt := 29) hx hb d_M_dropThing_18 (by decide) (fun c18 => ?_) (fun c18 => ?_)
        · refine lv_aload_n hx hb d_M_dropThing_29 rfl (lv_at hl 0 rfl) ?_
          refine rw_get hx hb hts in_M hown hK.1 ho9 rfl 17 (by decide) (hts _ fl_M_47) rfl d_M_dropThing_30 ?_
          refine lv_iload_n hx hb d_M_dropThing_33 rfl (lv_at hl 2 rfl) ?_
          refine lv_iconst (v := 0) hx hb d_M_dropThing_34 (by decide) ?_
          refine rw_zast hx hb hK.1 2 hz8 rfl i (rfl) (hi) (by decide) rfl ⟨by omega, by omega⟩ hL d_M_dropThing_35 (fun H1 L2 z3 o4 hat5 hL6 => ?_)
          have ho7 := pt_k ho9 (o4 d (by omega))
          have hB7 := Blk.trans hB (Blk.one z3 o4)
          have hz6 : pt ev H1 (d + 13) (aZ ev 9600 (eTf (kbF kp) t (i + 1))) := by rw [eT_y (Or.inl ((nI_eq (by omega) (by omega)).mp c18))]; exact hat5
          refine lv_iinc (v := (nI (i + 1))) (lv' := [(2, .int (nI (i + 1))), (0, .ref d), (1, .int (nI t))]) hx hb d_M_dropThing_36 hl (k := 2) rfl ((nI_1 i)) (by decide) rfl (fun ls hl => ?_)
          refine lv_goto (tgt := 2) hx hb d_M_dropThing_39 (by decide) ?_
          exact ih (i + 1) ls _ _ ho7 hz6 hB7 hL6 (by omega) (by omega) (lv_sub hl [1, 2, 0] rfl)
        · refine lv_iload_n hx hb d_M_dropThing_21 rfl (lv_at hl 2 rfl) ?_
          refine lv_bipush (v := 40) hx hb d_M_dropThing_22 (by decide) ?_
          refine lv_irem hx hb d_M_dropThing_24 (by decide) ?_
          refine tp_i (y := (nI (i % 40))) (pk_rem (d := 40) (by omega) (by decide) (by decide)) ?_
          refine lv_iload_n hx hb d_M_dropThing_25 rfl (lv_at hl 1 rfl) ?_
          refine lv_icmp_ne (tgt := 36) hx hb d_M_dropThing_26 (by decide) (fun c26 => ?_) (fun c26 => ?_)
          · have hz6 : pt ev H (d + 13) (aZ ev 9600 (eTf (kbF kp) t (i + 1))) := by rw [eT_n (fun h => c18 (by rw [h])) (fun h => c26 (by rw [h]))]; exact hz8
            refine lv_iinc (v := (nI (i + 1))) (lv' := [(2, .int (nI (i + 1))), (0, .ref d), (1, .int (nI t))]) hx hb d_M_dropThing_36 hl (k := 2) rfl ((nI_1 i)) (by decide) rfl (fun ls hl => ?_)
            refine lv_goto (tgt := 2) hx hb d_M_dropThing_39 (by decide) ?_
            exact ih (i + 1) ls _ _ ho9 hz6 hB hL (by omega) (by omega) (lv_sub hl [1, 2, 0] rfl)
          · refine lv_aload_n hx hb d_M_dropThing_29 rfl (lv_at hl 0 rfl) ?_
            refine rw_get hx hb hts in_M hown hK.1 ho9 rfl 17 (by decide) (hts _ fl_M_47) rfl d_M_dropThing_30 ?_
            refine lv_iload_n hx hb d_M_dropThing_33 rfl (lv_at hl 2 rfl) ?_
            refine lv_iconst (v := 0) hx hb d_M_dropThing_34 (by decide) ?_
            refine rw_zast hx hb hK.1 2 hz8 rfl i (rfl) (hi) (by decide) rfl ⟨by omega, by omega⟩ hL d_M_dropThing_35 (fun H7 L8 z9 o10 hat11 hL12 => ?_)
            have ho7 := pt_k ho9 (o10 d (by omega))
            have hB7 := Blk.trans hB (Blk.one z9 o10)
            have hz6 : pt ev H7 (d + 13) (aZ ev 9600 (eTf (kbF kp) t (i + 1))) := by rw [eT_y (Or.inr ((nI_eq (by omega) (by omega)).mp c26))]; exact hat11
            refine lv_iinc (v := (nI (i + 1))) (lv' := [(2, .int (nI (i + 1))), (0, .ref d), (1, .int (nI t))]) hx hb d_M_dropThing_36 hl (k := 2) rfl ((nI_1 i)) (by decide) rfl (fun ls hl => ?_)
            refine lv_goto (tgt := 2) hx hb d_M_dropThing_39 (by decide) ?_
            exact ih (i + 1) ls _ _ ho7 hz6 hB7 hL12 (by omega) (by omega) (lv_sub hl [1, 2, 0] rfl)
  exact LP _ 0 ls H0 [] ho hz9 Blk.rf cNil (Nat.zero_le _) (Nat.lt_succ_self _) (lv_sub hl [1, 2, 0] rfl)
def rm_M_keep : Room := { frames := 0, cells := 0, slots := 0, locals := 0 }
set_option maxRecDepth 100000 in
set_option maxHeartbeats 4000000 in
theorem c_M_keep {l : Launch} {ev : EV} {H0 : Heap} {d : Nat} {th : Int32} {u : XS} {kp : KT} {v : PT} (hm : MW ev d th u kp v H0) {kk j k : Nat} {p_kk p_j p_k : Int32} (e_kk : p_kk = nI kk) (e_j : p_j = nI j) (e_k : p_k = nI k) (h_kk : kk < 6) (h_j : j < 40) (h_k : k < 40) : Met l my_M_keep mw_M_keep rm_M_keep (cP [.ref d, .int p_kk, .int p_j, .int p_k] (KG ev) H0) (cQd none (fun H1 => MW ev d th (winU u kp kk j k) (winK kp kk j k) v H1 ∧ Blk d (d + 16) H0 H1)) 0 0 (inBk d (d + 16)) := by
  refine cHead [.ref d, .int p_kk, .int p_j, .int p_k] (by decide) rfl (Nat.le_of_ble_eq_true rfl) ?_
  intro p e s m below meth c ls args QQ hQ S hr hlk hnm hs hK hl
  have S : CallFix p m c mb_M_keep 5 s args TB "RuleChoiceModel" := S
  obtain ⟨hx, hb, hml, hown, hts⟩ := id S
  subst e_kk; subst e_j; subst e_k
  obtain ⟨m0, m1, m2, m3, m4, m5, m6, m7, m8, m9, m10, m11, m12, m13, m14, m15, hxb, hv7⟩ := id hm
  have hl : lv_has ls 5 [(0, .ref d), (1, .int (nI kk)), (2, .int (nI j)), (3, .int (nI k))] := hl
  refine lv_sipush (v := 1600) hx hb d_M_keep_0 (by decide) ?_
  refine lv_iload_n hx hb d_M_keep_3 rfl (lv_at hl 1 rfl) ?_
  refine lv_imul hx hb d_M_keep_4 ?_
  refine lv_iload_n hx hb d_M_keep_5 rfl (lv_at hl 2 rfl) ?_
  refine lv_iload_n hx hb d_M_keep_6 rfl (lv_at hl 3 rfl) ?_
  refine lv_icmp_ge (tgt := 19) hx hb d_M_keep_7 (by decide) (fun c7 => ?_) (fun c7 => ?_)
  · refine lv_bipush (v := 40) hx hb d_M_keep_19 (by decide) ?_
    refine lv_iload_n hx hb d_M_keep_21 rfl (lv_at hl 3 rfl) ?_
    refine lv_imul hx hb d_M_keep_22 ?_
    refine lv_iload_n hx hb d_M_keep_23 rfl (lv_at hl 2 rfl) ?_
    refine lv_iadd hx hb d_M_keep_24 ?_
    refine lv_iadd hx hb d_M_keep_25 ?_
    have hjk : k ≤ j := (nI_leI (by omega) (by omega)).mp c7
    refine tp_i (y := (nI (1600 * kk + (40 * k + j)))) (by rw [show (1600 : Int32) = nI 1600 from rfl, show (40 : Int32) = nI 40 from rfl, pk_mul, pk_mul, nI_add, nI_add]) ?_
    have emm : min j k = k := Nat.min_eq_right hjk
    have exx : max j k = j := Nat.max_eq_left hjk
    have ekb := kb_v kp (kk := kk) (a := k) (c := j) hjk h_j
    refine lv_istore (lv' := [(4, .int (nI (1600 * kk + (40 * k + j)))), (0, .ref d), (1, .int (nI kk)), (2, .int (nI j)), (3, .int (nI k))]) hx hb d_M_keep_26 hl (by decide) rfl (fun ls hl => ?_)
    refine lv_aload_n hx hb d_M_keep_28 rfl (lv_at hl 1 rfl) ?_
    refine lv_dup hx hb d_M_keep_29 rfl ?_
    refine rw_get hx hb hts in_M hown hK.1 m0 rfl 18 (by decide) (hts _ fl_M_132) rfl d_M_keep_30 ?_
    refine lv_aload_n hx hb d_M_keep_33 rfl (lv_at hl 1 rfl) ?_
    refine rw_get hx hb hts in_M hown hK.1 m0 rfl 17 (by decide) (hts _ fl_M_47) rfl d_M_keep_34 ?_
    refine lv_iload hx hb d_M_keep_37 (lv_at hl 0 rfl) ?_
    refine rw_zald hx hb hK.1 2 m13 rfl (1600 * kk + (40 * k + j)) (rfl) (by omega) (by decide) d_M_keep_39 ?_
    refine lv_if_eq (tgt := 47) hx hb d_M_keep_40 (by decide) (fun c40 => ?_) (fun c40 => ?_)
    · refine lv_lconst (v := 0) hx hb d_M_keep_47 (by decide) ?_
      refine lv_ladd hx hb d_M_keep_48 ?_
      refine rw_put hx hb hts in_M ck_M ok_M nm_M hown hK.1 m0 rfl 18 (by decide) (hts _ fl_M_132) rfl (ok_M 18 (by decide)) rfl rfl (Nat.le_of_ble_eq_true rfl) (⟨Nat.le_refl _, by omega⟩) (A := inBk d (d + 16)) cNil d_M_keep_49 (fun H1 L2 z3 o4 hat5 hL6 => ?_)
      have mz := pt_k m13 (o4 _ (by omega))
      refine lv_aload_n hx hb d_M_keep_52 rfl (lv_at hl 1 rfl) ?_
      refine rw_get hx hb hts in_M hown hK.1 hat5 rfl 17 (by decide) (hts _ fl_M_47) rfl d_M_keep_53 ?_
      refine lv_iload hx hb d_M_keep_56 (lv_at hl 0 rfl) ?_
      refine lv_iconst (v := 1) hx hb d_M_keep_58 (by decide) ?_
      refine rw_zast hx hb hK.1 2 mz rfl (1600 * kk + (40 * k + j)) (rfl) (by omega) (by decide) rfl ⟨by omega, by omega⟩ hL6 d_M_keep_59 (fun H7 L8 z9 o10 hat11 hL12 => ?_)
      have gk : kp kk (min j k) (max j k) = false := by rw [emm, exx]; exact (bI_eq _).mp (ekb.symm.trans c40)
      have ho : pt ev H7 d (oC 6 (mO d th (winU u kp kk j k) v)) := by unfold winU; rw [mO, if_neg (by rw [gk]; decide)]; rw [show u.1.2.2.2.2 = u.1.2.2.2.2 + 0 from by simp]; exact pt_k hat5 (o10 d (by omega))
      have hz : pt ev H7 (d + 13) (aZ ev 9600 (kbF (winK kp kk j k))) := by unfold winK; rw [emm, exx, ← kb_S kp hjk h_j]; exact hat11
      exact rt_dv hQ hx hb hr hlk ⟨⟨ho, pt_k (pt_k m1 (o4 _ (by omega))) (o10 _ (by omega)), pt_k (pt_k m2 (o4 _ (by omega))) (o10 _ (by omega)), pt_k (pt_k m3 (o4 _ (by omega))) (o10 _ (by omega)), pt_k (pt_k m4 (o4 _ (by omega))) (o10 _ (by omega)), pt_k (pt_k m5 (o4 _ (by omega))) (o10 _ (by omega)), pt_k (pt_k m6 (o4 _ (by omega))) (o10 _ (by omega)), pt_k (pt_k m7 (o4 _ (by omega))) (o10 _ (by omega)), pt_k (pt_k m8 (o4 _ (by omega))) (o10 _ (by omega)), pt_k (pt_k m9 (o4 _ (by omega))) (o10 _ (by omega)), pt_k (pt_k m10 (o4 _ (by omega))) (o10 _ (by omega)), pt_k (pt_k m11 (o4 _ (by omega))) (o10 _ (by omega)), pt_k (pt_k m12 (o4 _ (by omega))) (o10 _ (by omega)), hz, pt_k (pt_k m14 (o4 _ (by omega))) (o10 _ (by omega)), pt_k (pt_k m15 (o4 _ (by omega))) (o10 _ (by omega)), hxb, hv7⟩, Blk.trans ((Blk.one z3 o4).wide (by omega) (by omega)) ((Blk.one z9 o10).wide (by omega) (by omega))⟩ hL12 (Nat.le_of_ble_eq_true rfl) (Nat.le_of_ble_eq_true rfl) d_M_keep_60
    · refine lv_lconst (v := 1) hx hb d_M_keep_43 (by decide) ?_
      refine lv_goto (tgt := 48) hx hb d_M_keep_44 (by decide) ?_
      refine lv_ladd hx hb d_M_keep_48 ?_
      refine rw_put hx hb hts in_M ck_M ok_M nm_M hown hK.1 m0 rfl 18 (by decide) (hts _ fl_M_132) rfl (ok_M 18 (by decide)) rfl rfl (Nat.le_of_ble_eq_true rfl) (⟨Nat.le_refl _, by omega⟩) (A := inBk d (d + 16)) cNil d_M_keep_49 (fun H13 L14 z15 o16 hat17 hL18 => ?_)
      have mz := pt_k m13 (o16 _ (by omega))
      refine lv_aload_n hx hb d_M_keep_52 rfl (lv_at hl 1 rfl) ?_
      refine rw_get hx hb hts in_M hown hK.1 hat17 rfl 17 (by decide) (hts _ fl_M_47) rfl d_M_keep_53 ?_
      refine lv_iload hx hb d_M_keep_56 (lv_at hl 0 rfl) ?_
      refine lv_iconst (v := 1) hx hb d_M_keep_58 (by decide) ?_
      refine rw_zast hx hb hK.1 2 mz rfl (1600 * kk + (40 * k + j)) (rfl) (by omega) (by decide) rfl ⟨by omega, by omega⟩ hL18 d_M_keep_59 (fun H19 L20 z21 o22 hat23 hL24 => ?_)
      have gk : kp kk (min j k) (max j k) = true := by rw [emm, exx]; exact (bI_ne _).mp (fun h => c40 (ekb.trans h))
      have ho : pt ev H19 d (oC 6 (mO d th (winU u kp kk j k) v)) := by unfold winU; rw [mO, if_pos gk]; exact pt_k hat17 (o22 d (by omega))
      have hz : pt ev H19 (d + 13) (aZ ev 9600 (kbF (winK kp kk j k))) := by unfold winK; rw [emm, exx, ← kb_S kp hjk h_j]; exact hat23
      exact rt_dv hQ hx hb hr hlk ⟨⟨ho, pt_k (pt_k m1 (o16 _ (by omega))) (o22 _ (by omega)), pt_k (pt_k m2 (o16 _ (by omega))) (o22 _ (by omega)), pt_k (pt_k m3 (o16 _ (by omega))) (o22 _ (by omega)), pt_k (pt_k m4 (o16 _ (by omega))) (o22 _ (by omega)), pt_k (pt_k m5 (o16 _ (by omega))) (o22 _ (by omega)), pt_k (pt_k m6 (o16 _ (by omega))) (o22 _ (by omega)), pt_k (pt_k m7 (o16 _ (by omega))) (o22 _ (by omega)), pt_k (pt_k m8 (o16 _ (by omega))) (o22 _ (by omega)), pt_k (pt_k m9 (o16 _ (by omega))) (o22 _ (by omega)), pt_k (pt_k m10 (o16 _ (by omega))) (o22 _ (by omega)), pt_k (pt_k m11 (o16 _ (by omega))) (o22 _ (by omega)), pt_k (pt_k m12 (o16 _ (by omega))) (o22 _ (by omega)), hz, pt_k (pt_k m14 (o16 _ (by omega))) (o22 _ (by omega)), pt_k (pt_k m15 (o16 _ (by omega))) (o22 _ (by omega)), hxb, hv7⟩, Blk.trans ((Blk.one z15 o16).wide (by omega) (by omega)) ((Blk.one z21 o22).wide (by omega) (by omega))⟩ hL24 (Nat.le_of_ble_eq_true rfl) (Nat.le_of_ble_eq_true rfl) d_M_keep_60
  · refine lv_bipush (v := 40) hx hb d_M_keep_10 (by decide) ?_
    refine lv_iload_n hx hb d_M_keep_12 rfl (lv_at hl 2 rfl) ?_
    refine lv_imul hx hb d_M_keep_13 ?_
    refine lv_iload_n hx hb d_M_keep_14 rfl (lv_at hl 3 rfl) ?_
    refine lv_iadd hx hb d_M_keep_15 ?_
    refine lv_goto (tgt := 25) hx hb d_M_keep_16 (by decide) ?_
    refine lv_iadd hx hb d_M_keep_25 ?_
    have hjk : j ≤ k := by have h9 : ¬ k ≤ j := fun h => c7 ((nI_leI (by omega) (by omega)).mpr h); omega
    refine tp_i (y := (nI (1600 * kk + (40 * j + k)))) (by rw [show (1600 : Int32) = nI 1600 from rfl, show (40 : Int32) = nI 40 from rfl, pk_mul, pk_mul, nI_add, nI_add]) ?_
    have emm : min j k = j := Nat.min_eq_left hjk
    have exx : max j k = k := Nat.max_eq_right hjk
    have ekb := kb_v kp (kk := kk) (a := j) (c := k) hjk h_k
    refine lv_istore (lv' := [(4, .int (nI (1600 * kk + (40 * j + k)))), (0, .ref d), (1, .int (nI kk)), (2, .int (nI j)), (3, .int (nI k))]) hx hb d_M_keep_26 hl (by decide) rfl (fun ls hl => ?_)
    refine lv_aload_n hx hb d_M_keep_28 rfl (lv_at hl 1 rfl) ?_
    refine lv_dup hx hb d_M_keep_29 rfl ?_
    refine rw_get hx hb hts in_M hown hK.1 m0 rfl 18 (by decide) (hts _ fl_M_132) rfl d_M_keep_30 ?_
    refine lv_aload_n hx hb d_M_keep_33 rfl (lv_at hl 1 rfl) ?_
    refine rw_get hx hb hts in_M hown hK.1 m0 rfl 17 (by decide) (hts _ fl_M_47) rfl d_M_keep_34 ?_
    refine lv_iload hx hb d_M_keep_37 (lv_at hl 0 rfl) ?_
    refine rw_zald hx hb hK.1 2 m13 rfl (1600 * kk + (40 * j + k)) (rfl) (by omega) (by decide) d_M_keep_39 ?_
    refine lv_if_eq (tgt := 47) hx hb d_M_keep_40 (by decide) (fun c40 => ?_) (fun c40 => ?_)
    · refine lv_lconst (v := 0) hx hb d_M_keep_47 (by decide) ?_
      refine lv_ladd hx hb d_M_keep_48 ?_
      refine rw_put hx hb hts in_M ck_M ok_M nm_M hown hK.1 m0 rfl 18 (by decide) (hts _ fl_M_132) rfl (ok_M 18 (by decide)) rfl rfl (Nat.le_of_ble_eq_true rfl) (⟨Nat.le_refl _, by omega⟩) (A := inBk d (d + 16)) cNil d_M_keep_49 (fun H25 L26 z27 o28 hat29 hL30 => ?_)
      have mz := pt_k m13 (o28 _ (by omega))
      refine lv_aload_n hx hb d_M_keep_52 rfl (lv_at hl 1 rfl) ?_
      refine rw_get hx hb hts in_M hown hK.1 hat29 rfl 17 (by decide) (hts _ fl_M_47) rfl d_M_keep_53 ?_
      refine lv_iload hx hb d_M_keep_56 (lv_at hl 0 rfl) ?_
      refine lv_iconst (v := 1) hx hb d_M_keep_58 (by decide) ?_
      refine rw_zast hx hb hK.1 2 mz rfl (1600 * kk + (40 * j + k)) (rfl) (by omega) (by decide) rfl ⟨by omega, by omega⟩ hL30 d_M_keep_59 (fun H31 L32 z33 o34 hat35 hL36 => ?_)
      have gk : kp kk (min j k) (max j k) = false := by rw [emm, exx]; exact (bI_eq _).mp (ekb.symm.trans c40)
      have ho : pt ev H31 d (oC 6 (mO d th (winU u kp kk j k) v)) := by unfold winU; rw [mO, if_neg (by rw [gk]; decide)]; rw [show u.1.2.2.2.2 = u.1.2.2.2.2 + 0 from by simp]; exact pt_k hat29 (o34 d (by omega))
      have hz : pt ev H31 (d + 13) (aZ ev 9600 (kbF (winK kp kk j k))) := by unfold winK; rw [emm, exx, ← kb_S kp hjk h_k]; exact hat35
      exact rt_dv hQ hx hb hr hlk ⟨⟨ho, pt_k (pt_k m1 (o28 _ (by omega))) (o34 _ (by omega)), pt_k (pt_k m2 (o28 _ (by omega))) (o34 _ (by omega)), pt_k (pt_k m3 (o28 _ (by omega))) (o34 _ (by omega)), pt_k (pt_k m4 (o28 _ (by omega))) (o34 _ (by omega)), pt_k (pt_k m5 (o28 _ (by omega))) (o34 _ (by omega)), pt_k (pt_k m6 (o28 _ (by omega))) (o34 _ (by omega)), pt_k (pt_k m7 (o28 _ (by omega))) (o34 _ (by omega)), pt_k (pt_k m8 (o28 _ (by omega))) (o34 _ (by omega)), pt_k (pt_k m9 (o28 _ (by omega))) (o34 _ (by omega)), pt_k (pt_k m10 (o28 _ (by omega))) (o34 _ (by omega)), pt_k (pt_k m11 (o28 _ (by omega))) (o34 _ (by omega)), pt_k (pt_k m12 (o28 _ (by omega))) (o34 _ (by omega)), hz, pt_k (pt_k m14 (o28 _ (by omega))) (o34 _ (by omega)), pt_k (pt_k m15 (o28 _ (by omega))) (o34 _ (by omega)), hxb, hv7⟩, Blk.trans ((Blk.one z27 o28).wide (by omega) (by omega)) ((Blk.one z33 o34).wide (by omega) (by omega))⟩ hL36 (Nat.le_of_ble_eq_true rfl) (Nat.le_of_ble_eq_true rfl) d_M_keep_60
    · refine lv_lconst (v := 1) hx hb d_M_keep_43 (by decide) ?_
      refine lv_goto (tgt := 48) hx hb d_M_keep_44 (by decide) ?_
      refine lv_ladd hx hb d_M_keep_48 ?_
      refine rw_put hx hb hts in_M ck_M ok_M nm_M hown hK.1 m0 rfl 18 (by decide) (hts _ fl_M_132) rfl (ok_M 18 (by decide)) rfl rfl (Nat.le_of_ble_eq_true rfl) (⟨Nat.le_refl _, by omega⟩) (A := inBk d (d + 16)) cNil d_M_keep_49 (fun H37 L38 z39 o40 hat41 hL42 => ?_)
      have mz := pt_k m13 (o40 _ (by omega))
      refine lv_aload_n hx hb d_M_keep_52 rfl (lv_at hl 1 rfl) ?_
      refine rw_get hx hb hts in_M hown hK.1 hat41 rfl 17 (by decide) (hts _ fl_M_47) rfl d_M_keep_53 ?_
      refine lv_iload hx hb d_M_keep_56 (lv_at hl 0 rfl) ?_
      refine lv_iconst (v := 1) hx hb d_M_keep_58 (by decide) ?_
      refine rw_zast hx hb hK.1 2 mz rfl (1600 * kk + (40 * j + k)) (rfl) (by omega) (by decide) rfl ⟨by omega, by omega⟩ hL42 d_M_keep_59 (fun H43 L44 z45 o46 hat47 hL48 => ?_)
      have gk : kp kk (min j k) (max j k) = true := by rw [emm, exx]; exact (bI_ne _).mp (fun h => c40 (ekb.trans h))
      have ho : pt ev H43 d (oC 6 (mO d th (winU u kp kk j k) v)) := by unfold winU; rw [mO, if_pos gk]; exact pt_k hat41 (o46 d (by omega))
      have hz : pt ev H43 (d + 13) (aZ ev 9600 (kbF (winK kp kk j k))) := by unfold winK; rw [emm, exx, ← kb_S kp hjk h_k]; exact hat47
      exact rt_dv hQ hx hb hr hlk ⟨⟨ho, pt_k (pt_k m1 (o40 _ (by omega))) (o46 _ (by omega)), pt_k (pt_k m2 (o40 _ (by omega))) (o46 _ (by omega)), pt_k (pt_k m3 (o40 _ (by omega))) (o46 _ (by omega)), pt_k (pt_k m4 (o40 _ (by omega))) (o46 _ (by omega)), pt_k (pt_k m5 (o40 _ (by omega))) (o46 _ (by omega)), pt_k (pt_k m6 (o40 _ (by omega))) (o46 _ (by omega)), pt_k (pt_k m7 (o40 _ (by omega))) (o46 _ (by omega)), pt_k (pt_k m8 (o40 _ (by omega))) (o46 _ (by omega)), pt_k (pt_k m9 (o40 _ (by omega))) (o46 _ (by omega)), pt_k (pt_k m10 (o40 _ (by omega))) (o46 _ (by omega)), pt_k (pt_k m11 (o40 _ (by omega))) (o46 _ (by omega)), pt_k (pt_k m12 (o40 _ (by omega))) (o46 _ (by omega)), hz, pt_k (pt_k m14 (o40 _ (by omega))) (o46 _ (by omega)), pt_k (pt_k m15 (o40 _ (by omega))) (o46 _ (by omega)), hxb, hv7⟩, Blk.trans ((Blk.one z39 o40).wide (by omega) (by omega)) ((Blk.one z45 o46).wide (by omega) (by omega))⟩ hL48 (Nat.le_of_ble_eq_true rfl) (Nat.le_of_ble_eq_true rfl) d_M_keep_60
