def rm_N_dropKind : Room := { frames := 1, cells := 0, slots := 0, locals := 21 }
set_option maxRecDepth 100000 in
set_option maxHeartbeats 4000000 in
theorem c_N_dropKind {l : Launch} {ev : EV} {H0 : Heap} {q : Nat} {sl : Nat → Int32} (hn : xN ev q sl H0) {k : Nat} {p0 : Int32} (e0 : p0 = nI k) (hk : k < 6) : Met l my_N_dropKind mw_N_dropKind rm_N_dropKind (cP [.ref q, .int p0] (KG ev) H0) (cQd none (fun H1 => xN ev q (dSf sl (k * 820) 820) H1 ∧ Blk q (q + 2) H0 H1)) 0 0 (inBk q (q + 2)) := by
  refine cHead [.ref q, .int p0] (by decide) rfl (Nat.le_of_ble_eq_true rfl) ?_
  intro p e s m below meth c ls args QQ hQ S hr hlk hnm hs hK hl
  have S : CallFix p m c mb_N_dropKind 4 s args TB "RuleChoice$Answers" := S
  obtain ⟨hx, hb, hml, hown, hts⟩ := id S
  subst e0
  have hl : lv_has ls 4 [(0, .ref q), (1, .int (nI k))] := hl
  refine lv_iload_n hx hb d_N_dropKind_0 rfl (lv_at hl 1 rfl) ?_
  refine lv_sipush (v := 820) hx hb d_N_dropKind_1 (by decide) ?_
  refine lv_imul hx hb d_N_dropKind_4 ?_
  refine tp_i (y := (nI (k * 820))) (pk_mul k 820) ?_
  refine lv_istore_n (lv' := [(2, .int (nI (k * 820))), (0, .ref q), (1, .int (nI k))]) hx hb d_N_dropKind_5 rfl hl (by decide) rfl (fun ls hl => ?_)
  refine lv_iload_n hx hb d_N_dropKind_6 rfl (lv_at hl 0 rfl) ?_
  refine tp_i (y := (nI (k * 820 + 0))) (rfl) ?_
  refine lv_istore_n (lv' := [(3, .int (nI (k * 820 + 0))), (2, .int (nI (k * 820))), (0, .ref q), (1, .int (nI k))]) hx hb d_N_dropKind_7 rfl hl (by decide) rfl (fun ls hl => ?_)
  have LP : ∀ (n i : Nat) (ls : Array Slot) (H : Heap) (locs : List Loc), xN ev q (dSf sl (k * 820) i) H → Blk q (q + 2) H0 H → (∀ z ∈ locs, inBk q (q + 2) z.base) → i ≤ 820 → 820 - i < n → lv_has ls 4 [(0, .ref q), (2, .int (nI (k * 820))), (3, .int (nI (k * 820 + i)))] → W p l e rm_N_dropKind s m args below meth c H locs 0 0 QQ (F0 m 8 ls []) := by
    intro n
    induction n with
    | zero => intro i ls H locs _ _ _ h2 h3; exact absurd h3 (by omega)
    | succ n ih =>
      intro i ls H locs hn9 hB hL hle hlt9 hl
      refine lv_iload_n hx hb d_N_dropKind_8 rfl (lv_at hl 2 rfl) ?_
      refine lv_iload_n hx hb d_N_dropKind_9 rfl (lv_at hl 1 rfl) ?_
      refine lv_sipush (v := 820) hx hb d_N_dropKind_10 (by decide) ?_
      refine lv_iadd hx hb d_N_dropKind_13 ?_
      refine tp_i (y := (nI (k * 820 + 820))) (nI_add (k * 820) 820) ?_
      refine lv_icmp_ge (tgt := 28) hx hb d_N_dropKind_14 (by decide) (fun c14 => ?_) (fun c14 => ?_)
      · have e9 : i = 820 := Nat.le_antisymm hle (Nat.not_lt.mp (fun h => absurd c14 (nI_ge (by omega) (by omega))))
        exact rt_dv hQ hx hb hr hlk ⟨by subst e9; exact hn9, hB⟩ hL (Nat.le_of_ble_eq_true rfl) (Nat.le_of_ble_eq_true rfl) d_N_dropKind_28
      · have hlt : i < 820 := Nat.not_le.mp (fun h => c14 (nI_le (by omega) (by omega)))
        refine lv_aload_n hx hb d_N_dropKind_17 rfl (lv_at hl 0 rfl) ?_
        refine lv_iload_n hx hb d_N_dropKind_18 rfl (lv_at hl 2 rfl) ?_
        refine cl_d (W.runV (As := [.int (nI (k * 820 + i))]) (rest := []) S (c_N_drop hn9 (i := (k * 820 + i)) (rfl) (by omega)) (cwV 1 hts gv_N_23 rfl rfl rfl (by decide +kernel) ⟨Nat.le_of_ble_eq_true rfl, Nat.le_of_ble_eq_true rfl⟩) (cP_V (KG_ok _) hK hK.1 hn9.1 rfl) rfl rfl hl.1 rfl (lv_room (Nat.le_of_ble_eq_true rfl)) d_N_dropKind_19 ⟨Nat.le_of_ble_eq_true rfl, Nat.le_of_ble_eq_true rfl⟩) hL (fun _ h => h) (fun H1 L2 hp3 hL4 => ?_)
        have hB8 := Blk.trans hB hp3.2
        refine lv_iinc (v := (nI (k * 820 + (i + 1)))) (lv' := [(3, .int (nI (k * 820 + (i + 1)))), (0, .ref q), (2, .int (nI (k * 820)))]) hx hb d_N_dropKind_22 hl (k := 2) rfl ((nI_1 (k * 820 + i))) (by decide) rfl (fun ls hl => ?_)
        refine lv_goto (tgt := 8) hx hb d_N_dropKind_25 (by decide) ?_
        exact ih (i + 1) ls _ _ hp3.1 hB8 hL4 (by omega) (by omega) (lv_sub hl [1, 2, 0] rfl)
  exact LP _ 0 ls H0 [] hn Blk.rf cNil (Nat.zero_le _) (Nat.lt_succ_self _) (lv_sub hl [2, 1, 0] rfl)
def rm_N_dropThing : Room := { frames := 2, cells := 0, slots := 0, locals := 53 }
set_option maxRecDepth 100000 in
set_option maxHeartbeats 4000000 in
theorem c_N_dropThing {l : Launch} {ev : EV} {H0 : Heap} {q : Nat} {sl : Nat → Int32} (hn : xN ev q sl H0) {t : Nat} {p0 : Int32} (e0 : p0 = nI t) (ht : t < 40) : Met l my_N_dropThing mw_N_dropThing rm_N_dropThing (cP [.ref q, .int p0] (KG ev) H0) (cQd none (fun H1 => xN ev q (dKf sl t 6) H1 ∧ Blk q (q + 2) H0 H1)) 0 0 (inBk q (q + 2)) := by
  refine cHead [.ref q, .int p0] (by decide) rfl (Nat.le_of_ble_eq_true rfl) ?_
  intro p e s m below meth c ls args QQ hQ S hr hlk hnm hs hK hl
  have S : CallFix p m c mb_N_dropThing 4 s args TB "RuleChoice$Answers" := S
  obtain ⟨hx, hb, hml, hown, hts⟩ := id S
  subst e0
  have hl : lv_has ls 4 [(0, .ref q), (1, .int (nI t))] := hl
  refine lv_iconst (v := 0) hx hb d_N_dropThing_0 (by decide) ?_
  refine lv_istore_n (lv' := [(2, .int 0), (0, .ref q), (1, .int (nI t))]) hx hb d_N_dropThing_1 rfl hl (by decide) rfl (fun ls hl => ?_)
  have LP : ∀ (n k : Nat) (ls : Array Slot) (H : Heap) (locs : List Loc), xN ev q (dKf sl t k) H → Blk q (q + 2) H0 H → (∀ z ∈ locs, inBk q (q + 2) z.base) → k ≤ 6 → 6 - k < n → lv_has ls 4 [(0, .ref q), (1, .int (nI t)), (2, .int (nI k))] → W p l e rm_N_dropThing s m args below meth c H locs 0 0 QQ (F0 m 2 ls []) := by
    intro n
    induction n with
    | zero => intro k ls H locs _ _ _ h2 h3; exact absurd h3 (by omega)
    | succ n ih =>
      intro k ls H locs hn9 hB hL hle hlt9 hl
      refine lv_iload_n hx hb d_N_dropThing_2 rfl (lv_at hl 2 rfl) ?_
      refine lv_bipush (v := 6) hx hb d_N_dropThing_3 (by decide) ?_
      refine lv_icmp_ge (tgt := 38) hx hb d_N_dropThing_5 (by decide) (fun c5 => ?_) (fun c5 => ?_)
      · have e9 : k = 6 := Nat.le_antisymm hle (Nat.not_lt.mp (fun h => absurd c5 (nI_ge (b := 6) h (by decide))))
        exact rt_dv hQ hx hb hr hlk ⟨by subst e9; exact hn9, hB⟩ hL (Nat.le_of_ble_eq_true rfl) (Nat.le_of_ble_eq_true rfl) d_N_dropThing_38
      · refine lv_iconst (v := 0) hx hb d_N_dropThing_8 (by decide) ?_
        refine lv_istore_n (lv' := [(3, .int 0), (0, .ref q), (1, .int (nI t)), (2, .int (nI k))]) hx hb d_N_dropThing_9 rfl hl (by decide) rfl (fun ls hl => ?_)
        have hk6 : k < 6 := Nat.not_le.mp (fun h => c5 (nI_le (a := 6) h (by omega)))
        have LQ : ∀ (n2 o : Nat) (ls : Array Slot) (H : Heap) (locs : List Loc), xN ev q (dOf (dKf sl t k) k t o) H → Blk q (q + 2) H0 H → (∀ z ∈ locs, inBk q (q + 2) z.base) → o ≤ 40 → 40 - o < n2 → lv_has ls 4 [(0, .ref q), (1, .int (nI t)), (2, .int (nI k)), (3, .int (nI o))] → W p l e rm_N_dropThing s m args below meth c H locs 0 0 QQ (F0 m 10 ls []) := by
          intro n2
          induction n2 with
          | zero => intro o ls H locs _ _ _ h2 h3; exact absurd h3 (by omega)
          | succ n2 ih2 =>
            intro o ls H locs hn8 hB hL hle2 hlt8 hl
            refine lv_iload_n hx hb d_N_dropThing_10 rfl (lv_at hl 3 rfl) ?_
            refine lv_bipush (v := 40) hx hb d_N_dropThing_11 (by decide) ?_
            refine lv_icmp_ge (tgt := 32) hx hb d_N_dropThing_13 (by decide) (fun c13 => ?_) (fun c13 => ?_)
            · have e8 : o = 40 := Nat.le_antisymm hle2 (Nat.not_lt.mp (fun h => absurd c13 (nI_ge (b := 40) h (by decide))))
              have hn7 : xN ev q (dKf sl t (k + 1)) H := by subst e8; exact hn8
              refine lv_iinc (v := (nI (k + 1))) (lv' := [(2, .int (nI (k + 1))), (0, .ref q), (1, .int (nI t)), (3, .int (nI o))]) hx hb d_N_dropThing_32 hl (k := 2) rfl ((nI_1 k)) (by decide) rfl (fun ls hl => ?_)
              refine lv_goto (tgt := 2) hx hb d_N_dropThing_35 (by decide) ?_
              exact ih (k + 1) ls _ _ hn7 hB hL (by omega) (by omega) (lv_sub hl [1, 2, 0] rfl)
            · have ho : o < 40 := Nat.not_le.mp (fun h => c13 (nI_le (a := 40) h (by omega)))
              refine lv_aload_n hx hb d_N_dropThing_16 rfl (lv_at hl 0 rfl) ?_
              refine lv_iload_n hx hb d_N_dropThing_17 rfl (lv_at hl 2 rfl) ?_
              refine lv_iload_n hx hb d_N_dropThing_18 rfl (lv_at hl 1 rfl) ?_
              refine lv_iload_n hx hb d_N_dropThing_19 rfl (lv_at hl 3 rfl) ?_
              refine cl_i (W.runS (As := [.int (nI k), .int (nI t), .int (nI o)]) (rest := [.ref q]) S (c_N_slotOf (rfl) (rfl) (rfl) (hk6) (ht) (ho)) (va_cwS 3 hts gs_N_15 rfl rfl rfl (by decide +kernel) ⟨Nat.le_of_ble_eq_true rfl, Nat.le_of_ble_eq_true rfl⟩) (cP_S (KG_ok _) hK) rfl rfl hl.1 rfl (lv_room (Nat.le_of_ble_eq_true rfl)) d_N_dropThing_20 ⟨Nat.le_of_ble_eq_true rfl, Nat.le_of_ble_eq_true rfl⟩) ?_
              refine cl_d (W.runV (As := [.int (nI (sIx k t o))]) (rest := []) S (c_N_drop hn8 (i := (sIx k t o)) (rfl) (sIx_lt (hk6) (ht) (ho))) (cwV 1 hts gv_N_23 rfl rfl rfl (by decide +kernel) ⟨Nat.le_of_ble_eq_true rfl, Nat.le_of_ble_eq_true rfl⟩) (cP_V (KG_ok _) hK hK.1 hn8.1 rfl) rfl rfl hl.1 rfl (lv_room (Nat.le_of_ble_eq_true rfl)) d_N_dropThing_23 ⟨Nat.le_of_ble_eq_true rfl, Nat.le_of_ble_eq_true rfl⟩) hL (fun _ h => h) (fun H1 L2 hp3 hL4 => ?_)
              have hB8 := Blk.trans hB hp3.2
              refine lv_iinc (v := (nI (o + 1))) (lv' := [(3, .int (nI (o + 1))), (0, .ref q), (1, .int (nI t)), (2, .int (nI k))]) hx hb d_N_dropThing_26 hl (k := 3) rfl ((nI_1 o)) (by decide) rfl (fun ls hl => ?_)
              refine lv_goto (tgt := 10) hx hb d_N_dropThing_29 (by decide) ?_
              exact ih2 (o + 1) ls _ _ hp3.1 hB8 hL4 (by omega) (by omega) (lv_sub hl [1, 2, 3, 0] rfl)
        exact LQ _ 0 ls H locs hn9 hB hL (Nat.zero_le _) (Nat.lt_succ_self _) (lv_sub hl [1, 2, 3, 0] rfl)
  exact LP _ 0 ls H0 [] hn Blk.rf cNil (Nat.zero_le _) (Nat.lt_succ_self _) (lv_sub hl [1, 2, 0] rfl)
def rm_P_clear : Room := { frames := 0, cells := 0, slots := 0, locals := 0 }
set_option maxRecDepth 100000 in
set_option maxHeartbeats 4000000 in
theorem c_P_clear {l : Launch} {ev : EV} {H0 : Heap} {q : Nat} {v : Nat × (Nat → Int32) × (Nat → Int32)} (hp0 : xP ev q v H0) : Met l my_P_clear mw_P_clear rm_P_clear (cP [.ref q] (KG ev) H0) (cQd none (fun H1 => xP ev q (0, v.2) H1 ∧ Blk q (q + 3) H0 H1)) 0 0 (inBk q (q + 3)) := by
  refine cHead [.ref q] (by decide) rfl (Nat.le_of_ble_eq_true rfl) ?_
  intro p e s m below meth c ls args QQ hQ S hr hlk hnm hs hK hl
  have S : CallFix p m c mb_P_clear 1 s args TB "RuleChoice$Pairs" := S
  obtain ⟨hx, hb, hml, hown, hts⟩ := id S
  have hl : lv_has ls 1 [(0, .ref q)] := hl
  refine lv_aload_n hx hb d_P_clear_0 rfl (lv_at hl 0 rfl) ?_
  refine lv_iconst (v := 0) hx hb d_P_clear_1 (by decide) ?_
  refine rw_put hx hb hts in_P ck_P ok_P nm_P hown hK.1 hp0.1 rfl 2 (by decide) (hts _ fl_P_18) rfl (ok_P 2 (by decide)) rfl rfl (Nat.le_of_ble_eq_true rfl) (⟨Nat.le_refl _, by omega⟩) (A := inBk q (q + 3)) cNil d_P_clear_2 (fun H1 L2 z3 o4 hat5 hL6 => ?_)
  exact rt_dv hQ hx hb hr hlk ⟨⟨hat5, pt_k hp0.2.1 (o4 _ (by omega)), pt_k hp0.2.2.1 (o4 _ (by omega)), Nat.zero_le _⟩, (Blk.one z3 o4).wide (by omega) (by omega)⟩ hL6 (Nat.le_of_ble_eq_true rfl) (Nat.le_of_ble_eq_true rfl) d_P_clear_5
def rm_P_add : Room := { frames := 0, cells := 0, slots := 0, locals := 0 }
set_option maxRecDepth 100000 in
set_option maxHeartbeats 4000000 in
theorem c_P_add {l : Launch} {ev : EV} {H0 : Heap} {q : Nat} {v : Nat × (Nat → Int32) × (Nat → Int32)} (hp0 : xP ev q v H0) (hr9 : v.1 < 780) (x y : Int32) : Met l my_P_add mw_P_add rm_P_add (cP [.ref q, .int x, .int y] (KG ev) H0) (cQd none (fun H1 => xP ev q (v.1 + 1, upd v.2.1 v.1 x, upd v.2.2 v.1 y) H1 ∧ Blk q (q + 3) H0 H1)) 0 0 (inBk q (q + 3)) := by
  refine cHead [.ref q, .int x, .int y] (by decide) rfl (Nat.le_of_ble_eq_true rfl) ?_
  intro p e s m below meth c ls args QQ hQ S hr hlk hnm hs hK hl
  have S : CallFix p m c mb_P_add 3 s args TB "RuleChoice$Pairs" := S
  obtain ⟨hx, hb, hml, hown, hts⟩ := id S
  have hl : lv_has ls 3 [(0, .ref q), (1, .int x), (2, .int y)] := hl
  refine lv_aload_n hx hb d_P_add_0 rfl (lv_at hl 0 rfl) ?_
  refine rw_get hx hb hts in_P hown hK.1 hp0.1 rfl 2 (by decide) (hts _ fl_P_18) rfl d_P_add_1 ?_
  refine lv_sipush (v := 780) hx hb d_P_add_4 (by decide) ?_
  refine lv_icmp_ge (tgt := 40) hx hb d_P_add_7 (by decide) (fun c7 => ?_) (fun c7 => ?_)
  · exact absurd c7 (nI_ge (b := 780) hr9 (by decide))
  · refine lv_aload_n hx hb d_P_add_10 rfl (lv_at hl 0 rfl) ?_
    refine rw_get hx hb hts in_P hown hK.1 hp0.1 rfl 0 (by decide) (hts _ fl_P_11) rfl d_P_add_11 ?_
    refine lv_aload_n hx hb d_P_add_14 rfl (lv_at hl 0 rfl) ?_
    refine rw_get hx hb hts in_P hown hK.1 hp0.1 rfl 2 (by decide) (hts _ fl_P_18) rfl d_P_add_15 ?_
    refine lv_iload_n hx hb d_P_add_18 rfl (lv_at hl 1 rfl) ?_
    refine rw_iast hx hb hK.1 0 hp0.2.1 rfl v.1 (rfl) (hr9) (by decide) (⟨by omega, by omega⟩) (A := inBk q (q + 3)) cNil d_P_add_19 (fun H1 L2 z3 o4 hat5 hL6 => ?_)
    have g0 := pt_k hp0.1 (o4 q (by omega))
    have g2 := pt_k hp0.2.2.1 (o4 (q + 2) (by omega))
    refine lv_aload_n hx hb d_P_add_20 rfl (lv_at hl 0 rfl) ?_
    refine rw_get hx hb hts in_P hown hK.1 g0 rfl 1 (by decide) (hts _ fl_P_15) rfl d_P_add_21 ?_
    refine lv_aload_n hx hb d_P_add_24 rfl (lv_at hl 0 rfl) ?_
    refine rw_get hx hb hts in_P hown hK.1 g0 rfl 2 (by decide) (hts _ fl_P_18) rfl d_P_add_25 ?_
    refine lv_iload_n hx hb d_P_add_28 rfl (lv_at hl 2 rfl) ?_
    refine rw_iast hx hb hK.1 0 g2 rfl v.1 (rfl) (hr9) (by decide) (⟨by omega, by omega⟩) hL6 d_P_add_29 (fun H7 L8 z9 o10 hat11 hL12 => ?_)
    have g3 := pt_k g0 (o10 q (by omega))
    have g4 := pt_k hat5 (o10 (q + 1) (by omega))
    refine lv_aload_n hx hb d_P_add_30 rfl (lv_at hl 0 rfl) ?_
    refine lv_dup hx hb d_P_add_31 rfl ?_
    refine rw_get hx hb hts in_P hown hK.1 g3 rfl 2 (by decide) (hts _ fl_P_18) rfl d_P_add_32 ?_
    refine lv_iconst (v := 1) hx hb d_P_add_35 (by decide) ?_
    refine lv_iadd hx hb d_P_add_36 ?_
    refine rw_put hx hb hts in_P ck_P ok_P nm_P hown hK.1 g3 rfl 2 (by decide) (hts _ fl_P_18) rfl (ok_P 2 (by decide)) rfl rfl (Nat.le_of_ble_eq_true rfl) (⟨Nat.le_refl _, by omega⟩) hL12 d_P_add_37 (fun H13 L14 z15 o16 hat17 hL18 => ?_)
    exact rt_dv hQ hx hb hr hlk ⟨⟨by rw [show nI (v.1 + 1) = nI v.1 + 1 from (nI_1 _).symm]; exact hat17, pt_k g4 (o16 _ (by omega)), pt_k hat11 (o16 _ (by omega)), hr9⟩, Blk.trans (Blk.trans ((Blk.one z3 o4).wide (by omega) (by omega)) ((Blk.one z9 o10).wide (by omega) (by omega))) ((Blk.one z15 o16).wide (by omega) (by omega))⟩ hL18 (Nat.le_of_ble_eq_true rfl) (Nat.le_of_ble_eq_true rfl) d_P_add_40
