def R_law : String := "RuleChoiceLaw"
def lw_P (b : Addr) (xs : List Int32) (args : Array Value) (s : State) : Prop := args = #[.ref b] ∧ s.IntsAt b xs ∧ xs.length ≤ 4609 ∧ (Jvm.Cond.and given_1 narrow_1).before args s = true
def lw_Q (_ : Array Value) (s : State) (o : Outcome) (t : State) : Prop := o = .returned (some (.int 1)) ∧ Framed s o t [] 601024 7293000
def lw_Z (below : List Frame) (a : Array Value) (s : State) : State → Prop := fun t => ∃ o, t.status = .running ∧ Ended t below o ∧ lw_Q a s o t
/-- the law's own end, with 1 on the stack, nothing written that was there before, its room as the claim has it -/
theorem lw_ret {p : Program} {l : Launch} {e : Env} {s : State} {m : MethodId} {below : List Frame} {meth : Method} {c : Code} {b : Nat} (hx : p.tables.exec = Jvm.exec) (hb : c.code = code) (hr : meth.sig.returnType = ret) (hlocks : meth.locks = false) {pc : Nat} {H : Heap} {ls : Array Slot} (hdg : decode code pc = .ok (.ireturn, 1)) : W p l e room_1 s m #[Value.ref b] below meth c H [] 601024 7293000 (lw_Z below #[Value.ref b] s) (F0 m pc ls [.int 1]) := by
  intro T hT X
  obtain ⟨fs, hret, hrun, hended, hW, hframe⟩ := X.leave (v := some (.int 1)) (hlocks := hlocks) (fun h => by rw [hr] at h; cases h)
  have hmeth' : T.vm.method? m = some meth := X.method'
  refine ⟨T.setFrames fs, ?_, .returned (some (.int 1)), hrun, hended, rfl, ⟨_, rfl⟩, hW, hframe⟩
  jvm_step X.here [X.here.top, hx, hb, hdg, hmeth', hr, ret, narrow_b1]
  (try refine ⟨rfl, ?_⟩); (try refine ⟨rfl, ?_⟩)
  first | (intro acts; rw [hret _ acts rfl rfl rfl]) | rw [hret _ _ rfl rfl rfl]
  exact Steps.refl _
/-- what holds at the law's entry: the machine, the code, the tables' words (any of lw_tbl by 'hts w (by decide +kernel)'), the script of L ints xs at the cell b, what the Statement gives of the start (any of its parts by flat_of_before) -/
def lw_At (p : Program) (s : State) (m : MethodId) (meth : Method) (c : Code) (b L : Nat) (xs : Nat → Int32) : Prop :=
  p.tables.exec = Jvm.exec ∧ c.code = code ∧ meth.sig.returnType = ret ∧ c.maxLocals = 8 ∧ s.vm.findClass R_law = some m.cls ∧ (∀ w ∈ lw_tbl, w.before #[Value.ref b] s = true) ∧ va_X b L xs s s.heap ∧ b < s.heap.size ∧ meth.locks = false ∧ (Jvm.Cond.and given_1 narrow_1).before #[Value.ref b] s = true
set_option maxRecDepth 100000 in
set_option maxHeartbeats 4000000 in
theorem lk_loop {p : Program} {l : Launch} {e : Env} {s : State} {m : MethodId} {below : List Frame} {meth : Method} {c : Code} {ev : EV} {q0 L b : Nat} {xs : Nat → Int32} (S : CallFix p m c code 8 s #[Value.ref q0] TB "RuleChoiceLaw") (hK : KG ev s) (hT : l.stackTraces = false) (hX : va_X q0 L xs s (evH ev)) (hq : q0 < (evH ev).size) (hLL : L ≤ 4609) (hE : evH ev = s.heap) (hr : meth.sig.returnType = ret) (hlk : meth.locks = false) : ∀ (n t : Nat) (th : Int32) (u : XS) (kp : KT) (v : PT) (f : Nat → Int64) (H : Heap) (locs : List Loc) (ls : Array Slot), XF ev b u kp v H → MW ev (b + 101) th u kp v H → pt ev H (b + 117) (aL ev 1 f) → (∀ z ∈ locs, (evH ev).size ≤ z.base) → 9 * t ≤ L → L - 9 * t < n → lv_has ls 8 [(0, .ref q0), (1, .ref b), (2, .ref (b + 101)), (3, .ref (b + 117)), (4, .int (nI (1 + 9 * t)))] → W p l e room_1 s m #[Value.ref q0] below meth c H locs (118 + 5 * t) (18746 + 30 * t) (lw_Z below #[Value.ref q0] s) (F0 m 33 ls []) := by
  intro n
  induction n with
  | zero => intro t th u kp v f H locs ls _ _ _ _ _ h3; exact absurd h3 (by omega)
  | succ n ih =>
    intro t th u kp v f H locs ls hf hm ho hL hle hlt hl
    obtain ⟨hx, hb, hml, hown, hts⟩ := id S
    refine lv_iload hx hb d_L_law_33 (lv_at hl 4 rfl) ?_
    refine lv_aload_n hx hb d_L_law_35 rfl (lv_at hl 0 rfl) ?_
    refine rw_slen hx hb hX hq hf.2.2.2.1 d_L_law_36 ?_
    refine lv_bipush (v := 9) hx hb d_L_law_37 (by decide) ?_
    refine lv_isub hx hb d_L_law_39 ?_
    refine lv_icmp_gt (tgt := 1605) hx hb d_L_law_40 (by decide) (fun c40 => ?_) (fun c40 => ?_)
    · refine lv_iconst (v := 1) hx hb d_L_law_1605 (by decide) ?_
      exact va_forget (fun z hz => by rw [← hE]; exact hL z hz) (W.widen (k := 601024) (n := 7293000) (by omega) (by omega) (lw_ret hx hb hr hlk d_L_law_1606))
    · have hi9 : 1 + 9 * t + 9 ≤ L := ix_9 hLL (by omega) (by omega) c40
      have K9 : ∀ (th1 : Int32) (u1 : XS) (kp1 : KT) (v1 : PT) (f1 : Nat → Int64) (H1 : Heap) (locs1 : List Loc) (ls : Array Slot), XF ev b u1 kp1 v1 H1 → MW ev (b + 101) th1 u1 kp1 v1 H1 → pt ev H1 (b + 117) (aL ev 1 f1) → (∀ z ∈ locs1, (evH ev).size ≤ z.base) → lv_has ls 8 [(0, .ref q0), (1, .ref b), (2, .ref (b + 101)), (3, .ref (b + 117)), (4, .int (nI (1 + 9 * t)))] → W p l e room_1 s m #[Value.ref q0] below meth c H1 locs1 (118 + 5 * t + 5) (18746 + 30 * t + 30) (lw_Z below #[Value.ref q0] s) (F0 m 1599 ls []) := by
        intro th1 u1 kp1 v1 f1 H1 locs1 ls hf1 hm1 ho1 hL1 hl
        refine lv_iinc (v := (nI (1 + 9 * (t + 1)))) (lv' := [(4, .int (nI (1 + 9 * (t + 1)))), (0, .ref q0), (1, .ref b), (2, .ref (b + 101)), (3, .ref (b + 117))]) hx hb d_L_law_1599 hl (k := 4) rfl ((nI_add (1 + 9 * t) 9).trans (congrArg nI (by omega))) (by decide) rfl (fun ls hl => ?_)
        refine lv_goto (tgt := 33) hx hb d_L_law_1602 (by decide) ?_
        exact W.widen (k := 118 + 5 * (t + 1)) (n := 18746 + 30 * (t + 1)) (by omega) (by omega) (ih (t + 1) th1 u1 kp1 v1 f1 H1 locs1 ls hf1 hm1 ho1 hL1 (by omega) (by omega) (lv_sub hl [1, 2, 3, 4, 0] rfl))
      refine lv_aload_n hx hb d_L_law_43 rfl (lv_at hl 0 rfl) ?_
      refine lv_iload hx hb d_L_law_44 (lv_at hl 4 rfl) ?_
      refine rw_sld hx hb hX hq hf.2.2.2.1 hLL (1 + 9 * t) rfl (by omega) d_L_law_46 ?_
      refine lv_bipush (v := 15) hx hb d_L_law_47 (by decide) ?_
      refine lv_iand hx hb d_L_law_49 ?_
      obtain ⟨j, hj, ej⟩ := pk_andE (xs (1 + 9 * t)) (m := 15) 4 (by decide)
      have hj : j < 16 := hj
      refine tp_i (y := nI j) ej ?_
      obtain rfl | rfl | rfl | rfl | rfl | rfl | rfl | rfl | rfl | rfl | rfl | rfl | rfl | rfl | rfl | rfl : j = 0 ∨ j = 1 ∨ j = 2 ∨ j = 3 ∨ j = 4 ∨ j = 5 ∨ j = 6 ∨ j = 7 ∨ j = 8 ∨ j = 9 ∨ j = 10 ∨ j = 11 ∨ j = 12 ∨ j = 13 ∨ j = 14 ∨ j = 15 := by omega
      · refine lv_tableIn hx hb d_L_law_50 (by decide) (by decide) (off := 78) rfl (tgt := 128) (by decide) ?_
        exact lk_rule S hK hT hX hq hLL hi9 (by omega) (by omega) hf hm ho hL K9 hl
      · refine lv_tableIn hx hb d_L_law_50 (by decide) (by decide) (off := 216) rfl (tgt := 266) (by decide) ?_
        exact lk_rank S hK hT hX hq hLL hi9 (by omega) (by omega) hf hm ho hL K9 hl
      · refine lv_tableIn hx hb d_L_law_50 (by decide) (by decide) (off := 291) rfl (tgt := 341) (by decide) ?_
        exact lk_area S hK hT hX hq hLL hi9 (by omega) (by omega) hf hm ho hL K9 hl
      · refine lv_tableIn hx hb d_L_law_50 (by decide) (by decide) (off := 517) rfl (tgt := 567) (by decide) ?_
        exact lk_inArea S hK hT hX hq hLL hi9 (by omega) (by omega) hf hm ho hL K9 hl
      · refine lv_tableIn hx hb d_L_law_50 (by decide) (by decide) (off := 592) rfl (tgt := 642) (by decide) ?_
        exact lk_thing S hK hT hX hq hLL hi9 (by omega) (by omega) hf hm ho hL K9 hl
      · refine lv_tableIn hx hb d_L_law_50 (by decide) (by decide) (off := 750) rfl (tgt := 800) (by decide) ?_
        exact lk_make S hK hT hX hq hLL hi9 (by omega) (by omega) hf hm ho hL K9 hl
      · refine lv_tableIn hx hb d_L_law_50 (by decide) (by decide) (off := 837) rfl (tgt := 887) (by decide) ?_
        exact lk_move S hK hT hX hq hLL hi9 (by omega) (by omega) hf hm ho hL K9 hl
      · refine lv_tableIn hx hb d_L_law_50 (by decide) (by decide) (off := 988) rfl (tgt := 1038) (by decide) ?_
        exact lk_winner S hK hT hX hq hLL hi9 (by omega) (by omega) hf hm ho hL K9 hl
      · refine lv_tableIn hx hb d_L_law_50 (by decide) (by decide) (off := 1068) rfl (tgt := 1118) (by decide) ?_
        exact lk_value S hK hT hX hq hLL hi9 (by omega) (by omega) hf hm ho hL K9 hl
      · refine lv_tableIn hx hb d_L_law_50 (by decide) (by decide) (off := 1147) rfl (tgt := 1197) (by decide) ?_
        exact lk_listed S hK hT hX hq hLL hi9 (by omega) (by omega) hf hm ho hL K9 hl
      · refine lv_tableIn hx hb d_L_law_50 (by decide) (by decide) (off := 1239) rfl (tgt := 1289) (by decide) ?_
        exact lk_why S hK hT hX hq hLL hi9 (by omega) (by omega) hf hm ho hL K9 hl
      · refine lv_tableIn hx hb d_L_law_50 (by decide) (by decide) (off := 1331) rfl (tgt := 1381) (by decide) ?_
        exact lk_greatest S hK hT hX hq hLL hi9 (by omega) (by omega) hf hm ho hL K9 hl
      · refine lv_tableIn hx hb d_L_law_50 (by decide) (by decide) (off := 1398) rfl (tgt := 1448) (by decide) ?_
        exact lk_close S hK hT hX hq hLL hi9 (by omega) (by omega) hf hm ho hL K9 hl
      · refine lv_tableIn hx hb d_L_law_50 (by decide) (by decide) (off := 1454) rfl (tgt := 1504) (by decide) ?_
        exact lk_pair S hK hT hX hq hLL hi9 (by omega) (by omega) hf hm ho hL K9 hl
      · refine lv_tableIn hx hb d_L_law_50 (by decide) (by decide) (off := 1522) rfl (tgt := 1572) (by decide) ?_
        exact lk_kept S hK hT hX hq hLL hi9 (by omega) (by omega) hf hm ho hL K9 hl
      · refine lv_tableIn hx hb d_L_law_50 (by decide) (by decide) (off := 1535) rfl (tgt := 1585) (by decide) ?_
        exact lk_spared S hK hT hX hq hLL hi9 (by omega) (by omega) hf hm ho hL K9 hl
set_option maxRecDepth 100000 in
set_option maxHeartbeats 4000000 in
theorem whole_start {p : Program} {e : Env} {s : State} {m : MethodId} {below : List Frame} {meth : Method} {c : Code} (l : Launch) (hT : l.stackTraces = false) {q0 L : Nat} {xs : Nat → Int32} (hLL : L ≤ 4609) (C0 : lw_At p s m meth c q0 L xs) : W p l e room_1 s m #[Value.ref q0] below meth c s.heap [] 0 0 (lw_Z below #[Value.ref q0] s) (entryFrame m ([Value.ref q0] : List Value).toArray 8) := by
  obtain ⟨hx, hb, hr, hml, hown, hts0, hX, hbl, hlk, hgv⟩ := C0
  obtain ⟨ev, hE, hK⟩ := KG_0 hts0 hgv
  have hts : ∀ w ∈ TB, w.before #[Value.ref q0] s = true := fun w h => hts0 w (List.mem_filter.mp h).1
  have S : CallFix p m c code 8 s #[Value.ref q0] TB "RuleChoiceLaw" := ⟨hx, hb, hml, hown, hts⟩
  suffices h : ∀ ls : Array Slot, lv_has ls 8 [(0, .ref q0)] → W p l e room_1 s m #[Value.ref q0] below meth c s.heap [] 0 0 (lw_Z below #[Value.ref q0] s) (F0 m 0 ls []) by
    rw [lg_entry_eq]
    exact h _ (lv_entry [Value.ref q0] (n := 8) (Nat.le_of_ble_eq_true rfl))
  intro ls hl
  rw [← hE] at hX hbl ⊢
  obtain ⟨b, hbz⟩ : ∃ b, (evH ev).size = b := ⟨_, rfl⟩
  obtain ⟨cn, ecn⟩ : ∃ cn, (if 0 < L then xs 0 else 0) = cn := ⟨_, rfl⟩
  refine rz_new (z := b) hbz hx hb hts in_X ck_X ok_X hown (hts _ cl_L_8) (hts _ iv_X) (hts _ iz_X) hK.1 (ci := 0) rfl (fs := [.int 0, .null, .null, .null, .null, .null, .int 0, .int 0, .int 0, .long 0]) (by decide) (Nat.le_of_ble_eq_true rfl) (Nat.le_of_ble_eq_true rfl) d_L_law_0 (fun H1 z1 o1 h1 => ?_)
  have old1 : ∀ q : Nat, q < b → H1[q]? = (evH ev)[q]? := fun q hq => o1 q hq
  refine lv_dup hx hb d_L_law_3 rfl ?_
  refine lv_aload_n hx hb d_L_law_4 rfl (lv_at hl 0 rfl) ?_
  refine lv_iconst (v := 0) hx hb d_L_law_5 (by decide) ?_
  refine cl_i (W.runS (As := [.ref q0, .int 0]) (rest := [.ref b, .ref b]) S (c_L_cell (ev := ev) (xs := xs) (L := L) (b := q0) (H0 := H1) (by omega) (by omega)) (va_cwS 2 hts gs_L_67 rfl rfl rfl (by decide +kernel) ⟨Nat.le_of_ble_eq_true rfl, Nat.le_of_ble_eq_true rfl⟩) (cP_S (KX_ok ev q0 L xs H1) ⟨hK, va_X.kept hX (old1 q0 (by omega))⟩) rfl rfl hl.1 rfl (lv_room (Nat.le_of_ble_eq_true rfl)) d_L_law_6 ⟨Nat.le_of_ble_eq_true rfl, Nat.le_of_ble_eq_true rfl⟩) ?_
  refine tp_i (y := cn) ecn ?_
  refine cl_d (A := (fun z => (evH ev).size ≤ z)) ((va_runI (As := [.int cn]) (rest := [.ref b]) S (c_X_init cn h1 z1 ⟨by omega, fun q hq => old1 q (by omega)⟩ (Nat.le_of_eq hbz)) (cwI 1 hts (tb_I in_X_init) rfl rfl rfl (hts _ iz_X) (hts _ ml_L_73) (hts _ im_X_init) rfl (by decide +kernel) ⟨Nat.le_of_ble_eq_true rfl, Nat.le_of_ble_eq_true rfl⟩) (cP_S (KG_ok _) hK) rfl rfl hl.1 rfl (lv_room (Nat.le_of_ble_eq_true rfl)) d_L_law_9 ⟨Nat.le_of_ble_eq_true rfl, Nat.le_of_ble_eq_true rfl⟩).run) cNil (fun z h => by have h : b ≤ z := h; show (evH ev).size ≤ z; omega) (fun H2 L2 hp2 hL2 => ?_)
  obtain ⟨hf2, z2, o2⟩ := hp2
  have old2 : ∀ q : Nat, q < b → H2[q]? = (evH ev)[q]? := fun q hq => (o2 q hq).trans (old1 q hq)
  refine lv_astore_n (lv' := [(1, .ref b), (0, .ref q0)]) hx hb d_L_law_12 rfl hl (by decide) rfl (fun ls hl => ?_)
  refine rz_new (z := b + 101) z2 hx hb hts in_M ck_M ok_M hown (hts _ cl_L_76) (hts _ iv_M) (hts _ iz_M) hK.1 (ci := 6) rfl (fs := [.int 0, .int 0, .int 0, .null, .null, .null, .null, .null, .null, .null, .int 0, .null, .int 0, .null, .null, .null, .null, .null, .long 0, .int 0, .null, .null]) (by decide) (Nat.le_of_ble_eq_true rfl) (Nat.le_of_ble_eq_true rfl) d_L_law_13 (fun H3 z3 o3 h3 => ?_)
  have old3 : ∀ q : Nat, q < b → H3[q]? = (evH ev)[q]? := fun q hq => (o3 q (by omega)).trans (old2 q hq)
  refine lv_dup hx hb d_L_law_16 rfl ?_
  refine lv_aload_n hx hb d_L_law_17 rfl (lv_at hl 1 rfl) ?_
  refine lv_iconst (v := 0) hx hb d_L_law_18 (by decide) ?_
  refine cl_i (W.runS (As := [.ref q0, .int 0]) (rest := [.ref (b + 101), .ref (b + 101)]) S (c_L_cell (ev := ev) (xs := xs) (L := L) (b := q0) (H0 := H3) (by omega) (by omega)) (va_cwS 2 hts gs_L_67 rfl rfl rfl (by decide +kernel) ⟨Nat.le_of_ble_eq_true rfl, Nat.le_of_ble_eq_true rfl⟩) (cP_S (KX_ok ev q0 L xs H3) ⟨hK, va_X.kept hX (old3 q0 (by omega))⟩) rfl rfl hl.1 rfl (lv_room (Nat.le_of_ble_eq_true rfl)) d_L_law_19 ⟨Nat.le_of_ble_eq_true rfl, Nat.le_of_ble_eq_true rfl⟩) ?_
  refine tp_i (y := cn) ecn ?_
  refine cl_d (A := (fun z => (evH ev).size ≤ z)) ((va_runI (As := [.int cn]) (rest := [.ref (b + 101)]) S (c_M_init cn h3 z3) (cwI 1 hts (tb_I in_M_init) rfl rfl rfl (hts _ iz_M) (hts _ ml_L_78) (hts _ im_M_init) rfl (by decide +kernel) ⟨Nat.le_of_ble_eq_true rfl, Nat.le_of_ble_eq_true rfl⟩) (cP_S (KG_ok _) hK) rfl rfl hl.1 rfl (lv_room (Nat.le_of_ble_eq_true rfl)) d_L_law_22 ⟨Nat.le_of_ble_eq_true rfl, Nat.le_of_ble_eq_true rfl⟩).run) hL2 (fun z h => by have h : b + 101 ≤ z := h; show (evH ev).size ≤ z; omega) (fun H4 L4 hp4 hL4 => ?_)
  obtain ⟨hm4, z4, o4⟩ := hp4
  have ext4 : Ext H2 H4 := ⟨by omega, fun q hq => (o4 q (by omega)).trans (o3 q (by omega))⟩
  refine lv_astore_n (lv' := [(2, .ref (b + 101)), (1, .ref b), (0, .ref q0)]) hx hb d_L_law_25 rfl hl (by decide) rfl (fun ls hl => ?_)
  refine lv_iconst (v := 1) hx hb d_L_law_26 (by decide) ?_
  refine rz_newa (atype := .long) (z := b + 101 + 16) z4 hx hb (hts _ ac_long) hK.1 1 rfl (a0 := (1, .inr (.inl (fun _ => 0)))) (fun _ => rfl) (by decide) rfl (by decide) (Nat.le_of_ble_eq_true rfl) (Nat.le_of_ble_eq_true rfl) d_L_law_27 (fun H5 z5 o5 h5 => ?_)
  have hf5 := XF_ext hf2 (ext4.trans ⟨by omega, fun q hq => o5 q (by omega)⟩)
  have hm5 := MW_k hm4 (fun q _ _ => o5 q (by omega))
  refine lv_astore_n (lv' := [(3, .ref (b + 117)), (2, .ref (b + 101)), (1, .ref b), (0, .ref q0)]) hx hb d_L_law_29 rfl hl (by decide) rfl (fun ls hl => ?_)
  refine lv_iconst (v := 1) hx hb d_L_law_30 (by decide) ?_
  refine lv_istore (lv' := [(4, .int 1), (3, .ref (b + 117)), (2, .ref (b + 101)), (1, .ref b), (0, .ref q0)]) hx hb d_L_law_31 hl (by decide) rfl (fun ls hl => ?_)
  exact W.widen (k := 118 + 5 * 0) (n := 18746 + 30 * 0) (Nat.le_of_ble_eq_true rfl) (Nat.le_of_ble_eq_true rfl) (lk_loop S hK hT hX hbl hLL hE hr hlk _ 0 _ _ _ _ _ _ _ ls hf5 hm5 h5 hL4 (Nat.zero_le _) (Nat.lt_succ_self _) (lv_sub hl [4, 3, 2, 1, 0] rfl))
set_option maxHeartbeats 4000000 in
theorem lw_walk (l : Launch) (hT : l.stackTraces = false) (b : Addr) (xs : List Int32) : MetFree l x (headSpec (Jvm.Cond.code x code maxLocals ret :: tables_1) room_1) (lw_P b xs) (fun _ _ _ _ _ => True) lw_Q := by
  refine MetFree.of_bodyS (code := code) (maxLocals := maxLocals) (ret := ret) (by decide) ?_ ?_
  · intro args s m h hn
    obtain ⟨meth, c, h1, h2, h3, h4, h5, h6, -, -⟩ := Cond.code_spec hn (atoms_spec (ws := Jvm.Cond.code x code maxLocals ret :: tables_1) h _ List.mem_cons_self)
    exact ⟨meth, c, h1, h2, h3, h4, h5, h6⟩
  · intro p e s m args below meth c s₁ B hml0 hP _
    obtain ⟨rfl, hx, hbd, hgv⟩ := hP
    obtain ⟨scr, harrAt, hlist, hof, hsmall⟩ := hx
    obtain ⟨hcb, hkn, -, -⟩ := State.arrayAt?_spec harrAt
    have hown : s.vm.findClass R_law = some m.cls := findClass_of_methodNamed B.named
    have hts0 : ∀ c ∈ (Jvm.Cond.code x code maxLocals ret :: tables_1), c.before #[Value.ref b] s = true := atoms_spec (ws := Jvm.Cond.code x code maxLocals ret :: tables_1) B.pre
    have hts : ∀ w ∈ lw_tbl, w.before #[Value.ref b] s = true := k2_hts_sels lw_privs (fun w hw => hts0 w (List.mem_cons_of_mem _ hw)) lw_privs_ok
    have hml : c.maxLocals = 8 := B.maxLocals_eq (hts0 _ List.mem_cons_self)
    have X₀ : Stand p l e room_1 s m #[Value.ref b] below meth c s₁ [] 0 0 := Stand.of_body B
    have hh0 : s₁.heap = s.heap := by rw [B.state]; rfl
    have hsz : scr.slots.size = xs.length := by rw [← Array.length_toList, hlist, List.length_map]
    have hval : ∀ j : Nat, j < xs.length → scr.slots[j]? = some (.int (xs.getD j 0)) := fun j hj => by
      rw [← Array.getElem?_toList, hlist]
      simp [hj]
    have hbl : b < s.heap.size := (Array.getElem?_eq_some_iff.mp hcb).1
    have hX : va_X b xs.length (fun j => xs.getD j 0) s s.heap := ⟨scr, hcb, hof, hkn, hsz, hval⟩
    have K : W p l e room_1 s m #[Value.ref b] below meth c s₁.heap [] 0 0 (lw_Z below #[Value.ref b] s) (entryFrame m ([Value.ref b] : List Value).toArray 8) := by
      rw [hh0]
      exact whole_start l hT hbd ⟨B.exec, B.bytes, B.returns, hml, hown, hts, hX, hbl, B.notSynchronized, hgv⟩
    obtain ⟨t, a1, o, b1, b2, b3⟩ := K s₁ rfl X₀
    exact ⟨t, o, a1, b1, b2, b3⟩
theorem lw_pre_spec {args : Array Value} {s : State} (h : (Jvm.Cond.and given_1 narrow_1).before args s = true) (hr : rest_1_c.before args s = true) : ∃ (b : Addr) (xs : List Int32), lw_P b xs args s := by
  have hs := flat_of_before _ h
  have hq := flat_of_before _ hr
  have hc : (Cond.count 1).before args s = true := hs _ (by decide +kernel)
  have harr : (Cond.arrayOf (.arg 0) .int).before args s = true := hs _ (by decide +kernel)
  have hle : (Cond.le (.length (.arg 0)) (.int 4609)).before args s = true := hs _ (by decide +kernel)
  have hlen : (Cond.isInt (.length (.arg 0))).before args s = true := hq _ (by decide +kernel)
  have hall : (Cond.all (.arg 0) (.isInt (.elem (.arg 0) (.index 0)))).before args s = true := hq _ (by decide +kernel)
  obtain ⟨b, xs, hb, hx⟩ := State.ints_of_pre rfl harr hlen hall
  have hsm : xs.length < 2 ^ 31 := hx.choose_spec.2.2.2
  have hev : (Term.length (.arg 0)).eval args s none [] s = some (.int xs.length.toInt32) := hx.length_eval hb
  have hv := Cond.le_ints hev (show (Term.int 4609).eval args s none [] s = some (.int 4609) from rfl)
  have hd : xs.length.toInt32 ≤ 4609 := by
    simpa [Cond.before, Cond.holds, hv] using hle
  have hN : xs.length ≤ 4609 := (Int32.ofNat_le_ofNat hsm (by decide)).mp (show Int32.ofNat xs.length ≤ Int32.ofNat 4609 from hd)
  exact ⟨b, xs, Cond.one_arg hc (show args[0]? = some (.ref b) from hb), hx, hN, h⟩
theorem lw_comes (l : Launch) (hT : l.stackTraces = false) : Comes l x (Jvm.Cond.code x code maxLocals ret :: tables_1) room_1 (fun tb e args s => Calls_1 tb e args s ∧ rest_1 tb e args s ∧ Pre_1 tb e args s)
    (fun _ _ args s o t => lw_Q args s o t) := by
  intro p e ha hc hk s m args below hf hfit hheap happ hpre
  obtain ⟨b, xs, hP⟩ := lw_pre_spec hpre.2.2 hpre.2.1
  obtain ⟨k, o, h1, h2, h3, hQ⟩ := lw_walk l hT b xs p e ha hc hk s m args below hf ((Spec.applies_iff_loose hf).mp happ).1 hP trivial
  exact ⟨k, o, h1, h2, h3, hQ⟩
theorem lw_frame {s t : State} {o : Outcome} {args : Array Value} (h : Framed s o t [] 601024 7293000) :
    Framed s o t (fieldLocs frame_1_writes args s ++ arrayLocs frame_1_arrays args s ++ staticLocs frame_1_statics s) 601024 7293000 := h
theorem lw_limb (L : Cond) (hL : ∀ (args : Array Value) (s t : State), L.after args s (.returned (some (.int 1))) t = true) :
    ArmFor flags0 classFile x code maxLocals ret World_1 tables_1 room_1 Calls_1 rest_1 Pre_1
      (fun tb e a s o t => postC L tb e a s o t ∧ Framed s o t (fieldLocs frame_1_writes a s ++ arrayLocs frame_1_arrays a s ++ staticLocs frame_1_statics s) 601024 7293000) := by
  intro l hfl _ _ p e ha hc hk s m args below hf hfit hheap happ hpre
  obtain ⟨k, o, h1, h2, h3, rfl, hF⟩ := lw_comes l (noT hfl) p e ha hc hk s m args below hf hfit hheap happ hpre
  exact ⟨k, _, h1, h2, h3, hL args s _, lw_frame hF⟩
theorem i_vc : Claimed_1_1 ∧ Claimed_1_2 := ⟨lw_limb limb_1_1 (fun args s t => by simp [limb_1_1, Cond.after, Cond.holds, Cond.value]), lw_limb limb_1_2 (fun args s t => Cond.after_iff.mpr (by
  first | (rw [show limb_1_2 = Cond.eq .result (.int 1) from rfl, Cond.eq_ints (x := 1) (y := 1) rfl rfl]; simp; done) | (simp [limb_1_2, Cond.value, Term.eval]; done)))⟩

