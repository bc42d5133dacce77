def rm_X_init : Room := { frames := 2, cells := 100, slots := 7065, locals := 40 }
def cls0 (n : Int32) : Int32 := if (1 : Int32) < (if n < 16 then n else 16) then (if n < 16 then n else 16) else 1
def u0 (n : Int32) : XS := ((cls0 n, 0, 0, 0, 0), (fun _ => r0), (fun _ => a0), (fun _ => t0))
theorem KP_0 (n : Int32) : KP (u0 n) (fun _ _ _ => false) (fun _ => 0) := fun k x y _ _ _ => ⟨by show (0 : Int32) = if false = true then _ else 0; rw [if_neg (by decide)], fun h => by cases h⟩
theorem xB_0 (n : Int32) : xB (u0 n) := ⟨Nat.zero_le _, Nat.zero_le _, Nat.zero_le _, (fun i a _ h => by cases h), fun i _ => (⟨by decide, by decide⟩ : okK 0)⟩
set_option maxRecDepth 100000 in
set_option maxHeartbeats 4000000 in
theorem c_X_init {l : Launch} {ev : EV} {H0 : Heap} {b : Nat} (cn : Int32) (h0 : pt ev H0 b (oC 0 [.int 0, .null, .null, .null, .null, .null, .int 0, .int 0, .int 0, .long 0])) (hsz : H0.size = b + 1) (hO : Old ev H0) (hz0 : (evH ev).size ≤ b) : Met l my_X_init mw_X_init rm_X_init (cP [.ref b, .int cn] (KG ev) H0) (cQd none (fun H1 => XF ev b (u0 cn) (fun _ _ _ => false) (0, (fun _ => 0), (fun _ => 0)) H1 ∧ H1.size = b + 101 ∧ ∀ q : Nat, q < b → H1[q]? = H0[q]?)) 100 7065 (fun z => b ≤ z) := by
  refine cHead [.ref b, .int cn] (by decide) rfl (Nat.le_of_ble_eq_true rfl) ?_
  intro p e s m below meth c ls args QQ hQ S hr hlk hnm hs hK hl
  have S : CallFix p m c mb_X_init 3 s args TB "RuleChoice" := S
  obtain ⟨hx, hb, hml, hown, hts⟩ := id S
  have hl : lv_has ls 3 [(0, .ref b), (1, .int cn)] := hl
  refine lv_aload_n hx hb d_X_init_0 rfl (lv_at hl 0 rfl) ?_
  refine W.objInit hx hb hown (hts _ ml_X_1) (hts _ im_objinit) (hts _ in_objinit) rfl (hl.1.trans hml.symm) rfl d_X_init_1 (Nat.le_of_ble_eq_true rfl) (Nat.le_of_ble_eq_true rfl) ?_
  refine W.eq (g2 := F0 m 4 ls []) rfl ?_
  refine lv_aload_n hx hb d_X_init_4 rfl (lv_at hl 0 rfl) ?_
  refine lv_iconst (v := 1) hx hb d_X_init_5 (by decide) ?_
  refine lv_bipush (v := 16) hx hb d_X_init_6 (by decide) ?_
  refine lv_iload_n hx hb d_X_init_8 rfl (lv_at hl 1 rfl) ?_
  refine va_mmin hx hb (hml.trans hl.1.symm) hown (hts _ ml_X_9) (hts _ st_min) (hts _ iz_Math) (hts _ in_min) (Nat.le_of_ble_eq_true rfl) (Nat.le_of_ble_eq_true rfl) (Nat.le_of_ble_eq_true rfl) (Nat.le_of_ble_eq_true rfl) d_X_init_9 ?_
  refine va_mmax hx hb (hml.trans hl.1.symm) hown (hts _ ml_X_15) (hts _ st_max) (hts _ iz_Math) (hts _ in_max) (Nat.le_of_ble_eq_true rfl) (Nat.le_of_ble_eq_true rfl) (Nat.le_of_ble_eq_true rfl) (Nat.le_of_ble_eq_true rfl) d_X_init_12 ?_
  refine tp_i (y := (cls0 cn)) (rfl) ?_
  refine rw_putF hx hb hts in_X ck_X ok_X nm_X hown hK.1 h0 rfl 0 (by decide) (hts _ fl_X_18) rfl hnm rfl (ok_X 0 (by decide)) rfl rfl (Nat.le_of_ble_eq_true rfl) (Nat.le_refl _) (A := (fun z => b ≤ z)) cNil d_X_init_15 (fun H1 L2 z3 o4 hat5 hL6 => ?_)
  have s7 := z3.trans hsz
  have f8 : ∀ q : Nat, q < b → H1[q]? = H0[q]? := fun q hq => (o4 q (by omega)).trans ((fun _ _ => rfl) q hq)
  refine lv_aload_n hx hb d_X_init_18 rfl (lv_at hl 0 rfl) ?_
  refine lv_bipush (v := 40) hx hb d_X_init_19 (by decide) ?_
  refine rz_newq (z := b + 1) (s7) hx hb hown (hts _ cl_X_22) (va_AO.use hK.2.2.2.2.2.2.1) hK.1 3 rfl (N' := 40) (by decide) rfl (by decide) (by show 0 + 1 ≤ 100; omega) (by show 0 + 40 ≤ 7065; omega) d_X_init_21 (fun H9 z10 o11 hat12 => ?_)
  have ho13 := pt_k hat5 (o11 b (by omega))
  have f14 : ∀ q : Nat, q < b → H9[q]? = H0[q]? := fun q hq => (o11 q (by omega)).trans (f8 q hq)
  refine rw_putF hx hb hts in_X ck_X ok_X nm_X hown hK.1 ho13 rfl 1 (by decide) (hts _ fl_X_24) rfl hnm rfl (ok_X 1 (by decide)) rfl rfl (Nat.le_of_ble_eq_true rfl) (Nat.le_refl _) hL6 d_X_init_24 (fun H15 L16 z17 o18 hat19 hL20 => ?_)
  have s21 := z17.trans z10
  have f22 : ∀ q : Nat, q < b → H15[q]? = H0[q]? := fun q hq => (o18 q (by omega)).trans (f14 q hq)
  have ht23 := pt_k hat12 (o18 _ (by omega))
  refine lv_iconst (v := 0) hx hb d_X_init_27 (by decide) ?_
  refine lv_istore_n (lv' := [(2, .int 0), (0, .ref b), (1, .int cn)]) hx hb d_X_init_28 rfl hl (by decide) rfl (fun ls hl => ?_)
  have LPR : ∀ (n i : Nat) (ls : Array Slot) (H : Heap) (locs : List Loc), pt ev H b (oC 0 [.int (cls0 cn), .ref (b + 1), .null, .null, .null, .null, .int 0, .int 0, .int 0, .long 0]) → H.size = b + 2 + i → (∀ q : Nat, q < b → H[q]? = H0[q]?) → iT ev 3 40 4 (b + 2) i (ruV r0) H → (∀ q ∈ locs, b ≤ q.base) → i ≤ 40 → 40 - i < n → lv_has ls 3 [(0, .ref b), (2, .int (nI i))] → W p l e rm_X_init s m args below meth c H locs (1 + i) (40 + i * 7) QQ (F0 m 29 ls []) := by
    intro n
    induction n with
    | zero => intro i ls H locs _ _ _ _ _ h2 h3; exact absurd h3 (by omega)
    | succ n ih =>
      intro i ls H locs ho hz fo  hiT hL hle hlt9 hl
      refine lv_iload_n hx hb d_X_init_29 rfl (lv_at hl 1 rfl) ?_
      refine lv_bipush (v := 40) hx hb d_X_init_30 (by decide) ?_
      refine lv_icmp_ge (tgt := 54) hx hb d_X_init_32 (by decide) (fun c32 => ?_) (fun c32 => ?_)
      · have eR : i = 40 := Nat.le_antisymm hle (Nat.not_lt.mp (fun h => absurd c32 (nI_ge (b := 40) h (by decide))))
        subst eR
        have hx24 : xR ev b (fun _ => r0) H := ⟨fil_all hiT.1, fun j hj => hiT.2 j hj⟩
        refine lv_aload_n hx hb d_X_init_54 rfl (lv_at hl 0 rfl) ?_
        refine lv_bipush (v := 12) hx hb d_X_init_55 (by decide) ?_
        refine rz_newq (z := b + 42) (hz) hx hb hown (hts _ cl_X_29) (va_AO.use hK.2.2.2.2.2.2.2.1) hK.1 4 rfl (N' := 12) (by decide) rfl (by decide) (by show 1 + 40 + 1 ≤ 100; omega) (by show 40 + 40 * 7 + 12 ≤ 7065; omega) d_X_init_57 (fun H25 z26 o27 hat28 => ?_)
        have ho29 := pt_k ho (o27 b (by omega))
        have f30 : ∀ q : Nat, q < b → H25[q]? = H0[q]? := fun q hq => (o27 q (by omega)).trans (fo q hq)
        have ht31 := xR_k hx24 (fun q _ _ => o27 q (by omega))
        refine rw_putF hx hb hts in_X ck_X ok_X nm_X hown hK.1 ho29 rfl 2 (by decide) (hts _ fl_X_31) rfl hnm rfl (ok_X 2 (by decide)) rfl rfl (Nat.le_of_ble_eq_true rfl) (Nat.le_refl _) hL d_X_init_60 (fun H32 L33 z34 o35 hat36 hL37 => ?_)
        have s38 := z34.trans z26
        have f39 : ∀ q : Nat, q < b → H32[q]? = H0[q]? := fun q hq => (o35 q (by omega)).trans (f30 q hq)
        have ht40 := xR_k ht31 (fun q _ _ => o35 q (by omega))
        have ht41 := pt_k hat28 (o35 _ (by omega))
        refine lv_iconst (v := 0) hx hb d_X_init_63 (by decide) ?_
        refine lv_istore_n (lv' := [(2, .int 0), (0, .ref b)]) hx hb d_X_init_64 rfl hl (by decide) rfl (fun ls hl => ?_)
        have LPA : ∀ (n i : Nat) (ls : Array Slot) (H : Heap) (locs : List Loc), pt ev H b (oC 0 [.int (cls0 cn), .ref (b + 1), .ref (b + 42), .null, .null, .null, .int 0, .int 0, .int 0, .long 0]) → H.size = b + 43 + i → (∀ q : Nat, q < b → H[q]? = H0[q]?) → xR ev b (fun _ => r0) H → iT ev 4 12 2 (b + 43) i (aaV a0) H → (∀ q ∈ locs, b ≤ q.base) → i ≤ 12 → 12 - i < n → lv_has ls 3 [(0, .ref b), (2, .int (nI i))] → W p l e rm_X_init s m args below meth c H locs (42 + i) (332 + i * 4) QQ (F0 m 65 ls []) := by
          intro n
          induction n with
          | zero => intro i ls H locs _ _ _ _ _ _ h2 h3; exact absurd h3 (by omega)
          | succ n ih =>
            intro i ls H locs ho hz fo hR hiT hL hle hlt9 hl
            refine lv_iload_n hx hb d_X_init_65 rfl (lv_at hl 1 rfl) ?_
            refine lv_bipush (v := 12) hx hb d_X_init_66 (by decide) ?_
            refine lv_icmp_ge (tgt := 90) hx hb d_X_init_68 (by decide) (fun c68 => ?_) (fun c68 => ?_)
            · have eA : i = 12 := Nat.le_antisymm hle (Nat.not_lt.mp (fun h => absurd c68 (nI_ge (b := 12) h (by decide))))
              subst eA
              have hx42 : xA ev b (fun _ => a0) H := ⟨fil_all hiT.1, fun j hj => hiT.2 j hj⟩
              refine lv_aload_n hx hb d_X_init_90 rfl (lv_at hl 0 rfl) ?_
              refine lv_bipush (v := 40) hx hb d_X_init_91 (by decide) ?_
              refine rz_newq (z := b + 55) (hz) hx hb hown (hts _ cl_X_36) (va_AO.use hK.2.2.2.2.2.2.2.2) hK.1 5 rfl (N' := 40) (by decide) rfl (by decide) (by show 42 + 12 + 1 ≤ 100; omega) (by show 332 + 12 * 4 + 40 ≤ 7065; omega) d_X_init_93 (fun H43 z44 o45 hat46 => ?_)
              have ho47 := pt_k ho (o45 b (by omega))
              have f48 : ∀ q : Nat, q < b → H43[q]? = H0[q]? := fun q hq => (o45 q (by omega)).trans (fo q hq)
              have ht49 := xR_k hR (fun q _ _ => o45 q (by omega))
              have ht50 := xA_k hx42 (fun q _ _ => o45 q (by omega))
              refine rw_putF hx hb hts in_X ck_X ok_X nm_X hown hK.1 ho47 rfl 3 (by decide) (hts _ fl_X_38) rfl hnm rfl (ok_X 3 (by decide)) rfl rfl (Nat.le_of_ble_eq_true rfl) (Nat.le_refl _) hL d_X_init_96 (fun H51 L52 z53 o54 hat55 hL56 => ?_)
              have s57 := z53.trans z44
              have f58 : ∀ q : Nat, q < b → H51[q]? = H0[q]? := fun q hq => (o54 q (by omega)).trans (f48 q hq)
              have ht59 := xR_k ht49 (fun q _ _ => o54 q (by omega))
              have ht60 := xA_k ht50 (fun q _ _ => o54 q (by omega))
              have ht61 := pt_k hat46 (o54 _ (by omega))
              refine lv_iconst (v := 0) hx hb d_X_init_99 (by decide) ?_
              refine lv_istore_n (lv' := [(2, .int 0), (0, .ref b)]) hx hb d_X_init_100 rfl hl (by decide) rfl (fun ls hl => ?_)
              have LPT : ∀ (n i : Nat) (ls : Array Slot) (H : Heap) (locs : List Loc), pt ev H b (oC 0 [.int (cls0 cn), .ref (b + 1), .ref (b + 42), .ref (b + 55), .null, .null, .int 0, .int 0, .int 0, .long 0]) → H.size = b + 56 + i → (∀ q : Nat, q < b → H[q]? = H0[q]?) → xR ev b (fun _ => r0) H → xA ev b (fun _ => a0) H → iT ev 5 40 5 (b + 56) i (ttV t0) H → (∀ q ∈ locs, b ≤ q.base) → i ≤ 40 → 40 - i < n → lv_has ls 3 [(0, .ref b), (2, .int (nI i))] → W p l e rm_X_init s m args below meth c H locs (55 + i) (420 + i * 4) QQ (F0 m 101 ls []) := by
                intro n
                induction n with
                | zero => intro i ls H locs _ _ _ _ _ _ _ h2 h3; exact absurd h3 (by omega)
                | succ n ih =>
                  intro i ls H locs ho hz fo hR hA hiT hL hle hlt9 hl
                  refine lv_iload_n hx hb d_X_init_101 rfl (lv_at hl 1 rfl) ?_
                  refine lv_bipush (v := 40) hx hb d_X_init_102 (by decide) ?_
                  refine lv_icmp_ge (tgt := 126) hx hb d_X_init_104 (by decide) (fun c104 => ?_) (fun c104 => ?_)
                  · have eT : i = 40 := Nat.le_antisymm hle (Nat.not_lt.mp (fun h => absurd c104 (nI_ge (b := 40) h (by decide))))
                    subst eT
                    have hx62 : xT ev b (fun _ => t0) H := ⟨fil_all hiT.1, fun j hj => hiT.2 j hj⟩
                    refine lv_aload_n hx hb d_X_init_126 rfl (lv_at hl 0 rfl) ?_
                    refine rz_new (z := b + 96) (hz) hx hb hts in_N ck_N ok_N hown (hts _ cl_X_43) (hts _ iv_N) (hts _ iz_N) hK.1 (ci := 1) rfl (fs := [.null, .int 0]) (by decide) (by show 55 + 40 + 1 ≤ 100; omega) (by show 420 + 40 * 4 + 2 ≤ 7065; omega) d_X_init_127 (fun H63 z64 o65 hat66 => ?_)
                    have ho67 := pt_k ho (o65 b (by omega))
                    have f68 : ∀ q : Nat, q < b → H63[q]? = H0[q]? := fun q hq => (o65 q (by omega)).trans (fo q hq)
                    have ht69 := xR_k hR (fun q _ _ => o65 q (by omega))
                    have ht70 := xA_k hA (fun q _ _ => o65 q (by omega))
                    have ht71 := xT_k hx62 (fun q _ _ => o65 q (by omega))
                    refine lv_dup hx hb d_X_init_130 rfl ?_
                    refine cl_d ((va_runIN (As := []) (rest := [.ref (b + 96), .ref b]) S (c_N_init hat66 z64) ⟨va_cnB 0 hts (tb_I in_N_init) rfl rfl rfl (KG_nq hK (q := (45, my_N_init)) (by simp [NQ])) (hts _ iz_N) (by decide +kernel) ⟨Nat.le_of_ble_eq_true rfl, Nat.le_of_ble_eq_true rfl⟩, rfl, hts _ im_N_init⟩ (cP_S (KG_ok _) hK) rfl rfl hl.1 rfl (lv_room (Nat.le_of_ble_eq_true rfl)) d_X_init_131 ⟨(by show 55 + 40 + 1 + 1 ≤ 100; omega), (by show 420 + 40 * 4 + 2 + 4920 ≤ 7065; omega)⟩).run) hL (fun z h => by have h : _ ≤ z := h; show b ≤ z; omega) (fun H72 L73 hp74 hL75 => ?_)
                    have o76 := hp74.2.2
                    have s77 := hp74.2.1
                    have ho78 := pt_k ho67 (o76 b (by omega))
                    have f79 : ∀ q : Nat, q < b → H72[q]? = H0[q]? := fun q hq => (o76 q (by omega)).trans (f68 q hq)
                    have ht80 := xR_k ht69 (fun q _ _ => o76 q (by omega))
                    have ht81 := xA_k ht70 (fun q _ _ => o76 q (by omega))
                    have ht82 := xT_k ht71 (fun q _ _ => o76 q (by omega))
                    refine rw_putF hx hb hts in_X ck_X ok_X nm_X hown hK.1 ho78 rfl 4 (by decide) (hts _ fl_X_46) rfl hnm rfl (ok_X 4 (by decide)) rfl rfl (Nat.le_of_ble_eq_true rfl) (Nat.le_refl _) hL75 d_X_init_134 (fun H83 L84 z85 o86 hat87 hL88 => ?_)
                    have s89 := z85.trans s77
                    have f90 : ∀ q : Nat, q < b → H83[q]? = H0[q]? := fun q hq => (o86 q (by omega)).trans (f79 q hq)
                    have ht91 := xR_k ht80 (fun q _ _ => o86 q (by omega))
                    have ht92 := xA_k ht81 (fun q _ _ => o86 q (by omega))
                    have ht93 := xT_k ht82 (fun q _ _ => o86 q (by omega))
                    have ht94 := xN_k hp74.1 (fun q _ _ => o86 q (by omega))
                    refine lv_aload_n hx hb d_X_init_137 rfl (lv_at hl 0 rfl) ?_
                    refine rz_new (z := b + 98) (s89) hx hb hts in_P ck_P ok_P hown (hts _ cl_X_50) (hts _ iv_P) (hts _ iz_P) hK.1 (ci := 3) rfl (fs := [.null, .null, .int 0]) (by decide) (by show 55 + 40 + 1 + 1 + 1 ≤ 100; omega) (by show 420 + 40 * 4 + 2 + 4920 + 3 ≤ 7065; omega) d_X_init_138 (fun H95 z96 o97 hat98 => ?_)
                    have ho99 := pt_k hat87 (o97 b (by omega))
                    have f100 : ∀ q : Nat, q < b → H95[q]? = H0[q]? := fun q hq => (o97 q (by omega)).trans (f90 q hq)
                    have ht101 := xR_k ht91 (fun q _ _ => o97 q (by omega))
                    have ht102 := xA_k ht92 (fun q _ _ => o97 q (by omega))
                    have ht103 := xT_k ht93 (fun q _ _ => o97 q (by omega))
                    have ht104 := xN_k ht94 (fun q _ _ => o97 q (by omega))
                    refine lv_dup hx hb d_X_init_141 rfl ?_
                    refine cl_d ((va_runIN (As := []) (rest := [.ref (b + 98), .ref b]) S (c_P_init hat98 z96) ⟨va_cnB 0 hts (tb_I in_P_init) rfl rfl rfl (KG_nq hK (q := (52, my_P_init)) (by simp [NQ])) (hts _ iz_P) (by decide +kernel) ⟨Nat.le_of_ble_eq_true rfl, Nat.le_of_ble_eq_true rfl⟩, rfl, hts _ im_P_init⟩ (cP_S (KG_ok _) hK) rfl rfl hl.1 rfl (lv_room (Nat.le_of_ble_eq_true rfl)) d_X_init_142 ⟨(by show 55 + 40 + 1 + 1 + 1 + 2 ≤ 100; omega), (by show 420 + 40 * 4 + 2 + 4920 + 3 + 1560 ≤ 7065; omega)⟩).run) hL88 (fun z h => by have h : _ ≤ z := h; show b ≤ z; omega) (fun H105 L106 hp107 hL108 => ?_)
                    have o109 := hp107.2.2
                    have s110 := hp107.2.1
                    have ho111 := pt_k ho99 (o109 b (by omega))
                    have f112 : ∀ q : Nat, q < b → H105[q]? = H0[q]? := fun q hq => (o109 q (by omega)).trans (f100 q hq)
                    have ht113 := xR_k ht101 (fun q _ _ => o109 q (by omega))
                    have ht114 := xA_k ht102 (fun q _ _ => o109 q (by omega))
                    have ht115 := xT_k ht103 (fun q _ _ => o109 q (by omega))
                    have ht116 := xN_k ht104 (fun q _ _ => o109 q (by omega))
                    refine rw_putF hx hb hts in_X ck_X ok_X nm_X hown hK.1 ho111 rfl 5 (by decide) (hts _ fl_X_53) rfl hnm rfl (ok_X 5 (by decide)) rfl rfl (Nat.le_of_ble_eq_true rfl) (Nat.le_refl _) hL108 d_X_init_145 (fun H117 L118 z119 o120 hat121 hL122 => ?_)
                    have s123 := z119.trans s110
                    have f124 : ∀ q : Nat, q < b → H117[q]? = H0[q]? := fun q hq => (o120 q (by omega)).trans (f112 q hq)
                    have ht125 := xR_k ht113 (fun q _ _ => o120 q (by omega))
                    have ht126 := xA_k ht114 (fun q _ _ => o120 q (by omega))
                    have ht127 := xT_k ht115 (fun q _ _ => o120 q (by omega))
                    have ht128 := xN_k ht116 (fun q _ _ => o120 q (by omega))
                    have ht129 := xP_k hp107.1 (fun q _ _ => o120 q (by omega))
                    exact rt_dv hQ hx hb hr hlk ⟨⟨⟨hat121, ht125, ht126, ht127, xB_0 cn⟩, ⟨_, KP_0 cn, ht128⟩, ht129, ⟨by omega, fun q hq => (f124 q (by omega)).trans (hO.2 q hq)⟩, hz0⟩, s123, f124⟩ hL122 (by omega) (by omega) d_X_init_148
                  · have hi : i < 40 := Nat.not_le.mp (fun h => c104 (nI_le (a := 40) h (by omega)))
                    refine lv_aload_n hx hb d_X_init_107 rfl (lv_at hl 0 rfl) ?_
                    refine rw_get hx hb hts in_X hown hK.1 ho rfl 3 (by decide) (hts _ fl_X_38) rfl d_X_init_108 ?_
                    refine lv_iload_n hx hb d_X_init_111 rfl (lv_at hl 1 rfl) ?_
                    refine rz_new (z := b + 56 + i) (hz) hx hb hts in_T ck_T ok_T hown (hts _ cl_X_36) (hts _ iv_T) (hts _ iz_T) hK.1 (ci := 5) rfl (fs := [.int 0, .int 0, .long 0, .long 0]) (by decide) (by show 55 + i + 1 ≤ 100; omega) (by show 420 + i * 4 + 4 ≤ 7065; omega) d_X_init_112 (fun H130 z131 o132 hat133 => ?_)
                    have ho134 := pt_k ho (o132 b (by omega))
                    have f135 : ∀ q : Nat, q < b → H130[q]? = H0[q]? := fun q hq => (o132 q (by omega)).trans (fo q hq)
                    have ht136 := xR_k hR (fun q _ _ => o132 q (by omega))
                    have ht137 := xA_k hA (fun q _ _ => o132 q (by omega))
                    have ht138 := iT_k hiT (fun q _ _ => o132 q (by omega)) (by omega)
                    refine lv_dup hx hb d_X_init_115 rfl ?_
                    refine cl_v ((va_runIN (As := []) (rest := [.ref (b + 56 + i), .int (nI i), .ref (b + 55)]) S (c_T_init (a := (b + 56 + i))) ⟨va_cnB 0 hts (tb_I in_T_init) rfl rfl rfl (KG_nq hK (q := (42, my_T_init)) (by simp [NQ])) (hts _ iz_T) (by decide +kernel) ⟨Nat.le_of_ble_eq_true rfl, Nat.le_of_ble_eq_true rfl⟩, rfl, hts _ im_T_init⟩ (cP_S (KG_ok _) hK) rfl rfl hl.1 rfl (lv_room (Nat.le_of_ble_eq_true rfl)) d_X_init_116 ⟨(by show 55 + i + 1 + 0 ≤ 100; omega), (by show 420 + i * 4 + 4 + 0 ≤ 7065; omega)⟩).run) ?_
                    refine rw_aast hx hb hK.1 5 5 ht138.1 rfl hat133 rfl i rfl hi (by decide) (by show b ≤ _; omega) hL d_X_init_119 (fun H139 L140 z141 o142 hat143 hL144 => ?_)
                    have s145 := z141.trans z131
                    have ht146 : iT ev 5 40 5 (b + 56) (i + 1) (ttV t0) H139 := ⟨by rw [← fil_s]; exact hat143, fun j hj => by
                        by_cases e9 : j = i
                        · subst e9; exact pt_k hat133 (o142 _ (by omega))
                        · exact pt_k (ht138.2 j (by omega)) (o142 _ (by omega))⟩
                    have ho147 := pt_k ho134 (o142 b (by omega))
                    have f148 : ∀ q : Nat, q < b → H139[q]? = H0[q]? := fun q hq => (o142 q (by omega)).trans (f135 q hq)
                    have ht149 := xR_k ht136 (fun q _ _ => o142 q (by omega))
                    have ht150 := xA_k ht137 (fun q _ _ => o142 q (by omega))
                    refine lv_iinc (v := (nI (i + 1))) (lv' := [(2, .int (nI (i + 1))), (0, .ref b)]) hx hb d_X_init_120 hl (k := 1) rfl ((nI_1 i)) (by decide) rfl (fun ls hl => ?_)
                    refine lv_goto (tgt := 101) hx hb d_X_init_123 (by decide) ?_
                    exact W.widen (k := 55 + (i + 1)) (n := 420 + (i + 1) * 4) (by omega) (by omega) (ih (i + 1) ls _ _ ho147 s145 f148 ht149 ht150 ht146 hL144 (by omega) (by omega) (lv_sub hl [1, 0] rfl))
              exact W.widen (k := 55 + 0) (n := 420 + 0 * 4) (by omega) (by omega) (LPT _ 0 ls _ _ hat55 s57 f58 ht59 ht60 ⟨ht61, fun j hj => absurd hj (by omega)⟩ hL56 (Nat.zero_le _) (Nat.lt_succ_self _) (lv_sub hl [1, 0] rfl))
            · have hi : i < 12 := Nat.not_le.mp (fun h => c68 (nI_le (a := 12) h (by omega)))
              refine lv_aload_n hx hb d_X_init_71 rfl (lv_at hl 0 rfl) ?_
              refine rw_get hx hb hts in_X hown hK.1 ho rfl 2 (by decide) (hts _ fl_X_31) rfl d_X_init_72 ?_
              refine lv_iload_n hx hb d_X_init_75 rfl (lv_at hl 1 rfl) ?_
              refine rz_new (z := b + 43 + i) (hz) hx hb hts in_A ck_A ok_A hown (hts _ cl_X_29) (hts _ iv_A) (hts _ iz_A) hK.1 (ci := 2) rfl (fs := [.long 0, .long 0, .long 0, .long 0]) (by decide) (by show 42 + i + 1 ≤ 100; omega) (by show 332 + i * 4 + 4 ≤ 7065; omega) d_X_init_76 (fun H151 z152 o153 hat154 => ?_)
              have ho155 := pt_k ho (o153 b (by omega))
              have f156 : ∀ q : Nat, q < b → H151[q]? = H0[q]? := fun q hq => (o153 q (by omega)).trans (fo q hq)
              have ht157 := xR_k hR (fun q _ _ => o153 q (by omega))
              have ht158 := iT_k hiT (fun q _ _ => o153 q (by omega)) (by omega)
              refine lv_dup hx hb d_X_init_79 rfl ?_
              refine cl_v ((va_runIN (As := []) (rest := [.ref (b + 43 + i), .int (nI i), .ref (b + 42)]) S (c_A_init (a := (b + 43 + i))) ⟨va_cnB 0 hts (tb_I in_A_init) rfl rfl rfl (KG_nq hK (q := (35, my_A_init)) (by simp [NQ])) (hts _ iz_A) (by decide +kernel) ⟨Nat.le_of_ble_eq_true rfl, Nat.le_of_ble_eq_true rfl⟩, rfl, hts _ im_A_init⟩ (cP_S (KG_ok _) hK) rfl rfl hl.1 rfl (lv_room (Nat.le_of_ble_eq_true rfl)) d_X_init_80 ⟨(by show 42 + i + 1 + 0 ≤ 100; omega), (by show 332 + i * 4 + 4 + 0 ≤ 7065; omega)⟩).run) ?_
              refine rw_aast hx hb hK.1 4 2 ht158.1 rfl hat154 rfl i rfl hi (by decide) (by show b ≤ _; omega) hL d_X_init_83 (fun H159 L160 z161 o162 hat163 hL164 => ?_)
              have s165 := z161.trans z152
              have ht166 : iT ev 4 12 2 (b + 43) (i + 1) (aaV a0) H159 := ⟨by rw [← fil_s]; exact hat163, fun j hj => by
                  by_cases e9 : j = i
                  · subst e9; exact pt_k hat154 (o162 _ (by omega))
                  · exact pt_k (ht158.2 j (by omega)) (o162 _ (by omega))⟩
              have ho167 := pt_k ho155 (o162 b (by omega))
              have f168 : ∀ q : Nat, q < b → H159[q]? = H0[q]? := fun q hq => (o162 q (by omega)).trans (f156 q hq)
              have ht169 := xR_k ht157 (fun q _ _ => o162 q (by omega))
              refine lv_iinc (v := (nI (i + 1))) (lv' := [(2, .int (nI (i + 1))), (0, .ref b)]) hx hb d_X_init_84 hl (k := 1) rfl ((nI_1 i)) (by decide) rfl (fun ls hl => ?_)
              refine lv_goto (tgt := 65) hx hb d_X_init_87 (by decide) ?_
              exact W.widen (k := 42 + (i + 1)) (n := 332 + (i + 1) * 4) (by omega) (by omega) (ih (i + 1) ls _ _ ho167 s165 f168 ht169 ht166 hL164 (by omega) (by omega) (lv_sub hl [1, 0] rfl))
        exact W.widen (k := 42 + 0) (n := 332 + 0 * 4) (by omega) (by omega) (LPA _ 0 ls _ _ hat36 s38 f39 ht40 ⟨ht41, fun j hj => absurd hj (by omega)⟩ hL37 (Nat.zero_le _) (Nat.lt_succ_self _) (lv_sub hl [1, 0] rfl))
      · have hi : i < 40 := Nat.not_le.mp (fun h => c32 (nI_le (a := 40) h (by omega)))
        refine lv_aload_n hx hb d_X_init_35 rfl (lv_at hl 0 rfl) ?_
        refine rw_get hx hb hts in_X hown hK.1 ho rfl 1 (by decide) (hts _ fl_X_24) rfl d_X_init_36 ?_
        refine lv_iload_n hx hb d_X_init_39 rfl (lv_at hl 1 rfl) ?_
        refine rz_new (z := b + 2 + i) (hz) hx hb hts in_R ck_R ok_R hown (hts _ cl_X_22) (hts _ iv_R) (hts _ iz_R) hK.1 (ci := 4) rfl (fs := [.int 0, .int 0, .int 0, .int 0, .long 0, .int 0, .int 0]) (by decide) (by show 1 + i + 1 ≤ 100; omega) (by show 40 + i * 7 + 7 ≤ 7065; omega) d_X_init_40 (fun H170 z171 o172 hat173 => ?_)
        have ho174 := pt_k ho (o172 b (by omega))
        have f175 : ∀ q : Nat, q < b → H170[q]? = H0[q]? := fun q hq => (o172 q (by omega)).trans (fo q hq)
        have ht176 := iT_k hiT (fun q _ _ => o172 q (by omega)) (by omega)
        refine lv_dup hx hb d_X_init_43 rfl ?_
        refine cl_d ((va_runIN (As := []) (rest := [.ref (b + 2 + i), .int (nI i), .ref (b + 1)]) S (c_R_init hat173) ⟨va_cnB 0 hts (tb_I in_R_init) rfl rfl rfl (KG_nq hK (q := (28, my_R_init)) (by simp [NQ])) (hts _ iz_R) (by decide +kernel) ⟨Nat.le_of_ble_eq_true rfl, Nat.le_of_ble_eq_true rfl⟩, rfl, hts _ im_R_init⟩ (cP_S (KG_ok _) hK) rfl rfl hl.1 rfl (lv_room (Nat.le_of_ble_eq_true rfl)) d_X_init_44 ⟨(by show 1 + i + 1 + 0 ≤ 100; omega), (by show 40 + i * 7 + 7 + 0 ≤ 7065; omega)⟩).run) hL (fun z h => by have h : _ ≤ z := h; show b ≤ z; omega) (fun H177 L178 hp179 hL180 => ?_)
        have s181 := hp179.2.1.trans z171
        have hBr := hp179.2
        have o182 : ∀ q : Nat, q < (b + 2 + i) → H177[q]? = _ := fun q hq => hBr.2 q (Or.inl hq)
        have ho183 := pt_k ho174 (o182 b (by omega))
        have f184 : ∀ q : Nat, q < b → H177[q]? = H0[q]? := fun q hq => (o182 q (by omega)).trans (f175 q hq)
        have ht185 := iT_k ht176 (fun q _ _ => o182 q (by omega)) (by omega)
        refine rw_aast hx hb hK.1 3 4 ht185.1 rfl hp179.1 rfl i rfl hi (by decide) (by show b ≤ _; omega) hL180 d_X_init_47 (fun H186 L187 z188 o189 hat190 hL191 => ?_)
        have s192 := z188.trans s181
        have ht193 : iT ev 3 40 4 (b + 2) (i + 1) (ruV r0) H186 := ⟨by rw [← fil_s]; exact hat190, fun j hj => by
            by_cases e9 : j = i
            · subst e9; exact pt_k hp179.1 (o189 _ (by omega))
            · exact pt_k (ht185.2 j (by omega)) (o189 _ (by omega))⟩
        have ho194 := pt_k ho183 (o189 b (by omega))
        have f195 : ∀ q : Nat, q < b → H186[q]? = H0[q]? := fun q hq => (o189 q (by omega)).trans (f184 q hq)
        refine lv_iinc (v := (nI (i + 1))) (lv' := [(2, .int (nI (i + 1))), (0, .ref b)]) hx hb d_X_init_48 hl (k := 1) rfl ((nI_1 i)) (by decide) rfl (fun ls hl => ?_)
        refine lv_goto (tgt := 29) hx hb d_X_init_51 (by decide) ?_
        exact W.widen (k := 1 + (i + 1)) (n := 40 + (i + 1) * 7) (by omega) (by omega) (ih (i + 1) ls _ _ ho194 s192 f195  ht193 hL191 (by omega) (by omega) (lv_sub hl [1, 0] rfl))
  exact W.widen (k := 1 + 0) (n := 40 + 0 * 7) (by omega) (by omega) (LPR _ 0 ls _ _ hat19 s21 f22  ⟨ht23, fun j hj => absurd hj (by omega)⟩ hL20 (Nat.zero_le _) (Nat.lt_succ_self _) (lv_sub hl [1, 0] rfl))
