set_option maxRecDepth 100000 in
set_option maxHeartbeats 4000000 in
theorem lk_rule {p : Program} {l : Launch} {e : Env} {s : State} {m : MethodId} {below : List Frame} {meth : Method} {c : Code} {ev : EV} {QQ : State → Prop} {q0 L b i C Sl : Nat} {xs : Nat → Int32} {th : Int32} {u : XS} {kp : KT} {v : PT} {f : Nat → Int64} {H : Heap} {locs : List Loc} {ls : Array Slot} (S : CallFix p m c code 8 s #[Value.ref q0] TB "RuleChoiceLaw") (hK : KG ev s) (hT : l.stackTraces = false) (hX : va_X q0 L xs s (evH ev)) (hq : q0 < (evH ev).size) (hLL : L ≤ 4609) (hi9 : i + 9 ≤ L) (hC : C + 5 ≤ 601024) (hSl : Sl + 30 ≤ 7293000) (hf : XF ev b u kp v H) (hm : MW ev (b + 101) th u kp v H) (ho : pt ev H (b + 117) (aL ev 1 f)) (hL : ∀ z ∈ locs, (evH ev).size ≤ z.base) (K9 : ∀ (th1 : Int32) (u1 : XS) (kp1 : KT) (v1 : PT) (f1 : Nat → Int64) (H1 : Heap) (locs1 : List Loc) (ls1 : Array Slot), XF ev b u1 kp1 v1 H1 → MW ev (b + 101) th1 u1 kp1 v1 H1 → pt ev H1 (b + 117) (aL ev 1 f1) → (∀ z ∈ locs1, (evH ev).size ≤ z.base) → lv_has ls1 8 [(0, .ref q0), (1, .ref b), (2, .ref (b + 101)), (3, .ref (b + 117)), (4, .int (nI i))] → W p l e room_1 s m #[Value.ref q0] below meth c H1 locs1 (C + 5) (Sl + 30) QQ (F0 m 1599 ls1 [])) (hl : lv_has ls 8 [(0, .ref q0), (1, .ref b), (2, .ref (b + 101)), (3, .ref (b + 117)), (4, .int (nI i))]) : W p l e room_1 s m #[Value.ref q0] below meth c H locs C Sl QQ (F0 m 128 ls []) := by
  obtain ⟨hx, hb, hml, hown, hts⟩ := id S
  refine lv_aload_n hx hb d_L_law_128 rfl (lv_at hl 1 rfl) ?_
  refine lv_aload_n hx hb d_L_law_129 rfl (lv_at hl 0 rfl) ?_
  refine lv_iload hx hb d_L_law_130 (lv_at hl 4 rfl) ?_
  refine lv_iconst (v := 1) hx hb d_L_law_132 (by decide) ?_
  refine lv_iadd hx hb d_L_law_133 ?_
  refine rw_sld hx hb hX hq hf.2.2.2.1 hLL (i + 1) (nI_add i 1) (by omega) d_L_law_134 ?_
  refine lv_aload_n hx hb d_L_law_135 rfl (lv_at hl 0 rfl) ?_
  refine lv_iload hx hb d_L_law_136 (lv_at hl 4 rfl) ?_
  refine lv_iconst (v := 2) hx hb d_L_law_138 (by decide) ?_
  refine lv_iadd hx hb d_L_law_139 ?_
  refine rw_sld hx hb hX hq hf.2.2.2.1 hLL (i + 2) (nI_add i 2) (by omega) d_L_law_140 ?_
  refine lv_aload_n hx hb d_L_law_141 rfl (lv_at hl 0 rfl) ?_
  refine lv_iload hx hb d_L_law_142 (lv_at hl 4 rfl) ?_
  refine lv_iconst (v := 3) hx hb d_L_law_144 (by decide) ?_
  refine lv_iadd hx hb d_L_law_145 ?_
  refine rw_sld hx hb hX hq hf.2.2.2.1 hLL (i + 3) (nI_add i 3) (by omega) d_L_law_146 ?_
  refine lv_aload_n hx hb d_L_law_147 rfl (lv_at hl 0 rfl) ?_
  refine lv_iload hx hb d_L_law_148 (lv_at hl 4 rfl) ?_
  refine lv_iconst (v := 4) hx hb d_L_law_150 (by decide) ?_
  refine lv_iadd hx hb d_L_law_151 ?_
  refine rw_sld hx hb hX hq hf.2.2.2.1 hLL (i + 4) (nI_add i 4) (by omega) d_L_law_152 ?_
  refine lv_aload_n hx hb d_L_law_153 rfl (lv_at hl 0 rfl) ?_
  refine lv_iload hx hb d_L_law_154 (lv_at hl 4 rfl) ?_
  refine lv_iconst (v := 5) hx hb d_L_law_156 (by decide) ?_
  refine lv_iadd hx hb d_L_law_157 ?_
  refine rw_sld hx hb hX hq hf.2.2.2.1 hLL (i + 5) (nI_add i 5) (by omega) d_L_law_158 ?_
  refine lv_i2l (v := (xs (i + 5)).toInt64) hx hb d_L_law_159 rfl ?_
  refine lv_bipush (v := 32) hx hb d_L_law_160 (by decide) ?_
  refine lv_lshl (v := (((xs (i + 5)).toInt64) <<< ((32 : Int32).toInt64 &&& 63))) hx hb d_L_law_162 rfl ?_
  refine lv_aload_n hx hb d_L_law_163 rfl (lv_at hl 0 rfl) ?_
  refine lv_iload hx hb d_L_law_164 (lv_at hl 4 rfl) ?_
  refine lv_bipush (v := 6) hx hb d_L_law_166 (by decide) ?_
  refine lv_iadd hx hb d_L_law_168 ?_
  refine rw_sld hx hb hX hq hf.2.2.2.1 hLL (i + 6) (nI_add i 6) (by omega) d_L_law_169 ?_
  refine lv_i2l (v := (xs (i + 6)).toInt64) hx hb d_L_law_170 rfl ?_
  refine lv_ldc2 (v := 4294967295) hx hb hown (hts _ kl_L_79) d_L_law_171 ?_
  refine lv_land hx hb d_L_law_174 ?_
  refine lv_lor hx hb d_L_law_175 ?_
  refine tp_l (y := (lo2 (xs (i + 5)) (xs (i + 6)))) rfl ?_
  refine lv_aload_n hx hb d_L_law_176 rfl (lv_at hl 3 rfl) ?_
  refine cl_eW (A := (fun z => (evH ev).size ≤ z)) (vx_runSW (As := [.ref b, .int (xs (i + 1)), .int (xs (i + 2)), .int (xs (i + 3)), .int (xs (i + 4)), .long (lo2 (xs (i + 5)) (xs (i + 6))), .ref (b + 117)]) (rest := []) S (c_L_rule hT hf ho (by omega) (xs (i + 1)) (xs (i + 2)) (xs (i + 3)) (xs (i + 4)) (lo2 (xs (i + 5)) (xs (i + 6)))) (vx_cwSW 7 hts gs_L_81 rfl rfl rfl (by decide +kernel) ⟨Nat.le_of_ble_eq_true rfl, Nat.le_of_ble_eq_true rfl⟩) (cP_S (KG_ok _) hK) rfl rfl hl.1 rfl (lv_room (Nat.le_of_ble_eq_true rfl)) d_L_law_177 ⟨by show _ ≤ 601024; omega, by show _ ≤ 7293000; omega⟩) hL (fun z h => Nat.le_trans hf.2.2.2.2 h) (fun r1 H1 L1 hp1 hL1 => ?_)
  obtain ⟨hp1, hF1⟩ := hp1
  have hm1 := MW_F hm ho hF1
  rcases hp1 with ⟨hok, rfl, hf1, ho1⟩ | ⟨hbad, rfl, hf1, ho1⟩ | ⟨hbad, rfl, hf1, ho1⟩
  · refine lv_istore (lv' := [(5, .int 0), (0, .ref q0), (1, .ref b), (2, .ref (b + 101)), (3, .ref (b + 117)), (4, .int (nI i))]) hx hb d_L_law_180 hl (by decide) rfl (fun ls hl => ?_)
    refine lv_aload_n hx hb d_L_law_182 rfl (lv_at hl 3 rfl) ?_
    refine lv_aload_n hx hb d_L_law_183 rfl (lv_at hl 1 rfl) ?_
    refine lv_iload hx hb d_L_law_184 (lv_at hl 5 rfl) ?_
    refine lv_iconst (v := 1) hx hb d_L_law_186 (by decide) ?_
    refine lv_iadd hx hb d_L_law_187 ?_
    refine rw_sld hx hb hX hq hf1.2.2.2.1 hLL (i + 1) (nI_add i 1) (by omega) d_L_law_188 ?_
    refine lv_aload_n hx hb d_L_law_189 rfl (lv_at hl 1 rfl) ?_
    refine lv_iload hx hb d_L_law_190 (lv_at hl 5 rfl) ?_
    refine lv_iconst (v := 2) hx hb d_L_law_192 (by decide) ?_
    refine lv_iadd hx hb d_L_law_193 ?_
    refine rw_sld hx hb hX hq hf1.2.2.2.1 hLL (i + 2) (nI_add i 2) (by omega) d_L_law_194 ?_
    refine lv_aload_n hx hb d_L_law_195 rfl (lv_at hl 1 rfl) ?_
    refine lv_iload hx hb d_L_law_196 (lv_at hl 5 rfl) ?_
    refine lv_iconst (v := 3) hx hb d_L_law_198 (by decide) ?_
    refine lv_iadd hx hb d_L_law_199 ?_
    refine rw_sld hx hb hX hq hf1.2.2.2.1 hLL (i + 3) (nI_add i 3) (by omega) d_L_law_200 ?_
    refine lv_aload_n hx hb d_L_law_201 rfl (lv_at hl 1 rfl) ?_
    refine lv_iload hx hb d_L_law_202 (lv_at hl 5 rfl) ?_
    refine lv_iconst (v := 4) hx hb d_L_law_204 (by decide) ?_
    refine lv_iadd hx hb d_L_law_205 ?_
    refine rw_sld hx hb hX hq hf1.2.2.2.1 hLL (i + 4) (nI_add i 4) (by omega) d_L_law_206 ?_
    refine lv_aload_n hx hb d_L_law_207 rfl (lv_at hl 1 rfl) ?_
    refine lv_iload hx hb d_L_law_208 (lv_at hl 5 rfl) ?_
    refine lv_iconst (v := 5) hx hb d_L_law_210 (by decide) ?_
    refine lv_iadd hx hb d_L_law_211 ?_
    refine rw_sld hx hb hX hq hf1.2.2.2.1 hLL (i + 5) (nI_add i 5) (by omega) d_L_law_212 ?_
    refine lv_i2l (v := (xs (i + 5)).toInt64) hx hb d_L_law_213 rfl ?_
    refine lv_bipush (v := 32) hx hb d_L_law_214 (by decide) ?_
    refine lv_lshl (v := (((xs (i + 5)).toInt64) <<< ((32 : Int32).toInt64 &&& 63))) hx hb d_L_law_216 rfl ?_
    refine lv_aload_n hx hb d_L_law_217 rfl (lv_at hl 1 rfl) ?_
    refine lv_iload hx hb d_L_law_218 (lv_at hl 5 rfl) ?_
    refine lv_bipush (v := 6) hx hb d_L_law_220 (by decide) ?_
    refine lv_iadd hx hb d_L_law_222 ?_
    refine rw_sld hx hb hX hq hf1.2.2.2.1 hLL (i + 6) (nI_add i 6) (by omega) d_L_law_223 ?_
    refine lv_i2l (v := (xs (i + 6)).toInt64) hx hb d_L_law_224 rfl ?_
    refine lv_ldc2 (v := 4294967295) hx hb hown (hts _ kl_L_79) d_L_law_225 ?_
    refine lv_land hx hb d_L_law_228 ?_
    refine lv_lor hx hb d_L_law_229 ?_
    refine tp_l (y := (lo2 (xs (i + 5)) (xs (i + 6)))) rfl ?_
    refine cl_e (A := (fun z => (evH ev).size ≤ z)) (W.runV (As := [.int (xs (i + 1)), .int (xs (i + 2)), .int (xs (i + 3)), .int (xs (i + 4)), .long (lo2 (xs (i + 5)) (xs (i + 6)))]) (rest := []) S (c_M_rule hm1 (xs (i + 1)) (xs (i + 2)) (xs (i + 3)) (xs (i + 4)) (lo2 (xs (i + 5)) (xs (i + 6)))) (cwV 5 hts gv_L_84 rfl rfl rfl (by decide +kernel) ⟨Nat.le_of_ble_eq_true rfl, Nat.le_of_ble_eq_true rfl⟩) (cP_V (KG_ok _) hK hK.1 hm1.1 rfl) rfl rfl hl.1 rfl (lv_room (Nat.le_of_ble_eq_true rfl)) d_L_law_230 ⟨by show _ ≤ 601024; omega, by show _ ≤ 7293000; omega⟩) hL1 (fun z h => by have h9 := hf.2.2.2.2; omega) (fun r2 H2 L2 hp2 hL2 => ?_)
    obtain ⟨hp2, hB2⟩ := hp2
    obtain ⟨e8, hm2⟩ : r2 = .int (if u.1.2.1 < 40 then nI u.1.2.1 else -1) ∧ MW ev (b + 101) 0 (rulU u (xs (i + 1)) (xs (i + 2)) (xs (i + 3)) (xs (i + 4)) (lo2 (xs (i + 5)) (xs (i + 6)))) (rulK u kp (xs (i + 1))) v H2 := by
      rcases hp2 with ⟨g, e9, h9⟩ | ⟨g, e9, h9⟩ | ⟨g, e9, h9⟩
      · exact ⟨e9, h9⟩
      · exact (g hok.1).elim
      · exact (g.2 hok.2).elim
    subst e8
    have hf2 := XF_B hf1 hB2
    have ho2 := pt_k ho1 (hB2.2 _ (by omega))
    refine lv_istore (lv' := [(6, .int (if u.1.2.1 < 40 then nI u.1.2.1 else -1)), (5, .int 0), (0, .ref q0), (1, .ref b), (2, .ref (b + 101)), (3, .ref (b + 117)), (4, .int (nI i))]) hx hb d_L_law_233 hl (by decide) rfl (fun ls hl => ?_)
    refine lv_aload_n hx hb d_L_law_235 rfl (lv_at hl 4 rfl) ?_
    refine cl_i (W.runV (As := []) (rest := []) S (c_M_thrown hm2.1) (cwV 0 hts gv_L_85 rfl rfl rfl (by decide +kernel) ⟨Nat.le_of_ble_eq_true rfl, Nat.le_of_ble_eq_true rfl⟩) (cP_V (KG_ok _) hK hK.1 hm2.1 rfl) rfl rfl hl.1 rfl (lv_room (Nat.le_of_ble_eq_true rfl)) d_L_law_236 ⟨by show _ ≤ 601024; omega, by show _ ≤ 7293000; omega⟩) ?_
    refine lv_iload hx hb d_L_law_239 (lv_at hl 1 rfl) ?_
    refine lv_icmp_eq (tgt := 246) hx hb d_L_law_241 (by decide) (fun _ => ?_) (fun c9 => absurd rfl c9)
    refine lv_iload hx hb d_L_law_246 (lv_at hl 1 rfl) ?_
    refine lv_if_ne (tgt := 263) hx hb d_L_law_248 (by decide) (fun c248 => ?_) (fun c248 => ?_)
    · exact absurd c248 (by decide)
    · refine lv_aload_n hx hb d_L_law_251 rfl (lv_at hl 5 rfl) ?_
      refine lv_iconst (v := 0) hx hb d_L_law_252 (by decide) ?_
      refine rw_lald hx hb hK.1 1 ho2 rfl 0 rfl (by decide) (by decide) d_L_law_253 ?_
      refine tp_l (y := (if u.1.2.1 < 40 then nI u.1.2.1 else -1).toInt64) pk_uLs ?_
      refine lv_iload hx hb d_L_law_254 (lv_at hl 0 rfl) ?_
      refine lv_i2l (v := (if u.1.2.1 < 40 then nI u.1.2.1 else -1).toInt64) hx hb d_L_law_256 rfl ?_
      refine ll_eq (tgt := 263) hx hb d_L_law_257 d_L_law_258 (by decide) (fun _ => ?_) (fun c9 => absurd rfl c9)
      refine lv_goto (tgt := 1599) hx hb d_L_law_263 (by decide) ?_
      exact W.widen (by omega) (by omega) (K9 _ _ _ _ _ _ _ ls hf2 hm2 ho2 hL2 (lv_sub hl [2, 3, 4, 5, 6] rfl))
  · refine lv_istore (lv' := [(5, .int 1), (0, .ref q0), (1, .ref b), (2, .ref (b + 101)), (3, .ref (b + 117)), (4, .int (nI i))]) hx hb d_L_law_180 hl (by decide) rfl (fun ls hl => ?_)
    refine lv_aload_n hx hb d_L_law_182 rfl (lv_at hl 3 rfl) ?_
    refine lv_aload_n hx hb d_L_law_183 rfl (lv_at hl 1 rfl) ?_
    refine lv_iload hx hb d_L_law_184 (lv_at hl 5 rfl) ?_
    refine lv_iconst (v := 1) hx hb d_L_law_186 (by decide) ?_
    refine lv_iadd hx hb d_L_law_187 ?_
    refine rw_sld hx hb hX hq hf1.2.2.2.1 hLL (i + 1) (nI_add i 1) (by omega) d_L_law_188 ?_
    refine lv_aload_n hx hb d_L_law_189 rfl (lv_at hl 1 rfl) ?_
    refine lv_iload hx hb d_L_law_190 (lv_at hl 5 rfl) ?_
    refine lv_iconst (v := 2) hx hb d_L_law_192 (by decide) ?_
    refine lv_iadd hx hb d_L_law_193 ?_
    refine rw_sld hx hb hX hq hf1.2.2.2.1 hLL (i + 2) (nI_add i 2) (by omega) d_L_law_194 ?_
    refine lv_aload_n hx hb d_L_law_195 rfl (lv_at hl 1 rfl) ?_
    refine lv_iload hx hb d_L_law_196 (lv_at hl 5 rfl) ?_
    refine lv_iconst (v := 3) hx hb d_L_law_198 (by decide) ?_
    refine lv_iadd hx hb d_L_law_199 ?_
    refine rw_sld hx hb hX hq hf1.2.2.2.1 hLL (i + 3) (nI_add i 3) (by omega) d_L_law_200 ?_
    refine lv_aload_n hx hb d_L_law_201 rfl (lv_at hl 1 rfl) ?_
    refine lv_iload hx hb d_L_law_202 (lv_at hl 5 rfl) ?_
    refine lv_iconst (v := 4) hx hb d_L_law_204 (by decide) ?_
    refine lv_iadd hx hb d_L_law_205 ?_
    refine rw_sld hx hb hX hq hf1.2.2.2.1 hLL (i + 4) (nI_add i 4) (by omega) d_L_law_206 ?_
    refine lv_aload_n hx hb d_L_law_207 rfl (lv_at hl 1 rfl) ?_
    refine lv_iload hx hb d_L_law_208 (lv_at hl 5 rfl) ?_
    refine lv_iconst (v := 5) hx hb d_L_law_210 (by decide) ?_
    refine lv_iadd hx hb d_L_law_211 ?_
    refine rw_sld hx hb hX hq hf1.2.2.2.1 hLL (i + 5) (nI_add i 5) (by omega) d_L_law_212 ?_
    refine lv_i2l (v := (xs (i + 5)).toInt64) hx hb d_L_law_213 rfl ?_
    refine lv_bipush (v := 32) hx hb d_L_law_214 (by decide) ?_
    refine lv_lshl (v := (((xs (i + 5)).toInt64) <<< ((32 : Int32).toInt64 &&& 63))) hx hb d_L_law_216 rfl ?_
    refine lv_aload_n hx hb d_L_law_217 rfl (lv_at hl 1 rfl) ?_
    refine lv_iload hx hb d_L_law_218 (lv_at hl 5 rfl) ?_
    refine lv_bipush (v := 6) hx hb d_L_law_220 (by decide) ?_
    refine lv_iadd hx hb d_L_law_222 ?_
    refine rw_sld hx hb hX hq hf1.2.2.2.1 hLL (i + 6) (nI_add i 6) (by omega) d_L_law_223 ?_
    refine lv_i2l (v := (xs (i + 6)).toInt64) hx hb d_L_law_224 rfl ?_
    refine lv_ldc2 (v := 4294967295) hx hb hown (hts _ kl_L_79) d_L_law_225 ?_
    refine lv_land hx hb d_L_law_228 ?_
    refine lv_lor hx hb d_L_law_229 ?_
    refine tp_l (y := (lo2 (xs (i + 5)) (xs (i + 6)))) rfl ?_
    refine cl_e (A := (fun z => (evH ev).size ≤ z)) (W.runV (As := [.int (xs (i + 1)), .int (xs (i + 2)), .int (xs (i + 3)), .int (xs (i + 4)), .long (lo2 (xs (i + 5)) (xs (i + 6)))]) (rest := []) S (c_M_rule hm1 (xs (i + 1)) (xs (i + 2)) (xs (i + 3)) (xs (i + 4)) (lo2 (xs (i + 5)) (xs (i + 6)))) (cwV 5 hts gv_L_84 rfl rfl rfl (by decide +kernel) ⟨Nat.le_of_ble_eq_true rfl, Nat.le_of_ble_eq_true rfl⟩) (cP_V (KG_ok _) hK hK.1 hm1.1 rfl) rfl rfl hl.1 rfl (lv_room (Nat.le_of_ble_eq_true rfl)) d_L_law_230 ⟨by show _ ≤ 601024; omega, by show _ ≤ 7293000; omega⟩) hL1 (fun z h => by have h9 := hf.2.2.2.2; omega) (fun r2 H2 L2 hp2 hL2 => ?_)
    obtain ⟨hp2, hB2⟩ := hp2
    obtain ⟨e8, hm2⟩ : r2 = .int 0 ∧ MW ev (b + 101) 1 u kp v H2 := by
      rcases hp2 with ⟨g, e9, h9⟩ | ⟨g, e9, h9⟩ | ⟨g, e9, h9⟩
      · exact (hbad g.1).elim
      · exact ⟨e9, h9⟩
      · exact (hbad g.1).elim
    subst e8
    have hf2 := XF_B hf1 hB2
    have ho2 := pt_k ho1 (hB2.2 _ (by omega))
    refine lv_istore (lv' := [(6, .int 0), (5, .int 1), (0, .ref q0), (1, .ref b), (2, .ref (b + 101)), (3, .ref (b + 117)), (4, .int (nI i))]) hx hb d_L_law_233 hl (by decide) rfl (fun ls hl => ?_)
    refine lv_aload_n hx hb d_L_law_235 rfl (lv_at hl 4 rfl) ?_
    refine cl_i (W.runV (As := []) (rest := []) S (c_M_thrown hm2.1) (cwV 0 hts gv_L_85 rfl rfl rfl (by decide +kernel) ⟨Nat.le_of_ble_eq_true rfl, Nat.le_of_ble_eq_true rfl⟩) (cP_V (KG_ok _) hK hK.1 hm2.1 rfl) rfl rfl hl.1 rfl (lv_room (Nat.le_of_ble_eq_true rfl)) d_L_law_236 ⟨by show _ ≤ 601024; omega, by show _ ≤ 7293000; omega⟩) ?_
    refine lv_iload hx hb d_L_law_239 (lv_at hl 1 rfl) ?_
    refine lv_icmp_eq (tgt := 246) hx hb d_L_law_241 (by decide) (fun _ => ?_) (fun c9 => absurd rfl c9)
    refine lv_iload hx hb d_L_law_246 (lv_at hl 1 rfl) ?_
    refine lv_if_ne (tgt := 263) hx hb d_L_law_248 (by decide) (fun c248 => ?_) (fun c248 => ?_)
    · refine lv_goto (tgt := 1599) hx hb d_L_law_263 (by decide) ?_
      exact W.widen (by omega) (by omega) (K9 _ _ _ _ _ _ _ ls hf2 hm2 ho2 hL2 (lv_sub hl [2, 3, 4, 5, 6] rfl))
    · exact absurd c248 (by decide)
  · refine lv_istore (lv' := [(5, .int 2), (0, .ref q0), (1, .ref b), (2, .ref (b + 101)), (3, .ref (b + 117)), (4, .int (nI i))]) hx hb d_L_law_180 hl (by decide) rfl (fun ls hl => ?_)
    refine lv_aload_n hx hb d_L_law_182 rfl (lv_at hl 3 rfl) ?_
    refine lv_aload_n hx hb d_L_law_183 rfl (lv_at hl 1 rfl) ?_
    refine lv_iload hx hb d_L_law_184 (lv_at hl 5 rfl) ?_
    refine lv_iconst (v := 1) hx hb d_L_law_186 (by decide) ?_
    refine lv_iadd hx hb d_L_law_187 ?_
    refine rw_sld hx hb hX hq hf1.2.2.2.1 hLL (i + 1) (nI_add i 1) (by omega) d_L_law_188 ?_
    refine lv_aload_n hx hb d_L_law_189 rfl (lv_at hl 1 rfl) ?_
    refine lv_iload hx hb d_L_law_190 (lv_at hl 5 rfl) ?_
    refine lv_iconst (v := 2) hx hb d_L_law_192 (by decide) ?_
    refine lv_iadd hx hb d_L_law_193 ?_
    refine rw_sld hx hb hX hq hf1.2.2.2.1 hLL (i + 2) (nI_add i 2) (by omega) d_L_law_194 ?_
    refine lv_aload_n hx hb d_L_law_195 rfl (lv_at hl 1 rfl) ?_
    refine lv_iload hx hb d_L_law_196 (lv_at hl 5 rfl) ?_
    refine lv_iconst (v := 3) hx hb d_L_law_198 (by decide) ?_
    refine lv_iadd hx hb d_L_law_199 ?_
    refine rw_sld hx hb hX hq hf1.2.2.2.1 hLL (i + 3) (nI_add i 3) (by omega) d_L_law_200 ?_
    refine lv_aload_n hx hb d_L_law_201 rfl (lv_at hl 1 rfl) ?_
    refine lv_iload hx hb d_L_law_202 (lv_at hl 5 rfl) ?_
    refine lv_iconst (v := 4) hx hb d_L_law_204 (by decide) ?_
    refine lv_iadd hx hb d_L_law_205 ?_
    refine rw_sld hx hb hX hq hf1.2.2.2.1 hLL (i + 4) (nI_add i 4) (by omega) d_L_law_206 ?_
    refine lv_aload_n hx hb d_L_law_207 rfl (lv_at hl 1 rfl) ?_
    refine lv_iload hx hb d_L_law_208 (lv_at hl 5 rfl) ?_
    refine lv_iconst (v := 5) hx hb d_L_law_210 (by decide) ?_
    refine lv_iadd hx hb d_L_law_211 ?_
    refine rw_sld hx hb hX hq hf1.2.2.2.1 hLL (i + 5) (nI_add i 5) (by omega) d_L_law_212 ?_
    refine lv_i2l (v := (xs (i + 5)).toInt64) hx hb d_L_law_213 rfl ?_
    refine lv_bipush (v := 32) hx hb d_L_law_214 (by decide) ?_
    refine lv_lshl (v := (((xs (i + 5)).toInt64) <<< ((32 : Int32).toInt64 &&& 63))) hx hb d_L_law_216 rfl ?_
    refine lv_aload_n hx hb d_L_law_217 rfl (lv_at hl 1 rfl) ?_
    refine lv_iload hx hb d_L_law_218 (lv_at hl 5 rfl) ?_
    refine lv_bipush (v := 6) hx hb d_L_law_220 (by decide) ?_
    refine lv_iadd hx hb d_L_law_222 ?_
    refine rw_sld hx hb hX hq hf1.2.2.2.1 hLL (i + 6) (nI_add i 6) (by omega) d_L_law_223 ?_
    refine lv_i2l (v := (xs (i + 6)).toInt64) hx hb d_L_law_224 rfl ?_
    refine lv_ldc2 (v := 4294967295) hx hb hown (hts _ kl_L_79) d_L_law_225 ?_
    refine lv_land hx hb d_L_law_228 ?_
    refine lv_lor hx hb d_L_law_229 ?_
    refine tp_l (y := (lo2 (xs (i + 5)) (xs (i + 6)))) rfl ?_
    refine cl_e (A := (fun z => (evH ev).size ≤ z)) (W.runV (As := [.int (xs (i + 1)), .int (xs (i + 2)), .int (xs (i + 3)), .int (xs (i + 4)), .long (lo2 (xs (i + 5)) (xs (i + 6)))]) (rest := []) S (c_M_rule hm1 (xs (i + 1)) (xs (i + 2)) (xs (i + 3)) (xs (i + 4)) (lo2 (xs (i + 5)) (xs (i + 6)))) (cwV 5 hts gv_L_84 rfl rfl rfl (by decide +kernel) ⟨Nat.le_of_ble_eq_true rfl, Nat.le_of_ble_eq_true rfl⟩) (cP_V (KG_ok _) hK hK.1 hm1.1 rfl) rfl rfl hl.1 rfl (lv_room (Nat.le_of_ble_eq_true rfl)) d_L_law_230 ⟨by show _ ≤ 601024; omega, by show _ ≤ 7293000; omega⟩) hL1 (fun z h => by have h9 := hf.2.2.2.2; omega) (fun r2 H2 L2 hp2 hL2 => ?_)
    obtain ⟨hp2, hB2⟩ := hp2
    obtain ⟨e8, hm2⟩ : r2 = .int 0 ∧ MW ev (b + 101) 2 u kp v H2 := by
      rcases hp2 with ⟨g, e9, h9⟩ | ⟨g, e9, h9⟩ | ⟨g, e9, h9⟩
      · exact (hbad.2 g.2).elim
      · exact (g hbad.1).elim
      · exact ⟨e9, h9⟩
    subst e8
    have hf2 := XF_B hf1 hB2
    have ho2 := pt_k ho1 (hB2.2 _ (by omega))
    refine lv_istore (lv' := [(6, .int 0), (5, .int 2), (0, .ref q0), (1, .ref b), (2, .ref (b + 101)), (3, .ref (b + 117)), (4, .int (nI i))]) hx hb d_L_law_233 hl (by decide) rfl (fun ls hl => ?_)
    refine lv_aload_n hx hb d_L_law_235 rfl (lv_at hl 4 rfl) ?_
    refine cl_i (W.runV (As := []) (rest := []) S (c_M_thrown hm2.1) (cwV 0 hts gv_L_85 rfl rfl rfl (by decide +kernel) ⟨Nat.le_of_ble_eq_true rfl, Nat.le_of_ble_eq_true rfl⟩) (cP_V (KG_ok _) hK hK.1 hm2.1 rfl) rfl rfl hl.1 rfl (lv_room (Nat.le_of_ble_eq_true rfl)) d_L_law_236 ⟨by show _ ≤ 601024; omega, by show _ ≤ 7293000; omega⟩) ?_
    refine lv_iload hx hb d_L_law_239 (lv_at hl 1 rfl) ?_
    refine lv_icmp_eq (tgt := 246) hx hb d_L_law_241 (by decide) (fun _ => ?_) (fun c9 => absurd rfl c9)
    refine lv_iload hx hb d_L_law_246 (lv_at hl 1 rfl) ?_
    refine lv_if_ne (tgt := 263) hx hb d_L_law_248 (by decide) (fun c248 => ?_) (fun c248 => ?_)
    · refine lv_goto (tgt := 1599) hx hb d_L_law_263 (by decide) ?_
      exact W.widen (by omega) (by omega) (K9 _ _ _ _ _ _ _ ls hf2 hm2 ho2 hL2 (lv_sub hl [2, 3, 4, 5, 6] rfl))
    · exact absurd c248 (by decide)
set_option maxRecDepth 100000 in
set_option maxHeartbeats 4000000 in
theorem lk_rank {p : Program} {l : Launch} {e : Env} {s : State} {m : MethodId} {below : List Frame} {meth : Method} {c : Code} {ev : EV} {QQ : State → Prop} {q0 L b i C Sl : Nat} {xs : Nat → Int32} {th : Int32} {u : XS} {kp : KT} {v : PT} {f : Nat → Int64} {H : Heap} {locs : List Loc} {ls : Array Slot} (S : CallFix p m c code 8 s #[Value.ref q0] TB "RuleChoiceLaw") (hK : KG ev s) (hT : l.stackTraces = false) (hX : va_X q0 L xs s (evH ev)) (hq : q0 < (evH ev).size) (hLL : L ≤ 4609) (hi9 : i + 9 ≤ L) (hC : C + 5 ≤ 601024) (hSl : Sl + 30 ≤ 7293000) (hf : XF ev b u kp v H) (hm : MW ev (b + 101) th u kp v H) (ho : pt ev H (b + 117) (aL ev 1 f)) (hL : ∀ z ∈ locs, (evH ev).size ≤ z.base) (K9 : ∀ (th1 : Int32) (u1 : XS) (kp1 : KT) (v1 : PT) (f1 : Nat → Int64) (H1 : Heap) (locs1 : List Loc) (ls1 : Array Slot), XF ev b u1 kp1 v1 H1 → MW ev (b + 101) th1 u1 kp1 v1 H1 → pt ev H1 (b + 117) (aL ev 1 f1) → (∀ z ∈ locs1, (evH ev).size ≤ z.base) → lv_has ls1 8 [(0, .ref q0), (1, .ref b), (2, .ref (b + 101)), (3, .ref (b + 117)), (4, .int (nI i))] → W p l e room_1 s m #[Value.ref q0] below meth c H1 locs1 (C + 5) (Sl + 30) QQ (F0 m 1599 ls1 [])) (hl : lv_has ls 8 [(0, .ref q0), (1, .ref b), (2, .ref (b + 101)), (3, .ref (b + 117)), (4, .int (nI i))]) : W p l e room_1 s m #[Value.ref q0] below meth c H locs C Sl QQ (F0 m 266 ls []) := by
  obtain ⟨hx, hb, hml, hown, hts⟩ := id S
  refine lv_aload_n hx hb d_L_law_266 rfl (lv_at hl 1 rfl) ?_
  refine lv_aload_n hx hb d_L_law_267 rfl (lv_at hl 0 rfl) ?_
  refine lv_iload hx hb d_L_law_268 (lv_at hl 4 rfl) ?_
  refine lv_iconst (v := 1) hx hb d_L_law_270 (by decide) ?_
  refine lv_iadd hx hb d_L_law_271 ?_
  refine rw_sld hx hb hX hq hf.2.2.2.1 hLL (i + 1) (nI_add i 1) (by omega) d_L_law_272 ?_
  refine lv_aload_n hx hb d_L_law_273 rfl (lv_at hl 0 rfl) ?_
  refine lv_iload hx hb d_L_law_274 (lv_at hl 4 rfl) ?_
  refine lv_iconst (v := 2) hx hb d_L_law_276 (by decide) ?_
  refine lv_iadd hx hb d_L_law_277 ?_
  refine rw_sld hx hb hX hq hf.2.2.2.1 hLL (i + 2) (nI_add i 2) (by omega) d_L_law_278 ?_
  refine lv_aload_n hx hb d_L_law_279 rfl (lv_at hl 3 rfl) ?_
  refine cl_eW (A := (fun z => (evH ev).size ≤ z)) (vx_runSW (As := [.ref b, .int (xs (i + 1)), .int (xs (i + 2)), .ref (b + 117)]) (rest := []) S (c_L_rank hT hf ho (by omega) (xs (i + 1)) (xs (i + 2))) (vx_cwSW 4 hts gs_L_89 rfl rfl rfl (by decide +kernel) ⟨Nat.le_of_ble_eq_true rfl, Nat.le_of_ble_eq_true rfl⟩) (cP_S (KG_ok _) hK) rfl rfl hl.1 rfl (lv_room (Nat.le_of_ble_eq_true rfl)) d_L_law_280 ⟨by show _ ≤ 601024; omega, by show _ ≤ 7293000; omega⟩) hL (fun z h => Nat.le_trans hf.2.2.2.2 h) (fun r1 H1 L1 hp1 hL1 => ?_)
  obtain ⟨hp1, hF1⟩ := hp1
  have hm1 := MW_F hm ho hF1
  rcases hp1 with ⟨hok, rfl, hf1, ho1⟩ | ⟨hbad, rfl, hf1, ho1⟩ | ⟨hbad, rfl, hf1, ho1⟩
  · refine lv_istore (lv' := [(5, .int 0), (0, .ref q0), (1, .ref b), (2, .ref (b + 101)), (3, .ref (b + 117)), (4, .int (nI i))]) hx hb d_L_law_283 hl (by decide) rfl (fun ls hl => ?_)
    refine lv_aload_n hx hb d_L_law_285 rfl (lv_at hl 3 rfl) ?_
    refine lv_aload_n hx hb d_L_law_286 rfl (lv_at hl 1 rfl) ?_
    refine lv_iload hx hb d_L_law_287 (lv_at hl 5 rfl) ?_
    refine lv_iconst (v := 1) hx hb d_L_law_289 (by decide) ?_
    refine lv_iadd hx hb d_L_law_290 ?_
    refine rw_sld hx hb hX hq hf1.2.2.2.1 hLL (i + 1) (nI_add i 1) (by omega) d_L_law_291 ?_
    refine lv_aload_n hx hb d_L_law_292 rfl (lv_at hl 1 rfl) ?_
    refine lv_iload hx hb d_L_law_293 (lv_at hl 5 rfl) ?_
    refine lv_iconst (v := 2) hx hb d_L_law_295 (by decide) ?_
    refine lv_iadd hx hb d_L_law_296 ?_
    refine rw_sld hx hb hX hq hf1.2.2.2.1 hLL (i + 2) (nI_add i 2) (by omega) d_L_law_297 ?_
    refine cl_e (A := (fun z => (evH ev).size ≤ z)) (W.runV (As := [.int (xs (i + 1)), .int (xs (i + 2))]) (rest := []) S (c_M_rank hm1 (xs (i + 1)) (xs (i + 2))) (cwV 2 hts gv_L_92 rfl rfl rfl (by decide +kernel) ⟨Nat.le_of_ble_eq_true rfl, Nat.le_of_ble_eq_true rfl⟩) (cP_V (KG_ok _) hK hK.1 hm1.1 rfl) rfl rfl hl.1 rfl (lv_room (Nat.le_of_ble_eq_true rfl)) d_L_law_298 ⟨by show _ ≤ 601024; omega, by show _ ≤ 7293000; omega⟩) hL1 (fun z h => by have h9 := hf.2.2.2.2; omega) (fun r2 H2 L2 hp2 hL2 => ?_)
    obtain ⟨hp2, hB2⟩ := hp2
    obtain ⟨e8, hm2⟩ : r2 = .int (bI (!decide ((u.2.1 (nn (xs (i + 1)))).2.2.2.2.2.1 = (xs (i + 2))))) ∧ MW ev (b + 101) 0 (if (u.2.1 (nn (xs (i + 1)))).2.2.2.2.2.1 = (xs (i + 2)) then u else rowU u (nn (xs (i + 1))) (setR (u.2.1 (nn (xs (i + 1)))) (xs (i + 2)))) (if (u.2.1 (nn (xs (i + 1)))).2.2.2.2.2.1 = (xs (i + 2)) then kp else kpK kp (nn (u.2.1 (nn (xs (i + 1)))).1)) v H2 := by
      rcases hp2 with ⟨g, e9, h9⟩ | ⟨g, e9, h9⟩ | ⟨g, e9, h9⟩
      · exact ⟨e9, h9⟩
      · exact (g hok.1).elim
      · exact (g.2 hok.2).elim
    subst e8
    have hf2 := XF_B hf1 hB2
    have ho2 := pt_k ho1 (hB2.2 _ (by omega))
    refine lv_istore (lv' := [(6, .int (bI (!decide ((u.2.1 (nn (xs (i + 1)))).2.2.2.2.2.1 = (xs (i + 2)))))), (5, .int 0), (0, .ref q0), (1, .ref b), (2, .ref (b + 101)), (3, .ref (b + 117)), (4, .int (nI i))]) hx hb d_L_law_301 hl (by decide) rfl (fun ls hl => ?_)
    refine lv_aload_n hx hb d_L_law_303 rfl (lv_at hl 4 rfl) ?_
    refine cl_i (W.runV (As := []) (rest := []) S (c_M_thrown hm2.1) (cwV 0 hts gv_L_85 rfl rfl rfl (by decide +kernel) ⟨Nat.le_of_ble_eq_true rfl, Nat.le_of_ble_eq_true rfl⟩) (cP_V (KG_ok _) hK hK.1 hm2.1 rfl) rfl rfl hl.1 rfl (lv_room (Nat.le_of_ble_eq_true rfl)) d_L_law_304 ⟨by show _ ≤ 601024; omega, by show _ ≤ 7293000; omega⟩) ?_
    refine lv_iload hx hb d_L_law_307 (lv_at hl 1 rfl) ?_
    refine lv_icmp_eq (tgt := 314) hx hb d_L_law_309 (by decide) (fun _ => ?_) (fun c9 => absurd rfl c9)
    refine lv_iload hx hb d_L_law_314 (lv_at hl 1 rfl) ?_
    refine lv_if_ne (tgt := 338) hx hb d_L_law_316 (by decide) (fun c316 => ?_) (fun c316 => ?_)
    · exact absurd c316 (by decide)
    · refine lv_aload_n hx hb d_L_law_319 rfl (lv_at hl 5 rfl) ?_
      refine lv_iconst (v := 0) hx hb d_L_law_320 (by decide) ?_
      refine rw_lald hx hb hK.1 1 ho2 rfl 0 rfl (by decide) (by decide) d_L_law_321 ?_
      refine tp_l (y := (bI (!decide ((u.2.1 (nn (xs (i + 1)))).2.2.2.2.2.1 = (xs (i + 2))))).toInt64) pk_uLs ?_
      refine lv_iload hx hb d_L_law_322 (lv_at hl 0 rfl) ?_
      refine lv_if_eq (tgt := 331) hx hb d_L_law_324 (by decide) (fun c324 => ?_) (fun c324 => ?_)
      · refine lv_lconst (v := 0) hx hb d_L_law_331 (by decide) ?_
        refine ll_eq (tgt := 338) hx hb d_L_law_332 d_L_law_333 (by decide) (fun _ => ?_) (fun c9 => absurd (by rw [c324]; rfl) c9)
        refine lv_goto (tgt := 1599) hx hb d_L_law_338 (by decide) ?_
        exact W.widen (by omega) (by omega) (K9 _ _ _ _ _ _ _ ls hf2 hm2 ho2 hL2 (lv_sub hl [2, 3, 4, 5, 6] rfl))
      · refine lv_lconst (v := 1) hx hb d_L_law_327 (by decide) ?_
        refine lv_goto (tgt := 332) hx hb d_L_law_328 (by decide) ?_
        refine ll_eq (tgt := 338) hx hb d_L_law_332 d_L_law_333 (by decide) (fun _ => ?_) (fun c9 => absurd (by rw [bI_1 c324]; rfl) c9)
        refine lv_goto (tgt := 1599) hx hb d_L_law_338 (by decide) ?_
        exact W.widen (by omega) (by omega) (K9 _ _ _ _ _ _ _ ls hf2 hm2 ho2 hL2 (lv_sub hl [2, 3, 4, 5, 6] rfl))
  · refine lv_istore (lv' := [(5, .int 1), (0, .ref q0), (1, .ref b), (2, .ref (b + 101)), (3, .ref (b + 117)), (4, .int (nI i))]) hx hb d_L_law_283 hl (by decide) rfl (fun ls hl => ?_)
    refine lv_aload_n hx hb d_L_law_285 rfl (lv_at hl 3 rfl) ?_
    refine lv_aload_n hx hb d_L_law_286 rfl (lv_at hl 1 rfl) ?_
    refine lv_iload hx hb d_L_law_287 (lv_at hl 5 rfl) ?_
    refine lv_iconst (v := 1) hx hb d_L_law_289 (by decide) ?_
    refine lv_iadd hx hb d_L_law_290 ?_
    refine rw_sld hx hb hX hq hf1.2.2.2.1 hLL (i + 1) (nI_add i 1) (by omega) d_L_law_291 ?_
    refine lv_aload_n hx hb d_L_law_292 rfl (lv_at hl 1 rfl) ?_
    refine lv_iload hx hb d_L_law_293 (lv_at hl 5 rfl) ?_
    refine lv_iconst (v := 2) hx hb d_L_law_295 (by decide) ?_
    refine lv_iadd hx hb d_L_law_296 ?_
    refine rw_sld hx hb hX hq hf1.2.2.2.1 hLL (i + 2) (nI_add i 2) (by omega) d_L_law_297 ?_
    refine cl_e (A := (fun z => (evH ev).size ≤ z)) (W.runV (As := [.int (xs (i + 1)), .int (xs (i + 2))]) (rest := []) S (c_M_rank hm1 (xs (i + 1)) (xs (i + 2))) (cwV 2 hts gv_L_92 rfl rfl rfl (by decide +kernel) ⟨Nat.le_of_ble_eq_true rfl, Nat.le_of_ble_eq_true rfl⟩) (cP_V (KG_ok _) hK hK.1 hm1.1 rfl) rfl rfl hl.1 rfl (lv_room (Nat.le_of_ble_eq_true rfl)) d_L_law_298 ⟨by show _ ≤ 601024; omega, by show _ ≤ 7293000; omega⟩) hL1 (fun z h => by have h9 := hf.2.2.2.2; omega) (fun r2 H2 L2 hp2 hL2 => ?_)
    obtain ⟨hp2, hB2⟩ := hp2
    obtain ⟨e8, hm2⟩ : r2 = .int 0 ∧ MW ev (b + 101) 1 u kp v H2 := by
      rcases hp2 with ⟨g, e9, h9⟩ | ⟨g, e9, h9⟩ | ⟨g, e9, h9⟩
      · exact (hbad g.1).elim
      · exact ⟨e9, h9⟩
      · exact (hbad g.1).elim
    subst e8
    have hf2 := XF_B hf1 hB2
    have ho2 := pt_k ho1 (hB2.2 _ (by omega))
    refine lv_istore (lv' := [(6, .int 0), (5, .int 1), (0, .ref q0), (1, .ref b), (2, .ref (b + 101)), (3, .ref (b + 117)), (4, .int (nI i))]) hx hb d_L_law_301 hl (by decide) rfl (fun ls hl => ?_)
    refine lv_aload_n hx hb d_L_law_303 rfl (lv_at hl 4 rfl) ?_
    refine cl_i (W.runV (As := []) (rest := []) S (c_M_thrown hm2.1) (cwV 0 hts gv_L_85 rfl rfl rfl (by decide +kernel) ⟨Nat.le_of_ble_eq_true rfl, Nat.le_of_ble_eq_true rfl⟩) (cP_V (KG_ok _) hK hK.1 hm2.1 rfl) rfl rfl hl.1 rfl (lv_room (Nat.le_of_ble_eq_true rfl)) d_L_law_304 ⟨by show _ ≤ 601024; omega, by show _ ≤ 7293000; omega⟩) ?_
    refine lv_iload hx hb d_L_law_307 (lv_at hl 1 rfl) ?_
    refine lv_icmp_eq (tgt := 314) hx hb d_L_law_309 (by decide) (fun _ => ?_) (fun c9 => absurd rfl c9)
    refine lv_iload hx hb d_L_law_314 (lv_at hl 1 rfl) ?_
    refine lv_if_ne (tgt := 338) hx hb d_L_law_316 (by decide) (fun c316 => ?_) (fun c316 => ?_)
    · refine lv_goto (tgt := 1599) hx hb d_L_law_338 (by decide) ?_
      exact W.widen (by omega) (by omega) (K9 _ _ _ _ _ _ _ ls hf2 hm2 ho2 hL2 (lv_sub hl [2, 3, 4, 5, 6] rfl))
    · exact absurd c316 (by decide)
  · refine lv_istore (lv' := [(5, .int 2), (0, .ref q0), (1, .ref b), (2, .ref (b + 101)), (3, .ref (b + 117)), (4, .int (nI i))]) hx hb d_L_law_283 hl (by decide) rfl (fun ls hl => ?_)
    refine lv_aload_n hx hb d_L_law_285 rfl (lv_at hl 3 rfl) ?_
    refine lv_aload_n hx hb d_L_law_286 rfl (lv_at hl 1 rfl) ?_
    refine lv_iload hx hb d_L_law_287 (lv_at hl 5 rfl) ?_
    refine lv_iconst (v := 1) hx hb d_L_law_289 (by decide) ?_
    refine lv_iadd hx hb d_L_law_290 ?_
    refine rw_sld hx hb hX hq hf1.2.2.2.1 hLL (i + 1) (nI_add i 1) (by omega) d_L_law_291 ?_
    refine lv_aload_n hx hb d_L_law_292 rfl (lv_at hl 1 rfl) ?_
    refine lv_iload hx hb d_L_law_293 (lv_at hl 5 rfl) ?_
    refine lv_iconst (v := 2) hx hb d_L_law_295 (by decide) ?_
    refine lv_iadd hx hb d_L_law_296 ?_
    refine rw_sld hx hb hX hq hf1.2.2.2.1 hLL (i + 2) (nI_add i 2) (by omega) d_L_law_297 ?_
    refine cl_e (A := (fun z => (evH ev).size ≤ z)) (W.runV (As := [.int (xs (i + 1)), .int (xs (i + 2))]) (rest := []) S (c_M_rank hm1 (xs (i + 1)) (xs (i + 2))) (cwV 2 hts gv_L_92 rfl rfl rfl (by decide +kernel) ⟨Nat.le_of_ble_eq_true rfl, Nat.le_of_ble_eq_true rfl⟩) (cP_V (KG_ok _) hK hK.1 hm1.1 rfl) rfl rfl hl.1 rfl (lv_room (Nat.le_of_ble_eq_true rfl)) d_L_law_298 ⟨by show _ ≤ 601024; omega, by show _ ≤ 7293000; omega⟩) hL1 (fun z h => by have h9 := hf.2.2.2.2; omega) (fun r2 H2 L2 hp2 hL2 => ?_)
    obtain ⟨hp2, hB2⟩ := hp2
    obtain ⟨e8, hm2⟩ : r2 = .int 0 ∧ MW ev (b + 101) 2 u kp v H2 := by
      rcases hp2 with ⟨g, e9, h9⟩ | ⟨g, e9, h9⟩ | ⟨g, e9, h9⟩
      · exact (hbad.2 g.2).elim
      · exact (g hbad.1).elim
      · exact ⟨e9, h9⟩
    subst e8
    have hf2 := XF_B hf1 hB2
    have ho2 := pt_k ho1 (hB2.2 _ (by omega))
    refine lv_istore (lv' := [(6, .int 0), (5, .int 2), (0, .ref q0), (1, .ref b), (2, .ref (b + 101)), (3, .ref (b + 117)), (4, .int (nI i))]) hx hb d_L_law_301 hl (by decide) rfl (fun ls hl => ?_)
    refine lv_aload_n hx hb d_L_law_303 rfl (lv_at hl 4 rfl) ?_
    refine cl_i (W.runV (As := []) (rest := []) S (c_M_thrown hm2.1) (cwV 0 hts gv_L_85 rfl rfl rfl (by decide +kernel) ⟨Nat.le_of_ble_eq_true rfl, Nat.le_of_ble_eq_true rfl⟩) (cP_V (KG_ok _) hK hK.1 hm2.1 rfl) rfl rfl hl.1 rfl (lv_room (Nat.le_of_ble_eq_true rfl)) d_L_law_304 ⟨by show _ ≤ 601024; omega, by show _ ≤ 7293000; omega⟩) ?_
    refine lv_iload hx hb d_L_law_307 (lv_at hl 1 rfl) ?_
    refine lv_icmp_eq (tgt := 314) hx hb d_L_law_309 (by decide) (fun _ => ?_) (fun c9 => absurd rfl c9)
    refine lv_iload hx hb d_L_law_314 (lv_at hl 1 rfl) ?_
    refine lv_if_ne (tgt := 338) hx hb d_L_law_316 (by decide) (fun c316 => ?_) (fun c316 => ?_)
    · refine lv_goto (tgt := 1599) hx hb d_L_law_338 (by decide) ?_
      exact W.widen (by omega) (by omega) (K9 _ _ _ _ _ _ _ ls hf2 hm2 ho2 hL2 (lv_sub hl [2, 3, 4, 5, 6] rfl))
    · exact absurd c316 (by decide)
set_option maxRecDepth 100000 in
set_option maxHeartbeats 4000000 in
theorem lk_area {p : Program} {l : Launch} {e : Env} {s : State} {m : MethodId} {below : List Frame} {meth : Method} {c : Code} {ev : EV} {QQ : State → Prop} {q0 L b i C Sl : Nat} {xs : Nat → Int32} {th : Int32} {u : XS} {kp : KT} {v : PT} {f : Nat → Int64} {H : Heap} {locs : List Loc} {ls : Array Slot} (S : CallFix p m c code 8 s #[Value.ref q0] TB "RuleChoiceLaw") (hK : KG ev s) (hT : l.stackTraces = false) (hX : va_X q0 L xs s (evH ev)) (hq : q0 < (evH ev).size) (hLL : L ≤ 4609) (hi9 : i + 9 ≤ L) (hC : C + 5 ≤ 601024) (hSl : Sl + 30 ≤ 7293000) (hf : XF ev b u kp v H) (hm : MW ev (b + 101) th u kp v H) (ho : pt ev H (b + 117) (aL ev 1 f)) (hL : ∀ z ∈ locs, (evH ev).size ≤ z.base) (K9 : ∀ (th1 : Int32) (u1 : XS) (kp1 : KT) (v1 : PT) (f1 : Nat → Int64) (H1 : Heap) (locs1 : List Loc) (ls1 : Array Slot), XF ev b u1 kp1 v1 H1 → MW ev (b + 101) th1 u1 kp1 v1 H1 → pt ev H1 (b + 117) (aL ev 1 f1) → (∀ z ∈ locs1, (evH ev).size ≤ z.base) → lv_has ls1 8 [(0, .ref q0), (1, .ref b), (2, .ref (b + 101)), (3, .ref (b + 117)), (4, .int (nI i))] → W p l e room_1 s m #[Value.ref q0] below meth c H1 locs1 (C + 5) (Sl + 30) QQ (F0 m 1599 ls1 [])) (hl : lv_has ls 8 [(0, .ref q0), (1, .ref b), (2, .ref (b + 101)), (3, .ref (b + 117)), (4, .int (nI i))]) : W p l e room_1 s m #[Value.ref q0] below meth c H locs C Sl QQ (F0 m 341 ls []) := by
  obtain ⟨hx, hb, hml, hown, hts⟩ := id S
  refine lv_aload_n hx hb d_L_law_341 rfl (lv_at hl 1 rfl) ?_
  refine lv_aload_n hx hb d_L_law_342 rfl (lv_at hl 0 rfl) ?_
  refine lv_iload hx hb d_L_law_343 (lv_at hl 4 rfl) ?_
  refine lv_iconst (v := 1) hx hb d_L_law_345 (by decide) ?_
  refine lv_iadd hx hb d_L_law_346 ?_
  refine rw_sld hx hb hX hq hf.2.2.2.1 hLL (i + 1) (nI_add i 1) (by omega) d_L_law_347 ?_
  refine lv_i2l (v := (xs (i + 1)).toInt64) hx hb d_L_law_348 rfl ?_
  refine lv_bipush (v := 32) hx hb d_L_law_349 (by decide) ?_
  refine lv_lshl (v := (((xs (i + 1)).toInt64) <<< ((32 : Int32).toInt64 &&& 63))) hx hb d_L_law_351 rfl ?_
  refine lv_aload_n hx hb d_L_law_352 rfl (lv_at hl 0 rfl) ?_
  refine lv_iload hx hb d_L_law_353 (lv_at hl 4 rfl) ?_
  refine lv_iconst (v := 2) hx hb d_L_law_355 (by decide) ?_
  refine lv_iadd hx hb d_L_law_356 ?_
  refine rw_sld hx hb hX hq hf.2.2.2.1 hLL (i + 2) (nI_add i 2) (by omega) d_L_law_357 ?_
  refine lv_i2l (v := (xs (i + 2)).toInt64) hx hb d_L_law_358 rfl ?_
  refine lv_ldc2 (v := 4294967295) hx hb hown (hts _ kl_L_79) d_L_law_359 ?_
  refine lv_land hx hb d_L_law_362 ?_
  refine lv_lor hx hb d_L_law_363 ?_
  refine tp_l (y := (lo2 (xs (i + 1)) (xs (i + 2)))) rfl ?_
  refine lv_aload_n hx hb d_L_law_364 rfl (lv_at hl 0 rfl) ?_
  refine lv_iload hx hb d_L_law_365 (lv_at hl 4 rfl) ?_
  refine lv_iconst (v := 3) hx hb d_L_law_367 (by decide) ?_
  refine lv_iadd hx hb d_L_law_368 ?_
  refine rw_sld hx hb hX hq hf.2.2.2.1 hLL (i + 3) (nI_add i 3) (by omega) d_L_law_369 ?_
  refine lv_i2l (v := (xs (i + 3)).toInt64) hx hb d_L_law_370 rfl ?_
  refine lv_bipush (v := 32) hx hb d_L_law_371 (by decide) ?_
  refine lv_lshl (v := (((xs (i + 3)).toInt64) <<< ((32 : Int32).toInt64 &&& 63))) hx hb d_L_law_373 rfl ?_
  refine lv_aload_n hx hb d_L_law_374 rfl (lv_at hl 0 rfl) ?_
  refine lv_iload hx hb d_L_law_375 (lv_at hl 4 rfl) ?_
  refine lv_iconst (v := 4) hx hb d_L_law_377 (by decide) ?_
  refine lv_iadd hx hb d_L_law_378 ?_
  refine rw_sld hx hb hX hq hf.2.2.2.1 hLL (i + 4) (nI_add i 4) (by omega) d_L_law_379 ?_
  refine lv_i2l (v := (xs (i + 4)).toInt64) hx hb d_L_law_380 rfl ?_
  refine lv_ldc2 (v := 4294967295) hx hb hown (hts _ kl_L_79) d_L_law_381 ?_
  refine lv_land hx hb d_L_law_384 ?_
  refine lv_lor hx hb d_L_law_385 ?_
  refine tp_l (y := (lo2 (xs (i + 3)) (xs (i + 4)))) rfl ?_
  refine lv_aload_n hx hb d_L_law_386 rfl (lv_at hl 0 rfl) ?_
  refine lv_iload hx hb d_L_law_387 (lv_at hl 4 rfl) ?_
  refine lv_iconst (v := 5) hx hb d_L_law_389 (by decide) ?_
  refine lv_iadd hx hb d_L_law_390 ?_
  refine rw_sld hx hb hX hq hf.2.2.2.1 hLL (i + 5) (nI_add i 5) (by omega) d_L_law_391 ?_
  refine lv_i2l (v := (xs (i + 5)).toInt64) hx hb d_L_law_392 rfl ?_
  refine lv_bipush (v := 32) hx hb d_L_law_393 (by decide) ?_
  refine lv_lshl (v := (((xs (i + 5)).toInt64) <<< ((32 : Int32).toInt64 &&& 63))) hx hb d_L_law_395 rfl ?_
  refine lv_aload_n hx hb d_L_law_396 rfl (lv_at hl 0 rfl) ?_
  refine lv_iload hx hb d_L_law_397 (lv_at hl 4 rfl) ?_
  refine lv_bipush (v := 6) hx hb d_L_law_399 (by decide) ?_
  refine lv_iadd hx hb d_L_law_401 ?_
  refine rw_sld hx hb hX hq hf.2.2.2.1 hLL (i + 6) (nI_add i 6) (by omega) d_L_law_402 ?_
  refine lv_i2l (v := (xs (i + 6)).toInt64) hx hb d_L_law_403 rfl ?_
  refine lv_ldc2 (v := 4294967295) hx hb hown (hts _ kl_L_79) d_L_law_404 ?_
  refine lv_land hx hb d_L_law_407 ?_
  refine lv_lor hx hb d_L_law_408 ?_
  refine tp_l (y := (lo2 (xs (i + 5)) (xs (i + 6)))) rfl ?_
  refine lv_aload_n hx hb d_L_law_409 rfl (lv_at hl 0 rfl) ?_
  refine lv_iload hx hb d_L_law_410 (lv_at hl 4 rfl) ?_
  refine lv_bipush (v := 7) hx hb d_L_law_412 (by decide) ?_
  refine lv_iadd hx hb d_L_law_414 ?_
  refine rw_sld hx hb hX hq hf.2.2.2.1 hLL (i + 7) (nI_add i 7) (by omega) d_L_law_415 ?_
  refine lv_i2l (v := (xs (i + 7)).toInt64) hx hb d_L_law_416 rfl ?_
  refine lv_bipush (v := 32) hx hb d_L_law_417 (by decide) ?_
  refine lv_lshl (v := (((xs (i + 7)).toInt64) <<< ((32 : Int32).toInt64 &&& 63))) hx hb d_L_law_419 rfl ?_
  refine lv_aload_n hx hb d_L_law_420 rfl (lv_at hl 0 rfl) ?_
  refine lv_iload hx hb d_L_law_421 (lv_at hl 4 rfl) ?_
  refine lv_bipush (v := 8) hx hb d_L_law_423 (by decide) ?_
  refine lv_iadd hx hb d_L_law_425 ?_
  refine rw_sld hx hb hX hq hf.2.2.2.1 hLL (i + 8) (nI_add i 8) (by omega) d_L_law_426 ?_
  refine lv_i2l (v := (xs (i + 8)).toInt64) hx hb d_L_law_427 rfl ?_
  refine lv_ldc2 (v := 4294967295) hx hb hown (hts _ kl_L_79) d_L_law_428 ?_
  refine lv_land hx hb d_L_law_431 ?_
  refine lv_lor hx hb d_L_law_432 ?_
  refine tp_l (y := (lo2 (xs (i + 7)) (xs (i + 8)))) rfl ?_
  refine lv_aload_n hx hb d_L_law_433 rfl (lv_at hl 3 rfl) ?_
  refine cl_eW (A := (fun z => (evH ev).size ≤ z)) (vx_runSW (As := [.ref b, .long (lo2 (xs (i + 1)) (xs (i + 2))), .long (lo2 (xs (i + 3)) (xs (i + 4))), .long (lo2 (xs (i + 5)) (xs (i + 6))), .long (lo2 (xs (i + 7)) (xs (i + 8))), .ref (b + 117)]) (rest := []) S (c_L_area hT hf ho (by omega) (lo2 (xs (i + 1)) (xs (i + 2))) (lo2 (xs (i + 3)) (xs (i + 4))) (lo2 (xs (i + 5)) (xs (i + 6))) (lo2 (xs (i + 7)) (xs (i + 8)))) (vx_cwSW 6 hts gs_L_93 rfl rfl rfl (by decide +kernel) ⟨Nat.le_of_ble_eq_true rfl, Nat.le_of_ble_eq_true rfl⟩) (cP_S (KG_ok _) hK) rfl rfl hl.1 rfl (lv_room (Nat.le_of_ble_eq_true rfl)) d_L_law_434 ⟨by show _ ≤ 601024; omega, by show _ ≤ 7293000; omega⟩) hL (fun z h => Nat.le_trans hf.2.2.2.2 h) (fun r1 H1 L1 hp1 hL1 => ?_)
  obtain ⟨hp1, hF1⟩ := hp1
  have hm1 := MW_F hm ho hF1
  rcases hp1 with ⟨hok, rfl, hf1, ho1⟩ | ⟨hbad, rfl, hf1, ho1⟩
  · refine lv_istore (lv' := [(5, .int 0), (0, .ref q0), (1, .ref b), (2, .ref (b + 101)), (3, .ref (b + 117)), (4, .int (nI i))]) hx hb d_L_law_437 hl (by decide) rfl (fun ls hl => ?_)
    refine lv_aload_n hx hb d_L_law_439 rfl (lv_at hl 3 rfl) ?_
    refine lv_aload_n hx hb d_L_law_440 rfl (lv_at hl 1 rfl) ?_
    refine lv_iload hx hb d_L_law_441 (lv_at hl 5 rfl) ?_
    refine lv_iconst (v := 1) hx hb d_L_law_443 (by decide) ?_
    refine lv_iadd hx hb d_L_law_444 ?_
    refine rw_sld hx hb hX hq hf1.2.2.2.1 hLL (i + 1) (nI_add i 1) (by omega) d_L_law_445 ?_
    refine lv_i2l (v := (xs (i + 1)).toInt64) hx hb d_L_law_446 rfl ?_
    refine lv_bipush (v := 32) hx hb d_L_law_447 (by decide) ?_
    refine lv_lshl (v := (((xs (i + 1)).toInt64) <<< ((32 : Int32).toInt64 &&& 63))) hx hb d_L_law_449 rfl ?_
    refine lv_aload_n hx hb d_L_law_450 rfl (lv_at hl 1 rfl) ?_
    refine lv_iload hx hb d_L_law_451 (lv_at hl 5 rfl) ?_
    refine lv_iconst (v := 2) hx hb d_L_law_453 (by decide) ?_
    refine lv_iadd hx hb d_L_law_454 ?_
    refine rw_sld hx hb hX hq hf1.2.2.2.1 hLL (i + 2) (nI_add i 2) (by omega) d_L_law_455 ?_
    refine lv_i2l (v := (xs (i + 2)).toInt64) hx hb d_L_law_456 rfl ?_
    refine lv_ldc2 (v := 4294967295) hx hb hown (hts _ kl_L_79) d_L_law_457 ?_
    refine lv_land hx hb d_L_law_460 ?_
    refine lv_lor hx hb d_L_law_461 ?_
    refine tp_l (y := (lo2 (xs (i + 1)) (xs (i + 2)))) rfl ?_
    refine lv_aload_n hx hb d_L_law_462 rfl (lv_at hl 1 rfl) ?_
    refine lv_iload hx hb d_L_law_463 (lv_at hl 5 rfl) ?_
    refine lv_iconst (v := 3) hx hb d_L_law_465 (by decide) ?_
    refine lv_iadd hx hb d_L_law_466 ?_
    refine rw_sld hx hb hX hq hf1.2.2.2.1 hLL (i + 3) (nI_add i 3) (by omega) d_L_law_467 ?_
    refine lv_i2l (v := (xs (i + 3)).toInt64) hx hb d_L_law_468 rfl ?_
    refine lv_bipush (v := 32) hx hb d_L_law_469 (by decide) ?_
    refine lv_lshl (v := (((xs (i + 3)).toInt64) <<< ((32 : Int32).toInt64 &&& 63))) hx hb d_L_law_471 rfl ?_
    refine lv_aload_n hx hb d_L_law_472 rfl (lv_at hl 1 rfl) ?_
    refine lv_iload hx hb d_L_law_473 (lv_at hl 5 rfl) ?_
    refine lv_iconst (v := 4) hx hb d_L_law_475 (by decide) ?_
    refine lv_iadd hx hb d_L_law_476 ?_
    refine rw_sld hx hb hX hq hf1.2.2.2.1 hLL (i + 4) (nI_add i 4) (by omega) d_L_law_477 ?_
    refine lv_i2l (v := (xs (i + 4)).toInt64) hx hb d_L_law_478 rfl ?_
    refine lv_ldc2 (v := 4294967295) hx hb hown (hts _ kl_L_79) d_L_law_479 ?_
    refine lv_land hx hb d_L_law_482 ?_
    refine lv_lor hx hb d_L_law_483 ?_
    refine tp_l (y := (lo2 (xs (i + 3)) (xs (i + 4)))) rfl ?_
    refine lv_aload_n hx hb d_L_law_484 rfl (lv_at hl 1 rfl) ?_
    refine lv_iload hx hb d_L_law_485 (lv_at hl 5 rfl) ?_
    refine lv_iconst (v := 5) hx hb d_L_law_487 (by decide) ?_
    refine lv_iadd hx hb d_L_law_488 ?_
    refine rw_sld hx hb hX hq hf1.2.2.2.1 hLL (i + 5) (nI_add i 5) (by omega) d_L_law_489 ?_
    refine lv_i2l (v := (xs (i + 5)).toInt64) hx hb d_L_law_490 rfl ?_
    refine lv_bipush (v := 32) hx hb d_L_law_491 (by decide) ?_
    refine lv_lshl (v := (((xs (i + 5)).toInt64) <<< ((32 : Int32).toInt64 &&& 63))) hx hb d_L_law_493 rfl ?_
    refine lv_aload_n hx hb d_L_law_494 rfl (lv_at hl 1 rfl) ?_
    refine lv_iload hx hb d_L_law_495 (lv_at hl 5 rfl) ?_
    refine lv_bipush (v := 6) hx hb d_L_law_497 (by decide) ?_
    refine lv_iadd hx hb d_L_law_499 ?_
    refine rw_sld hx hb hX hq hf1.2.2.2.1 hLL (i + 6) (nI_add i 6) (by omega) d_L_law_500 ?_
    refine lv_i2l (v := (xs (i + 6)).toInt64) hx hb d_L_law_501 rfl ?_
    refine lv_ldc2 (v := 4294967295) hx hb hown (hts _ kl_L_79) d_L_law_502 ?_
    refine lv_land hx hb d_L_law_505 ?_
    refine lv_lor hx hb d_L_law_506 ?_
    refine tp_l (y := (lo2 (xs (i + 5)) (xs (i + 6)))) rfl ?_
    refine lv_aload_n hx hb d_L_law_507 rfl (lv_at hl 1 rfl) ?_
    refine lv_iload hx hb d_L_law_508 (lv_at hl 5 rfl) ?_
    refine lv_bipush (v := 7) hx hb d_L_law_510 (by decide) ?_
    refine lv_iadd hx hb d_L_law_512 ?_
    refine rw_sld hx hb hX hq hf1.2.2.2.1 hLL (i + 7) (nI_add i 7) (by omega) d_L_law_513 ?_
    refine lv_i2l (v := (xs (i + 7)).toInt64) hx hb d_L_law_514 rfl ?_
    refine lv_bipush (v := 32) hx hb d_L_law_515 (by decide) ?_
    refine lv_lshl (v := (((xs (i + 7)).toInt64) <<< ((32 : Int32).toInt64 &&& 63))) hx hb d_L_law_517 rfl ?_
    refine lv_aload_n hx hb d_L_law_518 rfl (lv_at hl 1 rfl) ?_
    refine lv_iload hx hb d_L_law_519 (lv_at hl 5 rfl) ?_
    refine lv_bipush (v := 8) hx hb d_L_law_521 (by decide) ?_
    refine lv_iadd hx hb d_L_law_523 ?_
    refine rw_sld hx hb hX hq hf1.2.2.2.1 hLL (i + 8) (nI_add i 8) (by omega) d_L_law_524 ?_
    refine lv_i2l (v := (xs (i + 8)).toInt64) hx hb d_L_law_525 rfl ?_
    refine lv_ldc2 (v := 4294967295) hx hb hown (hts _ kl_L_79) d_L_law_526 ?_
    refine lv_land hx hb d_L_law_529 ?_
    refine lv_lor hx hb d_L_law_530 ?_
    refine tp_l (y := (lo2 (xs (i + 7)) (xs (i + 8)))) rfl ?_
    refine cl_e (A := (fun z => (evH ev).size ≤ z)) (W.runV (As := [.long (lo2 (xs (i + 1)) (xs (i + 2))), .long (lo2 (xs (i + 3)) (xs (i + 4))), .long (lo2 (xs (i + 5)) (xs (i + 6))), .long (lo2 (xs (i + 7)) (xs (i + 8)))]) (rest := []) S (c_M_area hm1 (lo2 (xs (i + 1)) (xs (i + 2))) (lo2 (xs (i + 3)) (xs (i + 4))) (lo2 (xs (i + 5)) (xs (i + 6))) (lo2 (xs (i + 7)) (xs (i + 8)))) (cwV 4 hts gv_L_96 rfl rfl rfl (by decide +kernel) ⟨Nat.le_of_ble_eq_true rfl, Nat.le_of_ble_eq_true rfl⟩) (cP_V (KG_ok _) hK hK.1 hm1.1 rfl) rfl rfl hl.1 rfl (lv_room (Nat.le_of_ble_eq_true rfl)) d_L_law_531 ⟨by show _ ≤ 601024; omega, by show _ ≤ 7293000; omega⟩) hL1 (fun z h => by have h9 := hf.2.2.2.2; omega) (fun r2 H2 L2 hp2 hL2 => ?_)
    obtain ⟨hp2, hB2⟩ := hp2
    obtain ⟨e8, hm2⟩ : r2 = .int (if u.1.2.2.1 < 12 then nI u.1.2.2.1 else -1) ∧ MW ev (b + 101) 0 (areU u ((lo2 (xs (i + 1)) (xs (i + 2))), (lo2 (xs (i + 3)) (xs (i + 4))), (lo2 (xs (i + 5)) (xs (i + 6))), (lo2 (xs (i + 7)) (xs (i + 8))))) kp v H2 := by
      rcases hp2 with ⟨g, e9, h9⟩ | ⟨g, e9, h9⟩
      · exact ⟨e9, h9⟩
      · exact (g hok).elim
    subst e8
    have hf2 := XF_B hf1 hB2
    have ho2 := pt_k ho1 (hB2.2 _ (by omega))
    refine lv_istore (lv' := [(6, .int (if u.1.2.2.1 < 12 then nI u.1.2.2.1 else -1)), (5, .int 0), (0, .ref q0), (1, .ref b), (2, .ref (b + 101)), (3, .ref (b + 117)), (4, .int (nI i))]) hx hb d_L_law_534 hl (by decide) rfl (fun ls hl => ?_)
    refine lv_aload_n hx hb d_L_law_536 rfl (lv_at hl 4 rfl) ?_
    refine cl_i (W.runV (As := []) (rest := []) S (c_M_thrown hm2.1) (cwV 0 hts gv_L_85 rfl rfl rfl (by decide +kernel) ⟨Nat.le_of_ble_eq_true rfl, Nat.le_of_ble_eq_true rfl⟩) (cP_V (KG_ok _) hK hK.1 hm2.1 rfl) rfl rfl hl.1 rfl (lv_room (Nat.le_of_ble_eq_true rfl)) d_L_law_537 ⟨by show _ ≤ 601024; omega, by show _ ≤ 7293000; omega⟩) ?_
    refine lv_iload hx hb d_L_law_540 (lv_at hl 1 rfl) ?_
    refine lv_icmp_eq (tgt := 547) hx hb d_L_law_542 (by decide) (fun _ => ?_) (fun c9 => absurd rfl c9)
    refine lv_iload hx hb d_L_law_547 (lv_at hl 1 rfl) ?_
    refine lv_if_ne (tgt := 564) hx hb d_L_law_549 (by decide) (fun c549 => ?_) (fun c549 => ?_)
    · exact absurd c549 (by decide)
    · refine lv_aload_n hx hb d_L_law_552 rfl (lv_at hl 5 rfl) ?_
      refine lv_iconst (v := 0) hx hb d_L_law_553 (by decide) ?_
      refine rw_lald hx hb hK.1 1 ho2 rfl 0 rfl (by decide) (by decide) d_L_law_554 ?_
      refine tp_l (y := (if u.1.2.2.1 < 12 then nI u.1.2.2.1 else -1).toInt64) pk_uLs ?_
      refine lv_iload hx hb d_L_law_555 (lv_at hl 0 rfl) ?_
      refine lv_i2l (v := (if u.1.2.2.1 < 12 then nI u.1.2.2.1 else -1).toInt64) hx hb d_L_law_557 rfl ?_
      refine ll_eq (tgt := 564) hx hb d_L_law_558 d_L_law_559 (by decide) (fun _ => ?_) (fun c9 => absurd rfl c9)
      refine lv_goto (tgt := 1599) hx hb d_L_law_564 (by decide) ?_
      exact W.widen (by omega) (by omega) (K9 _ _ _ _ _ _ _ ls hf2 hm2 ho2 hL2 (lv_sub hl [2, 3, 4, 5, 6] rfl))
  · refine lv_istore (lv' := [(5, .int 1), (0, .ref q0), (1, .ref b), (2, .ref (b + 101)), (3, .ref (b + 117)), (4, .int (nI i))]) hx hb d_L_law_437 hl (by decide) rfl (fun ls hl => ?_)
    refine lv_aload_n hx hb d_L_law_439 rfl (lv_at hl 3 rfl) ?_
    refine lv_aload_n hx hb d_L_law_440 rfl (lv_at hl 1 rfl) ?_
    refine lv_iload hx hb d_L_law_441 (lv_at hl 5 rfl) ?_
    refine lv_iconst (v := 1) hx hb d_L_law_443 (by decide) ?_
    refine lv_iadd hx hb d_L_law_444 ?_
    refine rw_sld hx hb hX hq hf1.2.2.2.1 hLL (i + 1) (nI_add i 1) (by omega) d_L_law_445 ?_
    refine lv_i2l (v := (xs (i + 1)).toInt64) hx hb d_L_law_446 rfl ?_
    refine lv_bipush (v := 32) hx hb d_L_law_447 (by decide) ?_
    refine lv_lshl (v := (((xs (i + 1)).toInt64) <<< ((32 : Int32).toInt64 &&& 63))) hx hb d_L_law_449 rfl ?_
    refine lv_aload_n hx hb d_L_law_450 rfl (lv_at hl 1 rfl) ?_
    refine lv_iload hx hb d_L_law_451 (lv_at hl 5 rfl) ?_
    refine lv_iconst (v := 2) hx hb d_L_law_453 (by decide) ?_
    refine lv_iadd hx hb d_L_law_454 ?_
    refine rw_sld hx hb hX hq hf1.2.2.2.1 hLL (i + 2) (nI_add i 2) (by omega) d_L_law_455 ?_
    refine lv_i2l (v := (xs (i + 2)).toInt64) hx hb d_L_law_456 rfl ?_
    refine lv_ldc2 (v := 4294967295) hx hb hown (hts _ kl_L_79) d_L_law_457 ?_
    refine lv_land hx hb d_L_law_460 ?_
    refine lv_lor hx hb d_L_law_461 ?_
    refine tp_l (y := (lo2 (xs (i + 1)) (xs (i + 2)))) rfl ?_
    refine lv_aload_n hx hb d_L_law_462 rfl (lv_at hl 1 rfl) ?_
    refine lv_iload hx hb d_L_law_463 (lv_at hl 5 rfl) ?_
    refine lv_iconst (v := 3) hx hb d_L_law_465 (by decide) ?_
    refine lv_iadd hx hb d_L_law_466 ?_
    refine rw_sld hx hb hX hq hf1.2.2.2.1 hLL (i + 3) (nI_add i 3) (by omega) d_L_law_467 ?_
    refine lv_i2l (v := (xs (i + 3)).toInt64) hx hb d_L_law_468 rfl ?_
    refine lv_bipush (v := 32) hx hb d_L_law_469 (by decide) ?_
    refine lv_lshl (v := (((xs (i + 3)).toInt64) <<< ((32 : Int32).toInt64 &&& 63))) hx hb d_L_law_471 rfl ?_
    refine lv_aload_n hx hb d_L_law_472 rfl (lv_at hl 1 rfl) ?_
    refine lv_iload hx hb d_L_law_473 (lv_at hl 5 rfl) ?_
    refine lv_iconst (v := 4) hx hb d_L_law_475 (by decide) ?_
    refine lv_iadd hx hb d_L_law_476 ?_
    refine rw_sld hx hb hX hq hf1.2.2.2.1 hLL (i + 4) (nI_add i 4) (by omega) d_L_law_477 ?_
    refine lv_i2l (v := (xs (i + 4)).toInt64) hx hb d_L_law_478 rfl ?_
    refine lv_ldc2 (v := 4294967295) hx hb hown (hts _ kl_L_79) d_L_law_479 ?_
    refine lv_land hx hb d_L_law_482 ?_
    refine lv_lor hx hb d_L_law_483 ?_
    refine tp_l (y := (lo2 (xs (i + 3)) (xs (i + 4)))) rfl ?_
    refine lv_aload_n hx hb d_L_law_484 rfl (lv_at hl 1 rfl) ?_
    refine lv_iload hx hb d_L_law_485 (lv_at hl 5 rfl) ?_
    refine lv_iconst (v := 5) hx hb d_L_law_487 (by decide) ?_
    refine lv_iadd hx hb d_L_law_488 ?_
    refine rw_sld hx hb hX hq hf1.2.2.2.1 hLL (i + 5) (nI_add i 5) (by omega) d_L_law_489 ?_
    refine lv_i2l (v := (xs (i + 5)).toInt64) hx hb d_L_law_490 rfl ?_
    refine lv_bipush (v := 32) hx hb d_L_law_491 (by decide) ?_
    refine lv_lshl (v := (((xs (i + 5)).toInt64) <<< ((32 : Int32).toInt64 &&& 63))) hx hb d_L_law_493 rfl ?_
    refine lv_aload_n hx hb d_L_law_494 rfl (lv_at hl 1 rfl) ?_
    refine lv_iload hx hb d_L_law_495 (lv_at hl 5 rfl) ?_
    refine lv_bipush (v := 6) hx hb d_L_law_497 (by decide) ?_
    refine lv_iadd hx hb d_L_law_499 ?_
    refine rw_sld hx hb hX hq hf1.2.2.2.1 hLL (i + 6) (nI_add i 6) (by omega) d_L_law_500 ?_
    refine lv_i2l (v := (xs (i + 6)).toInt64) hx hb d_L_law_501 rfl ?_
    refine lv_ldc2 (v := 4294967295) hx hb hown (hts _ kl_L_79) d_L_law_502 ?_
    refine lv_land hx hb d_L_law_505 ?_
    refine lv_lor hx hb d_L_law_506 ?_
    refine tp_l (y := (lo2 (xs (i + 5)) (xs (i + 6)))) rfl ?_
    refine lv_aload_n hx hb d_L_law_507 rfl (lv_at hl 1 rfl) ?_
    refine lv_iload hx hb d_L_law_508 (lv_at hl 5 rfl) ?_
    refine lv_bipush (v := 7) hx hb d_L_law_510 (by decide) ?_
    refine lv_iadd hx hb d_L_law_512 ?_
    refine rw_sld hx hb hX hq hf1.2.2.2.1 hLL (i + 7) (nI_add i 7) (by omega) d_L_law_513 ?_
    refine lv_i2l (v := (xs (i + 7)).toInt64) hx hb d_L_law_514 rfl ?_
    refine lv_bipush (v := 32) hx hb d_L_law_515 (by decide) ?_
    refine lv_lshl (v := (((xs (i + 7)).toInt64) <<< ((32 : Int32).toInt64 &&& 63))) hx hb d_L_law_517 rfl ?_
    refine lv_aload_n hx hb d_L_law_518 rfl (lv_at hl 1 rfl) ?_
    refine lv_iload hx hb d_L_law_519 (lv_at hl 5 rfl) ?_
    refine lv_bipush (v := 8) hx hb d_L_law_521 (by decide) ?_
    refine lv_iadd hx hb d_L_law_523 ?_
    refine rw_sld hx hb hX hq hf1.2.2.2.1 hLL (i + 8) (nI_add i 8) (by omega) d_L_law_524 ?_
    refine lv_i2l (v := (xs (i + 8)).toInt64) hx hb d_L_law_525 rfl ?_
    refine lv_ldc2 (v := 4294967295) hx hb hown (hts _ kl_L_79) d_L_law_526 ?_
    refine lv_land hx hb d_L_law_529 ?_
    refine lv_lor hx hb d_L_law_530 ?_
    refine tp_l (y := (lo2 (xs (i + 7)) (xs (i + 8)))) rfl ?_
    refine cl_e (A := (fun z => (evH ev).size ≤ z)) (W.runV (As := [.long (lo2 (xs (i + 1)) (xs (i + 2))), .long (lo2 (xs (i + 3)) (xs (i + 4))), .long (lo2 (xs (i + 5)) (xs (i + 6))), .long (lo2 (xs (i + 7)) (xs (i + 8)))]) (rest := []) S (c_M_area hm1 (lo2 (xs (i + 1)) (xs (i + 2))) (lo2 (xs (i + 3)) (xs (i + 4))) (lo2 (xs (i + 5)) (xs (i + 6))) (lo2 (xs (i + 7)) (xs (i + 8)))) (cwV 4 hts gv_L_96 rfl rfl rfl (by decide +kernel) ⟨Nat.le_of_ble_eq_true rfl, Nat.le_of_ble_eq_true rfl⟩) (cP_V (KG_ok _) hK hK.1 hm1.1 rfl) rfl rfl hl.1 rfl (lv_room (Nat.le_of_ble_eq_true rfl)) d_L_law_531 ⟨by show _ ≤ 601024; omega, by show _ ≤ 7293000; omega⟩) hL1 (fun z h => by have h9 := hf.2.2.2.2; omega) (fun r2 H2 L2 hp2 hL2 => ?_)
    obtain ⟨hp2, hB2⟩ := hp2
    obtain ⟨e8, hm2⟩ : r2 = .int 0 ∧ MW ev (b + 101) 1 u kp v H2 := by
      rcases hp2 with ⟨g, e9, h9⟩ | ⟨g, e9, h9⟩
      · exact (hbad g).elim
      · exact ⟨e9, h9⟩
    subst e8
    have hf2 := XF_B hf1 hB2
    have ho2 := pt_k ho1 (hB2.2 _ (by omega))
    refine lv_istore (lv' := [(6, .int 0), (5, .int 1), (0, .ref q0), (1, .ref b), (2, .ref (b + 101)), (3, .ref (b + 117)), (4, .int (nI i))]) hx hb d_L_law_534 hl (by decide) rfl (fun ls hl => ?_)
    refine lv_aload_n hx hb d_L_law_536 rfl (lv_at hl 4 rfl) ?_
    refine cl_i (W.runV (As := []) (rest := []) S (c_M_thrown hm2.1) (cwV 0 hts gv_L_85 rfl rfl rfl (by decide +kernel) ⟨Nat.le_of_ble_eq_true rfl, Nat.le_of_ble_eq_true rfl⟩) (cP_V (KG_ok _) hK hK.1 hm2.1 rfl) rfl rfl hl.1 rfl (lv_room (Nat.le_of_ble_eq_true rfl)) d_L_law_537 ⟨by show _ ≤ 601024; omega, by show _ ≤ 7293000; omega⟩) ?_
    refine lv_iload hx hb d_L_law_540 (lv_at hl 1 rfl) ?_
    refine lv_icmp_eq (tgt := 547) hx hb d_L_law_542 (by decide) (fun _ => ?_) (fun c9 => absurd rfl c9)
    refine lv_iload hx hb d_L_law_547 (lv_at hl 1 rfl) ?_
    refine lv_if_ne (tgt := 564) hx hb d_L_law_549 (by decide) (fun c549 => ?_) (fun c549 => ?_)
    · refine lv_goto (tgt := 1599) hx hb d_L_law_564 (by decide) ?_
      exact W.widen (by omega) (by omega) (K9 _ _ _ _ _ _ _ ls hf2 hm2 ho2 hL2 (lv_sub hl [2, 3, 4, 5, 6] rfl))
    · exact absurd c549 (by decide)
set_option maxRecDepth 100000 in
set_option maxHeartbeats 4000000 in
theorem lk_inArea {p : Program} {l : Launch} {e : Env} {s : State} {m : MethodId} {below : List Frame} {meth : Method} {c : Code} {ev : EV} {QQ : State → Prop} {q0 L b i C Sl : Nat} {xs : Nat → Int32} {th : Int32} {u : XS} {kp : KT} {v : PT} {f : Nat → Int64} {H : Heap} {locs : List Loc} {ls : Array Slot} (S : CallFix p m c code 8 s #[Value.ref q0] TB "RuleChoiceLaw") (hK : KG ev s) (hT : l.stackTraces = false) (hX : va_X q0 L xs s (evH ev)) (hq : q0 < (evH ev).size) (hLL : L ≤ 4609) (hi9 : i + 9 ≤ L) (hC : C + 5 ≤ 601024) (hSl : Sl + 30 ≤ 7293000) (hf : XF ev b u kp v H) (hm : MW ev (b + 101) th u kp v H) (ho : pt ev H (b + 117) (aL ev 1 f)) (hL : ∀ z ∈ locs, (evH ev).size ≤ z.base) (K9 : ∀ (th1 : Int32) (u1 : XS) (kp1 : KT) (v1 : PT) (f1 : Nat → Int64) (H1 : Heap) (locs1 : List Loc) (ls1 : Array Slot), XF ev b u1 kp1 v1 H1 → MW ev (b + 101) th1 u1 kp1 v1 H1 → pt ev H1 (b + 117) (aL ev 1 f1) → (∀ z ∈ locs1, (evH ev).size ≤ z.base) → lv_has ls1 8 [(0, .ref q0), (1, .ref b), (2, .ref (b + 101)), (3, .ref (b + 117)), (4, .int (nI i))] → W p l e room_1 s m #[Value.ref q0] below meth c H1 locs1 (C + 5) (Sl + 30) QQ (F0 m 1599 ls1 [])) (hl : lv_has ls 8 [(0, .ref q0), (1, .ref b), (2, .ref (b + 101)), (3, .ref (b + 117)), (4, .int (nI i))]) : W p l e room_1 s m #[Value.ref q0] below meth c H locs C Sl QQ (F0 m 567 ls []) := by
  obtain ⟨hx, hb, hml, hown, hts⟩ := id S
  refine lv_aload_n hx hb d_L_law_567 rfl (lv_at hl 1 rfl) ?_
  refine lv_aload_n hx hb d_L_law_568 rfl (lv_at hl 0 rfl) ?_
  refine lv_iload hx hb d_L_law_569 (lv_at hl 4 rfl) ?_
  refine lv_iconst (v := 1) hx hb d_L_law_571 (by decide) ?_
  refine lv_iadd hx hb d_L_law_572 ?_
  refine rw_sld hx hb hX hq hf.2.2.2.1 hLL (i + 1) (nI_add i 1) (by omega) d_L_law_573 ?_
  refine lv_aload_n hx hb d_L_law_574 rfl (lv_at hl 0 rfl) ?_
  refine lv_iload hx hb d_L_law_575 (lv_at hl 4 rfl) ?_
  refine lv_iconst (v := 2) hx hb d_L_law_577 (by decide) ?_
  refine lv_iadd hx hb d_L_law_578 ?_
  refine rw_sld hx hb hX hq hf.2.2.2.1 hLL (i + 2) (nI_add i 2) (by omega) d_L_law_579 ?_
  refine lv_aload_n hx hb d_L_law_580 rfl (lv_at hl 3 rfl) ?_
  refine cl_eW (A := (fun z => (evH ev).size ≤ z)) (vx_runSW (As := [.ref b, .int (xs (i + 1)), .int (xs (i + 2)), .ref (b + 117)]) (rest := []) S (c_L_inArea hT hf ho (by omega) (xs (i + 1)) (xs (i + 2))) (vx_cwSW 4 hts gs_L_97 rfl rfl rfl (by decide +kernel) ⟨Nat.le_of_ble_eq_true rfl, Nat.le_of_ble_eq_true rfl⟩) (cP_S (KG_ok _) hK) rfl rfl hl.1 rfl (lv_room (Nat.le_of_ble_eq_true rfl)) d_L_law_581 ⟨by show _ ≤ 601024; omega, by show _ ≤ 7293000; omega⟩) hL (fun z h => Nat.le_trans hf.2.2.2.2 h) (fun r1 H1 L1 hp1 hL1 => ?_)
  obtain ⟨hp1, hF1⟩ := hp1
  have hm1 := MW_F hm ho hF1
  rcases hp1 with ⟨hok, rfl, hf1, ho1⟩ | ⟨hbad, rfl, hf1, ho1⟩
  · refine lv_istore (lv' := [(5, .int 0), (0, .ref q0), (1, .ref b), (2, .ref (b + 101)), (3, .ref (b + 117)), (4, .int (nI i))]) hx hb d_L_law_584 hl (by decide) rfl (fun ls hl => ?_)
    refine lv_aload_n hx hb d_L_law_586 rfl (lv_at hl 3 rfl) ?_
    refine lv_aload_n hx hb d_L_law_587 rfl (lv_at hl 1 rfl) ?_
    refine lv_iload hx hb d_L_law_588 (lv_at hl 5 rfl) ?_
    refine lv_iconst (v := 1) hx hb d_L_law_590 (by decide) ?_
    refine lv_iadd hx hb d_L_law_591 ?_
    refine rw_sld hx hb hX hq hf1.2.2.2.1 hLL (i + 1) (nI_add i 1) (by omega) d_L_law_592 ?_
    refine lv_aload_n hx hb d_L_law_593 rfl (lv_at hl 1 rfl) ?_
    refine lv_iload hx hb d_L_law_594 (lv_at hl 5 rfl) ?_
    refine lv_iconst (v := 2) hx hb d_L_law_596 (by decide) ?_
    refine lv_iadd hx hb d_L_law_597 ?_
    refine rw_sld hx hb hX hq hf1.2.2.2.1 hLL (i + 2) (nI_add i 2) (by omega) d_L_law_598 ?_
    refine cl_e (A := (fun z => (evH ev).size ≤ z)) (W.runV (As := [.int (xs (i + 1)), .int (xs (i + 2))]) (rest := []) S (c_M_inArea hm1 (xs (i + 1)) (xs (i + 2))) (cwV 2 hts gv_L_99 rfl rfl rfl (by decide +kernel) ⟨Nat.le_of_ble_eq_true rfl, Nat.le_of_ble_eq_true rfl⟩) (cP_V (KG_ok _) hK hK.1 hm1.1 rfl) rfl rfl hl.1 rfl (lv_room (Nat.le_of_ble_eq_true rfl)) d_L_law_599 ⟨by show _ ≤ 601024; omega, by show _ ≤ 7293000; omega⟩) hL1 (fun z h => by have h9 := hf.2.2.2.2; omega) (fun r2 H2 L2 hp2 hL2 => ?_)
    obtain ⟨hp2, hB2⟩ := hp2
    obtain ⟨e8, hm2⟩ : r2 = .int (bI (!decide ((u.2.1 (nn (xs (i + 1)))).2.2.2.2.2.2 = aO (xs (i + 2))))) ∧ MW ev (b + 101) 0 (if (u.2.1 (nn (xs (i + 1)))).2.2.2.2.2.2 = aO (xs (i + 2)) then u else rowU u (nn (xs (i + 1))) (setO (u.2.1 (nn (xs (i + 1)))) (aO (xs (i + 2))))) (if (u.2.1 (nn (xs (i + 1)))).2.2.2.2.2.2 = aO (xs (i + 2)) then kp else kpK kp (nn (u.2.1 (nn (xs (i + 1)))).1)) v H2 := by
      rcases hp2 with ⟨g, e9, h9⟩ | ⟨g, e9, h9⟩
      · exact ⟨e9, h9⟩
      · exact (g hok).elim
    subst e8
    have hf2 := XF_B hf1 hB2
    have ho2 := pt_k ho1 (hB2.2 _ (by omega))
    refine lv_istore (lv' := [(6, .int (bI (!decide ((u.2.1 (nn (xs (i + 1)))).2.2.2.2.2.2 = aO (xs (i + 2)))))), (5, .int 0), (0, .ref q0), (1, .ref b), (2, .ref (b + 101)), (3, .ref (b + 117)), (4, .int (nI i))]) hx hb d_L_law_602 hl (by decide) rfl (fun ls hl => ?_)
    refine lv_aload_n hx hb d_L_law_604 rfl (lv_at hl 4 rfl) ?_
    refine cl_i (W.runV (As := []) (rest := []) S (c_M_thrown hm2.1) (cwV 0 hts gv_L_85 rfl rfl rfl (by decide +kernel) ⟨Nat.le_of_ble_eq_true rfl, Nat.le_of_ble_eq_true rfl⟩) (cP_V (KG_ok _) hK hK.1 hm2.1 rfl) rfl rfl hl.1 rfl (lv_room (Nat.le_of_ble_eq_true rfl)) d_L_law_605 ⟨by show _ ≤ 601024; omega, by show _ ≤ 7293000; omega⟩) ?_
    refine lv_iload hx hb d_L_law_608 (lv_at hl 1 rfl) ?_
    refine lv_icmp_eq (tgt := 615) hx hb d_L_law_610 (by decide) (fun _ => ?_) (fun c9 => absurd rfl c9)
    refine lv_iload hx hb d_L_law_615 (lv_at hl 1 rfl) ?_
    refine lv_if_ne (tgt := 639) hx hb d_L_law_617 (by decide) (fun c617 => ?_) (fun c617 => ?_)
    · exact absurd c617 (by decide)
    · refine lv_aload_n hx hb d_L_law_620 rfl (lv_at hl 5 rfl) ?_
      refine lv_iconst (v := 0) hx hb d_L_law_621 (by decide) ?_
      refine rw_lald hx hb hK.1 1 ho2 rfl 0 rfl (by decide) (by decide) d_L_law_622 ?_
      refine tp_l (y := (bI (!decide ((u.2.1 (nn (xs (i + 1)))).2.2.2.2.2.2 = aO (xs (i + 2))))).toInt64) pk_uLs ?_
      refine lv_iload hx hb d_L_law_623 (lv_at hl 0 rfl) ?_
      refine lv_if_eq (tgt := 632) hx hb d_L_law_625 (by decide) (fun c625 => ?_) (fun c625 => ?_)
      · refine lv_lconst (v := 0) hx hb d_L_law_632 (by decide) ?_
        refine ll_eq (tgt := 639) hx hb d_L_law_633 d_L_law_634 (by decide) (fun _ => ?_) (fun c9 => absurd (by rw [c625]; rfl) c9)
        refine lv_goto (tgt := 1599) hx hb d_L_law_639 (by decide) ?_
        exact W.widen (by omega) (by omega) (K9 _ _ _ _ _ _ _ ls hf2 hm2 ho2 hL2 (lv_sub hl [2, 3, 4, 5, 6] rfl))
      · refine lv_lconst (v := 1) hx hb d_L_law_628 (by decide) ?_
        refine lv_goto (tgt := 633) hx hb d_L_law_629 (by decide) ?_
        refine ll_eq (tgt := 639) hx hb d_L_law_633 d_L_law_634 (by decide) (fun _ => ?_) (fun c9 => absurd (by rw [bI_1 c625]; rfl) c9)
        refine lv_goto (tgt := 1599) hx hb d_L_law_639 (by decide) ?_
        exact W.widen (by omega) (by omega) (K9 _ _ _ _ _ _ _ ls hf2 hm2 ho2 hL2 (lv_sub hl [2, 3, 4, 5, 6] rfl))
  · refine lv_istore (lv' := [(5, .int 1), (0, .ref q0), (1, .ref b), (2, .ref (b + 101)), (3, .ref (b + 117)), (4, .int (nI i))]) hx hb d_L_law_584 hl (by decide) rfl (fun ls hl => ?_)
    refine lv_aload_n hx hb d_L_law_586 rfl (lv_at hl 3 rfl) ?_
    refine lv_aload_n hx hb d_L_law_587 rfl (lv_at hl 1 rfl) ?_
    refine lv_iload hx hb d_L_law_588 (lv_at hl 5 rfl) ?_
    refine lv_iconst (v := 1) hx hb d_L_law_590 (by decide) ?_
    refine lv_iadd hx hb d_L_law_591 ?_
    refine rw_sld hx hb hX hq hf1.2.2.2.1 hLL (i + 1) (nI_add i 1) (by omega) d_L_law_592 ?_
    refine lv_aload_n hx hb d_L_law_593 rfl (lv_at hl 1 rfl) ?_
    refine lv_iload hx hb d_L_law_594 (lv_at hl 5 rfl) ?_
    refine lv_iconst (v := 2) hx hb d_L_law_596 (by decide) ?_
    refine lv_iadd hx hb d_L_law_597 ?_
    refine rw_sld hx hb hX hq hf1.2.2.2.1 hLL (i + 2) (nI_add i 2) (by omega) d_L_law_598 ?_
    refine cl_e (A := (fun z => (evH ev).size ≤ z)) (W.runV (As := [.int (xs (i + 1)), .int (xs (i + 2))]) (rest := []) S (c_M_inArea hm1 (xs (i + 1)) (xs (i + 2))) (cwV 2 hts gv_L_99 rfl rfl rfl (by decide +kernel) ⟨Nat.le_of_ble_eq_true rfl, Nat.le_of_ble_eq_true rfl⟩) (cP_V (KG_ok _) hK hK.1 hm1.1 rfl) rfl rfl hl.1 rfl (lv_room (Nat.le_of_ble_eq_true rfl)) d_L_law_599 ⟨by show _ ≤ 601024; omega, by show _ ≤ 7293000; omega⟩) hL1 (fun z h => by have h9 := hf.2.2.2.2; omega) (fun r2 H2 L2 hp2 hL2 => ?_)
    obtain ⟨hp2, hB2⟩ := hp2
    obtain ⟨e8, hm2⟩ : r2 = .int 0 ∧ MW ev (b + 101) 1 u kp v H2 := by
      rcases hp2 with ⟨g, e9, h9⟩ | ⟨g, e9, h9⟩
      · exact (hbad g).elim
      · exact ⟨e9, h9⟩
    subst e8
    have hf2 := XF_B hf1 hB2
    have ho2 := pt_k ho1 (hB2.2 _ (by omega))
    refine lv_istore (lv' := [(6, .int 0), (5, .int 1), (0, .ref q0), (1, .ref b), (2, .ref (b + 101)), (3, .ref (b + 117)), (4, .int (nI i))]) hx hb d_L_law_602 hl (by decide) rfl (fun ls hl => ?_)
    refine lv_aload_n hx hb d_L_law_604 rfl (lv_at hl 4 rfl) ?_
    refine cl_i (W.runV (As := []) (rest := []) S (c_M_thrown hm2.1) (cwV 0 hts gv_L_85 rfl rfl rfl (by decide +kernel) ⟨Nat.le_of_ble_eq_true rfl, Nat.le_of_ble_eq_true rfl⟩) (cP_V (KG_ok _) hK hK.1 hm2.1 rfl) rfl rfl hl.1 rfl (lv_room (Nat.le_of_ble_eq_true rfl)) d_L_law_605 ⟨by show _ ≤ 601024; omega, by show _ ≤ 7293000; omega⟩) ?_
    refine lv_iload hx hb d_L_law_608 (lv_at hl 1 rfl) ?_
    refine lv_icmp_eq (tgt := 615) hx hb d_L_law_610 (by decide) (fun _ => ?_) (fun c9 => absurd rfl c9)
    refine lv_iload hx hb d_L_law_615 (lv_at hl 1 rfl) ?_
    refine lv_if_ne (tgt := 639) hx hb d_L_law_617 (by decide) (fun c617 => ?_) (fun c617 => ?_)
    · refine lv_goto (tgt := 1599) hx hb d_L_law_639 (by decide) ?_
      exact W.widen (by omega) (by omega) (K9 _ _ _ _ _ _ _ ls hf2 hm2 ho2 hL2 (lv_sub hl [2, 3, 4, 5, 6] rfl))
    · exact absurd c617 (by decide)
set_option maxRecDepth 100000 in
set_option maxHeartbeats 4000000 in
theorem lk_thing {p : Program} {l : Launch} {e : Env} {s : State} {m : MethodId} {below : List Frame} {meth : Method} {c : Code} {ev : EV} {QQ : State → Prop} {q0 L b i C Sl : Nat} {xs : Nat → Int32} {th : Int32} {u : XS} {kp : KT} {v : PT} {f : Nat → Int64} {H : Heap} {locs : List Loc} {ls : Array Slot} (S : CallFix p m c code 8 s #[Value.ref q0] TB "RuleChoiceLaw") (hK : KG ev s) (hT : l.stackTraces = false) (hX : va_X q0 L xs s (evH ev)) (hq : q0 < (evH ev).size) (hLL : L ≤ 4609) (hi9 : i + 9 ≤ L) (hC : C + 5 ≤ 601024) (hSl : Sl + 30 ≤ 7293000) (hf : XF ev b u kp v H) (hm : MW ev (b + 101) th u kp v H) (ho : pt ev H (b + 117) (aL ev 1 f)) (hL : ∀ z ∈ locs, (evH ev).size ≤ z.base) (K9 : ∀ (th1 : Int32) (u1 : XS) (kp1 : KT) (v1 : PT) (f1 : Nat → Int64) (H1 : Heap) (locs1 : List Loc) (ls1 : Array Slot), XF ev b u1 kp1 v1 H1 → MW ev (b + 101) th1 u1 kp1 v1 H1 → pt ev H1 (b + 117) (aL ev 1 f1) → (∀ z ∈ locs1, (evH ev).size ≤ z.base) → lv_has ls1 8 [(0, .ref q0), (1, .ref b), (2, .ref (b + 101)), (3, .ref (b + 117)), (4, .int (nI i))] → W p l e room_1 s m #[Value.ref q0] below meth c H1 locs1 (C + 5) (Sl + 30) QQ (F0 m 1599 ls1 [])) (hl : lv_has ls 8 [(0, .ref q0), (1, .ref b), (2, .ref (b + 101)), (3, .ref (b + 117)), (4, .int (nI i))]) : W p l e room_1 s m #[Value.ref q0] below meth c H locs C Sl QQ (F0 m 642 ls []) := by
  obtain ⟨hx, hb, hml, hown, hts⟩ := id S
  refine lv_aload_n hx hb d_L_law_642 rfl (lv_at hl 1 rfl) ?_
  refine lv_aload_n hx hb d_L_law_643 rfl (lv_at hl 0 rfl) ?_
  refine lv_iload hx hb d_L_law_644 (lv_at hl 4 rfl) ?_
  refine lv_iconst (v := 1) hx hb d_L_law_646 (by decide) ?_
  refine lv_iadd hx hb d_L_law_647 ?_
  refine rw_sld hx hb hX hq hf.2.2.2.1 hLL (i + 1) (nI_add i 1) (by omega) d_L_law_648 ?_
  refine lv_aload_n hx hb d_L_law_649 rfl (lv_at hl 0 rfl) ?_
  refine lv_iload hx hb d_L_law_650 (lv_at hl 4 rfl) ?_
  refine lv_iconst (v := 2) hx hb d_L_law_652 (by decide) ?_
  refine lv_iadd hx hb d_L_law_653 ?_
  refine rw_sld hx hb hX hq hf.2.2.2.1 hLL (i + 2) (nI_add i 2) (by omega) d_L_law_654 ?_
  refine lv_aload_n hx hb d_L_law_655 rfl (lv_at hl 0 rfl) ?_
  refine lv_iload hx hb d_L_law_656 (lv_at hl 4 rfl) ?_
  refine lv_iconst (v := 3) hx hb d_L_law_658 (by decide) ?_
  refine lv_iadd hx hb d_L_law_659 ?_
  refine rw_sld hx hb hX hq hf.2.2.2.1 hLL (i + 3) (nI_add i 3) (by omega) d_L_law_660 ?_
  refine lv_i2l (v := (xs (i + 3)).toInt64) hx hb d_L_law_661 rfl ?_
  refine lv_bipush (v := 32) hx hb d_L_law_662 (by decide) ?_
  refine lv_lshl (v := (((xs (i + 3)).toInt64) <<< ((32 : Int32).toInt64 &&& 63))) hx hb d_L_law_664 rfl ?_
  refine lv_aload_n hx hb d_L_law_665 rfl (lv_at hl 0 rfl) ?_
  refine lv_iload hx hb d_L_law_666 (lv_at hl 4 rfl) ?_
  refine lv_iconst (v := 4) hx hb d_L_law_668 (by decide) ?_
  refine lv_iadd hx hb d_L_law_669 ?_
  refine rw_sld hx hb hX hq hf.2.2.2.1 hLL (i + 4) (nI_add i 4) (by omega) d_L_law_670 ?_
  refine lv_i2l (v := (xs (i + 4)).toInt64) hx hb d_L_law_671 rfl ?_
  refine lv_ldc2 (v := 4294967295) hx hb hown (hts _ kl_L_79) d_L_law_672 ?_
  refine lv_land hx hb d_L_law_675 ?_
  refine lv_lor hx hb d_L_law_676 ?_
  refine tp_l (y := (lo2 (xs (i + 3)) (xs (i + 4)))) rfl ?_
  refine lv_aload_n hx hb d_L_law_677 rfl (lv_at hl 0 rfl) ?_
  refine lv_iload hx hb d_L_law_678 (lv_at hl 4 rfl) ?_
  refine lv_iconst (v := 5) hx hb d_L_law_680 (by decide) ?_
  refine lv_iadd hx hb d_L_law_681 ?_
  refine rw_sld hx hb hX hq hf.2.2.2.1 hLL (i + 5) (nI_add i 5) (by omega) d_L_law_682 ?_
  refine lv_i2l (v := (xs (i + 5)).toInt64) hx hb d_L_law_683 rfl ?_
  refine lv_bipush (v := 32) hx hb d_L_law_684 (by decide) ?_
  refine lv_lshl (v := (((xs (i + 5)).toInt64) <<< ((32 : Int32).toInt64 &&& 63))) hx hb d_L_law_686 rfl ?_
  refine lv_aload_n hx hb d_L_law_687 rfl (lv_at hl 0 rfl) ?_
  refine lv_iload hx hb d_L_law_688 (lv_at hl 4 rfl) ?_
  refine lv_bipush (v := 6) hx hb d_L_law_690 (by decide) ?_
  refine lv_iadd hx hb d_L_law_692 ?_
  refine rw_sld hx hb hX hq hf.2.2.2.1 hLL (i + 6) (nI_add i 6) (by omega) d_L_law_693 ?_
  refine lv_i2l (v := (xs (i + 6)).toInt64) hx hb d_L_law_694 rfl ?_
  refine lv_ldc2 (v := 4294967295) hx hb hown (hts _ kl_L_79) d_L_law_695 ?_
  refine lv_land hx hb d_L_law_698 ?_
  refine lv_lor hx hb d_L_law_699 ?_
  refine tp_l (y := (lo2 (xs (i + 5)) (xs (i + 6)))) rfl ?_
  refine lv_aload_n hx hb d_L_law_700 rfl (lv_at hl 3 rfl) ?_
  refine cl_eW (A := (fun z => (evH ev).size ≤ z)) (vx_runSW (As := [.ref b, .int (xs (i + 1)), .int (xs (i + 2)), .long (lo2 (xs (i + 3)) (xs (i + 4))), .long (lo2 (xs (i + 5)) (xs (i + 6))), .ref (b + 117)]) (rest := []) S (c_L_thing hT hf ho (by omega) (xs (i + 1)) (xs (i + 2)) (lo2 (xs (i + 3)) (xs (i + 4))) (lo2 (xs (i + 5)) (xs (i + 6)))) (vx_cwSW 6 hts gs_L_100 rfl rfl rfl (by decide +kernel) ⟨Nat.le_of_ble_eq_true rfl, Nat.le_of_ble_eq_true rfl⟩) (cP_S (KG_ok _) hK) rfl rfl hl.1 rfl (lv_room (Nat.le_of_ble_eq_true rfl)) d_L_law_701 ⟨by show _ ≤ 601024; omega, by show _ ≤ 7293000; omega⟩) hL (fun z h => Nat.le_trans hf.2.2.2.2 h) (fun r1 H1 L1 hp1 hL1 => ?_)
  obtain ⟨hp1, hF1⟩ := hp1
  have hm1 := MW_F hm ho hF1
  rcases hp1 with ⟨hok, rfl, hf1, ho1⟩ | ⟨hbad, rfl, hf1, ho1⟩ | ⟨hbad, rfl, hf1, ho1⟩
  · refine lv_istore (lv' := [(5, .int 0), (0, .ref q0), (1, .ref b), (2, .ref (b + 101)), (3, .ref (b + 117)), (4, .int (nI i))]) hx hb d_L_law_704 hl (by decide) rfl (fun ls hl => ?_)
    refine lv_aload_n hx hb d_L_law_706 rfl (lv_at hl 3 rfl) ?_
    refine lv_aload_n hx hb d_L_law_707 rfl (lv_at hl 1 rfl) ?_
    refine lv_iload hx hb d_L_law_708 (lv_at hl 5 rfl) ?_
    refine lv_iconst (v := 1) hx hb d_L_law_710 (by decide) ?_
    refine lv_iadd hx hb d_L_law_711 ?_
    refine rw_sld hx hb hX hq hf1.2.2.2.1 hLL (i + 1) (nI_add i 1) (by omega) d_L_law_712 ?_
    refine lv_aload_n hx hb d_L_law_713 rfl (lv_at hl 1 rfl) ?_
    refine lv_iload hx hb d_L_law_714 (lv_at hl 5 rfl) ?_
    refine lv_iconst (v := 2) hx hb d_L_law_716 (by decide) ?_
    refine lv_iadd hx hb d_L_law_717 ?_
    refine rw_sld hx hb hX hq hf1.2.2.2.1 hLL (i + 2) (nI_add i 2) (by omega) d_L_law_718 ?_
    refine lv_aload_n hx hb d_L_law_719 rfl (lv_at hl 1 rfl) ?_
    refine lv_iload hx hb d_L_law_720 (lv_at hl 5 rfl) ?_
    refine lv_iconst (v := 3) hx hb d_L_law_722 (by decide) ?_
    refine lv_iadd hx hb d_L_law_723 ?_
    refine rw_sld hx hb hX hq hf1.2.2.2.1 hLL (i + 3) (nI_add i 3) (by omega) d_L_law_724 ?_
    refine lv_i2l (v := (xs (i + 3)).toInt64) hx hb d_L_law_725 rfl ?_
    refine lv_bipush (v := 32) hx hb d_L_law_726 (by decide) ?_
    refine lv_lshl (v := (((xs (i + 3)).toInt64) <<< ((32 : Int32).toInt64 &&& 63))) hx hb d_L_law_728 rfl ?_
    refine lv_aload_n hx hb d_L_law_729 rfl (lv_at hl 1 rfl) ?_
    refine lv_iload hx hb d_L_law_730 (lv_at hl 5 rfl) ?_
    refine lv_iconst (v := 4) hx hb d_L_law_732 (by decide) ?_
    refine lv_iadd hx hb d_L_law_733 ?_
    refine rw_sld hx hb hX hq hf1.2.2.2.1 hLL (i + 4) (nI_add i 4) (by omega) d_L_law_734 ?_
    refine lv_i2l (v := (xs (i + 4)).toInt64) hx hb d_L_law_735 rfl ?_
    refine lv_ldc2 (v := 4294967295) hx hb hown (hts _ kl_L_79) d_L_law_736 ?_
    refine lv_land hx hb d_L_law_739 ?_
    refine lv_lor hx hb d_L_law_740 ?_
    refine tp_l (y := (lo2 (xs (i + 3)) (xs (i + 4)))) rfl ?_
    refine lv_aload_n hx hb d_L_law_741 rfl (lv_at hl 1 rfl) ?_
    refine lv_iload hx hb d_L_law_742 (lv_at hl 5 rfl) ?_
    refine lv_iconst (v := 5) hx hb d_L_law_744 (by decide) ?_
    refine lv_iadd hx hb d_L_law_745 ?_
    refine rw_sld hx hb hX hq hf1.2.2.2.1 hLL (i + 5) (nI_add i 5) (by omega) d_L_law_746 ?_
    refine lv_i2l (v := (xs (i + 5)).toInt64) hx hb d_L_law_747 rfl ?_
    refine lv_bipush (v := 32) hx hb d_L_law_748 (by decide) ?_
    refine lv_lshl (v := (((xs (i + 5)).toInt64) <<< ((32 : Int32).toInt64 &&& 63))) hx hb d_L_law_750 rfl ?_
    refine lv_aload_n hx hb d_L_law_751 rfl (lv_at hl 1 rfl) ?_
    refine lv_iload hx hb d_L_law_752 (lv_at hl 5 rfl) ?_
    refine lv_bipush (v := 6) hx hb d_L_law_754 (by decide) ?_
    refine lv_iadd hx hb d_L_law_756 ?_
    refine rw_sld hx hb hX hq hf1.2.2.2.1 hLL (i + 6) (nI_add i 6) (by omega) d_L_law_757 ?_
    refine lv_i2l (v := (xs (i + 6)).toInt64) hx hb d_L_law_758 rfl ?_
    refine lv_ldc2 (v := 4294967295) hx hb hown (hts _ kl_L_79) d_L_law_759 ?_
    refine lv_land hx hb d_L_law_762 ?_
    refine lv_lor hx hb d_L_law_763 ?_
    refine tp_l (y := (lo2 (xs (i + 5)) (xs (i + 6)))) rfl ?_
    refine cl_e (A := (fun z => (evH ev).size ≤ z)) (W.runV (As := [.int (xs (i + 1)), .int (xs (i + 2)), .long (lo2 (xs (i + 3)) (xs (i + 4))), .long (lo2 (xs (i + 5)) (xs (i + 6)))]) (rest := []) S (c_M_thing hm1 (xs (i + 1)) (xs (i + 2)) (lo2 (xs (i + 3)) (xs (i + 4))) (lo2 (xs (i + 5)) (xs (i + 6)))) (cwV 4 hts gv_L_103 rfl rfl rfl (by decide +kernel) ⟨Nat.le_of_ble_eq_true rfl, Nat.le_of_ble_eq_true rfl⟩) (cP_V (KG_ok _) hK hK.1 hm1.1 rfl) rfl rfl hl.1 rfl (lv_room (Nat.le_of_ble_eq_true rfl)) d_L_law_764 ⟨by show _ ≤ 601024; omega, by show _ ≤ 7293000; omega⟩) hL1 (fun z h => by have h9 := hf.2.2.2.2; omega) (fun r2 H2 L2 hp2 hL2 => ?_)
    obtain ⟨hp2, hB2⟩ := hp2
    obtain ⟨e8, hm2⟩ : r2 = .int (if u.1.2.2.2.1 < 40 then nI u.1.2.2.2.1 else -1) ∧ MW ev (b + 101) 0 (thiU u ((xs (i + 1)), (xs (i + 2)), (lo2 (xs (i + 3)) (xs (i + 4))), (lo2 (xs (i + 5)) (xs (i + 6))))) kp v H2 := by
      rcases hp2 with ⟨g, e9, h9⟩ | ⟨g, e9, h9⟩ | ⟨g, e9, h9⟩
      · exact ⟨e9, h9⟩
      · exact (g hok.1).elim
      · exact (g.2 hok.2).elim
    subst e8
    have hf2 := XF_B hf1 hB2
    have ho2 := pt_k ho1 (hB2.2 _ (by omega))
    refine lv_istore (lv' := [(6, .int (if u.1.2.2.2.1 < 40 then nI u.1.2.2.2.1 else -1)), (5, .int 0), (0, .ref q0), (1, .ref b), (2, .ref (b + 101)), (3, .ref (b + 117)), (4, .int (nI i))]) hx hb d_L_law_767 hl (by decide) rfl (fun ls hl => ?_)
    refine lv_aload_n hx hb d_L_law_769 rfl (lv_at hl 4 rfl) ?_
    refine cl_i (W.runV (As := []) (rest := []) S (c_M_thrown hm2.1) (cwV 0 hts gv_L_85 rfl rfl rfl (by decide +kernel) ⟨Nat.le_of_ble_eq_true rfl, Nat.le_of_ble_eq_true rfl⟩) (cP_V (KG_ok _) hK hK.1 hm2.1 rfl) rfl rfl hl.1 rfl (lv_room (Nat.le_of_ble_eq_true rfl)) d_L_law_770 ⟨by show _ ≤ 601024; omega, by show _ ≤ 7293000; omega⟩) ?_
    refine lv_iload hx hb d_L_law_773 (lv_at hl 1 rfl) ?_
    refine lv_icmp_eq (tgt := 780) hx hb d_L_law_775 (by decide) (fun _ => ?_) (fun c9 => absurd rfl c9)
    refine lv_iload hx hb d_L_law_780 (lv_at hl 1 rfl) ?_
    refine lv_if_ne (tgt := 797) hx hb d_L_law_782 (by decide) (fun c782 => ?_) (fun c782 => ?_)
    · exact absurd c782 (by decide)
    · refine lv_aload_n hx hb d_L_law_785 rfl (lv_at hl 5 rfl) ?_
      refine lv_iconst (v := 0) hx hb d_L_law_786 (by decide) ?_
      refine rw_lald hx hb hK.1 1 ho2 rfl 0 rfl (by decide) (by decide) d_L_law_787 ?_
      refine tp_l (y := (if u.1.2.2.2.1 < 40 then nI u.1.2.2.2.1 else -1).toInt64) pk_uLs ?_
      refine lv_iload hx hb d_L_law_788 (lv_at hl 0 rfl) ?_
      refine lv_i2l (v := (if u.1.2.2.2.1 < 40 then nI u.1.2.2.2.1 else -1).toInt64) hx hb d_L_law_790 rfl ?_
      refine ll_eq (tgt := 797) hx hb d_L_law_791 d_L_law_792 (by decide) (fun _ => ?_) (fun c9 => absurd rfl c9)
      refine lv_goto (tgt := 1599) hx hb d_L_law_797 (by decide) ?_
      exact W.widen (by omega) (by omega) (K9 _ _ _ _ _ _ _ ls hf2 hm2 ho2 hL2 (lv_sub hl [2, 3, 4, 5, 6] rfl))
  · refine lv_istore (lv' := [(5, .int 1), (0, .ref q0), (1, .ref b), (2, .ref (b + 101)), (3, .ref (b + 117)), (4, .int (nI i))]) hx hb d_L_law_704 hl (by decide) rfl (fun ls hl => ?_)
    refine lv_aload_n hx hb d_L_law_706 rfl (lv_at hl 3 rfl) ?_
    refine lv_aload_n hx hb d_L_law_707 rfl (lv_at hl 1 rfl) ?_
    refine lv_iload hx hb d_L_law_708 (lv_at hl 5 rfl) ?_
    refine lv_iconst (v := 1) hx hb d_L_law_710 (by decide) ?_
    refine lv_iadd hx hb d_L_law_711 ?_
    refine rw_sld hx hb hX hq hf1.2.2.2.1 hLL (i + 1) (nI_add i 1) (by omega) d_L_law_712 ?_
    refine lv_aload_n hx hb d_L_law_713 rfl (lv_at hl 1 rfl) ?_
    refine lv_iload hx hb d_L_law_714 (lv_at hl 5 rfl) ?_
    refine lv_iconst (v := 2) hx hb d_L_law_716 (by decide) ?_
    refine lv_iadd hx hb d_L_law_717 ?_
    refine rw_sld hx hb hX hq hf1.2.2.2.1 hLL (i + 2) (nI_add i 2) (by omega) d_L_law_718 ?_
    refine lv_aload_n hx hb d_L_law_719 rfl (lv_at hl 1 rfl) ?_
    refine lv_iload hx hb d_L_law_720 (lv_at hl 5 rfl) ?_
    refine lv_iconst (v := 3) hx hb d_L_law_722 (by decide) ?_
    refine lv_iadd hx hb d_L_law_723 ?_
    refine rw_sld hx hb hX hq hf1.2.2.2.1 hLL (i + 3) (nI_add i 3) (by omega) d_L_law_724 ?_
    refine lv_i2l (v := (xs (i + 3)).toInt64) hx hb d_L_law_725 rfl ?_
    refine lv_bipush (v := 32) hx hb d_L_law_726 (by decide) ?_
    refine lv_lshl (v := (((xs (i + 3)).toInt64) <<< ((32 : Int32).toInt64 &&& 63))) hx hb d_L_law_728 rfl ?_
    refine lv_aload_n hx hb d_L_law_729 rfl (lv_at hl 1 rfl) ?_
    refine lv_iload hx hb d_L_law_730 (lv_at hl 5 rfl) ?_
    refine lv_iconst (v := 4) hx hb d_L_law_732 (by decide) ?_
    refine lv_iadd hx hb d_L_law_733 ?_
    refine rw_sld hx hb hX hq hf1.2.2.2.1 hLL (i + 4) (nI_add i 4) (by omega) d_L_law_734 ?_
    refine lv_i2l (v := (xs (i + 4)).toInt64) hx hb d_L_law_735 rfl ?_
    refine lv_ldc2 (v := 4294967295) hx hb hown (hts _ kl_L_79) d_L_law_736 ?_
    refine lv_land hx hb d_L_law_739 ?_
    refine lv_lor hx hb d_L_law_740 ?_
    refine tp_l (y := (lo2 (xs (i + 3)) (xs (i + 4)))) rfl ?_
    refine lv_aload_n hx hb d_L_law_741 rfl (lv_at hl 1 rfl) ?_
    refine lv_iload hx hb d_L_law_742 (lv_at hl 5 rfl) ?_
    refine lv_iconst (v := 5) hx hb d_L_law_744 (by decide) ?_
    refine lv_iadd hx hb d_L_law_745 ?_
    refine rw_sld hx hb hX hq hf1.2.2.2.1 hLL (i + 5) (nI_add i 5) (by omega) d_L_law_746 ?_
    refine lv_i2l (v := (xs (i + 5)).toInt64) hx hb d_L_law_747 rfl ?_
    refine lv_bipush (v := 32) hx hb d_L_law_748 (by decide) ?_
    refine lv_lshl (v := (((xs (i + 5)).toInt64) <<< ((32 : Int32).toInt64 &&& 63))) hx hb d_L_law_750 rfl ?_
    refine lv_aload_n hx hb d_L_law_751 rfl (lv_at hl 1 rfl) ?_
    refine lv_iload hx hb d_L_law_752 (lv_at hl 5 rfl) ?_
    refine lv_bipush (v := 6) hx hb d_L_law_754 (by decide) ?_
    refine lv_iadd hx hb d_L_law_756 ?_
    refine rw_sld hx hb hX hq hf1.2.2.2.1 hLL (i + 6) (nI_add i 6) (by omega) d_L_law_757 ?_
    refine lv_i2l (v := (xs (i + 6)).toInt64) hx hb d_L_law_758 rfl ?_
    refine lv_ldc2 (v := 4294967295) hx hb hown (hts _ kl_L_79) d_L_law_759 ?_
    refine lv_land hx hb d_L_law_762 ?_
    refine lv_lor hx hb d_L_law_763 ?_
    refine tp_l (y := (lo2 (xs (i + 5)) (xs (i + 6)))) rfl ?_
    refine cl_e (A := (fun z => (evH ev).size ≤ z)) (W.runV (As := [.int (xs (i + 1)), .int (xs (i + 2)), .long (lo2 (xs (i + 3)) (xs (i + 4))), .long (lo2 (xs (i + 5)) (xs (i + 6)))]) (rest := []) S (c_M_thing hm1 (xs (i + 1)) (xs (i + 2)) (lo2 (xs (i + 3)) (xs (i + 4))) (lo2 (xs (i + 5)) (xs (i + 6)))) (cwV 4 hts gv_L_103 rfl rfl rfl (by decide +kernel) ⟨Nat.le_of_ble_eq_true rfl, Nat.le_of_ble_eq_true rfl⟩) (cP_V (KG_ok _) hK hK.1 hm1.1 rfl) rfl rfl hl.1 rfl (lv_room (Nat.le_of_ble_eq_true rfl)) d_L_law_764 ⟨by show _ ≤ 601024; omega, by show _ ≤ 7293000; omega⟩) hL1 (fun z h => by have h9 := hf.2.2.2.2; omega) (fun r2 H2 L2 hp2 hL2 => ?_)
    obtain ⟨hp2, hB2⟩ := hp2
    obtain ⟨e8, hm2⟩ : r2 = .int 0 ∧ MW ev (b + 101) 1 u kp v H2 := by
      rcases hp2 with ⟨g, e9, h9⟩ | ⟨g, e9, h9⟩ | ⟨g, e9, h9⟩
      · exact (hbad g.1).elim
      · exact ⟨e9, h9⟩
      · exact (hbad g.1).elim
    subst e8
    have hf2 := XF_B hf1 hB2
    have ho2 := pt_k ho1 (hB2.2 _ (by omega))
    refine lv_istore (lv' := [(6, .int 0), (5, .int 1), (0, .ref q0), (1, .ref b), (2, .ref (b + 101)), (3, .ref (b + 117)), (4, .int (nI i))]) hx hb d_L_law_767 hl (by decide) rfl (fun ls hl => ?_)
    refine lv_aload_n hx hb d_L_law_769 rfl (lv_at hl 4 rfl) ?_
    refine cl_i (W.runV (As := []) (rest := []) S (c_M_thrown hm2.1) (cwV 0 hts gv_L_85 rfl rfl rfl (by decide +kernel) ⟨Nat.le_of_ble_eq_true rfl, Nat.le_of_ble_eq_true rfl⟩) (cP_V (KG_ok _) hK hK.1 hm2.1 rfl) rfl rfl hl.1 rfl (lv_room (Nat.le_of_ble_eq_true rfl)) d_L_law_770 ⟨by show _ ≤ 601024; omega, by show _ ≤ 7293000; omega⟩) ?_
    refine lv_iload hx hb d_L_law_773 (lv_at hl 1 rfl) ?_
    refine lv_icmp_eq (tgt := 780) hx hb d_L_law_775 (by decide) (fun _ => ?_) (fun c9 => absurd rfl c9)
    refine lv_iload hx hb d_L_law_780 (lv_at hl 1 rfl) ?_
    refine lv_if_ne (tgt := 797) hx hb d_L_law_782 (by decide) (fun c782 => ?_) (fun c782 => ?_)
    · refine lv_goto (tgt := 1599) hx hb d_L_law_797 (by decide) ?_
      exact W.widen (by omega) (by omega) (K9 _ _ _ _ _ _ _ ls hf2 hm2 ho2 hL2 (lv_sub hl [2, 3, 4, 5, 6] rfl))
    · exact absurd c782 (by decide)
  · refine lv_istore (lv' := [(5, .int 2), (0, .ref q0), (1, .ref b), (2, .ref (b + 101)), (3, .ref (b + 117)), (4, .int (nI i))]) hx hb d_L_law_704 hl (by decide) rfl (fun ls hl => ?_)
    refine lv_aload_n hx hb d_L_law_706 rfl (lv_at hl 3 rfl) ?_
    refine lv_aload_n hx hb d_L_law_707 rfl (lv_at hl 1 rfl) ?_
    refine lv_iload hx hb d_L_law_708 (lv_at hl 5 rfl) ?_
    refine lv_iconst (v := 1) hx hb d_L_law_710 (by decide) ?_
    refine lv_iadd hx hb d_L_law_711 ?_
    refine rw_sld hx hb hX hq hf1.2.2.2.1 hLL (i + 1) (nI_add i 1) (by omega) d_L_law_712 ?_
    refine lv_aload_n hx hb d_L_law_713 rfl (lv_at hl 1 rfl) ?_
    refine lv_iload hx hb d_L_law_714 (lv_at hl 5 rfl) ?_
    refine lv_iconst (v := 2) hx hb d_L_law_716 (by decide) ?_
    refine lv_iadd hx hb d_L_law_717 ?_
    refine rw_sld hx hb hX hq hf1.2.2.2.1 hLL (i + 2) (nI_add i 2) (by omega) d_L_law_718 ?_
    refine lv_aload_n hx hb d_L_law_719 rfl (lv_at hl 1 rfl) ?_
    refine lv_iload hx hb d_L_law_720 (lv_at hl 5 rfl) ?_
    refine lv_iconst (v := 3) hx hb d_L_law_722 (by decide) ?_
    refine lv_iadd hx hb d_L_law_723 ?_
    refine rw_sld hx hb hX hq hf1.2.2.2.1 hLL (i + 3) (nI_add i 3) (by omega) d_L_law_724 ?_
    refine lv_i2l (v := (xs (i + 3)).toInt64) hx hb d_L_law_725 rfl ?_
    refine lv_bipush (v := 32) hx hb d_L_law_726 (by decide) ?_
    refine lv_lshl (v := (((xs (i + 3)).toInt64) <<< ((32 : Int32).toInt64 &&& 63))) hx hb d_L_law_728 rfl ?_
    refine lv_aload_n hx hb d_L_law_729 rfl (lv_at hl 1 rfl) ?_
    refine lv_iload hx hb d_L_law_730 (lv_at hl 5 rfl) ?_
    refine lv_iconst (v := 4) hx hb d_L_law_732 (by decide) ?_
    refine lv_iadd hx hb d_L_law_733 ?_
    refine rw_sld hx hb hX hq hf1.2.2.2.1 hLL (i + 4) (nI_add i 4) (by omega) d_L_law_734 ?_
    refine lv_i2l (v := (xs (i + 4)).toInt64) hx hb d_L_law_735 rfl ?_
    refine lv_ldc2 (v := 4294967295) hx hb hown (hts _ kl_L_79) d_L_law_736 ?_
    refine lv_land hx hb d_L_law_739 ?_
    refine lv_lor hx hb d_L_law_740 ?_
    refine tp_l (y := (lo2 (xs (i + 3)) (xs (i + 4)))) rfl ?_
    refine lv_aload_n hx hb d_L_law_741 rfl (lv_at hl 1 rfl) ?_
    refine lv_iload hx hb d_L_law_742 (lv_at hl 5 rfl) ?_
    refine lv_iconst (v := 5) hx hb d_L_law_744 (by decide) ?_
    refine lv_iadd hx hb d_L_law_745 ?_
    refine rw_sld hx hb hX hq hf1.2.2.2.1 hLL (i + 5) (nI_add i 5) (by omega) d_L_law_746 ?_
    refine lv_i2l (v := (xs (i + 5)).toInt64) hx hb d_L_law_747 rfl ?_
    refine lv_bipush (v := 32) hx hb d_L_law_748 (by decide) ?_
    refine lv_lshl (v := (((xs (i + 5)).toInt64) <<< ((32 : Int32).toInt64 &&& 63))) hx hb d_L_law_750 rfl ?_
    refine lv_aload_n hx hb d_L_law_751 rfl (lv_at hl 1 rfl) ?_
    refine lv_iload hx hb d_L_law_752 (lv_at hl 5 rfl) ?_
    refine lv_bipush (v := 6) hx hb d_L_law_754 (by decide) ?_
    refine lv_iadd hx hb d_L_law_756 ?_
    refine rw_sld hx hb hX hq hf1.2.2.2.1 hLL (i + 6) (nI_add i 6) (by omega) d_L_law_757 ?_
    refine lv_i2l (v := (xs (i + 6)).toInt64) hx hb d_L_law_758 rfl ?_
    refine lv_ldc2 (v := 4294967295) hx hb hown (hts _ kl_L_79) d_L_law_759 ?_
    refine lv_land hx hb d_L_law_762 ?_
    refine lv_lor hx hb d_L_law_763 ?_
    refine tp_l (y := (lo2 (xs (i + 5)) (xs (i + 6)))) rfl ?_
    refine cl_e (A := (fun z => (evH ev).size ≤ z)) (W.runV (As := [.int (xs (i + 1)), .int (xs (i + 2)), .long (lo2 (xs (i + 3)) (xs (i + 4))), .long (lo2 (xs (i + 5)) (xs (i + 6)))]) (rest := []) S (c_M_thing hm1 (xs (i + 1)) (xs (i + 2)) (lo2 (xs (i + 3)) (xs (i + 4))) (lo2 (xs (i + 5)) (xs (i + 6)))) (cwV 4 hts gv_L_103 rfl rfl rfl (by decide +kernel) ⟨Nat.le_of_ble_eq_true rfl, Nat.le_of_ble_eq_true rfl⟩) (cP_V (KG_ok _) hK hK.1 hm1.1 rfl) rfl rfl hl.1 rfl (lv_room (Nat.le_of_ble_eq_true rfl)) d_L_law_764 ⟨by show _ ≤ 601024; omega, by show _ ≤ 7293000; omega⟩) hL1 (fun z h => by have h9 := hf.2.2.2.2; omega) (fun r2 H2 L2 hp2 hL2 => ?_)
    obtain ⟨hp2, hB2⟩ := hp2
    obtain ⟨e8, hm2⟩ : r2 = .int 0 ∧ MW ev (b + 101) 2 u kp v H2 := by
      rcases hp2 with ⟨g, e9, h9⟩ | ⟨g, e9, h9⟩ | ⟨g, e9, h9⟩
      · exact (hbad.2 g.2).elim
      · exact (g hbad.1).elim
      · exact ⟨e9, h9⟩
    subst e8
    have hf2 := XF_B hf1 hB2
    have ho2 := pt_k ho1 (hB2.2 _ (by omega))
    refine lv_istore (lv' := [(6, .int 0), (5, .int 2), (0, .ref q0), (1, .ref b), (2, .ref (b + 101)), (3, .ref (b + 117)), (4, .int (nI i))]) hx hb d_L_law_767 hl (by decide) rfl (fun ls hl => ?_)
    refine lv_aload_n hx hb d_L_law_769 rfl (lv_at hl 4 rfl) ?_
    refine cl_i (W.runV (As := []) (rest := []) S (c_M_thrown hm2.1) (cwV 0 hts gv_L_85 rfl rfl rfl (by decide +kernel) ⟨Nat.le_of_ble_eq_true rfl, Nat.le_of_ble_eq_true rfl⟩) (cP_V (KG_ok _) hK hK.1 hm2.1 rfl) rfl rfl hl.1 rfl (lv_room (Nat.le_of_ble_eq_true rfl)) d_L_law_770 ⟨by show _ ≤ 601024; omega, by show _ ≤ 7293000; omega⟩) ?_
    refine lv_iload hx hb d_L_law_773 (lv_at hl 1 rfl) ?_
    refine lv_icmp_eq (tgt := 780) hx hb d_L_law_775 (by decide) (fun _ => ?_) (fun c9 => absurd rfl c9)
    refine lv_iload hx hb d_L_law_780 (lv_at hl 1 rfl) ?_
    refine lv_if_ne (tgt := 797) hx hb d_L_law_782 (by decide) (fun c782 => ?_) (fun c782 => ?_)
    · refine lv_goto (tgt := 1599) hx hb d_L_law_797 (by decide) ?_
      exact W.widen (by omega) (by omega) (K9 _ _ _ _ _ _ _ ls hf2 hm2 ho2 hL2 (lv_sub hl [2, 3, 4, 5, 6] rfl))
    · exact absurd c782 (by decide)
set_option maxRecDepth 100000 in
set_option maxHeartbeats 4000000 in
theorem lk_make {p : Program} {l : Launch} {e : Env} {s : State} {m : MethodId} {below : List Frame} {meth : Method} {c : Code} {ev : EV} {QQ : State → Prop} {q0 L b i C Sl : Nat} {xs : Nat → Int32} {th : Int32} {u : XS} {kp : KT} {v : PT} {f : Nat → Int64} {H : Heap} {locs : List Loc} {ls : Array Slot} (S : CallFix p m c code 8 s #[Value.ref q0] TB "RuleChoiceLaw") (hK : KG ev s) (hT : l.stackTraces = false) (hX : va_X q0 L xs s (evH ev)) (hq : q0 < (evH ev).size) (hLL : L ≤ 4609) (hi9 : i + 9 ≤ L) (hC : C + 5 ≤ 601024) (hSl : Sl + 30 ≤ 7293000) (hf : XF ev b u kp v H) (hm : MW ev (b + 101) th u kp v H) (ho : pt ev H (b + 117) (aL ev 1 f)) (hL : ∀ z ∈ locs, (evH ev).size ≤ z.base) (K9 : ∀ (th1 : Int32) (u1 : XS) (kp1 : KT) (v1 : PT) (f1 : Nat → Int64) (H1 : Heap) (locs1 : List Loc) (ls1 : Array Slot), XF ev b u1 kp1 v1 H1 → MW ev (b + 101) th1 u1 kp1 v1 H1 → pt ev H1 (b + 117) (aL ev 1 f1) → (∀ z ∈ locs1, (evH ev).size ≤ z.base) → lv_has ls1 8 [(0, .ref q0), (1, .ref b), (2, .ref (b + 101)), (3, .ref (b + 117)), (4, .int (nI i))] → W p l e room_1 s m #[Value.ref q0] below meth c H1 locs1 (C + 5) (Sl + 30) QQ (F0 m 1599 ls1 [])) (hl : lv_has ls 8 [(0, .ref q0), (1, .ref b), (2, .ref (b + 101)), (3, .ref (b + 117)), (4, .int (nI i))]) : W p l e room_1 s m #[Value.ref q0] below meth c H locs C Sl QQ (F0 m 800 ls []) := by
  obtain ⟨hx, hb, hml, hown, hts⟩ := id S
  refine lv_aload_n hx hb d_L_law_800 rfl (lv_at hl 1 rfl) ?_
  refine lv_aload_n hx hb d_L_law_801 rfl (lv_at hl 0 rfl) ?_
  refine lv_iload hx hb d_L_law_802 (lv_at hl 4 rfl) ?_
  refine lv_iconst (v := 1) hx hb d_L_law_804 (by decide) ?_
  refine lv_iadd hx hb d_L_law_805 ?_
  refine rw_sld hx hb hX hq hf.2.2.2.1 hLL (i + 1) (nI_add i 1) (by omega) d_L_law_806 ?_
  refine lv_aload_n hx hb d_L_law_807 rfl (lv_at hl 0 rfl) ?_
  refine lv_iload hx hb d_L_law_808 (lv_at hl 4 rfl) ?_
  refine lv_iconst (v := 2) hx hb d_L_law_810 (by decide) ?_
  refine lv_iadd hx hb d_L_law_811 ?_
  refine rw_sld hx hb hX hq hf.2.2.2.1 hLL (i + 2) (nI_add i 2) (by omega) d_L_law_812 ?_
  refine lv_aload_n hx hb d_L_law_813 rfl (lv_at hl 0 rfl) ?_
  refine lv_iload hx hb d_L_law_814 (lv_at hl 4 rfl) ?_
  refine lv_iconst (v := 3) hx hb d_L_law_816 (by decide) ?_
  refine lv_iadd hx hb d_L_law_817 ?_
  refine rw_sld hx hb hX hq hf.2.2.2.1 hLL (i + 3) (nI_add i 3) (by omega) d_L_law_818 ?_
  refine lv_aload_n hx hb d_L_law_819 rfl (lv_at hl 3 rfl) ?_
  refine cl_eW (A := (fun z => (evH ev).size ≤ z)) (vx_runSW (As := [.ref b, .int (xs (i + 1)), .int (xs (i + 2)), .int (xs (i + 3)), .ref (b + 117)]) (rest := []) S (c_L_make hT hf ho (by omega) (xs (i + 1)) (xs (i + 2)) (xs (i + 3))) (vx_cwSW 5 hts gs_L_104 rfl rfl rfl (by decide +kernel) ⟨Nat.le_of_ble_eq_true rfl, Nat.le_of_ble_eq_true rfl⟩) (cP_S (KG_ok _) hK) rfl rfl hl.1 rfl (lv_room (Nat.le_of_ble_eq_true rfl)) d_L_law_820 ⟨by show _ ≤ 601024; omega, by show _ ≤ 7293000; omega⟩) hL (fun z h => Nat.le_trans hf.2.2.2.2 h) (fun r1 H1 L1 hp1 hL1 => ?_)
  obtain ⟨hp1, hF1⟩ := hp1
  have hm1 := MW_F hm ho hF1
  rcases hp1 with ⟨hok, rfl, hf1, ho1⟩ | ⟨hbad, rfl, hf1, ho1⟩
  · refine lv_istore (lv' := [(5, .int 0), (0, .ref q0), (1, .ref b), (2, .ref (b + 101)), (3, .ref (b + 117)), (4, .int (nI i))]) hx hb d_L_law_823 hl (by decide) rfl (fun ls hl => ?_)
    refine lv_aload_n hx hb d_L_law_825 rfl (lv_at hl 3 rfl) ?_
    refine lv_aload_n hx hb d_L_law_826 rfl (lv_at hl 1 rfl) ?_
    refine lv_iload hx hb d_L_law_827 (lv_at hl 5 rfl) ?_
    refine lv_iconst (v := 1) hx hb d_L_law_829 (by decide) ?_
    refine lv_iadd hx hb d_L_law_830 ?_
    refine rw_sld hx hb hX hq hf1.2.2.2.1 hLL (i + 1) (nI_add i 1) (by omega) d_L_law_831 ?_
    refine lv_aload_n hx hb d_L_law_832 rfl (lv_at hl 1 rfl) ?_
    refine lv_iload hx hb d_L_law_833 (lv_at hl 5 rfl) ?_
    refine lv_iconst (v := 2) hx hb d_L_law_835 (by decide) ?_
    refine lv_iadd hx hb d_L_law_836 ?_
    refine rw_sld hx hb hX hq hf1.2.2.2.1 hLL (i + 2) (nI_add i 2) (by omega) d_L_law_837 ?_
    refine lv_aload_n hx hb d_L_law_838 rfl (lv_at hl 1 rfl) ?_
    refine lv_iload hx hb d_L_law_839 (lv_at hl 5 rfl) ?_
    refine lv_iconst (v := 3) hx hb d_L_law_841 (by decide) ?_
    refine lv_iadd hx hb d_L_law_842 ?_
    refine rw_sld hx hb hX hq hf1.2.2.2.1 hLL (i + 3) (nI_add i 3) (by omega) d_L_law_843 ?_
    refine cl_e (A := (fun z => (evH ev).size ≤ z)) (W.runV (As := [.int (xs (i + 1)), .int (xs (i + 2)), .int (xs (i + 3))]) (rest := []) S (c_M_make hm1 (xs (i + 1)) (xs (i + 2)) (xs (i + 3))) (cwV 3 hts gv_L_107 rfl rfl rfl (by decide +kernel) ⟨Nat.le_of_ble_eq_true rfl, Nat.le_of_ble_eq_true rfl⟩) (cP_V (KG_ok _) hK hK.1 hm1.1 rfl) rfl rfl hl.1 rfl (lv_room (Nat.le_of_ble_eq_true rfl)) d_L_law_844 ⟨by show _ ≤ 601024; omega, by show _ ≤ 7293000; omega⟩) hL1 (fun z h => by have h9 := hf.2.2.2.2; omega) (fun r2 H2 L2 hp2 hL2 => ?_)
    obtain ⟨hp2, hB2⟩ := hp2
    obtain ⟨e8, hm2⟩ : r2 = .int (bI (!decide ((u.2.2.2 (nn (xs (i + 1)))).1 = (xs (i + 2)) ∧ (u.2.2.2 (nn (xs (i + 1)))).2.1 = (xs (i + 3))))) ∧ MW ev (b + 101) 0 (if (u.2.2.2 (nn (xs (i + 1)))).1 = (xs (i + 2)) ∧ (u.2.2.2 (nn (xs (i + 1)))).2.1 = (xs (i + 3)) then u else thgU u (nn (xs (i + 1))) ((xs (i + 2)), (xs (i + 3)), (u.2.2.2 (nn (xs (i + 1)))).2.2)) (if (u.2.2.2 (nn (xs (i + 1)))).1 = (xs (i + 2)) ∧ (u.2.2.2 (nn (xs (i + 1)))).2.1 = (xs (i + 3)) then kp else kpD kp (nn (xs (i + 1)))) v H2 := by
      rcases hp2 with ⟨g, e9, h9⟩ | ⟨g, e9, h9⟩
      · exact ⟨e9, h9⟩
      · exact (g hok).elim
    subst e8
    have hf2 := XF_B hf1 hB2
    have ho2 := pt_k ho1 (hB2.2 _ (by omega))
    refine lv_istore (lv' := [(6, .int (bI (!decide ((u.2.2.2 (nn (xs (i + 1)))).1 = (xs (i + 2)) ∧ (u.2.2.2 (nn (xs (i + 1)))).2.1 = (xs (i + 3)))))), (5, .int 0), (0, .ref q0), (1, .ref b), (2, .ref (b + 101)), (3, .ref (b + 117)), (4, .int (nI i))]) hx hb d_L_law_847 hl (by decide) rfl (fun ls hl => ?_)
    refine lv_aload_n hx hb d_L_law_849 rfl (lv_at hl 4 rfl) ?_
    refine cl_i (W.runV (As := []) (rest := []) S (c_M_thrown hm2.1) (cwV 0 hts gv_L_85 rfl rfl rfl (by decide +kernel) ⟨Nat.le_of_ble_eq_true rfl, Nat.le_of_ble_eq_true rfl⟩) (cP_V (KG_ok _) hK hK.1 hm2.1 rfl) rfl rfl hl.1 rfl (lv_room (Nat.le_of_ble_eq_true rfl)) d_L_law_850 ⟨by show _ ≤ 601024; omega, by show _ ≤ 7293000; omega⟩) ?_
    refine lv_iload hx hb d_L_law_853 (lv_at hl 1 rfl) ?_
    refine lv_icmp_eq (tgt := 860) hx hb d_L_law_855 (by decide) (fun _ => ?_) (fun c9 => absurd rfl c9)
    refine lv_iload hx hb d_L_law_860 (lv_at hl 1 rfl) ?_
    refine lv_if_ne (tgt := 884) hx hb d_L_law_862 (by decide) (fun c862 => ?_) (fun c862 => ?_)
    · exact absurd c862 (by decide)
    · refine lv_aload_n hx hb d_L_law_865 rfl (lv_at hl 5 rfl) ?_
      refine lv_iconst (v := 0) hx hb d_L_law_866 (by decide) ?_
      refine rw_lald hx hb hK.1 1 ho2 rfl 0 rfl (by decide) (by decide) d_L_law_867 ?_
      refine tp_l (y := (bI (!decide ((u.2.2.2 (nn (xs (i + 1)))).1 = (xs (i + 2)) ∧ (u.2.2.2 (nn (xs (i + 1)))).2.1 = (xs (i + 3))))).toInt64) pk_uLs ?_
      refine lv_iload hx hb d_L_law_868 (lv_at hl 0 rfl) ?_
      refine lv_if_eq (tgt := 877) hx hb d_L_law_870 (by decide) (fun c870 => ?_) (fun c870 => ?_)
      · refine lv_lconst (v := 0) hx hb d_L_law_877 (by decide) ?_
        refine ll_eq (tgt := 884) hx hb d_L_law_878 d_L_law_879 (by decide) (fun _ => ?_) (fun c9 => absurd (by rw [c870]; rfl) c9)
        refine lv_goto (tgt := 1599) hx hb d_L_law_884 (by decide) ?_
        exact W.widen (by omega) (by omega) (K9 _ _ _ _ _ _ _ ls hf2 hm2 ho2 hL2 (lv_sub hl [2, 3, 4, 5, 6] rfl))
      · refine lv_lconst (v := 1) hx hb d_L_law_873 (by decide) ?_
        refine lv_goto (tgt := 878) hx hb d_L_law_874 (by decide) ?_
        refine ll_eq (tgt := 884) hx hb d_L_law_878 d_L_law_879 (by decide) (fun _ => ?_) (fun c9 => absurd (by rw [bI_1 c870]; rfl) c9)
        refine lv_goto (tgt := 1599) hx hb d_L_law_884 (by decide) ?_
        exact W.widen (by omega) (by omega) (K9 _ _ _ _ _ _ _ ls hf2 hm2 ho2 hL2 (lv_sub hl [2, 3, 4, 5, 6] rfl))
  · refine lv_istore (lv' := [(5, .int 1), (0, .ref q0), (1, .ref b), (2, .ref (b + 101)), (3, .ref (b + 117)), (4, .int (nI i))]) hx hb d_L_law_823 hl (by decide) rfl (fun ls hl => ?_)
    refine lv_aload_n hx hb d_L_law_825 rfl (lv_at hl 3 rfl) ?_
    refine lv_aload_n hx hb d_L_law_826 rfl (lv_at hl 1 rfl) ?_
    refine lv_iload hx hb d_L_law_827 (lv_at hl 5 rfl) ?_
    refine lv_iconst (v := 1) hx hb d_L_law_829 (by decide) ?_
    refine lv_iadd hx hb d_L_law_830 ?_
    refine rw_sld hx hb hX hq hf1.2.2.2.1 hLL (i + 1) (nI_add i 1) (by omega) d_L_law_831 ?_
    refine lv_aload_n hx hb d_L_law_832 rfl (lv_at hl 1 rfl) ?_
    refine lv_iload hx hb d_L_law_833 (lv_at hl 5 rfl) ?_
    refine lv_iconst (v := 2) hx hb d_L_law_835 (by decide) ?_
    refine lv_iadd hx hb d_L_law_836 ?_
    refine rw_sld hx hb hX hq hf1.2.2.2.1 hLL (i + 2) (nI_add i 2) (by omega) d_L_law_837 ?_
    refine lv_aload_n hx hb d_L_law_838 rfl (lv_at hl 1 rfl) ?_
    refine lv_iload hx hb d_L_law_839 (lv_at hl 5 rfl) ?_
    refine lv_iconst (v := 3) hx hb d_L_law_841 (by decide) ?_
    refine lv_iadd hx hb d_L_law_842 ?_
    refine rw_sld hx hb hX hq hf1.2.2.2.1 hLL (i + 3) (nI_add i 3) (by omega) d_L_law_843 ?_
    refine cl_e (A := (fun z => (evH ev).size ≤ z)) (W.runV (As := [.int (xs (i + 1)), .int (xs (i + 2)), .int (xs (i + 3))]) (rest := []) S (c_M_make hm1 (xs (i + 1)) (xs (i + 2)) (xs (i + 3))) (cwV 3 hts gv_L_107 rfl rfl rfl (by decide +kernel) ⟨Nat.le_of_ble_eq_true rfl, Nat.le_of_ble_eq_true rfl⟩) (cP_V (KG_ok _) hK hK.1 hm1.1 rfl) rfl rfl hl.1 rfl (lv_room (Nat.le_of_ble_eq_true rfl)) d_L_law_844 ⟨by show _ ≤ 601024; omega, by show _ ≤ 7293000; omega⟩) hL1 (fun z h => by have h9 := hf.2.2.2.2; omega) (fun r2 H2 L2 hp2 hL2 => ?_)
    obtain ⟨hp2, hB2⟩ := hp2
    obtain ⟨e8, hm2⟩ : r2 = .int 0 ∧ MW ev (b + 101) 1 u kp v H2 := by
      rcases hp2 with ⟨g, e9, h9⟩ | ⟨g, e9, h9⟩
      · exact (hbad g).elim
      · exact ⟨e9, h9⟩
    subst e8
    have hf2 := XF_B hf1 hB2
    have ho2 := pt_k ho1 (hB2.2 _ (by omega))
    refine lv_istore (lv' := [(6, .int 0), (5, .int 1), (0, .ref q0), (1, .ref b), (2, .ref (b + 101)), (3, .ref (b + 117)), (4, .int (nI i))]) hx hb d_L_law_847 hl (by decide) rfl (fun ls hl => ?_)
    refine lv_aload_n hx hb d_L_law_849 rfl (lv_at hl 4 rfl) ?_
    refine cl_i (W.runV (As := []) (rest := []) S (c_M_thrown hm2.1) (cwV 0 hts gv_L_85 rfl rfl rfl (by decide +kernel) ⟨Nat.le_of_ble_eq_true rfl, Nat.le_of_ble_eq_true rfl⟩) (cP_V (KG_ok _) hK hK.1 hm2.1 rfl) rfl rfl hl.1 rfl (lv_room (Nat.le_of_ble_eq_true rfl)) d_L_law_850 ⟨by show _ ≤ 601024; omega, by show _ ≤ 7293000; omega⟩) ?_
    refine lv_iload hx hb d_L_law_853 (lv_at hl 1 rfl) ?_
    refine lv_icmp_eq (tgt := 860) hx hb d_L_law_855 (by decide) (fun _ => ?_) (fun c9 => absurd rfl c9)
    refine lv_iload hx hb d_L_law_860 (lv_at hl 1 rfl) ?_
    refine lv_if_ne (tgt := 884) hx hb d_L_law_862 (by decide) (fun c862 => ?_) (fun c862 => ?_)
    · refine lv_goto (tgt := 1599) hx hb d_L_law_884 (by decide) ?_
      exact W.widen (by omega) (by omega) (K9 _ _ _ _ _ _ _ ls hf2 hm2 ho2 hL2 (lv_sub hl [2, 3, 4, 5, 6] rfl))
    · exact absurd c862 (by decide)
set_option maxRecDepth 100000 in
set_option maxHeartbeats 4000000 in
theorem lk_move {p : Program} {l : Launch} {e : Env} {s : State} {m : MethodId} {below : List Frame} {meth : Method} {c : Code} {ev : EV} {QQ : State → Prop} {q0 L b i C Sl : Nat} {xs : Nat → Int32} {th : Int32} {u : XS} {kp : KT} {v : PT} {f : Nat → Int64} {H : Heap} {locs : List Loc} {ls : Array Slot} (S : CallFix p m c code 8 s #[Value.ref q0] TB "RuleChoiceLaw") (hK : KG ev s) (hT : l.stackTraces = false) (hX : va_X q0 L xs s (evH ev)) (hq : q0 < (evH ev).size) (hLL : L ≤ 4609) (hi9 : i + 9 ≤ L) (hC : C + 5 ≤ 601024) (hSl : Sl + 30 ≤ 7293000) (hf : XF ev b u kp v H) (hm : MW ev (b + 101) th u kp v H) (ho : pt ev H (b + 117) (aL ev 1 f)) (hL : ∀ z ∈ locs, (evH ev).size ≤ z.base) (K9 : ∀ (th1 : Int32) (u1 : XS) (kp1 : KT) (v1 : PT) (f1 : Nat → Int64) (H1 : Heap) (locs1 : List Loc) (ls1 : Array Slot), XF ev b u1 kp1 v1 H1 → MW ev (b + 101) th1 u1 kp1 v1 H1 → pt ev H1 (b + 117) (aL ev 1 f1) → (∀ z ∈ locs1, (evH ev).size ≤ z.base) → lv_has ls1 8 [(0, .ref q0), (1, .ref b), (2, .ref (b + 101)), (3, .ref (b + 117)), (4, .int (nI i))] → W p l e room_1 s m #[Value.ref q0] below meth c H1 locs1 (C + 5) (Sl + 30) QQ (F0 m 1599 ls1 [])) (hl : lv_has ls 8 [(0, .ref q0), (1, .ref b), (2, .ref (b + 101)), (3, .ref (b + 117)), (4, .int (nI i))]) : W p l e room_1 s m #[Value.ref q0] below meth c H locs C Sl QQ (F0 m 887 ls []) := by
  obtain ⟨hx, hb, hml, hown, hts⟩ := id S
  refine lv_aload_n hx hb d_L_law_887 rfl (lv_at hl 1 rfl) ?_
  refine lv_aload_n hx hb d_L_law_888 rfl (lv_at hl 0 rfl) ?_
  refine lv_iload hx hb d_L_law_889 (lv_at hl 4 rfl) ?_
  refine lv_iconst (v := 1) hx hb d_L_law_891 (by decide) ?_
  refine lv_iadd hx hb d_L_law_892 ?_
  refine rw_sld hx hb hX hq hf.2.2.2.1 hLL (i + 1) (nI_add i 1) (by omega) d_L_law_893 ?_
  refine lv_aload_n hx hb d_L_law_894 rfl (lv_at hl 0 rfl) ?_
  refine lv_iload hx hb d_L_law_895 (lv_at hl 4 rfl) ?_
  refine lv_iconst (v := 2) hx hb d_L_law_897 (by decide) ?_
  refine lv_iadd hx hb d_L_law_898 ?_
  refine rw_sld hx hb hX hq hf.2.2.2.1 hLL (i + 2) (nI_add i 2) (by omega) d_L_law_899 ?_
  refine lv_i2l (v := (xs (i + 2)).toInt64) hx hb d_L_law_900 rfl ?_
  refine lv_bipush (v := 32) hx hb d_L_law_901 (by decide) ?_
  refine lv_lshl (v := (((xs (i + 2)).toInt64) <<< ((32 : Int32).toInt64 &&& 63))) hx hb d_L_law_903 rfl ?_
  refine lv_aload_n hx hb d_L_law_904 rfl (lv_at hl 0 rfl) ?_
  refine lv_iload hx hb d_L_law_905 (lv_at hl 4 rfl) ?_
  refine lv_iconst (v := 3) hx hb d_L_law_907 (by decide) ?_
  refine lv_iadd hx hb d_L_law_908 ?_
  refine rw_sld hx hb hX hq hf.2.2.2.1 hLL (i + 3) (nI_add i 3) (by omega) d_L_law_909 ?_
  refine lv_i2l (v := (xs (i + 3)).toInt64) hx hb d_L_law_910 rfl ?_
  refine lv_ldc2 (v := 4294967295) hx hb hown (hts _ kl_L_79) d_L_law_911 ?_
  refine lv_land hx hb d_L_law_914 ?_
  refine lv_lor hx hb d_L_law_915 ?_
  refine tp_l (y := (lo2 (xs (i + 2)) (xs (i + 3)))) rfl ?_
  refine lv_aload_n hx hb d_L_law_916 rfl (lv_at hl 0 rfl) ?_
  refine lv_iload hx hb d_L_law_917 (lv_at hl 4 rfl) ?_
  refine lv_iconst (v := 4) hx hb d_L_law_919 (by decide) ?_
  refine lv_iadd hx hb d_L_law_920 ?_
  refine rw_sld hx hb hX hq hf.2.2.2.1 hLL (i + 4) (nI_add i 4) (by omega) d_L_law_921 ?_
  refine lv_i2l (v := (xs (i + 4)).toInt64) hx hb d_L_law_922 rfl ?_
  refine lv_bipush (v := 32) hx hb d_L_law_923 (by decide) ?_
  refine lv_lshl (v := (((xs (i + 4)).toInt64) <<< ((32 : Int32).toInt64 &&& 63))) hx hb d_L_law_925 rfl ?_
  refine lv_aload_n hx hb d_L_law_926 rfl (lv_at hl 0 rfl) ?_
  refine lv_iload hx hb d_L_law_927 (lv_at hl 4 rfl) ?_
  refine lv_iconst (v := 5) hx hb d_L_law_929 (by decide) ?_
  refine lv_iadd hx hb d_L_law_930 ?_
  refine rw_sld hx hb hX hq hf.2.2.2.1 hLL (i + 5) (nI_add i 5) (by omega) d_L_law_931 ?_
  refine lv_i2l (v := (xs (i + 5)).toInt64) hx hb d_L_law_932 rfl ?_
  refine lv_ldc2 (v := 4294967295) hx hb hown (hts _ kl_L_79) d_L_law_933 ?_
  refine lv_land hx hb d_L_law_936 ?_
  refine lv_lor hx hb d_L_law_937 ?_
  refine tp_l (y := (lo2 (xs (i + 4)) (xs (i + 5)))) rfl ?_
  refine lv_aload_n hx hb d_L_law_938 rfl (lv_at hl 3 rfl) ?_
  refine cl_eW (A := (fun z => (evH ev).size ≤ z)) (vx_runSW (As := [.ref b, .int (xs (i + 1)), .long (lo2 (xs (i + 2)) (xs (i + 3))), .long (lo2 (xs (i + 4)) (xs (i + 5))), .ref (b + 117)]) (rest := []) S (c_L_move hT hf ho (by omega) (xs (i + 1)) (lo2 (xs (i + 2)) (xs (i + 3))) (lo2 (xs (i + 4)) (xs (i + 5)))) (vx_cwSW 5 hts gs_L_108 rfl rfl rfl (by decide +kernel) ⟨Nat.le_of_ble_eq_true rfl, Nat.le_of_ble_eq_true rfl⟩) (cP_S (KG_ok _) hK) rfl rfl hl.1 rfl (lv_room (Nat.le_of_ble_eq_true rfl)) d_L_law_939 ⟨by show _ ≤ 601024; omega, by show _ ≤ 7293000; omega⟩) hL (fun z h => Nat.le_trans hf.2.2.2.2 h) (fun r1 H1 L1 hp1 hL1 => ?_)
  obtain ⟨hp1, hF1⟩ := hp1
  have hm1 := MW_F hm ho hF1
  rcases hp1 with ⟨hok, rfl, hf1, ho1⟩ | ⟨hbad, rfl, hf1, ho1⟩ | ⟨hbad, rfl, hf1, ho1⟩
  · refine lv_istore (lv' := [(5, .int 0), (0, .ref q0), (1, .ref b), (2, .ref (b + 101)), (3, .ref (b + 117)), (4, .int (nI i))]) hx hb d_L_law_942 hl (by decide) rfl (fun ls hl => ?_)
    refine lv_aload_n hx hb d_L_law_944 rfl (lv_at hl 3 rfl) ?_
    refine lv_aload_n hx hb d_L_law_945 rfl (lv_at hl 1 rfl) ?_
    refine lv_iload hx hb d_L_law_946 (lv_at hl 5 rfl) ?_
    refine lv_iconst (v := 1) hx hb d_L_law_948 (by decide) ?_
    refine lv_iadd hx hb d_L_law_949 ?_
    refine rw_sld hx hb hX hq hf1.2.2.2.1 hLL (i + 1) (nI_add i 1) (by omega) d_L_law_950 ?_
    refine lv_aload_n hx hb d_L_law_951 rfl (lv_at hl 1 rfl) ?_
    refine lv_iload hx hb d_L_law_952 (lv_at hl 5 rfl) ?_
    refine lv_iconst (v := 2) hx hb d_L_law_954 (by decide) ?_
    refine lv_iadd hx hb d_L_law_955 ?_
    refine rw_sld hx hb hX hq hf1.2.2.2.1 hLL (i + 2) (nI_add i 2) (by omega) d_L_law_956 ?_
    refine lv_i2l (v := (xs (i + 2)).toInt64) hx hb d_L_law_957 rfl ?_
    refine lv_bipush (v := 32) hx hb d_L_law_958 (by decide) ?_
    refine lv_lshl (v := (((xs (i + 2)).toInt64) <<< ((32 : Int32).toInt64 &&& 63))) hx hb d_L_law_960 rfl ?_
    refine lv_aload_n hx hb d_L_law_961 rfl (lv_at hl 1 rfl) ?_
    refine lv_iload hx hb d_L_law_962 (lv_at hl 5 rfl) ?_
    refine lv_iconst (v := 3) hx hb d_L_law_964 (by decide) ?_
    refine lv_iadd hx hb d_L_law_965 ?_
    refine rw_sld hx hb hX hq hf1.2.2.2.1 hLL (i + 3) (nI_add i 3) (by omega) d_L_law_966 ?_
    refine lv_i2l (v := (xs (i + 3)).toInt64) hx hb d_L_law_967 rfl ?_
    refine lv_ldc2 (v := 4294967295) hx hb hown (hts _ kl_L_79) d_L_law_968 ?_
    refine lv_land hx hb d_L_law_971 ?_
    refine lv_lor hx hb d_L_law_972 ?_
    refine tp_l (y := (lo2 (xs (i + 2)) (xs (i + 3)))) rfl ?_
    refine lv_aload_n hx hb d_L_law_973 rfl (lv_at hl 1 rfl) ?_
    refine lv_iload hx hb d_L_law_974 (lv_at hl 5 rfl) ?_
    refine lv_iconst (v := 4) hx hb d_L_law_976 (by decide) ?_
    refine lv_iadd hx hb d_L_law_977 ?_
    refine rw_sld hx hb hX hq hf1.2.2.2.1 hLL (i + 4) (nI_add i 4) (by omega) d_L_law_978 ?_
    refine lv_i2l (v := (xs (i + 4)).toInt64) hx hb d_L_law_979 rfl ?_
    refine lv_bipush (v := 32) hx hb d_L_law_980 (by decide) ?_
    refine lv_lshl (v := (((xs (i + 4)).toInt64) <<< ((32 : Int32).toInt64 &&& 63))) hx hb d_L_law_982 rfl ?_
    refine lv_aload_n hx hb d_L_law_983 rfl (lv_at hl 1 rfl) ?_
    refine lv_iload hx hb d_L_law_984 (lv_at hl 5 rfl) ?_
    refine lv_iconst (v := 5) hx hb d_L_law_986 (by decide) ?_
    refine lv_iadd hx hb d_L_law_987 ?_
    refine rw_sld hx hb hX hq hf1.2.2.2.1 hLL (i + 5) (nI_add i 5) (by omega) d_L_law_988 ?_
    refine lv_i2l (v := (xs (i + 5)).toInt64) hx hb d_L_law_989 rfl ?_
    refine lv_ldc2 (v := 4294967295) hx hb hown (hts _ kl_L_79) d_L_law_990 ?_
    refine lv_land hx hb d_L_law_993 ?_
    refine lv_lor hx hb d_L_law_994 ?_
    refine tp_l (y := (lo2 (xs (i + 4)) (xs (i + 5)))) rfl ?_
    refine cl_e (A := (fun z => (evH ev).size ≤ z)) (W.runV (As := [.int (xs (i + 1)), .long (lo2 (xs (i + 2)) (xs (i + 3))), .long (lo2 (xs (i + 4)) (xs (i + 5)))]) (rest := []) S (c_M_move hm1 (xs (i + 1)) (lo2 (xs (i + 2)) (xs (i + 3))) (lo2 (xs (i + 4)) (xs (i + 5)))) (cwV 3 hts gv_L_111 rfl rfl rfl (by decide +kernel) ⟨Nat.le_of_ble_eq_true rfl, Nat.le_of_ble_eq_true rfl⟩) (cP_V (KG_ok _) hK hK.1 hm1.1 rfl) rfl rfl hl.1 rfl (lv_room (Nat.le_of_ble_eq_true rfl)) d_L_law_995 ⟨by show _ ≤ 601024; omega, by show _ ≤ 7293000; omega⟩) hL1 (fun z h => by have h9 := hf.2.2.2.2; omega) (fun r2 H2 L2 hp2 hL2 => ?_)
    obtain ⟨hp2, hB2⟩ := hp2
    obtain ⟨e8, hm2⟩ : r2 = .int (bI (!decide ((u.2.2.2 (nn (xs (i + 1)))).2.2.1 = (lo2 (xs (i + 2)) (xs (i + 3))) ∧ (u.2.2.2 (nn (xs (i + 1)))).2.2.2 = (lo2 (xs (i + 4)) (xs (i + 5)))))) ∧ MW ev (b + 101) 0 (if (u.2.2.2 (nn (xs (i + 1)))).2.2.1 = (lo2 (xs (i + 2)) (xs (i + 3))) ∧ (u.2.2.2 (nn (xs (i + 1)))).2.2.2 = (lo2 (xs (i + 4)) (xs (i + 5))) then u else thgU u (nn (xs (i + 1))) ((u.2.2.2 (nn (xs (i + 1)))).1, (u.2.2.2 (nn (xs (i + 1)))).2.1, (lo2 (xs (i + 2)) (xs (i + 3))), (lo2 (xs (i + 4)) (xs (i + 5))))) (if (u.2.2.2 (nn (xs (i + 1)))).2.2.1 = (lo2 (xs (i + 2)) (xs (i + 3))) ∧ (u.2.2.2 (nn (xs (i + 1)))).2.2.2 = (lo2 (xs (i + 4)) (xs (i + 5))) then kp else if arnF u.2.2.1 (u.2.2.2 (nn (xs (i + 1)))).2.2.1 (u.2.2.2 (nn (xs (i + 1)))).2.2.2 u.1.2.2.1 = arnF u.2.2.1 (lo2 (xs (i + 2)) (xs (i + 3))) (lo2 (xs (i + 4)) (xs (i + 5))) u.1.2.2.1 then kp else kpD kp (nn (xs (i + 1)))) v H2 := by
      rcases hp2 with ⟨g, e9, h9⟩ | ⟨g, e9, h9⟩ | ⟨g, e9, h9⟩
      · exact ⟨e9, h9⟩
      · exact (g hok.1).elim
      · exact (g.2 hok.2).elim
    subst e8
    have hf2 := XF_B hf1 hB2
    have ho2 := pt_k ho1 (hB2.2 _ (by omega))
    refine lv_istore (lv' := [(6, .int (bI (!decide ((u.2.2.2 (nn (xs (i + 1)))).2.2.1 = (lo2 (xs (i + 2)) (xs (i + 3))) ∧ (u.2.2.2 (nn (xs (i + 1)))).2.2.2 = (lo2 (xs (i + 4)) (xs (i + 5))))))), (5, .int 0), (0, .ref q0), (1, .ref b), (2, .ref (b + 101)), (3, .ref (b + 117)), (4, .int (nI i))]) hx hb d_L_law_998 hl (by decide) rfl (fun ls hl => ?_)
    refine lv_aload_n hx hb d_L_law_1000 rfl (lv_at hl 4 rfl) ?_
    refine cl_i (W.runV (As := []) (rest := []) S (c_M_thrown hm2.1) (cwV 0 hts gv_L_85 rfl rfl rfl (by decide +kernel) ⟨Nat.le_of_ble_eq_true rfl, Nat.le_of_ble_eq_true rfl⟩) (cP_V (KG_ok _) hK hK.1 hm2.1 rfl) rfl rfl hl.1 rfl (lv_room (Nat.le_of_ble_eq_true rfl)) d_L_law_1001 ⟨by show _ ≤ 601024; omega, by show _ ≤ 7293000; omega⟩) ?_
    refine lv_iload hx hb d_L_law_1004 (lv_at hl 1 rfl) ?_
    refine lv_icmp_eq (tgt := 1011) hx hb d_L_law_1006 (by decide) (fun _ => ?_) (fun c9 => absurd rfl c9)
    refine lv_iload hx hb d_L_law_1011 (lv_at hl 1 rfl) ?_
    refine lv_if_ne (tgt := 1035) hx hb d_L_law_1013 (by decide) (fun c1013 => ?_) (fun c1013 => ?_)
    · exact absurd c1013 (by decide)
    · refine lv_aload_n hx hb d_L_law_1016 rfl (lv_at hl 5 rfl) ?_
      refine lv_iconst (v := 0) hx hb d_L_law_1017 (by decide) ?_
      refine rw_lald hx hb hK.1 1 ho2 rfl 0 rfl (by decide) (by decide) d_L_law_1018 ?_
      refine tp_l (y := (bI (!decide ((u.2.2.2 (nn (xs (i + 1)))).2.2.1 = (lo2 (xs (i + 2)) (xs (i + 3))) ∧ (u.2.2.2 (nn (xs (i + 1)))).2.2.2 = (lo2 (xs (i + 4)) (xs (i + 5)))))).toInt64) pk_uLs ?_
      refine lv_iload hx hb d_L_law_1019 (lv_at hl 0 rfl) ?_
      refine lv_if_eq (tgt := 1028) hx hb d_L_law_1021 (by decide) (fun c1021 => ?_) (fun c1021 => ?_)
      · refine lv_lconst (v := 0) hx hb d_L_law_1028 (by decide) ?_
        refine ll_eq (tgt := 1035) hx hb d_L_law_1029 d_L_law_1030 (by decide) (fun _ => ?_) (fun c9 => absurd (by rw [c1021]; rfl) c9)
        refine lv_goto (tgt := 1599) hx hb d_L_law_1035 (by decide) ?_
        exact W.widen (by omega) (by omega) (K9 _ _ _ _ _ _ _ ls hf2 hm2 ho2 hL2 (lv_sub hl [2, 3, 4, 5, 6] rfl))
      · refine lv_lconst (v := 1) hx hb d_L_law_1024 (by decide) ?_
        refine lv_goto (tgt := 1029) hx hb d_L_law_1025 (by decide) ?_
        refine ll_eq (tgt := 1035) hx hb d_L_law_1029 d_L_law_1030 (by decide) (fun _ => ?_) (fun c9 => absurd (by rw [bI_1 c1021]; rfl) c9)
        refine lv_goto (tgt := 1599) hx hb d_L_law_1035 (by decide) ?_
        exact W.widen (by omega) (by omega) (K9 _ _ _ _ _ _ _ ls hf2 hm2 ho2 hL2 (lv_sub hl [2, 3, 4, 5, 6] rfl))
  · refine lv_istore (lv' := [(5, .int 1), (0, .ref q0), (1, .ref b), (2, .ref (b + 101)), (3, .ref (b + 117)), (4, .int (nI i))]) hx hb d_L_law_942 hl (by decide) rfl (fun ls hl => ?_)
    refine lv_aload_n hx hb d_L_law_944 rfl (lv_at hl 3 rfl) ?_
    refine lv_aload_n hx hb d_L_law_945 rfl (lv_at hl 1 rfl) ?_
    refine lv_iload hx hb d_L_law_946 (lv_at hl 5 rfl) ?_
    refine lv_iconst (v := 1) hx hb d_L_law_948 (by decide) ?_
    refine lv_iadd hx hb d_L_law_949 ?_
    refine rw_sld hx hb hX hq hf1.2.2.2.1 hLL (i + 1) (nI_add i 1) (by omega) d_L_law_950 ?_
    refine lv_aload_n hx hb d_L_law_951 rfl (lv_at hl 1 rfl) ?_
    refine lv_iload hx hb d_L_law_952 (lv_at hl 5 rfl) ?_
    refine lv_iconst (v := 2) hx hb d_L_law_954 (by decide) ?_
    refine lv_iadd hx hb d_L_law_955 ?_
    refine rw_sld hx hb hX hq hf1.2.2.2.1 hLL (i + 2) (nI_add i 2) (by omega) d_L_law_956 ?_
    refine lv_i2l (v := (xs (i + 2)).toInt64) hx hb d_L_law_957 rfl ?_
    refine lv_bipush (v := 32) hx hb d_L_law_958 (by decide) ?_
    refine lv_lshl (v := (((xs (i + 2)).toInt64) <<< ((32 : Int32).toInt64 &&& 63))) hx hb d_L_law_960 rfl ?_
    refine lv_aload_n hx hb d_L_law_961 rfl (lv_at hl 1 rfl) ?_
    refine lv_iload hx hb d_L_law_962 (lv_at hl 5 rfl) ?_
    refine lv_iconst (v := 3) hx hb d_L_law_964 (by decide) ?_
    refine lv_iadd hx hb d_L_law_965 ?_
    refine rw_sld hx hb hX hq hf1.2.2.2.1 hLL (i + 3) (nI_add i 3) (by omega) d_L_law_966 ?_
    refine lv_i2l (v := (xs (i + 3)).toInt64) hx hb d_L_law_967 rfl ?_
    refine lv_ldc2 (v := 4294967295) hx hb hown (hts _ kl_L_79) d_L_law_968 ?_
    refine lv_land hx hb d_L_law_971 ?_
    refine lv_lor hx hb d_L_law_972 ?_
    refine tp_l (y := (lo2 (xs (i + 2)) (xs (i + 3)))) rfl ?_
    refine lv_aload_n hx hb d_L_law_973 rfl (lv_at hl 1 rfl) ?_
    refine lv_iload hx hb d_L_law_974 (lv_at hl 5 rfl) ?_
    refine lv_iconst (v := 4) hx hb d_L_law_976 (by decide) ?_
    refine lv_iadd hx hb d_L_law_977 ?_
    refine rw_sld hx hb hX hq hf1.2.2.2.1 hLL (i + 4) (nI_add i 4) (by omega) d_L_law_978 ?_
    refine lv_i2l (v := (xs (i + 4)).toInt64) hx hb d_L_law_979 rfl ?_
    refine lv_bipush (v := 32) hx hb d_L_law_980 (by decide) ?_
    refine lv_lshl (v := (((xs (i + 4)).toInt64) <<< ((32 : Int32).toInt64 &&& 63))) hx hb d_L_law_982 rfl ?_
    refine lv_aload_n hx hb d_L_law_983 rfl (lv_at hl 1 rfl) ?_
    refine lv_iload hx hb d_L_law_984 (lv_at hl 5 rfl) ?_
    refine lv_iconst (v := 5) hx hb d_L_law_986 (by decide) ?_
    refine lv_iadd hx hb d_L_law_987 ?_
    refine rw_sld hx hb hX hq hf1.2.2.2.1 hLL (i + 5) (nI_add i 5) (by omega) d_L_law_988 ?_
    refine lv_i2l (v := (xs (i + 5)).toInt64) hx hb d_L_law_989 rfl ?_
    refine lv_ldc2 (v := 4294967295) hx hb hown (hts _ kl_L_79) d_L_law_990 ?_
    refine lv_land hx hb d_L_law_993 ?_
    refine lv_lor hx hb d_L_law_994 ?_
    refine tp_l (y := (lo2 (xs (i + 4)) (xs (i + 5)))) rfl ?_
    refine cl_e (A := (fun z => (evH ev).size ≤ z)) (W.runV (As := [.int (xs (i + 1)), .long (lo2 (xs (i + 2)) (xs (i + 3))), .long (lo2 (xs (i + 4)) (xs (i + 5)))]) (rest := []) S (c_M_move hm1 (xs (i + 1)) (lo2 (xs (i + 2)) (xs (i + 3))) (lo2 (xs (i + 4)) (xs (i + 5)))) (cwV 3 hts gv_L_111 rfl rfl rfl (by decide +kernel) ⟨Nat.le_of_ble_eq_true rfl, Nat.le_of_ble_eq_true rfl⟩) (cP_V (KG_ok _) hK hK.1 hm1.1 rfl) rfl rfl hl.1 rfl (lv_room (Nat.le_of_ble_eq_true rfl)) d_L_law_995 ⟨by show _ ≤ 601024; omega, by show _ ≤ 7293000; omega⟩) hL1 (fun z h => by have h9 := hf.2.2.2.2; omega) (fun r2 H2 L2 hp2 hL2 => ?_)
    obtain ⟨hp2, hB2⟩ := hp2
    obtain ⟨e8, hm2⟩ : r2 = .int 0 ∧ MW ev (b + 101) 1 u kp v H2 := by
      rcases hp2 with ⟨g, e9, h9⟩ | ⟨g, e9, h9⟩ | ⟨g, e9, h9⟩
      · exact (hbad g.1).elim
      · exact ⟨e9, h9⟩
      · exact (hbad g.1).elim
    subst e8
    have hf2 := XF_B hf1 hB2
    have ho2 := pt_k ho1 (hB2.2 _ (by omega))
    refine lv_istore (lv' := [(6, .int 0), (5, .int 1), (0, .ref q0), (1, .ref b), (2, .ref (b + 101)), (3, .ref (b + 117)), (4, .int (nI i))]) hx hb d_L_law_998 hl (by decide) rfl (fun ls hl => ?_)
    refine lv_aload_n hx hb d_L_law_1000 rfl (lv_at hl 4 rfl) ?_
    refine cl_i (W.runV (As := []) (rest := []) S (c_M_thrown hm2.1) (cwV 0 hts gv_L_85 rfl rfl rfl (by decide +kernel) ⟨Nat.le_of_ble_eq_true rfl, Nat.le_of_ble_eq_true rfl⟩) (cP_V (KG_ok _) hK hK.1 hm2.1 rfl) rfl rfl hl.1 rfl (lv_room (Nat.le_of_ble_eq_true rfl)) d_L_law_1001 ⟨by show _ ≤ 601024; omega, by show _ ≤ 7293000; omega⟩) ?_
    refine lv_iload hx hb d_L_law_1004 (lv_at hl 1 rfl) ?_
    refine lv_icmp_eq (tgt := 1011) hx hb d_L_law_1006 (by decide) (fun _ => ?_) (fun c9 => absurd rfl c9)
    refine lv_iload hx hb d_L_law_1011 (lv_at hl 1 rfl) ?_
    refine lv_if_ne (tgt := 1035) hx hb d_L_law_1013 (by decide) (fun c1013 => ?_) (fun c1013 => ?_)
    · refine lv_goto (tgt := 1599) hx hb d_L_law_1035 (by decide) ?_
      exact W.widen (by omega) (by omega) (K9 _ _ _ _ _ _ _ ls hf2 hm2 ho2 hL2 (lv_sub hl [2, 3, 4, 5, 6] rfl))
    · exact absurd c1013 (by decide)
  · refine lv_istore (lv' := [(5, .int 2), (0, .ref q0), (1, .ref b), (2, .ref (b + 101)), (3, .ref (b + 117)), (4, .int (nI i))]) hx hb d_L_law_942 hl (by decide) rfl (fun ls hl => ?_)
    refine lv_aload_n hx hb d_L_law_944 rfl (lv_at hl 3 rfl) ?_
    refine lv_aload_n hx hb d_L_law_945 rfl (lv_at hl 1 rfl) ?_
    refine lv_iload hx hb d_L_law_946 (lv_at hl 5 rfl) ?_
    refine lv_iconst (v := 1) hx hb d_L_law_948 (by decide) ?_
    refine lv_iadd hx hb d_L_law_949 ?_
    refine rw_sld hx hb hX hq hf1.2.2.2.1 hLL (i + 1) (nI_add i 1) (by omega) d_L_law_950 ?_
    refine lv_aload_n hx hb d_L_law_951 rfl (lv_at hl 1 rfl) ?_
    refine lv_iload hx hb d_L_law_952 (lv_at hl 5 rfl) ?_
    refine lv_iconst (v := 2) hx hb d_L_law_954 (by decide) ?_
    refine lv_iadd hx hb d_L_law_955 ?_
    refine rw_sld hx hb hX hq hf1.2.2.2.1 hLL (i + 2) (nI_add i 2) (by omega) d_L_law_956 ?_
    refine lv_i2l (v := (xs (i + 2)).toInt64) hx hb d_L_law_957 rfl ?_
    refine lv_bipush (v := 32) hx hb d_L_law_958 (by decide) ?_
    refine lv_lshl (v := (((xs (i + 2)).toInt64) <<< ((32 : Int32).toInt64 &&& 63))) hx hb d_L_law_960 rfl ?_
    refine lv_aload_n hx hb d_L_law_961 rfl (lv_at hl 1 rfl) ?_
    refine lv_iload hx hb d_L_law_962 (lv_at hl 5 rfl) ?_
    refine lv_iconst (v := 3) hx hb d_L_law_964 (by decide) ?_
    refine lv_iadd hx hb d_L_law_965 ?_
    refine rw_sld hx hb hX hq hf1.2.2.2.1 hLL (i + 3) (nI_add i 3) (by omega) d_L_law_966 ?_
    refine lv_i2l (v := (xs (i + 3)).toInt64) hx hb d_L_law_967 rfl ?_
    refine lv_ldc2 (v := 4294967295) hx hb hown (hts _ kl_L_79) d_L_law_968 ?_
    refine lv_land hx hb d_L_law_971 ?_
    refine lv_lor hx hb d_L_law_972 ?_
    refine tp_l (y := (lo2 (xs (i + 2)) (xs (i + 3)))) rfl ?_
    refine lv_aload_n hx hb d_L_law_973 rfl (lv_at hl 1 rfl) ?_
    refine lv_iload hx hb d_L_law_974 (lv_at hl 5 rfl) ?_
    refine lv_iconst (v := 4) hx hb d_L_law_976 (by decide) ?_
    refine lv_iadd hx hb d_L_law_977 ?_
    refine rw_sld hx hb hX hq hf1.2.2.2.1 hLL (i + 4) (nI_add i 4) (by omega) d_L_law_978 ?_
    refine lv_i2l (v := (xs (i + 4)).toInt64) hx hb d_L_law_979 rfl ?_
    refine lv_bipush (v := 32) hx hb d_L_law_980 (by decide) ?_
    refine lv_lshl (v := (((xs (i + 4)).toInt64) <<< ((32 : Int32).toInt64 &&& 63))) hx hb d_L_law_982 rfl ?_
    refine lv_aload_n hx hb d_L_law_983 rfl (lv_at hl 1 rfl) ?_
    refine lv_iload hx hb d_L_law_984 (lv_at hl 5 rfl) ?_
    refine lv_iconst (v := 5) hx hb d_L_law_986 (by decide) ?_
    refine lv_iadd hx hb d_L_law_987 ?_
    refine rw_sld hx hb hX hq hf1.2.2.2.1 hLL (i + 5) (nI_add i 5) (by omega) d_L_law_988 ?_
    refine lv_i2l (v := (xs (i + 5)).toInt64) hx hb d_L_law_989 rfl ?_
    refine lv_ldc2 (v := 4294967295) hx hb hown (hts _ kl_L_79) d_L_law_990 ?_
    refine lv_land hx hb d_L_law_993 ?_
    refine lv_lor hx hb d_L_law_994 ?_
    refine tp_l (y := (lo2 (xs (i + 4)) (xs (i + 5)))) rfl ?_
    refine cl_e (A := (fun z => (evH ev).size ≤ z)) (W.runV (As := [.int (xs (i + 1)), .long (lo2 (xs (i + 2)) (xs (i + 3))), .long (lo2 (xs (i + 4)) (xs (i + 5)))]) (rest := []) S (c_M_move hm1 (xs (i + 1)) (lo2 (xs (i + 2)) (xs (i + 3))) (lo2 (xs (i + 4)) (xs (i + 5)))) (cwV 3 hts gv_L_111 rfl rfl rfl (by decide +kernel) ⟨Nat.le_of_ble_eq_true rfl, Nat.le_of_ble_eq_true rfl⟩) (cP_V (KG_ok _) hK hK.1 hm1.1 rfl) rfl rfl hl.1 rfl (lv_room (Nat.le_of_ble_eq_true rfl)) d_L_law_995 ⟨by show _ ≤ 601024; omega, by show _ ≤ 7293000; omega⟩) hL1 (fun z h => by have h9 := hf.2.2.2.2; omega) (fun r2 H2 L2 hp2 hL2 => ?_)
    obtain ⟨hp2, hB2⟩ := hp2
    obtain ⟨e8, hm2⟩ : r2 = .int 0 ∧ MW ev (b + 101) 2 u kp v H2 := by
      rcases hp2 with ⟨g, e9, h9⟩ | ⟨g, e9, h9⟩ | ⟨g, e9, h9⟩
      · exact (hbad.2 g.2).elim
      · exact (g hbad.1).elim
      · exact ⟨e9, h9⟩
    subst e8
    have hf2 := XF_B hf1 hB2
    have ho2 := pt_k ho1 (hB2.2 _ (by omega))
    refine lv_istore (lv' := [(6, .int 0), (5, .int 2), (0, .ref q0), (1, .ref b), (2, .ref (b + 101)), (3, .ref (b + 117)), (4, .int (nI i))]) hx hb d_L_law_998 hl (by decide) rfl (fun ls hl => ?_)
    refine lv_aload_n hx hb d_L_law_1000 rfl (lv_at hl 4 rfl) ?_
    refine cl_i (W.runV (As := []) (rest := []) S (c_M_thrown hm2.1) (cwV 0 hts gv_L_85 rfl rfl rfl (by decide +kernel) ⟨Nat.le_of_ble_eq_true rfl, Nat.le_of_ble_eq_true rfl⟩) (cP_V (KG_ok _) hK hK.1 hm2.1 rfl) rfl rfl hl.1 rfl (lv_room (Nat.le_of_ble_eq_true rfl)) d_L_law_1001 ⟨by show _ ≤ 601024; omega, by show _ ≤ 7293000; omega⟩) ?_
    refine lv_iload hx hb d_L_law_1004 (lv_at hl 1 rfl) ?_
    refine lv_icmp_eq (tgt := 1011) hx hb d_L_law_1006 (by decide) (fun _ => ?_) (fun c9 => absurd rfl c9)
    refine lv_iload hx hb d_L_law_1011 (lv_at hl 1 rfl) ?_
    refine lv_if_ne (tgt := 1035) hx hb d_L_law_1013 (by decide) (fun c1013 => ?_) (fun c1013 => ?_)
    · refine lv_goto (tgt := 1599) hx hb d_L_law_1035 (by decide) ?_
      exact W.widen (by omega) (by omega) (K9 _ _ _ _ _ _ _ ls hf2 hm2 ho2 hL2 (lv_sub hl [2, 3, 4, 5, 6] rfl))
    · exact absurd c1013 (by decide)
set_option maxRecDepth 100000 in
set_option maxHeartbeats 4000000 in
theorem lk_winner {p : Program} {l : Launch} {e : Env} {s : State} {m : MethodId} {below : List Frame} {meth : Method} {c : Code} {ev : EV} {QQ : State → Prop} {q0 L b i C Sl : Nat} {xs : Nat → Int32} {th : Int32} {u : XS} {kp : KT} {v : PT} {f : Nat → Int64} {H : Heap} {locs : List Loc} {ls : Array Slot} (S : CallFix p m c code 8 s #[Value.ref q0] TB "RuleChoiceLaw") (hK : KG ev s) (hT : l.stackTraces = false) (hX : va_X q0 L xs s (evH ev)) (hq : q0 < (evH ev).size) (hLL : L ≤ 4609) (hi9 : i + 9 ≤ L) (hC : C + 5 ≤ 601024) (hSl : Sl + 30 ≤ 7293000) (hf : XF ev b u kp v H) (hm : MW ev (b + 101) th u kp v H) (ho : pt ev H (b + 117) (aL ev 1 f)) (hL : ∀ z ∈ locs, (evH ev).size ≤ z.base) (K9 : ∀ (th1 : Int32) (u1 : XS) (kp1 : KT) (v1 : PT) (f1 : Nat → Int64) (H1 : Heap) (locs1 : List Loc) (ls1 : Array Slot), XF ev b u1 kp1 v1 H1 → MW ev (b + 101) th1 u1 kp1 v1 H1 → pt ev H1 (b + 117) (aL ev 1 f1) → (∀ z ∈ locs1, (evH ev).size ≤ z.base) → lv_has ls1 8 [(0, .ref q0), (1, .ref b), (2, .ref (b + 101)), (3, .ref (b + 117)), (4, .int (nI i))] → W p l e room_1 s m #[Value.ref q0] below meth c H1 locs1 (C + 5) (Sl + 30) QQ (F0 m 1599 ls1 [])) (hl : lv_has ls 8 [(0, .ref q0), (1, .ref b), (2, .ref (b + 101)), (3, .ref (b + 117)), (4, .int (nI i))]) : W p l e room_1 s m #[Value.ref q0] below meth c H locs C Sl QQ (F0 m 1038 ls []) := by
  obtain ⟨hx, hb, hml, hown, hts⟩ := id S
  refine lv_aload_n hx hb d_L_law_1038 rfl (lv_at hl 1 rfl) ?_
  refine lv_aload_n hx hb d_L_law_1039 rfl (lv_at hl 0 rfl) ?_
  refine lv_iload hx hb d_L_law_1040 (lv_at hl 4 rfl) ?_
  refine lv_iconst (v := 1) hx hb d_L_law_1042 (by decide) ?_
  refine lv_iadd hx hb d_L_law_1043 ?_
  refine rw_sld hx hb hX hq hf.2.2.2.1 hLL (i + 1) (nI_add i 1) (by omega) d_L_law_1044 ?_
  refine lv_aload_n hx hb d_L_law_1045 rfl (lv_at hl 0 rfl) ?_
  refine lv_iload hx hb d_L_law_1046 (lv_at hl 4 rfl) ?_
  refine lv_iconst (v := 2) hx hb d_L_law_1048 (by decide) ?_
  refine lv_iadd hx hb d_L_law_1049 ?_
  refine rw_sld hx hb hX hq hf.2.2.2.1 hLL (i + 2) (nI_add i 2) (by omega) d_L_law_1050 ?_
  refine lv_aload_n hx hb d_L_law_1051 rfl (lv_at hl 0 rfl) ?_
  refine lv_iload hx hb d_L_law_1052 (lv_at hl 4 rfl) ?_
  refine lv_iconst (v := 3) hx hb d_L_law_1054 (by decide) ?_
  refine lv_iadd hx hb d_L_law_1055 ?_
  refine rw_sld hx hb hX hq hf.2.2.2.1 hLL (i + 3) (nI_add i 3) (by omega) d_L_law_1056 ?_
  refine lv_aload_n hx hb d_L_law_1057 rfl (lv_at hl 3 rfl) ?_
  refine cl_eW (A := (fun z => (evH ev).size ≤ z)) (vx_runSW (As := [.ref b, .int (xs (i + 1)), .int (xs (i + 2)), .int (xs (i + 3)), .ref (b + 117)]) (rest := []) S (c_L_winner hT hf ho (by omega) (xs (i + 1)) (xs (i + 2)) (xs (i + 3))) (vx_cwSW 5 hts gs_L_112 rfl rfl rfl (by decide +kernel) ⟨Nat.le_of_ble_eq_true rfl, Nat.le_of_ble_eq_true rfl⟩) (cP_S (KG_ok _) hK) rfl rfl hl.1 rfl (lv_room (Nat.le_of_ble_eq_true rfl)) d_L_law_1058 ⟨by show _ ≤ 601024; omega, by show _ ≤ 7293000; omega⟩) hL (fun z h => Nat.le_trans hf.2.2.2.2 h) (fun r1 H1 L1 hp1 hL1 => ?_)
  obtain ⟨hp1, hF1⟩ := hp1
  have hm1 := MW_F hm ho hF1
  rcases hp1 with ⟨hok, rfl, hf1, ho1⟩ | ⟨hbad, rfl, hf1, ho1⟩
  · refine lv_istore (lv' := [(5, .int 0), (0, .ref q0), (1, .ref b), (2, .ref (b + 101)), (3, .ref (b + 117)), (4, .int (nI i))]) hx hb d_L_law_1061 hl (by decide) rfl (fun ls hl => ?_)
    refine lv_aload_n hx hb d_L_law_1063 rfl (lv_at hl 3 rfl) ?_
    refine lv_aload_n hx hb d_L_law_1064 rfl (lv_at hl 1 rfl) ?_
    refine lv_iload hx hb d_L_law_1065 (lv_at hl 5 rfl) ?_
    refine lv_iconst (v := 1) hx hb d_L_law_1067 (by decide) ?_
    refine lv_iadd hx hb d_L_law_1068 ?_
    refine rw_sld hx hb hX hq hf1.2.2.2.1 hLL (i + 1) (nI_add i 1) (by omega) d_L_law_1069 ?_
    refine lv_aload_n hx hb d_L_law_1070 rfl (lv_at hl 1 rfl) ?_
    refine lv_iload hx hb d_L_law_1071 (lv_at hl 5 rfl) ?_
    refine lv_iconst (v := 2) hx hb d_L_law_1073 (by decide) ?_
    refine lv_iadd hx hb d_L_law_1074 ?_
    refine rw_sld hx hb hX hq hf1.2.2.2.1 hLL (i + 2) (nI_add i 2) (by omega) d_L_law_1075 ?_
    refine lv_aload_n hx hb d_L_law_1076 rfl (lv_at hl 1 rfl) ?_
    refine lv_iload hx hb d_L_law_1077 (lv_at hl 5 rfl) ?_
    refine lv_iconst (v := 3) hx hb d_L_law_1079 (by decide) ?_
    refine lv_iadd hx hb d_L_law_1080 ?_
    refine rw_sld hx hb hX hq hf1.2.2.2.1 hLL (i + 3) (nI_add i 3) (by omega) d_L_law_1081 ?_
    refine cl_e (A := (fun z => (evH ev).size ≤ z)) (W.runV (As := [.int (xs (i + 1)), .int (xs (i + 2)), .int (xs (i + 3))]) (rest := []) S (c_M_winner hm1 (xs (i + 1)) (xs (i + 2)) (xs (i + 3))) (cwV 3 hts gv_L_114 rfl rfl rfl (by decide +kernel) ⟨Nat.le_of_ble_eq_true rfl, Nat.le_of_ble_eq_true rfl⟩) (cP_V (KG_ok _) hK hK.1 hm1.1 rfl) rfl rfl hl.1 rfl (lv_room (Nat.le_of_ble_eq_true rfl)) d_L_law_1082 ⟨by show _ ≤ 601024; omega, by show _ ≤ 7293000; omega⟩) hL1 (fun z h => by have h9 := hf.2.2.2.2; omega) (fun r2 H2 L2 hp2 hL2 => ?_)
    obtain ⟨hp2, hB2⟩ := hp2
    obtain ⟨e8, hm2⟩ : r2 = .int (oI (besU u (nn (xs (i + 1))) (nn (xs (i + 2))) (nn (xs (i + 3))))) ∧ MW ev (b + 101) 0 (winU u kp (nn (xs (i + 1))) (nn (xs (i + 2))) (nn (xs (i + 3)))) (winK kp (nn (xs (i + 1))) (nn (xs (i + 2))) (nn (xs (i + 3)))) v H2 := by
      rcases hp2 with ⟨g, e9, h9⟩ | ⟨g, e9, h9⟩
      · exact ⟨e9, h9⟩
      · exact (g hok).elim
    subst e8
    have hf2 := XF_B hf1 hB2
    have ho2 := pt_k ho1 (hB2.2 _ (by omega))
    refine lv_istore (lv' := [(6, .int (oI (besU u (nn (xs (i + 1))) (nn (xs (i + 2))) (nn (xs (i + 3)))))), (5, .int 0), (0, .ref q0), (1, .ref b), (2, .ref (b + 101)), (3, .ref (b + 117)), (4, .int (nI i))]) hx hb d_L_law_1085 hl (by decide) rfl (fun ls hl => ?_)
    refine lv_aload_n hx hb d_L_law_1087 rfl (lv_at hl 4 rfl) ?_
    refine cl_i (W.runV (As := []) (rest := []) S (c_M_thrown hm2.1) (cwV 0 hts gv_L_85 rfl rfl rfl (by decide +kernel) ⟨Nat.le_of_ble_eq_true rfl, Nat.le_of_ble_eq_true rfl⟩) (cP_V (KG_ok _) hK hK.1 hm2.1 rfl) rfl rfl hl.1 rfl (lv_room (Nat.le_of_ble_eq_true rfl)) d_L_law_1088 ⟨by show _ ≤ 601024; omega, by show _ ≤ 7293000; omega⟩) ?_
    refine lv_iload hx hb d_L_law_1091 (lv_at hl 1 rfl) ?_
    refine lv_icmp_eq (tgt := 1098) hx hb d_L_law_1093 (by decide) (fun _ => ?_) (fun c9 => absurd rfl c9)
    refine lv_iload hx hb d_L_law_1098 (lv_at hl 1 rfl) ?_
    refine lv_if_ne (tgt := 1115) hx hb d_L_law_1100 (by decide) (fun c1100 => ?_) (fun c1100 => ?_)
    · exact absurd c1100 (by decide)
    · refine lv_aload_n hx hb d_L_law_1103 rfl (lv_at hl 5 rfl) ?_
      refine lv_iconst (v := 0) hx hb d_L_law_1104 (by decide) ?_
      refine rw_lald hx hb hK.1 1 ho2 rfl 0 rfl (by decide) (by decide) d_L_law_1105 ?_
      refine tp_l (y := (oI (besU u (nn (xs (i + 1))) (nn (xs (i + 2))) (nn (xs (i + 3))))).toInt64) pk_uLs ?_
      refine lv_iload hx hb d_L_law_1106 (lv_at hl 0 rfl) ?_
      refine lv_i2l (v := (oI (besU u (nn (xs (i + 1))) (nn (xs (i + 2))) (nn (xs (i + 3))))).toInt64) hx hb d_L_law_1108 rfl ?_
      refine ll_eq (tgt := 1115) hx hb d_L_law_1109 d_L_law_1110 (by decide) (fun _ => ?_) (fun c9 => absurd rfl c9)
      refine lv_goto (tgt := 1599) hx hb d_L_law_1115 (by decide) ?_
      exact W.widen (by omega) (by omega) (K9 _ _ _ _ _ _ _ ls hf2 hm2 ho2 hL2 (lv_sub hl [2, 3, 4, 5, 6] rfl))
  · refine lv_istore (lv' := [(5, .int 1), (0, .ref q0), (1, .ref b), (2, .ref (b + 101)), (3, .ref (b + 117)), (4, .int (nI i))]) hx hb d_L_law_1061 hl (by decide) rfl (fun ls hl => ?_)
    refine lv_aload_n hx hb d_L_law_1063 rfl (lv_at hl 3 rfl) ?_
    refine lv_aload_n hx hb d_L_law_1064 rfl (lv_at hl 1 rfl) ?_
    refine lv_iload hx hb d_L_law_1065 (lv_at hl 5 rfl) ?_
    refine lv_iconst (v := 1) hx hb d_L_law_1067 (by decide) ?_
    refine lv_iadd hx hb d_L_law_1068 ?_
    refine rw_sld hx hb hX hq hf1.2.2.2.1 hLL (i + 1) (nI_add i 1) (by omega) d_L_law_1069 ?_
    refine lv_aload_n hx hb d_L_law_1070 rfl (lv_at hl 1 rfl) ?_
    refine lv_iload hx hb d_L_law_1071 (lv_at hl 5 rfl) ?_
    refine lv_iconst (v := 2) hx hb d_L_law_1073 (by decide) ?_
    refine lv_iadd hx hb d_L_law_1074 ?_
    refine rw_sld hx hb hX hq hf1.2.2.2.1 hLL (i + 2) (nI_add i 2) (by omega) d_L_law_1075 ?_
    refine lv_aload_n hx hb d_L_law_1076 rfl (lv_at hl 1 rfl) ?_
    refine lv_iload hx hb d_L_law_1077 (lv_at hl 5 rfl) ?_
    refine lv_iconst (v := 3) hx hb d_L_law_1079 (by decide) ?_
    refine lv_iadd hx hb d_L_law_1080 ?_
    refine rw_sld hx hb hX hq hf1.2.2.2.1 hLL (i + 3) (nI_add i 3) (by omega) d_L_law_1081 ?_
    refine cl_e (A := (fun z => (evH ev).size ≤ z)) (W.runV (As := [.int (xs (i + 1)), .int (xs (i + 2)), .int (xs (i + 3))]) (rest := []) S (c_M_winner hm1 (xs (i + 1)) (xs (i + 2)) (xs (i + 3))) (cwV 3 hts gv_L_114 rfl rfl rfl (by decide +kernel) ⟨Nat.le_of_ble_eq_true rfl, Nat.le_of_ble_eq_true rfl⟩) (cP_V (KG_ok _) hK hK.1 hm1.1 rfl) rfl rfl hl.1 rfl (lv_room (Nat.le_of_ble_eq_true rfl)) d_L_law_1082 ⟨by show _ ≤ 601024; omega, by show _ ≤ 7293000; omega⟩) hL1 (fun z h => by have h9 := hf.2.2.2.2; omega) (fun r2 H2 L2 hp2 hL2 => ?_)
    obtain ⟨hp2, hB2⟩ := hp2
    obtain ⟨e8, hm2⟩ : r2 = .int 0 ∧ MW ev (b + 101) 1 u kp v H2 := by
      rcases hp2 with ⟨g, e9, h9⟩ | ⟨g, e9, h9⟩
      · exact (hbad g).elim
      · exact ⟨e9, h9⟩
    subst e8
    have hf2 := XF_B hf1 hB2
    have ho2 := pt_k ho1 (hB2.2 _ (by omega))
    refine lv_istore (lv' := [(6, .int 0), (5, .int 1), (0, .ref q0), (1, .ref b), (2, .ref (b + 101)), (3, .ref (b + 117)), (4, .int (nI i))]) hx hb d_L_law_1085 hl (by decide) rfl (fun ls hl => ?_)
    refine lv_aload_n hx hb d_L_law_1087 rfl (lv_at hl 4 rfl) ?_
    refine cl_i (W.runV (As := []) (rest := []) S (c_M_thrown hm2.1) (cwV 0 hts gv_L_85 rfl rfl rfl (by decide +kernel) ⟨Nat.le_of_ble_eq_true rfl, Nat.le_of_ble_eq_true rfl⟩) (cP_V (KG_ok _) hK hK.1 hm2.1 rfl) rfl rfl hl.1 rfl (lv_room (Nat.le_of_ble_eq_true rfl)) d_L_law_1088 ⟨by show _ ≤ 601024; omega, by show _ ≤ 7293000; omega⟩) ?_
    refine lv_iload hx hb d_L_law_1091 (lv_at hl 1 rfl) ?_
    refine lv_icmp_eq (tgt := 1098) hx hb d_L_law_1093 (by decide) (fun _ => ?_) (fun c9 => absurd rfl c9)
    refine lv_iload hx hb d_L_law_1098 (lv_at hl 1 rfl) ?_
    refine lv_if_ne (tgt := 1115) hx hb d_L_law_1100 (by decide) (fun c1100 => ?_) (fun c1100 => ?_)
    · refine lv_goto (tgt := 1599) hx hb d_L_law_1115 (by decide) ?_
      exact W.widen (by omega) (by omega) (K9 _ _ _ _ _ _ _ ls hf2 hm2 ho2 hL2 (lv_sub hl [2, 3, 4, 5, 6] rfl))
    · exact absurd c1100 (by decide)
set_option maxRecDepth 100000 in
set_option maxHeartbeats 4000000 in
theorem lk_value {p : Program} {l : Launch} {e : Env} {s : State} {m : MethodId} {below : List Frame} {meth : Method} {c : Code} {ev : EV} {QQ : State → Prop} {q0 L b i C Sl : Nat} {xs : Nat → Int32} {th : Int32} {u : XS} {kp : KT} {v : PT} {f : Nat → Int64} {H : Heap} {locs : List Loc} {ls : Array Slot} (S : CallFix p m c code 8 s #[Value.ref q0] TB "RuleChoiceLaw") (hK : KG ev s) (hT : l.stackTraces = false) (hX : va_X q0 L xs s (evH ev)) (hq : q0 < (evH ev).size) (hLL : L ≤ 4609) (hi9 : i + 9 ≤ L) (hC : C + 5 ≤ 601024) (hSl : Sl + 30 ≤ 7293000) (hf : XF ev b u kp v H) (hm : MW ev (b + 101) th u kp v H) (ho : pt ev H (b + 117) (aL ev 1 f)) (hL : ∀ z ∈ locs, (evH ev).size ≤ z.base) (K9 : ∀ (th1 : Int32) (u1 : XS) (kp1 : KT) (v1 : PT) (f1 : Nat → Int64) (H1 : Heap) (locs1 : List Loc) (ls1 : Array Slot), XF ev b u1 kp1 v1 H1 → MW ev (b + 101) th1 u1 kp1 v1 H1 → pt ev H1 (b + 117) (aL ev 1 f1) → (∀ z ∈ locs1, (evH ev).size ≤ z.base) → lv_has ls1 8 [(0, .ref q0), (1, .ref b), (2, .ref (b + 101)), (3, .ref (b + 117)), (4, .int (nI i))] → W p l e room_1 s m #[Value.ref q0] below meth c H1 locs1 (C + 5) (Sl + 30) QQ (F0 m 1599 ls1 [])) (hl : lv_has ls 8 [(0, .ref q0), (1, .ref b), (2, .ref (b + 101)), (3, .ref (b + 117)), (4, .int (nI i))]) : W p l e room_1 s m #[Value.ref q0] below meth c H locs C Sl QQ (F0 m 1118 ls []) := by
  obtain ⟨hx, hb, hml, hown, hts⟩ := id S
  refine lv_aload_n hx hb d_L_law_1118 rfl (lv_at hl 1 rfl) ?_
  refine lv_aload_n hx hb d_L_law_1119 rfl (lv_at hl 0 rfl) ?_
  refine lv_iload hx hb d_L_law_1120 (lv_at hl 4 rfl) ?_
  refine lv_iconst (v := 1) hx hb d_L_law_1122 (by decide) ?_
  refine lv_iadd hx hb d_L_law_1123 ?_
  refine rw_sld hx hb hX hq hf.2.2.2.1 hLL (i + 1) (nI_add i 1) (by omega) d_L_law_1124 ?_
  refine lv_aload_n hx hb d_L_law_1125 rfl (lv_at hl 0 rfl) ?_
  refine lv_iload hx hb d_L_law_1126 (lv_at hl 4 rfl) ?_
  refine lv_iconst (v := 2) hx hb d_L_law_1128 (by decide) ?_
  refine lv_iadd hx hb d_L_law_1129 ?_
  refine rw_sld hx hb hX hq hf.2.2.2.1 hLL (i + 2) (nI_add i 2) (by omega) d_L_law_1130 ?_
  refine lv_aload_n hx hb d_L_law_1131 rfl (lv_at hl 0 rfl) ?_
  refine lv_iload hx hb d_L_law_1132 (lv_at hl 4 rfl) ?_
  refine lv_iconst (v := 3) hx hb d_L_law_1134 (by decide) ?_
  refine lv_iadd hx hb d_L_law_1135 ?_
  refine rw_sld hx hb hX hq hf.2.2.2.1 hLL (i + 3) (nI_add i 3) (by omega) d_L_law_1136 ?_
  refine lv_aload_n hx hb d_L_law_1137 rfl (lv_at hl 3 rfl) ?_
  refine cl_eW (A := (fun z => (evH ev).size ≤ z)) (vx_runSW (As := [.ref b, .int (xs (i + 1)), .int (xs (i + 2)), .int (xs (i + 3)), .ref (b + 117)]) (rest := []) S (c_L_value hT hf ho (by omega) (xs (i + 1)) (xs (i + 2)) (xs (i + 3))) (vx_cwSW 5 hts gs_L_115 rfl rfl rfl (by decide +kernel) ⟨Nat.le_of_ble_eq_true rfl, Nat.le_of_ble_eq_true rfl⟩) (cP_S (KG_ok _) hK) rfl rfl hl.1 rfl (lv_room (Nat.le_of_ble_eq_true rfl)) d_L_law_1138 ⟨by show _ ≤ 601024; omega, by show _ ≤ 7293000; omega⟩) hL (fun z h => Nat.le_trans hf.2.2.2.2 h) (fun r1 H1 L1 hp1 hL1 => ?_)
  obtain ⟨hp1, hF1⟩ := hp1
  have hm1 := MW_F hm ho hF1
  rcases hp1 with ⟨hok, rfl, hf1, ho1⟩ | ⟨hbad, rfl, hf1, ho1⟩
  · refine lv_istore (lv' := [(5, .int 0), (0, .ref q0), (1, .ref b), (2, .ref (b + 101)), (3, .ref (b + 117)), (4, .int (nI i))]) hx hb d_L_law_1141 hl (by decide) rfl (fun ls hl => ?_)
    refine lv_aload_n hx hb d_L_law_1143 rfl (lv_at hl 3 rfl) ?_
    refine lv_aload_n hx hb d_L_law_1144 rfl (lv_at hl 1 rfl) ?_
    refine lv_iload hx hb d_L_law_1145 (lv_at hl 5 rfl) ?_
    refine lv_iconst (v := 1) hx hb d_L_law_1147 (by decide) ?_
    refine lv_iadd hx hb d_L_law_1148 ?_
    refine rw_sld hx hb hX hq hf1.2.2.2.1 hLL (i + 1) (nI_add i 1) (by omega) d_L_law_1149 ?_
    refine lv_aload_n hx hb d_L_law_1150 rfl (lv_at hl 1 rfl) ?_
    refine lv_iload hx hb d_L_law_1151 (lv_at hl 5 rfl) ?_
    refine lv_iconst (v := 2) hx hb d_L_law_1153 (by decide) ?_
    refine lv_iadd hx hb d_L_law_1154 ?_
    refine rw_sld hx hb hX hq hf1.2.2.2.1 hLL (i + 2) (nI_add i 2) (by omega) d_L_law_1155 ?_
    refine lv_aload_n hx hb d_L_law_1156 rfl (lv_at hl 1 rfl) ?_
    refine lv_iload hx hb d_L_law_1157 (lv_at hl 5 rfl) ?_
    refine lv_iconst (v := 3) hx hb d_L_law_1159 (by decide) ?_
    refine lv_iadd hx hb d_L_law_1160 ?_
    refine rw_sld hx hb hX hq hf1.2.2.2.1 hLL (i + 3) (nI_add i 3) (by omega) d_L_law_1161 ?_
    refine cl_e (A := (fun z => (evH ev).size ≤ z)) (W.runV (As := [.int (xs (i + 1)), .int (xs (i + 2)), .int (xs (i + 3))]) (rest := []) S (c_M_value hm1 (xs (i + 1)) (xs (i + 2)) (xs (i + 3))) (cwV 3 hts gv_L_117 rfl rfl rfl (by decide +kernel) ⟨Nat.le_of_ble_eq_true rfl, Nat.le_of_ble_eq_true rfl⟩) (cP_V (KG_ok _) hK hK.1 hm1.1 rfl) rfl rfl hl.1 rfl (lv_room (Nat.le_of_ble_eq_true rfl)) d_L_law_1162 ⟨by show _ ≤ 601024; omega, by show _ ≤ 7293000; omega⟩) hL1 (fun z h => by have h9 := hf.2.2.2.2; omega) (fun r2 H2 L2 hp2 hL2 => ?_)
    obtain ⟨hp2, hB2⟩ := hp2
    obtain ⟨e8, hm2⟩ : r2 = .long (valF u.2.1 (besU u (nn (xs (i + 1))) (nn (xs (i + 2))) (nn (xs (i + 3))))) ∧ MW ev (b + 101) 0 (winU u kp (nn (xs (i + 1))) (nn (xs (i + 2))) (nn (xs (i + 3)))) (winK kp (nn (xs (i + 1))) (nn (xs (i + 2))) (nn (xs (i + 3)))) v H2 := by
      rcases hp2 with ⟨g, e9, h9⟩ | ⟨g, e9, h9⟩
      · exact ⟨e9, h9⟩
      · exact (g hok).elim
    subst e8
    have hf2 := XF_B hf1 hB2
    have ho2 := pt_k ho1 (hB2.2 _ (by omega))
    refine lv_lstore (lv' := [(6, .long (valF u.2.1 (besU u (nn (xs (i + 1))) (nn (xs (i + 2))) (nn (xs (i + 3)))))), (5, .int 0), (0, .ref q0), (1, .ref b), (2, .ref (b + 101)), (3, .ref (b + 117)), (4, .int (nI i))]) hx hb d_L_law_1165 hl (by decide) rfl (fun ls hl => ?_)
    refine lv_aload_n hx hb d_L_law_1167 rfl (lv_at hl 4 rfl) ?_
    refine cl_i (W.runV (As := []) (rest := []) S (c_M_thrown hm2.1) (cwV 0 hts gv_L_85 rfl rfl rfl (by decide +kernel) ⟨Nat.le_of_ble_eq_true rfl, Nat.le_of_ble_eq_true rfl⟩) (cP_V (KG_ok _) hK hK.1 hm2.1 rfl) rfl rfl hl.1 rfl (lv_room (Nat.le_of_ble_eq_true rfl)) d_L_law_1168 ⟨by show _ ≤ 601024; omega, by show _ ≤ 7293000; omega⟩) ?_
    refine lv_iload hx hb d_L_law_1171 (lv_at hl 1 rfl) ?_
    refine lv_icmp_eq (tgt := 1178) hx hb d_L_law_1173 (by decide) (fun _ => ?_) (fun c9 => absurd rfl c9)
    refine lv_iload hx hb d_L_law_1178 (lv_at hl 1 rfl) ?_
    refine lv_if_ne (tgt := 1194) hx hb d_L_law_1180 (by decide) (fun c1180 => ?_) (fun c1180 => ?_)
    · exact absurd c1180 (by decide)
    · refine lv_aload_n hx hb d_L_law_1183 rfl (lv_at hl 5 rfl) ?_
      refine lv_iconst (v := 0) hx hb d_L_law_1184 (by decide) ?_
      refine rw_lald hx hb hK.1 1 ho2 rfl 0 rfl (by decide) (by decide) d_L_law_1185 ?_
      refine tp_l (y := (valF u.2.1 (besU u (nn (xs (i + 1))) (nn (xs (i + 2))) (nn (xs (i + 3)))))) pk_uLs ?_
      refine lv_lload hx hb d_L_law_1186 (lv_at hl 0 rfl) ?_
      refine ll_eq (tgt := 1194) hx hb d_L_law_1188 d_L_law_1189 (by decide) (fun _ => ?_) (fun c9 => absurd rfl c9)
      refine lv_goto (tgt := 1599) hx hb d_L_law_1194 (by decide) ?_
      exact W.widen (by omega) (by omega) (K9 _ _ _ _ _ _ _ ls hf2 hm2 ho2 hL2 (lv_sub hl [2, 3, 4, 5, 6] rfl))
  · refine lv_istore (lv' := [(5, .int 1), (0, .ref q0), (1, .ref b), (2, .ref (b + 101)), (3, .ref (b + 117)), (4, .int (nI i))]) hx hb d_L_law_1141 hl (by decide) rfl (fun ls hl => ?_)
    refine lv_aload_n hx hb d_L_law_1143 rfl (lv_at hl 3 rfl) ?_
    refine lv_aload_n hx hb d_L_law_1144 rfl (lv_at hl 1 rfl) ?_
    refine lv_iload hx hb d_L_law_1145 (lv_at hl 5 rfl) ?_
    refine lv_iconst (v := 1) hx hb d_L_law_1147 (by decide) ?_
    refine lv_iadd hx hb d_L_law_1148 ?_
    refine rw_sld hx hb hX hq hf1.2.2.2.1 hLL (i + 1) (nI_add i 1) (by omega) d_L_law_1149 ?_
    refine lv_aload_n hx hb d_L_law_1150 rfl (lv_at hl 1 rfl) ?_
    refine lv_iload hx hb d_L_law_1151 (lv_at hl 5 rfl) ?_
    refine lv_iconst (v := 2) hx hb d_L_law_1153 (by decide) ?_
    refine lv_iadd hx hb d_L_law_1154 ?_
    refine rw_sld hx hb hX hq hf1.2.2.2.1 hLL (i + 2) (nI_add i 2) (by omega) d_L_law_1155 ?_
    refine lv_aload_n hx hb d_L_law_1156 rfl (lv_at hl 1 rfl) ?_
    refine lv_iload hx hb d_L_law_1157 (lv_at hl 5 rfl) ?_
    refine lv_iconst (v := 3) hx hb d_L_law_1159 (by decide) ?_
    refine lv_iadd hx hb d_L_law_1160 ?_
    refine rw_sld hx hb hX hq hf1.2.2.2.1 hLL (i + 3) (nI_add i 3) (by omega) d_L_law_1161 ?_
    refine cl_e (A := (fun z => (evH ev).size ≤ z)) (W.runV (As := [.int (xs (i + 1)), .int (xs (i + 2)), .int (xs (i + 3))]) (rest := []) S (c_M_value hm1 (xs (i + 1)) (xs (i + 2)) (xs (i + 3))) (cwV 3 hts gv_L_117 rfl rfl rfl (by decide +kernel) ⟨Nat.le_of_ble_eq_true rfl, Nat.le_of_ble_eq_true rfl⟩) (cP_V (KG_ok _) hK hK.1 hm1.1 rfl) rfl rfl hl.1 rfl (lv_room (Nat.le_of_ble_eq_true rfl)) d_L_law_1162 ⟨by show _ ≤ 601024; omega, by show _ ≤ 7293000; omega⟩) hL1 (fun z h => by have h9 := hf.2.2.2.2; omega) (fun r2 H2 L2 hp2 hL2 => ?_)
    obtain ⟨hp2, hB2⟩ := hp2
    obtain ⟨e8, hm2⟩ : r2 = .long 0 ∧ MW ev (b + 101) 1 u kp v H2 := by
      rcases hp2 with ⟨g, e9, h9⟩ | ⟨g, e9, h9⟩
      · exact (hbad g).elim
      · exact ⟨e9, h9⟩
    subst e8
    have hf2 := XF_B hf1 hB2
    have ho2 := pt_k ho1 (hB2.2 _ (by omega))
    refine lv_lstore (lv' := [(6, .long 0), (5, .int 1), (0, .ref q0), (1, .ref b), (2, .ref (b + 101)), (3, .ref (b + 117)), (4, .int (nI i))]) hx hb d_L_law_1165 hl (by decide) rfl (fun ls hl => ?_)
    refine lv_aload_n hx hb d_L_law_1167 rfl (lv_at hl 4 rfl) ?_
    refine cl_i (W.runV (As := []) (rest := []) S (c_M_thrown hm2.1) (cwV 0 hts gv_L_85 rfl rfl rfl (by decide +kernel) ⟨Nat.le_of_ble_eq_true rfl, Nat.le_of_ble_eq_true rfl⟩) (cP_V (KG_ok _) hK hK.1 hm2.1 rfl) rfl rfl hl.1 rfl (lv_room (Nat.le_of_ble_eq_true rfl)) d_L_law_1168 ⟨by show _ ≤ 601024; omega, by show _ ≤ 7293000; omega⟩) ?_
    refine lv_iload hx hb d_L_law_1171 (lv_at hl 1 rfl) ?_
    refine lv_icmp_eq (tgt := 1178) hx hb d_L_law_1173 (by decide) (fun _ => ?_) (fun c9 => absurd rfl c9)
    refine lv_iload hx hb d_L_law_1178 (lv_at hl 1 rfl) ?_
    refine lv_if_ne (tgt := 1194) hx hb d_L_law_1180 (by decide) (fun c1180 => ?_) (fun c1180 => ?_)
    · refine lv_goto (tgt := 1599) hx hb d_L_law_1194 (by decide) ?_
      exact W.widen (by omega) (by omega) (K9 _ _ _ _ _ _ _ ls hf2 hm2 ho2 hL2 (lv_sub hl [2, 3, 4, 5, 6] rfl))
    · exact absurd c1180 (by decide)
set_option maxRecDepth 100000 in
set_option maxHeartbeats 4000000 in
theorem lk_listed {p : Program} {l : Launch} {e : Env} {s : State} {m : MethodId} {below : List Frame} {meth : Method} {c : Code} {ev : EV} {QQ : State → Prop} {q0 L b i C Sl : Nat} {xs : Nat → Int32} {th : Int32} {u : XS} {kp : KT} {v : PT} {f : Nat → Int64} {H : Heap} {locs : List Loc} {ls : Array Slot} (S : CallFix p m c code 8 s #[Value.ref q0] TB "RuleChoiceLaw") (hK : KG ev s) (hT : l.stackTraces = false) (hX : va_X q0 L xs s (evH ev)) (hq : q0 < (evH ev).size) (hLL : L ≤ 4609) (hi9 : i + 9 ≤ L) (hC : C + 5 ≤ 601024) (hSl : Sl + 30 ≤ 7293000) (hf : XF ev b u kp v H) (hm : MW ev (b + 101) th u kp v H) (ho : pt ev H (b + 117) (aL ev 1 f)) (hL : ∀ z ∈ locs, (evH ev).size ≤ z.base) (K9 : ∀ (th1 : Int32) (u1 : XS) (kp1 : KT) (v1 : PT) (f1 : Nat → Int64) (H1 : Heap) (locs1 : List Loc) (ls1 : Array Slot), XF ev b u1 kp1 v1 H1 → MW ev (b + 101) th1 u1 kp1 v1 H1 → pt ev H1 (b + 117) (aL ev 1 f1) → (∀ z ∈ locs1, (evH ev).size ≤ z.base) → lv_has ls1 8 [(0, .ref q0), (1, .ref b), (2, .ref (b + 101)), (3, .ref (b + 117)), (4, .int (nI i))] → W p l e room_1 s m #[Value.ref q0] below meth c H1 locs1 (C + 5) (Sl + 30) QQ (F0 m 1599 ls1 [])) (hl : lv_has ls 8 [(0, .ref q0), (1, .ref b), (2, .ref (b + 101)), (3, .ref (b + 117)), (4, .int (nI i))]) : W p l e room_1 s m #[Value.ref q0] below meth c H locs C Sl QQ (F0 m 1197 ls []) := by
  obtain ⟨hx, hb, hml, hown, hts⟩ := id S
  refine lv_aload_n hx hb d_L_law_1197 rfl (lv_at hl 1 rfl) ?_
  refine lv_aload_n hx hb d_L_law_1198 rfl (lv_at hl 0 rfl) ?_
  refine lv_iload hx hb d_L_law_1199 (lv_at hl 4 rfl) ?_
  refine lv_iconst (v := 1) hx hb d_L_law_1201 (by decide) ?_
  refine lv_iadd hx hb d_L_law_1202 ?_
  refine rw_sld hx hb hX hq hf.2.2.2.1 hLL (i + 1) (nI_add i 1) (by omega) d_L_law_1203 ?_
  refine lv_aload_n hx hb d_L_law_1204 rfl (lv_at hl 0 rfl) ?_
  refine lv_iload hx hb d_L_law_1205 (lv_at hl 4 rfl) ?_
  refine lv_iconst (v := 2) hx hb d_L_law_1207 (by decide) ?_
  refine lv_iadd hx hb d_L_law_1208 ?_
  refine rw_sld hx hb hX hq hf.2.2.2.1 hLL (i + 2) (nI_add i 2) (by omega) d_L_law_1209 ?_
  refine lv_aload_n hx hb d_L_law_1210 rfl (lv_at hl 0 rfl) ?_
  refine lv_iload hx hb d_L_law_1211 (lv_at hl 4 rfl) ?_
  refine lv_iconst (v := 3) hx hb d_L_law_1213 (by decide) ?_
  refine lv_iadd hx hb d_L_law_1214 ?_
  refine rw_sld hx hb hX hq hf.2.2.2.1 hLL (i + 3) (nI_add i 3) (by omega) d_L_law_1215 ?_
  refine lv_aload_n hx hb d_L_law_1216 rfl (lv_at hl 0 rfl) ?_
  refine lv_iload hx hb d_L_law_1217 (lv_at hl 4 rfl) ?_
  refine lv_iconst (v := 4) hx hb d_L_law_1219 (by decide) ?_
  refine lv_iadd hx hb d_L_law_1220 ?_
  refine rw_sld hx hb hX hq hf.2.2.2.1 hLL (i + 4) (nI_add i 4) (by omega) d_L_law_1221 ?_
  refine lv_aload_n hx hb d_L_law_1222 rfl (lv_at hl 3 rfl) ?_
  refine cl_eW (A := (fun z => (evH ev).size ≤ z)) (vx_runSW (As := [.ref b, .int (xs (i + 1)), .int (xs (i + 2)), .int (xs (i + 3)), .int (xs (i + 4)), .ref (b + 117)]) (rest := []) S (c_L_listed hT hf ho (by omega) (xs (i + 1)) (xs (i + 2)) (xs (i + 3)) (xs (i + 4))) (vx_cwSW 6 hts gs_L_118 rfl rfl rfl (by decide +kernel) ⟨Nat.le_of_ble_eq_true rfl, Nat.le_of_ble_eq_true rfl⟩) (cP_S (KG_ok _) hK) rfl rfl hl.1 rfl (lv_room (Nat.le_of_ble_eq_true rfl)) d_L_law_1223 ⟨by show _ ≤ 601024; omega, by show _ ≤ 7293000; omega⟩) hL (fun z h => Nat.le_trans hf.2.2.2.2 h) (fun r1 H1 L1 hp1 hL1 => ?_)
  obtain ⟨hp1, hF1⟩ := hp1
  have hm1 := MW_F hm ho hF1
  rcases hp1 with ⟨hok, rfl, hf1, ho1⟩ | ⟨hbad, rfl, hf1, ho1⟩
  · refine lv_istore (lv' := [(5, .int 0), (0, .ref q0), (1, .ref b), (2, .ref (b + 101)), (3, .ref (b + 117)), (4, .int (nI i))]) hx hb d_L_law_1226 hl (by decide) rfl (fun ls hl => ?_)
    refine lv_aload_n hx hb d_L_law_1228 rfl (lv_at hl 3 rfl) ?_
    refine lv_aload_n hx hb d_L_law_1229 rfl (lv_at hl 1 rfl) ?_
    refine lv_iload hx hb d_L_law_1230 (lv_at hl 5 rfl) ?_
    refine lv_iconst (v := 1) hx hb d_L_law_1232 (by decide) ?_
    refine lv_iadd hx hb d_L_law_1233 ?_
    refine rw_sld hx hb hX hq hf1.2.2.2.1 hLL (i + 1) (nI_add i 1) (by omega) d_L_law_1234 ?_
    refine lv_aload_n hx hb d_L_law_1235 rfl (lv_at hl 1 rfl) ?_
    refine lv_iload hx hb d_L_law_1236 (lv_at hl 5 rfl) ?_
    refine lv_iconst (v := 2) hx hb d_L_law_1238 (by decide) ?_
    refine lv_iadd hx hb d_L_law_1239 ?_
    refine rw_sld hx hb hX hq hf1.2.2.2.1 hLL (i + 2) (nI_add i 2) (by omega) d_L_law_1240 ?_
    refine lv_aload_n hx hb d_L_law_1241 rfl (lv_at hl 1 rfl) ?_
    refine lv_iload hx hb d_L_law_1242 (lv_at hl 5 rfl) ?_
    refine lv_iconst (v := 3) hx hb d_L_law_1244 (by decide) ?_
    refine lv_iadd hx hb d_L_law_1245 ?_
    refine rw_sld hx hb hX hq hf1.2.2.2.1 hLL (i + 3) (nI_add i 3) (by omega) d_L_law_1246 ?_
    refine lv_aload_n hx hb d_L_law_1247 rfl (lv_at hl 1 rfl) ?_
    refine lv_iload hx hb d_L_law_1248 (lv_at hl 5 rfl) ?_
    refine lv_iconst (v := 4) hx hb d_L_law_1250 (by decide) ?_
    refine lv_iadd hx hb d_L_law_1251 ?_
    refine rw_sld hx hb hX hq hf1.2.2.2.1 hLL (i + 4) (nI_add i 4) (by omega) d_L_law_1252 ?_
    refine cl_e (A := (fun z => (evH ev).size ≤ z)) (W.runV (As := [.int (xs (i + 1)), .int (xs (i + 2)), .int (xs (i + 3)), .int (xs (i + 4))]) (rest := []) S (c_M_listed hm1 (xs (i + 1)) (xs (i + 2)) (xs (i + 3)) (xs (i + 4))) (cwV 4 hts gv_L_121 rfl rfl rfl (by decide +kernel) ⟨Nat.le_of_ble_eq_true rfl, Nat.le_of_ble_eq_true rfl⟩) (cP_V (KG_ok _) hK hK.1 hm1.1 rfl) rfl rfl hl.1 rfl (lv_room (Nat.le_of_ble_eq_true rfl)) d_L_law_1253 ⟨by show _ ≤ 601024; omega, by show _ ≤ 7293000; omega⟩) hL1 (fun z h => by have h9 := hf.2.2.2.2; omega) (fun r2 H2 L2 hp2 hL2 => ?_)
    obtain ⟨hp2, hB2⟩ := hp2
    obtain ⟨e8, hm2⟩ : r2 = .int (lsV u (nn (xs (i + 1))) (nn (xs (i + 2))) (nn (xs (i + 3))) (xs (i + 4))) ∧ MW ev (b + 101) 0 u kp v H2 := by
      rcases hp2 with ⟨g, e9, h9⟩ | ⟨g, e9, h9⟩
      · exact ⟨e9, h9⟩
      · exact (g hok).elim
    subst e8
    have hf2 := XF_B hf1 hB2
    have ho2 := pt_k ho1 (hB2.2 _ (by omega))
    refine lv_istore (lv' := [(6, .int (lsV u (nn (xs (i + 1))) (nn (xs (i + 2))) (nn (xs (i + 3))) (xs (i + 4)))), (5, .int 0), (0, .ref q0), (1, .ref b), (2, .ref (b + 101)), (3, .ref (b + 117)), (4, .int (nI i))]) hx hb d_L_law_1256 hl (by decide) rfl (fun ls hl => ?_)
    refine lv_aload_n hx hb d_L_law_1258 rfl (lv_at hl 4 rfl) ?_
    refine cl_i (W.runV (As := []) (rest := []) S (c_M_thrown hm2.1) (cwV 0 hts gv_L_85 rfl rfl rfl (by decide +kernel) ⟨Nat.le_of_ble_eq_true rfl, Nat.le_of_ble_eq_true rfl⟩) (cP_V (KG_ok _) hK hK.1 hm2.1 rfl) rfl rfl hl.1 rfl (lv_room (Nat.le_of_ble_eq_true rfl)) d_L_law_1259 ⟨by show _ ≤ 601024; omega, by show _ ≤ 7293000; omega⟩) ?_
    refine lv_iload hx hb d_L_law_1262 (lv_at hl 1 rfl) ?_
    refine lv_icmp_eq (tgt := 1269) hx hb d_L_law_1264 (by decide) (fun _ => ?_) (fun c9 => absurd rfl c9)
    refine lv_iload hx hb d_L_law_1269 (lv_at hl 1 rfl) ?_
    refine lv_if_ne (tgt := 1286) hx hb d_L_law_1271 (by decide) (fun c1271 => ?_) (fun c1271 => ?_)
    · exact absurd c1271 (by decide)
    · refine lv_aload_n hx hb d_L_law_1274 rfl (lv_at hl 5 rfl) ?_
      refine lv_iconst (v := 0) hx hb d_L_law_1275 (by decide) ?_
      refine rw_lald hx hb hK.1 1 ho2 rfl 0 rfl (by decide) (by decide) d_L_law_1276 ?_
      refine tp_l (y := (lsV u (nn (xs (i + 1))) (nn (xs (i + 2))) (nn (xs (i + 3))) (xs (i + 4))).toInt64) pk_uLs ?_
      refine lv_iload hx hb d_L_law_1277 (lv_at hl 0 rfl) ?_
      refine lv_i2l (v := (lsV u (nn (xs (i + 1))) (nn (xs (i + 2))) (nn (xs (i + 3))) (xs (i + 4))).toInt64) hx hb d_L_law_1279 rfl ?_
      refine ll_eq (tgt := 1286) hx hb d_L_law_1280 d_L_law_1281 (by decide) (fun _ => ?_) (fun c9 => absurd rfl c9)
      refine lv_goto (tgt := 1599) hx hb d_L_law_1286 (by decide) ?_
      exact W.widen (by omega) (by omega) (K9 _ _ _ _ _ _ _ ls hf2 hm2 ho2 hL2 (lv_sub hl [2, 3, 4, 5, 6] rfl))
  · refine lv_istore (lv' := [(5, .int 1), (0, .ref q0), (1, .ref b), (2, .ref (b + 101)), (3, .ref (b + 117)), (4, .int (nI i))]) hx hb d_L_law_1226 hl (by decide) rfl (fun ls hl => ?_)
    refine lv_aload_n hx hb d_L_law_1228 rfl (lv_at hl 3 rfl) ?_
    refine lv_aload_n hx hb d_L_law_1229 rfl (lv_at hl 1 rfl) ?_
    refine lv_iload hx hb d_L_law_1230 (lv_at hl 5 rfl) ?_
    refine lv_iconst (v := 1) hx hb d_L_law_1232 (by decide) ?_
    refine lv_iadd hx hb d_L_law_1233 ?_
    refine rw_sld hx hb hX hq hf1.2.2.2.1 hLL (i + 1) (nI_add i 1) (by omega) d_L_law_1234 ?_
    refine lv_aload_n hx hb d_L_law_1235 rfl (lv_at hl 1 rfl) ?_
    refine lv_iload hx hb d_L_law_1236 (lv_at hl 5 rfl) ?_
    refine lv_iconst (v := 2) hx hb d_L_law_1238 (by decide) ?_
    refine lv_iadd hx hb d_L_law_1239 ?_
    refine rw_sld hx hb hX hq hf1.2.2.2.1 hLL (i + 2) (nI_add i 2) (by omega) d_L_law_1240 ?_
    refine lv_aload_n hx hb d_L_law_1241 rfl (lv_at hl 1 rfl) ?_
    refine lv_iload hx hb d_L_law_1242 (lv_at hl 5 rfl) ?_
    refine lv_iconst (v := 3) hx hb d_L_law_1244 (by decide) ?_
    refine lv_iadd hx hb d_L_law_1245 ?_
    refine rw_sld hx hb hX hq hf1.2.2.2.1 hLL (i + 3) (nI_add i 3) (by omega) d_L_law_1246 ?_
    refine lv_aload_n hx hb d_L_law_1247 rfl (lv_at hl 1 rfl) ?_
    refine lv_iload hx hb d_L_law_1248 (lv_at hl 5 rfl) ?_
    refine lv_iconst (v := 4) hx hb d_L_law_1250 (by decide) ?_
    refine lv_iadd hx hb d_L_law_1251 ?_
    refine rw_sld hx hb hX hq hf1.2.2.2.1 hLL (i + 4) (nI_add i 4) (by omega) d_L_law_1252 ?_
    refine cl_e (A := (fun z => (evH ev).size ≤ z)) (W.runV (As := [.int (xs (i + 1)), .int (xs (i + 2)), .int (xs (i + 3)), .int (xs (i + 4))]) (rest := []) S (c_M_listed hm1 (xs (i + 1)) (xs (i + 2)) (xs (i + 3)) (xs (i + 4))) (cwV 4 hts gv_L_121 rfl rfl rfl (by decide +kernel) ⟨Nat.le_of_ble_eq_true rfl, Nat.le_of_ble_eq_true rfl⟩) (cP_V (KG_ok _) hK hK.1 hm1.1 rfl) rfl rfl hl.1 rfl (lv_room (Nat.le_of_ble_eq_true rfl)) d_L_law_1253 ⟨by show _ ≤ 601024; omega, by show _ ≤ 7293000; omega⟩) hL1 (fun z h => by have h9 := hf.2.2.2.2; omega) (fun r2 H2 L2 hp2 hL2 => ?_)
    obtain ⟨hp2, hB2⟩ := hp2
    obtain ⟨e8, hm2⟩ : r2 = .int 0 ∧ MW ev (b + 101) 1 u kp v H2 := by
      rcases hp2 with ⟨g, e9, h9⟩ | ⟨g, e9, h9⟩
      · exact (hbad g).elim
      · exact ⟨e9, h9⟩
    subst e8
    have hf2 := XF_B hf1 hB2
    have ho2 := pt_k ho1 (hB2.2 _ (by omega))
    refine lv_istore (lv' := [(6, .int 0), (5, .int 1), (0, .ref q0), (1, .ref b), (2, .ref (b + 101)), (3, .ref (b + 117)), (4, .int (nI i))]) hx hb d_L_law_1256 hl (by decide) rfl (fun ls hl => ?_)
    refine lv_aload_n hx hb d_L_law_1258 rfl (lv_at hl 4 rfl) ?_
    refine cl_i (W.runV (As := []) (rest := []) S (c_M_thrown hm2.1) (cwV 0 hts gv_L_85 rfl rfl rfl (by decide +kernel) ⟨Nat.le_of_ble_eq_true rfl, Nat.le_of_ble_eq_true rfl⟩) (cP_V (KG_ok _) hK hK.1 hm2.1 rfl) rfl rfl hl.1 rfl (lv_room (Nat.le_of_ble_eq_true rfl)) d_L_law_1259 ⟨by show _ ≤ 601024; omega, by show _ ≤ 7293000; omega⟩) ?_
    refine lv_iload hx hb d_L_law_1262 (lv_at hl 1 rfl) ?_
    refine lv_icmp_eq (tgt := 1269) hx hb d_L_law_1264 (by decide) (fun _ => ?_) (fun c9 => absurd rfl c9)
    refine lv_iload hx hb d_L_law_1269 (lv_at hl 1 rfl) ?_
    refine lv_if_ne (tgt := 1286) hx hb d_L_law_1271 (by decide) (fun c1271 => ?_) (fun c1271 => ?_)
    · refine lv_goto (tgt := 1599) hx hb d_L_law_1286 (by decide) ?_
      exact W.widen (by omega) (by omega) (K9 _ _ _ _ _ _ _ ls hf2 hm2 ho2 hL2 (lv_sub hl [2, 3, 4, 5, 6] rfl))
    · exact absurd c1271 (by decide)
set_option maxRecDepth 100000 in
set_option maxHeartbeats 4000000 in
theorem lk_why {p : Program} {l : Launch} {e : Env} {s : State} {m : MethodId} {below : List Frame} {meth : Method} {c : Code} {ev : EV} {QQ : State → Prop} {q0 L b i C Sl : Nat} {xs : Nat → Int32} {th : Int32} {u : XS} {kp : KT} {v : PT} {f : Nat → Int64} {H : Heap} {locs : List Loc} {ls : Array Slot} (S : CallFix p m c code 8 s #[Value.ref q0] TB "RuleChoiceLaw") (hK : KG ev s) (hT : l.stackTraces = false) (hX : va_X q0 L xs s (evH ev)) (hq : q0 < (evH ev).size) (hLL : L ≤ 4609) (hi9 : i + 9 ≤ L) (hC : C + 5 ≤ 601024) (hSl : Sl + 30 ≤ 7293000) (hf : XF ev b u kp v H) (hm : MW ev (b + 101) th u kp v H) (ho : pt ev H (b + 117) (aL ev 1 f)) (hL : ∀ z ∈ locs, (evH ev).size ≤ z.base) (K9 : ∀ (th1 : Int32) (u1 : XS) (kp1 : KT) (v1 : PT) (f1 : Nat → Int64) (H1 : Heap) (locs1 : List Loc) (ls1 : Array Slot), XF ev b u1 kp1 v1 H1 → MW ev (b + 101) th1 u1 kp1 v1 H1 → pt ev H1 (b + 117) (aL ev 1 f1) → (∀ z ∈ locs1, (evH ev).size ≤ z.base) → lv_has ls1 8 [(0, .ref q0), (1, .ref b), (2, .ref (b + 101)), (3, .ref (b + 117)), (4, .int (nI i))] → W p l e room_1 s m #[Value.ref q0] below meth c H1 locs1 (C + 5) (Sl + 30) QQ (F0 m 1599 ls1 [])) (hl : lv_has ls 8 [(0, .ref q0), (1, .ref b), (2, .ref (b + 101)), (3, .ref (b + 117)), (4, .int (nI i))]) : W p l e room_1 s m #[Value.ref q0] below meth c H locs C Sl QQ (F0 m 1289 ls []) := by
  obtain ⟨hx, hb, hml, hown, hts⟩ := id S
  refine lv_aload_n hx hb d_L_law_1289 rfl (lv_at hl 1 rfl) ?_
  refine lv_aload_n hx hb d_L_law_1290 rfl (lv_at hl 0 rfl) ?_
  refine lv_iload hx hb d_L_law_1291 (lv_at hl 4 rfl) ?_
  refine lv_iconst (v := 1) hx hb d_L_law_1293 (by decide) ?_
  refine lv_iadd hx hb d_L_law_1294 ?_
  refine rw_sld hx hb hX hq hf.2.2.2.1 hLL (i + 1) (nI_add i 1) (by omega) d_L_law_1295 ?_
  refine lv_aload_n hx hb d_L_law_1296 rfl (lv_at hl 0 rfl) ?_
  refine lv_iload hx hb d_L_law_1297 (lv_at hl 4 rfl) ?_
  refine lv_iconst (v := 2) hx hb d_L_law_1299 (by decide) ?_
  refine lv_iadd hx hb d_L_law_1300 ?_
  refine rw_sld hx hb hX hq hf.2.2.2.1 hLL (i + 2) (nI_add i 2) (by omega) d_L_law_1301 ?_
  refine lv_aload_n hx hb d_L_law_1302 rfl (lv_at hl 0 rfl) ?_
  refine lv_iload hx hb d_L_law_1303 (lv_at hl 4 rfl) ?_
  refine lv_iconst (v := 3) hx hb d_L_law_1305 (by decide) ?_
  refine lv_iadd hx hb d_L_law_1306 ?_
  refine rw_sld hx hb hX hq hf.2.2.2.1 hLL (i + 3) (nI_add i 3) (by omega) d_L_law_1307 ?_
  refine lv_aload_n hx hb d_L_law_1308 rfl (lv_at hl 0 rfl) ?_
  refine lv_iload hx hb d_L_law_1309 (lv_at hl 4 rfl) ?_
  refine lv_iconst (v := 4) hx hb d_L_law_1311 (by decide) ?_
  refine lv_iadd hx hb d_L_law_1312 ?_
  refine rw_sld hx hb hX hq hf.2.2.2.1 hLL (i + 4) (nI_add i 4) (by omega) d_L_law_1313 ?_
  refine lv_aload_n hx hb d_L_law_1314 rfl (lv_at hl 3 rfl) ?_
  refine cl_eW (A := (fun z => (evH ev).size ≤ z)) (vx_runSW (As := [.ref b, .int (xs (i + 1)), .int (xs (i + 2)), .int (xs (i + 3)), .int (xs (i + 4)), .ref (b + 117)]) (rest := []) S (c_L_why hT hf ho (by omega) (xs (i + 1)) (xs (i + 2)) (xs (i + 3)) (xs (i + 4))) (vx_cwSW 6 hts gs_L_122 rfl rfl rfl (by decide +kernel) ⟨Nat.le_of_ble_eq_true rfl, Nat.le_of_ble_eq_true rfl⟩) (cP_S (KG_ok _) hK) rfl rfl hl.1 rfl (lv_room (Nat.le_of_ble_eq_true rfl)) d_L_law_1315 ⟨by show _ ≤ 601024; omega, by show _ ≤ 7293000; omega⟩) hL (fun z h => Nat.le_trans hf.2.2.2.2 h) (fun r1 H1 L1 hp1 hL1 => ?_)
  obtain ⟨hp1, hF1⟩ := hp1
  have hm1 := MW_F hm ho hF1
  rcases hp1 with ⟨hok, rfl, hf1, ho1⟩ | ⟨hbad, rfl, hf1, ho1⟩
  · refine lv_istore (lv' := [(5, .int 0), (0, .ref q0), (1, .ref b), (2, .ref (b + 101)), (3, .ref (b + 117)), (4, .int (nI i))]) hx hb d_L_law_1318 hl (by decide) rfl (fun ls hl => ?_)
    refine lv_aload_n hx hb d_L_law_1320 rfl (lv_at hl 3 rfl) ?_
    refine lv_aload_n hx hb d_L_law_1321 rfl (lv_at hl 1 rfl) ?_
    refine lv_iload hx hb d_L_law_1322 (lv_at hl 5 rfl) ?_
    refine lv_iconst (v := 1) hx hb d_L_law_1324 (by decide) ?_
    refine lv_iadd hx hb d_L_law_1325 ?_
    refine rw_sld hx hb hX hq hf1.2.2.2.1 hLL (i + 1) (nI_add i 1) (by omega) d_L_law_1326 ?_
    refine lv_aload_n hx hb d_L_law_1327 rfl (lv_at hl 1 rfl) ?_
    refine lv_iload hx hb d_L_law_1328 (lv_at hl 5 rfl) ?_
    refine lv_iconst (v := 2) hx hb d_L_law_1330 (by decide) ?_
    refine lv_iadd hx hb d_L_law_1331 ?_
    refine rw_sld hx hb hX hq hf1.2.2.2.1 hLL (i + 2) (nI_add i 2) (by omega) d_L_law_1332 ?_
    refine lv_aload_n hx hb d_L_law_1333 rfl (lv_at hl 1 rfl) ?_
    refine lv_iload hx hb d_L_law_1334 (lv_at hl 5 rfl) ?_
    refine lv_iconst (v := 3) hx hb d_L_law_1336 (by decide) ?_
    refine lv_iadd hx hb d_L_law_1337 ?_
    refine rw_sld hx hb hX hq hf1.2.2.2.1 hLL (i + 3) (nI_add i 3) (by omega) d_L_law_1338 ?_
    refine lv_aload_n hx hb d_L_law_1339 rfl (lv_at hl 1 rfl) ?_
    refine lv_iload hx hb d_L_law_1340 (lv_at hl 5 rfl) ?_
    refine lv_iconst (v := 4) hx hb d_L_law_1342 (by decide) ?_
    refine lv_iadd hx hb d_L_law_1343 ?_
    refine rw_sld hx hb hX hq hf1.2.2.2.1 hLL (i + 4) (nI_add i 4) (by omega) d_L_law_1344 ?_
    refine cl_e (A := (fun z => (evH ev).size ≤ z)) (W.runV (As := [.int (xs (i + 1)), .int (xs (i + 2)), .int (xs (i + 3)), .int (xs (i + 4))]) (rest := []) S (c_M_why hm1 (xs (i + 1)) (xs (i + 2)) (xs (i + 3)) (xs (i + 4))) (cwV 4 hts gv_L_124 rfl rfl rfl (by decide +kernel) ⟨Nat.le_of_ble_eq_true rfl, Nat.le_of_ble_eq_true rfl⟩) (cP_V (KG_ok _) hK hK.1 hm1.1 rfl) rfl rfl hl.1 rfl (lv_room (Nat.le_of_ble_eq_true rfl)) d_L_law_1345 ⟨by show _ ≤ 601024; omega, by show _ ≤ 7293000; omega⟩) hL1 (fun z h => by have h9 := hf.2.2.2.2; omega) (fun r2 H2 L2 hp2 hL2 => ?_)
    obtain ⟨hp2, hB2⟩ := hp2
    obtain ⟨e8, hm2⟩ : r2 = .int (whyF u (nn (xs (i + 1))) (nn (xs (i + 2))) (nn (xs (i + 3))) (nn (xs (i + 4)))) ∧ MW ev (b + 101) 0 u kp v H2 := by
      rcases hp2 with ⟨g, e9, h9⟩ | ⟨g, e9, h9⟩
      · exact ⟨e9, h9⟩
      · exact (g hok).elim
    subst e8
    have hf2 := XF_B hf1 hB2
    have ho2 := pt_k ho1 (hB2.2 _ (by omega))
    refine lv_istore (lv' := [(6, .int (whyF u (nn (xs (i + 1))) (nn (xs (i + 2))) (nn (xs (i + 3))) (nn (xs (i + 4))))), (5, .int 0), (0, .ref q0), (1, .ref b), (2, .ref (b + 101)), (3, .ref (b + 117)), (4, .int (nI i))]) hx hb d_L_law_1348 hl (by decide) rfl (fun ls hl => ?_)
    refine lv_aload_n hx hb d_L_law_1350 rfl (lv_at hl 4 rfl) ?_
    refine cl_i (W.runV (As := []) (rest := []) S (c_M_thrown hm2.1) (cwV 0 hts gv_L_85 rfl rfl rfl (by decide +kernel) ⟨Nat.le_of_ble_eq_true rfl, Nat.le_of_ble_eq_true rfl⟩) (cP_V (KG_ok _) hK hK.1 hm2.1 rfl) rfl rfl hl.1 rfl (lv_room (Nat.le_of_ble_eq_true rfl)) d_L_law_1351 ⟨by show _ ≤ 601024; omega, by show _ ≤ 7293000; omega⟩) ?_
    refine lv_iload hx hb d_L_law_1354 (lv_at hl 1 rfl) ?_
    refine lv_icmp_eq (tgt := 1361) hx hb d_L_law_1356 (by decide) (fun _ => ?_) (fun c9 => absurd rfl c9)
    refine lv_iload hx hb d_L_law_1361 (lv_at hl 1 rfl) ?_
    refine lv_if_ne (tgt := 1378) hx hb d_L_law_1363 (by decide) (fun c1363 => ?_) (fun c1363 => ?_)
    · exact absurd c1363 (by decide)
    · refine lv_aload_n hx hb d_L_law_1366 rfl (lv_at hl 5 rfl) ?_
      refine lv_iconst (v := 0) hx hb d_L_law_1367 (by decide) ?_
      refine rw_lald hx hb hK.1 1 ho2 rfl 0 rfl (by decide) (by decide) d_L_law_1368 ?_
      refine tp_l (y := (whyF u (nn (xs (i + 1))) (nn (xs (i + 2))) (nn (xs (i + 3))) (nn (xs (i + 4)))).toInt64) pk_uLs ?_
      refine lv_iload hx hb d_L_law_1369 (lv_at hl 0 rfl) ?_
      refine lv_i2l (v := (whyF u (nn (xs (i + 1))) (nn (xs (i + 2))) (nn (xs (i + 3))) (nn (xs (i + 4)))).toInt64) hx hb d_L_law_1371 rfl ?_
      refine ll_eq (tgt := 1378) hx hb d_L_law_1372 d_L_law_1373 (by decide) (fun _ => ?_) (fun c9 => absurd rfl c9)
      refine lv_goto (tgt := 1599) hx hb d_L_law_1378 (by decide) ?_
      exact W.widen (by omega) (by omega) (K9 _ _ _ _ _ _ _ ls hf2 hm2 ho2 hL2 (lv_sub hl [2, 3, 4, 5, 6] rfl))
  · refine lv_istore (lv' := [(5, .int 1), (0, .ref q0), (1, .ref b), (2, .ref (b + 101)), (3, .ref (b + 117)), (4, .int (nI i))]) hx hb d_L_law_1318 hl (by decide) rfl (fun ls hl => ?_)
    refine lv_aload_n hx hb d_L_law_1320 rfl (lv_at hl 3 rfl) ?_
    refine lv_aload_n hx hb d_L_law_1321 rfl (lv_at hl 1 rfl) ?_
    refine lv_iload hx hb d_L_law_1322 (lv_at hl 5 rfl) ?_
    refine lv_iconst (v := 1) hx hb d_L_law_1324 (by decide) ?_
    refine lv_iadd hx hb d_L_law_1325 ?_
    refine rw_sld hx hb hX hq hf1.2.2.2.1 hLL (i + 1) (nI_add i 1) (by omega) d_L_law_1326 ?_
    refine lv_aload_n hx hb d_L_law_1327 rfl (lv_at hl 1 rfl) ?_
    refine lv_iload hx hb d_L_law_1328 (lv_at hl 5 rfl) ?_
    refine lv_iconst (v := 2) hx hb d_L_law_1330 (by decide) ?_
    refine lv_iadd hx hb d_L_law_1331 ?_
    refine rw_sld hx hb hX hq hf1.2.2.2.1 hLL (i + 2) (nI_add i 2) (by omega) d_L_law_1332 ?_
    refine lv_aload_n hx hb d_L_law_1333 rfl (lv_at hl 1 rfl) ?_
    refine lv_iload hx hb d_L_law_1334 (lv_at hl 5 rfl) ?_
    refine lv_iconst (v := 3) hx hb d_L_law_1336 (by decide) ?_
    refine lv_iadd hx hb d_L_law_1337 ?_
    refine rw_sld hx hb hX hq hf1.2.2.2.1 hLL (i + 3) (nI_add i 3) (by omega) d_L_law_1338 ?_
    refine lv_aload_n hx hb d_L_law_1339 rfl (lv_at hl 1 rfl) ?_
    refine lv_iload hx hb d_L_law_1340 (lv_at hl 5 rfl) ?_
    refine lv_iconst (v := 4) hx hb d_L_law_1342 (by decide) ?_
    refine lv_iadd hx hb d_L_law_1343 ?_
    refine rw_sld hx hb hX hq hf1.2.2.2.1 hLL (i + 4) (nI_add i 4) (by omega) d_L_law_1344 ?_
    refine cl_e (A := (fun z => (evH ev).size ≤ z)) (W.runV (As := [.int (xs (i + 1)), .int (xs (i + 2)), .int (xs (i + 3)), .int (xs (i + 4))]) (rest := []) S (c_M_why hm1 (xs (i + 1)) (xs (i + 2)) (xs (i + 3)) (xs (i + 4))) (cwV 4 hts gv_L_124 rfl rfl rfl (by decide +kernel) ⟨Nat.le_of_ble_eq_true rfl, Nat.le_of_ble_eq_true rfl⟩) (cP_V (KG_ok _) hK hK.1 hm1.1 rfl) rfl rfl hl.1 rfl (lv_room (Nat.le_of_ble_eq_true rfl)) d_L_law_1345 ⟨by show _ ≤ 601024; omega, by show _ ≤ 7293000; omega⟩) hL1 (fun z h => by have h9 := hf.2.2.2.2; omega) (fun r2 H2 L2 hp2 hL2 => ?_)
    obtain ⟨hp2, hB2⟩ := hp2
    obtain ⟨e8, hm2⟩ : r2 = .int 0 ∧ MW ev (b + 101) 1 u kp v H2 := by
      rcases hp2 with ⟨g, e9, h9⟩ | ⟨g, e9, h9⟩
      · exact (hbad g).elim
      · exact ⟨e9, h9⟩
    subst e8
    have hf2 := XF_B hf1 hB2
    have ho2 := pt_k ho1 (hB2.2 _ (by omega))
    refine lv_istore (lv' := [(6, .int 0), (5, .int 1), (0, .ref q0), (1, .ref b), (2, .ref (b + 101)), (3, .ref (b + 117)), (4, .int (nI i))]) hx hb d_L_law_1348 hl (by decide) rfl (fun ls hl => ?_)
    refine lv_aload_n hx hb d_L_law_1350 rfl (lv_at hl 4 rfl) ?_
    refine cl_i (W.runV (As := []) (rest := []) S (c_M_thrown hm2.1) (cwV 0 hts gv_L_85 rfl rfl rfl (by decide +kernel) ⟨Nat.le_of_ble_eq_true rfl, Nat.le_of_ble_eq_true rfl⟩) (cP_V (KG_ok _) hK hK.1 hm2.1 rfl) rfl rfl hl.1 rfl (lv_room (Nat.le_of_ble_eq_true rfl)) d_L_law_1351 ⟨by show _ ≤ 601024; omega, by show _ ≤ 7293000; omega⟩) ?_
    refine lv_iload hx hb d_L_law_1354 (lv_at hl 1 rfl) ?_
    refine lv_icmp_eq (tgt := 1361) hx hb d_L_law_1356 (by decide) (fun _ => ?_) (fun c9 => absurd rfl c9)
    refine lv_iload hx hb d_L_law_1361 (lv_at hl 1 rfl) ?_
    refine lv_if_ne (tgt := 1378) hx hb d_L_law_1363 (by decide) (fun c1363 => ?_) (fun c1363 => ?_)
    · refine lv_goto (tgt := 1599) hx hb d_L_law_1378 (by decide) ?_
      exact W.widen (by omega) (by omega) (K9 _ _ _ _ _ _ _ ls hf2 hm2 ho2 hL2 (lv_sub hl [2, 3, 4, 5, 6] rfl))
    · exact absurd c1363 (by decide)
set_option maxRecDepth 100000 in
set_option maxHeartbeats 4000000 in
theorem lk_greatest {p : Program} {l : Launch} {e : Env} {s : State} {m : MethodId} {below : List Frame} {meth : Method} {c : Code} {ev : EV} {QQ : State → Prop} {q0 L b i C Sl : Nat} {xs : Nat → Int32} {th : Int32} {u : XS} {kp : KT} {v : PT} {f : Nat → Int64} {H : Heap} {locs : List Loc} {ls : Array Slot} (S : CallFix p m c code 8 s #[Value.ref q0] TB "RuleChoiceLaw") (hK : KG ev s) (hT : l.stackTraces = false) (hX : va_X q0 L xs s (evH ev)) (hq : q0 < (evH ev).size) (hLL : L ≤ 4609) (hi9 : i + 9 ≤ L) (hC : C + 5 ≤ 601024) (hSl : Sl + 30 ≤ 7293000) (hf : XF ev b u kp v H) (hm : MW ev (b + 101) th u kp v H) (ho : pt ev H (b + 117) (aL ev 1 f)) (hL : ∀ z ∈ locs, (evH ev).size ≤ z.base) (K9 : ∀ (th1 : Int32) (u1 : XS) (kp1 : KT) (v1 : PT) (f1 : Nat → Int64) (H1 : Heap) (locs1 : List Loc) (ls1 : Array Slot), XF ev b u1 kp1 v1 H1 → MW ev (b + 101) th1 u1 kp1 v1 H1 → pt ev H1 (b + 117) (aL ev 1 f1) → (∀ z ∈ locs1, (evH ev).size ≤ z.base) → lv_has ls1 8 [(0, .ref q0), (1, .ref b), (2, .ref (b + 101)), (3, .ref (b + 117)), (4, .int (nI i))] → W p l e room_1 s m #[Value.ref q0] below meth c H1 locs1 (C + 5) (Sl + 30) QQ (F0 m 1599 ls1 [])) (hl : lv_has ls 8 [(0, .ref q0), (1, .ref b), (2, .ref (b + 101)), (3, .ref (b + 117)), (4, .int (nI i))]) : W p l e room_1 s m #[Value.ref q0] below meth c H locs C Sl QQ (F0 m 1381 ls []) := by
  obtain ⟨hx, hb, hml, hown, hts⟩ := id S
  refine lv_aload_n hx hb d_L_law_1381 rfl (lv_at hl 1 rfl) ?_
  refine lv_aload_n hx hb d_L_law_1382 rfl (lv_at hl 0 rfl) ?_
  refine lv_iload hx hb d_L_law_1383 (lv_at hl 4 rfl) ?_
  refine lv_iconst (v := 1) hx hb d_L_law_1385 (by decide) ?_
  refine lv_iadd hx hb d_L_law_1386 ?_
  refine rw_sld hx hb hX hq hf.2.2.2.1 hLL (i + 1) (nI_add i 1) (by omega) d_L_law_1387 ?_
  refine lv_aload_n hx hb d_L_law_1388 rfl (lv_at hl 0 rfl) ?_
  refine lv_iload hx hb d_L_law_1389 (lv_at hl 4 rfl) ?_
  refine lv_iconst (v := 2) hx hb d_L_law_1391 (by decide) ?_
  refine lv_iadd hx hb d_L_law_1392 ?_
  refine rw_sld hx hb hX hq hf.2.2.2.1 hLL (i + 2) (nI_add i 2) (by omega) d_L_law_1393 ?_
  refine lv_aload_n hx hb d_L_law_1394 rfl (lv_at hl 3 rfl) ?_
  refine cl_eW (A := (fun z => (evH ev).size ≤ z)) (vx_runSW (As := [.ref b, .int (xs (i + 1)), .int (xs (i + 2)), .ref (b + 117)]) (rest := []) S (c_L_greatest hT hf ho (by omega) (xs (i + 1)) (xs (i + 2))) (vx_cwSW 4 hts gs_L_125 rfl rfl rfl (by decide +kernel) ⟨Nat.le_of_ble_eq_true rfl, Nat.le_of_ble_eq_true rfl⟩) (cP_S (KG_ok _) hK) rfl rfl hl.1 rfl (lv_room (Nat.le_of_ble_eq_true rfl)) d_L_law_1395 ⟨by show _ ≤ 601024; omega, by show _ ≤ 7293000; omega⟩) hL (fun z h => Nat.le_trans hf.2.2.2.2 h) (fun r1 H1 L1 hp1 hL1 => ?_)
  obtain ⟨hp1, hF1⟩ := hp1
  have hm1 := MW_F hm ho hF1
  rcases hp1 with ⟨hok, rfl, hf1, ho1⟩ | ⟨hbad, rfl, hf1, ho1⟩
  · refine lv_istore (lv' := [(5, .int 0), (0, .ref q0), (1, .ref b), (2, .ref (b + 101)), (3, .ref (b + 117)), (4, .int (nI i))]) hx hb d_L_law_1398 hl (by decide) rfl (fun ls hl => ?_)
    refine lv_aload_n hx hb d_L_law_1400 rfl (lv_at hl 3 rfl) ?_
    refine lv_aload_n hx hb d_L_law_1401 rfl (lv_at hl 1 rfl) ?_
    refine lv_iload hx hb d_L_law_1402 (lv_at hl 5 rfl) ?_
    refine lv_iconst (v := 1) hx hb d_L_law_1404 (by decide) ?_
    refine lv_iadd hx hb d_L_law_1405 ?_
    refine rw_sld hx hb hX hq hf1.2.2.2.1 hLL (i + 1) (nI_add i 1) (by omega) d_L_law_1406 ?_
    refine lv_aload_n hx hb d_L_law_1407 rfl (lv_at hl 1 rfl) ?_
    refine lv_iload hx hb d_L_law_1408 (lv_at hl 5 rfl) ?_
    refine lv_iconst (v := 2) hx hb d_L_law_1410 (by decide) ?_
    refine lv_iadd hx hb d_L_law_1411 ?_
    refine rw_sld hx hb hX hq hf1.2.2.2.1 hLL (i + 2) (nI_add i 2) (by omega) d_L_law_1412 ?_
    refine cl_e (A := (fun z => (evH ev).size ≤ z)) (W.runV (As := [.int (xs (i + 1)), .int (xs (i + 2))]) (rest := []) S (c_M_greatest hm1 (xs (i + 1)) (xs (i + 2))) (cwV 2 hts gv_L_127 rfl rfl rfl (by decide +kernel) ⟨Nat.le_of_ble_eq_true rfl, Nat.le_of_ble_eq_true rfl⟩) (cP_V (KG_ok _) hK hK.1 hm1.1 rfl) rfl rfl hl.1 rfl (lv_room (Nat.le_of_ble_eq_true rfl)) d_L_law_1413 ⟨by show _ ≤ 601024; omega, by show _ ≤ 7293000; omega⟩) hL1 (fun z h => by have h9 := hf.2.2.2.2; omega) (fun r2 H2 L2 hp2 hL2 => ?_)
    obtain ⟨hp2, hB2⟩ := hp2
    obtain ⟨e8, hm2⟩ : r2 = .long (grtF u (xs (i + 1)) (xs (i + 2)) u.1.2.1) ∧ MW ev (b + 101) 0 u kp v H2 := by
      rcases hp2 with ⟨g, e9, h9⟩ | ⟨g, e9, h9⟩
      · exact ⟨e9, h9⟩
      · exact (g hok).elim
    subst e8
    have hf2 := XF_B hf1 hB2
    have ho2 := pt_k ho1 (hB2.2 _ (by omega))
    refine lv_lstore (lv' := [(6, .long (grtF u (xs (i + 1)) (xs (i + 2)) u.1.2.1)), (5, .int 0), (0, .ref q0), (1, .ref b), (2, .ref (b + 101)), (3, .ref (b + 117)), (4, .int (nI i))]) hx hb d_L_law_1416 hl (by decide) rfl (fun ls hl => ?_)
    refine lv_aload_n hx hb d_L_law_1418 rfl (lv_at hl 4 rfl) ?_
    refine cl_i (W.runV (As := []) (rest := []) S (c_M_thrown hm2.1) (cwV 0 hts gv_L_85 rfl rfl rfl (by decide +kernel) ⟨Nat.le_of_ble_eq_true rfl, Nat.le_of_ble_eq_true rfl⟩) (cP_V (KG_ok _) hK hK.1 hm2.1 rfl) rfl rfl hl.1 rfl (lv_room (Nat.le_of_ble_eq_true rfl)) d_L_law_1419 ⟨by show _ ≤ 601024; omega, by show _ ≤ 7293000; omega⟩) ?_
    refine lv_iload hx hb d_L_law_1422 (lv_at hl 1 rfl) ?_
    refine lv_icmp_eq (tgt := 1429) hx hb d_L_law_1424 (by decide) (fun _ => ?_) (fun c9 => absurd rfl c9)
    refine lv_iload hx hb d_L_law_1429 (lv_at hl 1 rfl) ?_
    refine lv_if_ne (tgt := 1445) hx hb d_L_law_1431 (by decide) (fun c1431 => ?_) (fun c1431 => ?_)
    · exact absurd c1431 (by decide)
    · refine lv_aload_n hx hb d_L_law_1434 rfl (lv_at hl 5 rfl) ?_
      refine lv_iconst (v := 0) hx hb d_L_law_1435 (by decide) ?_
      refine rw_lald hx hb hK.1 1 ho2 rfl 0 rfl (by decide) (by decide) d_L_law_1436 ?_
      refine tp_l (y := (grtF u (xs (i + 1)) (xs (i + 2)) u.1.2.1)) pk_uLs ?_
      refine lv_lload hx hb d_L_law_1437 (lv_at hl 0 rfl) ?_
      refine ll_eq (tgt := 1445) hx hb d_L_law_1439 d_L_law_1440 (by decide) (fun _ => ?_) (fun c9 => absurd rfl c9)
      refine lv_goto (tgt := 1599) hx hb d_L_law_1445 (by decide) ?_
      exact W.widen (by omega) (by omega) (K9 _ _ _ _ _ _ _ ls hf2 hm2 ho2 hL2 (lv_sub hl [2, 3, 4, 5, 6] rfl))
  · refine lv_istore (lv' := [(5, .int 1), (0, .ref q0), (1, .ref b), (2, .ref (b + 101)), (3, .ref (b + 117)), (4, .int (nI i))]) hx hb d_L_law_1398 hl (by decide) rfl (fun ls hl => ?_)
    refine lv_aload_n hx hb d_L_law_1400 rfl (lv_at hl 3 rfl) ?_
    refine lv_aload_n hx hb d_L_law_1401 rfl (lv_at hl 1 rfl) ?_
    refine lv_iload hx hb d_L_law_1402 (lv_at hl 5 rfl) ?_
    refine lv_iconst (v := 1) hx hb d_L_law_1404 (by decide) ?_
    refine lv_iadd hx hb d_L_law_1405 ?_
    refine rw_sld hx hb hX hq hf1.2.2.2.1 hLL (i + 1) (nI_add i 1) (by omega) d_L_law_1406 ?_
    refine lv_aload_n hx hb d_L_law_1407 rfl (lv_at hl 1 rfl) ?_
    refine lv_iload hx hb d_L_law_1408 (lv_at hl 5 rfl) ?_
    refine lv_iconst (v := 2) hx hb d_L_law_1410 (by decide) ?_
    refine lv_iadd hx hb d_L_law_1411 ?_
    refine rw_sld hx hb hX hq hf1.2.2.2.1 hLL (i + 2) (nI_add i 2) (by omega) d_L_law_1412 ?_
    refine cl_e (A := (fun z => (evH ev).size ≤ z)) (W.runV (As := [.int (xs (i + 1)), .int (xs (i + 2))]) (rest := []) S (c_M_greatest hm1 (xs (i + 1)) (xs (i + 2))) (cwV 2 hts gv_L_127 rfl rfl rfl (by decide +kernel) ⟨Nat.le_of_ble_eq_true rfl, Nat.le_of_ble_eq_true rfl⟩) (cP_V (KG_ok _) hK hK.1 hm1.1 rfl) rfl rfl hl.1 rfl (lv_room (Nat.le_of_ble_eq_true rfl)) d_L_law_1413 ⟨by show _ ≤ 601024; omega, by show _ ≤ 7293000; omega⟩) hL1 (fun z h => by have h9 := hf.2.2.2.2; omega) (fun r2 H2 L2 hp2 hL2 => ?_)
    obtain ⟨hp2, hB2⟩ := hp2
    obtain ⟨e8, hm2⟩ : r2 = .long 0 ∧ MW ev (b + 101) 1 u kp v H2 := by
      rcases hp2 with ⟨g, e9, h9⟩ | ⟨g, e9, h9⟩
      · exact (hbad g).elim
      · exact ⟨e9, h9⟩
    subst e8
    have hf2 := XF_B hf1 hB2
    have ho2 := pt_k ho1 (hB2.2 _ (by omega))
    refine lv_lstore (lv' := [(6, .long 0), (5, .int 1), (0, .ref q0), (1, .ref b), (2, .ref (b + 101)), (3, .ref (b + 117)), (4, .int (nI i))]) hx hb d_L_law_1416 hl (by decide) rfl (fun ls hl => ?_)
    refine lv_aload_n hx hb d_L_law_1418 rfl (lv_at hl 4 rfl) ?_
    refine cl_i (W.runV (As := []) (rest := []) S (c_M_thrown hm2.1) (cwV 0 hts gv_L_85 rfl rfl rfl (by decide +kernel) ⟨Nat.le_of_ble_eq_true rfl, Nat.le_of_ble_eq_true rfl⟩) (cP_V (KG_ok _) hK hK.1 hm2.1 rfl) rfl rfl hl.1 rfl (lv_room (Nat.le_of_ble_eq_true rfl)) d_L_law_1419 ⟨by show _ ≤ 601024; omega, by show _ ≤ 7293000; omega⟩) ?_
    refine lv_iload hx hb d_L_law_1422 (lv_at hl 1 rfl) ?_
    refine lv_icmp_eq (tgt := 1429) hx hb d_L_law_1424 (by decide) (fun _ => ?_) (fun c9 => absurd rfl c9)
    refine lv_iload hx hb d_L_law_1429 (lv_at hl 1 rfl) ?_
    refine lv_if_ne (tgt := 1445) hx hb d_L_law_1431 (by decide) (fun c1431 => ?_) (fun c1431 => ?_)
    · refine lv_goto (tgt := 1599) hx hb d_L_law_1445 (by decide) ?_
      exact W.widen (by omega) (by omega) (K9 _ _ _ _ _ _ _ ls hf2 hm2 ho2 hL2 (lv_sub hl [2, 3, 4, 5, 6] rfl))
    · exact absurd c1431 (by decide)
set_option maxRecDepth 100000 in
set_option maxHeartbeats 4000000 in
theorem lk_close {p : Program} {l : Launch} {e : Env} {s : State} {m : MethodId} {below : List Frame} {meth : Method} {c : Code} {ev : EV} {QQ : State → Prop} {q0 L b i C Sl : Nat} {xs : Nat → Int32} {th : Int32} {u : XS} {kp : KT} {v : PT} {f : Nat → Int64} {H : Heap} {locs : List Loc} {ls : Array Slot} (S : CallFix p m c code 8 s #[Value.ref q0] TB "RuleChoiceLaw") (hK : KG ev s) (hT : l.stackTraces = false) (hX : va_X q0 L xs s (evH ev)) (hq : q0 < (evH ev).size) (hLL : L ≤ 4609) (hi9 : i + 9 ≤ L) (hC : C + 5 ≤ 601024) (hSl : Sl + 30 ≤ 7293000) (hf : XF ev b u kp v H) (hm : MW ev (b + 101) th u kp v H) (ho : pt ev H (b + 117) (aL ev 1 f)) (hL : ∀ z ∈ locs, (evH ev).size ≤ z.base) (K9 : ∀ (th1 : Int32) (u1 : XS) (kp1 : KT) (v1 : PT) (f1 : Nat → Int64) (H1 : Heap) (locs1 : List Loc) (ls1 : Array Slot), XF ev b u1 kp1 v1 H1 → MW ev (b + 101) th1 u1 kp1 v1 H1 → pt ev H1 (b + 117) (aL ev 1 f1) → (∀ z ∈ locs1, (evH ev).size ≤ z.base) → lv_has ls1 8 [(0, .ref q0), (1, .ref b), (2, .ref (b + 101)), (3, .ref (b + 117)), (4, .int (nI i))] → W p l e room_1 s m #[Value.ref q0] below meth c H1 locs1 (C + 5) (Sl + 30) QQ (F0 m 1599 ls1 [])) (hl : lv_has ls 8 [(0, .ref q0), (1, .ref b), (2, .ref (b + 101)), (3, .ref (b + 117)), (4, .int (nI i))]) : W p l e room_1 s m #[Value.ref q0] below meth c H locs C Sl QQ (F0 m 1448 ls []) := by
  obtain ⟨hx, hb, hml, hown, hts⟩ := id S
  refine lv_aload_n hx hb d_L_law_1448 rfl (lv_at hl 1 rfl) ?_
  refine lv_aload_n hx hb d_L_law_1449 rfl (lv_at hl 0 rfl) ?_
  refine lv_iload hx hb d_L_law_1450 (lv_at hl 4 rfl) ?_
  refine lv_iconst (v := 1) hx hb d_L_law_1452 (by decide) ?_
  refine lv_iadd hx hb d_L_law_1453 ?_
  refine rw_sld hx hb hX hq hf.2.2.2.1 hLL (i + 1) (nI_add i 1) (by omega) d_L_law_1454 ?_
  refine lv_aload_n hx hb d_L_law_1455 rfl (lv_at hl 3 rfl) ?_
  refine cl_eW (A := (fun z => (evH ev).size ≤ z)) (vx_runSW (As := [.ref b, .int (xs (i + 1)), .ref (b + 117)]) (rest := []) S (c_L_close hT hf ho (by omega) (xs (i + 1))) (vx_cwSW 3 hts gs_L_128 rfl rfl rfl (by decide +kernel) ⟨Nat.le_of_ble_eq_true rfl, Nat.le_of_ble_eq_true rfl⟩) (cP_S (KG_ok _) hK) rfl rfl hl.1 rfl (lv_room (Nat.le_of_ble_eq_true rfl)) d_L_law_1456 ⟨by show _ ≤ 601024; omega, by show _ ≤ 7293000; omega⟩) hL (fun z h => Nat.le_trans hf.2.2.2.2 h) (fun r1 H1 L1 hp1 hL1 => ?_)
  obtain ⟨hp1, hF1⟩ := hp1
  have hm1 := MW_F hm ho hF1
  rcases hp1 with ⟨hok, rfl, hf1, ho1⟩ | ⟨hbad, rfl, hf1, ho1⟩
  · refine lv_istore (lv' := [(5, .int 0), (0, .ref q0), (1, .ref b), (2, .ref (b + 101)), (3, .ref (b + 117)), (4, .int (nI i))]) hx hb d_L_law_1459 hl (by decide) rfl (fun ls hl => ?_)
    refine lv_aload_n hx hb d_L_law_1461 rfl (lv_at hl 3 rfl) ?_
    refine lv_aload_n hx hb d_L_law_1462 rfl (lv_at hl 1 rfl) ?_
    refine lv_iload hx hb d_L_law_1463 (lv_at hl 5 rfl) ?_
    refine lv_iconst (v := 1) hx hb d_L_law_1465 (by decide) ?_
    refine lv_iadd hx hb d_L_law_1466 ?_
    refine rw_sld hx hb hX hq hf1.2.2.2.1 hLL (i + 1) (nI_add i 1) (by omega) d_L_law_1467 ?_
    refine cl_e (A := (fun z => (evH ev).size ≤ z)) (W.runV (As := [.int (xs (i + 1))]) (rest := []) S (c_M_close hm1 (xs (i + 1))) (cwV 1 hts gv_L_131 rfl rfl rfl (by decide +kernel) ⟨Nat.le_of_ble_eq_true rfl, Nat.le_of_ble_eq_true rfl⟩) (cP_V (KG_ok _) hK hK.1 hm1.1 rfl) rfl rfl hl.1 rfl (lv_room (Nat.le_of_ble_eq_true rfl)) d_L_law_1468 ⟨by show _ ≤ 601024; omega, by show _ ≤ 7293000; omega⟩) hL1 (fun z h => by have h9 := hf.2.2.2.2; omega) (fun r2 H2 L2 hp2 hL2 => ?_)
    obtain ⟨hp2, hB2⟩ := hp2
    obtain ⟨e8, hm2⟩ : r2 = .int (nI (coF u (xs (i + 1)) v u.1.2.2.2.1).1) ∧ MW ev (b + 101) 0 u kp (coF u (xs (i + 1)) v u.1.2.2.2.1) H2 := by
      rcases hp2 with ⟨g, e9, h9⟩ | ⟨g, e9, h9⟩
      · exact ⟨e9, h9⟩
      · exact (g hok).elim
    subst e8
    have hf2 := XF_B hf1 hB2
    have ho2 := pt_k ho1 (hB2.2 _ (by omega))
    refine lv_istore (lv' := [(6, .int (nI (coF u (xs (i + 1)) v u.1.2.2.2.1).1)), (5, .int 0), (0, .ref q0), (1, .ref b), (2, .ref (b + 101)), (3, .ref (b + 117)), (4, .int (nI i))]) hx hb d_L_law_1471 hl (by decide) rfl (fun ls hl => ?_)
    refine lv_aload_n hx hb d_L_law_1473 rfl (lv_at hl 4 rfl) ?_
    refine cl_i (W.runV (As := []) (rest := []) S (c_M_thrown hm2.1) (cwV 0 hts gv_L_85 rfl rfl rfl (by decide +kernel) ⟨Nat.le_of_ble_eq_true rfl, Nat.le_of_ble_eq_true rfl⟩) (cP_V (KG_ok _) hK hK.1 hm2.1 rfl) rfl rfl hl.1 rfl (lv_room (Nat.le_of_ble_eq_true rfl)) d_L_law_1474 ⟨by show _ ≤ 601024; omega, by show _ ≤ 7293000; omega⟩) ?_
    refine lv_iload hx hb d_L_law_1477 (lv_at hl 1 rfl) ?_
    refine lv_icmp_eq (tgt := 1484) hx hb d_L_law_1479 (by decide) (fun _ => ?_) (fun c9 => absurd rfl c9)
    refine lv_iload hx hb d_L_law_1484 (lv_at hl 1 rfl) ?_
    refine lv_if_ne (tgt := 1501) hx hb d_L_law_1486 (by decide) (fun c1486 => ?_) (fun c1486 => ?_)
    · exact absurd c1486 (by decide)
    · refine lv_aload_n hx hb d_L_law_1489 rfl (lv_at hl 5 rfl) ?_
      refine lv_iconst (v := 0) hx hb d_L_law_1490 (by decide) ?_
      refine rw_lald hx hb hK.1 1 ho2 rfl 0 rfl (by decide) (by decide) d_L_law_1491 ?_
      refine tp_l (y := (nI (coF u (xs (i + 1)) v u.1.2.2.2.1).1).toInt64) pk_uLs ?_
      refine lv_iload hx hb d_L_law_1492 (lv_at hl 0 rfl) ?_
      refine lv_i2l (v := (nI (coF u (xs (i + 1)) v u.1.2.2.2.1).1).toInt64) hx hb d_L_law_1494 rfl ?_
      refine ll_eq (tgt := 1501) hx hb d_L_law_1495 d_L_law_1496 (by decide) (fun _ => ?_) (fun c9 => absurd rfl c9)
      refine lv_goto (tgt := 1599) hx hb d_L_law_1501 (by decide) ?_
      exact W.widen (by omega) (by omega) (K9 _ _ _ _ _ _ _ ls hf2 hm2 ho2 hL2 (lv_sub hl [2, 3, 4, 5, 6] rfl))
  · refine lv_istore (lv' := [(5, .int 1), (0, .ref q0), (1, .ref b), (2, .ref (b + 101)), (3, .ref (b + 117)), (4, .int (nI i))]) hx hb d_L_law_1459 hl (by decide) rfl (fun ls hl => ?_)
    refine lv_aload_n hx hb d_L_law_1461 rfl (lv_at hl 3 rfl) ?_
    refine lv_aload_n hx hb d_L_law_1462 rfl (lv_at hl 1 rfl) ?_
    refine lv_iload hx hb d_L_law_1463 (lv_at hl 5 rfl) ?_
    refine lv_iconst (v := 1) hx hb d_L_law_1465 (by decide) ?_
    refine lv_iadd hx hb d_L_law_1466 ?_
    refine rw_sld hx hb hX hq hf1.2.2.2.1 hLL (i + 1) (nI_add i 1) (by omega) d_L_law_1467 ?_
    refine cl_e (A := (fun z => (evH ev).size ≤ z)) (W.runV (As := [.int (xs (i + 1))]) (rest := []) S (c_M_close hm1 (xs (i + 1))) (cwV 1 hts gv_L_131 rfl rfl rfl (by decide +kernel) ⟨Nat.le_of_ble_eq_true rfl, Nat.le_of_ble_eq_true rfl⟩) (cP_V (KG_ok _) hK hK.1 hm1.1 rfl) rfl rfl hl.1 rfl (lv_room (Nat.le_of_ble_eq_true rfl)) d_L_law_1468 ⟨by show _ ≤ 601024; omega, by show _ ≤ 7293000; omega⟩) hL1 (fun z h => by have h9 := hf.2.2.2.2; omega) (fun r2 H2 L2 hp2 hL2 => ?_)
    obtain ⟨hp2, hB2⟩ := hp2
    obtain ⟨e8, hm2⟩ : r2 = .int 0 ∧ MW ev (b + 101) 1 u kp v H2 := by
      rcases hp2 with ⟨g, e9, h9⟩ | ⟨g, e9, h9⟩
      · exact (hbad g).elim
      · exact ⟨e9, h9⟩
    subst e8
    have hf2 := XF_B hf1 hB2
    have ho2 := pt_k ho1 (hB2.2 _ (by omega))
    refine lv_istore (lv' := [(6, .int 0), (5, .int 1), (0, .ref q0), (1, .ref b), (2, .ref (b + 101)), (3, .ref (b + 117)), (4, .int (nI i))]) hx hb d_L_law_1471 hl (by decide) rfl (fun ls hl => ?_)
    refine lv_aload_n hx hb d_L_law_1473 rfl (lv_at hl 4 rfl) ?_
    refine cl_i (W.runV (As := []) (rest := []) S (c_M_thrown hm2.1) (cwV 0 hts gv_L_85 rfl rfl rfl (by decide +kernel) ⟨Nat.le_of_ble_eq_true rfl, Nat.le_of_ble_eq_true rfl⟩) (cP_V (KG_ok _) hK hK.1 hm2.1 rfl) rfl rfl hl.1 rfl (lv_room (Nat.le_of_ble_eq_true rfl)) d_L_law_1474 ⟨by show _ ≤ 601024; omega, by show _ ≤ 7293000; omega⟩) ?_
    refine lv_iload hx hb d_L_law_1477 (lv_at hl 1 rfl) ?_
    refine lv_icmp_eq (tgt := 1484) hx hb d_L_law_1479 (by decide) (fun _ => ?_) (fun c9 => absurd rfl c9)
    refine lv_iload hx hb d_L_law_1484 (lv_at hl 1 rfl) ?_
    refine lv_if_ne (tgt := 1501) hx hb d_L_law_1486 (by decide) (fun c1486 => ?_) (fun c1486 => ?_)
    · refine lv_goto (tgt := 1599) hx hb d_L_law_1501 (by decide) ?_
      exact W.widen (by omega) (by omega) (K9 _ _ _ _ _ _ _ ls hf2 hm2 ho2 hL2 (lv_sub hl [2, 3, 4, 5, 6] rfl))
    · exact absurd c1486 (by decide)
set_option maxRecDepth 100000 in
set_option maxHeartbeats 4000000 in
theorem lk_pair {p : Program} {l : Launch} {e : Env} {s : State} {m : MethodId} {below : List Frame} {meth : Method} {c : Code} {ev : EV} {QQ : State → Prop} {q0 L b i C Sl : Nat} {xs : Nat → Int32} {th : Int32} {u : XS} {kp : KT} {v : PT} {f : Nat → Int64} {H : Heap} {locs : List Loc} {ls : Array Slot} (S : CallFix p m c code 8 s #[Value.ref q0] TB "RuleChoiceLaw") (hK : KG ev s) (hT : l.stackTraces = false) (hX : va_X q0 L xs s (evH ev)) (hq : q0 < (evH ev).size) (hLL : L ≤ 4609) (hi9 : i + 9 ≤ L) (hC : C + 5 ≤ 601024) (hSl : Sl + 30 ≤ 7293000) (hf : XF ev b u kp v H) (hm : MW ev (b + 101) th u kp v H) (ho : pt ev H (b + 117) (aL ev 1 f)) (hL : ∀ z ∈ locs, (evH ev).size ≤ z.base) (K9 : ∀ (th1 : Int32) (u1 : XS) (kp1 : KT) (v1 : PT) (f1 : Nat → Int64) (H1 : Heap) (locs1 : List Loc) (ls1 : Array Slot), XF ev b u1 kp1 v1 H1 → MW ev (b + 101) th1 u1 kp1 v1 H1 → pt ev H1 (b + 117) (aL ev 1 f1) → (∀ z ∈ locs1, (evH ev).size ≤ z.base) → lv_has ls1 8 [(0, .ref q0), (1, .ref b), (2, .ref (b + 101)), (3, .ref (b + 117)), (4, .int (nI i))] → W p l e room_1 s m #[Value.ref q0] below meth c H1 locs1 (C + 5) (Sl + 30) QQ (F0 m 1599 ls1 [])) (hl : lv_has ls 8 [(0, .ref q0), (1, .ref b), (2, .ref (b + 101)), (3, .ref (b + 117)), (4, .int (nI i))]) : W p l e room_1 s m #[Value.ref q0] below meth c H locs C Sl QQ (F0 m 1504 ls []) := by
  obtain ⟨hx, hb, hml, hown, hts⟩ := id S
  refine lv_aload_n hx hb d_L_law_1504 rfl (lv_at hl 1 rfl) ?_
  refine lv_aload_n hx hb d_L_law_1505 rfl (lv_at hl 0 rfl) ?_
  refine lv_iload hx hb d_L_law_1506 (lv_at hl 4 rfl) ?_
  refine lv_iconst (v := 1) hx hb d_L_law_1508 (by decide) ?_
  refine lv_iadd hx hb d_L_law_1509 ?_
  refine rw_sld hx hb hX hq hf.2.2.2.1 hLL (i + 1) (nI_add i 1) (by omega) d_L_law_1510 ?_
  refine lv_aload_n hx hb d_L_law_1511 rfl (lv_at hl 0 rfl) ?_
  refine lv_iload hx hb d_L_law_1512 (lv_at hl 4 rfl) ?_
  refine lv_iconst (v := 2) hx hb d_L_law_1514 (by decide) ?_
  refine lv_iadd hx hb d_L_law_1515 ?_
  refine rw_sld hx hb hX hq hf.2.2.2.1 hLL (i + 2) (nI_add i 2) (by omega) d_L_law_1516 ?_
  refine lv_aload_n hx hb d_L_law_1517 rfl (lv_at hl 3 rfl) ?_
  refine cl_eW (A := (fun z => (evH ev).size ≤ z)) (vx_runSW (As := [.ref b, .int (xs (i + 1)), .int (xs (i + 2)), .ref (b + 117)]) (rest := []) S (c_L_pair hT hf ho (by omega) (xs (i + 1)) (xs (i + 2))) (vx_cwSW 4 hts gs_L_132 rfl rfl rfl (by decide +kernel) ⟨Nat.le_of_ble_eq_true rfl, Nat.le_of_ble_eq_true rfl⟩) (cP_S (KG_ok _) hK) rfl rfl hl.1 rfl (lv_room (Nat.le_of_ble_eq_true rfl)) d_L_law_1518 ⟨by show _ ≤ 601024; omega, by show _ ≤ 7293000; omega⟩) hL (fun z h => Nat.le_trans hf.2.2.2.2 h) (fun r1 H1 L1 hp1 hL1 => ?_)
  obtain ⟨hp1, hF1⟩ := hp1
  have hm1 := MW_F hm ho hF1
  rcases hp1 with ⟨hok, rfl, hf1, ho1⟩ | ⟨hbad, rfl, hf1, ho1⟩
  · refine lv_istore (lv' := [(5, .int 0), (0, .ref q0), (1, .ref b), (2, .ref (b + 101)), (3, .ref (b + 117)), (4, .int (nI i))]) hx hb d_L_law_1521 hl (by decide) rfl (fun ls hl => ?_)
    refine lv_aload_n hx hb d_L_law_1523 rfl (lv_at hl 3 rfl) ?_
    refine lv_aload_n hx hb d_L_law_1524 rfl (lv_at hl 1 rfl) ?_
    refine lv_iload hx hb d_L_law_1525 (lv_at hl 5 rfl) ?_
    refine lv_iconst (v := 1) hx hb d_L_law_1527 (by decide) ?_
    refine lv_iadd hx hb d_L_law_1528 ?_
    refine rw_sld hx hb hX hq hf1.2.2.2.1 hLL (i + 1) (nI_add i 1) (by omega) d_L_law_1529 ?_
    refine lv_aload_n hx hb d_L_law_1530 rfl (lv_at hl 1 rfl) ?_
    refine lv_iload hx hb d_L_law_1531 (lv_at hl 5 rfl) ?_
    refine lv_iconst (v := 2) hx hb d_L_law_1533 (by decide) ?_
    refine lv_iadd hx hb d_L_law_1534 ?_
    refine rw_sld hx hb hX hq hf1.2.2.2.1 hLL (i + 2) (nI_add i 2) (by omega) d_L_law_1535 ?_
    refine cl_e (A := (fun z => (evH ev).size ≤ z)) (W.runV (As := [.int (xs (i + 1)), .int (xs (i + 2))]) (rest := []) S (c_M_pair hm1 (xs (i + 1)) (xs (i + 2))) (cwV 2 hts gv_L_134 rfl rfl rfl (by decide +kernel) ⟨Nat.le_of_ble_eq_true rfl, Nat.le_of_ble_eq_true rfl⟩) (cP_V (KG_ok _) hK hK.1 hm1.1 rfl) rfl rfl hl.1 rfl (lv_room (Nat.le_of_ble_eq_true rfl)) d_L_law_1536 ⟨by show _ ≤ 601024; omega, by show _ ≤ 7293000; omega⟩) hL1 (fun z h => by have h9 := hf.2.2.2.2; omega) (fun r2 H2 L2 hp2 hL2 => ?_)
    obtain ⟨hp2, hB2⟩ := hp2
    obtain ⟨e8, hm2⟩ : r2 = .int (if (xs (i + 1)) < 0 then -1 else if (xs (i + 1)) < nI v.1 then (if (xs (i + 2)) = 0 then v.2.1 (nn (xs (i + 1))) else v.2.2 (nn (xs (i + 1)))) else -1) ∧ MW ev (b + 101) 0 u kp v H2 := by
      rcases hp2 with ⟨g, e9, h9⟩ | ⟨g, e9, h9⟩
      · exact ⟨e9, h9⟩
      · exact (g hok).elim
    subst e8
    have hf2 := XF_B hf1 hB2
    have ho2 := pt_k ho1 (hB2.2 _ (by omega))
    refine lv_istore (lv' := [(6, .int (if (xs (i + 1)) < 0 then -1 else if (xs (i + 1)) < nI v.1 then (if (xs (i + 2)) = 0 then v.2.1 (nn (xs (i + 1))) else v.2.2 (nn (xs (i + 1)))) else -1)), (5, .int 0), (0, .ref q0), (1, .ref b), (2, .ref (b + 101)), (3, .ref (b + 117)), (4, .int (nI i))]) hx hb d_L_law_1539 hl (by decide) rfl (fun ls hl => ?_)
    refine lv_aload_n hx hb d_L_law_1541 rfl (lv_at hl 4 rfl) ?_
    refine cl_i (W.runV (As := []) (rest := []) S (c_M_thrown hm2.1) (cwV 0 hts gv_L_85 rfl rfl rfl (by decide +kernel) ⟨Nat.le_of_ble_eq_true rfl, Nat.le_of_ble_eq_true rfl⟩) (cP_V (KG_ok _) hK hK.1 hm2.1 rfl) rfl rfl hl.1 rfl (lv_room (Nat.le_of_ble_eq_true rfl)) d_L_law_1542 ⟨by show _ ≤ 601024; omega, by show _ ≤ 7293000; omega⟩) ?_
    refine lv_iload hx hb d_L_law_1545 (lv_at hl 1 rfl) ?_
    refine lv_icmp_eq (tgt := 1552) hx hb d_L_law_1547 (by decide) (fun _ => ?_) (fun c9 => absurd rfl c9)
    refine lv_iload hx hb d_L_law_1552 (lv_at hl 1 rfl) ?_
    refine lv_if_ne (tgt := 1569) hx hb d_L_law_1554 (by decide) (fun c1554 => ?_) (fun c1554 => ?_)
    · exact absurd c1554 (by decide)
    · refine lv_aload_n hx hb d_L_law_1557 rfl (lv_at hl 5 rfl) ?_
      refine lv_iconst (v := 0) hx hb d_L_law_1558 (by decide) ?_
      refine rw_lald hx hb hK.1 1 ho2 rfl 0 rfl (by decide) (by decide) d_L_law_1559 ?_
      refine tp_l (y := (if (xs (i + 1)) < 0 then -1 else if (xs (i + 1)) < nI v.1 then (if (xs (i + 2)) = 0 then v.2.1 (nn (xs (i + 1))) else v.2.2 (nn (xs (i + 1)))) else -1).toInt64) pk_uLs ?_
      refine lv_iload hx hb d_L_law_1560 (lv_at hl 0 rfl) ?_
      refine lv_i2l (v := (if (xs (i + 1)) < 0 then -1 else if (xs (i + 1)) < nI v.1 then (if (xs (i + 2)) = 0 then v.2.1 (nn (xs (i + 1))) else v.2.2 (nn (xs (i + 1)))) else -1).toInt64) hx hb d_L_law_1562 rfl ?_
      refine ll_eq (tgt := 1569) hx hb d_L_law_1563 d_L_law_1564 (by decide) (fun _ => ?_) (fun c9 => absurd rfl c9)
      refine lv_goto (tgt := 1599) hx hb d_L_law_1569 (by decide) ?_
      exact W.widen (by omega) (by omega) (K9 _ _ _ _ _ _ _ ls hf2 hm2 ho2 hL2 (lv_sub hl [2, 3, 4, 5, 6] rfl))
  · refine lv_istore (lv' := [(5, .int 1), (0, .ref q0), (1, .ref b), (2, .ref (b + 101)), (3, .ref (b + 117)), (4, .int (nI i))]) hx hb d_L_law_1521 hl (by decide) rfl (fun ls hl => ?_)
    refine lv_aload_n hx hb d_L_law_1523 rfl (lv_at hl 3 rfl) ?_
    refine lv_aload_n hx hb d_L_law_1524 rfl (lv_at hl 1 rfl) ?_
    refine lv_iload hx hb d_L_law_1525 (lv_at hl 5 rfl) ?_
    refine lv_iconst (v := 1) hx hb d_L_law_1527 (by decide) ?_
    refine lv_iadd hx hb d_L_law_1528 ?_
    refine rw_sld hx hb hX hq hf1.2.2.2.1 hLL (i + 1) (nI_add i 1) (by omega) d_L_law_1529 ?_
    refine lv_aload_n hx hb d_L_law_1530 rfl (lv_at hl 1 rfl) ?_
    refine lv_iload hx hb d_L_law_1531 (lv_at hl 5 rfl) ?_
    refine lv_iconst (v := 2) hx hb d_L_law_1533 (by decide) ?_
    refine lv_iadd hx hb d_L_law_1534 ?_
    refine rw_sld hx hb hX hq hf1.2.2.2.1 hLL (i + 2) (nI_add i 2) (by omega) d_L_law_1535 ?_
    refine cl_e (A := (fun z => (evH ev).size ≤ z)) (W.runV (As := [.int (xs (i + 1)), .int (xs (i + 2))]) (rest := []) S (c_M_pair hm1 (xs (i + 1)) (xs (i + 2))) (cwV 2 hts gv_L_134 rfl rfl rfl (by decide +kernel) ⟨Nat.le_of_ble_eq_true rfl, Nat.le_of_ble_eq_true rfl⟩) (cP_V (KG_ok _) hK hK.1 hm1.1 rfl) rfl rfl hl.1 rfl (lv_room (Nat.le_of_ble_eq_true rfl)) d_L_law_1536 ⟨by show _ ≤ 601024; omega, by show _ ≤ 7293000; omega⟩) hL1 (fun z h => by have h9 := hf.2.2.2.2; omega) (fun r2 H2 L2 hp2 hL2 => ?_)
    obtain ⟨hp2, hB2⟩ := hp2
    obtain ⟨e8, hm2⟩ : r2 = .int 0 ∧ MW ev (b + 101) 1 u kp v H2 := by
      rcases hp2 with ⟨g, e9, h9⟩ | ⟨g, e9, h9⟩
      · exact (hbad g).elim
      · exact ⟨e9, h9⟩
    subst e8
    have hf2 := XF_B hf1 hB2
    have ho2 := pt_k ho1 (hB2.2 _ (by omega))
    refine lv_istore (lv' := [(6, .int 0), (5, .int 1), (0, .ref q0), (1, .ref b), (2, .ref (b + 101)), (3, .ref (b + 117)), (4, .int (nI i))]) hx hb d_L_law_1539 hl (by decide) rfl (fun ls hl => ?_)
    refine lv_aload_n hx hb d_L_law_1541 rfl (lv_at hl 4 rfl) ?_
    refine cl_i (W.runV (As := []) (rest := []) S (c_M_thrown hm2.1) (cwV 0 hts gv_L_85 rfl rfl rfl (by decide +kernel) ⟨Nat.le_of_ble_eq_true rfl, Nat.le_of_ble_eq_true rfl⟩) (cP_V (KG_ok _) hK hK.1 hm2.1 rfl) rfl rfl hl.1 rfl (lv_room (Nat.le_of_ble_eq_true rfl)) d_L_law_1542 ⟨by show _ ≤ 601024; omega, by show _ ≤ 7293000; omega⟩) ?_
    refine lv_iload hx hb d_L_law_1545 (lv_at hl 1 rfl) ?_
    refine lv_icmp_eq (tgt := 1552) hx hb d_L_law_1547 (by decide) (fun _ => ?_) (fun c9 => absurd rfl c9)
    refine lv_iload hx hb d_L_law_1552 (lv_at hl 1 rfl) ?_
    refine lv_if_ne (tgt := 1569) hx hb d_L_law_1554 (by decide) (fun c1554 => ?_) (fun c1554 => ?_)
    · refine lv_goto (tgt := 1599) hx hb d_L_law_1569 (by decide) ?_
      exact W.widen (by omega) (by omega) (K9 _ _ _ _ _ _ _ ls hf2 hm2 ho2 hL2 (lv_sub hl [2, 3, 4, 5, 6] rfl))
    · exact absurd c1554 (by decide)
set_option maxRecDepth 100000 in
set_option maxHeartbeats 4000000 in
theorem lk_kept {p : Program} {l : Launch} {e : Env} {s : State} {m : MethodId} {below : List Frame} {meth : Method} {c : Code} {ev : EV} {QQ : State → Prop} {q0 L b i C Sl : Nat} {xs : Nat → Int32} {th : Int32} {u : XS} {kp : KT} {v : PT} {f : Nat → Int64} {H : Heap} {locs : List Loc} {ls : Array Slot} (S : CallFix p m c code 8 s #[Value.ref q0] TB "RuleChoiceLaw") (hK : KG ev s) (hT : l.stackTraces = false) (hX : va_X q0 L xs s (evH ev)) (hq : q0 < (evH ev).size) (hLL : L ≤ 4609) (hi9 : i + 9 ≤ L) (hC : C + 5 ≤ 601024) (hSl : Sl + 30 ≤ 7293000) (hf : XF ev b u kp v H) (hm : MW ev (b + 101) th u kp v H) (ho : pt ev H (b + 117) (aL ev 1 f)) (hL : ∀ z ∈ locs, (evH ev).size ≤ z.base) (K9 : ∀ (th1 : Int32) (u1 : XS) (kp1 : KT) (v1 : PT) (f1 : Nat → Int64) (H1 : Heap) (locs1 : List Loc) (ls1 : Array Slot), XF ev b u1 kp1 v1 H1 → MW ev (b + 101) th1 u1 kp1 v1 H1 → pt ev H1 (b + 117) (aL ev 1 f1) → (∀ z ∈ locs1, (evH ev).size ≤ z.base) → lv_has ls1 8 [(0, .ref q0), (1, .ref b), (2, .ref (b + 101)), (3, .ref (b + 117)), (4, .int (nI i))] → W p l e room_1 s m #[Value.ref q0] below meth c H1 locs1 (C + 5) (Sl + 30) QQ (F0 m 1599 ls1 [])) (hl : lv_has ls 8 [(0, .ref q0), (1, .ref b), (2, .ref (b + 101)), (3, .ref (b + 117)), (4, .int (nI i))]) : W p l e room_1 s m #[Value.ref q0] below meth c H locs C Sl QQ (F0 m 1572 ls []) := by
  obtain ⟨hx, hb, hml, hown, hts⟩ := id S
  refine lv_aload_n hx hb d_L_law_1572 rfl (lv_at hl 1 rfl) ?_
  refine cl_i (W.runV (As := []) (rest := []) S (c_X_kept hf) (cwV 0 hts gv_L_135 rfl rfl rfl (by decide +kernel) ⟨Nat.le_of_ble_eq_true rfl, Nat.le_of_ble_eq_true rfl⟩) (cP_V (KG_ok _) hK hK.1 hf.1.1 rfl) rfl rfl hl.1 rfl (lv_room (Nat.le_of_ble_eq_true rfl)) d_L_law_1573 ⟨by show _ ≤ 601024; omega, by show _ ≤ 7293000; omega⟩) ?_
  refine lv_aload_n hx hb d_L_law_1576 rfl (lv_at hl 2 rfl) ?_
  refine cl_d (A := (fun z => (evH ev).size ≤ z)) (W.runV (As := []) (rest := [.int (nI (kcF kp))]) S (c_M_kept hm) (cwV 0 hts gv_L_138 rfl rfl rfl (by decide +kernel) ⟨Nat.le_of_ble_eq_true rfl, Nat.le_of_ble_eq_true rfl⟩) (cP_V (KG_ok _) hK hK.1 hm.1 rfl) rfl rfl hl.1 rfl (lv_room (Nat.le_of_ble_eq_true rfl)) d_L_law_1577 ⟨by show _ ≤ 601024; omega, by show _ ≤ 7293000; omega⟩) hL (fun z h => by have h9 := hf.2.2.2.2; omega) (fun H2 L2 hp2 hL2 => ?_)
  obtain ⟨hm2, hB2⟩ := hp2
  have hf2 := XF_B hf hB2
  have ho2 := pt_k ho (hB2.2 _ (by omega))
  refine lv_icmp_eq (tgt := 1599) hx hb d_L_law_1580 (by decide) (fun _ => ?_) (fun c9 => absurd rfl c9)
  exact W.widen (by omega) (by omega) (K9 _ _ _ _ _ _ _ ls hf2 hm2 ho2 hL2 (lv_sub hl [0, 1, 2, 3, 4] rfl))
set_option maxRecDepth 100000 in
set_option maxHeartbeats 4000000 in
theorem lk_spared {p : Program} {l : Launch} {e : Env} {s : State} {m : MethodId} {below : List Frame} {meth : Method} {c : Code} {ev : EV} {QQ : State → Prop} {q0 L b i C Sl : Nat} {xs : Nat → Int32} {th : Int32} {u : XS} {kp : KT} {v : PT} {f : Nat → Int64} {H : Heap} {locs : List Loc} {ls : Array Slot} (S : CallFix p m c code 8 s #[Value.ref q0] TB "RuleChoiceLaw") (hK : KG ev s) (hT : l.stackTraces = false) (hX : va_X q0 L xs s (evH ev)) (hq : q0 < (evH ev).size) (hLL : L ≤ 4609) (hi9 : i + 9 ≤ L) (hC : C + 5 ≤ 601024) (hSl : Sl + 30 ≤ 7293000) (hf : XF ev b u kp v H) (hm : MW ev (b + 101) th u kp v H) (ho : pt ev H (b + 117) (aL ev 1 f)) (hL : ∀ z ∈ locs, (evH ev).size ≤ z.base) (K9 : ∀ (th1 : Int32) (u1 : XS) (kp1 : KT) (v1 : PT) (f1 : Nat → Int64) (H1 : Heap) (locs1 : List Loc) (ls1 : Array Slot), XF ev b u1 kp1 v1 H1 → MW ev (b + 101) th1 u1 kp1 v1 H1 → pt ev H1 (b + 117) (aL ev 1 f1) → (∀ z ∈ locs1, (evH ev).size ≤ z.base) → lv_has ls1 8 [(0, .ref q0), (1, .ref b), (2, .ref (b + 101)), (3, .ref (b + 117)), (4, .int (nI i))] → W p l e room_1 s m #[Value.ref q0] below meth c H1 locs1 (C + 5) (Sl + 30) QQ (F0 m 1599 ls1 [])) (hl : lv_has ls 8 [(0, .ref q0), (1, .ref b), (2, .ref (b + 101)), (3, .ref (b + 117)), (4, .int (nI i))]) : W p l e room_1 s m #[Value.ref q0] below meth c H locs C Sl QQ (F0 m 1585 ls []) := by
  obtain ⟨hx, hb, hml, hown, hts⟩ := id S
  refine lv_aload_n hx hb d_L_law_1585 rfl (lv_at hl 1 rfl) ?_
  refine cl_l (W.runV (As := []) (rest := []) S (c_X_spared hf) (cwV 0 hts gv_L_139 rfl rfl rfl (by decide +kernel) ⟨Nat.le_of_ble_eq_true rfl, Nat.le_of_ble_eq_true rfl⟩) (cP_V (KG_ok _) hK hK.1 hf.1.1 rfl) rfl rfl hl.1 rfl (lv_room (Nat.le_of_ble_eq_true rfl)) d_L_law_1586 ⟨by show _ ≤ 601024; omega, by show _ ≤ 7293000; omega⟩) ?_
  refine lv_aload_n hx hb d_L_law_1589 rfl (lv_at hl 2 rfl) ?_
  refine cl_d (A := (fun z => (evH ev).size ≤ z)) (W.runV (As := []) (rest := [.long u.1.2.2.2.2]) S (c_M_spared hm) (cwV 0 hts gv_L_143 rfl rfl rfl (by decide +kernel) ⟨Nat.le_of_ble_eq_true rfl, Nat.le_of_ble_eq_true rfl⟩) (cP_V (KG_ok _) hK hK.1 hm.1 rfl) rfl rfl hl.1 rfl (lv_room (Nat.le_of_ble_eq_true rfl)) d_L_law_1590 ⟨by show _ ≤ 601024; omega, by show _ ≤ 7293000; omega⟩) hL (fun z h => by have h9 := hf.2.2.2.2; omega) (fun H2 L2 hp2 hL2 => ?_)
  obtain ⟨hm2, hB2⟩ := hp2
  have hf2 := XF_B hf hB2
  have ho2 := pt_k ho (hB2.2 _ (by omega))
  refine ll_eq (tgt := 1599) hx hb d_L_law_1593 d_L_law_1594 (by decide) (fun _ => ?_) (fun c9 => absurd rfl c9)
  exact W.widen (by omega) (by omega) (K9 _ _ _ _ _ _ _ ls hf2 hm2 ho2 hL2 (lv_sub hl [0, 1, 2, 3, 4] rfl))
