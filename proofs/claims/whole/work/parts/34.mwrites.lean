theorem mO_r {ev : EV} {d n : Nat} {th : Int32} {u : XS} {v : PT} {H : Heap} {w : (Nat → Ru) × (Nat → Aa) × (Nat → Tt)} (h : pt ev H d (oC 6 [.int th, .int u.1.1, .int (nI n + 1), .ref (d + 1), .ref (d + 2), .ref (d + 3), .ref (d + 4), .ref (d + 5), .ref (d + 6), .ref (d + 7), .int (nI u.1.2.2.1), .ref (d + 8), .int (nI u.1.2.2.2.1), .ref (d + 9), .ref (d + 10), .ref (d + 11), .ref (d + 12), .ref (d + 13), .long u.1.2.2.2.2, .int (nI v.1), .ref (d + 14), .ref (d + 15)])) : pt ev H d (oC 6 (mO d th ((u.1.1, n + 1, u.1.2.2), w) v)) := by
  rw [nI_1 n] at h
  exact h
theorem mO_a {ev : EV} {d n : Nat} {th : Int32} {u : XS} {v : PT} {H : Heap} {w : (Nat → Ru) × (Nat → Aa) × (Nat → Tt)} (h : pt ev H d (oC 6 [.int th, .int u.1.1, .int (nI u.1.2.1), .ref (d + 1), .ref (d + 2), .ref (d + 3), .ref (d + 4), .ref (d + 5), .ref (d + 6), .ref (d + 7), .int (nI n + 1), .ref (d + 8), .int (nI u.1.2.2.2.1), .ref (d + 9), .ref (d + 10), .ref (d + 11), .ref (d + 12), .ref (d + 13), .long u.1.2.2.2.2, .int (nI v.1), .ref (d + 14), .ref (d + 15)])) : pt ev H d (oC 6 (mO d th ((u.1.1, u.1.2.1, n + 1, u.1.2.2.2), w) v)) := by
  rw [nI_1 n] at h
  exact h
theorem mO_t {ev : EV} {d n : Nat} {th : Int32} {u : XS} {v : PT} {H : Heap} {w : (Nat → Ru) × (Nat → Aa) × (Nat → Tt)} (h : pt ev H d (oC 6 [.int th, .int u.1.1, .int (nI u.1.2.1), .ref (d + 1), .ref (d + 2), .ref (d + 3), .ref (d + 4), .ref (d + 5), .ref (d + 6), .ref (d + 7), .int (nI u.1.2.2.1), .ref (d + 8), .int (nI n + 1), .ref (d + 9), .ref (d + 10), .ref (d + 11), .ref (d + 12), .ref (d + 13), .long u.1.2.2.2.2, .int (nI v.1), .ref (d + 14), .ref (d + 15)])) : pt ev H d (oC 6 (mO d th ((u.1.1, u.1.2.1, u.1.2.2.1, n + 1, u.1.2.2.2.2), w) v)) := by
  rw [nI_1 n] at h
  exact h
theorem mO_p {ev : EV} {d n : Nat} {th : Int32} {u : XS} {w : (Nat → Int32) × (Nat → Int32)} {H : Heap} (h : pt ev H d (oC 6 [.int th, .int u.1.1, .int (nI u.1.2.1), .ref (d + 1), .ref (d + 2), .ref (d + 3), .ref (d + 4), .ref (d + 5), .ref (d + 6), .ref (d + 7), .int (nI u.1.2.2.1), .ref (d + 8), .int (nI u.1.2.2.2.1), .ref (d + 9), .ref (d + 10), .ref (d + 11), .ref (d + 12), .ref (d + 13), .long u.1.2.2.2.2, .int (nI n + 1), .ref (d + 14), .ref (d + 15)])) : pt ev H d (oC 6 (mO d th u (n + 1, w))) := by
  rw [nI_1 n] at h
  exact h
theorem MW_th {ev : EV} {d : Nat} {th th' : Int32} {u : XS} {kp : KT} {v : PT} {H H1 : Heap} (h : MW ev d th u kp v H) (hat : pt ev H1 d (oC 6 (mO d th' u v))) (o : ∀ q : Nat, q ≠ d → H1[q]? = H[q]?) : MW ev d th' u kp v H1 := by
  obtain ⟨m0, m1, m2, m3, m4, m5, m6, m7, m8, m9, m10, m11, m12, m13, m14, m15, hb, hv⟩ := h
  exact ⟨hat, pt_k m1 (o _ (by omega)), pt_k m2 (o _ (by omega)), pt_k m3 (o _ (by omega)), pt_k m4 (o _ (by omega)), pt_k m5 (o _ (by omega)), pt_k m6 (o _ (by omega)), pt_k m7 (o _ (by omega)), pt_k m8 (o _ (by omega)), pt_k m9 (o _ (by omega)), pt_k m10 (o _ (by omega)), pt_k m11 (o _ (by omega)), pt_k m12 (o _ (by omega)), pt_k m13 (o _ (by omega)), pt_k m14 (o _ (by omega)), pt_k m15 (o _ (by omega)), hb, hv⟩
theorem ask_t (k x y : Int32) (n : Nat) : (kB k && (iB n x && iB n y)) = true ↔ (okK k ∧ okI n x ∧ okI n y) := by simp only [Bool.and_eq_true, kB_t, iB_t]
theorem ask_f (k x y : Int32) (n : Nat) : (kB k && (iB n x && iB n y)) = false ↔ ¬ (okK k ∧ okI n x ∧ okI n y) := b_f (ask_t k x y n)
theorem i_a1 (x : Int32) : x + 1 - 1 = x := by
  apply Int32.toInt_inj.mp
  rw [show x + 1 - 1 = x + (1 - 1) from by rw [Int32.sub_eq_add_neg, Int32.add_assoc]; rfl]
  simp
def rm_M_rule : Room := { frames := 1, cells := 0, slots := 0, locals := 22 }
set_option maxRecDepth 100000 in
set_option maxHeartbeats 4000000 in
theorem c_M_rule {l : Launch} {ev : EV} {H0 : Heap} {d : Nat} {th : Int32} {u : XS} {kp : KT} {v : PT} (hm : MW ev d th u kp v H0) (k ca cb la : Int32) (vv : Int64) : Met l my_M_rule mw_M_rule rm_M_rule (cP [.ref d, .int k, .int ca, .int cb, .int la, .long vv] (KG ev) H0) (cQe (fun r H1 => (((okK k ∧ okCN u.1.1 ca ∧ okCN u.1.1 cb ∧ okLN la) ∧ okV vv) ∧ r = .int (if u.1.2.1 < 40 then nI u.1.2.1 else -1) ∧ MW ev d 0 (rulU u k ca cb la vv) (rulK u kp k) v H1 ∨ (¬ (okK k ∧ okCN u.1.1 ca ∧ okCN u.1.1 cb ∧ okLN la)) ∧ r = .int 0 ∧ MW ev d 1 u kp v H1 ∨ ((okK k ∧ okCN u.1.1 ca ∧ okCN u.1.1 cb ∧ okLN la) ∧ ¬ okV vv) ∧ r = .int 0 ∧ MW ev d 2 u kp v H1) ∧ Blk d (d + 16) H0 H1)) 0 0 (inBk d (d + 16)) := by
  refine cHead [.ref d, .int k, .int ca, .int cb, .int la, .long vv] (by decide) rfl (Nat.le_of_ble_eq_true rfl) ?_
  intro p e s m below meth c ls args QQ hQ S hr hlk hnm hs hK hl
  have S : CallFix p m c mb_M_rule 8 s args TB "RuleChoiceModel" := S
  obtain ⟨hx, hb, hml, hown, hts⟩ := id S
  obtain ⟨m0, m1, m2, m3, m4, m5, m6, m7, m8, m9, m10, m11, m12, m13, m14, m15, hxb, hv7⟩ := id hm
  have hr40 : u.1.2.1 ≤ 40 := hxb.1
  have ha12 : u.1.2.2.1 ≤ 12 := hxb.2.1
  have ht40 : u.1.2.2.2.1 ≤ 40 := hxb.2.2.1
  have hl : lv_has ls 8 [(0, .ref d), (1, .int k), (2, .int ca), (3, .int cb), (4, .int la), (5, .long vv)] := hl
  have J1 : okK k ∧ okCN u.1.1 ca ∧ okCN u.1.1 cb ∧ okLN la → ∀ ls : Array Slot, lv_has ls 8 [(0, .ref d), (1, .int k), (2, .int ca), (3, .int cb), (4, .int la), (5, .long vv)] → W p l e rm_M_rule s m args below meth c H0 [] 0 0 QQ (F0 m 52 ls [.int 1]) := by
    intro hj ls hl
    refine lv_istore (lv' := [(7, .int 1), (0, .ref d), (1, .int k), (2, .int ca), (3, .int cb), (4, .int la), (5, .long vv)]) hx hb d_M_rule_52 hl (by decide) rfl (fun ls hl => ?_)
    refine lv_aload_n hx hb d_M_rule_54 rfl (lv_at hl 1 rfl) ?_
    refine lv_iload hx hb d_M_rule_55 (lv_at hl 0 rfl) ?_
    refine lv_if_ne (tgt := 64) hx hb d_M_rule_57 (by decide) (fun c57 => ?_) (fun c57 => ?_)
    · refine lv_lload hx hb d_M_rule_64 (lv_at hl 6 rfl) ?_
      refine lv_lconst (v := 0) hx hb d_M_rule_66 (by decide) ?_
      refine ll_lt (tgt := 80) hx hb d_M_rule_67 d_M_rule_68 (by decide) (fun c68 => ?_) (fun c68 => ?_)
      · refine lv_iconst (v := 2) hx hb d_M_rule_80 (by decide) ?_
        refine lv_goto (tgt := 85) hx hb d_M_rule_81 (by decide) ?_
        refine rw_put hx hb hts in_M ck_M ok_M nm_M hown hK.1 m0 rfl 0 (by decide) (hts _ fl_M_61) rfl (ok_M 0 (by decide)) rfl rfl (Nat.le_of_ble_eq_true rfl) (⟨Nat.le_refl _, by omega⟩) (A := inBk d (d + 16)) cNil d_M_rule_85 (fun H1 L2 z3 o4 hat5 hL6 => ?_)
        have hm := MW_th (th' := 2) hm hat5 o4
        obtain ⟨m0, m1, m2, m3, m4, m5, m6, m7, m8, m9, m10, m11, m12, m13, m14, m15, hxb, hv7⟩ := id hm
        have hB := (Blk.one z3 o4).wide (lo' := d) (hi' := d + 16) (by omega) (by omega)
        have hbad : (okK k ∧ okCN u.1.1 ca ∧ okCN u.1.1 cb ∧ okLN la) ∧ ¬ okV vv := ⟨hj, by simp [okV, c57, c68, Int64.not_le.mpr c68]⟩
        refine lv_aload_n hx hb d_M_rule_88 rfl (lv_at hl 1 rfl) ?_
        refine rw_get hx hb hts in_M hown hK.1 m0 rfl 0 (by decide) (hts _ fl_M_61) rfl d_M_rule_89 ?_
        refine lv_if_eq (tgt := 97) hx hb d_M_rule_92 (by decide) (fun c92 => ?_) (fun c92 => ?_)
        · exact absurd c92 (by decide)
        · refine lv_iconst (v := 0) hx hb d_M_rule_95 (by decide) ?_
          exact re_i hQ hx hb hr hlk (rfl) (⟨Or.inr (Or.inr ⟨hbad, rfl, hm⟩), hB⟩) hL6 (Nat.le_of_ble_eq_true rfl) (Nat.le_of_ble_eq_true rfl) d_M_rule_96
      · refine lv_lload hx hb d_M_rule_71 (lv_at hl 6 rfl) ?_
        refine lv_ldc2 (v := 1000000) hx hb hown (hts _ kl_M_72) d_M_rule_73 ?_
        refine ll_le (tgt := 84) hx hb d_M_rule_76 d_M_rule_77 (by decide) (fun c77 => ?_) (fun c77 => ?_)
        · refine lv_iconst (v := 0) hx hb d_M_rule_84 (by decide) ?_
          refine rw_put hx hb hts in_M ck_M ok_M nm_M hown hK.1 m0 rfl 0 (by decide) (hts _ fl_M_61) rfl (ok_M 0 (by decide)) rfl rfl (Nat.le_of_ble_eq_true rfl) (⟨Nat.le_refl _, by omega⟩) (A := inBk d (d + 16)) cNil d_M_rule_85 (fun H7 L8 z9 o10 hat11 hL12 => ?_)
          have hm := MW_th (th' := 0) hm hat11 o10
          obtain ⟨m0, m1, m2, m3, m4, m5, m6, m7, m8, m9, m10, m11, m12, m13, m14, m15, hxb, hv7⟩ := id hm
          have hB := (Blk.one z9 o10).wide (lo' := d) (hi' := d + 16) (by omega) (by omega)
          have hok : (okK k ∧ okCN u.1.1 ca ∧ okCN u.1.1 cb ∧ okLN la) ∧ okV vv := ⟨hj, by simp [okV, c57, c68, Int64.not_lt.mp c68, c77, Int64.not_lt.mpr c77]⟩
          refine lv_aload_n hx hb d_M_rule_88 rfl (lv_at hl 1 rfl) ?_
          refine rw_get hx hb hts in_M hown hK.1 m0 rfl 0 (by decide) (hts _ fl_M_61) rfl d_M_rule_89 ?_
          refine lv_if_eq (tgt := 97) hx hb d_M_rule_92 (by decide) (fun c92 => ?_) (fun c92 => ?_)
          · refine lv_aload_n hx hb d_M_rule_97 rfl (lv_at hl 1 rfl) ?_
            refine rw_get hx hb hts in_M hown hK.1 m0 rfl 2 (by decide) (hts _ fl_M_67) rfl d_M_rule_98 ?_
            refine lv_bipush (v := 40) hx hb d_M_rule_101 (by decide) ?_
            refine lv_icmp_ne (tgt := 108) hx hb d_M_rule_103 (by decide) (fun c103 => ?_) (fun c103 => ?_)
            · have hlt : u.1.2.1 < 40 := Nat.lt_of_le_of_ne hxb.1 (fun h => c103 (by rw [h]; rfl))
              obtain ⟨kk, h_kk, rfl⟩ := okK_ix hok.1.1
              have enn : nn (nI kk) = kk := nn_nI (by omega)
              refine lv_aload_n hx hb d_M_rule_108 rfl (lv_at hl 1 rfl) ?_
              refine rw_get hx hb hts in_M hown hK.1 m0 rfl 3 (by decide) (hts _ fl_M_7) rfl d_M_rule_109 ?_
              refine lv_aload_n hx hb d_M_rule_112 rfl (lv_at hl 1 rfl) ?_
              refine rw_get hx hb hts in_M hown hK.1 m0 rfl 2 (by decide) (hts _ fl_M_67) rfl d_M_rule_113 ?_
              refine lv_iload_n hx hb d_M_rule_116 rfl (lv_at hl 2 rfl) ?_
              refine rw_iast hx hb hK.1 0 m1 rfl u.1.2.1 (rfl) (hlt) (by decide) (⟨by omega, by omega⟩) hL12 d_M_rule_117 (fun H13 L14 z15 o16 hat17 hL18 => ?_)
              have m0 := pt_k m0 (o16 _ (by omega))
              have m2 := pt_k m2 (o16 _ (by omega))
              have m3 := pt_k m3 (o16 _ (by omega))
              have m4 := pt_k m4 (o16 _ (by omega))
              have m5 := pt_k m5 (o16 _ (by omega))
              have m6 := pt_k m6 (o16 _ (by omega))
              have m7 := pt_k m7 (o16 _ (by omega))
              have m8 := pt_k m8 (o16 _ (by omega))
              have m9 := pt_k m9 (o16 _ (by omega))
              have m10 := pt_k m10 (o16 _ (by omega))
              have m11 := pt_k m11 (o16 _ (by omega))
              have m12 := pt_k m12 (o16 _ (by omega))
              have m13 := pt_k m13 (o16 _ (by omega))
              have m14 := pt_k m14 (o16 _ (by omega))
              have m15 := pt_k m15 (o16 _ (by omega))
              have m1 := hat17
              have hB := Blk.trans hB ((Blk.one z15 o16).wide (lo' := d) (hi' := d + 16) (by omega) (by omega))
              refine lv_aload_n hx hb d_M_rule_118 rfl (lv_at hl 1 rfl) ?_
              refine rw_get hx hb hts in_M hown hK.1 m0 rfl 4 (by decide) (hts _ fl_M_13) rfl d_M_rule_119 ?_
              refine lv_aload_n hx hb d_M_rule_122 rfl (lv_at hl 1 rfl) ?_
              refine rw_get hx hb hts in_M hown hK.1 m0 rfl 2 (by decide) (hts _ fl_M_67) rfl d_M_rule_123 ?_
              refine lv_iload_n hx hb d_M_rule_126 rfl (lv_at hl 3 rfl) ?_
              refine rw_iast hx hb hK.1 0 m2 rfl u.1.2.1 (rfl) (hlt) (by decide) (⟨by omega, by omega⟩) hL18 d_M_rule_127 (fun H19 L20 z21 o22 hat23 hL24 => ?_)
              have m0 := pt_k m0 (o22 _ (by omega))
              have m1 := pt_k m1 (o22 _ (by omega))
              have m3 := pt_k m3 (o22 _ (by omega))
              have m4 := pt_k m4 (o22 _ (by omega))
              have m5 := pt_k m5 (o22 _ (by omega))
              have m6 := pt_k m6 (o22 _ (by omega))
              have m7 := pt_k m7 (o22 _ (by omega))
              have m8 := pt_k m8 (o22 _ (by omega))
              have m9 := pt_k m9 (o22 _ (by omega))
              have m10 := pt_k m10 (o22 _ (by omega))
              have m11 := pt_k m11 (o22 _ (by omega))
              have m12 := pt_k m12 (o22 _ (by omega))
              have m13 := pt_k m13 (o22 _ (by omega))
              have m14 := pt_k m14 (o22 _ (by omega))
              have m15 := pt_k m15 (o22 _ (by omega))
              have m2 := hat23
              have hB := Blk.trans hB ((Blk.one z21 o22).wide (lo' := d) (hi' := d + 16) (by omega) (by omega))
              refine lv_aload_n hx hb d_M_rule_128 rfl (lv_at hl 1 rfl) ?_
              refine rw_get hx hb hts in_M hown hK.1 m0 rfl 5 (by decide) (hts _ fl_M_16) rfl d_M_rule_129 ?_
              refine lv_aload_n hx hb d_M_rule_132 rfl (lv_at hl 1 rfl) ?_
              refine rw_get hx hb hts in_M hown hK.1 m0 rfl 2 (by decide) (hts _ fl_M_67) rfl d_M_rule_133 ?_
              refine lv_iload_n hx hb d_M_rule_136 rfl (lv_at hl 4 rfl) ?_
              refine rw_iast hx hb hK.1 0 m3 rfl u.1.2.1 (rfl) (hlt) (by decide) (⟨by omega, by omega⟩) hL24 d_M_rule_137 (fun H25 L26 z27 o28 hat29 hL30 => ?_)
              have m0 := pt_k m0 (o28 _ (by omega))
              have m1 := pt_k m1 (o28 _ (by omega))
              have m2 := pt_k m2 (o28 _ (by omega))
              have m4 := pt_k m4 (o28 _ (by omega))
              have m5 := pt_k m5 (o28 _ (by omega))
              have m6 := pt_k m6 (o28 _ (by omega))
              have m7 := pt_k m7 (o28 _ (by omega))
              have m8 := pt_k m8 (o28 _ (by omega))
              have m9 := pt_k m9 (o28 _ (by omega))
              have m10 := pt_k m10 (o28 _ (by omega))
              have m11 := pt_k m11 (o28 _ (by omega))
              have m12 := pt_k m12 (o28 _ (by omega))
              have m13 := pt_k m13 (o28 _ (by omega))
              have m14 := pt_k m14 (o28 _ (by omega))
              have m15 := pt_k m15 (o28 _ (by omega))
              have m3 := hat29
              have hB := Blk.trans hB ((Blk.one z27 o28).wide (lo' := d) (hi' := d + 16) (by omega) (by omega))
              refine lv_aload_n hx hb d_M_rule_138 rfl (lv_at hl 1 rfl) ?_
              refine rw_get hx hb hts in_M hown hK.1 m0 rfl 6 (by decide) (hts _ fl_M_19) rfl d_M_rule_139 ?_
              refine lv_aload_n hx hb d_M_rule_142 rfl (lv_at hl 1 rfl) ?_
              refine rw_get hx hb hts in_M hown hK.1 m0 rfl 2 (by decide) (hts _ fl_M_67) rfl d_M_rule_143 ?_
              refine lv_iload hx hb d_M_rule_146 (lv_at hl 5 rfl) ?_
              refine rw_iast hx hb hK.1 0 m4 rfl u.1.2.1 (rfl) (hlt) (by decide) (⟨by omega, by omega⟩) hL30 d_M_rule_148 (fun H31 L32 z33 o34 hat35 hL36 => ?_)
              have m0 := pt_k m0 (o34 _ (by omega))
              have m1 := pt_k m1 (o34 _ (by omega))
              have m2 := pt_k m2 (o34 _ (by omega))
              have m3 := pt_k m3 (o34 _ (by omega))
              have m5 := pt_k m5 (o34 _ (by omega))
              have m6 := pt_k m6 (o34 _ (by omega))
              have m7 := pt_k m7 (o34 _ (by omega))
              have m8 := pt_k m8 (o34 _ (by omega))
              have m9 := pt_k m9 (o34 _ (by omega))
              have m10 := pt_k m10 (o34 _ (by omega))
              have m11 := pt_k m11 (o34 _ (by omega))
              have m12 := pt_k m12 (o34 _ (by omega))
              have m13 := pt_k m13 (o34 _ (by omega))
              have m14 := pt_k m14 (o34 _ (by omega))
              have m15 := pt_k m15 (o34 _ (by omega))
              have m4 := hat35
              have hB := Blk.trans hB ((Blk.one z33 o34).wide (lo' := d) (hi' := d + 16) (by omega) (by omega))
              refine lv_aload_n hx hb d_M_rule_149 rfl (lv_at hl 1 rfl) ?_
              refine rw_get hx hb hts in_M hown hK.1 m0 rfl 7 (by decide) (hts _ fl_M_22) rfl d_M_rule_150 ?_
              refine lv_aload_n hx hb d_M_rule_153 rfl (lv_at hl 1 rfl) ?_
              refine rw_get hx hb hts in_M hown hK.1 m0 rfl 2 (by decide) (hts _ fl_M_67) rfl d_M_rule_154 ?_
              refine lv_lload hx hb d_M_rule_157 (lv_at hl 6 rfl) ?_
              refine rw_last hx hb hK.1 1 m5 rfl u.1.2.1 (rfl) (hlt) (by decide) (⟨by omega, by omega⟩) hL36 d_M_rule_159 (fun H37 L38 z39 o40 hat41 hL42 => ?_)
              have m0 := pt_k m0 (o40 _ (by omega))
              have m1 := pt_k m1 (o40 _ (by omega))
              have m2 := pt_k m2 (o40 _ (by omega))
              have m3 := pt_k m3 (o40 _ (by omega))
              have m4 := pt_k m4 (o40 _ (by omega))
              have m6 := pt_k m6 (o40 _ (by omega))
              have m7 := pt_k m7 (o40 _ (by omega))
              have m8 := pt_k m8 (o40 _ (by omega))
              have m9 := pt_k m9 (o40 _ (by omega))
              have m10 := pt_k m10 (o40 _ (by omega))
              have m11 := pt_k m11 (o40 _ (by omega))
              have m12 := pt_k m12 (o40 _ (by omega))
              have m13 := pt_k m13 (o40 _ (by omega))
              have m14 := pt_k m14 (o40 _ (by omega))
              have m15 := pt_k m15 (o40 _ (by omega))
              have m5 := hat41
              have hB := Blk.trans hB ((Blk.one z39 o40).wide (lo' := d) (hi' := d + 16) (by omega) (by omega))
              refine lv_aload_n hx hb d_M_rule_160 rfl (lv_at hl 1 rfl) ?_
              refine lv_iload_n hx hb d_M_rule_161 rfl (lv_at hl 2 rfl) ?_
              refine cl_d (W.runV (As := [.int (nI kk)]) (rest := []) S (c_M_dropKind m0 m13 (rfl) (h_kk)) (cwV 1 hts gv_M_84 rfl rfl rfl (by decide +kernel) ⟨Nat.le_of_ble_eq_true rfl, Nat.le_of_ble_eq_true rfl⟩) (cP_V (KG_ok _) hK hK.1 m0 rfl) rfl rfl hl.1 rfl (lv_room (Nat.le_of_ble_eq_true rfl)) d_M_rule_162 ⟨Nat.le_of_ble_eq_true rfl, Nat.le_of_ble_eq_true rfl⟩) hL42 (fun z h => ⟨by omega, by omega⟩) (fun H43 L44 hp45 hL46 => ?_)
              have m0 := pt_k m0 (hp45.2.2 _ (by omega))
              have m1 := pt_k m1 (hp45.2.2 _ (by omega))
              have m2 := pt_k m2 (hp45.2.2 _ (by omega))
              have m3 := pt_k m3 (hp45.2.2 _ (by omega))
              have m4 := pt_k m4 (hp45.2.2 _ (by omega))
              have m5 := pt_k m5 (hp45.2.2 _ (by omega))
              have m6 := pt_k m6 (hp45.2.2 _ (by omega))
              have m7 := pt_k m7 (hp45.2.2 _ (by omega))
              have m8 := pt_k m8 (hp45.2.2 _ (by omega))
              have m9 := pt_k m9 (hp45.2.2 _ (by omega))
              have m10 := pt_k m10 (hp45.2.2 _ (by omega))
              have m11 := pt_k m11 (hp45.2.2 _ (by omega))
              have m12 := pt_k m12 (hp45.2.2 _ (by omega))
              have m14 := pt_k m14 (hp45.2.2 _ (by omega))
              have m15 := pt_k m15 (hp45.2.2 _ (by omega))
              have m13 := hp45.1
              have hB := Blk.trans hB (hp45.2.wide (by omega) (by omega))
              refine lv_aload_n hx hb d_M_rule_165 rfl (lv_at hl 1 rfl) ?_
              refine lv_dup hx hb d_M_rule_166 rfl ?_
              refine rw_get hx hb hts in_M hown hK.1 m0 rfl 2 (by decide) (hts _ fl_M_67) rfl d_M_rule_167 ?_
              refine lv_iconst (v := 1) hx hb d_M_rule_170 (by decide) ?_
              refine lv_iadd hx hb d_M_rule_171 ?_
              refine rw_put hx hb hts in_M ck_M ok_M nm_M hown hK.1 m0 rfl 2 (by decide) (hts _ fl_M_67) rfl (ok_M 2 (by decide)) rfl rfl (Nat.le_of_ble_eq_true rfl) (⟨Nat.le_refl _, by omega⟩) hL46 d_M_rule_172 (fun H47 L48 z49 o50 hat51 hL52 => ?_)
              have m0 := hat51
              have m1 := pt_k m1 (o50 _ (by omega))
              have m2 := pt_k m2 (o50 _ (by omega))
              have m3 := pt_k m3 (o50 _ (by omega))
              have m4 := pt_k m4 (o50 _ (by omega))
              have m5 := pt_k m5 (o50 _ (by omega))
              have m6 := pt_k m6 (o50 _ (by omega))
              have m7 := pt_k m7 (o50 _ (by omega))
              have m8 := pt_k m8 (o50 _ (by omega))
              have m9 := pt_k m9 (o50 _ (by omega))
              have m10 := pt_k m10 (o50 _ (by omega))
              have m11 := pt_k m11 (o50 _ (by omega))
              have m12 := pt_k m12 (o50 _ (by omega))
              have m13 := pt_k m13 (o50 _ (by omega))
              have m14 := pt_k m14 (o50 _ (by omega))
              have m15 := pt_k m15 (o50 _ (by omega))
              have hB := Blk.trans hB ((Blk.one z49 o50).wide (lo' := d) (hi' := d + 16) (by omega) (by omega))
              refine lv_aload_n hx hb d_M_rule_175 rfl (lv_at hl 1 rfl) ?_
              refine rw_get hx hb hts in_M hown hK.1 m0 rfl 2 (by decide) (hts _ fl_M_67) rfl d_M_rule_176 ?_
              refine lv_iconst (v := 1) hx hb d_M_rule_179 (by decide) ?_
              refine lv_isub hx hb d_M_rule_180 ?_
              exact re_i hQ hx hb hr hlk (rfl) (⟨Or.inl ⟨hok, by rw [if_pos hlt, i_a1], by unfold rulU rulK; rw [if_pos hlt, if_pos hlt, enn]; exact ⟨mO_r (u := u) (n := u.1.2.1) m0, pt_i (up_i (fun r : Ru => r.1) u.2.1 u.1.2.1 (nI kk, ca, cb, la, vv, (u.2.1 u.1.2.1).2.2.2.2.2) rfl) m1, pt_i (up_i (fun r : Ru => r.2.1) u.2.1 u.1.2.1 (nI kk, ca, cb, la, vv, (u.2.1 u.1.2.1).2.2.2.2.2) rfl) m2, pt_i (up_i (fun r : Ru => r.2.2.1) u.2.1 u.1.2.1 (nI kk, ca, cb, la, vv, (u.2.1 u.1.2.1).2.2.2.2.2) rfl) m3, pt_i (up_i (fun r : Ru => r.2.2.2.1) u.2.1 u.1.2.1 (nI kk, ca, cb, la, vv, (u.2.1 u.1.2.1).2.2.2.2.2) rfl) m4, pt_l (up_l (fun r : Ru => r.2.2.2.2.1) u.2.1 u.1.2.1 (nI kk, ca, cb, la, vv, (u.2.1 u.1.2.1).2.2.2.2.2) rfl) m5, pt_i (up_k (fun r : Ru => r.2.2.2.2.2.1) u.2.1 u.1.2.1 (nI kk, ca, cb, la, vv, (u.2.1 u.1.2.1).2.2.2.2.2) rfl) m6, pt_i (up_k (fun r : Ru => oW r.2.2.2.2.2.2) u.2.1 u.1.2.1 (nI kk, ca, cb, la, vv, (u.2.1 u.1.2.1).2.2.2.2.2) rfl) m7, m8, m9, m10, m11, m12, m13, m14, m15, ⟨hlt, (xB_r (i := u.1.2.1) (r := (nI kk, ca, cb, la, vv, (u.2.1 u.1.2.1).2.2.2.2.2)) hxb (fun a e => hxb.2.2.2.1 _ a hlt e) hok.1.1).2⟩, hv7⟩⟩, hB⟩) hL52 (Nat.le_of_ble_eq_true rfl) (Nat.le_of_ble_eq_true rfl) d_M_rule_181
            · refine lv_iconst (v := (-1)) hx hb d_M_rule_106 (by decide) ?_
              have hge : ¬ u.1.2.1 < 40 := fun h => absurd ((nI_eq (a := u.1.2.1) (b := 40) (by omega) (by decide)).mp c103) (by omega)
              exact re_i hQ hx hb hr hlk (rfl) (⟨Or.inl ⟨hok, by rw [if_neg hge], by unfold rulU rulK; rw [if_neg hge, if_neg hge]; exact hm⟩, hB⟩) hL12 (Nat.le_of_ble_eq_true rfl) (Nat.le_of_ble_eq_true rfl) d_M_rule_107
          · exact absurd c92 (by decide)
        · refine lv_iconst (v := 2) hx hb d_M_rule_80 (by decide) ?_
          refine lv_goto (tgt := 85) hx hb d_M_rule_81 (by decide) ?_
          refine rw_put hx hb hts in_M ck_M ok_M nm_M hown hK.1 m0 rfl 0 (by decide) (hts _ fl_M_61) rfl (ok_M 0 (by decide)) rfl rfl (Nat.le_of_ble_eq_true rfl) (⟨Nat.le_refl _, by omega⟩) (A := inBk d (d + 16)) cNil d_M_rule_85 (fun H53 L54 z55 o56 hat57 hL58 => ?_)
          have hm := MW_th (th' := 2) hm hat57 o56
          obtain ⟨m0, m1, m2, m3, m4, m5, m6, m7, m8, m9, m10, m11, m12, m13, m14, m15, hxb, hv7⟩ := id hm
          have hB := (Blk.one z55 o56).wide (lo' := d) (hi' := d + 16) (by omega) (by omega)
          have hbad : (okK k ∧ okCN u.1.1 ca ∧ okCN u.1.1 cb ∧ okLN la) ∧ ¬ okV vv := ⟨hj, by simp [okV, c57, c68, Int64.not_lt.mp c68, c77, Int64.not_le.mp c77]⟩
          refine lv_aload_n hx hb d_M_rule_88 rfl (lv_at hl 1 rfl) ?_
          refine rw_get hx hb hts in_M hown hK.1 m0 rfl 0 (by decide) (hts _ fl_M_61) rfl d_M_rule_89 ?_
          refine lv_if_eq (tgt := 97) hx hb d_M_rule_92 (by decide) (fun c92 => ?_) (fun c92 => ?_)
          · exact absurd c92 (by decide)
          · refine lv_iconst (v := 0) hx hb d_M_rule_95 (by decide) ?_
            exact re_i hQ hx hb hr hlk (rfl) (⟨Or.inr (Or.inr ⟨hbad, rfl, hm⟩), hB⟩) hL58 (Nat.le_of_ble_eq_true rfl) (Nat.le_of_ble_eq_true rfl) d_M_rule_96
    · exact absurd c57 (by decide)
  have J0 : ¬ (okK k ∧ okCN u.1.1 ca ∧ okCN u.1.1 cb ∧ okLN la) → ∀ ls : Array Slot, lv_has ls 8 [(0, .ref d), (1, .int k), (2, .int ca), (3, .int cb), (4, .int la), (5, .long vv)] → W p l e rm_M_rule s m args below meth c H0 [] 0 0 QQ (F0 m 52 ls [.int 0]) := by
    intro hj ls hl
    refine lv_istore (lv' := [(7, .int 0), (0, .ref d), (1, .int k), (2, .int ca), (3, .int cb), (4, .int la), (5, .long vv)]) hx hb d_M_rule_52 hl (by decide) rfl (fun ls hl => ?_)
    refine lv_aload_n hx hb d_M_rule_54 rfl (lv_at hl 1 rfl) ?_
    refine lv_iload hx hb d_M_rule_55 (lv_at hl 0 rfl) ?_
    refine lv_if_ne (tgt := 64) hx hb d_M_rule_57 (by decide) (fun c57 => ?_) (fun c57 => ?_)
    · exact absurd c57 (by decide)
    · refine lv_iconst (v := 1) hx hb d_M_rule_60 (by decide) ?_
      refine lv_goto (tgt := 85) hx hb d_M_rule_61 (by decide) ?_
      refine rw_put hx hb hts in_M ck_M ok_M nm_M hown hK.1 m0 rfl 0 (by decide) (hts _ fl_M_61) rfl (ok_M 0 (by decide)) rfl rfl (Nat.le_of_ble_eq_true rfl) (⟨Nat.le_refl _, by omega⟩) (A := inBk d (d + 16)) cNil d_M_rule_85 (fun H59 L60 z61 o62 hat63 hL64 => ?_)
      have hm := MW_th (th' := 1) hm hat63 o62
      obtain ⟨m0, m1, m2, m3, m4, m5, m6, m7, m8, m9, m10, m11, m12, m13, m14, m15, hxb, hv7⟩ := id hm
      have hB := (Blk.one z61 o62).wide (lo' := d) (hi' := d + 16) (by omega) (by omega)
      have hbad : ¬ (okK k ∧ okCN u.1.1 ca ∧ okCN u.1.1 cb ∧ okLN la) := hj
      refine lv_aload_n hx hb d_M_rule_88 rfl (lv_at hl 1 rfl) ?_
      refine rw_get hx hb hts in_M hown hK.1 m0 rfl 0 (by decide) (hts _ fl_M_61) rfl d_M_rule_89 ?_
      refine lv_if_eq (tgt := 97) hx hb d_M_rule_92 (by decide) (fun c92 => ?_) (fun c92 => ?_)
      · exact absurd c92 (by decide)
      · refine lv_iconst (v := 0) hx hb d_M_rule_95 (by decide) ?_
        exact re_i hQ hx hb hr hlk (rfl) (⟨Or.inr (Or.inl ⟨hbad, rfl, hm⟩), hB⟩) hL64 (Nat.le_of_ble_eq_true rfl) (Nat.le_of_ble_eq_true rfl) d_M_rule_96
  refine lv_iload_n hx hb d_M_rule_0 rfl (lv_at hl 1 rfl) ?_
  refine cl_i (W.runS (As := [.int k]) (rest := []) S (c_M_isKind k) (va_cwS 1 hts gs_M_74 rfl rfl rfl (by decide +kernel) ⟨Nat.le_of_ble_eq_true rfl, Nat.le_of_ble_eq_true rfl⟩) (cP_S (KG_ok _) hK) rfl rfl hl.1 rfl (lv_room (Nat.le_of_ble_eq_true rfl)) d_M_rule_1 ⟨Nat.le_of_ble_eq_true rfl, Nat.le_of_ble_eq_true rfl⟩) ?_
  refine lv_if_eq (tgt := 51) hx hb d_M_rule_4 (by decide) (fun c4 => ?_) (fun c4 => ?_)
  · refine lv_iconst (v := 0) hx hb d_M_rule_51 (by decide) ?_
    exact J0 (by (try simp only [Classical.not_not, bI_eq, bI_ne, ask_t, ask_f, kB_t, kB_f, cB_t, cB_f, lB_t, lB_f, iB_t, iB_f, pB_t, pB_f] at c4); simp [okCN, okLN, c4]) ls (lv_sub hl [0, 1, 2, 3, 4, 5] rfl)
  · refine lv_iload_n hx hb d_M_rule_7 rfl (lv_at hl 2 rfl) ?_
    refine lv_iconst (v := (-1)) hx hb d_M_rule_8 (by decide) ?_
    refine lv_icmp_eq (tgt := 20) hx hb d_M_rule_9 (by decide) (fun c9 => ?_) (fun c9 => ?_)
    · refine lv_iload_n hx hb d_M_rule_20 rfl (lv_at hl 3 rfl) ?_
      refine lv_iconst (v := (-1)) hx hb d_M_rule_21 (by decide) ?_
      refine lv_icmp_eq (tgt := 33) hx hb d_M_rule_22 (by decide) (fun c22 => ?_) (fun c22 => ?_)
      · refine lv_iload hx hb d_M_rule_33 (lv_at hl 4 rfl) ?_
        refine lv_iconst (v := (-1)) hx hb d_M_rule_35 (by decide) ?_
        refine lv_icmp_eq (tgt := 47) hx hb d_M_rule_36 (by decide) (fun c36 => ?_) (fun c36 => ?_)
        · refine lv_iconst (v := 1) hx hb d_M_rule_47 (by decide) ?_
          refine lv_goto (tgt := 52) hx hb d_M_rule_48 (by decide) ?_
          exact J1 (by (try simp only [Classical.not_not, bI_eq, bI_ne, ask_t, ask_f, kB_t, kB_f, cB_t, cB_f, lB_t, lB_f, iB_t, iB_f, pB_t, pB_f] at c4 c9 c22 c36); simp [okCN, okLN, c4, c9, c22, c36]) ls (lv_sub hl [0, 1, 2, 3, 4, 5] rfl)
        · refine lv_iload hx hb d_M_rule_39 (lv_at hl 4 rfl) ?_
          refine cl_i (W.runS (As := [.int la]) (rest := []) S (c_M_isLayer la) (va_cwS 1 hts gs_M_81 rfl rfl rfl (by decide +kernel) ⟨Nat.le_of_ble_eq_true rfl, Nat.le_of_ble_eq_true rfl⟩) (cP_S (KG_ok _) hK) rfl rfl hl.1 rfl (lv_room (Nat.le_of_ble_eq_true rfl)) d_M_rule_41 ⟨Nat.le_of_ble_eq_true rfl, Nat.le_of_ble_eq_true rfl⟩) ?_
          refine lv_if_eq (tgt := 51) hx hb d_M_rule_44 (by decide) (fun c44 => ?_) (fun c44 => ?_)
          · refine lv_iconst (v := 0) hx hb d_M_rule_51 (by decide) ?_
            exact J0 (by (try simp only [Classical.not_not, bI_eq, bI_ne, ask_t, ask_f, kB_t, kB_f, cB_t, cB_f, lB_t, lB_f, iB_t, iB_f, pB_t, pB_f] at c4 c9 c22 c36 c44); simp [okCN, okLN, c4, c9, c22, c36, c44]) ls (lv_sub hl [0, 1, 2, 3, 4, 5] rfl)
          · refine lv_iconst (v := 1) hx hb d_M_rule_47 (by decide) ?_
            refine lv_goto (tgt := 52) hx hb d_M_rule_48 (by decide) ?_
            exact J1 (by (try simp only [Classical.not_not, bI_eq, bI_ne, ask_t, ask_f, kB_t, kB_f, cB_t, cB_f, lB_t, lB_f, iB_t, iB_f, pB_t, pB_f] at c4 c9 c22 c36 c44); simp [okCN, okLN, c4, c9, c22, c36, c44]) ls (lv_sub hl [0, 1, 2, 3, 4, 5] rfl)
      · refine lv_aload_n hx hb d_M_rule_25 rfl (lv_at hl 0 rfl) ?_
        refine lv_iload_n hx hb d_M_rule_26 rfl (lv_at hl 3 rfl) ?_
        refine cl_i (W.runV (As := [.int cb]) (rest := []) S (c_M_isClass m0 cb) (cwV 1 hts gv_M_78 rfl rfl rfl (by decide +kernel) ⟨Nat.le_of_ble_eq_true rfl, Nat.le_of_ble_eq_true rfl⟩) (cP_V (KG_ok _) hK hK.1 m0 rfl) rfl rfl hl.1 rfl (lv_room (Nat.le_of_ble_eq_true rfl)) d_M_rule_27 ⟨Nat.le_of_ble_eq_true rfl, Nat.le_of_ble_eq_true rfl⟩) ?_
        refine lv_if_eq (tgt := 51) hx hb d_M_rule_30 (by decide) (fun c30 => ?_) (fun c30 => ?_)
        · refine lv_iconst (v := 0) hx hb d_M_rule_51 (by decide) ?_
          exact J0 (by (try simp only [Classical.not_not, bI_eq, bI_ne, ask_t, ask_f, kB_t, kB_f, cB_t, cB_f, lB_t, lB_f, iB_t, iB_f, pB_t, pB_f] at c4 c9 c22 c30); simp [okCN, okLN, c4, c9, c22, c30]) ls (lv_sub hl [0, 1, 2, 3, 4, 5] rfl)
        · refine lv_iload hx hb d_M_rule_33 (lv_at hl 4 rfl) ?_
          refine lv_iconst (v := (-1)) hx hb d_M_rule_35 (by decide) ?_
          refine lv_icmp_eq (tgt := 47) hx hb d_M_rule_36 (by decide) (fun c36 => ?_) (fun c36 => ?_)
          · refine lv_iconst (v := 1) hx hb d_M_rule_47 (by decide) ?_
            refine lv_goto (tgt := 52) hx hb d_M_rule_48 (by decide) ?_
            exact J1 (by (try simp only [Classical.not_not, bI_eq, bI_ne, ask_t, ask_f, kB_t, kB_f, cB_t, cB_f, lB_t, lB_f, iB_t, iB_f, pB_t, pB_f] at c4 c9 c22 c30 c36); simp [okCN, okLN, c4, c9, c22, c30, c36]) ls (lv_sub hl [0, 1, 2, 3, 4, 5] rfl)
          · refine lv_iload hx hb d_M_rule_39 (lv_at hl 4 rfl) ?_
            refine cl_i (W.runS (As := [.int la]) (rest := []) S (c_M_isLayer la) (va_cwS 1 hts gs_M_81 rfl rfl rfl (by decide +kernel) ⟨Nat.le_of_ble_eq_true rfl, Nat.le_of_ble_eq_true rfl⟩) (cP_S (KG_ok _) hK) rfl rfl hl.1 rfl (lv_room (Nat.le_of_ble_eq_true rfl)) d_M_rule_41 ⟨Nat.le_of_ble_eq_true rfl, Nat.le_of_ble_eq_true rfl⟩) ?_
            refine lv_if_eq (tgt := 51) hx hb d_M_rule_44 (by decide) (fun c44 => ?_) (fun c44 => ?_)
            · refine lv_iconst (v := 0) hx hb d_M_rule_51 (by decide) ?_
              exact J0 (by (try simp only [Classical.not_not, bI_eq, bI_ne, ask_t, ask_f, kB_t, kB_f, cB_t, cB_f, lB_t, lB_f, iB_t, iB_f, pB_t, pB_f] at c4 c9 c22 c30 c36 c44); simp [okCN, okLN, c4, c9, c22, c30, c36, c44]) ls (lv_sub hl [0, 1, 2, 3, 4, 5] rfl)
            · refine lv_iconst (v := 1) hx hb d_M_rule_47 (by decide) ?_
              refine lv_goto (tgt := 52) hx hb d_M_rule_48 (by decide) ?_
              exact J1 (by (try simp only [Classical.not_not, bI_eq, bI_ne, ask_t, ask_f, kB_t, kB_f, cB_t, cB_f, lB_t, lB_f, iB_t, iB_f, pB_t, pB_f] at c4 c9 c22 c30 c36 c44); simp [okCN, okLN, c4, c9, c22, c30, c36, c44]) ls (lv_sub hl [0, 1, 2, 3, 4, 5] rfl)
    · refine lv_aload_n hx hb d_M_rule_12 rfl (lv_at hl 0 rfl) ?_
      refine lv_iload_n hx hb d_M_rule_13 rfl (lv_at hl 2 rfl) ?_
      refine cl_i (W.runV (As := [.int ca]) (rest := []) S (c_M_isClass m0 ca) (cwV 1 hts gv_M_78 rfl rfl rfl (by decide +kernel) ⟨Nat.le_of_ble_eq_true rfl, Nat.le_of_ble_eq_true rfl⟩) (cP_V (KG_ok _) hK hK.1 m0 rfl) rfl rfl hl.1 rfl (lv_room (Nat.le_of_ble_eq_true rfl)) d_M_rule_14 ⟨Nat.le_of_ble_eq_true rfl, Nat.le_of_ble_eq_true rfl⟩) ?_
      refine lv_if_eq (tgt := 51) hx hb d_M_rule_17 (by decide) (fun c17 => ?_) (fun c17 => ?_)
      · refine lv_iconst (v := 0) hx hb d_M_rule_51 (by decide) ?_
        exact J0 (by (try simp only [Classical.not_not, bI_eq, bI_ne, ask_t, ask_f, kB_t, kB_f, cB_t, cB_f, lB_t, lB_f, iB_t, iB_f, pB_t, pB_f] at c4 c9 c17); simp [okCN, okLN, c4, c9, c17]) ls (lv_sub hl [0, 1, 2, 3, 4, 5] rfl)
      · refine lv_iload_n hx hb d_M_rule_20 rfl (lv_at hl 3 rfl) ?_
        refine lv_iconst (v := (-1)) hx hb d_M_rule_21 (by decide) ?_
        refine lv_icmp_eq (tgt := 33) hx hb d_M_rule_22 (by decide) (fun c22 => ?_) (fun c22 => ?_)
        · refine lv_iload hx hb d_M_rule_33 (lv_at hl 4 rfl) ?_
          refine lv_iconst (v := (-1)) hx hb d_M_rule_35 (by decide) ?_
          refine lv_icmp_eq (tgt := 47) hx hb d_M_rule_36 (by decide) (fun c36 => ?_) (fun c36 => ?_)
          · refine lv_iconst (v := 1) hx hb d_M_rule_47 (by decide) ?_
            refine lv_goto (tgt := 52) hx hb d_M_rule_48 (by decide) ?_
            exact J1 (by (try simp only [Classical.not_not, bI_eq, bI_ne, ask_t, ask_f, kB_t, kB_f, cB_t, cB_f, lB_t, lB_f, iB_t, iB_f, pB_t, pB_f] at c4 c9 c17 c22 c36); simp [okCN, okLN, c4, c9, c17, c22, c36]) ls (lv_sub hl [0, 1, 2, 3, 4, 5] rfl)
          · refine lv_iload hx hb d_M_rule_39 (lv_at hl 4 rfl) ?_
            refine cl_i (W.runS (As := [.int la]) (rest := []) S (c_M_isLayer la) (va_cwS 1 hts gs_M_81 rfl rfl rfl (by decide +kernel) ⟨Nat.le_of_ble_eq_true rfl, Nat.le_of_ble_eq_true rfl⟩) (cP_S (KG_ok _) hK) rfl rfl hl.1 rfl (lv_room (Nat.le_of_ble_eq_true rfl)) d_M_rule_41 ⟨Nat.le_of_ble_eq_true rfl, Nat.le_of_ble_eq_true rfl⟩) ?_
            refine lv_if_eq (tgt := 51) hx hb d_M_rule_44 (by decide) (fun c44 => ?_) (fun c44 => ?_)
            · refine lv_iconst (v := 0) hx hb d_M_rule_51 (by decide) ?_
              exact J0 (by (try simp only [Classical.not_not, bI_eq, bI_ne, ask_t, ask_f, kB_t, kB_f, cB_t, cB_f, lB_t, lB_f, iB_t, iB_f, pB_t, pB_f] at c4 c9 c17 c22 c36 c44); simp [okCN, okLN, c4, c9, c17, c22, c36, c44]) ls (lv_sub hl [0, 1, 2, 3, 4, 5] rfl)
            · refine lv_iconst (v := 1) hx hb d_M_rule_47 (by decide) ?_
              refine lv_goto (tgt := 52) hx hb d_M_rule_48 (by decide) ?_
              exact J1 (by (try simp only [Classical.not_not, bI_eq, bI_ne, ask_t, ask_f, kB_t, kB_f, cB_t, cB_f, lB_t, lB_f, iB_t, iB_f, pB_t, pB_f] at c4 c9 c17 c22 c36 c44); simp [okCN, okLN, c4, c9, c17, c22, c36, c44]) ls (lv_sub hl [0, 1, 2, 3, 4, 5] rfl)
        · refine lv_aload_n hx hb d_M_rule_25 rfl (lv_at hl 0 rfl) ?_
          refine lv_iload_n hx hb d_M_rule_26 rfl (lv_at hl 3 rfl) ?_
          refine cl_i (W.runV (As := [.int cb]) (rest := []) S (c_M_isClass m0 cb) (cwV 1 hts gv_M_78 rfl rfl rfl (by decide +kernel) ⟨Nat.le_of_ble_eq_true rfl, Nat.le_of_ble_eq_true rfl⟩) (cP_V (KG_ok _) hK hK.1 m0 rfl) rfl rfl hl.1 rfl (lv_room (Nat.le_of_ble_eq_true rfl)) d_M_rule_27 ⟨Nat.le_of_ble_eq_true rfl, Nat.le_of_ble_eq_true rfl⟩) ?_
          refine lv_if_eq (tgt := 51) hx hb d_M_rule_30 (by decide) (fun c30 => ?_) (fun c30 => ?_)
          · refine lv_iconst (v := 0) hx hb d_M_rule_51 (by decide) ?_
            exact J0 (by (try simp only [Classical.not_not, bI_eq, bI_ne, ask_t, ask_f, kB_t, kB_f, cB_t, cB_f, lB_t, lB_f, iB_t, iB_f, pB_t, pB_f] at c4 c9 c17 c22 c30); simp [okCN, okLN, c4, c9, c17, c22, c30]) ls (lv_sub hl [0, 1, 2, 3, 4, 5] rfl)
          · refine lv_iload hx hb d_M_rule_33 (lv_at hl 4 rfl) ?_
            refine lv_iconst (v := (-1)) hx hb d_M_rule_35 (by decide) ?_
            refine lv_icmp_eq (tgt := 47) hx hb d_M_rule_36 (by decide) (fun c36 => ?_) (fun c36 => ?_)
            · refine lv_iconst (v := 1) hx hb d_M_rule_47 (by decide) ?_
              refine lv_goto (tgt := 52) hx hb d_M_rule_48 (by decide) ?_
              exact J1 (by (try simp only [Classical.not_not, bI_eq, bI_ne, ask_t, ask_f, kB_t, kB_f, cB_t, cB_f, lB_t, lB_f, iB_t, iB_f, pB_t, pB_f] at c4 c9 c17 c22 c30 c36); simp [okCN, okLN, c4, c9, c17, c22, c30, c36]) ls (lv_sub hl [0, 1, 2, 3, 4, 5] rfl)
            · refine lv_iload hx hb d_M_rule_39 (lv_at hl 4 rfl) ?_
              refine cl_i (W.runS (As := [.int la]) (rest := []) S (c_M_isLayer la) (va_cwS 1 hts gs_M_81 rfl rfl rfl (by decide +kernel) ⟨Nat.le_of_ble_eq_true rfl, Nat.le_of_ble_eq_true rfl⟩) (cP_S (KG_ok _) hK) rfl rfl hl.1 rfl (lv_room (Nat.le_of_ble_eq_true rfl)) d_M_rule_41 ⟨Nat.le_of_ble_eq_true rfl, Nat.le_of_ble_eq_true rfl⟩) ?_
              refine lv_if_eq (tgt := 51) hx hb d_M_rule_44 (by decide) (fun c44 => ?_) (fun c44 => ?_)
              · refine lv_iconst (v := 0) hx hb d_M_rule_51 (by decide) ?_
                exact J0 (by (try simp only [Classical.not_not, bI_eq, bI_ne, ask_t, ask_f, kB_t, kB_f, cB_t, cB_f, lB_t, lB_f, iB_t, iB_f, pB_t, pB_f] at c4 c9 c17 c22 c30 c36 c44); simp [okCN, okLN, c4, c9, c17, c22, c30, c36, c44]) ls (lv_sub hl [0, 1, 2, 3, 4, 5] rfl)
              · refine lv_iconst (v := 1) hx hb d_M_rule_47 (by decide) ?_
                refine lv_goto (tgt := 52) hx hb d_M_rule_48 (by decide) ?_
                exact J1 (by (try simp only [Classical.not_not, bI_eq, bI_ne, ask_t, ask_f, kB_t, kB_f, cB_t, cB_f, lB_t, lB_f, iB_t, iB_f, pB_t, pB_f] at c4 c9 c17 c22 c30 c36 c44); simp [okCN, okLN, c4, c9, c17, c22, c30, c36, c44]) ls (lv_sub hl [0, 1, 2, 3, 4, 5] rfl)
def rm_M_rank : Room := { frames := 1, cells := 0, slots := 0, locals := 22 }
set_option maxRecDepth 100000 in
set_option maxHeartbeats 4000000 in
theorem c_M_rank {l : Launch} {ev : EV} {H0 : Heap} {d : Nat} {th : Int32} {u : XS} {kp : KT} {v : PT} (hm : MW ev d th u kp v H0) (x r0 : Int32) : Met l my_M_rank mw_M_rank rm_M_rank (cP [.ref d, .int x, .int r0] (KG ev) H0) (cQe (fun r H1 => ((okI u.1.2.1 x ∧ okR r0) ∧ r = .int (bI (!decide ((u.2.1 (nn x)).2.2.2.2.2.1 = r0))) ∧ MW ev d 0 (if (u.2.1 (nn x)).2.2.2.2.2.1 = r0 then u else rowU u (nn x) (setR (u.2.1 (nn x)) r0)) (if (u.2.1 (nn x)).2.2.2.2.2.1 = r0 then kp else kpK kp (nn (u.2.1 (nn x)).1)) v H1 ∨ (¬ okI u.1.2.1 x) ∧ r = .int 0 ∧ MW ev d 1 u kp v H1 ∨ (okI u.1.2.1 x ∧ ¬ okR r0) ∧ r = .int 0 ∧ MW ev d 2 u kp v H1) ∧ Blk d (d + 16) H0 H1)) 0 0 (inBk d (d + 16)) := by
  refine cHead [.ref d, .int x, .int r0] (by decide) rfl (Nat.le_of_ble_eq_true rfl) ?_
  intro p e s m below meth c ls args QQ hQ S hr hlk hnm hs hK hl
  have S : CallFix p m c mb_M_rank 3 s args TB "RuleChoiceModel" := S
  obtain ⟨hx, hb, hml, hown, hts⟩ := id S
  obtain ⟨m0, m1, m2, m3, m4, m5, m6, m7, m8, m9, m10, m11, m12, m13, m14, m15, hxb, hv7⟩ := id hm
  have hr40 : u.1.2.1 ≤ 40 := hxb.1
  have ha12 : u.1.2.2.1 ≤ 12 := hxb.2.1
  have ht40 : u.1.2.2.2.1 ≤ 40 := hxb.2.2.1
  have hl : lv_has ls 3 [(0, .ref d), (1, .int x), (2, .int r0)] := hl
  refine lv_aload_n hx hb d_M_rank_0 rfl (lv_at hl 0 rfl) ?_
  refine lv_aload_n hx hb d_M_rank_1 rfl (lv_at hl 0 rfl) ?_
  refine lv_iload_n hx hb d_M_rank_2 rfl (lv_at hl 1 rfl) ?_
  refine cl_i (W.runV (As := [.int x]) (rest := [.ref d]) S (c_M_isRule m0 x) (cwV 1 hts gv_M_88 rfl rfl rfl (by decide +kernel) ⟨Nat.le_of_ble_eq_true rfl, Nat.le_of_ble_eq_true rfl⟩) (cP_V (KG_ok _) hK hK.1 m0 rfl) rfl rfl hl.1 rfl (lv_room (Nat.le_of_ble_eq_true rfl)) d_M_rank_3 ⟨Nat.le_of_ble_eq_true rfl, Nat.le_of_ble_eq_true rfl⟩) ?_
  refine lv_if_ne (tgt := 13) hx hb d_M_rank_6 (by decide) (fun c6 => ?_) (fun c6 => ?_)
  · refine lv_iload_n hx hb d_M_rank_13 rfl (lv_at hl 2 rfl) ?_
    refine lv_sipush (v := (-1000)) hx hb d_M_rank_14 (by decide) ?_
    refine lv_icmp_lt (tgt := 27) hx hb d_M_rank_17 (by decide) (fun c17 => ?_) (fun c17 => ?_)
    · refine lv_iconst (v := 2) hx hb d_M_rank_27 (by decide) ?_
      refine lv_goto (tgt := 32) hx hb d_M_rank_28 (by decide) ?_
      refine rw_put hx hb hts in_M ck_M ok_M nm_M hown hK.1 m0 rfl 0 (by decide) (hts _ fl_M_61) rfl (ok_M 0 (by decide)) rfl rfl (Nat.le_of_ble_eq_true rfl) (⟨Nat.le_refl _, by omega⟩) (A := inBk d (d + 16)) cNil d_M_rank_32 (fun H1 L2 z3 o4 hat5 hL6 => ?_)
      have hm := MW_th (th' := 2) hm hat5 o4
      obtain ⟨m0, m1, m2, m3, m4, m5, m6, m7, m8, m9, m10, m11, m12, m13, m14, m15, hxb, hv7⟩ := id hm
      have hB := (Blk.one z3 o4).wide (lo' := d) (hi' := d + 16) (by omega) (by omega)
      have hbad : okI u.1.2.1 x ∧ ¬ okR r0 := by (try simp only [Classical.not_not, bI_eq, bI_ne, ask_t, ask_f, kB_t, kB_f, cB_t, cB_f, lB_t, lB_f, iB_t, iB_f, pB_t, pB_f] at c6 c17); simp [okR, c6, c17, Int32.not_le.mpr c17]
      refine lv_aload_n hx hb d_M_rank_35 rfl (lv_at hl 0 rfl) ?_
      refine rw_get hx hb hts in_M hown hK.1 m0 rfl 0 (by decide) (hts _ fl_M_61) rfl d_M_rank_36 ?_
      refine lv_if_ne (tgt := 52) hx hb d_M_rank_39 (by decide) (fun c39 => ?_) (fun c39 => ?_)
      · refine lv_iconst (v := 0) hx hb d_M_rank_52 (by decide) ?_
        exact re_i hQ hx hb hr hlk (rfl) (⟨Or.inr (Or.inr ⟨hbad, rfl, hm⟩), hB⟩) hL6 (Nat.le_of_ble_eq_true rfl) (Nat.le_of_ble_eq_true rfl) d_M_rank_53
      · exact absurd c39 (by decide)
    · refine lv_iload_n hx hb d_M_rank_20 rfl (lv_at hl 2 rfl) ?_
      refine lv_sipush (v := 1000) hx hb d_M_rank_21 (by decide) ?_
      refine lv_icmp_le (tgt := 31) hx hb d_M_rank_24 (by decide) (fun c24 => ?_) (fun c24 => ?_)
      · refine lv_iconst (v := 0) hx hb d_M_rank_31 (by decide) ?_
        refine rw_put hx hb hts in_M ck_M ok_M nm_M hown hK.1 m0 rfl 0 (by decide) (hts _ fl_M_61) rfl (ok_M 0 (by decide)) rfl rfl (Nat.le_of_ble_eq_true rfl) (⟨Nat.le_refl _, by omega⟩) (A := inBk d (d + 16)) cNil d_M_rank_32 (fun H7 L8 z9 o10 hat11 hL12 => ?_)
        have hm := MW_th (th' := 0) hm hat11 o10
        obtain ⟨m0, m1, m2, m3, m4, m5, m6, m7, m8, m9, m10, m11, m12, m13, m14, m15, hxb, hv7⟩ := id hm
        have hB := (Blk.one z9 o10).wide (lo' := d) (hi' := d + 16) (by omega) (by omega)
        have hok : okI u.1.2.1 x ∧ okR r0 := by (try simp only [Classical.not_not, bI_eq, bI_ne, ask_t, ask_f, kB_t, kB_f, cB_t, cB_f, lB_t, lB_f, iB_t, iB_f, pB_t, pB_f] at c6 c17 c24); simp [okR, c6, c17, Int32.not_lt.mp c17, c24, Int32.not_lt.mpr c24]
        obtain ⟨i, hn_i, h_i, rfl⟩ := okIdx hxb.1 (hok.1)
        simp only [nn_nI (i := i) (by omega)] at hQ
        obtain ⟨kk, hkk, ek⟩ := okK_ix (hxb.2.2.2.2 i h_i)
        refine lv_aload_n hx hb d_M_rank_35 rfl (lv_at hl 0 rfl) ?_
        refine rw_get hx hb hts in_M hown hK.1 m0 rfl 0 (by decide) (hts _ fl_M_61) rfl d_M_rank_36 ?_
        refine lv_if_ne (tgt := 52) hx hb d_M_rank_39 (by decide) (fun c39 => ?_) (fun c39 => ?_)
        · exact absurd c39 (by decide)
        · refine lv_aload_n hx hb d_M_rank_42 rfl (lv_at hl 0 rfl) ?_
          refine rw_get hx hb hts in_M hown hK.1 m0 rfl 8 (by decide) (hts _ fl_M_26) rfl d_M_rank_43 ?_
          refine lv_iload_n hx hb d_M_rank_46 rfl (lv_at hl 1 rfl) ?_
          refine rw_iald hx hb hK.1 0 m6 rfl i (rfl) (h_i) (by decide) d_M_rank_47 ?_
          refine lv_iload_n hx hb d_M_rank_48 rfl (lv_at hl 2 rfl) ?_
          refine lv_icmp_ne (tgt := 54) hx hb d_M_rank_49 (by decide) (fun c49 => ?_) (fun c49 => ?_)
          · refine lv_aload_n hx hb d_M_rank_54 rfl (lv_at hl 0 rfl) ?_
            refine rw_get hx hb hts in_M hown hK.1 m0 rfl 8 (by decide) (hts _ fl_M_26) rfl d_M_rank_55 ?_
            refine lv_iload_n hx hb d_M_rank_58 rfl (lv_at hl 1 rfl) ?_
            refine lv_iload_n hx hb d_M_rank_59 rfl (lv_at hl 2 rfl) ?_
            refine rw_iast hx hb hK.1 0 m6 rfl i (rfl) (h_i) (by decide) (⟨by omega, by omega⟩) hL12 d_M_rank_60 (fun H13 L14 z15 o16 hat17 hL18 => ?_)
            have m0 := pt_k m0 (o16 _ (by omega))
            have m1 := pt_k m1 (o16 _ (by omega))
            have m2 := pt_k m2 (o16 _ (by omega))
            have m3 := pt_k m3 (o16 _ (by omega))
            have m4 := pt_k m4 (o16 _ (by omega))
            have m5 := pt_k m5 (o16 _ (by omega))
            have m7 := pt_k m7 (o16 _ (by omega))
            have m8 := pt_k m8 (o16 _ (by omega))
            have m9 := pt_k m9 (o16 _ (by omega))
            have m10 := pt_k m10 (o16 _ (by omega))
            have m11 := pt_k m11 (o16 _ (by omega))
            have m12 := pt_k m12 (o16 _ (by omega))
            have m13 := pt_k m13 (o16 _ (by omega))
            have m14 := pt_k m14 (o16 _ (by omega))
            have m15 := pt_k m15 (o16 _ (by omega))
            have m6 := hat17
            have hB := Blk.trans hB ((Blk.one z15 o16).wide (lo' := d) (hi' := d + 16) (by omega) (by omega))
            refine lv_aload_n hx hb d_M_rank_61 rfl (lv_at hl 0 rfl) ?_
            refine lv_aload_n hx hb d_M_rank_62 rfl (lv_at hl 0 rfl) ?_
            refine rw_get hx hb hts in_M hown hK.1 m0 rfl 3 (by decide) (hts _ fl_M_7) rfl d_M_rank_63 ?_
            refine lv_iload_n hx hb d_M_rank_66 rfl (lv_at hl 1 rfl) ?_
            refine rw_iald hx hb hK.1 0 m1 rfl i (rfl) (h_i) (by decide) d_M_rank_67 ?_
            refine cl_d (W.runV (As := [.int ((u.2.1 i).1)]) (rest := []) S (c_M_dropKind m0 m13 (ek) (hkk)) (cwV 1 hts gv_M_84 rfl rfl rfl (by decide +kernel) ⟨Nat.le_of_ble_eq_true rfl, Nat.le_of_ble_eq_true rfl⟩) (cP_V (KG_ok _) hK hK.1 m0 rfl) rfl rfl hl.1 rfl (lv_room (Nat.le_of_ble_eq_true rfl)) d_M_rank_68 ⟨Nat.le_of_ble_eq_true rfl, Nat.le_of_ble_eq_true rfl⟩) hL18 (fun z h => ⟨by omega, by omega⟩) (fun H19 L20 hp21 hL22 => ?_)
            have m0 := pt_k m0 (hp21.2.2 _ (by omega))
            have m1 := pt_k m1 (hp21.2.2 _ (by omega))
            have m2 := pt_k m2 (hp21.2.2 _ (by omega))
            have m3 := pt_k m3 (hp21.2.2 _ (by omega))
            have m4 := pt_k m4 (hp21.2.2 _ (by omega))
            have m5 := pt_k m5 (hp21.2.2 _ (by omega))
            have m6 := pt_k m6 (hp21.2.2 _ (by omega))
            have m7 := pt_k m7 (hp21.2.2 _ (by omega))
            have m8 := pt_k m8 (hp21.2.2 _ (by omega))
            have m9 := pt_k m9 (hp21.2.2 _ (by omega))
            have m10 := pt_k m10 (hp21.2.2 _ (by omega))
            have m11 := pt_k m11 (hp21.2.2 _ (by omega))
            have m12 := pt_k m12 (hp21.2.2 _ (by omega))
            have m14 := pt_k m14 (hp21.2.2 _ (by omega))
            have m15 := pt_k m15 (hp21.2.2 _ (by omega))
            have m13 := hp21.1
            have hB := Blk.trans hB (hp21.2.wide (by omega) (by omega))
            refine lv_iconst (v := 1) hx hb d_M_rank_71 (by decide) ?_
            exact re_i hQ hx hb hr hlk (rfl) (⟨Or.inl ⟨⟨okI_of (by omega) hn_i, hok.2⟩, by simp [bI, c49], by rw [if_neg c49, if_neg c49, show nn (u.2.1 i).1 = kk by rw [ek]; exact nn_nI (by omega)]; exact ⟨m0, pt_i (up_k (fun r : Ru => r.1) u.2.1 i (setR (u.2.1 i) r0) rfl) m1, pt_i (up_k (fun r : Ru => r.2.1) u.2.1 i (setR (u.2.1 i) r0) rfl) m2, pt_i (up_k (fun r : Ru => r.2.2.1) u.2.1 i (setR (u.2.1 i) r0) rfl) m3, pt_i (up_k (fun r : Ru => r.2.2.2.1) u.2.1 i (setR (u.2.1 i) r0) rfl) m4, pt_l (up_k (fun r : Ru => r.2.2.2.2.1) u.2.1 i (setR (u.2.1 i) r0) rfl) m5, pt_i (up_i (fun r : Ru => r.2.2.2.2.2.1) u.2.1 i (setR (u.2.1 i) r0) rfl) m6, pt_i (up_k (fun r : Ru => oW r.2.2.2.2.2.2) u.2.1 i (setR (u.2.1 i) r0) rfl) m7, m8, m9, m10, m11, m12, m13, m14, m15, xB_r hxb (fun a e => hxb.2.2.2.1 i a h_i e) (hxb.2.2.2.2 i h_i), hv7⟩⟩, hB⟩) hL22 (Nat.le_of_ble_eq_true rfl) (Nat.le_of_ble_eq_true rfl) d_M_rank_72
          · refine lv_iconst (v := 0) hx hb d_M_rank_52 (by decide) ?_
            exact re_i hQ hx hb hr hlk (rfl) (⟨Or.inl ⟨⟨okI_of (by omega) hn_i, hok.2⟩, by simp [bI, c49], by rw [if_pos c49, if_pos c49]; exact hm⟩, hB⟩) hL12 (Nat.le_of_ble_eq_true rfl) (Nat.le_of_ble_eq_true rfl) d_M_rank_53
      · refine lv_iconst (v := 2) hx hb d_M_rank_27 (by decide) ?_
        refine lv_goto (tgt := 32) hx hb d_M_rank_28 (by decide) ?_
        refine rw_put hx hb hts in_M ck_M ok_M nm_M hown hK.1 m0 rfl 0 (by decide) (hts _ fl_M_61) rfl (ok_M 0 (by decide)) rfl rfl (Nat.le_of_ble_eq_true rfl) (⟨Nat.le_refl _, by omega⟩) (A := inBk d (d + 16)) cNil d_M_rank_32 (fun H23 L24 z25 o26 hat27 hL28 => ?_)
        have hm := MW_th (th' := 2) hm hat27 o26
        obtain ⟨m0, m1, m2, m3, m4, m5, m6, m7, m8, m9, m10, m11, m12, m13, m14, m15, hxb, hv7⟩ := id hm
        have hB := (Blk.one z25 o26).wide (lo' := d) (hi' := d + 16) (by omega) (by omega)
        have hbad : okI u.1.2.1 x ∧ ¬ okR r0 := by (try simp only [Classical.not_not, bI_eq, bI_ne, ask_t, ask_f, kB_t, kB_f, cB_t, cB_f, lB_t, lB_f, iB_t, iB_f, pB_t, pB_f] at c6 c17 c24); simp [okR, c6, c17, Int32.not_lt.mp c17, c24, Int32.not_le.mp c24]
        refine lv_aload_n hx hb d_M_rank_35 rfl (lv_at hl 0 rfl) ?_
        refine rw_get hx hb hts in_M hown hK.1 m0 rfl 0 (by decide) (hts _ fl_M_61) rfl d_M_rank_36 ?_
        refine lv_if_ne (tgt := 52) hx hb d_M_rank_39 (by decide) (fun c39 => ?_) (fun c39 => ?_)
        · refine lv_iconst (v := 0) hx hb d_M_rank_52 (by decide) ?_
          exact re_i hQ hx hb hr hlk (rfl) (⟨Or.inr (Or.inr ⟨hbad, rfl, hm⟩), hB⟩) hL28 (Nat.le_of_ble_eq_true rfl) (Nat.le_of_ble_eq_true rfl) d_M_rank_53
        · exact absurd c39 (by decide)
  · refine lv_iconst (v := 1) hx hb d_M_rank_9 (by decide) ?_
    refine lv_goto (tgt := 32) hx hb d_M_rank_10 (by decide) ?_
    refine rw_put hx hb hts in_M ck_M ok_M nm_M hown hK.1 m0 rfl 0 (by decide) (hts _ fl_M_61) rfl (ok_M 0 (by decide)) rfl rfl (Nat.le_of_ble_eq_true rfl) (⟨Nat.le_refl _, by omega⟩) (A := inBk d (d + 16)) cNil d_M_rank_32 (fun H29 L30 z31 o32 hat33 hL34 => ?_)
    have hm := MW_th (th' := 1) hm hat33 o32
    obtain ⟨m0, m1, m2, m3, m4, m5, m6, m7, m8, m9, m10, m11, m12, m13, m14, m15, hxb, hv7⟩ := id hm
    have hB := (Blk.one z31 o32).wide (lo' := d) (hi' := d + 16) (by omega) (by omega)
    have hbad : ¬ okI u.1.2.1 x := by (try simp only [Classical.not_not, bI_eq, bI_ne, ask_t, ask_f, kB_t, kB_f, cB_t, cB_f, lB_t, lB_f, iB_t, iB_f, pB_t, pB_f] at c6); simp [okR, c6]
    refine lv_aload_n hx hb d_M_rank_35 rfl (lv_at hl 0 rfl) ?_
    refine rw_get hx hb hts in_M hown hK.1 m0 rfl 0 (by decide) (hts _ fl_M_61) rfl d_M_rank_36 ?_
    refine lv_if_ne (tgt := 52) hx hb d_M_rank_39 (by decide) (fun c39 => ?_) (fun c39 => ?_)
    · refine lv_iconst (v := 0) hx hb d_M_rank_52 (by decide) ?_
      exact re_i hQ hx hb hr hlk (rfl) (⟨Or.inr (Or.inl ⟨hbad, rfl, hm⟩), hB⟩) hL34 (Nat.le_of_ble_eq_true rfl) (Nat.le_of_ble_eq_true rfl) d_M_rank_53
    · exact absurd c39 (by decide)
def rm_M_inArea : Room := { frames := 1, cells := 0, slots := 0, locals := 22 }
set_option maxRecDepth 100000 in
set_option maxHeartbeats 4000000 in
theorem c_M_inArea {l : Launch} {ev : EV} {H0 : Heap} {d : Nat} {th : Int32} {u : XS} {kp : KT} {v : PT} (hm : MW ev d th u kp v H0) (x a : Int32) : Met l my_M_inArea mw_M_inArea rm_M_inArea (cP [.ref d, .int x, .int a] (KG ev) H0) (cQe (fun r H1 => ((okI u.1.2.1 x ∧ okIN u.1.2.2.1 a) ∧ r = .int (bI (!decide ((u.2.1 (nn x)).2.2.2.2.2.2 = aO a))) ∧ MW ev d 0 (if (u.2.1 (nn x)).2.2.2.2.2.2 = aO a then u else rowU u (nn x) (setO (u.2.1 (nn x)) (aO a))) (if (u.2.1 (nn x)).2.2.2.2.2.2 = aO a then kp else kpK kp (nn (u.2.1 (nn x)).1)) v H1 ∨ (¬ (okI u.1.2.1 x ∧ okIN u.1.2.2.1 a)) ∧ r = .int 0 ∧ MW ev d 1 u kp v H1) ∧ Blk d (d + 16) H0 H1)) 0 0 (inBk d (d + 16)) := by
  refine cHead [.ref d, .int x, .int a] (by decide) rfl (Nat.le_of_ble_eq_true rfl) ?_
  intro p e s m below meth c ls args QQ hQ S hr hlk hnm hs hK hl
  have S : CallFix p m c mb_M_inArea 3 s args TB "RuleChoiceModel" := S
  obtain ⟨hx, hb, hml, hown, hts⟩ := id S
  obtain ⟨m0, m1, m2, m3, m4, m5, m6, m7, m8, m9, m10, m11, m12, m13, m14, m15, hxb, hv7⟩ := id hm
  have hr40 : u.1.2.1 ≤ 40 := hxb.1
  have ha12 : u.1.2.2.1 ≤ 12 := hxb.2.1
  have ht40 : u.1.2.2.2.1 ≤ 40 := hxb.2.2.1
  have hl : lv_has ls 3 [(0, .ref d), (1, .int x), (2, .int a)] := hl
  refine lv_aload_n hx hb d_M_inArea_0 rfl (lv_at hl 0 rfl) ?_
  refine lv_aload_n hx hb d_M_inArea_1 rfl (lv_at hl 0 rfl) ?_
  refine lv_iload_n hx hb d_M_inArea_2 rfl (lv_at hl 1 rfl) ?_
  refine cl_i (W.runV (As := [.int x]) (rest := [.ref d]) S (c_M_isRule m0 x) (cwV 1 hts gv_M_88 rfl rfl rfl (by decide +kernel) ⟨Nat.le_of_ble_eq_true rfl, Nat.le_of_ble_eq_true rfl⟩) (cP_V (KG_ok _) hK hK.1 m0 rfl) rfl rfl hl.1 rfl (lv_room (Nat.le_of_ble_eq_true rfl)) d_M_inArea_3 ⟨Nat.le_of_ble_eq_true rfl, Nat.le_of_ble_eq_true rfl⟩) ?_
  refine lv_if_eq (tgt := 26) hx hb d_M_inArea_6 (by decide) (fun c6 => ?_) (fun c6 => ?_)
  · refine lv_iconst (v := 1) hx hb d_M_inArea_26 (by decide) ?_
    refine rw_put hx hb hts in_M ck_M ok_M nm_M hown hK.1 m0 rfl 0 (by decide) (hts _ fl_M_61) rfl (ok_M 0 (by decide)) rfl rfl (Nat.le_of_ble_eq_true rfl) (⟨Nat.le_refl _, by omega⟩) (A := inBk d (d + 16)) cNil d_M_inArea_27 (fun H1 L2 z3 o4 hat5 hL6 => ?_)
    have hm := MW_th (th' := 1) hm hat5 o4
    obtain ⟨m0, m1, m2, m3, m4, m5, m6, m7, m8, m9, m10, m11, m12, m13, m14, m15, hxb, hv7⟩ := id hm
    have hB := (Blk.one z3 o4).wide (lo' := d) (hi' := d + 16) (by omega) (by omega)
    have hbad : ¬ (okI u.1.2.1 x ∧ okIN u.1.2.2.1 a) := by simp only [Classical.not_not, bI_eq, bI_ne, ask_t, ask_f, kB_t, kB_f, cB_t, cB_f, lB_t, lB_f, iB_t, iB_f, pB_t, pB_f] at c6; exact fun h => c6 h.1
    refine lv_aload_n hx hb d_M_inArea_30 rfl (lv_at hl 0 rfl) ?_
    refine rw_get hx hb hts in_M hown hK.1 m0 rfl 0 (by decide) (hts _ fl_M_61) rfl d_M_inArea_31 ?_
    refine lv_if_ne (tgt := 49) hx hb d_M_inArea_34 (by decide) (fun c34 => ?_) (fun c34 => ?_)
    · refine lv_iconst (v := 0) hx hb d_M_inArea_49 (by decide) ?_
      exact re_i hQ hx hb hr hlk (rfl) (⟨Or.inr ⟨hbad, rfl, hm⟩, hB⟩) hL6 (Nat.le_of_ble_eq_true rfl) (Nat.le_of_ble_eq_true rfl) d_M_inArea_50
    · exact absurd c34 (by decide)
  · refine lv_iload_n hx hb d_M_inArea_9 rfl (lv_at hl 2 rfl) ?_
    refine lv_iconst (v := (-1)) hx hb d_M_inArea_10 (by decide) ?_
    refine lv_icmp_lt (tgt := 26) hx hb d_M_inArea_11 (by decide) (fun c11 => ?_) (fun c11 => ?_)
    · refine lv_iconst (v := 1) hx hb d_M_inArea_26 (by decide) ?_
      refine rw_put hx hb hts in_M ck_M ok_M nm_M hown hK.1 m0 rfl 0 (by decide) (hts _ fl_M_61) rfl (ok_M 0 (by decide)) rfl rfl (Nat.le_of_ble_eq_true rfl) (⟨Nat.le_refl _, by omega⟩) (A := inBk d (d + 16)) cNil d_M_inArea_27 (fun H7 L8 z9 o10 hat11 hL12 => ?_)
      have hm := MW_th (th' := 1) hm hat11 o10
      obtain ⟨m0, m1, m2, m3, m4, m5, m6, m7, m8, m9, m10, m11, m12, m13, m14, m15, hxb, hv7⟩ := id hm
      have hB := (Blk.one z9 o10).wide (lo' := d) (hi' := d + 16) (by omega) (by omega)
      have hbad : ¬ (okI u.1.2.1 x ∧ okIN u.1.2.2.1 a) := fun h => (in_no hxb.2.1 h.2).1 c11
      refine lv_aload_n hx hb d_M_inArea_30 rfl (lv_at hl 0 rfl) ?_
      refine rw_get hx hb hts in_M hown hK.1 m0 rfl 0 (by decide) (hts _ fl_M_61) rfl d_M_inArea_31 ?_
      refine lv_if_ne (tgt := 49) hx hb d_M_inArea_34 (by decide) (fun c34 => ?_) (fun c34 => ?_)
      · refine lv_iconst (v := 0) hx hb d_M_inArea_49 (by decide) ?_
        exact re_i hQ hx hb hr hlk (rfl) (⟨Or.inr ⟨hbad, rfl, hm⟩, hB⟩) hL12 (Nat.le_of_ble_eq_true rfl) (Nat.le_of_ble_eq_true rfl) d_M_inArea_50
      · exact absurd c34 (by decide)
    · refine lv_iload_n hx hb d_M_inArea_14 rfl (lv_at hl 2 rfl) ?_
      refine lv_aload_n hx hb d_M_inArea_15 rfl (lv_at hl 0 rfl) ?_
      refine rw_get hx hb hts in_M hown hK.1 m0 rfl 10 (by decide) (hts _ fl_M_95) rfl d_M_inArea_16 ?_
      refine lv_icmp_ge (tgt := 26) hx hb d_M_inArea_19 (by decide) (fun c19 => ?_) (fun c19 => ?_)
      · refine lv_iconst (v := 1) hx hb d_M_inArea_26 (by decide) ?_
        refine rw_put hx hb hts in_M ck_M ok_M nm_M hown hK.1 m0 rfl 0 (by decide) (hts _ fl_M_61) rfl (ok_M 0 (by decide)) rfl rfl (Nat.le_of_ble_eq_true rfl) (⟨Nat.le_refl _, by omega⟩) (A := inBk d (d + 16)) cNil d_M_inArea_27 (fun H13 L14 z15 o16 hat17 hL18 => ?_)
        have hm := MW_th (th' := 1) hm hat17 o16
        obtain ⟨m0, m1, m2, m3, m4, m5, m6, m7, m8, m9, m10, m11, m12, m13, m14, m15, hxb, hv7⟩ := id hm
        have hB := (Blk.one z15 o16).wide (lo' := d) (hi' := d + 16) (by omega) (by omega)
        have hbad : ¬ (okI u.1.2.1 x ∧ okIN u.1.2.2.1 a) := fun h => absurd (in_no hxb.2.1 h.2).2 (Int32.not_lt.mpr c19)
        refine lv_aload_n hx hb d_M_inArea_30 rfl (lv_at hl 0 rfl) ?_
        refine rw_get hx hb hts in_M hown hK.1 m0 rfl 0 (by decide) (hts _ fl_M_61) rfl d_M_inArea_31 ?_
        refine lv_if_ne (tgt := 49) hx hb d_M_inArea_34 (by decide) (fun c34 => ?_) (fun c34 => ?_)
        · refine lv_iconst (v := 0) hx hb d_M_inArea_49 (by decide) ?_
          exact re_i hQ hx hb hr hlk (rfl) (⟨Or.inr ⟨hbad, rfl, hm⟩, hB⟩) hL18 (Nat.le_of_ble_eq_true rfl) (Nat.le_of_ble_eq_true rfl) d_M_inArea_50
        · exact absurd c34 (by decide)
      · refine lv_iconst (v := 0) hx hb d_M_inArea_22 (by decide) ?_
        refine lv_goto (tgt := 27) hx hb d_M_inArea_23 (by decide) ?_
        refine rw_put hx hb hts in_M ck_M ok_M nm_M hown hK.1 m0 rfl 0 (by decide) (hts _ fl_M_61) rfl (ok_M 0 (by decide)) rfl rfl (Nat.le_of_ble_eq_true rfl) (⟨Nat.le_refl _, by omega⟩) (A := inBk d (d + 16)) cNil d_M_inArea_27 (fun H19 L20 z21 o22 hat23 hL24 => ?_)
        have hm := MW_th (th' := 0) hm hat23 o22
        obtain ⟨m0, m1, m2, m3, m4, m5, m6, m7, m8, m9, m10, m11, m12, m13, m14, m15, hxb, hv7⟩ := id hm
        have hB := (Blk.one z21 o22).wide (lo' := d) (hi' := d + 16) (by omega) (by omega)
        have hok : okI u.1.2.1 x ∧ okIN u.1.2.2.1 a := by simp only [Classical.not_not, bI_eq, bI_ne, ask_t, ask_f, kB_t, kB_f, cB_t, cB_f, lB_t, lB_f, iB_t, iB_f, pB_t, pB_f] at c6; exact ⟨c6, in_ok c11 (Int32.not_le.mp c19)⟩
        obtain ⟨i, hn_i, h_i, rfl⟩ := okIdx hxb.1 (hok.1)
        simp only [nn_nI (i := i) (by omega)] at hQ
        obtain ⟨kk, hkk, ek⟩ := okK_ix (hxb.2.2.2.2 i h_i)
        obtain ⟨eA, lA⟩ := aO_I hxb.2.1 hok.2
        have eW := oW_i hxb.2.1 hok.2
        refine lv_aload_n hx hb d_M_inArea_30 rfl (lv_at hl 0 rfl) ?_
        refine rw_get hx hb hts in_M hown hK.1 m0 rfl 0 (by decide) (hts _ fl_M_61) rfl d_M_inArea_31 ?_
        refine lv_if_ne (tgt := 49) hx hb d_M_inArea_34 (by decide) (fun c34 => ?_) (fun c34 => ?_)
        · exact absurd c34 (by decide)
        · refine lv_aload_n hx hb d_M_inArea_37 rfl (lv_at hl 0 rfl) ?_
          refine rw_get hx hb hts in_M hown hK.1 m0 rfl 9 (by decide) (hts _ fl_M_29) rfl d_M_inArea_38 ?_
          refine lv_iload_n hx hb d_M_inArea_41 rfl (lv_at hl 1 rfl) ?_
          refine rw_iald hx hb hK.1 0 m7 rfl i (rfl) (h_i) (by decide) d_M_inArea_42 ?_
          refine lv_iload_n hx hb d_M_inArea_43 rfl (lv_at hl 2 rfl) ?_
          refine lv_iconst (v := 1) hx hb d_M_inArea_44 (by decide) ?_
          refine lv_iadd hx hb d_M_inArea_45 ?_
          refine lv_icmp_ne (tgt := 51) hx hb d_M_inArea_46 (by decide) (fun c46 => ?_) (fun c46 => ?_)
          · refine lv_aload_n hx hb d_M_inArea_51 rfl (lv_at hl 0 rfl) ?_
            refine rw_get hx hb hts in_M hown hK.1 m0 rfl 9 (by decide) (hts _ fl_M_29) rfl d_M_inArea_52 ?_
            refine lv_iload_n hx hb d_M_inArea_55 rfl (lv_at hl 1 rfl) ?_
            refine lv_iload_n hx hb d_M_inArea_56 rfl (lv_at hl 2 rfl) ?_
            refine lv_iconst (v := 1) hx hb d_M_inArea_57 (by decide) ?_
            refine lv_iadd hx hb d_M_inArea_58 ?_
            refine rw_iast hx hb hK.1 0 m7 rfl i (rfl) (h_i) (by decide) (⟨by omega, by omega⟩) hL24 d_M_inArea_59 (fun H25 L26 z27 o28 hat29 hL30 => ?_)
            have m0 := pt_k m0 (o28 _ (by omega))
            have m1 := pt_k m1 (o28 _ (by omega))
            have m2 := pt_k m2 (o28 _ (by omega))
            have m3 := pt_k m3 (o28 _ (by omega))
            have m4 := pt_k m4 (o28 _ (by omega))
            have m5 := pt_k m5 (o28 _ (by omega))
            have m6 := pt_k m6 (o28 _ (by omega))
            have m8 := pt_k m8 (o28 _ (by omega))
            have m9 := pt_k m9 (o28 _ (by omega))
            have m10 := pt_k m10 (o28 _ (by omega))
            have m11 := pt_k m11 (o28 _ (by omega))
            have m12 := pt_k m12 (o28 _ (by omega))
            have m13 := pt_k m13 (o28 _ (by omega))
            have m14 := pt_k m14 (o28 _ (by omega))
            have m15 := pt_k m15 (o28 _ (by omega))
            have m7 := hat29
            have hB := Blk.trans hB ((Blk.one z27 o28).wide (lo' := d) (hi' := d + 16) (by omega) (by omega))
            refine lv_aload_n hx hb d_M_inArea_60 rfl (lv_at hl 0 rfl) ?_
            refine lv_aload_n hx hb d_M_inArea_61 rfl (lv_at hl 0 rfl) ?_
            refine rw_get hx hb hts in_M hown hK.1 m0 rfl 3 (by decide) (hts _ fl_M_7) rfl d_M_inArea_62 ?_
            refine lv_iload_n hx hb d_M_inArea_65 rfl (lv_at hl 1 rfl) ?_
            refine rw_iald hx hb hK.1 0 m1 rfl i (rfl) (h_i) (by decide) d_M_inArea_66 ?_
            refine cl_d (W.runV (As := [.int ((u.2.1 i).1)]) (rest := []) S (c_M_dropKind m0 m13 (ek) (hkk)) (cwV 1 hts gv_M_84 rfl rfl rfl (by decide +kernel) ⟨Nat.le_of_ble_eq_true rfl, Nat.le_of_ble_eq_true rfl⟩) (cP_V (KG_ok _) hK hK.1 m0 rfl) rfl rfl hl.1 rfl (lv_room (Nat.le_of_ble_eq_true rfl)) d_M_inArea_67 ⟨Nat.le_of_ble_eq_true rfl, Nat.le_of_ble_eq_true rfl⟩) hL30 (fun z h => ⟨by omega, by omega⟩) (fun H31 L32 hp33 hL34 => ?_)
            have m0 := pt_k m0 (hp33.2.2 _ (by omega))
            have m1 := pt_k m1 (hp33.2.2 _ (by omega))
            have m2 := pt_k m2 (hp33.2.2 _ (by omega))
            have m3 := pt_k m3 (hp33.2.2 _ (by omega))
            have m4 := pt_k m4 (hp33.2.2 _ (by omega))
            have m5 := pt_k m5 (hp33.2.2 _ (by omega))
            have m6 := pt_k m6 (hp33.2.2 _ (by omega))
            have m7 := pt_k m7 (hp33.2.2 _ (by omega))
            have m8 := pt_k m8 (hp33.2.2 _ (by omega))
            have m9 := pt_k m9 (hp33.2.2 _ (by omega))
            have m10 := pt_k m10 (hp33.2.2 _ (by omega))
            have m11 := pt_k m11 (hp33.2.2 _ (by omega))
            have m12 := pt_k m12 (hp33.2.2 _ (by omega))
            have m14 := pt_k m14 (hp33.2.2 _ (by omega))
            have m15 := pt_k m15 (hp33.2.2 _ (by omega))
            have m13 := hp33.1
            have hB := Blk.trans hB (hp33.2.wide (by omega) (by omega))
            refine lv_iconst (v := 1) hx hb d_M_inArea_70 (by decide) ?_
            have g46 : ¬ (u.2.1 i).2.2.2.2.2.2 = aO a := fun e => c46 (by rw [e]; exact eW)
            exact re_i hQ hx hb hr hlk (rfl) (⟨Or.inl ⟨⟨okI_of (by omega) hn_i, hok.2⟩, by simp [bI, g46], by rw [if_neg g46, if_neg g46, show nn (u.2.1 i).1 = kk by rw [ek]; exact nn_nI (by omega)]; exact ⟨m0, pt_i (up_k (fun r : Ru => r.1) u.2.1 i (setO (u.2.1 i) (aO a)) rfl) m1, pt_i (up_k (fun r : Ru => r.2.1) u.2.1 i (setO (u.2.1 i) (aO a)) rfl) m2, pt_i (up_k (fun r : Ru => r.2.2.1) u.2.1 i (setO (u.2.1 i) (aO a)) rfl) m3, pt_i (up_k (fun r : Ru => r.2.2.2.1) u.2.1 i (setO (u.2.1 i) (aO a)) rfl) m4, pt_l (up_k (fun r : Ru => r.2.2.2.2.1) u.2.1 i (setO (u.2.1 i) (aO a)) rfl) m5, pt_i (up_k (fun r : Ru => r.2.2.2.2.2.1) u.2.1 i (setO (u.2.1 i) (aO a)) rfl) m6, pt_i (up_i (fun r : Ru => oW r.2.2.2.2.2.2) u.2.1 i (setO (u.2.1 i) (aO a)) eW) m7, m8, m9, m10, m11, m12, m13, m14, m15, xB_r hxb lA (hxb.2.2.2.2 i h_i), hv7⟩⟩, hB⟩) hL34 (Nat.le_of_ble_eq_true rfl) (Nat.le_of_ble_eq_true rfl) d_M_inArea_71
          · refine lv_iconst (v := 0) hx hb d_M_inArea_49 (by decide) ?_
            have g46 : (u.2.1 i).2.2.2.2.2.2 = aO a := oW_inj (fun z e => xB_12 hxb h_i e) (fun z e => Nat.lt_of_lt_of_le (lA z e) hxb.2.1) (c46.trans eW.symm)
            exact re_i hQ hx hb hr hlk (rfl) (⟨Or.inl ⟨⟨okI_of (by omega) hn_i, hok.2⟩, by simp [bI, g46], by rw [if_pos g46, if_pos g46]; exact hm⟩, hB⟩) hL24 (Nat.le_of_ble_eq_true rfl) (Nat.le_of_ble_eq_true rfl) d_M_inArea_50
def rm_M_area : Room := { frames := 1, cells := 0, slots := 0, locals := 23 }
set_option maxRecDepth 100000 in
set_option maxHeartbeats 4000000 in
theorem c_M_area {l : Launch} {ev : EV} {H0 : Heap} {d : Nat} {th : Int32} {u : XS} {kp : KT} {v : PT} (hm : MW ev d th u kp v H0) (x0 y0 x1 y1 : Int64) : Met l my_M_area mw_M_area rm_M_area (cP [.ref d, .long x0, .long y0, .long x1, .long y1] (KG ev) H0) (cQe (fun r H1 => ((okP x0 y0 ∧ okP x1 y1 ∧ okT x0 y0 x1 y1) ∧ r = .int (if u.1.2.2.1 < 12 then nI u.1.2.2.1 else -1) ∧ MW ev d 0 (areU u (x0, y0, x1, y1)) kp v H1 ∨ (¬ (okP x0 y0 ∧ okP x1 y1 ∧ okT x0 y0 x1 y1)) ∧ r = .int 0 ∧ MW ev d 1 u kp v H1) ∧ Blk d (d + 16) H0 H1)) 0 0 (inBk d (d + 16)) := by
  refine cHead [.ref d, .long x0, .long y0, .long x1, .long y1] (by decide) rfl (Nat.le_of_ble_eq_true rfl) ?_
  intro p e s m below meth c ls args QQ hQ S hr hlk hnm hs hK hl
  have S : CallFix p m c mb_M_area 9 s args TB "RuleChoiceModel" := S
  obtain ⟨hx, hb, hml, hown, hts⟩ := id S
  obtain ⟨m0, m1, m2, m3, m4, m5, m6, m7, m8, m9, m10, m11, m12, m13, m14, m15, hxb, hv7⟩ := id hm
  have hr40 : u.1.2.1 ≤ 40 := hxb.1
  have ha12 : u.1.2.2.1 ≤ 12 := hxb.2.1
  have ht40 : u.1.2.2.2.1 ≤ 40 := hxb.2.2.1
  have hl : lv_has ls 9 [(0, .ref d), (1, .long x0), (3, .long y0), (5, .long x1), (7, .long y1)] := hl
  refine lv_aload_n hx hb d_M_area_0 rfl (lv_at hl 0 rfl) ?_
  refine lv_lload_n hx hb d_M_area_1 rfl (lv_at hl 1 rfl) ?_
  refine lv_lload hx hb d_M_area_2 (lv_at hl 3 rfl) ?_
  refine ll_gt (tgt := 37) hx hb d_M_area_4 d_M_area_5 (by decide) (fun c5 => ?_) (fun c5 => ?_)
  · refine lv_iconst (v := 1) hx hb d_M_area_37 (by decide) ?_
    refine rw_put hx hb hts in_M ck_M ok_M nm_M hown hK.1 m0 rfl 0 (by decide) (hts _ fl_M_61) rfl (ok_M 0 (by decide)) rfl rfl (Nat.le_of_ble_eq_true rfl) (⟨Nat.le_refl _, by omega⟩) (A := inBk d (d + 16)) cNil d_M_area_38 (fun H1 L2 z3 o4 hat5 hL6 => ?_)
    have hm := MW_th (th' := 1) hm hat5 o4
    obtain ⟨m0, m1, m2, m3, m4, m5, m6, m7, m8, m9, m10, m11, m12, m13, m14, m15, hxb, hv7⟩ := id hm
    have hB := (Blk.one z3 o4).wide (lo' := d) (hi' := d + 16) (by omega) (by omega)
    have hbad : ¬ (okP x0 y0 ∧ okP x1 y1 ∧ okT x0 y0 x1 y1) := by (try simp only [Classical.not_not, bI_eq, bI_ne, ask_t, ask_f, kB_t, kB_f, cB_t, cB_f, lB_t, lB_f, iB_t, iB_f, pB_t, pB_f] at c5); simp [okT, c5, Int64.not_le.mpr c5]
    refine lv_aload_n hx hb d_M_area_41 rfl (lv_at hl 0 rfl) ?_
    refine rw_get hx hb hts in_M hown hK.1 m0 rfl 0 (by decide) (hts _ fl_M_61) rfl d_M_area_42 ?_
    refine lv_if_eq (tgt := 50) hx hb d_M_area_45 (by decide) (fun c45 => ?_) (fun c45 => ?_)
    · exact absurd c45 (by decide)
    · refine lv_iconst (v := 0) hx hb d_M_area_48 (by decide) ?_
      exact re_i hQ hx hb hr hlk (rfl) (⟨Or.inr ⟨hbad, rfl, hm⟩, hB⟩) hL6 (Nat.le_of_ble_eq_true rfl) (Nat.le_of_ble_eq_true rfl) d_M_area_49
  · refine lv_lload_n hx hb d_M_area_8 rfl (lv_at hl 2 rfl) ?_
    refine lv_lload hx hb d_M_area_9 (lv_at hl 4 rfl) ?_
    refine ll_gt (tgt := 37) hx hb d_M_area_11 d_M_area_12 (by decide) (fun c12 => ?_) (fun c12 => ?_)
    · refine lv_iconst (v := 1) hx hb d_M_area_37 (by decide) ?_
      refine rw_put hx hb hts in_M ck_M ok_M nm_M hown hK.1 m0 rfl 0 (by decide) (hts _ fl_M_61) rfl (ok_M 0 (by decide)) rfl rfl (Nat.le_of_ble_eq_true rfl) (⟨Nat.le_refl _, by omega⟩) (A := inBk d (d + 16)) cNil d_M_area_38 (fun H7 L8 z9 o10 hat11 hL12 => ?_)
      have hm := MW_th (th' := 1) hm hat11 o10
      obtain ⟨m0, m1, m2, m3, m4, m5, m6, m7, m8, m9, m10, m11, m12, m13, m14, m15, hxb, hv7⟩ := id hm
      have hB := (Blk.one z9 o10).wide (lo' := d) (hi' := d + 16) (by omega) (by omega)
      have hbad : ¬ (okP x0 y0 ∧ okP x1 y1 ∧ okT x0 y0 x1 y1) := by (try simp only [Classical.not_not, bI_eq, bI_ne, ask_t, ask_f, kB_t, kB_f, cB_t, cB_f, lB_t, lB_f, iB_t, iB_f, pB_t, pB_f] at c5 c12); simp [okT, c5, Int64.not_lt.mp c5, c12, Int64.not_le.mpr c12]
      refine lv_aload_n hx hb d_M_area_41 rfl (lv_at hl 0 rfl) ?_
      refine rw_get hx hb hts in_M hown hK.1 m0 rfl 0 (by decide) (hts _ fl_M_61) rfl d_M_area_42 ?_
      refine lv_if_eq (tgt := 50) hx hb d_M_area_45 (by decide) (fun c45 => ?_) (fun c45 => ?_)
      · exact absurd c45 (by decide)
      · refine lv_iconst (v := 0) hx hb d_M_area_48 (by decide) ?_
        exact re_i hQ hx hb hr hlk (rfl) (⟨Or.inr ⟨hbad, rfl, hm⟩, hB⟩) hL12 (Nat.le_of_ble_eq_true rfl) (Nat.le_of_ble_eq_true rfl) d_M_area_49
    · refine lv_lload_n hx hb d_M_area_15 rfl (lv_at hl 1 rfl) ?_
      refine lv_lload_n hx hb d_M_area_16 rfl (lv_at hl 2 rfl) ?_
      refine cl_i (W.runS (As := [.long x0, .long y0]) (rest := [.ref d]) S (c_M_isPlace x0 y0) (va_cwS 2 hts gs_M_91 rfl rfl rfl (by decide +kernel) ⟨Nat.le_of_ble_eq_true rfl, Nat.le_of_ble_eq_true rfl⟩) (cP_S (KG_ok _) hK) rfl rfl hl.1 rfl (lv_room (Nat.le_of_ble_eq_true rfl)) d_M_area_17 ⟨Nat.le_of_ble_eq_true rfl, Nat.le_of_ble_eq_true rfl⟩) ?_
      refine lv_if_eq (tgt := 37) hx hb d_M_area_20 (by decide) (fun c20 => ?_) (fun c20 => ?_)
      · refine lv_iconst (v := 1) hx hb d_M_area_37 (by decide) ?_
        refine rw_put hx hb hts in_M ck_M ok_M nm_M hown hK.1 m0 rfl 0 (by decide) (hts _ fl_M_61) rfl (ok_M 0 (by decide)) rfl rfl (Nat.le_of_ble_eq_true rfl) (⟨Nat.le_refl _, by omega⟩) (A := inBk d (d + 16)) cNil d_M_area_38 (fun H13 L14 z15 o16 hat17 hL18 => ?_)
        have hm := MW_th (th' := 1) hm hat17 o16
        obtain ⟨m0, m1, m2, m3, m4, m5, m6, m7, m8, m9, m10, m11, m12, m13, m14, m15, hxb, hv7⟩ := id hm
        have hB := (Blk.one z15 o16).wide (lo' := d) (hi' := d + 16) (by omega) (by omega)
        have hbad : ¬ (okP x0 y0 ∧ okP x1 y1 ∧ okT x0 y0 x1 y1) := by (try simp only [Classical.not_not, bI_eq, bI_ne, ask_t, ask_f, kB_t, kB_f, cB_t, cB_f, lB_t, lB_f, iB_t, iB_f, pB_t, pB_f] at c5 c12 c20); simp [okT, c5, Int64.not_lt.mp c5, c12, Int64.not_lt.mp c12, c20]
        refine lv_aload_n hx hb d_M_area_41 rfl (lv_at hl 0 rfl) ?_
        refine rw_get hx hb hts in_M hown hK.1 m0 rfl 0 (by decide) (hts _ fl_M_61) rfl d_M_area_42 ?_
        refine lv_if_eq (tgt := 50) hx hb d_M_area_45 (by decide) (fun c45 => ?_) (fun c45 => ?_)
        · exact absurd c45 (by decide)
        · refine lv_iconst (v := 0) hx hb d_M_area_48 (by decide) ?_
          exact re_i hQ hx hb hr hlk (rfl) (⟨Or.inr ⟨hbad, rfl, hm⟩, hB⟩) hL18 (Nat.le_of_ble_eq_true rfl) (Nat.le_of_ble_eq_true rfl) d_M_area_49
      · refine lv_lload hx hb d_M_area_23 (lv_at hl 3 rfl) ?_
        refine lv_lload hx hb d_M_area_25 (lv_at hl 4 rfl) ?_
        refine cl_i (W.runS (As := [.long x1, .long y1]) (rest := [.ref d]) S (c_M_isPlace x1 y1) (va_cwS 2 hts gs_M_91 rfl rfl rfl (by decide +kernel) ⟨Nat.le_of_ble_eq_true rfl, Nat.le_of_ble_eq_true rfl⟩) (cP_S (KG_ok _) hK) rfl rfl hl.1 rfl (lv_room (Nat.le_of_ble_eq_true rfl)) d_M_area_27 ⟨Nat.le_of_ble_eq_true rfl, Nat.le_of_ble_eq_true rfl⟩) ?_
        refine lv_if_eq (tgt := 37) hx hb d_M_area_30 (by decide) (fun c30 => ?_) (fun c30 => ?_)
        · refine lv_iconst (v := 1) hx hb d_M_area_37 (by decide) ?_
          refine rw_put hx hb hts in_M ck_M ok_M nm_M hown hK.1 m0 rfl 0 (by decide) (hts _ fl_M_61) rfl (ok_M 0 (by decide)) rfl rfl (Nat.le_of_ble_eq_true rfl) (⟨Nat.le_refl _, by omega⟩) (A := inBk d (d + 16)) cNil d_M_area_38 (fun H19 L20 z21 o22 hat23 hL24 => ?_)
          have hm := MW_th (th' := 1) hm hat23 o22
          obtain ⟨m0, m1, m2, m3, m4, m5, m6, m7, m8, m9, m10, m11, m12, m13, m14, m15, hxb, hv7⟩ := id hm
          have hB := (Blk.one z21 o22).wide (lo' := d) (hi' := d + 16) (by omega) (by omega)
          have hbad : ¬ (okP x0 y0 ∧ okP x1 y1 ∧ okT x0 y0 x1 y1) := by (try simp only [Classical.not_not, bI_eq, bI_ne, ask_t, ask_f, kB_t, kB_f, cB_t, cB_f, lB_t, lB_f, iB_t, iB_f, pB_t, pB_f] at c5 c12 c20 c30); simp [okT, c5, Int64.not_lt.mp c5, c12, Int64.not_lt.mp c12, c20, c30]
          refine lv_aload_n hx hb d_M_area_41 rfl (lv_at hl 0 rfl) ?_
          refine rw_get hx hb hts in_M hown hK.1 m0 rfl 0 (by decide) (hts _ fl_M_61) rfl d_M_area_42 ?_
          refine lv_if_eq (tgt := 50) hx hb d_M_area_45 (by decide) (fun c45 => ?_) (fun c45 => ?_)
          · exact absurd c45 (by decide)
          · refine lv_iconst (v := 0) hx hb d_M_area_48 (by decide) ?_
            exact re_i hQ hx hb hr hlk (rfl) (⟨Or.inr ⟨hbad, rfl, hm⟩, hB⟩) hL24 (Nat.le_of_ble_eq_true rfl) (Nat.le_of_ble_eq_true rfl) d_M_area_49
        · refine lv_iconst (v := 0) hx hb d_M_area_33 (by decide) ?_
          refine lv_goto (tgt := 38) hx hb d_M_area_34 (by decide) ?_
          refine rw_put hx hb hts in_M ck_M ok_M nm_M hown hK.1 m0 rfl 0 (by decide) (hts _ fl_M_61) rfl (ok_M 0 (by decide)) rfl rfl (Nat.le_of_ble_eq_true rfl) (⟨Nat.le_refl _, by omega⟩) (A := inBk d (d + 16)) cNil d_M_area_38 (fun H25 L26 z27 o28 hat29 hL30 => ?_)
          have hm := MW_th (th' := 0) hm hat29 o28
          obtain ⟨m0, m1, m2, m3, m4, m5, m6, m7, m8, m9, m10, m11, m12, m13, m14, m15, hxb, hv7⟩ := id hm
          have hB := (Blk.one z27 o28).wide (lo' := d) (hi' := d + 16) (by omega) (by omega)
          have hok : okP x0 y0 ∧ okP x1 y1 ∧ okT x0 y0 x1 y1 := by (try simp only [Classical.not_not, bI_eq, bI_ne, ask_t, ask_f, kB_t, kB_f, cB_t, cB_f, lB_t, lB_f, iB_t, iB_f, pB_t, pB_f] at c5 c12 c20 c30); simp [okT, c5, Int64.not_lt.mp c5, c12, Int64.not_lt.mp c12, c20, c30]
          refine lv_aload_n hx hb d_M_area_41 rfl (lv_at hl 0 rfl) ?_
          refine rw_get hx hb hts in_M hown hK.1 m0 rfl 0 (by decide) (hts _ fl_M_61) rfl d_M_area_42 ?_
          refine lv_if_eq (tgt := 50) hx hb d_M_area_45 (by decide) (fun c45 => ?_) (fun c45 => ?_)
          · refine lv_aload_n hx hb d_M_area_50 rfl (lv_at hl 0 rfl) ?_
            refine rw_get hx hb hts in_M hown hK.1 m0 rfl 10 (by decide) (hts _ fl_M_95) rfl d_M_area_51 ?_
            refine lv_bipush (v := 12) hx hb d_M_area_54 (by decide) ?_
            refine lv_icmp_ne (tgt := 61) hx hb d_M_area_56 (by decide) (fun c56 => ?_) (fun c56 => ?_)
            · have hlt : u.1.2.2.1 < 12 := Nat.lt_of_le_of_ne hxb.2.1 (fun h => c56 (by rw [h]; rfl))
              have e4 : (4 : Int32) * nI u.1.2.2.1 = nI (4 * u.1.2.2.1) := pk_mul 4 _
              refine lv_aload_n hx hb d_M_area_61 rfl (lv_at hl 0 rfl) ?_
              refine rw_get hx hb hts in_M hown hK.1 m0 rfl 11 (by decide) (hts _ fl_M_32) rfl d_M_area_62 ?_
              refine lv_iconst (v := 4) hx hb d_M_area_65 (by decide) ?_
              refine lv_aload_n hx hb d_M_area_66 rfl (lv_at hl 0 rfl) ?_
              refine rw_get hx hb hts in_M hown hK.1 m0 rfl 10 (by decide) (hts _ fl_M_95) rfl d_M_area_67 ?_
              refine lv_imul hx hb d_M_area_70 ?_
              refine lv_lload_n hx hb d_M_area_71 rfl (lv_at hl 1 rfl) ?_
              refine rw_last hx hb hK.1 1 m8 rfl (4 * u.1.2.2.1) (e4) (by omega) (by decide) (⟨by omega, by omega⟩) hL30 d_M_area_72 (fun H31 L32 z33 o34 hat35 hL36 => ?_)
              have m0 := pt_k m0 (o34 _ (by omega))
              have m1 := pt_k m1 (o34 _ (by omega))
              have m2 := pt_k m2 (o34 _ (by omega))
              have m3 := pt_k m3 (o34 _ (by omega))
              have m4 := pt_k m4 (o34 _ (by omega))
              have m5 := pt_k m5 (o34 _ (by omega))
              have m6 := pt_k m6 (o34 _ (by omega))
              have m7 := pt_k m7 (o34 _ (by omega))
              have m9 := pt_k m9 (o34 _ (by omega))
              have m10 := pt_k m10 (o34 _ (by omega))
              have m11 := pt_k m11 (o34 _ (by omega))
              have m12 := pt_k m12 (o34 _ (by omega))
              have m13 := pt_k m13 (o34 _ (by omega))
              have m14 := pt_k m14 (o34 _ (by omega))
              have m15 := pt_k m15 (o34 _ (by omega))
              have m8 := hat35
              have hB := Blk.trans hB ((Blk.one z33 o34).wide (lo' := d) (hi' := d + 16) (by omega) (by omega))
              refine lv_aload_n hx hb d_M_area_73 rfl (lv_at hl 0 rfl) ?_
              refine rw_get hx hb hts in_M hown hK.1 m0 rfl 11 (by decide) (hts _ fl_M_32) rfl d_M_area_74 ?_
              refine lv_iconst (v := 4) hx hb d_M_area_77 (by decide) ?_
              refine lv_aload_n hx hb d_M_area_78 rfl (lv_at hl 0 rfl) ?_
              refine rw_get hx hb hts in_M hown hK.1 m0 rfl 10 (by decide) (hts _ fl_M_95) rfl d_M_area_79 ?_
              refine lv_imul hx hb d_M_area_82 ?_
              refine lv_iconst (v := 1) hx hb d_M_area_83 (by decide) ?_
              refine lv_iadd hx hb d_M_area_84 ?_
              refine lv_lload_n hx hb d_M_area_85 rfl (lv_at hl 2 rfl) ?_
              refine rw_last hx hb hK.1 1 m8 rfl (4 * u.1.2.2.1 + 1) (by rw [e4]; exact nI_add _ 1) (by omega) (by decide) (⟨by omega, by omega⟩) hL36 d_M_area_86 (fun H37 L38 z39 o40 hat41 hL42 => ?_)
              have m0 := pt_k m0 (o40 _ (by omega))
              have m1 := pt_k m1 (o40 _ (by omega))
              have m2 := pt_k m2 (o40 _ (by omega))
              have m3 := pt_k m3 (o40 _ (by omega))
              have m4 := pt_k m4 (o40 _ (by omega))
              have m5 := pt_k m5 (o40 _ (by omega))
              have m6 := pt_k m6 (o40 _ (by omega))
              have m7 := pt_k m7 (o40 _ (by omega))
              have m9 := pt_k m9 (o40 _ (by omega))
              have m10 := pt_k m10 (o40 _ (by omega))
              have m11 := pt_k m11 (o40 _ (by omega))
              have m12 := pt_k m12 (o40 _ (by omega))
              have m13 := pt_k m13 (o40 _ (by omega))
              have m14 := pt_k m14 (o40 _ (by omega))
              have m15 := pt_k m15 (o40 _ (by omega))
              have m8 := hat41
              have hB := Blk.trans hB ((Blk.one z39 o40).wide (lo' := d) (hi' := d + 16) (by omega) (by omega))
              refine lv_aload_n hx hb d_M_area_87 rfl (lv_at hl 0 rfl) ?_
              refine rw_get hx hb hts in_M hown hK.1 m0 rfl 11 (by decide) (hts _ fl_M_32) rfl d_M_area_88 ?_
              refine lv_iconst (v := 4) hx hb d_M_area_91 (by decide) ?_
              refine lv_aload_n hx hb d_M_area_92 rfl (lv_at hl 0 rfl) ?_
              refine rw_get hx hb hts in_M hown hK.1 m0 rfl 10 (by decide) (hts _ fl_M_95) rfl d_M_area_93 ?_
              refine lv_imul hx hb d_M_area_96 ?_
              refine lv_iconst (v := 2) hx hb d_M_area_97 (by decide) ?_
              refine lv_iadd hx hb d_M_area_98 ?_
              refine lv_lload hx hb d_M_area_99 (lv_at hl 3 rfl) ?_
              refine rw_last hx hb hK.1 1 m8 rfl (4 * u.1.2.2.1 + 2) (by rw [e4]; exact nI_add _ 2) (by omega) (by decide) (⟨by omega, by omega⟩) hL42 d_M_area_101 (fun H43 L44 z45 o46 hat47 hL48 => ?_)
              have m0 := pt_k m0 (o46 _ (by omega))
              have m1 := pt_k m1 (o46 _ (by omega))
              have m2 := pt_k m2 (o46 _ (by omega))
              have m3 := pt_k m3 (o46 _ (by omega))
              have m4 := pt_k m4 (o46 _ (by omega))
              have m5 := pt_k m5 (o46 _ (by omega))
              have m6 := pt_k m6 (o46 _ (by omega))
              have m7 := pt_k m7 (o46 _ (by omega))
              have m9 := pt_k m9 (o46 _ (by omega))
              have m10 := pt_k m10 (o46 _ (by omega))
              have m11 := pt_k m11 (o46 _ (by omega))
              have m12 := pt_k m12 (o46 _ (by omega))
              have m13 := pt_k m13 (o46 _ (by omega))
              have m14 := pt_k m14 (o46 _ (by omega))
              have m15 := pt_k m15 (o46 _ (by omega))
              have m8 := hat47
              have hB := Blk.trans hB ((Blk.one z45 o46).wide (lo' := d) (hi' := d + 16) (by omega) (by omega))
              refine lv_aload_n hx hb d_M_area_102 rfl (lv_at hl 0 rfl) ?_
              refine rw_get hx hb hts in_M hown hK.1 m0 rfl 11 (by decide) (hts _ fl_M_32) rfl d_M_area_103 ?_
              refine lv_iconst (v := 4) hx hb d_M_area_106 (by decide) ?_
              refine lv_aload_n hx hb d_M_area_107 rfl (lv_at hl 0 rfl) ?_
              refine rw_get hx hb hts in_M hown hK.1 m0 rfl 10 (by decide) (hts _ fl_M_95) rfl d_M_area_108 ?_
              refine lv_imul hx hb d_M_area_111 ?_
              refine lv_iconst (v := 3) hx hb d_M_area_112 (by decide) ?_
              refine lv_iadd hx hb d_M_area_113 ?_
              refine lv_lload hx hb d_M_area_114 (lv_at hl 4 rfl) ?_
              refine rw_last hx hb hK.1 1 m8 rfl (4 * u.1.2.2.1 + 3) (by rw [e4]; exact nI_add _ 3) (by omega) (by decide) (⟨by omega, by omega⟩) hL48 d_M_area_116 (fun H49 L50 z51 o52 hat53 hL54 => ?_)
              have m0 := pt_k m0 (o52 _ (by omega))
              have m1 := pt_k m1 (o52 _ (by omega))
              have m2 := pt_k m2 (o52 _ (by omega))
              have m3 := pt_k m3 (o52 _ (by omega))
              have m4 := pt_k m4 (o52 _ (by omega))
              have m5 := pt_k m5 (o52 _ (by omega))
              have m6 := pt_k m6 (o52 _ (by omega))
              have m7 := pt_k m7 (o52 _ (by omega))
              have m9 := pt_k m9 (o52 _ (by omega))
              have m10 := pt_k m10 (o52 _ (by omega))
              have m11 := pt_k m11 (o52 _ (by omega))
              have m12 := pt_k m12 (o52 _ (by omega))
              have m13 := pt_k m13 (o52 _ (by omega))
              have m14 := pt_k m14 (o52 _ (by omega))
              have m15 := pt_k m15 (o52 _ (by omega))
              have m8 := hat53
              have hB := Blk.trans hB ((Blk.one z51 o52).wide (lo' := d) (hi' := d + 16) (by omega) (by omega))
              refine lv_aload_n hx hb d_M_area_117 rfl (lv_at hl 0 rfl) ?_
              refine lv_dup hx hb d_M_area_118 rfl ?_
              refine rw_get hx hb hts in_M hown hK.1 m0 rfl 10 (by decide) (hts _ fl_M_95) rfl d_M_area_119 ?_
              refine lv_iconst (v := 1) hx hb d_M_area_122 (by decide) ?_
              refine lv_iadd hx hb d_M_area_123 ?_
              refine rw_put hx hb hts in_M ck_M ok_M nm_M hown hK.1 m0 rfl 10 (by decide) (hts _ fl_M_95) rfl (ok_M 10 (by decide)) rfl rfl (Nat.le_of_ble_eq_true rfl) (⟨Nat.le_refl _, by omega⟩) hL54 d_M_area_124 (fun H55 L56 z57 o58 hat59 hL60 => ?_)
              have m0 := hat59
              have m1 := pt_k m1 (o58 _ (by omega))
              have m2 := pt_k m2 (o58 _ (by omega))
              have m3 := pt_k m3 (o58 _ (by omega))
              have m4 := pt_k m4 (o58 _ (by omega))
              have m5 := pt_k m5 (o58 _ (by omega))
              have m6 := pt_k m6 (o58 _ (by omega))
              have m7 := pt_k m7 (o58 _ (by omega))
              have m8 := pt_k m8 (o58 _ (by omega))
              have m9 := pt_k m9 (o58 _ (by omega))
              have m10 := pt_k m10 (o58 _ (by omega))
              have m11 := pt_k m11 (o58 _ (by omega))
              have m12 := pt_k m12 (o58 _ (by omega))
              have m13 := pt_k m13 (o58 _ (by omega))
              have m14 := pt_k m14 (o58 _ (by omega))
              have m15 := pt_k m15 (o58 _ (by omega))
              have hB := Blk.trans hB ((Blk.one z57 o58).wide (lo' := d) (hi' := d + 16) (by omega) (by omega))
              refine lv_aload_n hx hb d_M_area_127 rfl (lv_at hl 0 rfl) ?_
              refine rw_get hx hb hts in_M hown hK.1 m0 rfl 10 (by decide) (hts _ fl_M_95) rfl d_M_area_128 ?_
              refine lv_iconst (v := 1) hx hb d_M_area_131 (by decide) ?_
              refine lv_isub hx hb d_M_area_132 ?_
              exact re_i hQ hx hb hr hlk (rfl) (⟨Or.inl ⟨hok, by rw [if_pos hlt, i_a1], by unfold areU; rw [if_pos hlt]; exact ⟨mO_a (u := u) (n := u.1.2.2.1) m0, m1, m2, m3, m4, m5, m6, m7, pt_l (cor_u u.2.2.1 u.1.2.2.1 x0 y0 x1 y1) m8, m9, m10, m11, m12, m13, m14, m15, ⟨hxb.1, hlt, hxb.2.2.1, fun i a h1 h2 => Nat.lt_succ_of_lt (hxb.2.2.2.1 i a h1 h2), hxb.2.2.2.2⟩, hv7⟩⟩, hB⟩) hL60 (Nat.le_of_ble_eq_true rfl) (Nat.le_of_ble_eq_true rfl) d_M_area_133
            · refine lv_iconst (v := (-1)) hx hb d_M_area_59 (by decide) ?_
              have hge : ¬ u.1.2.2.1 < 12 := fun h => absurd ((nI_eq (a := u.1.2.2.1) (b := 12) (by omega) (by decide)).mp c56) (by omega)
              exact re_i hQ hx hb hr hlk (rfl) (⟨Or.inl ⟨hok, by rw [if_neg hge], by unfold areU; rw [if_neg hge]; exact hm⟩, hB⟩) hL30 (Nat.le_of_ble_eq_true rfl) (Nat.le_of_ble_eq_true rfl) d_M_area_60
          · exact absurd c45 (by decide)
def rm_M_thing : Room := { frames := 1, cells := 0, slots := 0, locals := 23 }
set_option maxRecDepth 100000 in
set_option maxHeartbeats 4000000 in
theorem c_M_thing {l : Launch} {ev : EV} {H0 : Heap} {d : Nat} {th : Int32} {u : XS} {kp : KT} {v : PT} (hm : MW ev d th u kp v H0) (ca la : Int32) (x y : Int64) : Met l my_M_thing mw_M_thing rm_M_thing (cP [.ref d, .int ca, .int la, .long x, .long y] (KG ev) H0) (cQe (fun r H1 => (((okC u.1.1 ca ∧ okL la) ∧ okP x y) ∧ r = .int (if u.1.2.2.2.1 < 40 then nI u.1.2.2.2.1 else -1) ∧ MW ev d 0 (thiU u (ca, la, x, y)) kp v H1 ∨ (¬ (okC u.1.1 ca ∧ okL la)) ∧ r = .int 0 ∧ MW ev d 1 u kp v H1 ∨ ((okC u.1.1 ca ∧ okL la) ∧ ¬ okP x y) ∧ r = .int 0 ∧ MW ev d 2 u kp v H1) ∧ Blk d (d + 16) H0 H1)) 0 0 (inBk d (d + 16)) := by
  refine cHead [.ref d, .int ca, .int la, .long x, .long y] (by decide) rfl (Nat.le_of_ble_eq_true rfl) ?_
  intro p e s m below meth c ls args QQ hQ S hr hlk hnm hs hK hl
  have S : CallFix p m c mb_M_thing 7 s args TB "RuleChoiceModel" := S
  obtain ⟨hx, hb, hml, hown, hts⟩ := id S
  obtain ⟨m0, m1, m2, m3, m4, m5, m6, m7, m8, m9, m10, m11, m12, m13, m14, m15, hxb, hv7⟩ := id hm
  have hr40 : u.1.2.1 ≤ 40 := hxb.1
  have ha12 : u.1.2.2.1 ≤ 12 := hxb.2.1
  have ht40 : u.1.2.2.2.1 ≤ 40 := hxb.2.2.1
  have hl : lv_has ls 7 [(0, .ref d), (1, .int ca), (2, .int la), (3, .long x), (5, .long y)] := hl
  refine lv_aload_n hx hb d_M_thing_0 rfl (lv_at hl 0 rfl) ?_
  refine lv_aload_n hx hb d_M_thing_1 rfl (lv_at hl 0 rfl) ?_
  refine lv_iload_n hx hb d_M_thing_2 rfl (lv_at hl 1 rfl) ?_
  refine cl_i (W.runV (As := [.int ca]) (rest := [.ref d]) S (c_M_isClass m0 ca) (cwV 1 hts gv_M_78 rfl rfl rfl (by decide +kernel) ⟨Nat.le_of_ble_eq_true rfl, Nat.le_of_ble_eq_true rfl⟩) (cP_V (KG_ok _) hK hK.1 m0 rfl) rfl rfl hl.1 rfl (lv_room (Nat.le_of_ble_eq_true rfl)) d_M_thing_3 ⟨Nat.le_of_ble_eq_true rfl, Nat.le_of_ble_eq_true rfl⟩) ?_
  refine lv_if_eq (tgt := 16) hx hb d_M_thing_6 (by decide) (fun c6 => ?_) (fun c6 => ?_)
  · refine lv_iconst (v := 1) hx hb d_M_thing_16 (by decide) ?_
    refine lv_goto (tgt := 34) hx hb d_M_thing_17 (by decide) ?_
    refine rw_put hx hb hts in_M ck_M ok_M nm_M hown hK.1 m0 rfl 0 (by decide) (hts _ fl_M_61) rfl (ok_M 0 (by decide)) rfl rfl (Nat.le_of_ble_eq_true rfl) (⟨Nat.le_refl _, by omega⟩) (A := inBk d (d + 16)) cNil d_M_thing_34 (fun H1 L2 z3 o4 hat5 hL6 => ?_)
    have hm := MW_th (th' := 1) hm hat5 o4
    obtain ⟨m0, m1, m2, m3, m4, m5, m6, m7, m8, m9, m10, m11, m12, m13, m14, m15, hxb, hv7⟩ := id hm
    have hB := (Blk.one z3 o4).wide (lo' := d) (hi' := d + 16) (by omega) (by omega)
    have hbad : ¬ (okC u.1.1 ca ∧ okL la) := by (try simp only [Classical.not_not, bI_eq, bI_ne, ask_t, ask_f, kB_t, kB_f, cB_t, cB_f, lB_t, lB_f, iB_t, iB_f, pB_t, pB_f] at c6); simp [c6]
    refine lv_aload_n hx hb d_M_thing_37 rfl (lv_at hl 0 rfl) ?_
    refine rw_get hx hb hts in_M hown hK.1 m0 rfl 0 (by decide) (hts _ fl_M_61) rfl d_M_thing_38 ?_
    refine lv_if_eq (tgt := 46) hx hb d_M_thing_41 (by decide) (fun c41 => ?_) (fun c41 => ?_)
    · exact absurd c41 (by decide)
    · refine lv_iconst (v := 0) hx hb d_M_thing_44 (by decide) ?_
      exact re_i hQ hx hb hr hlk (rfl) (⟨Or.inr (Or.inl ⟨hbad, rfl, hm⟩), hB⟩) hL6 (Nat.le_of_ble_eq_true rfl) (Nat.le_of_ble_eq_true rfl) d_M_thing_45
  · refine lv_iload_n hx hb d_M_thing_9 rfl (lv_at hl 2 rfl) ?_
    refine cl_i (W.runS (As := [.int la]) (rest := [.ref d]) S (c_M_isLayer la) (va_cwS 1 hts gs_M_81 rfl rfl rfl (by decide +kernel) ⟨Nat.le_of_ble_eq_true rfl, Nat.le_of_ble_eq_true rfl⟩) (cP_S (KG_ok _) hK) rfl rfl hl.1 rfl (lv_room (Nat.le_of_ble_eq_true rfl)) d_M_thing_10 ⟨Nat.le_of_ble_eq_true rfl, Nat.le_of_ble_eq_true rfl⟩) ?_
    refine lv_if_ne (tgt := 20) hx hb d_M_thing_13 (by decide) (fun c13 => ?_) (fun c13 => ?_)
    · refine lv_lload_n hx hb d_M_thing_20 rfl (lv_at hl 3 rfl) ?_
      refine lv_lload hx hb d_M_thing_21 (lv_at hl 4 rfl) ?_
      refine cl_i (W.runS (As := [.long x, .long y]) (rest := [.ref d]) S (c_M_isPlace x y) (va_cwS 2 hts gs_M_91 rfl rfl rfl (by decide +kernel) ⟨Nat.le_of_ble_eq_true rfl, Nat.le_of_ble_eq_true rfl⟩) (cP_S (KG_ok _) hK) rfl rfl hl.1 rfl (lv_room (Nat.le_of_ble_eq_true rfl)) d_M_thing_23 ⟨Nat.le_of_ble_eq_true rfl, Nat.le_of_ble_eq_true rfl⟩) ?_
      refine lv_if_eq (tgt := 33) hx hb d_M_thing_26 (by decide) (fun c26 => ?_) (fun c26 => ?_)
      · refine lv_iconst (v := 2) hx hb d_M_thing_33 (by decide) ?_
        refine rw_put hx hb hts in_M ck_M ok_M nm_M hown hK.1 m0 rfl 0 (by decide) (hts _ fl_M_61) rfl (ok_M 0 (by decide)) rfl rfl (Nat.le_of_ble_eq_true rfl) (⟨Nat.le_refl _, by omega⟩) (A := inBk d (d + 16)) cNil d_M_thing_34 (fun H7 L8 z9 o10 hat11 hL12 => ?_)
        have hm := MW_th (th' := 2) hm hat11 o10
        obtain ⟨m0, m1, m2, m3, m4, m5, m6, m7, m8, m9, m10, m11, m12, m13, m14, m15, hxb, hv7⟩ := id hm
        have hB := (Blk.one z9 o10).wide (lo' := d) (hi' := d + 16) (by omega) (by omega)
        have hbad : (okC u.1.1 ca ∧ okL la) ∧ ¬ okP x y := by (try simp only [Classical.not_not, bI_eq, bI_ne, ask_t, ask_f, kB_t, kB_f, cB_t, cB_f, lB_t, lB_f, iB_t, iB_f, pB_t, pB_f] at c6 c13 c26); simp [c6, c13, c26]
        refine lv_aload_n hx hb d_M_thing_37 rfl (lv_at hl 0 rfl) ?_
        refine rw_get hx hb hts in_M hown hK.1 m0 rfl 0 (by decide) (hts _ fl_M_61) rfl d_M_thing_38 ?_
        refine lv_if_eq (tgt := 46) hx hb d_M_thing_41 (by decide) (fun c41 => ?_) (fun c41 => ?_)
        · exact absurd c41 (by decide)
        · refine lv_iconst (v := 0) hx hb d_M_thing_44 (by decide) ?_
          exact re_i hQ hx hb hr hlk (rfl) (⟨Or.inr (Or.inr ⟨hbad, rfl, hm⟩), hB⟩) hL12 (Nat.le_of_ble_eq_true rfl) (Nat.le_of_ble_eq_true rfl) d_M_thing_45
      · refine lv_iconst (v := 0) hx hb d_M_thing_29 (by decide) ?_
        refine lv_goto (tgt := 34) hx hb d_M_thing_30 (by decide) ?_
        refine rw_put hx hb hts in_M ck_M ok_M nm_M hown hK.1 m0 rfl 0 (by decide) (hts _ fl_M_61) rfl (ok_M 0 (by decide)) rfl rfl (Nat.le_of_ble_eq_true rfl) (⟨Nat.le_refl _, by omega⟩) (A := inBk d (d + 16)) cNil d_M_thing_34 (fun H13 L14 z15 o16 hat17 hL18 => ?_)
        have hm := MW_th (th' := 0) hm hat17 o16
        obtain ⟨m0, m1, m2, m3, m4, m5, m6, m7, m8, m9, m10, m11, m12, m13, m14, m15, hxb, hv7⟩ := id hm
        have hB := (Blk.one z15 o16).wide (lo' := d) (hi' := d + 16) (by omega) (by omega)
        have hok : (okC u.1.1 ca ∧ okL la) ∧ okP x y := by (try simp only [Classical.not_not, bI_eq, bI_ne, ask_t, ask_f, kB_t, kB_f, cB_t, cB_f, lB_t, lB_f, iB_t, iB_f, pB_t, pB_f] at c6 c13 c26); simp [c6, c13, c26]
        refine lv_aload_n hx hb d_M_thing_37 rfl (lv_at hl 0 rfl) ?_
        refine rw_get hx hb hts in_M hown hK.1 m0 rfl 0 (by decide) (hts _ fl_M_61) rfl d_M_thing_38 ?_
        refine lv_if_eq (tgt := 46) hx hb d_M_thing_41 (by decide) (fun c41 => ?_) (fun c41 => ?_)
        · refine lv_aload_n hx hb d_M_thing_46 rfl (lv_at hl 0 rfl) ?_
          refine rw_get hx hb hts in_M hown hK.1 m0 rfl 12 (by decide) (hts _ fl_M_64) rfl d_M_thing_47 ?_
          refine lv_bipush (v := 40) hx hb d_M_thing_50 (by decide) ?_
          refine lv_icmp_ne (tgt := 57) hx hb d_M_thing_52 (by decide) (fun c52 => ?_) (fun c52 => ?_)
          · have hlt : u.1.2.2.2.1 < 40 := Nat.lt_of_le_of_ne hxb.2.2.1 (fun h => c52 (by rw [h]; rfl))
            refine lv_aload_n hx hb d_M_thing_57 rfl (lv_at hl 0 rfl) ?_
            refine rw_get hx hb hts in_M hown hK.1 m0 rfl 13 (by decide) (hts _ fl_M_35) rfl d_M_thing_58 ?_
            refine lv_aload_n hx hb d_M_thing_61 rfl (lv_at hl 0 rfl) ?_
            refine rw_get hx hb hts in_M hown hK.1 m0 rfl 12 (by decide) (hts _ fl_M_64) rfl d_M_thing_62 ?_
            refine lv_iload_n hx hb d_M_thing_65 rfl (lv_at hl 1 rfl) ?_
            refine rw_iast hx hb hK.1 0 m9 rfl u.1.2.2.2.1 (rfl) (hlt) (by decide) (⟨by omega, by omega⟩) hL18 d_M_thing_66 (fun H19 L20 z21 o22 hat23 hL24 => ?_)
            have m0 := pt_k m0 (o22 _ (by omega))
            have m1 := pt_k m1 (o22 _ (by omega))
            have m2 := pt_k m2 (o22 _ (by omega))
            have m3 := pt_k m3 (o22 _ (by omega))
            have m4 := pt_k m4 (o22 _ (by omega))
            have m5 := pt_k m5 (o22 _ (by omega))
            have m6 := pt_k m6 (o22 _ (by omega))
            have m7 := pt_k m7 (o22 _ (by omega))
            have m8 := pt_k m8 (o22 _ (by omega))
            have m10 := pt_k m10 (o22 _ (by omega))
            have m11 := pt_k m11 (o22 _ (by omega))
            have m12 := pt_k m12 (o22 _ (by omega))
            have m13 := pt_k m13 (o22 _ (by omega))
            have m14 := pt_k m14 (o22 _ (by omega))
            have m15 := pt_k m15 (o22 _ (by omega))
            have m9 := hat23
            have hB := Blk.trans hB ((Blk.one z21 o22).wide (lo' := d) (hi' := d + 16) (by omega) (by omega))
            refine lv_aload_n hx hb d_M_thing_67 rfl (lv_at hl 0 rfl) ?_
            refine rw_get hx hb hts in_M hown hK.1 m0 rfl 14 (by decide) (hts _ fl_M_38) rfl d_M_thing_68 ?_
            refine lv_aload_n hx hb d_M_thing_71 rfl (lv_at hl 0 rfl) ?_
            refine rw_get hx hb hts in_M hown hK.1 m0 rfl 12 (by decide) (hts _ fl_M_64) rfl d_M_thing_72 ?_
            refine lv_iload_n hx hb d_M_thing_75 rfl (lv_at hl 2 rfl) ?_
            refine rw_iast hx hb hK.1 0 m10 rfl u.1.2.2.2.1 (rfl) (hlt) (by decide) (⟨by omega, by omega⟩) hL24 d_M_thing_76 (fun H25 L26 z27 o28 hat29 hL30 => ?_)
            have m0 := pt_k m0 (o28 _ (by omega))
            have m1 := pt_k m1 (o28 _ (by omega))
            have m2 := pt_k m2 (o28 _ (by omega))
            have m3 := pt_k m3 (o28 _ (by omega))
            have m4 := pt_k m4 (o28 _ (by omega))
            have m5 := pt_k m5 (o28 _ (by omega))
            have m6 := pt_k m6 (o28 _ (by omega))
            have m7 := pt_k m7 (o28 _ (by omega))
            have m8 := pt_k m8 (o28 _ (by omega))
            have m9 := pt_k m9 (o28 _ (by omega))
            have m11 := pt_k m11 (o28 _ (by omega))
            have m12 := pt_k m12 (o28 _ (by omega))
            have m13 := pt_k m13 (o28 _ (by omega))
            have m14 := pt_k m14 (o28 _ (by omega))
            have m15 := pt_k m15 (o28 _ (by omega))
            have m10 := hat29
            have hB := Blk.trans hB ((Blk.one z27 o28).wide (lo' := d) (hi' := d + 16) (by omega) (by omega))
            refine lv_aload_n hx hb d_M_thing_77 rfl (lv_at hl 0 rfl) ?_
            refine rw_get hx hb hts in_M hown hK.1 m0 rfl 15 (by decide) (hts _ fl_M_41) rfl d_M_thing_78 ?_
            refine lv_aload_n hx hb d_M_thing_81 rfl (lv_at hl 0 rfl) ?_
            refine rw_get hx hb hts in_M hown hK.1 m0 rfl 12 (by decide) (hts _ fl_M_64) rfl d_M_thing_82 ?_
            refine lv_lload_n hx hb d_M_thing_85 rfl (lv_at hl 3 rfl) ?_
            refine rw_last hx hb hK.1 1 m11 rfl u.1.2.2.2.1 (rfl) (hlt) (by decide) (⟨by omega, by omega⟩) hL30 d_M_thing_86 (fun H31 L32 z33 o34 hat35 hL36 => ?_)
            have m0 := pt_k m0 (o34 _ (by omega))
            have m1 := pt_k m1 (o34 _ (by omega))
            have m2 := pt_k m2 (o34 _ (by omega))
            have m3 := pt_k m3 (o34 _ (by omega))
            have m4 := pt_k m4 (o34 _ (by omega))
            have m5 := pt_k m5 (o34 _ (by omega))
            have m6 := pt_k m6 (o34 _ (by omega))
            have m7 := pt_k m7 (o34 _ (by omega))
            have m8 := pt_k m8 (o34 _ (by omega))
            have m9 := pt_k m9 (o34 _ (by omega))
            have m10 := pt_k m10 (o34 _ (by omega))
            have m12 := pt_k m12 (o34 _ (by omega))
            have m13 := pt_k m13 (o34 _ (by omega))
            have m14 := pt_k m14 (o34 _ (by omega))
            have m15 := pt_k m15 (o34 _ (by omega))
            have m11 := hat35
            have hB := Blk.trans hB ((Blk.one z33 o34).wide (lo' := d) (hi' := d + 16) (by omega) (by omega))
            refine lv_aload_n hx hb d_M_thing_87 rfl (lv_at hl 0 rfl) ?_
            refine rw_get hx hb hts in_M hown hK.1 m0 rfl 16 (by decide) (hts _ fl_M_44) rfl d_M_thing_88 ?_
            refine lv_aload_n hx hb d_M_thing_91 rfl (lv_at hl 0 rfl) ?_
            refine rw_get hx hb hts in_M hown hK.1 m0 rfl 12 (by decide) (hts _ fl_M_64) rfl d_M_thing_92 ?_
            refine lv_lload hx hb d_M_thing_95 (lv_at hl 4 rfl) ?_
            refine rw_last hx hb hK.1 1 m12 rfl u.1.2.2.2.1 (rfl) (hlt) (by decide) (⟨by omega, by omega⟩) hL36 d_M_thing_97 (fun H37 L38 z39 o40 hat41 hL42 => ?_)
            have m0 := pt_k m0 (o40 _ (by omega))
            have m1 := pt_k m1 (o40 _ (by omega))
            have m2 := pt_k m2 (o40 _ (by omega))
            have m3 := pt_k m3 (o40 _ (by omega))
            have m4 := pt_k m4 (o40 _ (by omega))
            have m5 := pt_k m5 (o40 _ (by omega))
            have m6 := pt_k m6 (o40 _ (by omega))
            have m7 := pt_k m7 (o40 _ (by omega))
            have m8 := pt_k m8 (o40 _ (by omega))
            have m9 := pt_k m9 (o40 _ (by omega))
            have m10 := pt_k m10 (o40 _ (by omega))
            have m11 := pt_k m11 (o40 _ (by omega))
            have m13 := pt_k m13 (o40 _ (by omega))
            have m14 := pt_k m14 (o40 _ (by omega))
            have m15 := pt_k m15 (o40 _ (by omega))
            have m12 := hat41
            have hB := Blk.trans hB ((Blk.one z39 o40).wide (lo' := d) (hi' := d + 16) (by omega) (by omega))
            refine lv_aload_n hx hb d_M_thing_98 rfl (lv_at hl 0 rfl) ?_
            refine lv_dup hx hb d_M_thing_99 rfl ?_
            refine rw_get hx hb hts in_M hown hK.1 m0 rfl 12 (by decide) (hts _ fl_M_64) rfl d_M_thing_100 ?_
            refine lv_iconst (v := 1) hx hb d_M_thing_103 (by decide) ?_
            refine lv_iadd hx hb d_M_thing_104 ?_
            refine rw_put hx hb hts in_M ck_M ok_M nm_M hown hK.1 m0 rfl 12 (by decide) (hts _ fl_M_64) rfl (ok_M 12 (by decide)) rfl rfl (Nat.le_of_ble_eq_true rfl) (⟨Nat.le_refl _, by omega⟩) hL42 d_M_thing_105 (fun H43 L44 z45 o46 hat47 hL48 => ?_)
            have m0 := hat47
            have m1 := pt_k m1 (o46 _ (by omega))
            have m2 := pt_k m2 (o46 _ (by omega))
            have m3 := pt_k m3 (o46 _ (by omega))
            have m4 := pt_k m4 (o46 _ (by omega))
            have m5 := pt_k m5 (o46 _ (by omega))
            have m6 := pt_k m6 (o46 _ (by omega))
            have m7 := pt_k m7 (o46 _ (by omega))
            have m8 := pt_k m8 (o46 _ (by omega))
            have m9 := pt_k m9 (o46 _ (by omega))
            have m10 := pt_k m10 (o46 _ (by omega))
            have m11 := pt_k m11 (o46 _ (by omega))
            have m12 := pt_k m12 (o46 _ (by omega))
            have m13 := pt_k m13 (o46 _ (by omega))
            have m14 := pt_k m14 (o46 _ (by omega))
            have m15 := pt_k m15 (o46 _ (by omega))
            have hB := Blk.trans hB ((Blk.one z45 o46).wide (lo' := d) (hi' := d + 16) (by omega) (by omega))
            refine lv_aload_n hx hb d_M_thing_108 rfl (lv_at hl 0 rfl) ?_
            refine rw_get hx hb hts in_M hown hK.1 m0 rfl 12 (by decide) (hts _ fl_M_64) rfl d_M_thing_109 ?_
            refine lv_iconst (v := 1) hx hb d_M_thing_112 (by decide) ?_
            refine lv_isub hx hb d_M_thing_113 ?_
            exact re_i hQ hx hb hr hlk (rfl) (⟨Or.inl ⟨hok, by rw [if_pos hlt, i_a1], by unfold thiU; rw [if_pos hlt]; exact ⟨mO_t (u := u) (n := u.1.2.2.2.1) m0, m1, m2, m3, m4, m5, m6, m7, m8, pt_i (up_i (fun r : Tt => r.1) u.2.2.2 u.1.2.2.2.1 (ca, la, x, y) rfl) m9, pt_i (up_i (fun r : Tt => r.2.1) u.2.2.2 u.1.2.2.2.1 (ca, la, x, y) rfl) m10, pt_l (up_l (fun r : Tt => r.2.2.1) u.2.2.2 u.1.2.2.2.1 (ca, la, x, y) rfl) m11, pt_l (up_l (fun r : Tt => r.2.2.2) u.2.2.2 u.1.2.2.2.1 (ca, la, x, y) rfl) m12, m13, m14, m15, ⟨hxb.1, hxb.2.1, hlt, hxb.2.2.2⟩, hv7⟩⟩, hB⟩) hL48 (Nat.le_of_ble_eq_true rfl) (Nat.le_of_ble_eq_true rfl) d_M_thing_114
          · refine lv_iconst (v := (-1)) hx hb d_M_thing_55 (by decide) ?_
            have hge : ¬ u.1.2.2.2.1 < 40 := fun h => absurd ((nI_eq (a := u.1.2.2.2.1) (b := 40) (by omega) (by decide)).mp c52) (by omega)
            exact re_i hQ hx hb hr hlk (rfl) (⟨Or.inl ⟨hok, by rw [if_neg hge], by unfold thiU; rw [if_neg hge]; exact hm⟩, hB⟩) hL18 (Nat.le_of_ble_eq_true rfl) (Nat.le_of_ble_eq_true rfl) d_M_thing_56
        · exact absurd c41 (by decide)
    · refine lv_iconst (v := 1) hx hb d_M_thing_16 (by decide) ?_
      refine lv_goto (tgt := 34) hx hb d_M_thing_17 (by decide) ?_
      refine rw_put hx hb hts in_M ck_M ok_M nm_M hown hK.1 m0 rfl 0 (by decide) (hts _ fl_M_61) rfl (ok_M 0 (by decide)) rfl rfl (Nat.le_of_ble_eq_true rfl) (⟨Nat.le_refl _, by omega⟩) (A := inBk d (d + 16)) cNil d_M_thing_34 (fun H49 L50 z51 o52 hat53 hL54 => ?_)
      have hm := MW_th (th' := 1) hm hat53 o52
      obtain ⟨m0, m1, m2, m3, m4, m5, m6, m7, m8, m9, m10, m11, m12, m13, m14, m15, hxb, hv7⟩ := id hm
      have hB := (Blk.one z51 o52).wide (lo' := d) (hi' := d + 16) (by omega) (by omega)
      have hbad : ¬ (okC u.1.1 ca ∧ okL la) := by (try simp only [Classical.not_not, bI_eq, bI_ne, ask_t, ask_f, kB_t, kB_f, cB_t, cB_f, lB_t, lB_f, iB_t, iB_f, pB_t, pB_f] at c6 c13); simp [c6, c13]
      refine lv_aload_n hx hb d_M_thing_37 rfl (lv_at hl 0 rfl) ?_
      refine rw_get hx hb hts in_M hown hK.1 m0 rfl 0 (by decide) (hts _ fl_M_61) rfl d_M_thing_38 ?_
      refine lv_if_eq (tgt := 46) hx hb d_M_thing_41 (by decide) (fun c41 => ?_) (fun c41 => ?_)
      · exact absurd c41 (by decide)
      · refine lv_iconst (v := 0) hx hb d_M_thing_44 (by decide) ?_
        exact re_i hQ hx hb hr hlk (rfl) (⟨Or.inr (Or.inl ⟨hbad, rfl, hm⟩), hB⟩) hL54 (Nat.le_of_ble_eq_true rfl) (Nat.le_of_ble_eq_true rfl) d_M_thing_45
def rm_M_make : Room := { frames := 1, cells := 0, slots := 0, locals := 22 }
set_option maxRecDepth 100000 in
set_option maxHeartbeats 4000000 in
theorem c_M_make {l : Launch} {ev : EV} {H0 : Heap} {d : Nat} {th : Int32} {u : XS} {kp : KT} {v : PT} (hm : MW ev d th u kp v H0) (t ca la : Int32) : Met l my_M_make mw_M_make rm_M_make (cP [.ref d, .int t, .int ca, .int la] (KG ev) H0) (cQe (fun r H1 => ((okI u.1.2.2.2.1 t ∧ okC u.1.1 ca ∧ okL la) ∧ r = .int (bI (!decide ((u.2.2.2 (nn t)).1 = ca ∧ (u.2.2.2 (nn t)).2.1 = la))) ∧ MW ev d 0 (if (u.2.2.2 (nn t)).1 = ca ∧ (u.2.2.2 (nn t)).2.1 = la then u else thgU u (nn t) (ca, la, (u.2.2.2 (nn t)).2.2)) (if (u.2.2.2 (nn t)).1 = ca ∧ (u.2.2.2 (nn t)).2.1 = la then kp else kpD kp (nn t)) v H1 ∨ (¬ (okI u.1.2.2.2.1 t ∧ okC u.1.1 ca ∧ okL la)) ∧ r = .int 0 ∧ MW ev d 1 u kp v H1) ∧ Blk d (d + 16) H0 H1)) 0 0 (inBk d (d + 16)) := by
  refine cHead [.ref d, .int t, .int ca, .int la] (by decide) rfl (Nat.le_of_ble_eq_true rfl) ?_
  intro p e s m below meth c ls args QQ hQ S hr hlk hnm hs hK hl
  have S : CallFix p m c mb_M_make 4 s args TB "RuleChoiceModel" := S
  obtain ⟨hx, hb, hml, hown, hts⟩ := id S
  obtain ⟨m0, m1, m2, m3, m4, m5, m6, m7, m8, m9, m10, m11, m12, m13, m14, m15, hxb, hv7⟩ := id hm
  have hr40 : u.1.2.1 ≤ 40 := hxb.1
  have ha12 : u.1.2.2.1 ≤ 12 := hxb.2.1
  have ht40 : u.1.2.2.2.1 ≤ 40 := hxb.2.2.1
  have hl : lv_has ls 4 [(0, .ref d), (1, .int t), (2, .int ca), (3, .int la)] := hl
  refine lv_aload_n hx hb d_M_make_0 rfl (lv_at hl 0 rfl) ?_
  refine lv_aload_n hx hb d_M_make_1 rfl (lv_at hl 0 rfl) ?_
  refine lv_iload_n hx hb d_M_make_2 rfl (lv_at hl 1 rfl) ?_
  refine cl_i (W.runV (As := [.int t]) (rest := [.ref d]) S (c_M_isThing m0 t) (cwV 1 hts gv_M_98 rfl rfl rfl (by decide +kernel) ⟨Nat.le_of_ble_eq_true rfl, Nat.le_of_ble_eq_true rfl⟩) (cP_V (KG_ok _) hK hK.1 m0 rfl) rfl rfl hl.1 rfl (lv_room (Nat.le_of_ble_eq_true rfl)) d_M_make_3 ⟨Nat.le_of_ble_eq_true rfl, Nat.le_of_ble_eq_true rfl⟩) ?_
  refine lv_if_eq (tgt := 28) hx hb d_M_make_6 (by decide) (fun c6 => ?_) (fun c6 => ?_)
  · refine lv_iconst (v := 1) hx hb d_M_make_28 (by decide) ?_
    refine rw_put hx hb hts in_M ck_M ok_M nm_M hown hK.1 m0 rfl 0 (by decide) (hts _ fl_M_61) rfl (ok_M 0 (by decide)) rfl rfl (Nat.le_of_ble_eq_true rfl) (⟨Nat.le_refl _, by omega⟩) (A := inBk d (d + 16)) cNil d_M_make_29 (fun H1 L2 z3 o4 hat5 hL6 => ?_)
    have hm := MW_th (th' := 1) hm hat5 o4
    obtain ⟨m0, m1, m2, m3, m4, m5, m6, m7, m8, m9, m10, m11, m12, m13, m14, m15, hxb, hv7⟩ := id hm
    have hB := (Blk.one z3 o4).wide (lo' := d) (hi' := d + 16) (by omega) (by omega)
    have hbad : ¬ (okI u.1.2.2.2.1 t ∧ okC u.1.1 ca ∧ okL la) := by (try simp only [Classical.not_not, bI_eq, bI_ne, ask_t, ask_f, kB_t, kB_f, cB_t, cB_f, lB_t, lB_f, iB_t, iB_f, pB_t, pB_f] at c6); simp [c6]
    refine lv_aload_n hx hb d_M_make_32 rfl (lv_at hl 0 rfl) ?_
    refine rw_get hx hb hts in_M hown hK.1 m0 rfl 0 (by decide) (hts _ fl_M_61) rfl d_M_make_33 ?_
    refine lv_if_ne (tgt := 59) hx hb d_M_make_36 (by decide) (fun c36 => ?_) (fun c36 => ?_)
    · refine lv_iconst (v := 0) hx hb d_M_make_59 (by decide) ?_
      exact re_i hQ hx hb hr hlk (rfl) (⟨Or.inr ⟨hbad, rfl, hm⟩, hB⟩) hL6 (Nat.le_of_ble_eq_true rfl) (Nat.le_of_ble_eq_true rfl) d_M_make_60
    · exact absurd c36 (by decide)
  · refine lv_aload_n hx hb d_M_make_9 rfl (lv_at hl 0 rfl) ?_
    refine lv_iload_n hx hb d_M_make_10 rfl (lv_at hl 2 rfl) ?_
    refine cl_i (W.runV (As := [.int ca]) (rest := [.ref d]) S (c_M_isClass m0 ca) (cwV 1 hts gv_M_78 rfl rfl rfl (by decide +kernel) ⟨Nat.le_of_ble_eq_true rfl, Nat.le_of_ble_eq_true rfl⟩) (cP_V (KG_ok _) hK hK.1 m0 rfl) rfl rfl hl.1 rfl (lv_room (Nat.le_of_ble_eq_true rfl)) d_M_make_11 ⟨Nat.le_of_ble_eq_true rfl, Nat.le_of_ble_eq_true rfl⟩) ?_
    refine lv_if_eq (tgt := 28) hx hb d_M_make_14 (by decide) (fun c14 => ?_) (fun c14 => ?_)
    · refine lv_iconst (v := 1) hx hb d_M_make_28 (by decide) ?_
      refine rw_put hx hb hts in_M ck_M ok_M nm_M hown hK.1 m0 rfl 0 (by decide) (hts _ fl_M_61) rfl (ok_M 0 (by decide)) rfl rfl (Nat.le_of_ble_eq_true rfl) (⟨Nat.le_refl _, by omega⟩) (A := inBk d (d + 16)) cNil d_M_make_29 (fun H7 L8 z9 o10 hat11 hL12 => ?_)
      have hm := MW_th (th' := 1) hm hat11 o10
      obtain ⟨m0, m1, m2, m3, m4, m5, m6, m7, m8, m9, m10, m11, m12, m13, m14, m15, hxb, hv7⟩ := id hm
      have hB := (Blk.one z9 o10).wide (lo' := d) (hi' := d + 16) (by omega) (by omega)
      have hbad : ¬ (okI u.1.2.2.2.1 t ∧ okC u.1.1 ca ∧ okL la) := by (try simp only [Classical.not_not, bI_eq, bI_ne, ask_t, ask_f, kB_t, kB_f, cB_t, cB_f, lB_t, lB_f, iB_t, iB_f, pB_t, pB_f] at c6 c14); simp [c6, c14]
      refine lv_aload_n hx hb d_M_make_32 rfl (lv_at hl 0 rfl) ?_
      refine rw_get hx hb hts in_M hown hK.1 m0 rfl 0 (by decide) (hts _ fl_M_61) rfl d_M_make_33 ?_
      refine lv_if_ne (tgt := 59) hx hb d_M_make_36 (by decide) (fun c36 => ?_) (fun c36 => ?_)
      · refine lv_iconst (v := 0) hx hb d_M_make_59 (by decide) ?_
        exact re_i hQ hx hb hr hlk (rfl) (⟨Or.inr ⟨hbad, rfl, hm⟩, hB⟩) hL12 (Nat.le_of_ble_eq_true rfl) (Nat.le_of_ble_eq_true rfl) d_M_make_60
      · exact absurd c36 (by decide)
    · refine lv_iload_n hx hb d_M_make_17 rfl (lv_at hl 3 rfl) ?_
      refine cl_i (W.runS (As := [.int la]) (rest := [.ref d]) S (c_M_isLayer la) (va_cwS 1 hts gs_M_81 rfl rfl rfl (by decide +kernel) ⟨Nat.le_of_ble_eq_true rfl, Nat.le_of_ble_eq_true rfl⟩) (cP_S (KG_ok _) hK) rfl rfl hl.1 rfl (lv_room (Nat.le_of_ble_eq_true rfl)) d_M_make_18 ⟨Nat.le_of_ble_eq_true rfl, Nat.le_of_ble_eq_true rfl⟩) ?_
      refine lv_if_eq (tgt := 28) hx hb d_M_make_21 (by decide) (fun c21 => ?_) (fun c21 => ?_)
      · refine lv_iconst (v := 1) hx hb d_M_make_28 (by decide) ?_
        refine rw_put hx hb hts in_M ck_M ok_M nm_M hown hK.1 m0 rfl 0 (by decide) (hts _ fl_M_61) rfl (ok_M 0 (by decide)) rfl rfl (Nat.le_of_ble_eq_true rfl) (⟨Nat.le_refl _, by omega⟩) (A := inBk d (d + 16)) cNil d_M_make_29 (fun H13 L14 z15 o16 hat17 hL18 => ?_)
        have hm := MW_th (th' := 1) hm hat17 o16
        obtain ⟨m0, m1, m2, m3, m4, m5, m6, m7, m8, m9, m10, m11, m12, m13, m14, m15, hxb, hv7⟩ := id hm
        have hB := (Blk.one z15 o16).wide (lo' := d) (hi' := d + 16) (by omega) (by omega)
        have hbad : ¬ (okI u.1.2.2.2.1 t ∧ okC u.1.1 ca ∧ okL la) := by (try simp only [Classical.not_not, bI_eq, bI_ne, ask_t, ask_f, kB_t, kB_f, cB_t, cB_f, lB_t, lB_f, iB_t, iB_f, pB_t, pB_f] at c6 c14 c21); simp [c6, c14, c21]
        refine lv_aload_n hx hb d_M_make_32 rfl (lv_at hl 0 rfl) ?_
        refine rw_get hx hb hts in_M hown hK.1 m0 rfl 0 (by decide) (hts _ fl_M_61) rfl d_M_make_33 ?_
        refine lv_if_ne (tgt := 59) hx hb d_M_make_36 (by decide) (fun c36 => ?_) (fun c36 => ?_)
        · refine lv_iconst (v := 0) hx hb d_M_make_59 (by decide) ?_
          exact re_i hQ hx hb hr hlk (rfl) (⟨Or.inr ⟨hbad, rfl, hm⟩, hB⟩) hL18 (Nat.le_of_ble_eq_true rfl) (Nat.le_of_ble_eq_true rfl) d_M_make_60
        · exact absurd c36 (by decide)
      · refine lv_iconst (v := 0) hx hb d_M_make_24 (by decide) ?_
        refine lv_goto (tgt := 29) hx hb d_M_make_25 (by decide) ?_
        refine rw_put hx hb hts in_M ck_M ok_M nm_M hown hK.1 m0 rfl 0 (by decide) (hts _ fl_M_61) rfl (ok_M 0 (by decide)) rfl rfl (Nat.le_of_ble_eq_true rfl) (⟨Nat.le_refl _, by omega⟩) (A := inBk d (d + 16)) cNil d_M_make_29 (fun H19 L20 z21 o22 hat23 hL24 => ?_)
        have hm := MW_th (th' := 0) hm hat23 o22
        obtain ⟨m0, m1, m2, m3, m4, m5, m6, m7, m8, m9, m10, m11, m12, m13, m14, m15, hxb, hv7⟩ := id hm
        have hB := (Blk.one z21 o22).wide (lo' := d) (hi' := d + 16) (by omega) (by omega)
        have hok : okI u.1.2.2.2.1 t ∧ okC u.1.1 ca ∧ okL la := by (try simp only [Classical.not_not, bI_eq, bI_ne, ask_t, ask_f, kB_t, kB_f, cB_t, cB_f, lB_t, lB_f, iB_t, iB_f, pB_t, pB_f] at c6 c14 c21); simp [c6, c14, c21]
        obtain ⟨i, hn_i, h_i, rfl⟩ := okIdx hxb.2.2.1 (hok.1)
        simp only [nn_nI (i := i) (by omega)] at hQ
        refine lv_aload_n hx hb d_M_make_32 rfl (lv_at hl 0 rfl) ?_
        refine rw_get hx hb hts in_M hown hK.1 m0 rfl 0 (by decide) (hts _ fl_M_61) rfl d_M_make_33 ?_
        refine lv_if_ne (tgt := 59) hx hb d_M_make_36 (by decide) (fun c36 => ?_) (fun c36 => ?_)
        · exact absurd c36 (by decide)
        · refine lv_aload_n hx hb d_M_make_39 rfl (lv_at hl 0 rfl) ?_
          refine rw_get hx hb hts in_M hown hK.1 m0 rfl 13 (by decide) (hts _ fl_M_35) rfl d_M_make_40 ?_
          refine lv_iload_n hx hb d_M_make_43 rfl (lv_at hl 1 rfl) ?_
          refine rw_iald hx hb hK.1 0 m9 rfl i (rfl) (h_i) (by decide) d_M_make_44 ?_
          refine lv_iload_n hx hb d_M_make_45 rfl (lv_at hl 2 rfl) ?_
          refine lv_icmp_ne (tgt := 61) hx hb d_M_make_46 (by decide) (fun c46 => ?_) (fun c46 => ?_)
          · refine lv_aload_n hx hb d_M_make_61 rfl (lv_at hl 0 rfl) ?_
            refine rw_get hx hb hts in_M hown hK.1 m0 rfl 13 (by decide) (hts _ fl_M_35) rfl d_M_make_62 ?_
            refine lv_iload_n hx hb d_M_make_65 rfl (lv_at hl 1 rfl) ?_
            refine lv_iload_n hx hb d_M_make_66 rfl (lv_at hl 2 rfl) ?_
            refine rw_iast hx hb hK.1 0 m9 rfl i (rfl) (h_i) (by decide) (⟨by omega, by omega⟩) hL24 d_M_make_67 (fun H25 L26 z27 o28 hat29 hL30 => ?_)
            have m0 := pt_k m0 (o28 _ (by omega))
            have m1 := pt_k m1 (o28 _ (by omega))
            have m2 := pt_k m2 (o28 _ (by omega))
            have m3 := pt_k m3 (o28 _ (by omega))
            have m4 := pt_k m4 (o28 _ (by omega))
            have m5 := pt_k m5 (o28 _ (by omega))
            have m6 := pt_k m6 (o28 _ (by omega))
            have m7 := pt_k m7 (o28 _ (by omega))
            have m8 := pt_k m8 (o28 _ (by omega))
            have m10 := pt_k m10 (o28 _ (by omega))
            have m11 := pt_k m11 (o28 _ (by omega))
            have m12 := pt_k m12 (o28 _ (by omega))
            have m13 := pt_k m13 (o28 _ (by omega))
            have m14 := pt_k m14 (o28 _ (by omega))
            have m15 := pt_k m15 (o28 _ (by omega))
            have m9 := hat29
            have hB := Blk.trans hB ((Blk.one z27 o28).wide (lo' := d) (hi' := d + 16) (by omega) (by omega))
            refine lv_aload_n hx hb d_M_make_68 rfl (lv_at hl 0 rfl) ?_
            refine rw_get hx hb hts in_M hown hK.1 m0 rfl 14 (by decide) (hts _ fl_M_38) rfl d_M_make_69 ?_
            refine lv_iload_n hx hb d_M_make_72 rfl (lv_at hl 1 rfl) ?_
            refine lv_iload_n hx hb d_M_make_73 rfl (lv_at hl 3 rfl) ?_
            refine rw_iast hx hb hK.1 0 m10 rfl i (rfl) (h_i) (by decide) (⟨by omega, by omega⟩) hL30 d_M_make_74 (fun H31 L32 z33 o34 hat35 hL36 => ?_)
            have m0 := pt_k m0 (o34 _ (by omega))
            have m1 := pt_k m1 (o34 _ (by omega))
            have m2 := pt_k m2 (o34 _ (by omega))
            have m3 := pt_k m3 (o34 _ (by omega))
            have m4 := pt_k m4 (o34 _ (by omega))
            have m5 := pt_k m5 (o34 _ (by omega))
            have m6 := pt_k m6 (o34 _ (by omega))
            have m7 := pt_k m7 (o34 _ (by omega))
            have m8 := pt_k m8 (o34 _ (by omega))
            have m9 := pt_k m9 (o34 _ (by omega))
            have m11 := pt_k m11 (o34 _ (by omega))
            have m12 := pt_k m12 (o34 _ (by omega))
            have m13 := pt_k m13 (o34 _ (by omega))
            have m14 := pt_k m14 (o34 _ (by omega))
            have m15 := pt_k m15 (o34 _ (by omega))
            have m10 := hat35
            have hB := Blk.trans hB ((Blk.one z33 o34).wide (lo' := d) (hi' := d + 16) (by omega) (by omega))
            refine lv_aload_n hx hb d_M_make_75 rfl (lv_at hl 0 rfl) ?_
            refine lv_iload_n hx hb d_M_make_76 rfl (lv_at hl 1 rfl) ?_
            refine cl_d (W.runV (As := [.int (nI i)]) (rest := []) S (c_M_dropThing m0 m13 (rfl) (h_i)) (cwV 1 hts gv_M_101 rfl rfl rfl (by decide +kernel) ⟨Nat.le_of_ble_eq_true rfl, Nat.le_of_ble_eq_true rfl⟩) (cP_V (KG_ok _) hK hK.1 m0 rfl) rfl rfl hl.1 rfl (lv_room (Nat.le_of_ble_eq_true rfl)) d_M_make_77 ⟨Nat.le_of_ble_eq_true rfl, Nat.le_of_ble_eq_true rfl⟩) hL36 (fun z h => ⟨by omega, by omega⟩) (fun H37 L38 hp39 hL40 => ?_)
            have m0 := pt_k m0 (hp39.2.2 _ (by omega))
            have m1 := pt_k m1 (hp39.2.2 _ (by omega))
            have m2 := pt_k m2 (hp39.2.2 _ (by omega))
            have m3 := pt_k m3 (hp39.2.2 _ (by omega))
            have m4 := pt_k m4 (hp39.2.2 _ (by omega))
            have m5 := pt_k m5 (hp39.2.2 _ (by omega))
            have m6 := pt_k m6 (hp39.2.2 _ (by omega))
            have m7 := pt_k m7 (hp39.2.2 _ (by omega))
            have m8 := pt_k m8 (hp39.2.2 _ (by omega))
            have m9 := pt_k m9 (hp39.2.2 _ (by omega))
            have m10 := pt_k m10 (hp39.2.2 _ (by omega))
            have m11 := pt_k m11 (hp39.2.2 _ (by omega))
            have m12 := pt_k m12 (hp39.2.2 _ (by omega))
            have m14 := pt_k m14 (hp39.2.2 _ (by omega))
            have m15 := pt_k m15 (hp39.2.2 _ (by omega))
            have m13 := hp39.1
            have hB := Blk.trans hB (hp39.2.wide (by omega) (by omega))
            refine lv_iconst (v := 1) hx hb d_M_make_80 (by decide) ?_
            have g29 : ¬ ((u.2.2.2 i).1 = ca ∧ (u.2.2.2 i).2.1 = la) := fun h => c46 h.1
            exact re_i hQ hx hb hr hlk (rfl) (⟨Or.inl ⟨⟨okI_of (by omega) hn_i, hok.2⟩, by rw [decide_eq_false g29]; rfl, by rw [if_neg g29, if_neg g29]; exact ⟨m0, m1, m2, m3, m4, m5, m6, m7, m8, pt_i (up_i (fun r : Tt => r.1) u.2.2.2 i (ca, la, (u.2.2.2 i).2.2) rfl) m9, pt_i (up_i (fun r : Tt => r.2.1) u.2.2.2 i (ca, la, (u.2.2.2 i).2.2) rfl) m10, pt_l (up_k (fun r : Tt => r.2.2.1) u.2.2.2 i (ca, la, (u.2.2.2 i).2.2) rfl) m11, pt_l (up_k (fun r : Tt => r.2.2.2) u.2.2.2 i (ca, la, (u.2.2.2 i).2.2) rfl) m12, m13, m14, m15, hxb, hv7⟩⟩, hB⟩) hL40 (Nat.le_of_ble_eq_true rfl) (Nat.le_of_ble_eq_true rfl) d_M_make_81
          · refine lv_aload_n hx hb d_M_make_49 rfl (lv_at hl 0 rfl) ?_
            refine rw_get hx hb hts in_M hown hK.1 m0 rfl 14 (by decide) (hts _ fl_M_38) rfl d_M_make_50 ?_
            refine lv_iload_n hx hb d_M_make_53 rfl (lv_at hl 1 rfl) ?_
            refine rw_iald hx hb hK.1 0 m10 rfl i (rfl) (h_i) (by decide) d_M_make_54 ?_
            refine lv_iload_n hx hb d_M_make_55 rfl (lv_at hl 3 rfl) ?_
            refine lv_icmp_ne (tgt := 61) hx hb d_M_make_56 (by decide) (fun c56 => ?_) (fun c56 => ?_)
            · refine lv_aload_n hx hb d_M_make_61 rfl (lv_at hl 0 rfl) ?_
              refine rw_get hx hb hts in_M hown hK.1 m0 rfl 13 (by decide) (hts _ fl_M_35) rfl d_M_make_62 ?_
              refine lv_iload_n hx hb d_M_make_65 rfl (lv_at hl 1 rfl) ?_
              refine lv_iload_n hx hb d_M_make_66 rfl (lv_at hl 2 rfl) ?_
              refine rw_iast hx hb hK.1 0 m9 rfl i (rfl) (h_i) (by decide) (⟨by omega, by omega⟩) hL24 d_M_make_67 (fun H41 L42 z43 o44 hat45 hL46 => ?_)
              have m0 := pt_k m0 (o44 _ (by omega))
              have m1 := pt_k m1 (o44 _ (by omega))
              have m2 := pt_k m2 (o44 _ (by omega))
              have m3 := pt_k m3 (o44 _ (by omega))
              have m4 := pt_k m4 (o44 _ (by omega))
              have m5 := pt_k m5 (o44 _ (by omega))
              have m6 := pt_k m6 (o44 _ (by omega))
              have m7 := pt_k m7 (o44 _ (by omega))
              have m8 := pt_k m8 (o44 _ (by omega))
              have m10 := pt_k m10 (o44 _ (by omega))
              have m11 := pt_k m11 (o44 _ (by omega))
              have m12 := pt_k m12 (o44 _ (by omega))
              have m13 := pt_k m13 (o44 _ (by omega))
              have m14 := pt_k m14 (o44 _ (by omega))
              have m15 := pt_k m15 (o44 _ (by omega))
              have m9 := hat45
              have hB := Blk.trans hB ((Blk.one z43 o44).wide (lo' := d) (hi' := d + 16) (by omega) (by omega))
              refine lv_aload_n hx hb d_M_make_68 rfl (lv_at hl 0 rfl) ?_
              refine rw_get hx hb hts in_M hown hK.1 m0 rfl 14 (by decide) (hts _ fl_M_38) rfl d_M_make_69 ?_
              refine lv_iload_n hx hb d_M_make_72 rfl (lv_at hl 1 rfl) ?_
              refine lv_iload_n hx hb d_M_make_73 rfl (lv_at hl 3 rfl) ?_
              refine rw_iast hx hb hK.1 0 m10 rfl i (rfl) (h_i) (by decide) (⟨by omega, by omega⟩) hL46 d_M_make_74 (fun H47 L48 z49 o50 hat51 hL52 => ?_)
              have m0 := pt_k m0 (o50 _ (by omega))
              have m1 := pt_k m1 (o50 _ (by omega))
              have m2 := pt_k m2 (o50 _ (by omega))
              have m3 := pt_k m3 (o50 _ (by omega))
              have m4 := pt_k m4 (o50 _ (by omega))
              have m5 := pt_k m5 (o50 _ (by omega))
              have m6 := pt_k m6 (o50 _ (by omega))
              have m7 := pt_k m7 (o50 _ (by omega))
              have m8 := pt_k m8 (o50 _ (by omega))
              have m9 := pt_k m9 (o50 _ (by omega))
              have m11 := pt_k m11 (o50 _ (by omega))
              have m12 := pt_k m12 (o50 _ (by omega))
              have m13 := pt_k m13 (o50 _ (by omega))
              have m14 := pt_k m14 (o50 _ (by omega))
              have m15 := pt_k m15 (o50 _ (by omega))
              have m10 := hat51
              have hB := Blk.trans hB ((Blk.one z49 o50).wide (lo' := d) (hi' := d + 16) (by omega) (by omega))
              refine lv_aload_n hx hb d_M_make_75 rfl (lv_at hl 0 rfl) ?_
              refine lv_iload_n hx hb d_M_make_76 rfl (lv_at hl 1 rfl) ?_
              refine cl_d (W.runV (As := [.int (nI i)]) (rest := []) S (c_M_dropThing m0 m13 (rfl) (h_i)) (cwV 1 hts gv_M_101 rfl rfl rfl (by decide +kernel) ⟨Nat.le_of_ble_eq_true rfl, Nat.le_of_ble_eq_true rfl⟩) (cP_V (KG_ok _) hK hK.1 m0 rfl) rfl rfl hl.1 rfl (lv_room (Nat.le_of_ble_eq_true rfl)) d_M_make_77 ⟨Nat.le_of_ble_eq_true rfl, Nat.le_of_ble_eq_true rfl⟩) hL52 (fun z h => ⟨by omega, by omega⟩) (fun H53 L54 hp55 hL56 => ?_)
              have m0 := pt_k m0 (hp55.2.2 _ (by omega))
              have m1 := pt_k m1 (hp55.2.2 _ (by omega))
              have m2 := pt_k m2 (hp55.2.2 _ (by omega))
              have m3 := pt_k m3 (hp55.2.2 _ (by omega))
              have m4 := pt_k m4 (hp55.2.2 _ (by omega))
              have m5 := pt_k m5 (hp55.2.2 _ (by omega))
              have m6 := pt_k m6 (hp55.2.2 _ (by omega))
              have m7 := pt_k m7 (hp55.2.2 _ (by omega))
              have m8 := pt_k m8 (hp55.2.2 _ (by omega))
              have m9 := pt_k m9 (hp55.2.2 _ (by omega))
              have m10 := pt_k m10 (hp55.2.2 _ (by omega))
              have m11 := pt_k m11 (hp55.2.2 _ (by omega))
              have m12 := pt_k m12 (hp55.2.2 _ (by omega))
              have m14 := pt_k m14 (hp55.2.2 _ (by omega))
              have m15 := pt_k m15 (hp55.2.2 _ (by omega))
              have m13 := hp55.1
              have hB := Blk.trans hB (hp55.2.wide (by omega) (by omega))
              refine lv_iconst (v := 1) hx hb d_M_make_80 (by decide) ?_
              have g29 : ¬ ((u.2.2.2 i).1 = ca ∧ (u.2.2.2 i).2.1 = la) := fun h => c56 h.2
              exact re_i hQ hx hb hr hlk (rfl) (⟨Or.inl ⟨⟨okI_of (by omega) hn_i, hok.2⟩, by rw [decide_eq_false g29]; rfl, by rw [if_neg g29, if_neg g29]; exact ⟨m0, m1, m2, m3, m4, m5, m6, m7, m8, pt_i (up_i (fun r : Tt => r.1) u.2.2.2 i (ca, la, (u.2.2.2 i).2.2) rfl) m9, pt_i (up_i (fun r : Tt => r.2.1) u.2.2.2 i (ca, la, (u.2.2.2 i).2.2) rfl) m10, pt_l (up_k (fun r : Tt => r.2.2.1) u.2.2.2 i (ca, la, (u.2.2.2 i).2.2) rfl) m11, pt_l (up_k (fun r : Tt => r.2.2.2) u.2.2.2 i (ca, la, (u.2.2.2 i).2.2) rfl) m12, m13, m14, m15, hxb, hv7⟩⟩, hB⟩) hL56 (Nat.le_of_ble_eq_true rfl) (Nat.le_of_ble_eq_true rfl) d_M_make_81
            · refine lv_iconst (v := 0) hx hb d_M_make_59 (by decide) ?_
              exact re_i hQ hx hb hr hlk (rfl) (⟨Or.inl ⟨⟨okI_of (by omega) hn_i, hok.2⟩, by simp [bI, c46, c56], by rw [if_pos ⟨c46, c56⟩, if_pos ⟨c46, c56⟩]; exact hm⟩, hB⟩) hL24 (Nat.le_of_ble_eq_true rfl) (Nat.le_of_ble_eq_true rfl) d_M_make_60
def rm_M_move : Room := { frames := 2, cells := 0, slots := 0, locals := 46 }
set_option maxRecDepth 100000 in
set_option maxHeartbeats 4000000 in
theorem c_M_move {l : Launch} {ev : EV} {H0 : Heap} {d : Nat} {th : Int32} {u : XS} {kp : KT} {v : PT} (hm : MW ev d th u kp v H0) (t : Int32) (x y : Int64) : Met l my_M_move mw_M_move rm_M_move (cP [.ref d, .int t, .long x, .long y] (KG ev) H0) (cQe (fun r H1 => ((okI u.1.2.2.2.1 t ∧ okP x y) ∧ r = .int (bI (!decide ((u.2.2.2 (nn t)).2.2.1 = x ∧ (u.2.2.2 (nn t)).2.2.2 = y))) ∧ MW ev d 0 (if (u.2.2.2 (nn t)).2.2.1 = x ∧ (u.2.2.2 (nn t)).2.2.2 = y then u else thgU u (nn t) ((u.2.2.2 (nn t)).1, (u.2.2.2 (nn t)).2.1, x, y)) (if (u.2.2.2 (nn t)).2.2.1 = x ∧ (u.2.2.2 (nn t)).2.2.2 = y then kp else if arnF u.2.2.1 (u.2.2.2 (nn t)).2.2.1 (u.2.2.2 (nn t)).2.2.2 u.1.2.2.1 = arnF u.2.2.1 x y u.1.2.2.1 then kp else kpD kp (nn t)) v H1 ∨ (¬ okI u.1.2.2.2.1 t) ∧ r = .int 0 ∧ MW ev d 1 u kp v H1 ∨ (okI u.1.2.2.2.1 t ∧ ¬ okP x y) ∧ r = .int 0 ∧ MW ev d 2 u kp v H1) ∧ Blk d (d + 16) H0 H1)) 0 0 (inBk d (d + 16)) := by
  refine cHead [.ref d, .int t, .long x, .long y] (by decide) rfl (Nat.le_of_ble_eq_true rfl) ?_
  intro p e s m below meth c ls args QQ hQ S hr hlk hnm hs hK hl
  have S : CallFix p m c mb_M_move 7 s args TB "RuleChoiceModel" := S
  obtain ⟨hx, hb, hml, hown, hts⟩ := id S
  obtain ⟨m0, m1, m2, m3, m4, m5, m6, m7, m8, m9, m10, m11, m12, m13, m14, m15, hxb, hv7⟩ := id hm
  have hr40 : u.1.2.1 ≤ 40 := hxb.1
  have ha12 : u.1.2.2.1 ≤ 12 := hxb.2.1
  have ht40 : u.1.2.2.2.1 ≤ 40 := hxb.2.2.1
  have hl : lv_has ls 7 [(0, .ref d), (1, .int t), (2, .long x), (4, .long y)] := hl
  refine lv_aload_n hx hb d_M_move_0 rfl (lv_at hl 0 rfl) ?_
  refine lv_aload_n hx hb d_M_move_1 rfl (lv_at hl 0 rfl) ?_
  refine lv_iload_n hx hb d_M_move_2 rfl (lv_at hl 1 rfl) ?_
  refine cl_i (W.runV (As := [.int t]) (rest := [.ref d]) S (c_M_isThing m0 t) (cwV 1 hts gv_M_98 rfl rfl rfl (by decide +kernel) ⟨Nat.le_of_ble_eq_true rfl, Nat.le_of_ble_eq_true rfl⟩) (cP_V (KG_ok _) hK hK.1 m0 rfl) rfl rfl hl.1 rfl (lv_room (Nat.le_of_ble_eq_true rfl)) d_M_move_3 ⟨Nat.le_of_ble_eq_true rfl, Nat.le_of_ble_eq_true rfl⟩) ?_
  refine lv_if_ne (tgt := 13) hx hb d_M_move_6 (by decide) (fun c6 => ?_) (fun c6 => ?_)
  · refine lv_lload_n hx hb d_M_move_13 rfl (lv_at hl 2 rfl) ?_
    refine lv_lload hx hb d_M_move_14 (lv_at hl 3 rfl) ?_
    refine cl_i (W.runS (As := [.long x, .long y]) (rest := [.ref d]) S (c_M_isPlace x y) (va_cwS 2 hts gs_M_91 rfl rfl rfl (by decide +kernel) ⟨Nat.le_of_ble_eq_true rfl, Nat.le_of_ble_eq_true rfl⟩) (cP_S (KG_ok _) hK) rfl rfl hl.1 rfl (lv_room (Nat.le_of_ble_eq_true rfl)) d_M_move_16 ⟨Nat.le_of_ble_eq_true rfl, Nat.le_of_ble_eq_true rfl⟩) ?_
    refine lv_if_eq (tgt := 26) hx hb d_M_move_19 (by decide) (fun c19 => ?_) (fun c19 => ?_)
    · refine lv_iconst (v := 2) hx hb d_M_move_26 (by decide) ?_
      refine rw_put hx hb hts in_M ck_M ok_M nm_M hown hK.1 m0 rfl 0 (by decide) (hts _ fl_M_61) rfl (ok_M 0 (by decide)) rfl rfl (Nat.le_of_ble_eq_true rfl) (⟨Nat.le_refl _, by omega⟩) (A := inBk d (d + 16)) cNil d_M_move_27 (fun H1 L2 z3 o4 hat5 hL6 => ?_)
      have hm := MW_th (th' := 2) hm hat5 o4
      obtain ⟨m0, m1, m2, m3, m4, m5, m6, m7, m8, m9, m10, m11, m12, m13, m14, m15, hxb, hv7⟩ := id hm
      have hB := (Blk.one z3 o4).wide (lo' := d) (hi' := d + 16) (by omega) (by omega)
      have hbad : okI u.1.2.2.2.1 t ∧ ¬ okP x y := by (try simp only [Classical.not_not, bI_eq, bI_ne, ask_t, ask_f, kB_t, kB_f, cB_t, cB_f, lB_t, lB_f, iB_t, iB_f, pB_t, pB_f] at c6 c19); simp [c6, c19]
      refine lv_aload_n hx hb d_M_move_30 rfl (lv_at hl 0 rfl) ?_
      refine rw_get hx hb hts in_M hown hK.1 m0 rfl 0 (by decide) (hts _ fl_M_61) rfl d_M_move_31 ?_
      refine lv_if_ne (tgt := 60) hx hb d_M_move_34 (by decide) (fun c34 => ?_) (fun c34 => ?_)
      · refine lv_iconst (v := 0) hx hb d_M_move_60 (by decide) ?_
        exact re_i hQ hx hb hr hlk (rfl) (⟨Or.inr (Or.inr ⟨hbad, rfl, hm⟩), hB⟩) hL6 (Nat.le_of_ble_eq_true rfl) (Nat.le_of_ble_eq_true rfl) d_M_move_61
      · exact absurd c34 (by decide)
    · refine lv_iconst (v := 0) hx hb d_M_move_22 (by decide) ?_
      refine lv_goto (tgt := 27) hx hb d_M_move_23 (by decide) ?_
      refine rw_put hx hb hts in_M ck_M ok_M nm_M hown hK.1 m0 rfl 0 (by decide) (hts _ fl_M_61) rfl (ok_M 0 (by decide)) rfl rfl (Nat.le_of_ble_eq_true rfl) (⟨Nat.le_refl _, by omega⟩) (A := inBk d (d + 16)) cNil d_M_move_27 (fun H7 L8 z9 o10 hat11 hL12 => ?_)
      have hm := MW_th (th' := 0) hm hat11 o10
      obtain ⟨m0, m1, m2, m3, m4, m5, m6, m7, m8, m9, m10, m11, m12, m13, m14, m15, hxb, hv7⟩ := id hm
      have hB := (Blk.one z9 o10).wide (lo' := d) (hi' := d + 16) (by omega) (by omega)
      have hok : okI u.1.2.2.2.1 t ∧ okP x y := by (try simp only [Classical.not_not, bI_eq, bI_ne, ask_t, ask_f, kB_t, kB_f, cB_t, cB_f, lB_t, lB_f, iB_t, iB_f, pB_t, pB_f] at c6 c19); simp [c6, c19]
      obtain ⟨i, hn_i, h_i, rfl⟩ := okIdx hxb.2.2.1 (hok.1)
      simp only [nn_nI (i := i) (by omega)] at hQ
      refine lv_aload_n hx hb d_M_move_30 rfl (lv_at hl 0 rfl) ?_
      refine rw_get hx hb hts in_M hown hK.1 m0 rfl 0 (by decide) (hts _ fl_M_61) rfl d_M_move_31 ?_
      refine lv_if_ne (tgt := 60) hx hb d_M_move_34 (by decide) (fun c34 => ?_) (fun c34 => ?_)
      · exact absurd c34 (by decide)
      · refine lv_aload_n hx hb d_M_move_37 rfl (lv_at hl 0 rfl) ?_
        refine rw_get hx hb hts in_M hown hK.1 m0 rfl 15 (by decide) (hts _ fl_M_41) rfl d_M_move_38 ?_
        refine lv_iload_n hx hb d_M_move_41 rfl (lv_at hl 1 rfl) ?_
        refine rw_lald hx hb hK.1 1 m11 rfl i (rfl) (h_i) (by decide) d_M_move_42 ?_
        refine lv_lload_n hx hb d_M_move_43 rfl (lv_at hl 2 rfl) ?_
        refine ll_ne (tgt := 62) hx hb d_M_move_44 d_M_move_45 (by decide) (fun c45 => ?_) (fun c45 => ?_)
        · refine lv_aload_n hx hb d_M_move_62 rfl (lv_at hl 0 rfl) ?_
          refine lv_iload_n hx hb d_M_move_63 rfl (lv_at hl 1 rfl) ?_
          refine cl_i (W.runV (As := [.int (nI i)]) (rest := []) S (c_M_areasOf hm (rfl) (h_i)) (cwV 1 hts gv_M_108 rfl rfl rfl (by decide +kernel) ⟨Nat.le_of_ble_eq_true rfl, Nat.le_of_ble_eq_true rfl⟩) (cP_V (KG_ok _) hK hK.1 m0 rfl) rfl rfl hl.1 rfl (lv_room (Nat.le_of_ble_eq_true rfl)) d_M_move_64 ⟨Nat.le_of_ble_eq_true rfl, Nat.le_of_ble_eq_true rfl⟩) ?_
          refine lv_istore (lv' := [(6, .int (arnF u.2.2.1 (u.2.2.2 i).2.2.1 (u.2.2.2 i).2.2.2 u.1.2.2.1)), (0, .ref d), (1, .int (nI i)), (2, .long x), (4, .long y)]) hx hb d_M_move_67 hl (by decide) rfl (fun ls hl => ?_)
          refine lv_aload_n hx hb d_M_move_69 rfl (lv_at hl 1 rfl) ?_
          refine rw_get hx hb hts in_M hown hK.1 m0 rfl 15 (by decide) (hts _ fl_M_41) rfl d_M_move_70 ?_
          refine lv_iload_n hx hb d_M_move_73 rfl (lv_at hl 2 rfl) ?_
          refine lv_lload_n hx hb d_M_move_74 rfl (lv_at hl 3 rfl) ?_
          refine rw_last hx hb hK.1 1 m11 rfl i (rfl) (h_i) (by decide) (⟨by omega, by omega⟩) hL12 d_M_move_75 (fun H13 L14 z15 o16 hat17 hL18 => ?_)
          have m0 := pt_k m0 (o16 _ (by omega))
          have m1 := pt_k m1 (o16 _ (by omega))
          have m2 := pt_k m2 (o16 _ (by omega))
          have m3 := pt_k m3 (o16 _ (by omega))
          have m4 := pt_k m4 (o16 _ (by omega))
          have m5 := pt_k m5 (o16 _ (by omega))
          have m6 := pt_k m6 (o16 _ (by omega))
          have m7 := pt_k m7 (o16 _ (by omega))
          have m8 := pt_k m8 (o16 _ (by omega))
          have m9 := pt_k m9 (o16 _ (by omega))
          have m10 := pt_k m10 (o16 _ (by omega))
          have m12 := pt_k m12 (o16 _ (by omega))
          have m13 := pt_k m13 (o16 _ (by omega))
          have m14 := pt_k m14 (o16 _ (by omega))
          have m15 := pt_k m15 (o16 _ (by omega))
          have m11 := hat17
          have hB := Blk.trans hB ((Blk.one z15 o16).wide (lo' := d) (hi' := d + 16) (by omega) (by omega))
          refine lv_aload_n hx hb d_M_move_76 rfl (lv_at hl 1 rfl) ?_
          refine rw_get hx hb hts in_M hown hK.1 m0 rfl 16 (by decide) (hts _ fl_M_44) rfl d_M_move_77 ?_
          refine lv_iload_n hx hb d_M_move_80 rfl (lv_at hl 2 rfl) ?_
          refine lv_lload hx hb d_M_move_81 (lv_at hl 4 rfl) ?_
          refine rw_last hx hb hK.1 1 m12 rfl i (rfl) (h_i) (by decide) (⟨by omega, by omega⟩) hL18 d_M_move_83 (fun H19 L20 z21 o22 hat23 hL24 => ?_)
          have m0 := pt_k m0 (o22 _ (by omega))
          have m1 := pt_k m1 (o22 _ (by omega))
          have m2 := pt_k m2 (o22 _ (by omega))
          have m3 := pt_k m3 (o22 _ (by omega))
          have m4 := pt_k m4 (o22 _ (by omega))
          have m5 := pt_k m5 (o22 _ (by omega))
          have m6 := pt_k m6 (o22 _ (by omega))
          have m7 := pt_k m7 (o22 _ (by omega))
          have m8 := pt_k m8 (o22 _ (by omega))
          have m9 := pt_k m9 (o22 _ (by omega))
          have m10 := pt_k m10 (o22 _ (by omega))
          have m11 := pt_k m11 (o22 _ (by omega))
          have m13 := pt_k m13 (o22 _ (by omega))
          have m14 := pt_k m14 (o22 _ (by omega))
          have m15 := pt_k m15 (o22 _ (by omega))
          have m12 := hat23
          have hB := Blk.trans hB ((Blk.one z21 o22).wide (lo' := d) (hi' := d + 16) (by omega) (by omega))
          have hm2 : MW ev d 0 (thgU u i ((u.2.2.2 i).1, (u.2.2.2 i).2.1, x, y)) kp v H19 := ⟨m0, m1, m2, m3, m4, m5, m6, m7, m8, pt_i (up_k (fun r : Tt => r.1) u.2.2.2 i ((u.2.2.2 i).1, (u.2.2.2 i).2.1, x, y) rfl) m9, pt_i (up_k (fun r : Tt => r.2.1) u.2.2.2 i ((u.2.2.2 i).1, (u.2.2.2 i).2.1, x, y) rfl) m10, pt_l (up_l (fun r : Tt => r.2.2.1) u.2.2.2 i ((u.2.2.2 i).1, (u.2.2.2 i).2.1, x, y) rfl) m11, pt_l (up_l (fun r : Tt => r.2.2.2) u.2.2.2 i ((u.2.2.2 i).1, (u.2.2.2 i).2.1, x, y) rfl) m12, m13, m14, m15, hxb, hv7⟩
          refine lv_aload_n hx hb d_M_move_84 rfl (lv_at hl 1 rfl) ?_
          refine lv_iload_n hx hb d_M_move_85 rfl (lv_at hl 2 rfl) ?_
          refine cl_i (W.runV (As := [.int (nI i)]) (rest := []) S (c_M_areasOf hm2 (rfl) (h_i)) (cwV 1 hts gv_M_108 rfl rfl rfl (by decide +kernel) ⟨Nat.le_of_ble_eq_true rfl, Nat.le_of_ble_eq_true rfl⟩) (cP_V (KG_ok _) hK hK.1 m0 rfl) rfl rfl hl.1 rfl (lv_room (Nat.le_of_ble_eq_true rfl)) d_M_move_86 ⟨Nat.le_of_ble_eq_true rfl, Nat.le_of_ble_eq_true rfl⟩) ?_
          refine tp_i (y := (arnF u.2.2.1 x y u.1.2.2.1)) (by show arnF u.2.2.1 (va_up u.2.2.2 i ((u.2.2.2 i).1, (u.2.2.2 i).2.1, x, y) i).2.2.1 (va_up u.2.2.2 i ((u.2.2.2 i).1, (u.2.2.2 i).2.1, x, y) i).2.2.2 u.1.2.2.1 = _; rw [va_up_self]) ?_
          refine lv_iload hx hb d_M_move_89 (lv_at hl 0 rfl) ?_
          refine lv_icmp_eq (tgt := 99) hx hb d_M_move_91 (by decide) (fun c91 => ?_) (fun c91 => ?_)
          · refine lv_iconst (v := 1) hx hb d_M_move_99 (by decide) ?_
            have g29 : ¬ ((u.2.2.2 i).2.2.1 = x ∧ (u.2.2.2 i).2.2.2 = y) := fun h => c45 h.1
            exact re_i hQ hx hb hr hlk (rfl) (⟨Or.inl ⟨⟨okI_of (by omega) hn_i, hok.2⟩, by rw [decide_eq_false g29]; rfl, by rw [if_neg g29, if_neg g29, if_pos c91.symm]; exact ⟨m0, m1, m2, m3, m4, m5, m6, m7, m8, pt_i (up_k (fun r : Tt => r.1) u.2.2.2 i ((u.2.2.2 i).1, (u.2.2.2 i).2.1, x, y) rfl) m9, pt_i (up_k (fun r : Tt => r.2.1) u.2.2.2 i ((u.2.2.2 i).1, (u.2.2.2 i).2.1, x, y) rfl) m10, pt_l (up_l (fun r : Tt => r.2.2.1) u.2.2.2 i ((u.2.2.2 i).1, (u.2.2.2 i).2.1, x, y) rfl) m11, pt_l (up_l (fun r : Tt => r.2.2.2) u.2.2.2 i ((u.2.2.2 i).1, (u.2.2.2 i).2.1, x, y) rfl) m12, m13, m14, m15, hxb, hv7⟩⟩, hB⟩) hL24 (Nat.le_of_ble_eq_true rfl) (Nat.le_of_ble_eq_true rfl) d_M_move_100
          · refine lv_aload_n hx hb d_M_move_94 rfl (lv_at hl 1 rfl) ?_
            refine lv_iload_n hx hb d_M_move_95 rfl (lv_at hl 2 rfl) ?_
            refine cl_d (W.runV (As := [.int (nI i)]) (rest := []) S (c_M_dropThing m0 m13 (rfl) (h_i)) (cwV 1 hts gv_M_101 rfl rfl rfl (by decide +kernel) ⟨Nat.le_of_ble_eq_true rfl, Nat.le_of_ble_eq_true rfl⟩) (cP_V (KG_ok _) hK hK.1 m0 rfl) rfl rfl hl.1 rfl (lv_room (Nat.le_of_ble_eq_true rfl)) d_M_move_96 ⟨Nat.le_of_ble_eq_true rfl, Nat.le_of_ble_eq_true rfl⟩) hL24 (fun z h => ⟨by omega, by omega⟩) (fun H25 L26 hp27 hL28 => ?_)
            have m0 := pt_k m0 (hp27.2.2 _ (by omega))
            have m1 := pt_k m1 (hp27.2.2 _ (by omega))
            have m2 := pt_k m2 (hp27.2.2 _ (by omega))
            have m3 := pt_k m3 (hp27.2.2 _ (by omega))
            have m4 := pt_k m4 (hp27.2.2 _ (by omega))
            have m5 := pt_k m5 (hp27.2.2 _ (by omega))
            have m6 := pt_k m6 (hp27.2.2 _ (by omega))
            have m7 := pt_k m7 (hp27.2.2 _ (by omega))
            have m8 := pt_k m8 (hp27.2.2 _ (by omega))
            have m9 := pt_k m9 (hp27.2.2 _ (by omega))
            have m10 := pt_k m10 (hp27.2.2 _ (by omega))
            have m11 := pt_k m11 (hp27.2.2 _ (by omega))
            have m12 := pt_k m12 (hp27.2.2 _ (by omega))
            have m14 := pt_k m14 (hp27.2.2 _ (by omega))
            have m15 := pt_k m15 (hp27.2.2 _ (by omega))
            have m13 := hp27.1
            have hB := Blk.trans hB (hp27.2.wide (by omega) (by omega))
            refine lv_iconst (v := 1) hx hb d_M_move_99 (by decide) ?_
            have g29 : ¬ ((u.2.2.2 i).2.2.1 = x ∧ (u.2.2.2 i).2.2.2 = y) := fun h => c45 h.1
            exact re_i hQ hx hb hr hlk (rfl) (⟨Or.inl ⟨⟨okI_of (by omega) hn_i, hok.2⟩, by rw [decide_eq_false g29]; rfl, by rw [if_neg g29, if_neg g29, if_neg (fun h => c91 h.symm)]; exact ⟨m0, m1, m2, m3, m4, m5, m6, m7, m8, pt_i (up_k (fun r : Tt => r.1) u.2.2.2 i ((u.2.2.2 i).1, (u.2.2.2 i).2.1, x, y) rfl) m9, pt_i (up_k (fun r : Tt => r.2.1) u.2.2.2 i ((u.2.2.2 i).1, (u.2.2.2 i).2.1, x, y) rfl) m10, pt_l (up_l (fun r : Tt => r.2.2.1) u.2.2.2 i ((u.2.2.2 i).1, (u.2.2.2 i).2.1, x, y) rfl) m11, pt_l (up_l (fun r : Tt => r.2.2.2) u.2.2.2 i ((u.2.2.2 i).1, (u.2.2.2 i).2.1, x, y) rfl) m12, m13, m14, m15, hxb, hv7⟩⟩, hB⟩) hL28 (Nat.le_of_ble_eq_true rfl) (Nat.le_of_ble_eq_true rfl) d_M_move_100
        · refine lv_aload_n hx hb d_M_move_48 rfl (lv_at hl 0 rfl) ?_
          refine rw_get hx hb hts in_M hown hK.1 m0 rfl 16 (by decide) (hts _ fl_M_44) rfl d_M_move_49 ?_
          refine lv_iload_n hx hb d_M_move_52 rfl (lv_at hl 1 rfl) ?_
          refine rw_lald hx hb hK.1 1 m12 rfl i (rfl) (h_i) (by decide) d_M_move_53 ?_
          refine lv_lload hx hb d_M_move_54 (lv_at hl 3 rfl) ?_
          refine ll_ne (tgt := 62) hx hb d_M_move_56 d_M_move_57 (by decide) (fun c57 => ?_) (fun c57 => ?_)
          · refine lv_aload_n hx hb d_M_move_62 rfl (lv_at hl 0 rfl) ?_
            refine lv_iload_n hx hb d_M_move_63 rfl (lv_at hl 1 rfl) ?_
            refine cl_i (W.runV (As := [.int (nI i)]) (rest := []) S (c_M_areasOf hm (rfl) (h_i)) (cwV 1 hts gv_M_108 rfl rfl rfl (by decide +kernel) ⟨Nat.le_of_ble_eq_true rfl, Nat.le_of_ble_eq_true rfl⟩) (cP_V (KG_ok _) hK hK.1 m0 rfl) rfl rfl hl.1 rfl (lv_room (Nat.le_of_ble_eq_true rfl)) d_M_move_64 ⟨Nat.le_of_ble_eq_true rfl, Nat.le_of_ble_eq_true rfl⟩) ?_
            refine lv_istore (lv' := [(6, .int (arnF u.2.2.1 (u.2.2.2 i).2.2.1 (u.2.2.2 i).2.2.2 u.1.2.2.1)), (0, .ref d), (1, .int (nI i)), (2, .long x), (4, .long y)]) hx hb d_M_move_67 hl (by decide) rfl (fun ls hl => ?_)
            refine lv_aload_n hx hb d_M_move_69 rfl (lv_at hl 1 rfl) ?_
            refine rw_get hx hb hts in_M hown hK.1 m0 rfl 15 (by decide) (hts _ fl_M_41) rfl d_M_move_70 ?_
            refine lv_iload_n hx hb d_M_move_73 rfl (lv_at hl 2 rfl) ?_
            refine lv_lload_n hx hb d_M_move_74 rfl (lv_at hl 3 rfl) ?_
            refine rw_last hx hb hK.1 1 m11 rfl i (rfl) (h_i) (by decide) (⟨by omega, by omega⟩) hL12 d_M_move_75 (fun H29 L30 z31 o32 hat33 hL34 => ?_)
            have m0 := pt_k m0 (o32 _ (by omega))
            have m1 := pt_k m1 (o32 _ (by omega))
            have m2 := pt_k m2 (o32 _ (by omega))
            have m3 := pt_k m3 (o32 _ (by omega))
            have m4 := pt_k m4 (o32 _ (by omega))
            have m5 := pt_k m5 (o32 _ (by omega))
            have m6 := pt_k m6 (o32 _ (by omega))
            have m7 := pt_k m7 (o32 _ (by omega))
            have m8 := pt_k m8 (o32 _ (by omega))
            have m9 := pt_k m9 (o32 _ (by omega))
            have m10 := pt_k m10 (o32 _ (by omega))
            have m12 := pt_k m12 (o32 _ (by omega))
            have m13 := pt_k m13 (o32 _ (by omega))
            have m14 := pt_k m14 (o32 _ (by omega))
            have m15 := pt_k m15 (o32 _ (by omega))
            have m11 := hat33
            have hB := Blk.trans hB ((Blk.one z31 o32).wide (lo' := d) (hi' := d + 16) (by omega) (by omega))
            refine lv_aload_n hx hb d_M_move_76 rfl (lv_at hl 1 rfl) ?_
            refine rw_get hx hb hts in_M hown hK.1 m0 rfl 16 (by decide) (hts _ fl_M_44) rfl d_M_move_77 ?_
            refine lv_iload_n hx hb d_M_move_80 rfl (lv_at hl 2 rfl) ?_
            refine lv_lload hx hb d_M_move_81 (lv_at hl 4 rfl) ?_
            refine rw_last hx hb hK.1 1 m12 rfl i (rfl) (h_i) (by decide) (⟨by omega, by omega⟩) hL34 d_M_move_83 (fun H35 L36 z37 o38 hat39 hL40 => ?_)
            have m0 := pt_k m0 (o38 _ (by omega))
            have m1 := pt_k m1 (o38 _ (by omega))
            have m2 := pt_k m2 (o38 _ (by omega))
            have m3 := pt_k m3 (o38 _ (by omega))
            have m4 := pt_k m4 (o38 _ (by omega))
            have m5 := pt_k m5 (o38 _ (by omega))
            have m6 := pt_k m6 (o38 _ (by omega))
            have m7 := pt_k m7 (o38 _ (by omega))
            have m8 := pt_k m8 (o38 _ (by omega))
            have m9 := pt_k m9 (o38 _ (by omega))
            have m10 := pt_k m10 (o38 _ (by omega))
            have m11 := pt_k m11 (o38 _ (by omega))
            have m13 := pt_k m13 (o38 _ (by omega))
            have m14 := pt_k m14 (o38 _ (by omega))
            have m15 := pt_k m15 (o38 _ (by omega))
            have m12 := hat39
            have hB := Blk.trans hB ((Blk.one z37 o38).wide (lo' := d) (hi' := d + 16) (by omega) (by omega))
            have hm2 : MW ev d 0 (thgU u i ((u.2.2.2 i).1, (u.2.2.2 i).2.1, x, y)) kp v H35 := ⟨m0, m1, m2, m3, m4, m5, m6, m7, m8, pt_i (up_k (fun r : Tt => r.1) u.2.2.2 i ((u.2.2.2 i).1, (u.2.2.2 i).2.1, x, y) rfl) m9, pt_i (up_k (fun r : Tt => r.2.1) u.2.2.2 i ((u.2.2.2 i).1, (u.2.2.2 i).2.1, x, y) rfl) m10, pt_l (up_l (fun r : Tt => r.2.2.1) u.2.2.2 i ((u.2.2.2 i).1, (u.2.2.2 i).2.1, x, y) rfl) m11, pt_l (up_l (fun r : Tt => r.2.2.2) u.2.2.2 i ((u.2.2.2 i).1, (u.2.2.2 i).2.1, x, y) rfl) m12, m13, m14, m15, hxb, hv7⟩
            refine lv_aload_n hx hb d_M_move_84 rfl (lv_at hl 1 rfl) ?_
            refine lv_iload_n hx hb d_M_move_85 rfl (lv_at hl 2 rfl) ?_
            refine cl_i (W.runV (As := [.int (nI i)]) (rest := []) S (c_M_areasOf hm2 (rfl) (h_i)) (cwV 1 hts gv_M_108 rfl rfl rfl (by decide +kernel) ⟨Nat.le_of_ble_eq_true rfl, Nat.le_of_ble_eq_true rfl⟩) (cP_V (KG_ok _) hK hK.1 m0 rfl) rfl rfl hl.1 rfl (lv_room (Nat.le_of_ble_eq_true rfl)) d_M_move_86 ⟨Nat.le_of_ble_eq_true rfl, Nat.le_of_ble_eq_true rfl⟩) ?_
            refine tp_i (y := (arnF u.2.2.1 x y u.1.2.2.1)) (by show arnF u.2.2.1 (va_up u.2.2.2 i ((u.2.2.2 i).1, (u.2.2.2 i).2.1, x, y) i).2.2.1 (va_up u.2.2.2 i ((u.2.2.2 i).1, (u.2.2.2 i).2.1, x, y) i).2.2.2 u.1.2.2.1 = _; rw [va_up_self]) ?_
            refine lv_iload hx hb d_M_move_89 (lv_at hl 0 rfl) ?_
            refine lv_icmp_eq (tgt := 99) hx hb d_M_move_91 (by decide) (fun c91 => ?_) (fun c91 => ?_)
            · refine lv_iconst (v := 1) hx hb d_M_move_99 (by decide) ?_
              have g29 : ¬ ((u.2.2.2 i).2.2.1 = x ∧ (u.2.2.2 i).2.2.2 = y) := fun h => c57 h.2
              exact re_i hQ hx hb hr hlk (rfl) (⟨Or.inl ⟨⟨okI_of (by omega) hn_i, hok.2⟩, by rw [decide_eq_false g29]; rfl, by rw [if_neg g29, if_neg g29, if_pos c91.symm]; exact ⟨m0, m1, m2, m3, m4, m5, m6, m7, m8, pt_i (up_k (fun r : Tt => r.1) u.2.2.2 i ((u.2.2.2 i).1, (u.2.2.2 i).2.1, x, y) rfl) m9, pt_i (up_k (fun r : Tt => r.2.1) u.2.2.2 i ((u.2.2.2 i).1, (u.2.2.2 i).2.1, x, y) rfl) m10, pt_l (up_l (fun r : Tt => r.2.2.1) u.2.2.2 i ((u.2.2.2 i).1, (u.2.2.2 i).2.1, x, y) rfl) m11, pt_l (up_l (fun r : Tt => r.2.2.2) u.2.2.2 i ((u.2.2.2 i).1, (u.2.2.2 i).2.1, x, y) rfl) m12, m13, m14, m15, hxb, hv7⟩⟩, hB⟩) hL40 (Nat.le_of_ble_eq_true rfl) (Nat.le_of_ble_eq_true rfl) d_M_move_100
            · refine lv_aload_n hx hb d_M_move_94 rfl (lv_at hl 1 rfl) ?_
              refine lv_iload_n hx hb d_M_move_95 rfl (lv_at hl 2 rfl) ?_
              refine cl_d (W.runV (As := [.int (nI i)]) (rest := []) S (c_M_dropThing m0 m13 (rfl) (h_i)) (cwV 1 hts gv_M_101 rfl rfl rfl (by decide +kernel) ⟨Nat.le_of_ble_eq_true rfl, Nat.le_of_ble_eq_true rfl⟩) (cP_V (KG_ok _) hK hK.1 m0 rfl) rfl rfl hl.1 rfl (lv_room (Nat.le_of_ble_eq_true rfl)) d_M_move_96 ⟨Nat.le_of_ble_eq_true rfl, Nat.le_of_ble_eq_true rfl⟩) hL40 (fun z h => ⟨by omega, by omega⟩) (fun H41 L42 hp43 hL44 => ?_)
              have m0 := pt_k m0 (hp43.2.2 _ (by omega))
              have m1 := pt_k m1 (hp43.2.2 _ (by omega))
              have m2 := pt_k m2 (hp43.2.2 _ (by omega))
              have m3 := pt_k m3 (hp43.2.2 _ (by omega))
              have m4 := pt_k m4 (hp43.2.2 _ (by omega))
              have m5 := pt_k m5 (hp43.2.2 _ (by omega))
              have m6 := pt_k m6 (hp43.2.2 _ (by omega))
              have m7 := pt_k m7 (hp43.2.2 _ (by omega))
              have m8 := pt_k m8 (hp43.2.2 _ (by omega))
              have m9 := pt_k m9 (hp43.2.2 _ (by omega))
              have m10 := pt_k m10 (hp43.2.2 _ (by omega))
              have m11 := pt_k m11 (hp43.2.2 _ (by omega))
              have m12 := pt_k m12 (hp43.2.2 _ (by omega))
              have m14 := pt_k m14 (hp43.2.2 _ (by omega))
              have m15 := pt_k m15 (hp43.2.2 _ (by omega))
              have m13 := hp43.1
              have hB := Blk.trans hB (hp43.2.wide (by omega) (by omega))
              refine lv_iconst (v := 1) hx hb d_M_move_99 (by decide) ?_
              have g29 : ¬ ((u.2.2.2 i).2.2.1 = x ∧ (u.2.2.2 i).2.2.2 = y) := fun h => c57 h.2
              exact re_i hQ hx hb hr hlk (rfl) (⟨Or.inl ⟨⟨okI_of (by omega) hn_i, hok.2⟩, by rw [decide_eq_false g29]; rfl, by rw [if_neg g29, if_neg g29, if_neg (fun h => c91 h.symm)]; exact ⟨m0, m1, m2, m3, m4, m5, m6, m7, m8, pt_i (up_k (fun r : Tt => r.1) u.2.2.2 i ((u.2.2.2 i).1, (u.2.2.2 i).2.1, x, y) rfl) m9, pt_i (up_k (fun r : Tt => r.2.1) u.2.2.2 i ((u.2.2.2 i).1, (u.2.2.2 i).2.1, x, y) rfl) m10, pt_l (up_l (fun r : Tt => r.2.2.1) u.2.2.2 i ((u.2.2.2 i).1, (u.2.2.2 i).2.1, x, y) rfl) m11, pt_l (up_l (fun r : Tt => r.2.2.2) u.2.2.2 i ((u.2.2.2 i).1, (u.2.2.2 i).2.1, x, y) rfl) m12, m13, m14, m15, hxb, hv7⟩⟩, hB⟩) hL44 (Nat.le_of_ble_eq_true rfl) (Nat.le_of_ble_eq_true rfl) d_M_move_100
          · refine lv_iconst (v := 0) hx hb d_M_move_60 (by decide) ?_
            exact re_i hQ hx hb hr hlk (rfl) (⟨Or.inl ⟨⟨okI_of (by omega) hn_i, hok.2⟩, by simp [bI, c45, c57], by rw [if_pos ⟨c45, c57⟩, if_pos ⟨c45, c57⟩]; exact hm⟩, hB⟩) hL12 (Nat.le_of_ble_eq_true rfl) (Nat.le_of_ble_eq_true rfl) d_M_move_61
  · refine lv_iconst (v := 1) hx hb d_M_move_9 (by decide) ?_
    refine lv_goto (tgt := 27) hx hb d_M_move_10 (by decide) ?_
    refine rw_put hx hb hts in_M ck_M ok_M nm_M hown hK.1 m0 rfl 0 (by decide) (hts _ fl_M_61) rfl (ok_M 0 (by decide)) rfl rfl (Nat.le_of_ble_eq_true rfl) (⟨Nat.le_refl _, by omega⟩) (A := inBk d (d + 16)) cNil d_M_move_27 (fun H45 L46 z47 o48 hat49 hL50 => ?_)
    have hm := MW_th (th' := 1) hm hat49 o48
    obtain ⟨m0, m1, m2, m3, m4, m5, m6, m7, m8, m9, m10, m11, m12, m13, m14, m15, hxb, hv7⟩ := id hm
    have hB := (Blk.one z47 o48).wide (lo' := d) (hi' := d + 16) (by omega) (by omega)
    have hbad : ¬ okI u.1.2.2.2.1 t := by (try simp only [Classical.not_not, bI_eq, bI_ne, ask_t, ask_f, kB_t, kB_f, cB_t, cB_f, lB_t, lB_f, iB_t, iB_f, pB_t, pB_f] at c6); simp [c6]
    refine lv_aload_n hx hb d_M_move_30 rfl (lv_at hl 0 rfl) ?_
    refine rw_get hx hb hts in_M hown hK.1 m0 rfl 0 (by decide) (hts _ fl_M_61) rfl d_M_move_31 ?_
    refine lv_if_ne (tgt := 60) hx hb d_M_move_34 (by decide) (fun c34 => ?_) (fun c34 => ?_)
    · refine lv_iconst (v := 0) hx hb d_M_move_60 (by decide) ?_
      exact re_i hQ hx hb hr hlk (rfl) (⟨Or.inr (Or.inl ⟨hbad, rfl, hm⟩), hB⟩) hL50 (Nat.le_of_ble_eq_true rfl) (Nat.le_of_ble_eq_true rfl) d_M_move_61
    · exact absurd c34 (by decide)
