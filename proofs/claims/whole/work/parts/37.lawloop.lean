set_option maxHeartbeats 20000000 in
set_option maxRecDepth 100000 in
/-- THE LAW'S LOOP -/
theorem law_loop {p : Program} {l : Launch} {e : Env} {s : State} {m : MethodId} {below : List Frame} {meth : Method} {c : Code} (hl9 : l.stackTraces = false) {D : va_G} {cI cL cD : ClassId} (Rel : Nat → XT → MT → Prop) (hOK : stepOK Rel) {b0 L : Nat} {xs : Nat → Int32} (hL : L ≤ 2048) (C0 : lw_At p s m meth c b0 L xs) (hK : va_K D vwCl (tyL cI cL cD) s) (hE : xEnv (fun q : Nat => s.heap.size ≤ q) s) (hN : ncE s) : ∀ (n j : Nat) (z : XT) (y : MT) (fo : Nat → Int64) (x h0 oo : Nat) (ma : Nat → Nat), 513 ≤ j + n → j ≤ 512 → 4 * j ≤ L + 3 → Rel j z y → ∀ (w : va_W) (H : Heap) (locs : List Loc), va_P D vwCl w H → va_D (fun q : Nat => s.heap.size ≤ q) w → va_S (fun q : Nat => s.heap.size ≤ q) s.heap H locs → cAt w 21 cI cL cD x z → mA w 0 cI cL h0 ma y → w[20]? = some (oo, aL cL 1 fo) → ∀ (ls : Array Slot), lv_has ls 8 [(4, .int (nI (4 * j))), (0, .ref b0), (1, .ref x), (2, .ref h0), (3, .ref oo)] → W p l e room_1 s m #[Value.ref b0] below meth c H locs (28 + 3 * j) (1086 + 23 * j) (lw_Z below #[Value.ref b0] s) (F0 m 23 ls []) := by
  obtain ⟨hx, hb, hr, hml, hown, hts, hX, hbl, hlocks, hgv⟩ := C0
  have hown : s.vm.findClass R_L = some m.cls := hown
  have hbA : ¬ (fun q : Nat => s.heap.size ≤ q) b0 := Nat.not_le.mpr hbl
  intro n
  induction n with
  | zero =>
    intro j z y fo x h0 oo ma h1 h2
    exact absurd h1 (by omega)
  | succ n ih =>
    intro j z y fo x h0 oo ma hjn hj hj4 hR w H locs hP hD hS hC hM ho ls hl
    have hw : wfM y := hOK.1 j z y hR
    refine lv_iload hx hb d_L_law_23 (lv_at hl 0 rfl) ?_
    refine lv_aload_n hx hb d_L_law_25 rfl (lv_at hl 1 rfl) ?_
    refine va_slen hx hb hX hbl hbA hS d_L_law_26 ?_
    refine lv_iconst (v := 4) hx hb d_L_law_27 (by decide) ?_
    refine lv_isub hx hb d_L_law_28 ?_
    refine lv_icmp_gt (tgt := 986) hx hb d_L_law_29 (by decide) (fun c_692 => ?_) (fun c_692 => ?_)
    · refine lv_iconst (v := 1) hx hb d_L_law_986 (by decide) ?_
      refine va_forget (fun q hq => hS.2.2 q hq) ?_
      refine W.widen (k := 601024) (n := 7293033) (by omega) (by omega) ?_
      exact lw_ret hx hb hr hlocks d_L_law_987
    · have h44 : 4 * j + 4 ≤ L := lw_in hL hj c_692
      have hj5 : j < 512 := by omega
      refine lv_aload_n hx hb d_L_law_32 rfl (lv_at hl 1 rfl) ?_
      refine lv_iload hx hb d_L_law_33 (lv_at hl 0 rfl) ?_
      refine va_sld hx hb hX hbl hbA hS ((show vp_in (nI (4 * j)) L from vp_in_nI (by omega) (by omega))) d_L_law_35 ?_
      refine lv_bipush (v := 15) hx hb d_L_law_36 (by decide) ?_
      refine lv_iand hx hb d_L_law_38 ?_
      rcases Decidable.em ((xs (nI (4 * j)).toNatClampNeg &&& 15) = (0 : Int32)) with c_693 | c_693
      · refine lv_tableIn (tgt := 104) hx hb d_L_law_39 (by rw [c_693]; decide) (by rw [c_693]; decide) (by rw [c_693]; rfl) (by decide) ?_
        refine lv_aload_n hx hb d_L_law_104 rfl (lv_at hl 2 rfl) ?_
        refine lv_aload_n hx hb d_L_law_105 rfl (lv_at hl 1 rfl) ?_
        refine lv_iload hx hb d_L_law_106 (lv_at hl 0 rfl) ?_
        refine lv_iconst (v := 1) hx hb d_L_law_108 (by decide) ?_
        refine lv_iadd hx hb d_L_law_109 ?_
        refine va_sld hx hb hX hbl hbA hS ((show vp_in (nI (4 * j) + 1) L from lw_ix (k := 1) hL h44 (by decide))) d_L_law_110 ?_
        refine lv_aload_n hx hb d_L_law_111 rfl (lv_at hl 1 rfl) ?_
        refine lv_iload hx hb d_L_law_112 (lv_at hl 0 rfl) ?_
        refine lv_iconst (v := 2) hx hb d_L_law_114 (by decide) ?_
        refine lv_iadd hx hb d_L_law_115 ?_
        refine va_sld hx hb hX hbl hbA hS ((show vp_in (nI (4 * j) + 2) L from lw_ix (k := 2) hL h44 (by decide))) d_L_law_116 ?_
        refine lv_aload_n hx hb d_L_law_117 rfl (lv_at hl 1 rfl) ?_
        refine lv_iload hx hb d_L_law_118 (lv_at hl 0 rfl) ?_
        refine lv_iconst (v := 3) hx hb d_L_law_120 (by decide) ?_
        refine lv_iadd hx hb d_L_law_121 ?_
        refine va_sld hx hb hX hbl hbA hS ((show vp_in (nI (4 * j) + 3) L from lw_ix (k := 3) hL h44 (by decide))) d_L_law_122 ?_
        refine lv_aload_n hx hb d_L_law_123 rfl (lv_at hl 4 rfl) ?_
        refine va_calli (vx_runSW (As := [.ref x, .int (xs ((nI (4 * j) + 1)).toNatClampNeg), .int (xs ((nI (4 * j) + 2)).toNatClampNeg), .int (xs ((nI (4 * j) + 3)).toNatClampNeg), .ref oo]) (rest := []) ⟨hx, hb, hml, hown, hts⟩ (c_L_rate l hl9 D (fun q : Nat => s.heap.size ≤ q) w cI cL cD 21 20 oo fo x z (xs ((nI (4 * j) + 1)).toNatClampNeg) (xs ((nI (4 * j) + 2)).toNatClampNeg) (xs ((nI (4 * j) + 3)).toNatClampNeg) hC ho (by decide)) (vx_cwSW 5 hts (gWT mB_95 mB_96 mB_14 mW_rate) rfl rfl rfl (by decide +kernel) ⟨(Nat.le_of_ble_eq_true rfl), (Nat.le_of_ble_eq_true rfl)⟩) ⟨hPc_bl, hPc_pr hP hK hD hE hS (fun _ h => h) hN⟩ rfl rfl hl.1 rfl (lv_room (Nat.le_of_ble_eq_true rfl)) d_L_law_124 ⟨by show 28 + 3 * j + 1 ≤ 601024; omega, by show 1086 + 23 * j + 6 ≤ 7293033; omega⟩) hS (fun _ _ h => h) (fun _ h => h) (fun v_694 u9 t H locs ht hvm ev_694 hB hz1 hk1 hS => ?_)
        obtain ⟨w_695, fo_696, hP, hD, hC, ho, hfo, hb9⟩ := hB
        rw [ht] at hP
        subst ev_694
        have hM := hM.kx (fun j _ hj => hb9 j (by omega) (by omega))
        refine W.widen (k := 28 + 3 * (j + 1)) (n := 1086 + 23 * (j + 1)) (by omega) (by omega) ?_
        refine lv_istore (lv' := [(5, .int ((f_rate z (xs ((nI (4 * j) + 1)).toNatClampNeg) (xs ((nI (4 * j) + 2)).toNatClampNeg) (xs ((nI (4 * j) + 3)).toNatClampNeg)).1)), (4, .int (nI (4 * j))), (0, .ref b0), (1, .ref x), (2, .ref h0), (3, .ref oo)]) hx hb d_L_law_127 hl (by decide) rfl (fun ls hl => ?_)
        refine lv_aload_n hx hb d_L_law_129 rfl (lv_at hl 4 rfl) ?_
        refine lv_aload_n hx hb d_L_law_130 rfl (lv_at hl 2 rfl) ?_
        refine lv_iload hx hb d_L_law_131 (lv_at hl 1 rfl) ?_
        refine lv_iconst (v := 1) hx hb d_L_law_133 (by decide) ?_
        refine lv_iadd hx hb d_L_law_134 ?_
        refine va_sld hx hb hX hbl hbA hS ((show vp_in (nI (4 * j) + 1) L from lw_ix (k := 1) hL h44 (by decide))) d_L_law_135 ?_
        refine lv_aload_n hx hb d_L_law_136 rfl (lv_at hl 2 rfl) ?_
        refine lv_iload hx hb d_L_law_137 (lv_at hl 1 rfl) ?_
        refine lv_iconst (v := 2) hx hb d_L_law_139 (by decide) ?_
        refine lv_iadd hx hb d_L_law_140 ?_
        refine va_sld hx hb hX hbl hbA hS ((show vp_in (nI (4 * j) + 2) L from lw_ix (k := 2) hL h44 (by decide))) d_L_law_141 ?_
        refine lv_aload_n hx hb d_L_law_142 rfl (lv_at hl 2 rfl) ?_
        refine lv_iload hx hb d_L_law_143 (lv_at hl 1 rfl) ?_
        refine lv_iconst (v := 3) hx hb d_L_law_145 (by decide) ?_
        refine lv_iadd hx hb d_L_law_146 ?_
        refine va_sld hx hb hX hbl hbA hS ((show vp_in (nI (4 * j) + 3) L from lw_ix (k := 3) hL h44 (by decide))) d_L_law_147 ?_
        refine va_calli (va_runV (As := [.int (xs ((nI (4 * j) + 1)).toNatClampNeg), .int (xs ((nI (4 * j) + 2)).toNatClampNeg), .int (xs ((nI (4 * j) + 3)).toNatClampNeg)]) (rest := []) ⟨hx, hb, hml, hown, hts⟩ (c_M_rate l D (fun q : Nat => s.heap.size ≤ q) w_695 cI cL cD 0 h0 ma y (xs ((nI (4 * j) + 1)).toNatClampNeg) (xs ((nI (4 * j) + 2)).toNatClampNeg) (xs ((nI (4 * j) + 3)).toNatClampNeg) hM hw) (cwV 3 hts (gVT mB_465 mB_466 mB_467 mB_17 mB_468) rfl rfl rfl (by decide +kernel) ⟨(Nat.le_of_ble_eq_true rfl), (Nat.le_of_ble_eq_true rfl)⟩) ⟨mPc_bl, va_recv hK hP (ci := 3) (q0 := 0) rfl hM.1, mPc_pr hP hK hD⟩ rfl rfl hl.1 rfl (lv_room (Nat.le_of_ble_eq_true rfl)) d_L_law_148 ⟨by show 28 + 3 * (j + 1) + 0 ≤ 601024; omega, by show 1086 + 23 * (j + 1) + 0 ≤ 7293033; omega⟩) hS (fun _ _ h => h) (fun _ h => h) (fun v_697 u9 t H locs ht hvm ev_697 hB hz1 hk1 hS => ?_)
        obtain ⟨w_698, hP, hD, hU1⟩ := hB
        rw [ht] at hP
        subst ev_697
        have hC := hC.kb hU1.2.1 (fun j hj => hU1.2.2 j (by omega))
        have ho := (hU1.2.2 20 (by omega)).trans ho
        have hM := hU1.1
        have hst := hOK.2.2.1 j z y (xs ((nI (4 * j) + 1)).toNatClampNeg) (xs ((nI (4 * j) + 2)).toNatClampNeg) (xs ((nI (4 * j) + 3)).toNatClampNeg) hj5 hR
        refine lv_istore (lv' := [(6, .int ((g_rate y (xs ((nI (4 * j) + 1)).toNatClampNeg) (xs ((nI (4 * j) + 2)).toNatClampNeg) (xs ((nI (4 * j) + 3)).toNatClampNeg)).1)), (5, .int ((f_rate z (xs ((nI (4 * j) + 1)).toNatClampNeg) (xs ((nI (4 * j) + 2)).toNatClampNeg) (xs ((nI (4 * j) + 3)).toNatClampNeg)).1)), (4, .int (nI (4 * j))), (0, .ref b0), (1, .ref x), (2, .ref h0), (3, .ref oo)]) hx hb d_L_law_151 hl (by decide) rfl (fun ls hl => ?_)
        refine lv_aload_n hx hb d_L_law_153 rfl (lv_at hl 5 rfl) ?_
        refine vp_callSi (W.runV (As := []) (rest := []) ⟨hx, hb, hml, hown, hts⟩ (c_M_thrown l D (fun q : Nat => s.heap.size ≤ q) w_698 cI cL cD 0 h0 ma (g_rate y (xs ((nI (4 * j) + 1)).toNatClampNeg) (xs ((nI (4 * j) + 2)).toNatClampNeg) (xs ((nI (4 * j) + 3)).toNatClampNeg)).2 hM) (cwV 0 hts (gVT mB_461 mB_462 mB_463 mB_17 mB_464) rfl rfl rfl (by decide +kernel) ⟨(Nat.le_of_ble_eq_true rfl), (Nat.le_of_ble_eq_true rfl)⟩) ⟨mPc_bl, va_recv hK hP (ci := 3) (q0 := 0) rfl hM.1, mPc_pr hP hK hD⟩ rfl rfl hl.1 rfl (lv_room (Nat.le_of_ble_eq_true rfl)) d_L_law_154 ⟨by show 28 + 3 * (j + 1) + 0 ≤ 601024; omega, by show 1086 + 23 * (j + 1) + 0 ≤ 7293033; omega⟩) (fun v_699 ev_699 => ?_)
        have ev_699 : v_699 = m_thrown (g_rate y (xs ((nI (4 * j) + 1)).toNatClampNeg) (xs ((nI (4 * j) + 2)).toNatClampNeg) (xs ((nI (4 * j) + 3)).toNatClampNeg)).2 := ev_699.trans (by unfold g_thrown; rfl)
        subst ev_699
        refine lv_iload hx hb d_L_law_157 (lv_at hl 1 rfl) ?_
        refine lv_icmp_eq (tgt := 164) hx hb d_L_law_159 (by decide) (fun c_701 => ?_) (fun c_701 => ?_)
        · refine lv_iload hx hb d_L_law_164 (lv_at hl 1 rfl) ?_
          refine lv_if_ne (tgt := 181) hx hb d_L_law_166 (by decide) (fun c_702 => ?_) (fun c_702 => ?_)
          · refine lv_goto (tgt := 980) hx hb d_L_law_181 (by decide) ?_
            refine lv_iinc (v := nI (4 * (j + 1))) (lv' := [(4, .int (nI (4 * (j + 1)))), (6, .int ((g_rate y (xs ((nI (4 * j) + 1)).toNatClampNeg) (xs ((nI (4 * j) + 2)).toNatClampNeg) (xs ((nI (4 * j) + 3)).toNatClampNeg)).1)), (5, .int ((f_rate z (xs ((nI (4 * j) + 1)).toNatClampNeg) (xs ((nI (4 * j) + 2)).toNatClampNeg) (xs ((nI (4 * j) + 3)).toNatClampNeg)).1)), (0, .ref b0), (1, .ref x), (2, .ref h0), (3, .ref oo)]) hx hb d_L_law_980 hl (k := 2) rfl (nI_inc4 j) (by decide) rfl (fun ls hl => ?_)
            refine lv_goto (tgt := 23) hx hb d_L_law_983 (by decide) ?_
            exact ih (j + 1) (f_rate z (xs ((nI (4 * j) + 1)).toNatClampNeg) (xs ((nI (4 * j) + 2)).toNatClampNeg) (xs ((nI (4 * j) + 3)).toNatClampNeg)).2.2 (g_rate y (xs ((nI (4 * j) + 1)).toNatClampNeg) (xs ((nI (4 * j) + 2)).toNatClampNeg) (xs ((nI (4 * j) + 3)).toNatClampNeg)).2 fo_696 x h0 oo ma (by omega) (by omega) (by omega) (hst.2.2) w_698 _ _ hP hD hS hC hM ho ls (lv_sub hl [0, 3, 4, 5, 6] rfl)
          · refine lv_aload_n hx hb d_L_law_169 rfl (lv_at hl 6 rfl) ?_
            refine lv_iconst (v := 0) hx hb d_L_law_170 (by decide) ?_
            refine va_lald hx hb hK hP (20) 1 ho rfl (vp_in_nI (n := 0) (by decide) (by decide)) d_L_law_171 ?_
            refine lv_iload hx hb d_L_law_172 (lv_at hl 0 rfl) ?_
            refine lv_i2l hx hb d_L_law_174 rfl ?_
            refine W.lcmp hx hb d_L_law_175 ?_
            refine lv_if_eq (tgt := 181) hx hb d_L_law_176 (by decide) (fun c_703 => ?_) (fun c_703 => ?_)
            · have c_703 : (fo_696 (0 : Int32).toNatClampNeg) = ((g_rate y (xs ((nI (4 * j) + 1)).toNatClampNeg) (xs ((nI (4 * j) + 2)).toNatClampNeg) (xs ((nI (4 * j) + 3)).toNatClampNeg)).1 : Int32).toInt64 := (lg_cmp_eq _ _).mp c_703
              refine lv_goto (tgt := 980) hx hb d_L_law_181 (by decide) ?_
              refine lv_iinc (v := nI (4 * (j + 1))) (lv' := [(4, .int (nI (4 * (j + 1)))), (6, .int ((g_rate y (xs ((nI (4 * j) + 1)).toNatClampNeg) (xs ((nI (4 * j) + 2)).toNatClampNeg) (xs ((nI (4 * j) + 3)).toNatClampNeg)).1)), (5, .int ((f_rate z (xs ((nI (4 * j) + 1)).toNatClampNeg) (xs ((nI (4 * j) + 2)).toNatClampNeg) (xs ((nI (4 * j) + 3)).toNatClampNeg)).1)), (0, .ref b0), (1, .ref x), (2, .ref h0), (3, .ref oo)]) hx hb d_L_law_980 hl (k := 2) rfl (nI_inc4 j) (by decide) rfl (fun ls hl => ?_)
              refine lv_goto (tgt := 23) hx hb d_L_law_983 (by decide) ?_
              exact ih (j + 1) (f_rate z (xs ((nI (4 * j) + 1)).toNatClampNeg) (xs ((nI (4 * j) + 2)).toNatClampNeg) (xs ((nI (4 * j) + 3)).toNatClampNeg)).2.2 (g_rate y (xs ((nI (4 * j) + 1)).toNatClampNeg) (xs ((nI (4 * j) + 2)).toNatClampNeg) (xs ((nI (4 * j) + 3)).toNatClampNeg)).2 fo_696 x h0 oo ma (by omega) (by omega) (by omega) (hst.2.2) w_698 _ _ hP hD hS hC hM ho ls (lv_sub hl [0, 3, 4, 5, 6] rfl)
            · have c_703 : ¬ (fo_696 (0 : Int32).toNatClampNeg) = ((g_rate y (xs ((nI (4 * j) + 1)).toNatClampNeg) (xs ((nI (4 * j) + 2)).toNatClampNeg) (xs ((nI (4 * j) + 3)).toNatClampNeg)).1 : Int32).toInt64 := fun h9 => c_703 ((lg_cmp_eq _ _).mpr h9)
              exact absurd ((hfo c_702).trans (by rw [hst.2.1 c_702])) c_703
        · exact absurd (hst.1.symm) c_701
      · rcases Decidable.em ((xs (nI (4 * j)).toNatClampNeg &&& 15) = (1 : Int32)) with c_704 | c_704
        · refine lv_tableIn (tgt := 184) hx hb d_L_law_39 (by rw [c_704]; decide) (by rw [c_704]; decide) (by rw [c_704]; rfl) (by decide) ?_
          refine lv_aload_n hx hb d_L_law_184 rfl (lv_at hl 2 rfl) ?_
          refine lv_aload_n hx hb d_L_law_185 rfl (lv_at hl 1 rfl) ?_
          refine lv_iload hx hb d_L_law_186 (lv_at hl 0 rfl) ?_
          refine lv_iconst (v := 1) hx hb d_L_law_188 (by decide) ?_
          refine lv_iadd hx hb d_L_law_189 ?_
          refine va_sld hx hb hX hbl hbA hS ((show vp_in (nI (4 * j) + 1) L from lw_ix (k := 1) hL h44 (by decide))) d_L_law_190 ?_
          refine lv_i2l hx hb d_L_law_191 rfl ?_
          refine lv_bipush (v := 32) hx hb d_L_law_192 (by decide) ?_
          refine lv_lshl hx hb d_L_law_194 rfl ?_
          refine lv_aload_n hx hb d_L_law_195 rfl (lv_at hl 1 rfl) ?_
          refine lv_iload hx hb d_L_law_196 (lv_at hl 0 rfl) ?_
          refine lv_iconst (v := 2) hx hb d_L_law_198 (by decide) ?_
          refine lv_iadd hx hb d_L_law_199 ?_
          refine va_sld hx hb hX hbl hbA hS ((show vp_in (nI (4 * j) + 2) L from lw_ix (k := 2) hL h44 (by decide))) d_L_law_200 ?_
          refine lv_i2l hx hb d_L_law_201 rfl ?_
          refine lv_ldc2 (own := R_L) (index := 72) (v := 4294967295) hx hb hown (hts (.constantLong R_L 72 (4294967295)) (BIG_in _ mB_563)) d_L_law_202 ?_
          refine lv_land hx hb d_L_law_205 ?_
          refine lv_lor hx hb d_L_law_206 ?_
          refine lv_aload_n hx hb d_L_law_207 rfl (lv_at hl 1 rfl) ?_
          refine lv_iload hx hb d_L_law_208 (lv_at hl 0 rfl) ?_
          refine lv_iconst (v := 3) hx hb d_L_law_210 (by decide) ?_
          refine lv_iadd hx hb d_L_law_211 ?_
          refine va_sld hx hb hX hbl hbA hS ((show vp_in (nI (4 * j) + 3) L from lw_ix (k := 3) hL h44 (by decide))) d_L_law_212 ?_
          refine lv_aload_n hx hb d_L_law_213 rfl (lv_at hl 4 rfl) ?_
          refine va_calli (vx_runSW (As := [.ref x, .long ((((xs ((nI (4 * j) + 1)).toNatClampNeg : Int32).toInt64 <<< ((32 : Int32).toInt64 &&& 63)) ||| ((xs ((nI (4 * j) + 2)).toNatClampNeg : Int32).toInt64 &&& 4294967295))), .int (xs ((nI (4 * j) + 3)).toNatClampNeg), .ref oo]) (rest := []) ⟨hx, hb, hml, hown, hts⟩ (c_L_debt l hl9 D (fun q : Nat => s.heap.size ≤ q) w cI cL cD 21 20 oo fo x z ((((xs ((nI (4 * j) + 1)).toNatClampNeg : Int32).toInt64 <<< ((32 : Int32).toInt64 &&& 63)) ||| ((xs ((nI (4 * j) + 2)).toNatClampNeg : Int32).toInt64 &&& 4294967295))) (xs ((nI (4 * j) + 3)).toNatClampNeg) hC ho (by decide)) (vx_cwSW 4 hts (gWT mB_193 mB_194 mB_14 mW_debt) rfl rfl rfl (by decide +kernel) ⟨(Nat.le_of_ble_eq_true rfl), (Nat.le_of_ble_eq_true rfl)⟩) ⟨hPc_bl, hPc_pr hP hK hD hE hS (fun _ h => h) hN⟩ rfl rfl hl.1 rfl (lv_room (Nat.le_of_ble_eq_true rfl)) d_L_law_214 ⟨by show 28 + 3 * j + 3 ≤ 601024; omega, by show 1086 + 23 * j + 23 ≤ 7293033; omega⟩) hS (fun _ _ h => h) (fun _ h => h) (fun v_705 u9 t H locs ht hvm ev_705 hB hz1 hk1 hS => ?_)
          obtain ⟨w_706, fo_707, hP, hD, hC, ho, hfo, hb9⟩ := hB
          rw [ht] at hP
          subst ev_705
          have hM := hM.kx (fun j _ hj => hb9 j (by omega) (by omega))
          refine W.widen (k := 28 + 3 * (j + 1)) (n := 1086 + 23 * (j + 1)) (by omega) (by omega) ?_
          refine lv_istore (lv' := [(5, .int ((f_debt z ((((xs ((nI (4 * j) + 1)).toNatClampNeg : Int32).toInt64 <<< ((32 : Int32).toInt64 &&& 63)) ||| ((xs ((nI (4 * j) + 2)).toNatClampNeg : Int32).toInt64 &&& 4294967295))) (xs ((nI (4 * j) + 3)).toNatClampNeg)).1)), (4, .int (nI (4 * j))), (0, .ref b0), (1, .ref x), (2, .ref h0), (3, .ref oo)]) hx hb d_L_law_217 hl (by decide) rfl (fun ls hl => ?_)
          refine lv_aload_n hx hb d_L_law_219 rfl (lv_at hl 4 rfl) ?_
          refine lv_aload_n hx hb d_L_law_220 rfl (lv_at hl 2 rfl) ?_
          refine lv_iload hx hb d_L_law_221 (lv_at hl 1 rfl) ?_
          refine lv_iconst (v := 1) hx hb d_L_law_223 (by decide) ?_
          refine lv_iadd hx hb d_L_law_224 ?_
          refine va_sld hx hb hX hbl hbA hS ((show vp_in (nI (4 * j) + 1) L from lw_ix (k := 1) hL h44 (by decide))) d_L_law_225 ?_
          refine lv_i2l hx hb d_L_law_226 rfl ?_
          refine lv_bipush (v := 32) hx hb d_L_law_227 (by decide) ?_
          refine lv_lshl hx hb d_L_law_229 rfl ?_
          refine lv_aload_n hx hb d_L_law_230 rfl (lv_at hl 2 rfl) ?_
          refine lv_iload hx hb d_L_law_231 (lv_at hl 1 rfl) ?_
          refine lv_iconst (v := 2) hx hb d_L_law_233 (by decide) ?_
          refine lv_iadd hx hb d_L_law_234 ?_
          refine va_sld hx hb hX hbl hbA hS ((show vp_in (nI (4 * j) + 2) L from lw_ix (k := 2) hL h44 (by decide))) d_L_law_235 ?_
          refine lv_i2l hx hb d_L_law_236 rfl ?_
          refine lv_ldc2 (own := R_L) (index := 72) (v := 4294967295) hx hb hown (hts (.constantLong R_L 72 (4294967295)) (BIG_in _ mB_563)) d_L_law_237 ?_
          refine lv_land hx hb d_L_law_240 ?_
          refine lv_lor hx hb d_L_law_241 ?_
          refine lv_aload_n hx hb d_L_law_242 rfl (lv_at hl 2 rfl) ?_
          refine lv_iload hx hb d_L_law_243 (lv_at hl 1 rfl) ?_
          refine lv_iconst (v := 3) hx hb d_L_law_245 (by decide) ?_
          refine lv_iadd hx hb d_L_law_246 ?_
          refine va_sld hx hb hX hbl hbA hS ((show vp_in (nI (4 * j) + 3) L from lw_ix (k := 3) hL h44 (by decide))) d_L_law_247 ?_
          refine va_calli (va_runV (As := [.long ((((xs ((nI (4 * j) + 1)).toNatClampNeg : Int32).toInt64 <<< ((32 : Int32).toInt64 &&& 63)) ||| ((xs ((nI (4 * j) + 2)).toNatClampNeg : Int32).toInt64 &&& 4294967295))), .int (xs ((nI (4 * j) + 3)).toNatClampNeg)]) (rest := []) ⟨hx, hb, hml, hown, hts⟩ (c_M_debt l D (fun q : Nat => s.heap.size ≤ q) w_706 cI cL cD 0 h0 ma y ((((xs ((nI (4 * j) + 1)).toNatClampNeg : Int32).toInt64 <<< ((32 : Int32).toInt64 &&& 63)) ||| ((xs ((nI (4 * j) + 2)).toNatClampNeg : Int32).toInt64 &&& 4294967295))) (xs ((nI (4 * j) + 3)).toNatClampNeg) hM hw) (cwV 2 hts (gVT mB_473 mB_474 mB_475 mB_17 mB_476) rfl rfl rfl (by decide +kernel) ⟨(Nat.le_of_ble_eq_true rfl), (Nat.le_of_ble_eq_true rfl)⟩) ⟨mPc_bl, va_recv hK hP (ci := 3) (q0 := 0) rfl hM.1, mPc_pr hP hK hD⟩ rfl rfl hl.1 rfl (lv_room (Nat.le_of_ble_eq_true rfl)) d_L_law_248 ⟨by show 28 + 3 * (j + 1) + 0 ≤ 601024; omega, by show 1086 + 23 * (j + 1) + 0 ≤ 7293033; omega⟩) hS (fun _ _ h => h) (fun _ h => h) (fun v_708 u9 t H locs ht hvm ev_708 hB hz1 hk1 hS => ?_)
          obtain ⟨w_709, hP, hD, hU1⟩ := hB
          rw [ht] at hP
          subst ev_708
          have hC := hC.kb hU1.2.1 (fun j hj => hU1.2.2 j (by omega))
          have ho := (hU1.2.2 20 (by omega)).trans ho
          have hM := hU1.1
          have hst := hOK.2.2.2.1 j z y ((((xs ((nI (4 * j) + 1)).toNatClampNeg : Int32).toInt64 <<< ((32 : Int32).toInt64 &&& 63)) ||| ((xs ((nI (4 * j) + 2)).toNatClampNeg : Int32).toInt64 &&& 4294967295))) (xs ((nI (4 * j) + 3)).toNatClampNeg) hj5 hR
          refine lv_istore (lv' := [(6, .int ((g_debt y ((((xs ((nI (4 * j) + 1)).toNatClampNeg : Int32).toInt64 <<< ((32 : Int32).toInt64 &&& 63)) ||| ((xs ((nI (4 * j) + 2)).toNatClampNeg : Int32).toInt64 &&& 4294967295))) (xs ((nI (4 * j) + 3)).toNatClampNeg)).1)), (5, .int ((f_debt z ((((xs ((nI (4 * j) + 1)).toNatClampNeg : Int32).toInt64 <<< ((32 : Int32).toInt64 &&& 63)) ||| ((xs ((nI (4 * j) + 2)).toNatClampNeg : Int32).toInt64 &&& 4294967295))) (xs ((nI (4 * j) + 3)).toNatClampNeg)).1)), (4, .int (nI (4 * j))), (0, .ref b0), (1, .ref x), (2, .ref h0), (3, .ref oo)]) hx hb d_L_law_251 hl (by decide) rfl (fun ls hl => ?_)
          refine lv_aload_n hx hb d_L_law_253 rfl (lv_at hl 5 rfl) ?_
          refine vp_callSi (W.runV (As := []) (rest := []) ⟨hx, hb, hml, hown, hts⟩ (c_M_thrown l D (fun q : Nat => s.heap.size ≤ q) w_709 cI cL cD 0 h0 ma (g_debt y ((((xs ((nI (4 * j) + 1)).toNatClampNeg : Int32).toInt64 <<< ((32 : Int32).toInt64 &&& 63)) ||| ((xs ((nI (4 * j) + 2)).toNatClampNeg : Int32).toInt64 &&& 4294967295))) (xs ((nI (4 * j) + 3)).toNatClampNeg)).2 hM) (cwV 0 hts (gVT mB_461 mB_462 mB_463 mB_17 mB_464) rfl rfl rfl (by decide +kernel) ⟨(Nat.le_of_ble_eq_true rfl), (Nat.le_of_ble_eq_true rfl)⟩) ⟨mPc_bl, va_recv hK hP (ci := 3) (q0 := 0) rfl hM.1, mPc_pr hP hK hD⟩ rfl rfl hl.1 rfl (lv_room (Nat.le_of_ble_eq_true rfl)) d_L_law_254 ⟨by show 28 + 3 * (j + 1) + 0 ≤ 601024; omega, by show 1086 + 23 * (j + 1) + 0 ≤ 7293033; omega⟩) (fun v_710 ev_710 => ?_)
          have ev_710 : v_710 = m_thrown (g_debt y ((((xs ((nI (4 * j) + 1)).toNatClampNeg : Int32).toInt64 <<< ((32 : Int32).toInt64 &&& 63)) ||| ((xs ((nI (4 * j) + 2)).toNatClampNeg : Int32).toInt64 &&& 4294967295))) (xs ((nI (4 * j) + 3)).toNatClampNeg)).2 := ev_710.trans (by unfold g_thrown; rfl)
          subst ev_710
          refine lv_iload hx hb d_L_law_257 (lv_at hl 1 rfl) ?_
          refine lv_icmp_eq (tgt := 264) hx hb d_L_law_259 (by decide) (fun c_712 => ?_) (fun c_712 => ?_)
          · refine lv_iload hx hb d_L_law_264 (lv_at hl 1 rfl) ?_
            refine lv_if_ne (tgt := 281) hx hb d_L_law_266 (by decide) (fun c_713 => ?_) (fun c_713 => ?_)
            · refine lv_goto (tgt := 980) hx hb d_L_law_281 (by decide) ?_
              refine lv_iinc (v := nI (4 * (j + 1))) (lv' := [(4, .int (nI (4 * (j + 1)))), (6, .int ((g_debt y ((((xs ((nI (4 * j) + 1)).toNatClampNeg : Int32).toInt64 <<< ((32 : Int32).toInt64 &&& 63)) ||| ((xs ((nI (4 * j) + 2)).toNatClampNeg : Int32).toInt64 &&& 4294967295))) (xs ((nI (4 * j) + 3)).toNatClampNeg)).1)), (5, .int ((f_debt z ((((xs ((nI (4 * j) + 1)).toNatClampNeg : Int32).toInt64 <<< ((32 : Int32).toInt64 &&& 63)) ||| ((xs ((nI (4 * j) + 2)).toNatClampNeg : Int32).toInt64 &&& 4294967295))) (xs ((nI (4 * j) + 3)).toNatClampNeg)).1)), (0, .ref b0), (1, .ref x), (2, .ref h0), (3, .ref oo)]) hx hb d_L_law_980 hl (k := 2) rfl (nI_inc4 j) (by decide) rfl (fun ls hl => ?_)
              refine lv_goto (tgt := 23) hx hb d_L_law_983 (by decide) ?_
              exact ih (j + 1) (f_debt z ((((xs ((nI (4 * j) + 1)).toNatClampNeg : Int32).toInt64 <<< ((32 : Int32).toInt64 &&& 63)) ||| ((xs ((nI (4 * j) + 2)).toNatClampNeg : Int32).toInt64 &&& 4294967295))) (xs ((nI (4 * j) + 3)).toNatClampNeg)).2.2 (g_debt y ((((xs ((nI (4 * j) + 1)).toNatClampNeg : Int32).toInt64 <<< ((32 : Int32).toInt64 &&& 63)) ||| ((xs ((nI (4 * j) + 2)).toNatClampNeg : Int32).toInt64 &&& 4294967295))) (xs ((nI (4 * j) + 3)).toNatClampNeg)).2 fo_707 x h0 oo ma (by omega) (by omega) (by omega) (hst.2.2) w_709 _ _ hP hD hS hC hM ho ls (lv_sub hl [0, 3, 4, 5, 6] rfl)
            · refine lv_aload_n hx hb d_L_law_269 rfl (lv_at hl 6 rfl) ?_
              refine lv_iconst (v := 0) hx hb d_L_law_270 (by decide) ?_
              refine va_lald hx hb hK hP (20) 1 ho rfl (vp_in_nI (n := 0) (by decide) (by decide)) d_L_law_271 ?_
              refine lv_iload hx hb d_L_law_272 (lv_at hl 0 rfl) ?_
              refine lv_i2l hx hb d_L_law_274 rfl ?_
              refine W.lcmp hx hb d_L_law_275 ?_
              refine lv_if_eq (tgt := 281) hx hb d_L_law_276 (by decide) (fun c_714 => ?_) (fun c_714 => ?_)
              · have c_714 : (fo_707 (0 : Int32).toNatClampNeg) = ((g_debt y ((((xs ((nI (4 * j) + 1)).toNatClampNeg : Int32).toInt64 <<< ((32 : Int32).toInt64 &&& 63)) ||| ((xs ((nI (4 * j) + 2)).toNatClampNeg : Int32).toInt64 &&& 4294967295))) (xs ((nI (4 * j) + 3)).toNatClampNeg)).1 : Int32).toInt64 := (lg_cmp_eq _ _).mp c_714
                refine lv_goto (tgt := 980) hx hb d_L_law_281 (by decide) ?_
                refine lv_iinc (v := nI (4 * (j + 1))) (lv' := [(4, .int (nI (4 * (j + 1)))), (6, .int ((g_debt y ((((xs ((nI (4 * j) + 1)).toNatClampNeg : Int32).toInt64 <<< ((32 : Int32).toInt64 &&& 63)) ||| ((xs ((nI (4 * j) + 2)).toNatClampNeg : Int32).toInt64 &&& 4294967295))) (xs ((nI (4 * j) + 3)).toNatClampNeg)).1)), (5, .int ((f_debt z ((((xs ((nI (4 * j) + 1)).toNatClampNeg : Int32).toInt64 <<< ((32 : Int32).toInt64 &&& 63)) ||| ((xs ((nI (4 * j) + 2)).toNatClampNeg : Int32).toInt64 &&& 4294967295))) (xs ((nI (4 * j) + 3)).toNatClampNeg)).1)), (0, .ref b0), (1, .ref x), (2, .ref h0), (3, .ref oo)]) hx hb d_L_law_980 hl (k := 2) rfl (nI_inc4 j) (by decide) rfl (fun ls hl => ?_)
                refine lv_goto (tgt := 23) hx hb d_L_law_983 (by decide) ?_
                exact ih (j + 1) (f_debt z ((((xs ((nI (4 * j) + 1)).toNatClampNeg : Int32).toInt64 <<< ((32 : Int32).toInt64 &&& 63)) ||| ((xs ((nI (4 * j) + 2)).toNatClampNeg : Int32).toInt64 &&& 4294967295))) (xs ((nI (4 * j) + 3)).toNatClampNeg)).2.2 (g_debt y ((((xs ((nI (4 * j) + 1)).toNatClampNeg : Int32).toInt64 <<< ((32 : Int32).toInt64 &&& 63)) ||| ((xs ((nI (4 * j) + 2)).toNatClampNeg : Int32).toInt64 &&& 4294967295))) (xs ((nI (4 * j) + 3)).toNatClampNeg)).2 fo_707 x h0 oo ma (by omega) (by omega) (by omega) (hst.2.2) w_709 _ _ hP hD hS hC hM ho ls (lv_sub hl [0, 3, 4, 5, 6] rfl)
              · have c_714 : ¬ (fo_707 (0 : Int32).toNatClampNeg) = ((g_debt y ((((xs ((nI (4 * j) + 1)).toNatClampNeg : Int32).toInt64 <<< ((32 : Int32).toInt64 &&& 63)) ||| ((xs ((nI (4 * j) + 2)).toNatClampNeg : Int32).toInt64 &&& 4294967295))) (xs ((nI (4 * j) + 3)).toNatClampNeg)).1 : Int32).toInt64 := fun h9 => c_714 ((lg_cmp_eq _ _).mpr h9)
                exact absurd ((hfo c_713).trans (by rw [hst.2.1 c_713])) c_714
          · exact absurd (hst.1.symm) c_712
        · rcases Decidable.em ((xs (nI (4 * j)).toNatClampNeg &&& 15) = (2 : Int32)) with c_715 | c_715
          · refine lv_tableIn (tgt := 284) hx hb d_L_law_39 (by rw [c_715]; decide) (by rw [c_715]; decide) (by rw [c_715]; rfl) (by decide) ?_
            refine lv_aload_n hx hb d_L_law_284 rfl (lv_at hl 2 rfl) ?_
            refine lv_aload_n hx hb d_L_law_285 rfl (lv_at hl 1 rfl) ?_
            refine lv_iload hx hb d_L_law_286 (lv_at hl 0 rfl) ?_
            refine lv_iconst (v := 1) hx hb d_L_law_288 (by decide) ?_
            refine lv_iadd hx hb d_L_law_289 ?_
            refine va_sld hx hb hX hbl hbA hS ((show vp_in (nI (4 * j) + 1) L from lw_ix (k := 1) hL h44 (by decide))) d_L_law_290 ?_
            refine lv_aload_n hx hb d_L_law_291 rfl (lv_at hl 1 rfl) ?_
            refine lv_iload hx hb d_L_law_292 (lv_at hl 0 rfl) ?_
            refine lv_iconst (v := 2) hx hb d_L_law_294 (by decide) ?_
            refine lv_iadd hx hb d_L_law_295 ?_
            refine va_sld hx hb hX hbl hbA hS ((show vp_in (nI (4 * j) + 2) L from lw_ix (k := 2) hL h44 (by decide))) d_L_law_296 ?_
            obtain ⟨a, rfl, hC1⟩ := hC
            refine va_calli (va_runV (As := [.int (xs ((nI (4 * j) + 1)).toNatClampNeg), .int (xs ((nI (4 * j) + 2)).toNatClampNeg)]) (rest := []) ⟨hx, hb, hml, hown, hts⟩ (c_debtor l D (fun q : Nat => s.heap.size ≤ q) w cI cL cD 21 a z (xs ((nI (4 * j) + 1)).toNatClampNeg) (xs ((nI (4 * j) + 2)).toNatClampNeg) hC1) (cwV 2 hts (gVT mB_65 mB_66 mB_67 mB_15 mB_68) rfl rfl rfl (by decide +kernel) ⟨(Nat.le_of_ble_eq_true rfl), (Nat.le_of_ble_eq_true rfl)⟩) ⟨mPc_bl, va_recv hK hP (ci := 2) (q0 := 21) rfl hC1.x, mPc_pr hP hK hD⟩ rfl rfl hl.1 rfl (lv_room (Nat.le_of_ble_eq_true rfl)) d_L_law_297 ⟨by show 28 + 3 * j + 0 ≤ 601024; omega, by show 1086 + 23 * j + 0 ≤ 7293033; omega⟩) hS (fun _ _ h => h) (fun _ h => h) (fun v_716 u9 t H locs ht hvm ev_716 hB hz1 hk1 hS => ?_)
            obtain ⟨w_717, hP, hD, hC, hb9⟩ := hB
            rw [ht] at hP
            subst ev_716
            have hM := hM.kx (fun j _ hj => hb9 j (by omega))
            have ho := (hb9 20 (by omega)).trans ho
            refine W.widen (k := 28 + 3 * (j + 1)) (n := 1086 + 23 * (j + 1)) (by omega) (by omega) ?_
            refine lv_aload_n hx hb d_L_law_300 rfl (lv_at hl 3 rfl) ?_
            refine lv_aload_n hx hb d_L_law_301 rfl (lv_at hl 1 rfl) ?_
            refine lv_iload hx hb d_L_law_302 (lv_at hl 0 rfl) ?_
            refine lv_iconst (v := 1) hx hb d_L_law_304 (by decide) ?_
            refine lv_iadd hx hb d_L_law_305 ?_
            refine va_sld hx hb hX hbl hbA hS ((show vp_in (nI (4 * j) + 1) L from lw_ix (k := 1) hL h44 (by decide))) d_L_law_306 ?_
            refine lv_aload_n hx hb d_L_law_307 rfl (lv_at hl 1 rfl) ?_
            refine lv_iload hx hb d_L_law_308 (lv_at hl 0 rfl) ?_
            refine lv_iconst (v := 2) hx hb d_L_law_310 (by decide) ?_
            refine lv_iadd hx hb d_L_law_311 ?_
            refine va_sld hx hb hX hbl hbA hS ((show vp_in (nI (4 * j) + 2) L from lw_ix (k := 2) hL h44 (by decide))) d_L_law_312 ?_
            refine va_calli (va_runV (As := [.int (xs ((nI (4 * j) + 1)).toNatClampNeg), .int (xs ((nI (4 * j) + 2)).toNatClampNeg)]) (rest := [.int ((f_debtor z (xs ((nI (4 * j) + 1)).toNatClampNeg) (xs ((nI (4 * j) + 2)).toNatClampNeg)).1)]) ⟨hx, hb, hml, hown, hts⟩ (c_M_debtor l D (fun q : Nat => s.heap.size ≤ q) w_717 cI cL cD 0 h0 ma y (xs ((nI (4 * j) + 1)).toNatClampNeg) (xs ((nI (4 * j) + 2)).toNatClampNeg) hM hw) (cwV 2 hts (gVT mB_484 mB_485 mB_486 mB_17 mB_487) rfl rfl rfl (by decide +kernel) ⟨(Nat.le_of_ble_eq_true rfl), (Nat.le_of_ble_eq_true rfl)⟩) ⟨mPc_bl, va_recv hK hP (ci := 3) (q0 := 0) rfl hM.1, mPc_pr hP hK hD⟩ rfl rfl hl.1 rfl (lv_room (Nat.le_of_ble_eq_true rfl)) d_L_law_313 ⟨by show 28 + 3 * (j + 1) + 0 ≤ 601024; omega, by show 1086 + 23 * (j + 1) + 0 ≤ 7293033; omega⟩) hS (fun _ _ h => h) (fun _ h => h) (fun v_718 u9 t H locs ht hvm ev_718 hB hz1 hk1 hS => ?_)
            obtain ⟨w_719, hP, hD, hU1⟩ := hB
            rw [ht] at hP
            subst ev_718
            have hC := hC.kb hU1.2.1 (fun j hj => hU1.2.2 j (by omega))
            have ho := (hU1.2.2 20 (by omega)).trans ho
            have hM := hU1.1
            have hst := hOK.2.2.2.2.2.2.2.2.2.2.2.2.2.1 j z y (xs ((nI (4 * j) + 1)).toNatClampNeg) (xs ((nI (4 * j) + 2)).toNatClampNeg) hj5 hR
            refine lv_icmp_eq (tgt := 980) hx hb d_L_law_316 (by decide) (fun c_720 => ?_) (fun c_720 => ?_)
            · refine lv_iinc (v := nI (4 * (j + 1))) (lv' := [(4, .int (nI (4 * (j + 1)))), (0, .ref b0), (1, .ref (a_x a)), (2, .ref h0), (3, .ref oo)]) hx hb d_L_law_980 hl (k := 0) rfl (nI_inc4 j) (by decide) rfl (fun ls hl => ?_)
              refine lv_goto (tgt := 23) hx hb d_L_law_983 (by decide) ?_
              exact ih (j + 1) (f_debtor z (xs ((nI (4 * j) + 1)).toNatClampNeg) (xs ((nI (4 * j) + 2)).toNatClampNeg)).2 (g_debtor y (xs ((nI (4 * j) + 1)).toNatClampNeg) (xs ((nI (4 * j) + 2)).toNatClampNeg)).2 fo (a_x a) h0 oo ma (by omega) (by omega) (by omega) (hst.2) w_719 _ _ hP hD hS hC hM ho ls (lv_sub hl [0, 1, 2, 3, 4] rfl)
            · exact absurd (hst.1) c_720
          · rcases Decidable.em ((xs (nI (4 * j)).toNatClampNeg &&& 15) = (3 : Int32)) with c_721 | c_721
            · refine lv_tableIn (tgt := 321) hx hb d_L_law_39 (by rw [c_721]; decide) (by rw [c_721]; decide) (by rw [c_721]; rfl) (by decide) ?_
              refine lv_aload_n hx hb d_L_law_321 rfl (lv_at hl 2 rfl) ?_
              refine lv_aload_n hx hb d_L_law_322 rfl (lv_at hl 1 rfl) ?_
              refine lv_iload hx hb d_L_law_323 (lv_at hl 0 rfl) ?_
              refine lv_iconst (v := 1) hx hb d_L_law_325 (by decide) ?_
              refine lv_iadd hx hb d_L_law_326 ?_
              refine va_sld hx hb hX hbl hbA hS ((show vp_in (nI (4 * j) + 1) L from lw_ix (k := 1) hL h44 (by decide))) d_L_law_327 ?_
              refine lv_aload_n hx hb d_L_law_328 rfl (lv_at hl 4 rfl) ?_
              refine va_calli (vx_runSW (As := [.ref x, .int (xs ((nI (4 * j) + 1)).toNatClampNeg), .ref oo]) (rest := []) ⟨hx, hb, hml, hown, hts⟩ (c_L_notified l hl9 D (fun q : Nat => s.heap.size ≤ q) w cI cL cD 21 20 oo fo x z (xs ((nI (4 * j) + 1)).toNatClampNeg) hC ho (by decide)) (vx_cwSW 3 hts (gWT mB_248 mB_249 mB_14 mW_notified) rfl rfl rfl (by decide +kernel) ⟨(Nat.le_of_ble_eq_true rfl), (Nat.le_of_ble_eq_true rfl)⟩) ⟨hPc_bl, hPc_pr hP hK hD hE hS (fun _ h => h) hN⟩ rfl rfl hl.1 rfl (lv_room (Nat.le_of_ble_eq_true rfl)) d_L_law_329 ⟨by show 28 + 3 * j + 1 ≤ 601024; omega, by show 1086 + 23 * j + 6 ≤ 7293033; omega⟩) hS (fun _ _ h => h) (fun _ h => h) (fun v_722 u9 t H locs ht hvm ev_722 hB hz1 hk1 hS => ?_)
              obtain ⟨w_723, fo_724, hP, hD, hC, ho, hfo, hb9⟩ := hB
              rw [ht] at hP
              subst ev_722
              have hM := hM.kx (fun j _ hj => hb9 j (by omega) (by omega))
              refine W.widen (k := 28 + 3 * (j + 1)) (n := 1086 + 23 * (j + 1)) (by omega) (by omega) ?_
              refine lv_istore (lv' := [(5, .int ((f_notified z (xs ((nI (4 * j) + 1)).toNatClampNeg)).1)), (4, .int (nI (4 * j))), (0, .ref b0), (1, .ref x), (2, .ref h0), (3, .ref oo)]) hx hb d_L_law_332 hl (by decide) rfl (fun ls hl => ?_)
              refine lv_aload_n hx hb d_L_law_334 rfl (lv_at hl 4 rfl) ?_
              refine lv_aload_n hx hb d_L_law_335 rfl (lv_at hl 2 rfl) ?_
              refine lv_iload hx hb d_L_law_336 (lv_at hl 1 rfl) ?_
              refine lv_iconst (v := 1) hx hb d_L_law_338 (by decide) ?_
              refine lv_iadd hx hb d_L_law_339 ?_
              refine va_sld hx hb hX hbl hbA hS ((show vp_in (nI (4 * j) + 1) L from lw_ix (k := 1) hL h44 (by decide))) d_L_law_340 ?_
              refine va_calli (va_runV (As := [.int (xs ((nI (4 * j) + 1)).toNatClampNeg)]) (rest := []) ⟨hx, hb, hml, hown, hts⟩ (c_M_notified l D (fun q : Nat => s.heap.size ≤ q) w_723 cI cL cD 0 h0 ma y (xs ((nI (4 * j) + 1)).toNatClampNeg) hM hw) (cwV 1 hts (gVT mB_494 mB_495 mB_496 mB_17 mB_497) rfl rfl rfl (by decide +kernel) ⟨(Nat.le_of_ble_eq_true rfl), (Nat.le_of_ble_eq_true rfl)⟩) ⟨mPc_bl, va_recv hK hP (ci := 3) (q0 := 0) rfl hM.1, mPc_pr hP hK hD⟩ rfl rfl hl.1 rfl (lv_room (Nat.le_of_ble_eq_true rfl)) d_L_law_341 ⟨by show 28 + 3 * (j + 1) + 0 ≤ 601024; omega, by show 1086 + 23 * (j + 1) + 0 ≤ 7293033; omega⟩) hS (fun _ _ h => h) (fun _ h => h) (fun v_725 u9 t H locs ht hvm ev_725 hB hz1 hk1 hS => ?_)
              obtain ⟨w_726, hP, hD, hU1⟩ := hB
              rw [ht] at hP
              subst ev_725
              have hC := hC.kb hU1.2.1 (fun j hj => hU1.2.2 j (by omega))
              have ho := (hU1.2.2 20 (by omega)).trans ho
              have hM := hU1.1
              have hst := hOK.2.2.2.2.1 j z y (xs ((nI (4 * j) + 1)).toNatClampNeg) hj5 hR
              refine lv_istore (lv' := [(6, .int ((g_notified y (xs ((nI (4 * j) + 1)).toNatClampNeg)).1)), (5, .int ((f_notified z (xs ((nI (4 * j) + 1)).toNatClampNeg)).1)), (4, .int (nI (4 * j))), (0, .ref b0), (1, .ref x), (2, .ref h0), (3, .ref oo)]) hx hb d_L_law_344 hl (by decide) rfl (fun ls hl => ?_)
              refine lv_aload_n hx hb d_L_law_346 rfl (lv_at hl 5 rfl) ?_
              refine vp_callSi (W.runV (As := []) (rest := []) ⟨hx, hb, hml, hown, hts⟩ (c_M_thrown l D (fun q : Nat => s.heap.size ≤ q) w_726 cI cL cD 0 h0 ma (g_notified y (xs ((nI (4 * j) + 1)).toNatClampNeg)).2 hM) (cwV 0 hts (gVT mB_461 mB_462 mB_463 mB_17 mB_464) rfl rfl rfl (by decide +kernel) ⟨(Nat.le_of_ble_eq_true rfl), (Nat.le_of_ble_eq_true rfl)⟩) ⟨mPc_bl, va_recv hK hP (ci := 3) (q0 := 0) rfl hM.1, mPc_pr hP hK hD⟩ rfl rfl hl.1 rfl (lv_room (Nat.le_of_ble_eq_true rfl)) d_L_law_347 ⟨by show 28 + 3 * (j + 1) + 0 ≤ 601024; omega, by show 1086 + 23 * (j + 1) + 0 ≤ 7293033; omega⟩) (fun v_727 ev_727 => ?_)
              have ev_727 : v_727 = m_thrown (g_notified y (xs ((nI (4 * j) + 1)).toNatClampNeg)).2 := ev_727.trans (by unfold g_thrown; rfl)
              subst ev_727
              refine lv_iload hx hb d_L_law_350 (lv_at hl 1 rfl) ?_
              refine lv_icmp_eq (tgt := 357) hx hb d_L_law_352 (by decide) (fun c_729 => ?_) (fun c_729 => ?_)
              · refine lv_iload hx hb d_L_law_357 (lv_at hl 1 rfl) ?_
                refine lv_if_ne (tgt := 374) hx hb d_L_law_359 (by decide) (fun c_730 => ?_) (fun c_730 => ?_)
                · refine lv_goto (tgt := 980) hx hb d_L_law_374 (by decide) ?_
                  refine lv_iinc (v := nI (4 * (j + 1))) (lv' := [(4, .int (nI (4 * (j + 1)))), (6, .int ((g_notified y (xs ((nI (4 * j) + 1)).toNatClampNeg)).1)), (5, .int ((f_notified z (xs ((nI (4 * j) + 1)).toNatClampNeg)).1)), (0, .ref b0), (1, .ref x), (2, .ref h0), (3, .ref oo)]) hx hb d_L_law_980 hl (k := 2) rfl (nI_inc4 j) (by decide) rfl (fun ls hl => ?_)
                  refine lv_goto (tgt := 23) hx hb d_L_law_983 (by decide) ?_
                  exact ih (j + 1) (f_notified z (xs ((nI (4 * j) + 1)).toNatClampNeg)).2.2 (g_notified y (xs ((nI (4 * j) + 1)).toNatClampNeg)).2 fo_724 x h0 oo ma (by omega) (by omega) (by omega) (hst.2.2) w_726 _ _ hP hD hS hC hM ho ls (lv_sub hl [0, 3, 4, 5, 6] rfl)
                · refine lv_aload_n hx hb d_L_law_362 rfl (lv_at hl 6 rfl) ?_
                  refine lv_iconst (v := 0) hx hb d_L_law_363 (by decide) ?_
                  refine va_lald hx hb hK hP (20) 1 ho rfl (vp_in_nI (n := 0) (by decide) (by decide)) d_L_law_364 ?_
                  refine lv_iload hx hb d_L_law_365 (lv_at hl 0 rfl) ?_
                  refine lv_i2l hx hb d_L_law_367 rfl ?_
                  refine W.lcmp hx hb d_L_law_368 ?_
                  refine lv_if_eq (tgt := 374) hx hb d_L_law_369 (by decide) (fun c_731 => ?_) (fun c_731 => ?_)
                  · have c_731 : (fo_724 (0 : Int32).toNatClampNeg) = ((g_notified y (xs ((nI (4 * j) + 1)).toNatClampNeg)).1 : Int32).toInt64 := (lg_cmp_eq _ _).mp c_731
                    refine lv_goto (tgt := 980) hx hb d_L_law_374 (by decide) ?_
                    refine lv_iinc (v := nI (4 * (j + 1))) (lv' := [(4, .int (nI (4 * (j + 1)))), (6, .int ((g_notified y (xs ((nI (4 * j) + 1)).toNatClampNeg)).1)), (5, .int ((f_notified z (xs ((nI (4 * j) + 1)).toNatClampNeg)).1)), (0, .ref b0), (1, .ref x), (2, .ref h0), (3, .ref oo)]) hx hb d_L_law_980 hl (k := 2) rfl (nI_inc4 j) (by decide) rfl (fun ls hl => ?_)
                    refine lv_goto (tgt := 23) hx hb d_L_law_983 (by decide) ?_
                    exact ih (j + 1) (f_notified z (xs ((nI (4 * j) + 1)).toNatClampNeg)).2.2 (g_notified y (xs ((nI (4 * j) + 1)).toNatClampNeg)).2 fo_724 x h0 oo ma (by omega) (by omega) (by omega) (hst.2.2) w_726 _ _ hP hD hS hC hM ho ls (lv_sub hl [0, 3, 4, 5, 6] rfl)
                  · have c_731 : ¬ (fo_724 (0 : Int32).toNatClampNeg) = ((g_notified y (xs ((nI (4 * j) + 1)).toNatClampNeg)).1 : Int32).toInt64 := fun h9 => c_731 ((lg_cmp_eq _ _).mpr h9)
                    exact absurd ((hfo c_730).trans (by rw [hst.2.1 c_730])) c_731
              · exact absurd (hst.1.symm) c_729
            · rcases Decidable.em ((xs (nI (4 * j)).toNatClampNeg &&& 15) = (4 : Int32)) with c_732 | c_732
              · refine lv_tableIn (tgt := 377) hx hb d_L_law_39 (by rw [c_732]; decide) (by rw [c_732]; decide) (by rw [c_732]; rfl) (by decide) ?_
                refine lv_aload_n hx hb d_L_law_377 rfl (lv_at hl 2 rfl) ?_
                refine lv_aload_n hx hb d_L_law_378 rfl (lv_at hl 1 rfl) ?_
                refine lv_iload hx hb d_L_law_379 (lv_at hl 0 rfl) ?_
                refine lv_iconst (v := 1) hx hb d_L_law_381 (by decide) ?_
                refine lv_iadd hx hb d_L_law_382 ?_
                refine va_sld hx hb hX hbl hbA hS ((show vp_in (nI (4 * j) + 1) L from lw_ix (k := 1) hL h44 (by decide))) d_L_law_383 ?_
                refine lv_aload_n hx hb d_L_law_384 rfl (lv_at hl 1 rfl) ?_
                refine lv_iload hx hb d_L_law_385 (lv_at hl 0 rfl) ?_
                refine lv_iconst (v := 2) hx hb d_L_law_387 (by decide) ?_
                refine lv_iadd hx hb d_L_law_388 ?_
                refine va_sld hx hb hX hbl hbA hS ((show vp_in (nI (4 * j) + 2) L from lw_ix (k := 2) hL h44 (by decide))) d_L_law_389 ?_
                refine lv_i2l hx hb d_L_law_390 rfl ?_
                refine lv_bipush (v := 32) hx hb d_L_law_391 (by decide) ?_
                refine lv_lshl hx hb d_L_law_393 rfl ?_
                refine lv_aload_n hx hb d_L_law_394 rfl (lv_at hl 1 rfl) ?_
                refine lv_iload hx hb d_L_law_395 (lv_at hl 0 rfl) ?_
                refine lv_iconst (v := 3) hx hb d_L_law_397 (by decide) ?_
                refine lv_iadd hx hb d_L_law_398 ?_
                refine va_sld hx hb hX hbl hbA hS ((show vp_in (nI (4 * j) + 3) L from lw_ix (k := 3) hL h44 (by decide))) d_L_law_399 ?_
                refine lv_i2l hx hb d_L_law_400 rfl ?_
                refine lv_ldc2 (own := R_L) (index := 72) (v := 4294967295) hx hb hown (hts (.constantLong R_L 72 (4294967295)) (BIG_in _ mB_563)) d_L_law_401 ?_
                refine lv_land hx hb d_L_law_404 ?_
                refine lv_lor hx hb d_L_law_405 ?_
                refine lv_aload_n hx hb d_L_law_406 rfl (lv_at hl 4 rfl) ?_
                refine va_calli (vx_runSW (As := [.ref x, .int (xs ((nI (4 * j) + 1)).toNatClampNeg), .long ((((xs ((nI (4 * j) + 2)).toNatClampNeg : Int32).toInt64 <<< ((32 : Int32).toInt64 &&& 63)) ||| ((xs ((nI (4 * j) + 3)).toNatClampNeg : Int32).toInt64 &&& 4294967295))), .ref oo]) (rest := []) ⟨hx, hb, hml, hown, hts⟩ (c_L_pay l hl9 D (fun q : Nat => s.heap.size ≤ q) w cI cL cD 21 20 oo fo x z (xs ((nI (4 * j) + 1)).toNatClampNeg) ((((xs ((nI (4 * j) + 2)).toNatClampNeg : Int32).toInt64 <<< ((32 : Int32).toInt64 &&& 63)) ||| ((xs ((nI (4 * j) + 3)).toNatClampNeg : Int32).toInt64 &&& 4294967295))) hC ho (by decide)) (vx_cwSW 4 hts (gWT mB_268 mB_269 mB_14 mW_pay) rfl rfl rfl (by decide +kernel) ⟨(Nat.le_of_ble_eq_true rfl), (Nat.le_of_ble_eq_true rfl)⟩) ⟨hPc_bl, hPc_pr hP hK hD hE hS (fun _ h => h) hN⟩ rfl rfl hl.1 rfl (lv_room (Nat.le_of_ble_eq_true rfl)) d_L_law_407 ⟨by show 28 + 3 * j + 1 ≤ 601024; omega, by show 1086 + 23 * j + 6 ≤ 7293033; omega⟩) hS (fun _ _ h => h) (fun _ h => h) (fun v_733 u9 t H locs ht hvm ev_733 hB hz1 hk1 hS => ?_)
                obtain ⟨w_734, fo_735, hP, hD, hC, ho, hfo, hb9⟩ := hB
                rw [ht] at hP
                subst ev_733
                have hM := hM.kx (fun j _ hj => hb9 j (by omega) (by omega))
                refine W.widen (k := 28 + 3 * (j + 1)) (n := 1086 + 23 * (j + 1)) (by omega) (by omega) ?_
                refine lv_istore (lv' := [(5, .int ((f_pay z (xs ((nI (4 * j) + 1)).toNatClampNeg) ((((xs ((nI (4 * j) + 2)).toNatClampNeg : Int32).toInt64 <<< ((32 : Int32).toInt64 &&& 63)) ||| ((xs ((nI (4 * j) + 3)).toNatClampNeg : Int32).toInt64 &&& 4294967295)))).1)), (4, .int (nI (4 * j))), (0, .ref b0), (1, .ref x), (2, .ref h0), (3, .ref oo)]) hx hb d_L_law_410 hl (by decide) rfl (fun ls hl => ?_)
                refine lv_aload_n hx hb d_L_law_412 rfl (lv_at hl 4 rfl) ?_
                refine lv_aload_n hx hb d_L_law_413 rfl (lv_at hl 2 rfl) ?_
                refine lv_iload hx hb d_L_law_414 (lv_at hl 1 rfl) ?_
                refine lv_iconst (v := 1) hx hb d_L_law_416 (by decide) ?_
                refine lv_iadd hx hb d_L_law_417 ?_
                refine va_sld hx hb hX hbl hbA hS ((show vp_in (nI (4 * j) + 1) L from lw_ix (k := 1) hL h44 (by decide))) d_L_law_418 ?_
                refine lv_aload_n hx hb d_L_law_419 rfl (lv_at hl 2 rfl) ?_
                refine lv_iload hx hb d_L_law_420 (lv_at hl 1 rfl) ?_
                refine lv_iconst (v := 2) hx hb d_L_law_422 (by decide) ?_
                refine lv_iadd hx hb d_L_law_423 ?_
                refine va_sld hx hb hX hbl hbA hS ((show vp_in (nI (4 * j) + 2) L from lw_ix (k := 2) hL h44 (by decide))) d_L_law_424 ?_
                refine lv_i2l hx hb d_L_law_425 rfl ?_
                refine lv_bipush (v := 32) hx hb d_L_law_426 (by decide) ?_
                refine lv_lshl hx hb d_L_law_428 rfl ?_
                refine lv_aload_n hx hb d_L_law_429 rfl (lv_at hl 2 rfl) ?_
                refine lv_iload hx hb d_L_law_430 (lv_at hl 1 rfl) ?_
                refine lv_iconst (v := 3) hx hb d_L_law_432 (by decide) ?_
                refine lv_iadd hx hb d_L_law_433 ?_
                refine va_sld hx hb hX hbl hbA hS ((show vp_in (nI (4 * j) + 3) L from lw_ix (k := 3) hL h44 (by decide))) d_L_law_434 ?_
                refine lv_i2l hx hb d_L_law_435 rfl ?_
                refine lv_ldc2 (own := R_L) (index := 72) (v := 4294967295) hx hb hown (hts (.constantLong R_L 72 (4294967295)) (BIG_in _ mB_563)) d_L_law_436 ?_
                refine lv_land hx hb d_L_law_439 ?_
                refine lv_lor hx hb d_L_law_440 ?_
                refine va_calli (va_runV (As := [.int (xs ((nI (4 * j) + 1)).toNatClampNeg), .long ((((xs ((nI (4 * j) + 2)).toNatClampNeg : Int32).toInt64 <<< ((32 : Int32).toInt64 &&& 63)) ||| ((xs ((nI (4 * j) + 3)).toNatClampNeg : Int32).toInt64 &&& 4294967295)))]) (rest := []) ⟨hx, hb, hml, hown, hts⟩ (c_M_pay l D (fun q : Nat => s.heap.size ≤ q) w_734 cI cL cD 0 h0 ma y (xs ((nI (4 * j) + 1)).toNatClampNeg) ((((xs ((nI (4 * j) + 2)).toNatClampNeg : Int32).toInt64 <<< ((32 : Int32).toInt64 &&& 63)) ||| ((xs ((nI (4 * j) + 3)).toNatClampNeg : Int32).toInt64 &&& 4294967295))) hM hw) (cwV 2 hts (gVT mB_498 mB_499 mB_500 mB_17 mB_501) rfl rfl rfl (by decide +kernel) ⟨(Nat.le_of_ble_eq_true rfl), (Nat.le_of_ble_eq_true rfl)⟩) ⟨mPc_bl, va_recv hK hP (ci := 3) (q0 := 0) rfl hM.1, mPc_pr hP hK hD⟩ rfl rfl hl.1 rfl (lv_room (Nat.le_of_ble_eq_true rfl)) d_L_law_441 ⟨by show 28 + 3 * (j + 1) + 0 ≤ 601024; omega, by show 1086 + 23 * (j + 1) + 0 ≤ 7293033; omega⟩) hS (fun _ _ h => h) (fun _ h => h) (fun v_736 u9 t H locs ht hvm ev_736 hB hz1 hk1 hS => ?_)
                obtain ⟨w_737, hP, hD, hU1⟩ := hB
                rw [ht] at hP
                subst ev_736
                have hC := hC.kb hU1.2.1 (fun j hj => hU1.2.2 j (by omega))
                have ho := (hU1.2.2 20 (by omega)).trans ho
                have hM := hU1.1
                have hst := hOK.2.2.2.2.2.1 j z y (xs ((nI (4 * j) + 1)).toNatClampNeg) ((((xs ((nI (4 * j) + 2)).toNatClampNeg : Int32).toInt64 <<< ((32 : Int32).toInt64 &&& 63)) ||| ((xs ((nI (4 * j) + 3)).toNatClampNeg : Int32).toInt64 &&& 4294967295))) hj5 hR
                refine lv_istore (lv' := [(6, .int ((g_pay y (xs ((nI (4 * j) + 1)).toNatClampNeg) ((((xs ((nI (4 * j) + 2)).toNatClampNeg : Int32).toInt64 <<< ((32 : Int32).toInt64 &&& 63)) ||| ((xs ((nI (4 * j) + 3)).toNatClampNeg : Int32).toInt64 &&& 4294967295)))).1)), (5, .int ((f_pay z (xs ((nI (4 * j) + 1)).toNatClampNeg) ((((xs ((nI (4 * j) + 2)).toNatClampNeg : Int32).toInt64 <<< ((32 : Int32).toInt64 &&& 63)) ||| ((xs ((nI (4 * j) + 3)).toNatClampNeg : Int32).toInt64 &&& 4294967295)))).1)), (4, .int (nI (4 * j))), (0, .ref b0), (1, .ref x), (2, .ref h0), (3, .ref oo)]) hx hb d_L_law_444 hl (by decide) rfl (fun ls hl => ?_)
                refine lv_aload_n hx hb d_L_law_446 rfl (lv_at hl 5 rfl) ?_
                refine vp_callSi (W.runV (As := []) (rest := []) ⟨hx, hb, hml, hown, hts⟩ (c_M_thrown l D (fun q : Nat => s.heap.size ≤ q) w_737 cI cL cD 0 h0 ma (g_pay y (xs ((nI (4 * j) + 1)).toNatClampNeg) ((((xs ((nI (4 * j) + 2)).toNatClampNeg : Int32).toInt64 <<< ((32 : Int32).toInt64 &&& 63)) ||| ((xs ((nI (4 * j) + 3)).toNatClampNeg : Int32).toInt64 &&& 4294967295)))).2 hM) (cwV 0 hts (gVT mB_461 mB_462 mB_463 mB_17 mB_464) rfl rfl rfl (by decide +kernel) ⟨(Nat.le_of_ble_eq_true rfl), (Nat.le_of_ble_eq_true rfl)⟩) ⟨mPc_bl, va_recv hK hP (ci := 3) (q0 := 0) rfl hM.1, mPc_pr hP hK hD⟩ rfl rfl hl.1 rfl (lv_room (Nat.le_of_ble_eq_true rfl)) d_L_law_447 ⟨by show 28 + 3 * (j + 1) + 0 ≤ 601024; omega, by show 1086 + 23 * (j + 1) + 0 ≤ 7293033; omega⟩) (fun v_738 ev_738 => ?_)
                have ev_738 : v_738 = m_thrown (g_pay y (xs ((nI (4 * j) + 1)).toNatClampNeg) ((((xs ((nI (4 * j) + 2)).toNatClampNeg : Int32).toInt64 <<< ((32 : Int32).toInt64 &&& 63)) ||| ((xs ((nI (4 * j) + 3)).toNatClampNeg : Int32).toInt64 &&& 4294967295)))).2 := ev_738.trans (by unfold g_thrown; rfl)
                subst ev_738
                refine lv_iload hx hb d_L_law_450 (lv_at hl 1 rfl) ?_
                refine lv_icmp_eq (tgt := 457) hx hb d_L_law_452 (by decide) (fun c_740 => ?_) (fun c_740 => ?_)
                · refine lv_iload hx hb d_L_law_457 (lv_at hl 1 rfl) ?_
                  refine lv_if_ne (tgt := 474) hx hb d_L_law_459 (by decide) (fun c_741 => ?_) (fun c_741 => ?_)
                  · refine lv_goto (tgt := 980) hx hb d_L_law_474 (by decide) ?_
                    refine lv_iinc (v := nI (4 * (j + 1))) (lv' := [(4, .int (nI (4 * (j + 1)))), (6, .int ((g_pay y (xs ((nI (4 * j) + 1)).toNatClampNeg) ((((xs ((nI (4 * j) + 2)).toNatClampNeg : Int32).toInt64 <<< ((32 : Int32).toInt64 &&& 63)) ||| ((xs ((nI (4 * j) + 3)).toNatClampNeg : Int32).toInt64 &&& 4294967295)))).1)), (5, .int ((f_pay z (xs ((nI (4 * j) + 1)).toNatClampNeg) ((((xs ((nI (4 * j) + 2)).toNatClampNeg : Int32).toInt64 <<< ((32 : Int32).toInt64 &&& 63)) ||| ((xs ((nI (4 * j) + 3)).toNatClampNeg : Int32).toInt64 &&& 4294967295)))).1)), (0, .ref b0), (1, .ref x), (2, .ref h0), (3, .ref oo)]) hx hb d_L_law_980 hl (k := 2) rfl (nI_inc4 j) (by decide) rfl (fun ls hl => ?_)
                    refine lv_goto (tgt := 23) hx hb d_L_law_983 (by decide) ?_
                    exact ih (j + 1) (f_pay z (xs ((nI (4 * j) + 1)).toNatClampNeg) ((((xs ((nI (4 * j) + 2)).toNatClampNeg : Int32).toInt64 <<< ((32 : Int32).toInt64 &&& 63)) ||| ((xs ((nI (4 * j) + 3)).toNatClampNeg : Int32).toInt64 &&& 4294967295)))).2.2 (g_pay y (xs ((nI (4 * j) + 1)).toNatClampNeg) ((((xs ((nI (4 * j) + 2)).toNatClampNeg : Int32).toInt64 <<< ((32 : Int32).toInt64 &&& 63)) ||| ((xs ((nI (4 * j) + 3)).toNatClampNeg : Int32).toInt64 &&& 4294967295)))).2 fo_735 x h0 oo ma (by omega) (by omega) (by omega) (hst.2.2) w_737 _ _ hP hD hS hC hM ho ls (lv_sub hl [0, 3, 4, 5, 6] rfl)
                  · refine lv_aload_n hx hb d_L_law_462 rfl (lv_at hl 6 rfl) ?_
                    refine lv_iconst (v := 0) hx hb d_L_law_463 (by decide) ?_
                    refine va_lald hx hb hK hP (20) 1 ho rfl (vp_in_nI (n := 0) (by decide) (by decide)) d_L_law_464 ?_
                    refine lv_iload hx hb d_L_law_465 (lv_at hl 0 rfl) ?_
                    refine lv_i2l hx hb d_L_law_467 rfl ?_
                    refine W.lcmp hx hb d_L_law_468 ?_
                    refine lv_if_eq (tgt := 474) hx hb d_L_law_469 (by decide) (fun c_742 => ?_) (fun c_742 => ?_)
                    · have c_742 : (fo_735 (0 : Int32).toNatClampNeg) = ((g_pay y (xs ((nI (4 * j) + 1)).toNatClampNeg) ((((xs ((nI (4 * j) + 2)).toNatClampNeg : Int32).toInt64 <<< ((32 : Int32).toInt64 &&& 63)) ||| ((xs ((nI (4 * j) + 3)).toNatClampNeg : Int32).toInt64 &&& 4294967295)))).1 : Int32).toInt64 := (lg_cmp_eq _ _).mp c_742
                      refine lv_goto (tgt := 980) hx hb d_L_law_474 (by decide) ?_
                      refine lv_iinc (v := nI (4 * (j + 1))) (lv' := [(4, .int (nI (4 * (j + 1)))), (6, .int ((g_pay y (xs ((nI (4 * j) + 1)).toNatClampNeg) ((((xs ((nI (4 * j) + 2)).toNatClampNeg : Int32).toInt64 <<< ((32 : Int32).toInt64 &&& 63)) ||| ((xs ((nI (4 * j) + 3)).toNatClampNeg : Int32).toInt64 &&& 4294967295)))).1)), (5, .int ((f_pay z (xs ((nI (4 * j) + 1)).toNatClampNeg) ((((xs ((nI (4 * j) + 2)).toNatClampNeg : Int32).toInt64 <<< ((32 : Int32).toInt64 &&& 63)) ||| ((xs ((nI (4 * j) + 3)).toNatClampNeg : Int32).toInt64 &&& 4294967295)))).1)), (0, .ref b0), (1, .ref x), (2, .ref h0), (3, .ref oo)]) hx hb d_L_law_980 hl (k := 2) rfl (nI_inc4 j) (by decide) rfl (fun ls hl => ?_)
                      refine lv_goto (tgt := 23) hx hb d_L_law_983 (by decide) ?_
                      exact ih (j + 1) (f_pay z (xs ((nI (4 * j) + 1)).toNatClampNeg) ((((xs ((nI (4 * j) + 2)).toNatClampNeg : Int32).toInt64 <<< ((32 : Int32).toInt64 &&& 63)) ||| ((xs ((nI (4 * j) + 3)).toNatClampNeg : Int32).toInt64 &&& 4294967295)))).2.2 (g_pay y (xs ((nI (4 * j) + 1)).toNatClampNeg) ((((xs ((nI (4 * j) + 2)).toNatClampNeg : Int32).toInt64 <<< ((32 : Int32).toInt64 &&& 63)) ||| ((xs ((nI (4 * j) + 3)).toNatClampNeg : Int32).toInt64 &&& 4294967295)))).2 fo_735 x h0 oo ma (by omega) (by omega) (by omega) (hst.2.2) w_737 _ _ hP hD hS hC hM ho ls (lv_sub hl [0, 3, 4, 5, 6] rfl)
                    · have c_742 : ¬ (fo_735 (0 : Int32).toNatClampNeg) = ((g_pay y (xs ((nI (4 * j) + 1)).toNatClampNeg) ((((xs ((nI (4 * j) + 2)).toNatClampNeg : Int32).toInt64 <<< ((32 : Int32).toInt64 &&& 63)) ||| ((xs ((nI (4 * j) + 3)).toNatClampNeg : Int32).toInt64 &&& 4294967295)))).1 : Int32).toInt64 := fun h9 => c_742 ((lg_cmp_eq _ _).mpr h9)
                      exact absurd ((hfo c_741).trans (by rw [hst.2.1 c_741])) c_742
                · exact absurd (hst.1.symm) c_740
              · rcases Decidable.em ((xs (nI (4 * j)).toNatClampNeg &&& 15) = (5 : Int32)) with c_743 | c_743
                · refine lv_tableIn (tgt := 477) hx hb d_L_law_39 (by rw [c_743]; decide) (by rw [c_743]; decide) (by rw [c_743]; rfl) (by decide) ?_
                  refine lv_aload_n hx hb d_L_law_477 rfl (lv_at hl 2 rfl) ?_
                  refine lv_aload_n hx hb d_L_law_478 rfl (lv_at hl 1 rfl) ?_
                  refine lv_iload hx hb d_L_law_479 (lv_at hl 0 rfl) ?_
                  refine lv_iconst (v := 1) hx hb d_L_law_481 (by decide) ?_
                  refine lv_iadd hx hb d_L_law_482 ?_
                  refine va_sld hx hb hX hbl hbA hS ((show vp_in (nI (4 * j) + 1) L from lw_ix (k := 1) hL h44 (by decide))) d_L_law_483 ?_
                  refine lv_aload_n hx hb d_L_law_484 rfl (lv_at hl 1 rfl) ?_
                  refine lv_iload hx hb d_L_law_485 (lv_at hl 0 rfl) ?_
                  refine lv_iconst (v := 2) hx hb d_L_law_487 (by decide) ?_
                  refine lv_iadd hx hb d_L_law_488 ?_
                  refine va_sld hx hb hX hbl hbA hS ((show vp_in (nI (4 * j) + 2) L from lw_ix (k := 2) hL h44 (by decide))) d_L_law_489 ?_
                  refine lv_aload_n hx hb d_L_law_490 rfl (lv_at hl 4 rfl) ?_
                  refine va_calli (vx_runSW (As := [.ref x, .int (xs ((nI (4 * j) + 1)).toNatClampNeg), .int (xs ((nI (4 * j) + 2)).toNatClampNeg), .ref oo]) (rest := []) ⟨hx, hb, hml, hown, hts⟩ (c_L_instalments l hl9 D (fun q : Nat => s.heap.size ≤ q) w cI cL cD 21 20 oo fo x z (xs ((nI (4 * j) + 1)).toNatClampNeg) (xs ((nI (4 * j) + 2)).toNatClampNeg) hC ho (by decide)) (vx_cwSW 4 hts (gWT mB_316 mB_317 mB_14 mW_instalments) rfl rfl rfl (by decide +kernel) ⟨(Nat.le_of_ble_eq_true rfl), (Nat.le_of_ble_eq_true rfl)⟩) ⟨hPc_bl, hPc_pr hP hK hD hE hS (fun _ h => h) hN⟩ rfl rfl hl.1 rfl (lv_room (Nat.le_of_ble_eq_true rfl)) d_L_law_491 ⟨by show 28 + 3 * j + 2 ≤ 601024; omega, by show 1086 + 23 * j + 12 ≤ 7293033; omega⟩) hS (fun _ _ h => h) (fun _ h => h) (fun v_744 u9 t H locs ht hvm ev_744 hB hz1 hk1 hS => ?_)
                  obtain ⟨w_745, fo_746, hP, hD, hC, ho, hfo, hb9⟩ := hB
                  rw [ht] at hP
                  subst ev_744
                  have hM := hM.kx (fun j _ hj => hb9 j (by omega) (by omega))
                  refine W.widen (k := 28 + 3 * (j + 1)) (n := 1086 + 23 * (j + 1)) (by omega) (by omega) ?_
                  refine lv_istore (lv' := [(5, .int ((f_instalments z (xs ((nI (4 * j) + 1)).toNatClampNeg) (xs ((nI (4 * j) + 2)).toNatClampNeg)).1)), (4, .int (nI (4 * j))), (0, .ref b0), (1, .ref x), (2, .ref h0), (3, .ref oo)]) hx hb d_L_law_494 hl (by decide) rfl (fun ls hl => ?_)
                  refine lv_aload_n hx hb d_L_law_496 rfl (lv_at hl 4 rfl) ?_
                  refine lv_aload_n hx hb d_L_law_497 rfl (lv_at hl 2 rfl) ?_
                  refine lv_iload hx hb d_L_law_498 (lv_at hl 1 rfl) ?_
                  refine lv_iconst (v := 1) hx hb d_L_law_500 (by decide) ?_
                  refine lv_iadd hx hb d_L_law_501 ?_
                  refine va_sld hx hb hX hbl hbA hS ((show vp_in (nI (4 * j) + 1) L from lw_ix (k := 1) hL h44 (by decide))) d_L_law_502 ?_
                  refine lv_aload_n hx hb d_L_law_503 rfl (lv_at hl 2 rfl) ?_
                  refine lv_iload hx hb d_L_law_504 (lv_at hl 1 rfl) ?_
                  refine lv_iconst (v := 2) hx hb d_L_law_506 (by decide) ?_
                  refine lv_iadd hx hb d_L_law_507 ?_
                  refine va_sld hx hb hX hbl hbA hS ((show vp_in (nI (4 * j) + 2) L from lw_ix (k := 2) hL h44 (by decide))) d_L_law_508 ?_
                  refine va_calli (va_runV (As := [.int (xs ((nI (4 * j) + 1)).toNatClampNeg), .int (xs ((nI (4 * j) + 2)).toNatClampNeg)]) (rest := []) ⟨hx, hb, hml, hown, hts⟩ (c_M_instalments l D (fun q : Nat => s.heap.size ≤ q) w_745 cI cL cD 0 h0 ma y (xs ((nI (4 * j) + 1)).toNatClampNeg) (xs ((nI (4 * j) + 2)).toNatClampNeg) hM hw) (cwV 2 hts (gVT mB_519 mB_520 mB_521 mB_17 mB_522) rfl rfl rfl (by decide +kernel) ⟨(Nat.le_of_ble_eq_true rfl), (Nat.le_of_ble_eq_true rfl)⟩) ⟨mPc_bl, va_recv hK hP (ci := 3) (q0 := 0) rfl hM.1, mPc_pr hP hK hD⟩ rfl rfl hl.1 rfl (lv_room (Nat.le_of_ble_eq_true rfl)) d_L_law_509 ⟨by show 28 + 3 * (j + 1) + 0 ≤ 601024; omega, by show 1086 + 23 * (j + 1) + 0 ≤ 7293033; omega⟩) hS (fun _ _ h => h) (fun _ h => h) (fun v_747 u9 t H locs ht hvm ev_747 hB hz1 hk1 hS => ?_)
                  obtain ⟨w_748, hP, hD, hU1⟩ := hB
                  rw [ht] at hP
                  subst ev_747
                  have hC := hC.kb hU1.2.1 (fun j hj => hU1.2.2 j (by omega))
                  have ho := (hU1.2.2 20 (by omega)).trans ho
                  have hM := hU1.1
                  have hst := hOK.2.2.2.2.2.2.1 j z y (xs ((nI (4 * j) + 1)).toNatClampNeg) (xs ((nI (4 * j) + 2)).toNatClampNeg) hj5 hR
                  refine lv_istore (lv' := [(6, .int ((g_instalments y (xs ((nI (4 * j) + 1)).toNatClampNeg) (xs ((nI (4 * j) + 2)).toNatClampNeg)).1)), (5, .int ((f_instalments z (xs ((nI (4 * j) + 1)).toNatClampNeg) (xs ((nI (4 * j) + 2)).toNatClampNeg)).1)), (4, .int (nI (4 * j))), (0, .ref b0), (1, .ref x), (2, .ref h0), (3, .ref oo)]) hx hb d_L_law_512 hl (by decide) rfl (fun ls hl => ?_)
                  refine lv_aload_n hx hb d_L_law_514 rfl (lv_at hl 5 rfl) ?_
                  refine vp_callSi (W.runV (As := []) (rest := []) ⟨hx, hb, hml, hown, hts⟩ (c_M_thrown l D (fun q : Nat => s.heap.size ≤ q) w_748 cI cL cD 0 h0 ma (g_instalments y (xs ((nI (4 * j) + 1)).toNatClampNeg) (xs ((nI (4 * j) + 2)).toNatClampNeg)).2 hM) (cwV 0 hts (gVT mB_461 mB_462 mB_463 mB_17 mB_464) rfl rfl rfl (by decide +kernel) ⟨(Nat.le_of_ble_eq_true rfl), (Nat.le_of_ble_eq_true rfl)⟩) ⟨mPc_bl, va_recv hK hP (ci := 3) (q0 := 0) rfl hM.1, mPc_pr hP hK hD⟩ rfl rfl hl.1 rfl (lv_room (Nat.le_of_ble_eq_true rfl)) d_L_law_515 ⟨by show 28 + 3 * (j + 1) + 0 ≤ 601024; omega, by show 1086 + 23 * (j + 1) + 0 ≤ 7293033; omega⟩) (fun v_749 ev_749 => ?_)
                  have ev_749 : v_749 = m_thrown (g_instalments y (xs ((nI (4 * j) + 1)).toNatClampNeg) (xs ((nI (4 * j) + 2)).toNatClampNeg)).2 := ev_749.trans (by unfold g_thrown; rfl)
                  subst ev_749
                  refine lv_iload hx hb d_L_law_518 (lv_at hl 1 rfl) ?_
                  refine lv_icmp_eq (tgt := 525) hx hb d_L_law_520 (by decide) (fun c_751 => ?_) (fun c_751 => ?_)
                  · refine lv_iload hx hb d_L_law_525 (lv_at hl 1 rfl) ?_
                    refine lv_if_ne (tgt := 542) hx hb d_L_law_527 (by decide) (fun c_752 => ?_) (fun c_752 => ?_)
                    · refine lv_goto (tgt := 980) hx hb d_L_law_542 (by decide) ?_
                      refine lv_iinc (v := nI (4 * (j + 1))) (lv' := [(4, .int (nI (4 * (j + 1)))), (6, .int ((g_instalments y (xs ((nI (4 * j) + 1)).toNatClampNeg) (xs ((nI (4 * j) + 2)).toNatClampNeg)).1)), (5, .int ((f_instalments z (xs ((nI (4 * j) + 1)).toNatClampNeg) (xs ((nI (4 * j) + 2)).toNatClampNeg)).1)), (0, .ref b0), (1, .ref x), (2, .ref h0), (3, .ref oo)]) hx hb d_L_law_980 hl (k := 2) rfl (nI_inc4 j) (by decide) rfl (fun ls hl => ?_)
                      refine lv_goto (tgt := 23) hx hb d_L_law_983 (by decide) ?_
                      exact ih (j + 1) (f_instalments z (xs ((nI (4 * j) + 1)).toNatClampNeg) (xs ((nI (4 * j) + 2)).toNatClampNeg)).2.2 (g_instalments y (xs ((nI (4 * j) + 1)).toNatClampNeg) (xs ((nI (4 * j) + 2)).toNatClampNeg)).2 fo_746 x h0 oo ma (by omega) (by omega) (by omega) (hst.2.2) w_748 _ _ hP hD hS hC hM ho ls (lv_sub hl [0, 3, 4, 5, 6] rfl)
                    · refine lv_aload_n hx hb d_L_law_530 rfl (lv_at hl 6 rfl) ?_
                      refine lv_iconst (v := 0) hx hb d_L_law_531 (by decide) ?_
                      refine va_lald hx hb hK hP (20) 1 ho rfl (vp_in_nI (n := 0) (by decide) (by decide)) d_L_law_532 ?_
                      refine lv_iload hx hb d_L_law_533 (lv_at hl 0 rfl) ?_
                      refine lv_i2l hx hb d_L_law_535 rfl ?_
                      refine W.lcmp hx hb d_L_law_536 ?_
                      refine lv_if_eq (tgt := 542) hx hb d_L_law_537 (by decide) (fun c_753 => ?_) (fun c_753 => ?_)
                      · have c_753 : (fo_746 (0 : Int32).toNatClampNeg) = ((g_instalments y (xs ((nI (4 * j) + 1)).toNatClampNeg) (xs ((nI (4 * j) + 2)).toNatClampNeg)).1 : Int32).toInt64 := (lg_cmp_eq _ _).mp c_753
                        refine lv_goto (tgt := 980) hx hb d_L_law_542 (by decide) ?_
                        refine lv_iinc (v := nI (4 * (j + 1))) (lv' := [(4, .int (nI (4 * (j + 1)))), (6, .int ((g_instalments y (xs ((nI (4 * j) + 1)).toNatClampNeg) (xs ((nI (4 * j) + 2)).toNatClampNeg)).1)), (5, .int ((f_instalments z (xs ((nI (4 * j) + 1)).toNatClampNeg) (xs ((nI (4 * j) + 2)).toNatClampNeg)).1)), (0, .ref b0), (1, .ref x), (2, .ref h0), (3, .ref oo)]) hx hb d_L_law_980 hl (k := 2) rfl (nI_inc4 j) (by decide) rfl (fun ls hl => ?_)
                        refine lv_goto (tgt := 23) hx hb d_L_law_983 (by decide) ?_
                        exact ih (j + 1) (f_instalments z (xs ((nI (4 * j) + 1)).toNatClampNeg) (xs ((nI (4 * j) + 2)).toNatClampNeg)).2.2 (g_instalments y (xs ((nI (4 * j) + 1)).toNatClampNeg) (xs ((nI (4 * j) + 2)).toNatClampNeg)).2 fo_746 x h0 oo ma (by omega) (by omega) (by omega) (hst.2.2) w_748 _ _ hP hD hS hC hM ho ls (lv_sub hl [0, 3, 4, 5, 6] rfl)
                      · have c_753 : ¬ (fo_746 (0 : Int32).toNatClampNeg) = ((g_instalments y (xs ((nI (4 * j) + 1)).toNatClampNeg) (xs ((nI (4 * j) + 2)).toNatClampNeg)).1 : Int32).toInt64 := fun h9 => c_753 ((lg_cmp_eq _ _).mpr h9)
                        exact absurd ((hfo c_752).trans (by rw [hst.2.1 c_752])) c_753
                  · exact absurd (hst.1.symm) c_751
                · rcases Decidable.em ((xs (nI (4 * j)).toNatClampNeg &&& 15) = (6 : Int32)) with c_754 | c_754
                  · refine lv_tableIn (tgt := 545) hx hb d_L_law_39 (by rw [c_754]; decide) (by rw [c_754]; decide) (by rw [c_754]; rfl) (by decide) ?_
                    refine lv_aload_n hx hb d_L_law_545 rfl (lv_at hl 2 rfl) ?_
                    refine lv_aload_n hx hb d_L_law_546 rfl (lv_at hl 1 rfl) ?_
                    refine lv_iload hx hb d_L_law_547 (lv_at hl 0 rfl) ?_
                    refine lv_iconst (v := 1) hx hb d_L_law_549 (by decide) ?_
                    refine lv_iadd hx hb d_L_law_550 ?_
                    refine va_sld hx hb hX hbl hbA hS ((show vp_in (nI (4 * j) + 1) L from lw_ix (k := 1) hL h44 (by decide))) d_L_law_551 ?_
                    refine lv_aload_n hx hb d_L_law_552 rfl (lv_at hl 4 rfl) ?_
                    refine va_calli (vx_runSW (As := [.ref x, .int (xs ((nI (4 * j) + 1)).toNatClampNeg), .ref oo]) (rest := []) ⟨hx, hb, hml, hown, hts⟩ (c_L_appeal l hl9 D (fun q : Nat => s.heap.size ≤ q) w cI cL cD 21 20 oo fo x z (xs ((nI (4 * j) + 1)).toNatClampNeg) hC ho (by decide)) (vx_cwSW 3 hts (gWT mB_326 mB_327 mB_14 mW_appeal) rfl rfl rfl (by decide +kernel) ⟨(Nat.le_of_ble_eq_true rfl), (Nat.le_of_ble_eq_true rfl)⟩) ⟨hPc_bl, hPc_pr hP hK hD hE hS (fun _ h => h) hN⟩ rfl rfl hl.1 rfl (lv_room (Nat.le_of_ble_eq_true rfl)) d_L_law_553 ⟨by show 28 + 3 * j + 1 ≤ 601024; omega, by show 1086 + 23 * j + 6 ≤ 7293033; omega⟩) hS (fun _ _ h => h) (fun _ h => h) (fun v_755 u9 t H locs ht hvm ev_755 hB hz1 hk1 hS => ?_)
                    obtain ⟨w_756, fo_757, hP, hD, hC, ho, hfo, hb9⟩ := hB
                    rw [ht] at hP
                    subst ev_755
                    have hM := hM.kx (fun j _ hj => hb9 j (by omega) (by omega))
                    refine W.widen (k := 28 + 3 * (j + 1)) (n := 1086 + 23 * (j + 1)) (by omega) (by omega) ?_
                    refine lv_istore (lv' := [(5, .int ((f_appeal z (xs ((nI (4 * j) + 1)).toNatClampNeg)).1)), (4, .int (nI (4 * j))), (0, .ref b0), (1, .ref x), (2, .ref h0), (3, .ref oo)]) hx hb d_L_law_556 hl (by decide) rfl (fun ls hl => ?_)
                    refine lv_aload_n hx hb d_L_law_558 rfl (lv_at hl 4 rfl) ?_
                    refine lv_aload_n hx hb d_L_law_559 rfl (lv_at hl 2 rfl) ?_
                    refine lv_iload hx hb d_L_law_560 (lv_at hl 1 rfl) ?_
                    refine lv_iconst (v := 1) hx hb d_L_law_562 (by decide) ?_
                    refine lv_iadd hx hb d_L_law_563 ?_
                    refine va_sld hx hb hX hbl hbA hS ((show vp_in (nI (4 * j) + 1) L from lw_ix (k := 1) hL h44 (by decide))) d_L_law_564 ?_
                    refine va_calli (va_runV (As := [.int (xs ((nI (4 * j) + 1)).toNatClampNeg)]) (rest := []) ⟨hx, hb, hml, hown, hts⟩ (c_M_appeal l D (fun q : Nat => s.heap.size ≤ q) w_756 cI cL cD 0 h0 ma y (xs ((nI (4 * j) + 1)).toNatClampNeg) hM hw) (cwV 1 hts (gVT mB_525 mB_526 mB_527 mB_17 mB_528) rfl rfl rfl (by decide +kernel) ⟨(Nat.le_of_ble_eq_true rfl), (Nat.le_of_ble_eq_true rfl)⟩) ⟨mPc_bl, va_recv hK hP (ci := 3) (q0 := 0) rfl hM.1, mPc_pr hP hK hD⟩ rfl rfl hl.1 rfl (lv_room (Nat.le_of_ble_eq_true rfl)) d_L_law_565 ⟨by show 28 + 3 * (j + 1) + 0 ≤ 601024; omega, by show 1086 + 23 * (j + 1) + 0 ≤ 7293033; omega⟩) hS (fun _ _ h => h) (fun _ h => h) (fun v_758 u9 t H locs ht hvm ev_758 hB hz1 hk1 hS => ?_)
                    obtain ⟨w_759, hP, hD, hU1⟩ := hB
                    rw [ht] at hP
                    subst ev_758
                    have hC := hC.kb hU1.2.1 (fun j hj => hU1.2.2 j (by omega))
                    have ho := (hU1.2.2 20 (by omega)).trans ho
                    have hM := hU1.1
                    have hst := hOK.2.2.2.2.2.2.2.1 j z y (xs ((nI (4 * j) + 1)).toNatClampNeg) hj5 hR
                    refine lv_istore (lv' := [(6, .int ((g_appeal y (xs ((nI (4 * j) + 1)).toNatClampNeg)).1)), (5, .int ((f_appeal z (xs ((nI (4 * j) + 1)).toNatClampNeg)).1)), (4, .int (nI (4 * j))), (0, .ref b0), (1, .ref x), (2, .ref h0), (3, .ref oo)]) hx hb d_L_law_568 hl (by decide) rfl (fun ls hl => ?_)
                    refine lv_aload_n hx hb d_L_law_570 rfl (lv_at hl 5 rfl) ?_
                    refine vp_callSi (W.runV (As := []) (rest := []) ⟨hx, hb, hml, hown, hts⟩ (c_M_thrown l D (fun q : Nat => s.heap.size ≤ q) w_759 cI cL cD 0 h0 ma (g_appeal y (xs ((nI (4 * j) + 1)).toNatClampNeg)).2 hM) (cwV 0 hts (gVT mB_461 mB_462 mB_463 mB_17 mB_464) rfl rfl rfl (by decide +kernel) ⟨(Nat.le_of_ble_eq_true rfl), (Nat.le_of_ble_eq_true rfl)⟩) ⟨mPc_bl, va_recv hK hP (ci := 3) (q0 := 0) rfl hM.1, mPc_pr hP hK hD⟩ rfl rfl hl.1 rfl (lv_room (Nat.le_of_ble_eq_true rfl)) d_L_law_571 ⟨by show 28 + 3 * (j + 1) + 0 ≤ 601024; omega, by show 1086 + 23 * (j + 1) + 0 ≤ 7293033; omega⟩) (fun v_760 ev_760 => ?_)
                    have ev_760 : v_760 = m_thrown (g_appeal y (xs ((nI (4 * j) + 1)).toNatClampNeg)).2 := ev_760.trans (by unfold g_thrown; rfl)
                    subst ev_760
                    refine lv_iload hx hb d_L_law_574 (lv_at hl 1 rfl) ?_
                    refine lv_icmp_eq (tgt := 581) hx hb d_L_law_576 (by decide) (fun c_762 => ?_) (fun c_762 => ?_)
                    · refine lv_iload hx hb d_L_law_581 (lv_at hl 1 rfl) ?_
                      refine lv_if_ne (tgt := 598) hx hb d_L_law_583 (by decide) (fun c_763 => ?_) (fun c_763 => ?_)
                      · refine lv_goto (tgt := 980) hx hb d_L_law_598 (by decide) ?_
                        refine lv_iinc (v := nI (4 * (j + 1))) (lv' := [(4, .int (nI (4 * (j + 1)))), (6, .int ((g_appeal y (xs ((nI (4 * j) + 1)).toNatClampNeg)).1)), (5, .int ((f_appeal z (xs ((nI (4 * j) + 1)).toNatClampNeg)).1)), (0, .ref b0), (1, .ref x), (2, .ref h0), (3, .ref oo)]) hx hb d_L_law_980 hl (k := 2) rfl (nI_inc4 j) (by decide) rfl (fun ls hl => ?_)
                        refine lv_goto (tgt := 23) hx hb d_L_law_983 (by decide) ?_
                        exact ih (j + 1) (f_appeal z (xs ((nI (4 * j) + 1)).toNatClampNeg)).2.2 (g_appeal y (xs ((nI (4 * j) + 1)).toNatClampNeg)).2 fo_757 x h0 oo ma (by omega) (by omega) (by omega) (hst.2.2) w_759 _ _ hP hD hS hC hM ho ls (lv_sub hl [0, 3, 4, 5, 6] rfl)
                      · refine lv_aload_n hx hb d_L_law_586 rfl (lv_at hl 6 rfl) ?_
                        refine lv_iconst (v := 0) hx hb d_L_law_587 (by decide) ?_
                        refine va_lald hx hb hK hP (20) 1 ho rfl (vp_in_nI (n := 0) (by decide) (by decide)) d_L_law_588 ?_
                        refine lv_iload hx hb d_L_law_589 (lv_at hl 0 rfl) ?_
                        refine lv_i2l hx hb d_L_law_591 rfl ?_
                        refine W.lcmp hx hb d_L_law_592 ?_
                        refine lv_if_eq (tgt := 598) hx hb d_L_law_593 (by decide) (fun c_764 => ?_) (fun c_764 => ?_)
                        · have c_764 : (fo_757 (0 : Int32).toNatClampNeg) = ((g_appeal y (xs ((nI (4 * j) + 1)).toNatClampNeg)).1 : Int32).toInt64 := (lg_cmp_eq _ _).mp c_764
                          refine lv_goto (tgt := 980) hx hb d_L_law_598 (by decide) ?_
                          refine lv_iinc (v := nI (4 * (j + 1))) (lv' := [(4, .int (nI (4 * (j + 1)))), (6, .int ((g_appeal y (xs ((nI (4 * j) + 1)).toNatClampNeg)).1)), (5, .int ((f_appeal z (xs ((nI (4 * j) + 1)).toNatClampNeg)).1)), (0, .ref b0), (1, .ref x), (2, .ref h0), (3, .ref oo)]) hx hb d_L_law_980 hl (k := 2) rfl (nI_inc4 j) (by decide) rfl (fun ls hl => ?_)
                          refine lv_goto (tgt := 23) hx hb d_L_law_983 (by decide) ?_
                          exact ih (j + 1) (f_appeal z (xs ((nI (4 * j) + 1)).toNatClampNeg)).2.2 (g_appeal y (xs ((nI (4 * j) + 1)).toNatClampNeg)).2 fo_757 x h0 oo ma (by omega) (by omega) (by omega) (hst.2.2) w_759 _ _ hP hD hS hC hM ho ls (lv_sub hl [0, 3, 4, 5, 6] rfl)
                        · have c_764 : ¬ (fo_757 (0 : Int32).toNatClampNeg) = ((g_appeal y (xs ((nI (4 * j) + 1)).toNatClampNeg)).1 : Int32).toInt64 := fun h9 => c_764 ((lg_cmp_eq _ _).mpr h9)
                          exact absurd ((hfo c_763).trans (by rw [hst.2.1 c_763])) c_764
                    · exact absurd (hst.1.symm) c_762
                  · rcases Decidable.em ((xs (nI (4 * j)).toNatClampNeg &&& 15) = (7 : Int32)) with c_765 | c_765
                    · refine lv_tableIn (tgt := 601) hx hb d_L_law_39 (by rw [c_765]; decide) (by rw [c_765]; decide) (by rw [c_765]; rfl) (by decide) ?_
                      refine lv_aload_n hx hb d_L_law_601 rfl (lv_at hl 2 rfl) ?_
                      refine lv_aload_n hx hb d_L_law_602 rfl (lv_at hl 1 rfl) ?_
                      refine lv_iload hx hb d_L_law_603 (lv_at hl 0 rfl) ?_
                      refine lv_iconst (v := 1) hx hb d_L_law_605 (by decide) ?_
                      refine lv_iadd hx hb d_L_law_606 ?_
                      refine va_sld hx hb hX hbl hbA hS ((show vp_in (nI (4 * j) + 1) L from lw_ix (k := 1) hL h44 (by decide))) d_L_law_607 ?_
                      refine lv_aload_n hx hb d_L_law_608 rfl (lv_at hl 1 rfl) ?_
                      refine lv_iload hx hb d_L_law_609 (lv_at hl 0 rfl) ?_
                      refine lv_iconst (v := 2) hx hb d_L_law_611 (by decide) ?_
                      refine lv_iadd hx hb d_L_law_612 ?_
                      refine va_sld hx hb hX hbl hbA hS ((show vp_in (nI (4 * j) + 2) L from lw_ix (k := 2) hL h44 (by decide))) d_L_law_613 ?_
                      have kont_c_766 : ∀ v9 : Int32, v9 = (if xs ((nI (4 * j) + 2)).toNatClampNeg = 0 then 0 else 1) → W p l e room_1 s m #[Value.ref b0] below meth c H locs (28 + 3 * j) (1086 + 23 * j) (lw_Z below #[Value.ref b0] s) (F0 m 622 ls (.int v9 :: .int (xs ((nI (4 * j) + 1)).toNatClampNeg) :: .ref x :: [])) := by
                        intro v9 ev9
                        subst ev9
                        refine lv_aload_n hx hb d_L_law_622 rfl (lv_at hl 4 rfl) ?_
                        refine va_calli (vx_runSW (As := [.ref x, .int (xs ((nI (4 * j) + 1)).toNatClampNeg), .int ((if xs ((nI (4 * j) + 2)).toNatClampNeg = 0 then 0 else 1)), .ref oo]) (rest := []) ⟨hx, hb, hml, hown, hts⟩ (c_L_decide l hl9 D (fun q : Nat => s.heap.size ≤ q) w cI cL cD 21 20 oo fo x z (xs ((nI (4 * j) + 1)).toNatClampNeg) ((if xs ((nI (4 * j) + 2)).toNatClampNeg = 0 then 0 else 1)) hC ho (by decide)) (vx_cwSW 4 hts (gWT mB_332 mB_333 mB_14 mW_decide) rfl rfl rfl (by decide +kernel) ⟨(Nat.le_of_ble_eq_true rfl), (Nat.le_of_ble_eq_true rfl)⟩) ⟨hPc_bl, hPc_pr hP hK hD hE hS (fun _ h => h) hN⟩ rfl rfl hl.1 rfl (lv_room (Nat.le_of_ble_eq_true rfl)) d_L_law_623 ⟨by show 28 + 3 * j + 1 ≤ 601024; omega, by show 1086 + 23 * j + 6 ≤ 7293033; omega⟩) hS (fun _ _ h => h) (fun _ h => h) (fun v_767 u9 t H locs ht hvm ev_767 hB hz1 hk1 hS => ?_)
                        obtain ⟨w_768, fo_769, hP, hD, hC, ho, hfo, hb9⟩ := hB
                        rw [ht] at hP
                        subst ev_767
                        have hM := hM.kx (fun j _ hj => hb9 j (by omega) (by omega))
                        refine W.widen (k := 28 + 3 * (j + 1)) (n := 1086 + 23 * (j + 1)) (by omega) (by omega) ?_
                        refine lv_istore (lv' := [(5, .int ((f_decide z (xs ((nI (4 * j) + 1)).toNatClampNeg) ((if xs ((nI (4 * j) + 2)).toNatClampNeg = 0 then 0 else 1))).1)), (4, .int (nI (4 * j))), (0, .ref b0), (1, .ref x), (2, .ref h0), (3, .ref oo)]) hx hb d_L_law_626 hl (by decide) rfl (fun ls hl => ?_)
                        refine lv_aload_n hx hb d_L_law_628 rfl (lv_at hl 4 rfl) ?_
                        refine lv_aload_n hx hb d_L_law_629 rfl (lv_at hl 2 rfl) ?_
                        refine lv_iload hx hb d_L_law_630 (lv_at hl 1 rfl) ?_
                        refine lv_iconst (v := 1) hx hb d_L_law_632 (by decide) ?_
                        refine lv_iadd hx hb d_L_law_633 ?_
                        refine va_sld hx hb hX hbl hbA hS ((show vp_in (nI (4 * j) + 1) L from lw_ix (k := 1) hL h44 (by decide))) d_L_law_634 ?_
                        refine lv_aload_n hx hb d_L_law_635 rfl (lv_at hl 2 rfl) ?_
                        refine lv_iload hx hb d_L_law_636 (lv_at hl 1 rfl) ?_
                        refine lv_iconst (v := 2) hx hb d_L_law_638 (by decide) ?_
                        refine lv_iadd hx hb d_L_law_639 ?_
                        refine va_sld hx hb hX hbl hbA hS ((show vp_in (nI (4 * j) + 2) L from lw_ix (k := 2) hL h44 (by decide))) d_L_law_640 ?_
                        have kont_c_770 : ∀ v9 : Int32, v9 = (if xs ((nI (4 * j) + 2)).toNatClampNeg = 0 then 0 else 1) → W p l e room_1 s m #[Value.ref b0] below meth c H locs (28 + 3 * (j + 1)) (1086 + 23 * (j + 1)) (lw_Z below #[Value.ref b0] s) (F0 m 649 ls (.int v9 :: .int (xs ((nI (4 * j) + 1)).toNatClampNeg) :: .ref h0 :: [])) := by
                          intro v9 ev9
                          subst ev9
                          refine va_calll (va_runV (As := [.int (xs ((nI (4 * j) + 1)).toNatClampNeg), .int ((if xs ((nI (4 * j) + 2)).toNatClampNeg = 0 then 0 else 1))]) (rest := []) ⟨hx, hb, hml, hown, hts⟩ (c_M_decide l D (fun q : Nat => s.heap.size ≤ q) w_768 cI cL cD 0 h0 ma y (xs ((nI (4 * j) + 1)).toNatClampNeg) ((if xs ((nI (4 * j) + 2)).toNatClampNeg = 0 then 0 else 1)) hM hw) (cwV 2 hts (gVT mB_529 mB_530 mB_531 mB_17 mB_532) rfl rfl rfl (by decide +kernel) ⟨(Nat.le_of_ble_eq_true rfl), (Nat.le_of_ble_eq_true rfl)⟩) ⟨mPc_bl, va_recv hK hP (ci := 3) (q0 := 0) rfl hM.1, mPc_pr hP hK hD⟩ rfl rfl hl.1 rfl (lv_room (Nat.le_of_ble_eq_true rfl)) d_L_law_649 ⟨by show 28 + 3 * (j + 1) + 0 ≤ 601024; omega, by show 1086 + 23 * (j + 1) + 0 ≤ 7293033; omega⟩) hS (fun _ _ h => h) (fun _ h => h) (fun v_771 u9 t H locs ht hvm ev_771 hB hz1 hk1 hS => ?_)
                          obtain ⟨w_772, hP, hD, hU1⟩ := hB
                          rw [ht] at hP
                          subst ev_771
                          have hC := hC.kb hU1.2.1 (fun j hj => hU1.2.2 j (by omega))
                          have ho := (hU1.2.2 20 (by omega)).trans ho
                          have hM := hU1.1
                          have hst := hOK.2.2.2.2.2.2.2.2.1 j z y (xs ((nI (4 * j) + 1)).toNatClampNeg) ((if xs ((nI (4 * j) + 2)).toNatClampNeg = 0 then 0 else 1)) hj5 hR
                          refine lv_lstore (lv' := [(6, .long ((g_decide y (xs ((nI (4 * j) + 1)).toNatClampNeg) ((if xs ((nI (4 * j) + 2)).toNatClampNeg = 0 then 0 else 1))).1)), (5, .int ((f_decide z (xs ((nI (4 * j) + 1)).toNatClampNeg) ((if xs ((nI (4 * j) + 2)).toNatClampNeg = 0 then 0 else 1))).1)), (4, .int (nI (4 * j))), (0, .ref b0), (1, .ref x), (2, .ref h0), (3, .ref oo)]) hx hb d_L_law_652 hl (by decide) rfl (fun ls hl => ?_)
                          refine lv_aload_n hx hb d_L_law_654 rfl (lv_at hl 5 rfl) ?_
                          refine vp_callSi (W.runV (As := []) (rest := []) ⟨hx, hb, hml, hown, hts⟩ (c_M_thrown l D (fun q : Nat => s.heap.size ≤ q) w_772 cI cL cD 0 h0 ma (g_decide y (xs ((nI (4 * j) + 1)).toNatClampNeg) ((if xs ((nI (4 * j) + 2)).toNatClampNeg = 0 then 0 else 1))).2 hM) (cwV 0 hts (gVT mB_461 mB_462 mB_463 mB_17 mB_464) rfl rfl rfl (by decide +kernel) ⟨(Nat.le_of_ble_eq_true rfl), (Nat.le_of_ble_eq_true rfl)⟩) ⟨mPc_bl, va_recv hK hP (ci := 3) (q0 := 0) rfl hM.1, mPc_pr hP hK hD⟩ rfl rfl hl.1 rfl (lv_room (Nat.le_of_ble_eq_true rfl)) d_L_law_655 ⟨by show 28 + 3 * (j + 1) + 0 ≤ 601024; omega, by show 1086 + 23 * (j + 1) + 0 ≤ 7293033; omega⟩) (fun v_773 ev_773 => ?_)
                          have ev_773 : v_773 = m_thrown (g_decide y (xs ((nI (4 * j) + 1)).toNatClampNeg) ((if xs ((nI (4 * j) + 2)).toNatClampNeg = 0 then 0 else 1))).2 := ev_773.trans (by unfold g_thrown; rfl)
                          subst ev_773
                          refine lv_iload hx hb d_L_law_658 (lv_at hl 1 rfl) ?_
                          refine lv_icmp_eq (tgt := 665) hx hb d_L_law_660 (by decide) (fun c_775 => ?_) (fun c_775 => ?_)
                          · refine lv_iload hx hb d_L_law_665 (lv_at hl 1 rfl) ?_
                            refine lv_if_ne (tgt := 681) hx hb d_L_law_667 (by decide) (fun c_776 => ?_) (fun c_776 => ?_)
                            · refine lv_goto (tgt := 980) hx hb d_L_law_681 (by decide) ?_
                              refine lv_iinc (v := nI (4 * (j + 1))) (lv' := [(4, .int (nI (4 * (j + 1)))), (6, .long ((g_decide y (xs ((nI (4 * j) + 1)).toNatClampNeg) ((if xs ((nI (4 * j) + 2)).toNatClampNeg = 0 then 0 else 1))).1)), (5, .int ((f_decide z (xs ((nI (4 * j) + 1)).toNatClampNeg) ((if xs ((nI (4 * j) + 2)).toNatClampNeg = 0 then 0 else 1))).1)), (0, .ref b0), (1, .ref x), (2, .ref h0), (3, .ref oo)]) hx hb d_L_law_980 hl (k := 2) rfl (nI_inc4 j) (by decide) rfl (fun ls hl => ?_)
                              refine lv_goto (tgt := 23) hx hb d_L_law_983 (by decide) ?_
                              exact ih (j + 1) (f_decide z (xs ((nI (4 * j) + 1)).toNatClampNeg) ((if xs ((nI (4 * j) + 2)).toNatClampNeg = 0 then 0 else 1))).2.2 (g_decide y (xs ((nI (4 * j) + 1)).toNatClampNeg) ((if xs ((nI (4 * j) + 2)).toNatClampNeg = 0 then 0 else 1))).2 fo_769 x h0 oo ma (by omega) (by omega) (by omega) (hst.2.2) w_772 _ _ hP hD hS hC hM ho ls (lv_sub hl [0, 3, 4, 5, 6] rfl)
                            · refine lv_aload_n hx hb d_L_law_670 rfl (lv_at hl 6 rfl) ?_
                              refine lv_iconst (v := 0) hx hb d_L_law_671 (by decide) ?_
                              refine va_lald hx hb hK hP (20) 1 ho rfl (vp_in_nI (n := 0) (by decide) (by decide)) d_L_law_672 ?_
                              refine lv_lload hx hb d_L_law_673 (lv_at hl 0 rfl) ?_
                              refine W.lcmp hx hb d_L_law_675 ?_
                              refine lv_if_eq (tgt := 681) hx hb d_L_law_676 (by decide) (fun c_777 => ?_) (fun c_777 => ?_)
                              · have c_777 : (fo_769 (0 : Int32).toNatClampNeg) = (g_decide y (xs ((nI (4 * j) + 1)).toNatClampNeg) ((if xs ((nI (4 * j) + 2)).toNatClampNeg = 0 then 0 else 1))).1 := (lg_cmp_eq _ _).mp c_777
                                refine lv_goto (tgt := 980) hx hb d_L_law_681 (by decide) ?_
                                refine lv_iinc (v := nI (4 * (j + 1))) (lv' := [(4, .int (nI (4 * (j + 1)))), (6, .long ((g_decide y (xs ((nI (4 * j) + 1)).toNatClampNeg) ((if xs ((nI (4 * j) + 2)).toNatClampNeg = 0 then 0 else 1))).1)), (5, .int ((f_decide z (xs ((nI (4 * j) + 1)).toNatClampNeg) ((if xs ((nI (4 * j) + 2)).toNatClampNeg = 0 then 0 else 1))).1)), (0, .ref b0), (1, .ref x), (2, .ref h0), (3, .ref oo)]) hx hb d_L_law_980 hl (k := 2) rfl (nI_inc4 j) (by decide) rfl (fun ls hl => ?_)
                                refine lv_goto (tgt := 23) hx hb d_L_law_983 (by decide) ?_
                                exact ih (j + 1) (f_decide z (xs ((nI (4 * j) + 1)).toNatClampNeg) ((if xs ((nI (4 * j) + 2)).toNatClampNeg = 0 then 0 else 1))).2.2 (g_decide y (xs ((nI (4 * j) + 1)).toNatClampNeg) ((if xs ((nI (4 * j) + 2)).toNatClampNeg = 0 then 0 else 1))).2 fo_769 x h0 oo ma (by omega) (by omega) (by omega) (hst.2.2) w_772 _ _ hP hD hS hC hM ho ls (lv_sub hl [0, 3, 4, 5, 6] rfl)
                              · have c_777 : ¬ (fo_769 (0 : Int32).toNatClampNeg) = (g_decide y (xs ((nI (4 * j) + 1)).toNatClampNeg) ((if xs ((nI (4 * j) + 2)).toNatClampNeg = 0 then 0 else 1))).1 := fun h9 => c_777 ((lg_cmp_eq _ _).mpr h9)
                                exact absurd ((hfo c_776).trans (by rw [hst.2.1 c_776])) c_777
                          · exact absurd (hst.1.symm) c_775
                        refine lv_if_eq (tgt := 648) hx hb d_L_law_641 (by decide) (fun c_770 => ?_) (fun c_770 => ?_)
                        · refine lv_iconst (v := 0) hx hb d_L_law_648 (by decide) ?_
                          exact kont_c_770 _ (by rw [if_pos c_770])
                        · refine lv_iconst (v := 1) hx hb d_L_law_644 (by decide) ?_
                          refine lv_goto (tgt := 649) hx hb d_L_law_645 (by decide) ?_
                          exact kont_c_770 _ (by rw [if_neg c_770])
                      refine lv_if_eq (tgt := 621) hx hb d_L_law_614 (by decide) (fun c_766 => ?_) (fun c_766 => ?_)
                      · refine lv_iconst (v := 0) hx hb d_L_law_621 (by decide) ?_
                        exact kont_c_766 _ (by rw [if_pos c_766])
                      · refine lv_iconst (v := 1) hx hb d_L_law_617 (by decide) ?_
                        refine lv_goto (tgt := 622) hx hb d_L_law_618 (by decide) ?_
                        exact kont_c_766 _ (by rw [if_neg c_766])
                    · rcases Decidable.em ((xs (nI (4 * j)).toNatClampNeg &&& 15) = (8 : Int32)) with c_778 | c_778
                      · refine lv_tableIn (tgt := 684) hx hb d_L_law_39 (by rw [c_778]; decide) (by rw [c_778]; decide) (by rw [c_778]; rfl) (by decide) ?_
                        refine lv_aload_n hx hb d_L_law_684 rfl (lv_at hl 2 rfl) ?_
                        refine lv_aload_n hx hb d_L_law_685 rfl (lv_at hl 1 rfl) ?_
                        refine lv_iload hx hb d_L_law_686 (lv_at hl 0 rfl) ?_
                        refine lv_iconst (v := 1) hx hb d_L_law_688 (by decide) ?_
                        refine lv_iadd hx hb d_L_law_689 ?_
                        refine va_sld hx hb hX hbl hbA hS ((show vp_in (nI (4 * j) + 1) L from lw_ix (k := 1) hL h44 (by decide))) d_L_law_690 ?_
                        refine lv_aload_n hx hb d_L_law_691 rfl (lv_at hl 4 rfl) ?_
                        refine va_calli (vx_runSW (As := [.ref x, .int (xs ((nI (4 * j) + 1)).toNatClampNeg), .ref oo]) (rest := []) ⟨hx, hb, hml, hown, hts⟩ (c_L_tick l hl9 D (fun q : Nat => s.heap.size ≤ q) w cI cL cD 21 20 oo fo x z (xs ((nI (4 * j) + 1)).toNatClampNeg) hC ho (by decide)) (vx_cwSW 3 hts (gWT mB_339 mB_340 mB_14 mW_tick) rfl rfl rfl (by decide +kernel) ⟨(Nat.le_of_ble_eq_true rfl), (Nat.le_of_ble_eq_true rfl)⟩) ⟨hPc_bl, hPc_pr hP hK hD hE hS (fun _ h => h) hN⟩ rfl rfl hl.1 rfl (lv_room (Nat.le_of_ble_eq_true rfl)) d_L_law_692 ⟨by show 28 + 3 * j + 1 ≤ 601024; omega, by show 1086 + 23 * j + 6 ≤ 7293033; omega⟩) hS (fun _ _ h => h) (fun _ h => h) (fun v_779 u9 t H locs ht hvm ev_779 hB hz1 hk1 hS => ?_)
                        obtain ⟨w_780, fo_781, hP, hD, hC, ho, hfo, hb9⟩ := hB
                        rw [ht] at hP
                        subst ev_779
                        have hM := hM.kx (fun j _ hj => hb9 j (by omega) (by omega))
                        refine W.widen (k := 28 + 3 * (j + 1)) (n := 1086 + 23 * (j + 1)) (by omega) (by omega) ?_
                        refine lv_istore (lv' := [(5, .int ((f_tick z (xs ((nI (4 * j) + 1)).toNatClampNeg)).1)), (4, .int (nI (4 * j))), (0, .ref b0), (1, .ref x), (2, .ref h0), (3, .ref oo)]) hx hb d_L_law_695 hl (by decide) rfl (fun ls hl => ?_)
                        refine lv_aload_n hx hb d_L_law_697 rfl (lv_at hl 4 rfl) ?_
                        refine lv_aload_n hx hb d_L_law_698 rfl (lv_at hl 2 rfl) ?_
                        refine lv_iload hx hb d_L_law_699 (lv_at hl 1 rfl) ?_
                        refine lv_iconst (v := 1) hx hb d_L_law_701 (by decide) ?_
                        refine lv_iadd hx hb d_L_law_702 ?_
                        refine va_sld hx hb hX hbl hbA hS ((show vp_in (nI (4 * j) + 1) L from lw_ix (k := 1) hL h44 (by decide))) d_L_law_703 ?_
                        refine va_calli (va_runV (As := [.int (xs ((nI (4 * j) + 1)).toNatClampNeg)]) (rest := []) ⟨hx, hb, hml, hown, hts⟩ (c_M_tick l D (fun q : Nat => s.heap.size ≤ q) w_780 cI cL cD 0 h0 ma y (xs ((nI (4 * j) + 1)).toNatClampNeg) hM hw) (cwV 1 hts (gVT mB_537 mB_538 mB_539 mB_17 mB_540) rfl rfl rfl (by decide +kernel) ⟨(Nat.le_of_ble_eq_true rfl), (Nat.le_of_ble_eq_true rfl)⟩) ⟨mPc_bl, va_recv hK hP (ci := 3) (q0 := 0) rfl hM.1, mPc_pr hP hK hD⟩ rfl rfl hl.1 rfl (lv_room (Nat.le_of_ble_eq_true rfl)) d_L_law_704 ⟨by show 28 + 3 * (j + 1) + 0 ≤ 601024; omega, by show 1086 + 23 * (j + 1) + 0 ≤ 7293033; omega⟩) hS (fun _ _ h => h) (fun _ h => h) (fun v_782 u9 t H locs ht hvm ev_782 hB hz1 hk1 hS => ?_)
                        obtain ⟨w_783, hP, hD, hU1⟩ := hB
                        rw [ht] at hP
                        subst ev_782
                        have hC := hC.kb hU1.2.1 (fun j hj => hU1.2.2 j (by omega))
                        have ho := (hU1.2.2 20 (by omega)).trans ho
                        have hM := hU1.1
                        have hst := hOK.2.2.2.2.2.2.2.2.2.1 j z y (xs ((nI (4 * j) + 1)).toNatClampNeg) hj5 hR
                        refine lv_istore (lv' := [(6, .int ((g_tick y (xs ((nI (4 * j) + 1)).toNatClampNeg)).1)), (5, .int ((f_tick z (xs ((nI (4 * j) + 1)).toNatClampNeg)).1)), (4, .int (nI (4 * j))), (0, .ref b0), (1, .ref x), (2, .ref h0), (3, .ref oo)]) hx hb d_L_law_707 hl (by decide) rfl (fun ls hl => ?_)
                        refine lv_aload_n hx hb d_L_law_709 rfl (lv_at hl 5 rfl) ?_
                        refine vp_callSi (W.runV (As := []) (rest := []) ⟨hx, hb, hml, hown, hts⟩ (c_M_thrown l D (fun q : Nat => s.heap.size ≤ q) w_783 cI cL cD 0 h0 ma (g_tick y (xs ((nI (4 * j) + 1)).toNatClampNeg)).2 hM) (cwV 0 hts (gVT mB_461 mB_462 mB_463 mB_17 mB_464) rfl rfl rfl (by decide +kernel) ⟨(Nat.le_of_ble_eq_true rfl), (Nat.le_of_ble_eq_true rfl)⟩) ⟨mPc_bl, va_recv hK hP (ci := 3) (q0 := 0) rfl hM.1, mPc_pr hP hK hD⟩ rfl rfl hl.1 rfl (lv_room (Nat.le_of_ble_eq_true rfl)) d_L_law_710 ⟨by show 28 + 3 * (j + 1) + 0 ≤ 601024; omega, by show 1086 + 23 * (j + 1) + 0 ≤ 7293033; omega⟩) (fun v_784 ev_784 => ?_)
                        have ev_784 : v_784 = m_thrown (g_tick y (xs ((nI (4 * j) + 1)).toNatClampNeg)).2 := ev_784.trans (by unfold g_thrown; rfl)
                        subst ev_784
                        refine lv_iload hx hb d_L_law_713 (lv_at hl 1 rfl) ?_
                        refine lv_icmp_eq (tgt := 720) hx hb d_L_law_715 (by decide) (fun c_786 => ?_) (fun c_786 => ?_)
                        · refine lv_iload hx hb d_L_law_720 (lv_at hl 1 rfl) ?_
                          refine lv_if_ne (tgt := 737) hx hb d_L_law_722 (by decide) (fun c_787 => ?_) (fun c_787 => ?_)
                          · refine lv_goto (tgt := 980) hx hb d_L_law_737 (by decide) ?_
                            refine lv_iinc (v := nI (4 * (j + 1))) (lv' := [(4, .int (nI (4 * (j + 1)))), (6, .int ((g_tick y (xs ((nI (4 * j) + 1)).toNatClampNeg)).1)), (5, .int ((f_tick z (xs ((nI (4 * j) + 1)).toNatClampNeg)).1)), (0, .ref b0), (1, .ref x), (2, .ref h0), (3, .ref oo)]) hx hb d_L_law_980 hl (k := 2) rfl (nI_inc4 j) (by decide) rfl (fun ls hl => ?_)
                            refine lv_goto (tgt := 23) hx hb d_L_law_983 (by decide) ?_
                            exact ih (j + 1) (f_tick z (xs ((nI (4 * j) + 1)).toNatClampNeg)).2.2 (g_tick y (xs ((nI (4 * j) + 1)).toNatClampNeg)).2 fo_781 x h0 oo ma (by omega) (by omega) (by omega) (hst.2.2) w_783 _ _ hP hD hS hC hM ho ls (lv_sub hl [0, 3, 4, 5, 6] rfl)
                          · refine lv_aload_n hx hb d_L_law_725 rfl (lv_at hl 6 rfl) ?_
                            refine lv_iconst (v := 0) hx hb d_L_law_726 (by decide) ?_
                            refine va_lald hx hb hK hP (20) 1 ho rfl (vp_in_nI (n := 0) (by decide) (by decide)) d_L_law_727 ?_
                            refine lv_iload hx hb d_L_law_728 (lv_at hl 0 rfl) ?_
                            refine lv_i2l hx hb d_L_law_730 rfl ?_
                            refine W.lcmp hx hb d_L_law_731 ?_
                            refine lv_if_eq (tgt := 737) hx hb d_L_law_732 (by decide) (fun c_788 => ?_) (fun c_788 => ?_)
                            · have c_788 : (fo_781 (0 : Int32).toNatClampNeg) = ((g_tick y (xs ((nI (4 * j) + 1)).toNatClampNeg)).1 : Int32).toInt64 := (lg_cmp_eq _ _).mp c_788
                              refine lv_goto (tgt := 980) hx hb d_L_law_737 (by decide) ?_
                              refine lv_iinc (v := nI (4 * (j + 1))) (lv' := [(4, .int (nI (4 * (j + 1)))), (6, .int ((g_tick y (xs ((nI (4 * j) + 1)).toNatClampNeg)).1)), (5, .int ((f_tick z (xs ((nI (4 * j) + 1)).toNatClampNeg)).1)), (0, .ref b0), (1, .ref x), (2, .ref h0), (3, .ref oo)]) hx hb d_L_law_980 hl (k := 2) rfl (nI_inc4 j) (by decide) rfl (fun ls hl => ?_)
                              refine lv_goto (tgt := 23) hx hb d_L_law_983 (by decide) ?_
                              exact ih (j + 1) (f_tick z (xs ((nI (4 * j) + 1)).toNatClampNeg)).2.2 (g_tick y (xs ((nI (4 * j) + 1)).toNatClampNeg)).2 fo_781 x h0 oo ma (by omega) (by omega) (by omega) (hst.2.2) w_783 _ _ hP hD hS hC hM ho ls (lv_sub hl [0, 3, 4, 5, 6] rfl)
                            · have c_788 : ¬ (fo_781 (0 : Int32).toNatClampNeg) = ((g_tick y (xs ((nI (4 * j) + 1)).toNatClampNeg)).1 : Int32).toInt64 := fun h9 => c_788 ((lg_cmp_eq _ _).mpr h9)
                              exact absurd ((hfo c_787).trans (by rw [hst.2.1 c_787])) c_788
                        · exact absurd (hst.1.symm) c_786
                      · rcases Decidable.em ((xs (nI (4 * j)).toNatClampNeg &&& 15) = (9 : Int32)) with c_789 | c_789
                        · refine lv_tableIn (tgt := 740) hx hb d_L_law_39 (by rw [c_789]; decide) (by rw [c_789]; decide) (by rw [c_789]; rfl) (by decide) ?_
                          refine lv_aload_n hx hb d_L_law_740 rfl (lv_at hl 2 rfl) ?_
                          refine lv_aload_n hx hb d_L_law_741 rfl (lv_at hl 1 rfl) ?_
                          refine lv_iload hx hb d_L_law_742 (lv_at hl 0 rfl) ?_
                          refine lv_iconst (v := 1) hx hb d_L_law_744 (by decide) ?_
                          refine lv_iadd hx hb d_L_law_745 ?_
                          refine va_sld hx hb hX hbl hbA hS ((show vp_in (nI (4 * j) + 1) L from lw_ix (k := 1) hL h44 (by decide))) d_L_law_746 ?_
                          refine lv_aload_n hx hb d_L_law_747 rfl (lv_at hl 1 rfl) ?_
                          refine lv_iload hx hb d_L_law_748 (lv_at hl 0 rfl) ?_
                          refine lv_iconst (v := 2) hx hb d_L_law_750 (by decide) ?_
                          refine lv_iadd hx hb d_L_law_751 ?_
                          refine va_sld hx hb hX hbl hbA hS ((show vp_in (nI (4 * j) + 2) L from lw_ix (k := 2) hL h44 (by decide))) d_L_law_752 ?_
                          refine lv_aload_n hx hb d_L_law_753 rfl (lv_at hl 4 rfl) ?_
                          refine va_calli (vx_runSW (As := [.ref x, .int (xs ((nI (4 * j) + 1)).toNatClampNeg), .int (xs ((nI (4 * j) + 2)).toNatClampNeg), .ref oo]) (rest := []) ⟨hx, hb, hml, hown, hts⟩ (c_L_due l hl9 D (fun q : Nat => s.heap.size ≤ q) w cI cL cD 21 20 oo fo x z (xs ((nI (4 * j) + 1)).toNatClampNeg) (xs ((nI (4 * j) + 2)).toNatClampNeg) hC ho (by decide)) (vx_cwSW 4 hts (gWT mB_359 mB_360 mB_14 mW_due) rfl rfl rfl (by decide +kernel) ⟨(Nat.le_of_ble_eq_true rfl), (Nat.le_of_ble_eq_true rfl)⟩) ⟨hPc_bl, hPc_pr hP hK hD hE hS (fun _ h => h) hN⟩ rfl rfl hl.1 rfl (lv_room (Nat.le_of_ble_eq_true rfl)) d_L_law_754 ⟨by show 28 + 3 * j + 2 ≤ 601024; omega, by show 1086 + 23 * j + 12 ≤ 7293033; omega⟩) hS (fun _ _ h => h) (fun _ h => h) (fun v_790 u9 t H locs ht hvm ev_790 hB hz1 hk1 hS => ?_)
                          obtain ⟨w_791, fo_792, hP, hD, hC, ho, hfo, hb9⟩ := hB
                          rw [ht] at hP
                          subst ev_790
                          have hM := hM.kx (fun j _ hj => hb9 j (by omega) (by omega))
                          refine W.widen (k := 28 + 3 * (j + 1)) (n := 1086 + 23 * (j + 1)) (by omega) (by omega) ?_
                          refine lv_istore (lv' := [(5, .int ((f_due z (xs ((nI (4 * j) + 1)).toNatClampNeg) (xs ((nI (4 * j) + 2)).toNatClampNeg)).1)), (4, .int (nI (4 * j))), (0, .ref b0), (1, .ref x), (2, .ref h0), (3, .ref oo)]) hx hb d_L_law_757 hl (by decide) rfl (fun ls hl => ?_)
                          refine lv_aload_n hx hb d_L_law_759 rfl (lv_at hl 4 rfl) ?_
                          refine lv_aload_n hx hb d_L_law_760 rfl (lv_at hl 2 rfl) ?_
                          refine lv_iload hx hb d_L_law_761 (lv_at hl 1 rfl) ?_
                          refine lv_iconst (v := 1) hx hb d_L_law_763 (by decide) ?_
                          refine lv_iadd hx hb d_L_law_764 ?_
                          refine va_sld hx hb hX hbl hbA hS ((show vp_in (nI (4 * j) + 1) L from lw_ix (k := 1) hL h44 (by decide))) d_L_law_765 ?_
                          refine lv_aload_n hx hb d_L_law_766 rfl (lv_at hl 2 rfl) ?_
                          refine lv_iload hx hb d_L_law_767 (lv_at hl 1 rfl) ?_
                          refine lv_iconst (v := 2) hx hb d_L_law_769 (by decide) ?_
                          refine lv_iadd hx hb d_L_law_770 ?_
                          refine va_sld hx hb hX hbl hbA hS ((show vp_in (nI (4 * j) + 2) L from lw_ix (k := 2) hL h44 (by decide))) d_L_law_771 ?_
                          refine va_calll (va_runV (As := [.int (xs ((nI (4 * j) + 1)).toNatClampNeg), .int (xs ((nI (4 * j) + 2)).toNatClampNeg)]) (rest := []) ⟨hx, hb, hml, hown, hts⟩ (c_M_due l D (fun q : Nat => s.heap.size ≤ q) w_791 cI cL cD 0 h0 ma y (xs ((nI (4 * j) + 1)).toNatClampNeg) (xs ((nI (4 * j) + 2)).toNatClampNeg) hM hw) (cwV 2 hts (gVT mB_546 mB_547 mB_548 mB_17 mB_549) rfl rfl rfl (by decide +kernel) ⟨(Nat.le_of_ble_eq_true rfl), (Nat.le_of_ble_eq_true rfl)⟩) ⟨mPc_bl, va_recv hK hP (ci := 3) (q0 := 0) rfl hM.1, mPc_pr hP hK hD⟩ rfl rfl hl.1 rfl (lv_room (Nat.le_of_ble_eq_true rfl)) d_L_law_772 ⟨by show 28 + 3 * (j + 1) + 0 ≤ 601024; omega, by show 1086 + 23 * (j + 1) + 0 ≤ 7293033; omega⟩) hS (fun _ _ h => h) (fun _ h => h) (fun v_793 u9 t H locs ht hvm ev_793 hB hz1 hk1 hS => ?_)
                          obtain ⟨w_794, hP, hD, hU1⟩ := hB
                          rw [ht] at hP
                          subst ev_793
                          have hC := hC.kb hU1.2.1 (fun j hj => hU1.2.2 j (by omega))
                          have ho := (hU1.2.2 20 (by omega)).trans ho
                          have hM := hU1.1
                          have hst := hOK.2.2.2.2.2.2.2.2.2.2.1 j z y (xs ((nI (4 * j) + 1)).toNatClampNeg) (xs ((nI (4 * j) + 2)).toNatClampNeg) hj5 hR
                          refine lv_lstore (lv' := [(6, .long ((g_due y (xs ((nI (4 * j) + 1)).toNatClampNeg) (xs ((nI (4 * j) + 2)).toNatClampNeg)).1)), (5, .int ((f_due z (xs ((nI (4 * j) + 1)).toNatClampNeg) (xs ((nI (4 * j) + 2)).toNatClampNeg)).1)), (4, .int (nI (4 * j))), (0, .ref b0), (1, .ref x), (2, .ref h0), (3, .ref oo)]) hx hb d_L_law_775 hl (by decide) rfl (fun ls hl => ?_)
                          refine lv_aload_n hx hb d_L_law_777 rfl (lv_at hl 5 rfl) ?_
                          refine vp_callSi (W.runV (As := []) (rest := []) ⟨hx, hb, hml, hown, hts⟩ (c_M_thrown l D (fun q : Nat => s.heap.size ≤ q) w_794 cI cL cD 0 h0 ma (g_due y (xs ((nI (4 * j) + 1)).toNatClampNeg) (xs ((nI (4 * j) + 2)).toNatClampNeg)).2 hM) (cwV 0 hts (gVT mB_461 mB_462 mB_463 mB_17 mB_464) rfl rfl rfl (by decide +kernel) ⟨(Nat.le_of_ble_eq_true rfl), (Nat.le_of_ble_eq_true rfl)⟩) ⟨mPc_bl, va_recv hK hP (ci := 3) (q0 := 0) rfl hM.1, mPc_pr hP hK hD⟩ rfl rfl hl.1 rfl (lv_room (Nat.le_of_ble_eq_true rfl)) d_L_law_778 ⟨by show 28 + 3 * (j + 1) + 0 ≤ 601024; omega, by show 1086 + 23 * (j + 1) + 0 ≤ 7293033; omega⟩) (fun v_795 ev_795 => ?_)
                          have ev_795 : v_795 = m_thrown (g_due y (xs ((nI (4 * j) + 1)).toNatClampNeg) (xs ((nI (4 * j) + 2)).toNatClampNeg)).2 := ev_795.trans (by unfold g_thrown; rfl)
                          subst ev_795
                          refine lv_iload hx hb d_L_law_781 (lv_at hl 1 rfl) ?_
                          refine lv_icmp_eq (tgt := 788) hx hb d_L_law_783 (by decide) (fun c_797 => ?_) (fun c_797 => ?_)
                          · refine lv_iload hx hb d_L_law_788 (lv_at hl 1 rfl) ?_
                            refine lv_if_ne (tgt := 804) hx hb d_L_law_790 (by decide) (fun c_798 => ?_) (fun c_798 => ?_)
                            · refine lv_goto (tgt := 980) hx hb d_L_law_804 (by decide) ?_
                              refine lv_iinc (v := nI (4 * (j + 1))) (lv' := [(4, .int (nI (4 * (j + 1)))), (6, .long ((g_due y (xs ((nI (4 * j) + 1)).toNatClampNeg) (xs ((nI (4 * j) + 2)).toNatClampNeg)).1)), (5, .int ((f_due z (xs ((nI (4 * j) + 1)).toNatClampNeg) (xs ((nI (4 * j) + 2)).toNatClampNeg)).1)), (0, .ref b0), (1, .ref x), (2, .ref h0), (3, .ref oo)]) hx hb d_L_law_980 hl (k := 2) rfl (nI_inc4 j) (by decide) rfl (fun ls hl => ?_)
                              refine lv_goto (tgt := 23) hx hb d_L_law_983 (by decide) ?_
                              exact ih (j + 1) (f_due z (xs ((nI (4 * j) + 1)).toNatClampNeg) (xs ((nI (4 * j) + 2)).toNatClampNeg)).2.2 (g_due y (xs ((nI (4 * j) + 1)).toNatClampNeg) (xs ((nI (4 * j) + 2)).toNatClampNeg)).2 fo_792 x h0 oo ma (by omega) (by omega) (by omega) (hst.2.2) w_794 _ _ hP hD hS hC hM ho ls (lv_sub hl [0, 3, 4, 5, 6] rfl)
                            · refine lv_aload_n hx hb d_L_law_793 rfl (lv_at hl 6 rfl) ?_
                              refine lv_iconst (v := 0) hx hb d_L_law_794 (by decide) ?_
                              refine va_lald hx hb hK hP (20) 1 ho rfl (vp_in_nI (n := 0) (by decide) (by decide)) d_L_law_795 ?_
                              refine lv_lload hx hb d_L_law_796 (lv_at hl 0 rfl) ?_
                              refine W.lcmp hx hb d_L_law_798 ?_
                              refine lv_if_eq (tgt := 804) hx hb d_L_law_799 (by decide) (fun c_799 => ?_) (fun c_799 => ?_)
                              · have c_799 : (fo_792 (0 : Int32).toNatClampNeg) = (g_due y (xs ((nI (4 * j) + 1)).toNatClampNeg) (xs ((nI (4 * j) + 2)).toNatClampNeg)).1 := (lg_cmp_eq _ _).mp c_799
                                refine lv_goto (tgt := 980) hx hb d_L_law_804 (by decide) ?_
                                refine lv_iinc (v := nI (4 * (j + 1))) (lv' := [(4, .int (nI (4 * (j + 1)))), (6, .long ((g_due y (xs ((nI (4 * j) + 1)).toNatClampNeg) (xs ((nI (4 * j) + 2)).toNatClampNeg)).1)), (5, .int ((f_due z (xs ((nI (4 * j) + 1)).toNatClampNeg) (xs ((nI (4 * j) + 2)).toNatClampNeg)).1)), (0, .ref b0), (1, .ref x), (2, .ref h0), (3, .ref oo)]) hx hb d_L_law_980 hl (k := 2) rfl (nI_inc4 j) (by decide) rfl (fun ls hl => ?_)
                                refine lv_goto (tgt := 23) hx hb d_L_law_983 (by decide) ?_
                                exact ih (j + 1) (f_due z (xs ((nI (4 * j) + 1)).toNatClampNeg) (xs ((nI (4 * j) + 2)).toNatClampNeg)).2.2 (g_due y (xs ((nI (4 * j) + 1)).toNatClampNeg) (xs ((nI (4 * j) + 2)).toNatClampNeg)).2 fo_792 x h0 oo ma (by omega) (by omega) (by omega) (hst.2.2) w_794 _ _ hP hD hS hC hM ho ls (lv_sub hl [0, 3, 4, 5, 6] rfl)
                              · have c_799 : ¬ (fo_792 (0 : Int32).toNatClampNeg) = (g_due y (xs ((nI (4 * j) + 1)).toNatClampNeg) (xs ((nI (4 * j) + 2)).toNatClampNeg)).1 := fun h9 => c_799 ((lg_cmp_eq _ _).mpr h9)
                                exact absurd ((hfo c_798).trans (by rw [hst.2.1 c_798])) c_799
                          · exact absurd (hst.1.symm) c_797
                        · rcases Decidable.em ((xs (nI (4 * j)).toNatClampNeg &&& 15) = (10 : Int32)) with c_800 | c_800
                          · refine lv_tableIn (tgt := 807) hx hb d_L_law_39 (by rw [c_800]; decide) (by rw [c_800]; decide) (by rw [c_800]; rfl) (by decide) ?_
                            refine lv_aload_n hx hb d_L_law_807 rfl (lv_at hl 2 rfl) ?_
                            refine lv_aload_n hx hb d_L_law_808 rfl (lv_at hl 1 rfl) ?_
                            refine lv_iload hx hb d_L_law_809 (lv_at hl 0 rfl) ?_
                            refine lv_iconst (v := 1) hx hb d_L_law_811 (by decide) ?_
                            refine lv_iadd hx hb d_L_law_812 ?_
                            refine va_sld hx hb hX hbl hbA hS ((show vp_in (nI (4 * j) + 1) L from lw_ix (k := 1) hL h44 (by decide))) d_L_law_813 ?_
                            refine lv_aload_n hx hb d_L_law_814 rfl (lv_at hl 1 rfl) ?_
                            refine lv_iload hx hb d_L_law_815 (lv_at hl 0 rfl) ?_
                            refine lv_iconst (v := 2) hx hb d_L_law_817 (by decide) ?_
                            refine lv_iadd hx hb d_L_law_818 ?_
                            refine va_sld hx hb hX hbl hbA hS ((show vp_in (nI (4 * j) + 2) L from lw_ix (k := 2) hL h44 (by decide))) d_L_law_819 ?_
                            refine lv_aload_n hx hb d_L_law_820 rfl (lv_at hl 1 rfl) ?_
                            refine lv_iload hx hb d_L_law_821 (lv_at hl 0 rfl) ?_
                            refine lv_iconst (v := 3) hx hb d_L_law_823 (by decide) ?_
                            refine lv_iadd hx hb d_L_law_824 ?_
                            refine va_sld hx hb hX hbl hbA hS ((show vp_in (nI (4 * j) + 3) L from lw_ix (k := 3) hL h44 (by decide))) d_L_law_825 ?_
                            refine lv_aload_n hx hb d_L_law_826 rfl (lv_at hl 4 rfl) ?_
                            refine va_calli (vx_runSW (As := [.ref x, .int (xs ((nI (4 * j) + 1)).toNatClampNeg), .int (xs ((nI (4 * j) + 2)).toNatClampNeg), .int (xs ((nI (4 * j) + 3)).toNatClampNeg), .ref oo]) (rest := []) ⟨hx, hb, hml, hown, hts⟩ (c_L_recourse l hl9 D (fun q : Nat => s.heap.size ≤ q) w cI cL cD 21 20 oo fo x z (xs ((nI (4 * j) + 1)).toNatClampNeg) (xs ((nI (4 * j) + 2)).toNatClampNeg) (xs ((nI (4 * j) + 3)).toNatClampNeg) hC ho (by decide)) (vx_cwSW 5 hts (gWT mB_366 mB_367 mB_14 mW_recourse) rfl rfl rfl (by decide +kernel) ⟨(Nat.le_of_ble_eq_true rfl), (Nat.le_of_ble_eq_true rfl)⟩) ⟨hPc_bl, hPc_pr hP hK hD hE hS (fun _ h => h) hN⟩ rfl rfl hl.1 rfl (lv_room (Nat.le_of_ble_eq_true rfl)) d_L_law_827 ⟨by show 28 + 3 * j + 2 ≤ 601024; omega, by show 1086 + 23 * j + 12 ≤ 7293033; omega⟩) hS (fun _ _ h => h) (fun _ h => h) (fun v_801 u9 t H locs ht hvm ev_801 hB hz1 hk1 hS => ?_)
                            obtain ⟨w_802, fo_803, hP, hD, hC, ho, hfo, hb9⟩ := hB
                            rw [ht] at hP
                            subst ev_801
                            have hM := hM.kx (fun j _ hj => hb9 j (by omega) (by omega))
                            refine W.widen (k := 28 + 3 * (j + 1)) (n := 1086 + 23 * (j + 1)) (by omega) (by omega) ?_
                            refine lv_istore (lv' := [(5, .int ((f_recourse z (xs ((nI (4 * j) + 1)).toNatClampNeg) (xs ((nI (4 * j) + 2)).toNatClampNeg) (xs ((nI (4 * j) + 3)).toNatClampNeg)).1)), (4, .int (nI (4 * j))), (0, .ref b0), (1, .ref x), (2, .ref h0), (3, .ref oo)]) hx hb d_L_law_830 hl (by decide) rfl (fun ls hl => ?_)
                            refine lv_aload_n hx hb d_L_law_832 rfl (lv_at hl 4 rfl) ?_
                            refine lv_aload_n hx hb d_L_law_833 rfl (lv_at hl 2 rfl) ?_
                            refine lv_iload hx hb d_L_law_834 (lv_at hl 1 rfl) ?_
                            refine lv_iconst (v := 1) hx hb d_L_law_836 (by decide) ?_
                            refine lv_iadd hx hb d_L_law_837 ?_
                            refine va_sld hx hb hX hbl hbA hS ((show vp_in (nI (4 * j) + 1) L from lw_ix (k := 1) hL h44 (by decide))) d_L_law_838 ?_
                            refine lv_aload_n hx hb d_L_law_839 rfl (lv_at hl 2 rfl) ?_
                            refine lv_iload hx hb d_L_law_840 (lv_at hl 1 rfl) ?_
                            refine lv_iconst (v := 2) hx hb d_L_law_842 (by decide) ?_
                            refine lv_iadd hx hb d_L_law_843 ?_
                            refine va_sld hx hb hX hbl hbA hS ((show vp_in (nI (4 * j) + 2) L from lw_ix (k := 2) hL h44 (by decide))) d_L_law_844 ?_
                            refine lv_aload_n hx hb d_L_law_845 rfl (lv_at hl 2 rfl) ?_
                            refine lv_iload hx hb d_L_law_846 (lv_at hl 1 rfl) ?_
                            refine lv_iconst (v := 3) hx hb d_L_law_848 (by decide) ?_
                            refine lv_iadd hx hb d_L_law_849 ?_
                            refine va_sld hx hb hX hbl hbA hS ((show vp_in (nI (4 * j) + 3) L from lw_ix (k := 3) hL h44 (by decide))) d_L_law_850 ?_
                            refine va_calll (va_runV (As := [.int (xs ((nI (4 * j) + 1)).toNatClampNeg), .int (xs ((nI (4 * j) + 2)).toNatClampNeg), .int (xs ((nI (4 * j) + 3)).toNatClampNeg)]) (rest := []) ⟨hx, hb, hml, hown, hts⟩ (c_M_recourse l D (fun q : Nat => s.heap.size ≤ q) w_802 cI cL cD 0 h0 ma y (xs ((nI (4 * j) + 1)).toNatClampNeg) (xs ((nI (4 * j) + 2)).toNatClampNeg) (xs ((nI (4 * j) + 3)).toNatClampNeg) hM hw) (cwV 3 hts (gVT mB_551 mB_552 mB_553 mB_17 mB_554) rfl rfl rfl (by decide +kernel) ⟨(Nat.le_of_ble_eq_true rfl), (Nat.le_of_ble_eq_true rfl)⟩) ⟨mPc_bl, va_recv hK hP (ci := 3) (q0 := 0) rfl hM.1, mPc_pr hP hK hD⟩ rfl rfl hl.1 rfl (lv_room (Nat.le_of_ble_eq_true rfl)) d_L_law_851 ⟨by show 28 + 3 * (j + 1) + 0 ≤ 601024; omega, by show 1086 + 23 * (j + 1) + 0 ≤ 7293033; omega⟩) hS (fun _ _ h => h) (fun _ h => h) (fun v_804 u9 t H locs ht hvm ev_804 hB hz1 hk1 hS => ?_)
                            obtain ⟨w_805, hP, hD, hU1⟩ := hB
                            rw [ht] at hP
                            subst ev_804
                            have hC := hC.kb hU1.2.1 (fun j hj => hU1.2.2 j (by omega))
                            have ho := (hU1.2.2 20 (by omega)).trans ho
                            have hM := hU1.1
                            have hst := hOK.2.2.2.2.2.2.2.2.2.2.2.1 j z y (xs ((nI (4 * j) + 1)).toNatClampNeg) (xs ((nI (4 * j) + 2)).toNatClampNeg) (xs ((nI (4 * j) + 3)).toNatClampNeg) hj5 hR
                            refine lv_lstore (lv' := [(6, .long ((g_recourse y (xs ((nI (4 * j) + 1)).toNatClampNeg) (xs ((nI (4 * j) + 2)).toNatClampNeg) (xs ((nI (4 * j) + 3)).toNatClampNeg)).1)), (5, .int ((f_recourse z (xs ((nI (4 * j) + 1)).toNatClampNeg) (xs ((nI (4 * j) + 2)).toNatClampNeg) (xs ((nI (4 * j) + 3)).toNatClampNeg)).1)), (4, .int (nI (4 * j))), (0, .ref b0), (1, .ref x), (2, .ref h0), (3, .ref oo)]) hx hb d_L_law_854 hl (by decide) rfl (fun ls hl => ?_)
                            refine lv_aload_n hx hb d_L_law_856 rfl (lv_at hl 5 rfl) ?_
                            refine vp_callSi (W.runV (As := []) (rest := []) ⟨hx, hb, hml, hown, hts⟩ (c_M_thrown l D (fun q : Nat => s.heap.size ≤ q) w_805 cI cL cD 0 h0 ma (g_recourse y (xs ((nI (4 * j) + 1)).toNatClampNeg) (xs ((nI (4 * j) + 2)).toNatClampNeg) (xs ((nI (4 * j) + 3)).toNatClampNeg)).2 hM) (cwV 0 hts (gVT mB_461 mB_462 mB_463 mB_17 mB_464) rfl rfl rfl (by decide +kernel) ⟨(Nat.le_of_ble_eq_true rfl), (Nat.le_of_ble_eq_true rfl)⟩) ⟨mPc_bl, va_recv hK hP (ci := 3) (q0 := 0) rfl hM.1, mPc_pr hP hK hD⟩ rfl rfl hl.1 rfl (lv_room (Nat.le_of_ble_eq_true rfl)) d_L_law_857 ⟨by show 28 + 3 * (j + 1) + 0 ≤ 601024; omega, by show 1086 + 23 * (j + 1) + 0 ≤ 7293033; omega⟩) (fun v_806 ev_806 => ?_)
                            have ev_806 : v_806 = m_thrown (g_recourse y (xs ((nI (4 * j) + 1)).toNatClampNeg) (xs ((nI (4 * j) + 2)).toNatClampNeg) (xs ((nI (4 * j) + 3)).toNatClampNeg)).2 := ev_806.trans (by unfold g_thrown; rfl)
                            subst ev_806
                            refine lv_iload hx hb d_L_law_860 (lv_at hl 1 rfl) ?_
                            refine lv_icmp_eq (tgt := 867) hx hb d_L_law_862 (by decide) (fun c_808 => ?_) (fun c_808 => ?_)
                            · refine lv_iload hx hb d_L_law_867 (lv_at hl 1 rfl) ?_
                              refine lv_if_ne (tgt := 883) hx hb d_L_law_869 (by decide) (fun c_809 => ?_) (fun c_809 => ?_)
                              · refine lv_goto (tgt := 980) hx hb d_L_law_883 (by decide) ?_
                                refine lv_iinc (v := nI (4 * (j + 1))) (lv' := [(4, .int (nI (4 * (j + 1)))), (6, .long ((g_recourse y (xs ((nI (4 * j) + 1)).toNatClampNeg) (xs ((nI (4 * j) + 2)).toNatClampNeg) (xs ((nI (4 * j) + 3)).toNatClampNeg)).1)), (5, .int ((f_recourse z (xs ((nI (4 * j) + 1)).toNatClampNeg) (xs ((nI (4 * j) + 2)).toNatClampNeg) (xs ((nI (4 * j) + 3)).toNatClampNeg)).1)), (0, .ref b0), (1, .ref x), (2, .ref h0), (3, .ref oo)]) hx hb d_L_law_980 hl (k := 2) rfl (nI_inc4 j) (by decide) rfl (fun ls hl => ?_)
                                refine lv_goto (tgt := 23) hx hb d_L_law_983 (by decide) ?_
                                exact ih (j + 1) (f_recourse z (xs ((nI (4 * j) + 1)).toNatClampNeg) (xs ((nI (4 * j) + 2)).toNatClampNeg) (xs ((nI (4 * j) + 3)).toNatClampNeg)).2.2 (g_recourse y (xs ((nI (4 * j) + 1)).toNatClampNeg) (xs ((nI (4 * j) + 2)).toNatClampNeg) (xs ((nI (4 * j) + 3)).toNatClampNeg)).2 fo_803 x h0 oo ma (by omega) (by omega) (by omega) (hst.2.2) w_805 _ _ hP hD hS hC hM ho ls (lv_sub hl [0, 3, 4, 5, 6] rfl)
                              · refine lv_aload_n hx hb d_L_law_872 rfl (lv_at hl 6 rfl) ?_
                                refine lv_iconst (v := 0) hx hb d_L_law_873 (by decide) ?_
                                refine va_lald hx hb hK hP (20) 1 ho rfl (vp_in_nI (n := 0) (by decide) (by decide)) d_L_law_874 ?_
                                refine lv_lload hx hb d_L_law_875 (lv_at hl 0 rfl) ?_
                                refine W.lcmp hx hb d_L_law_877 ?_
                                refine lv_if_eq (tgt := 883) hx hb d_L_law_878 (by decide) (fun c_810 => ?_) (fun c_810 => ?_)
                                · have c_810 : (fo_803 (0 : Int32).toNatClampNeg) = (g_recourse y (xs ((nI (4 * j) + 1)).toNatClampNeg) (xs ((nI (4 * j) + 2)).toNatClampNeg) (xs ((nI (4 * j) + 3)).toNatClampNeg)).1 := (lg_cmp_eq _ _).mp c_810
                                  refine lv_goto (tgt := 980) hx hb d_L_law_883 (by decide) ?_
                                  refine lv_iinc (v := nI (4 * (j + 1))) (lv' := [(4, .int (nI (4 * (j + 1)))), (6, .long ((g_recourse y (xs ((nI (4 * j) + 1)).toNatClampNeg) (xs ((nI (4 * j) + 2)).toNatClampNeg) (xs ((nI (4 * j) + 3)).toNatClampNeg)).1)), (5, .int ((f_recourse z (xs ((nI (4 * j) + 1)).toNatClampNeg) (xs ((nI (4 * j) + 2)).toNatClampNeg) (xs ((nI (4 * j) + 3)).toNatClampNeg)).1)), (0, .ref b0), (1, .ref x), (2, .ref h0), (3, .ref oo)]) hx hb d_L_law_980 hl (k := 2) rfl (nI_inc4 j) (by decide) rfl (fun ls hl => ?_)
                                  refine lv_goto (tgt := 23) hx hb d_L_law_983 (by decide) ?_
                                  exact ih (j + 1) (f_recourse z (xs ((nI (4 * j) + 1)).toNatClampNeg) (xs ((nI (4 * j) + 2)).toNatClampNeg) (xs ((nI (4 * j) + 3)).toNatClampNeg)).2.2 (g_recourse y (xs ((nI (4 * j) + 1)).toNatClampNeg) (xs ((nI (4 * j) + 2)).toNatClampNeg) (xs ((nI (4 * j) + 3)).toNatClampNeg)).2 fo_803 x h0 oo ma (by omega) (by omega) (by omega) (hst.2.2) w_805 _ _ hP hD hS hC hM ho ls (lv_sub hl [0, 3, 4, 5, 6] rfl)
                                · have c_810 : ¬ (fo_803 (0 : Int32).toNatClampNeg) = (g_recourse y (xs ((nI (4 * j) + 1)).toNatClampNeg) (xs ((nI (4 * j) + 2)).toNatClampNeg) (xs ((nI (4 * j) + 3)).toNatClampNeg)).1 := fun h9 => c_810 ((lg_cmp_eq _ _).mpr h9)
                                  exact absurd ((hfo c_809).trans (by rw [hst.2.1 c_809])) c_810
                            · exact absurd (hst.1.symm) c_808
                          · rcases Decidable.em ((xs (nI (4 * j)).toNatClampNeg &&& 15) = (11 : Int32)) with c_811 | c_811
                            · refine lv_tableIn (tgt := 886) hx hb d_L_law_39 (by rw [c_811]; decide) (by rw [c_811]; decide) (by rw [c_811]; rfl) (by decide) ?_
                              refine lv_aload_n hx hb d_L_law_886 rfl (lv_at hl 2 rfl) ?_
                              refine lv_aload_n hx hb d_L_law_887 rfl (lv_at hl 1 rfl) ?_
                              refine lv_iload hx hb d_L_law_888 (lv_at hl 0 rfl) ?_
                              refine lv_iconst (v := 1) hx hb d_L_law_890 (by decide) ?_
                              refine lv_iadd hx hb d_L_law_891 ?_
                              refine va_sld hx hb hX hbl hbA hS ((show vp_in (nI (4 * j) + 1) L from lw_ix (k := 1) hL h44 (by decide))) d_L_law_892 ?_
                              refine lv_aload_n hx hb d_L_law_893 rfl (lv_at hl 1 rfl) ?_
                              refine lv_iload hx hb d_L_law_894 (lv_at hl 0 rfl) ?_
                              refine lv_iconst (v := 2) hx hb d_L_law_896 (by decide) ?_
                              refine lv_iadd hx hb d_L_law_897 ?_
                              refine va_sld hx hb hX hbl hbA hS ((show vp_in (nI (4 * j) + 2) L from lw_ix (k := 2) hL h44 (by decide))) d_L_law_898 ?_
                              refine lv_aload_n hx hb d_L_law_899 rfl (lv_at hl 4 rfl) ?_
                              refine va_calli (vx_runSW (As := [.ref x, .int (xs ((nI (4 * j) + 1)).toNatClampNeg), .int (xs ((nI (4 * j) + 2)).toNatClampNeg), .ref oo]) (rest := []) ⟨hx, hb, hml, hown, hts⟩ (c_L_look l hl9 D (fun q : Nat => s.heap.size ≤ q) w cI cL cD 21 20 oo fo x z (xs ((nI (4 * j) + 1)).toNatClampNeg) (xs ((nI (4 * j) + 2)).toNatClampNeg) hC ho (by decide)) (vx_cwSW 4 hts (gWT mB_383 mB_384 mB_14 mW_look) rfl rfl rfl (by decide +kernel) ⟨(Nat.le_of_ble_eq_true rfl), (Nat.le_of_ble_eq_true rfl)⟩) ⟨hPc_bl, hPc_pr hP hK hD hE hS (fun _ h => h) hN⟩ rfl rfl hl.1 rfl (lv_room (Nat.le_of_ble_eq_true rfl)) d_L_law_900 ⟨by show 28 + 3 * j + 1 ≤ 601024; omega, by show 1086 + 23 * j + 6 ≤ 7293033; omega⟩) hS (fun _ _ h => h) (fun _ h => h) (fun v_812 u9 t H locs ht hvm ev_812 hB hz1 hk1 hS => ?_)
                              obtain ⟨w_813, fo_814, hP, hD, hC, ho, hfo, hb9⟩ := hB
                              rw [ht] at hP
                              subst ev_812
                              have hM := hM.kx (fun j _ hj => hb9 j (by omega) (by omega))
                              refine W.widen (k := 28 + 3 * (j + 1)) (n := 1086 + 23 * (j + 1)) (by omega) (by omega) ?_
                              refine lv_istore (lv' := [(5, .int ((f_look z (xs ((nI (4 * j) + 1)).toNatClampNeg) (xs ((nI (4 * j) + 2)).toNatClampNeg)).1)), (4, .int (nI (4 * j))), (0, .ref b0), (1, .ref x), (2, .ref h0), (3, .ref oo)]) hx hb d_L_law_903 hl (by decide) rfl (fun ls hl => ?_)
                              refine lv_aload_n hx hb d_L_law_905 rfl (lv_at hl 4 rfl) ?_
                              refine lv_aload_n hx hb d_L_law_906 rfl (lv_at hl 2 rfl) ?_
                              refine lv_iload hx hb d_L_law_907 (lv_at hl 1 rfl) ?_
                              refine lv_iconst (v := 1) hx hb d_L_law_909 (by decide) ?_
                              refine lv_iadd hx hb d_L_law_910 ?_
                              refine va_sld hx hb hX hbl hbA hS ((show vp_in (nI (4 * j) + 1) L from lw_ix (k := 1) hL h44 (by decide))) d_L_law_911 ?_
                              refine lv_aload_n hx hb d_L_law_912 rfl (lv_at hl 2 rfl) ?_
                              refine lv_iload hx hb d_L_law_913 (lv_at hl 1 rfl) ?_
                              refine lv_iconst (v := 2) hx hb d_L_law_915 (by decide) ?_
                              refine lv_iadd hx hb d_L_law_916 ?_
                              refine va_sld hx hb hX hbl hbA hS ((show vp_in (nI (4 * j) + 2) L from lw_ix (k := 2) hL h44 (by decide))) d_L_law_917 ?_
                              refine va_calli (va_runV (As := [.int (xs ((nI (4 * j) + 1)).toNatClampNeg), .int (xs ((nI (4 * j) + 2)).toNatClampNeg)]) (rest := []) ⟨hx, hb, hml, hown, hts⟩ (c_M_look l D (fun q : Nat => s.heap.size ≤ q) w_813 cI cL cD 0 h0 ma y (xs ((nI (4 * j) + 1)).toNatClampNeg) (xs ((nI (4 * j) + 2)).toNatClampNeg) hM hw) (cwV 2 hts (gVT mB_555 mB_556 mB_557 mB_17 mB_558) rfl rfl rfl (by decide +kernel) ⟨(Nat.le_of_ble_eq_true rfl), (Nat.le_of_ble_eq_true rfl)⟩) ⟨mPc_bl, va_recv hK hP (ci := 3) (q0 := 0) rfl hM.1, mPc_pr hP hK hD⟩ rfl rfl hl.1 rfl (lv_room (Nat.le_of_ble_eq_true rfl)) d_L_law_918 ⟨by show 28 + 3 * (j + 1) + 0 ≤ 601024; omega, by show 1086 + 23 * (j + 1) + 0 ≤ 7293033; omega⟩) hS (fun _ _ h => h) (fun _ h => h) (fun v_815 u9 t H locs ht hvm ev_815 hB hz1 hk1 hS => ?_)
                              obtain ⟨w_816, hP, hD, hU1⟩ := hB
                              rw [ht] at hP
                              subst ev_815
                              have hC := hC.kb hU1.2.1 (fun j hj => hU1.2.2 j (by omega))
                              have ho := (hU1.2.2 20 (by omega)).trans ho
                              have hM := hU1.1
                              have hst := hOK.2.2.2.2.2.2.2.2.2.2.2.2.1 j z y (xs ((nI (4 * j) + 1)).toNatClampNeg) (xs ((nI (4 * j) + 2)).toNatClampNeg) hj5 hR
                              refine lv_istore (lv' := [(6, .int ((g_look y (xs ((nI (4 * j) + 1)).toNatClampNeg) (xs ((nI (4 * j) + 2)).toNatClampNeg)).1)), (5, .int ((f_look z (xs ((nI (4 * j) + 1)).toNatClampNeg) (xs ((nI (4 * j) + 2)).toNatClampNeg)).1)), (4, .int (nI (4 * j))), (0, .ref b0), (1, .ref x), (2, .ref h0), (3, .ref oo)]) hx hb d_L_law_921 hl (by decide) rfl (fun ls hl => ?_)
                              refine lv_aload_n hx hb d_L_law_923 rfl (lv_at hl 5 rfl) ?_
                              refine vp_callSi (W.runV (As := []) (rest := []) ⟨hx, hb, hml, hown, hts⟩ (c_M_thrown l D (fun q : Nat => s.heap.size ≤ q) w_816 cI cL cD 0 h0 ma (g_look y (xs ((nI (4 * j) + 1)).toNatClampNeg) (xs ((nI (4 * j) + 2)).toNatClampNeg)).2 hM) (cwV 0 hts (gVT mB_461 mB_462 mB_463 mB_17 mB_464) rfl rfl rfl (by decide +kernel) ⟨(Nat.le_of_ble_eq_true rfl), (Nat.le_of_ble_eq_true rfl)⟩) ⟨mPc_bl, va_recv hK hP (ci := 3) (q0 := 0) rfl hM.1, mPc_pr hP hK hD⟩ rfl rfl hl.1 rfl (lv_room (Nat.le_of_ble_eq_true rfl)) d_L_law_924 ⟨by show 28 + 3 * (j + 1) + 0 ≤ 601024; omega, by show 1086 + 23 * (j + 1) + 0 ≤ 7293033; omega⟩) (fun v_817 ev_817 => ?_)
                              have ev_817 : v_817 = m_thrown (g_look y (xs ((nI (4 * j) + 1)).toNatClampNeg) (xs ((nI (4 * j) + 2)).toNatClampNeg)).2 := ev_817.trans (by unfold g_thrown; rfl)
                              subst ev_817
                              refine lv_iload hx hb d_L_law_927 (lv_at hl 1 rfl) ?_
                              refine lv_icmp_eq (tgt := 934) hx hb d_L_law_929 (by decide) (fun c_819 => ?_) (fun c_819 => ?_)
                              · refine lv_iload hx hb d_L_law_934 (lv_at hl 1 rfl) ?_
                                refine lv_if_ne (tgt := 951) hx hb d_L_law_936 (by decide) (fun c_820 => ?_) (fun c_820 => ?_)
                                · refine lv_goto (tgt := 980) hx hb d_L_law_951 (by decide) ?_
                                  refine lv_iinc (v := nI (4 * (j + 1))) (lv' := [(4, .int (nI (4 * (j + 1)))), (6, .int ((g_look y (xs ((nI (4 * j) + 1)).toNatClampNeg) (xs ((nI (4 * j) + 2)).toNatClampNeg)).1)), (5, .int ((f_look z (xs ((nI (4 * j) + 1)).toNatClampNeg) (xs ((nI (4 * j) + 2)).toNatClampNeg)).1)), (0, .ref b0), (1, .ref x), (2, .ref h0), (3, .ref oo)]) hx hb d_L_law_980 hl (k := 2) rfl (nI_inc4 j) (by decide) rfl (fun ls hl => ?_)
                                  refine lv_goto (tgt := 23) hx hb d_L_law_983 (by decide) ?_
                                  exact ih (j + 1) (f_look z (xs ((nI (4 * j) + 1)).toNatClampNeg) (xs ((nI (4 * j) + 2)).toNatClampNeg)).2.2 (g_look y (xs ((nI (4 * j) + 1)).toNatClampNeg) (xs ((nI (4 * j) + 2)).toNatClampNeg)).2 fo_814 x h0 oo ma (by omega) (by omega) (by omega) (hst.2.2) w_816 _ _ hP hD hS hC hM ho ls (lv_sub hl [0, 3, 4, 5, 6] rfl)
                                · refine lv_aload_n hx hb d_L_law_939 rfl (lv_at hl 6 rfl) ?_
                                  refine lv_iconst (v := 0) hx hb d_L_law_940 (by decide) ?_
                                  refine va_lald hx hb hK hP (20) 1 ho rfl (vp_in_nI (n := 0) (by decide) (by decide)) d_L_law_941 ?_
                                  refine lv_iload hx hb d_L_law_942 (lv_at hl 0 rfl) ?_
                                  refine lv_i2l hx hb d_L_law_944 rfl ?_
                                  refine W.lcmp hx hb d_L_law_945 ?_
                                  refine lv_if_eq (tgt := 951) hx hb d_L_law_946 (by decide) (fun c_821 => ?_) (fun c_821 => ?_)
                                  · have c_821 : (fo_814 (0 : Int32).toNatClampNeg) = ((g_look y (xs ((nI (4 * j) + 1)).toNatClampNeg) (xs ((nI (4 * j) + 2)).toNatClampNeg)).1 : Int32).toInt64 := (lg_cmp_eq _ _).mp c_821
                                    refine lv_goto (tgt := 980) hx hb d_L_law_951 (by decide) ?_
                                    refine lv_iinc (v := nI (4 * (j + 1))) (lv' := [(4, .int (nI (4 * (j + 1)))), (6, .int ((g_look y (xs ((nI (4 * j) + 1)).toNatClampNeg) (xs ((nI (4 * j) + 2)).toNatClampNeg)).1)), (5, .int ((f_look z (xs ((nI (4 * j) + 1)).toNatClampNeg) (xs ((nI (4 * j) + 2)).toNatClampNeg)).1)), (0, .ref b0), (1, .ref x), (2, .ref h0), (3, .ref oo)]) hx hb d_L_law_980 hl (k := 2) rfl (nI_inc4 j) (by decide) rfl (fun ls hl => ?_)
                                    refine lv_goto (tgt := 23) hx hb d_L_law_983 (by decide) ?_
                                    exact ih (j + 1) (f_look z (xs ((nI (4 * j) + 1)).toNatClampNeg) (xs ((nI (4 * j) + 2)).toNatClampNeg)).2.2 (g_look y (xs ((nI (4 * j) + 1)).toNatClampNeg) (xs ((nI (4 * j) + 2)).toNatClampNeg)).2 fo_814 x h0 oo ma (by omega) (by omega) (by omega) (hst.2.2) w_816 _ _ hP hD hS hC hM ho ls (lv_sub hl [0, 3, 4, 5, 6] rfl)
                                  · have c_821 : ¬ (fo_814 (0 : Int32).toNatClampNeg) = ((g_look y (xs ((nI (4 * j) + 1)).toNatClampNeg) (xs ((nI (4 * j) + 2)).toNatClampNeg)).1 : Int32).toInt64 := fun h9 => c_821 ((lg_cmp_eq _ _).mpr h9)
                                    exact absurd ((hfo c_820).trans (by rw [hst.2.1 c_820])) c_821
                              · exact absurd (hst.1.symm) c_819
                            · rcases Decidable.em ((xs (nI (4 * j)).toNatClampNeg &&& 15) = (12 : Int32)) with c_822 | c_822
                              · refine lv_tableIn (tgt := 954) hx hb d_L_law_39 (by rw [c_822]; decide) (by rw [c_822]; decide) (by rw [c_822]; rfl) (by decide) ?_
                                refine lv_aload_n hx hb d_L_law_954 rfl (lv_at hl 2 rfl) ?_
                                refine lv_aload_n hx hb d_L_law_955 rfl (lv_at hl 1 rfl) ?_
                                refine lv_iload hx hb d_L_law_956 (lv_at hl 0 rfl) ?_
                                refine lv_iconst (v := 1) hx hb d_L_law_958 (by decide) ?_
                                refine lv_iadd hx hb d_L_law_959 ?_
                                refine va_sld hx hb hX hbl hbA hS ((show vp_in (nI (4 * j) + 1) L from lw_ix (k := 1) hL h44 (by decide))) d_L_law_960 ?_
                                obtain ⟨a, rfl, hC1⟩ := hC
                                refine vp_callSl (W.runV (As := [.int (xs ((nI (4 * j) + 1)).toNatClampNeg)]) (rest := []) ⟨hx, hb, hml, hown, hts⟩ (c_sum l D (fun q : Nat => s.heap.size ≤ q) w cI cL cD 21 a z (xs ((nI (4 * j) + 1)).toNatClampNeg) hC1) (cwV 1 hts (gVT mB_83 mB_84 mB_85 mB_15 mB_86) rfl rfl rfl (by decide +kernel) ⟨(Nat.le_of_ble_eq_true rfl), (Nat.le_of_ble_eq_true rfl)⟩) ⟨mPc_bl, va_recv hK hP (ci := 2) (q0 := 21) rfl hC1.x, mPc_pr hP hK hD⟩ rfl rfl hl.1 rfl (lv_room (Nat.le_of_ble_eq_true rfl)) d_L_law_961 ⟨by show 28 + 3 * j + 0 ≤ 601024; omega, by show 1086 + 23 * j + 0 ≤ 7293033; omega⟩) (fun v_823 ev_823 => ?_)
                                subst ev_823
                                have hC : cAt w 21 cI cL cD (a_x a) z := ⟨a, rfl, hC1⟩
                                refine lv_aload_n hx hb d_L_law_964 rfl (lv_at hl 3 rfl) ?_
                                refine lv_aload_n hx hb d_L_law_965 rfl (lv_at hl 1 rfl) ?_
                                refine lv_iload hx hb d_L_law_966 (lv_at hl 0 rfl) ?_
                                refine lv_iconst (v := 1) hx hb d_L_law_968 (by decide) ?_
                                refine lv_iadd hx hb d_L_law_969 ?_
                                refine va_sld hx hb hX hbl hbA hS ((show vp_in (nI (4 * j) + 1) L from lw_ix (k := 1) hL h44 (by decide))) d_L_law_970 ?_
                                refine va_calll (va_runV (As := [.int (xs ((nI (4 * j) + 1)).toNatClampNeg)]) (rest := [.long ((f_sum z (xs ((nI (4 * j) + 1)).toNatClampNeg)))]) ⟨hx, hb, hml, hown, hts⟩ (c_M_sum l D (fun q : Nat => s.heap.size ≤ q) w cI cL cD 0 h0 ma y (xs ((nI (4 * j) + 1)).toNatClampNeg) hM hw) (cwV 1 hts (gVT mB_559 mB_560 mB_561 mB_17 mB_562) rfl rfl rfl (by decide +kernel) ⟨(Nat.le_of_ble_eq_true rfl), (Nat.le_of_ble_eq_true rfl)⟩) ⟨mPc_bl, va_recv hK hP (ci := 3) (q0 := 0) rfl hM.1, mPc_pr hP hK hD⟩ rfl rfl hl.1 rfl (lv_room (Nat.le_of_ble_eq_true rfl)) d_L_law_971 ⟨by show 28 + 3 * j + 0 ≤ 601024; omega, by show 1086 + 23 * j + 0 ≤ 7293033; omega⟩) hS (fun _ _ h => h) (fun _ h => h) (fun v_825 u9 t H locs ht hvm ev_825 hB hz1 hk1 hS => ?_)
                                obtain ⟨w_826, hP, hD, hU1⟩ := hB
                                rw [ht] at hP
                                subst ev_825
                                have hC := hC.kb hU1.2.1 (fun j hj => hU1.2.2 j (by omega))
                                have ho := (hU1.2.2 20 (by omega)).trans ho
                                have hM := hU1.1
                                have hst := hOK.2.2.2.2.2.2.2.2.2.2.2.2.2.2 j z y (xs ((nI (4 * j) + 1)).toNatClampNeg) hj5 hR
                                refine W.widen (k := 28 + 3 * (j + 1)) (n := 1086 + 23 * (j + 1)) (by omega) (by omega) ?_
                                refine W.lcmp hx hb d_L_law_974 ?_
                                refine lv_if_eq (tgt := 980) hx hb d_L_law_975 (by decide) (fun c_827 => ?_) (fun c_827 => ?_)
                                · have c_827 : (f_sum z (xs ((nI (4 * j) + 1)).toNatClampNeg)) = (g_sum y (xs ((nI (4 * j) + 1)).toNatClampNeg)).1 := (lg_cmp_eq _ _).mp c_827
                                  refine lv_iinc (v := nI (4 * (j + 1))) (lv' := [(4, .int (nI (4 * (j + 1)))), (0, .ref b0), (1, .ref (a_x a)), (2, .ref h0), (3, .ref oo)]) hx hb d_L_law_980 hl (k := 0) rfl (nI_inc4 j) (by decide) rfl (fun ls hl => ?_)
                                  refine lv_goto (tgt := 23) hx hb d_L_law_983 (by decide) ?_
                                  refine W.widen (k := 28 + 3 * (j + 1)) (n := 1086 + 23 * (j + 1)) (by omega) (by omega) ?_
                                  exact ih (j + 1) z (g_sum y (xs ((nI (4 * j) + 1)).toNatClampNeg)).2 fo (a_x a) h0 oo ma (by omega) (by omega) (by omega) (hst.2) w_826 _ _ hP hD hS hC hM ho ls (lv_sub hl [0, 1, 2, 3, 4] rfl)
                                · have c_827 : ¬ (f_sum z (xs ((nI (4 * j) + 1)).toNatClampNeg)) = (g_sum y (xs ((nI (4 * j) + 1)).toNatClampNeg)).1 := fun h9 => c_827 ((lg_cmp_eq _ _).mpr h9)
                                  exact absurd (hst.1) c_827
                              · refine lv_tableOut (tgt := 980) hx hb d_L_law_39 (tsw13 c_693 c_704 c_715 c_721 c_732 c_743 c_754 c_765 c_778 c_789 c_800 c_811 c_822) (by decide) ?_
                                refine lv_iinc (v := nI (4 * (j + 1))) (lv' := [(4, .int (nI (4 * (j + 1)))), (0, .ref b0), (1, .ref x), (2, .ref h0), (3, .ref oo)]) hx hb d_L_law_980 hl (k := 0) rfl (nI_inc4 j) (by decide) rfl (fun ls hl => ?_)
                                refine lv_goto (tgt := 23) hx hb d_L_law_983 (by decide) ?_
                                refine W.widen (k := 28 + 3 * (j + 1)) (n := 1086 + 23 * (j + 1)) (by omega) (by omega) ?_
                                exact ih (j + 1) z y fo x h0 oo ma (by omega) (by omega) (by omega) (hOK.2.1 j z y hj5 hR) w _ _ hP hD hS hC hM ho ls (lv_sub hl [0, 1, 2, 3, 4] rfl)
