set_option maxHeartbeats 40000000 in
set_option maxRecDepth 100000 in
theorem law_c1 (D : va_G) (K : KI) (C : ZC) (b L q0 : Nat) (zx : Nat → Int) (hfl : (zl C).flags = flags0) (hL : L ≤ 2049) (hzx : ∀ j, -2147483648 ≤ zx j ∧ zx j ≤ 2147483647) (hcv : -2147483648 ≤ cellV L zx ∧ cellV L zx ≤ 2147483647) (F : Fx C D cls5 (TY K) cL_law 7 lw_T RL) (hzt : zT C q0) (hX : zX C b L (zf zx)) (a1 : Nat) (d_2 : Nat) (y_3 : Nat) (u_4 : Nat) (sa_21 : Int) (xc_5 : Nat) (sc_20 : Int) (db_9 : Nat) (dq_10 : Nat) (dt_11 : Nat) (nb_6 : Nat) (yk_12 : Nat) (yn_13 : Nat) (yc_14 : Nat) (ya_15 : Nat) (yd_16 : Nat) (yl_17 : Nat) (np_7 : Nat) (na_8 : Nat) (um_18 : Nat) (ud_19 : Nat) (a26 : Nat) (se_27 : Int) (ea_28 : Int) (dk_29 : Nat) (wt_30 : Nat) (wh_31 : Nat) (nw_32 : Nat) (ki_33 : Nat) (ke_34 : Nat) (mn_35 : Nat) (ak_36 : Nat) (dg_37 : Nat) (uk_38 : Nat) (ud_39 : Nat) (a42 : Nat) (f22 : sc_20 = min (max (cellV L zx) 4) 40) (f23 : 4 ≤ sc_20 ∧ sc_20 ≤ 40 ∧ (nb_6 : Int) = 512 * sc_20) (f24 : 1 ≤ sa_21 ∧ 2 * sa_21 ≤ sc_20 - 2 ∧ (np_7 : Int) = 16 * sa_21 ∧ (na_8 : Int) = 6 * np_7) (f25 : sc_20 - 2 ≤ 2 * sa_21 + 1) (f40 : se_27 = min (max (cellV L zx) 4) 40) (f41 : 4 ≤ se_27 ∧ se_27 ≤ 40 ∧ 1 ≤ ea_28 ∧ 2 * ea_28 ≤ se_27 - 2 ∧ se_27 - 2 ≤ 2 * ea_28 + 1) (nn33 : Nat) (ih33 : LawInv D K C b L q0 zx a1 d_2 y_3 u_4 sa_21 xc_5 sc_20 db_9 dq_10 dt_11 nb_6 yk_12 yn_13 yc_14 ya_15 yd_16 yl_17 np_7 na_8 um_18 ud_19 a26 se_27 ea_28 dk_29 wt_30 wh_31 nw_32 ki_33 ke_34 mn_35 ak_36 dg_37 uk_38 ud_39 a42 nn33) (i : Int) (xru : Int) (xar : Int) (xsq : Int) (xge : Int) (xne : Int) (xwa : Int) (xfe : Int) (xtk : Int) (xcp : Int) (xwc : Int) (xzb : Nat → Int) (xzq : Nat → Int) (xzt : Nat → Int) (xlp : Int) (xre : Int) (xwp : Int) (xlw : Int) (xzk : Nat → Int) (xzn : Nat → Int) (xzc : Nat → Int) (xza : Nat → Int) (xfd : Nat → Int64) (xzl : Nat → Int) (xzm : Nat → Int) (xfu : Nat → Int64) (xcf : Nat → Int) (mth : Int) (mwc : Int) (mru : Int) (med : Int) (mwa : Int) (msq : Int) (mar : Int) (men : Int) (msd : Int) (mwg : Int) (mtk : Int) (mcp : Int) (mco : Int) (mzd : Nat → Int) (mzw : Nat → Int) (mzh : Nat → Int) (mzn : Nat → Int) (mkz : Nat → Int) (myz : Nat → Int) (mmz : Nat → Int) (maz : Nat → Int) (mfg : Nat → Int64) (mzv : Nat → Int) (mfv : Nat → Int64) (fo : Nat → Int64) (g33_0 : 1 ≤ i ∧ i ≤ L + 4) (g33_1 : 0 ≤ msq ∧ msq ≤ 2000000001 + 2 * i) (g33_2 : 0 ≤ xwc ∧ xwc ≤ 64) (g33_3 : rng (-128) 127 xzb) (g33_4 : rng (-128) 127 xzq) (g33_5 : rng 0 (sc_20-1) xzt) (g33_6 : 0 ≤ xre ∧ xre ≤ np_7) (g33_7 : -1 ≤ xlp ∧ xlp ≤ np_7 - 1 ∧ 0 ≤ xwp ∧ xwp ≤ xre ∧ -1 ≤ xlw ∧ xlw ≤ np_7 - 1) (g33_8 : rng 0 3 xzk) (g33_9 : rng (-128) 127 xzn) (g33_10 : nmOk xzk xzn) (g33_11 : rng 0 6 xzc) (g33_12 : rng (-128) 127 xza) (g33_13 : akOk xzc xza) (g33_14 : rng (-1) (np_7-1) xzl) (g33_15 : 0 ≤ xar ∧ xar ≤ 1) (g33_16 : -1 ≤ xtk ∧ xtk ≤ xre ∧ (xtk = -1 ∨ (0 ≤ xcp ∧ xcp ≤ xtk))) (g33_17 : rng 0 (np_7-1) xcf) (g33_18 : 0 ≤ xfe ∧ xfe ≤ 304) (g33_19 : xru = 0 ∨ xru = 1) (g33_20 : xru = 0 → xtk = -1) (g33_21 : 0 ≤ xwa ∧ xwa ≤ 304) (g33_22 : 1 ≤ xne ∧ xne ≤ 200) (g33_23 : rng 0 1 xzm) (g33_24 : 0 ≤ mwc ∧ mwc ≤ 64) (g33_25 : rng 0 255 mzd) (g33_26 : rng 0 255 mzw) (g33_27 : rng 0 (se_27-1) mzh) (g33_28 : rng 0 255 mzn) (g33_29 : rng 0 3 mkz) (g33_30 : rng 0 255 myz) (g33_31 : rng 0 6 mmz) (g33_32 : rng 0 255 maz) (g33_33 : akOk mmz maz) (g33_34 : 0 ≤ men ∧ men ≤ 16 * ea_28) (g33_35 : 0 ≤ mar ∧ mar ≤ 1) (g33_36 : mco = 0 ∨ (mco = 1 ∧ 0 ≤ mcp ∧ mcp ≤ mtk ∧ mtk ≤ men)) (g33_37 : mru = 0 ∨ mru = 1) (g33_38 : mru = 0 → mwc = 0 ∧ mco = 0) (g33_39 : 0 ≤ msd ∧ msd ≤ 304) (g33_40 : 0 ≤ mwg ∧ mwg ≤ 304) (g33_41 : rng 0 1 mzv) (g33_42 : 1 ≤ mwa ∧ mwa ≤ 200) (g33_43 : mth = 0 ∨ mth = 1) (hmu33 : (L + 4 - i : Int).toNat < nn33 + 1) (c42 : ¬ (L : Int) - 4 < i) : Go C room_1 D cls5 7 (40 + i.toNat) (130000 + 6 * i.toNat) [oX5 a1 d_2 y_3 u_4 sa_21 xru xar xsq xge xne xwa xfe xtk xcp xc_5, oX0 d_2 sc_20 db_9 dq_10 dt_11 xwc, aB K db_9 nb_6 xzb, aB K dq_10 32768 xzq, aI K dt_11 64 xzt, oX3 y_3 yk_12 yn_13 yc_14 ya_15 yd_16 yl_17 xlp xre xwp xlw, aI K yk_12 np_7 xzk, aI K yn_13 np_7 xzn, aI K yc_14 np_7 xzc, aI K ya_15 na_8 xza, aL K yd_16 np_7 xfd, aI K yl_17 64 xzl, oX4 u_4 um_18 ud_19, aZ K um_18 64 xzm, aL K ud_19 64 xfu, aI K xc_5 np_7 xcf, oX6 a26 mth se_27 ea_28 dk_29 wt_30 wh_31 mwc nw_32 mru med mwa msq mar men msd mwg mtk mcp mco ki_33 ke_34 mn_35 ak_36 dg_37 uk_38 ud_39, aI K dk_29 20480 mzd, aI K wt_30 32768 mzw, aI K wh_31 64 mzh, aI K nw_32 512 mzn, aI K ki_33 608 mkz, aI K ke_34 608 myz, aI K mn_35 608 mmz, aI K ak_36 3648 maz, aL K dg_37 608 mfg, aZ K uk_38 64 mzv, aL K ud_39 64 mfv, aL K a42 1 fo] 141 [(4, .int (iZ i)), (3, .ref a42), (2, .ref a26), (1, .ref a1), (0, .ref b)] [] := by
  refine z_aload_n F 3 dL_law_141 rfl ?_
  refine z_aload_n F 4 dL_law_142 rfl ?_
  refine z_iload F 0 dL_law_143 rfl ?_
  refine z_iconst F dL_law_145 ?_
  refine z_iadd F dL_law_146 ?_
  refine z_sld F hX (by omega) (by omega) dL_law_147 ?_
  have r123 := hzx (i + 1).toNat
  refine z_aload_n F 4 dL_law_148 rfl ?_
  refine z_iload F 0 dL_law_149 rfl ?_
  refine z_iconst F dL_law_151 ?_
  refine z_iadd F dL_law_152 ?_
  refine z_sld F hX (by omega) (by omega) dL_law_153 ?_
  have r124 := hzx (i + 2).toNat
  refine z_i2l F dL_law_154 ?_
  refine z_bipush F dL_law_155 (by decide) ?_
  refine z_lshl F dL_law_157 ?_
  refine z_aload_n F 4 dL_law_158 rfl ?_
  refine z_iload F 0 dL_law_159 rfl ?_
  refine z_iconst F dL_law_161 ?_
  refine z_iadd F dL_law_162 ?_
  refine z_sld F hX (by omega) (by omega) dL_law_163 ?_
  have r125 := hzx (i + 3).toNat
  refine z_i2l F dL_law_164 ?_
  refine z_ldc2 F t4_84 dL_law_165 ?_
  refine z_land F dL_law_168 ?_
  refine z_lor F dL_law_169 ?_
  refine z_callV F lw_good (k_X5_row _ D K a1 sa_21 xru xar xsq xge xne xwa xfe xtk xcp xc_5 u_4 d_2 sc_20 db_9 dq_10 dt_11 xwc nb_6 xzb xzq xzt y_3 yk_12 yn_13 yc_14 ya_15 yd_16 yl_17 xlp xre xwp xlw np_7 na_8 xzk xzn xzc xza xfd xzl um_18 ud_19 xzm xfu xcf (zx (i + 1).toNat) ((((iZ (zx (i + 2).toNat)).toInt64) <<< ((iZ 32).toInt64 &&& 63)) ||| (((iZ (zx (i + 3).toNat)).toInt64) &&& 4294967295)) f23 f24 g33_2 g33_3 g33_4 g33_5 g33_6 g33_7 g33_8 g33_9 g33_10 g33_11 g33_12 g33_13 g33_14 g33_15 g33_16 g33_17 g33_18 g33_19 g33_20 g33_21 g33_22 g33_23 (by omega)) t2_44 t1_1 t2_41 t2_42 (q := (RX5, TX5, 14)) t2_43 ⟨rfl, rfl⟩ ndX5_row ⟨Nat.le_of_ble_eq_true rfl, Nat.le_of_ble_eq_true rfl⟩ 0 rfl rfl (rest := []) rfl (Nat.le_of_ble_eq_true rfl) dL_law_170 ⟨(show 40 + i.toNat + 0 ≤ 601024 by omega), (show 130000 + 6 * i.toNat + 0 ≤ 7293000 by omega)⟩ (wr := [oX6 a26 mth se_27 ea_28 dk_29 wt_30 wh_31 mwc nw_32 mru med mwa msq mar men msd mwg mtk mcp mco ki_33 ke_34 mn_35 ak_36 dg_37 uk_38 ud_39, aI K dk_29 20480 mzd, aI K wt_30 32768 mzw, aI K wh_31 64 mzh, aI K nw_32 512 mzn, aI K ki_33 608 mkz, aI K ke_34 608 myz, aI K mn_35 608 mmz, aI K ak_36 3648 maz, aL K dg_37 608 mfg, aZ K uk_38 64 mzv, aL K ud_39 64 mfv, aL K a42 1 fo]) ([0, 1, 2, 3, 4, 5, 6, 7, 8, 9, 10, 11, 12, 13, 14, 15] : List Nat) ([16, 17, 18, 19, 20, 21, 22, 23, 24, 25, 26, 27, 28] : List Nat) rfl rfl rfl rfl (by decide) (fun vr wo hp => ?_)
  obtain ⟨r_126, wc2_127, zb2_128, zq2_129, zt2_130, lp2_131, re2_132, wp2_133, lw2_134, zk2_135, zn2_136, zc2_137, fd2_138, zl2_139, zm2_140, fu2_141, rfl, rfl, f142, f143, f144, f145, f146, f147, f148, f149, f150, f151, f152, f153, f154, f155, f156, f157⟩ := hp
  refine z_re F (ws' := [oX5 a1 d_2 y_3 u_4 sa_21 xru xar xsq xge xne xwa xfe xtk xcp xc_5, oX0 d_2 sc_20 db_9 dq_10 dt_11 wc2_127, aB K db_9 nb_6 zb2_128, aB K dq_10 32768 zq2_129, aI K dt_11 64 zt2_130, oX3 y_3 yk_12 yn_13 yc_14 ya_15 yd_16 yl_17 lp2_131 re2_132 wp2_133 lw2_134, aI K yk_12 np_7 zk2_135, aI K yn_13 np_7 zn2_136, aI K yc_14 np_7 zc2_137, aI K ya_15 na_8 xza, aL K yd_16 np_7 fd2_138, aI K yl_17 64 zl2_139, oX4 u_4 um_18 ud_19, aZ K um_18 64 zm2_140, aL K ud_19 64 fu2_141, aI K xc_5 np_7 xcf, oX6 a26 mth se_27 ea_28 dk_29 wt_30 wh_31 mwc nw_32 mru med mwa msq mar men msd mwg mtk mcp mco ki_33 ke_34 mn_35 ak_36 dg_37 uk_38 ud_39, aI K dk_29 20480 mzd, aI K wt_30 32768 mzw, aI K wh_31 64 mzh, aI K nw_32 512 mzn, aI K ki_33 608 mkz, aI K ke_34 608 myz, aI K mn_35 608 mmz, aI K ak_36 3648 maz, aL K dg_37 608 mfg, aZ K uk_38 64 mzv, aL K ud_39 64 mfv, aL K a42 1 fo]) (st' := [.int (iZ r_126)]) ([13, 14, 15, 16, 17, 18, 19, 20, 21, 22, 23, 24, 25, 26, 27, 28, 0, 1, 2, 3, 4, 5, 6, 7, 8, 9, 10, 11, 12] : List Nat) rfl rfl rfl ?_
  refine z_pop F dL_law_173 rfl ?_
  refine z_aload_n F 2 dL_law_174 rfl ?_
  refine z_aload_n F 4 dL_law_175 rfl ?_
  refine z_iload F 0 dL_law_176 rfl ?_
  refine z_iconst F dL_law_178 ?_
  refine z_iadd F dL_law_179 ?_
  refine z_sld F hX (by omega) (by omega) dL_law_180 ?_
  have r158 := hzx (i + 1).toNat
  refine z_aload_n F 4 dL_law_181 rfl ?_
  refine z_iload F 0 dL_law_182 rfl ?_
  refine z_iconst F dL_law_184 ?_
  refine z_iadd F dL_law_185 ?_
  refine z_sld F hX (by omega) (by omega) dL_law_186 ?_
  have r159 := hzx (i + 2).toNat
  refine z_i2l F dL_law_187 ?_
  refine z_bipush F dL_law_188 (by decide) ?_
  refine z_lshl F dL_law_190 ?_
  refine z_aload_n F 4 dL_law_191 rfl ?_
  refine z_iload F 0 dL_law_192 rfl ?_
  refine z_iconst F dL_law_194 ?_
  refine z_iadd F dL_law_195 ?_
  refine z_sld F hX (by omega) (by omega) dL_law_196 ?_
  have r160 := hzx (i + 3).toNat
  refine z_i2l F dL_law_197 ?_
  refine z_ldc2 F t4_84 dL_law_198 ?_
  refine z_land F dL_law_201 ?_
  refine z_lor F dL_law_202 ?_
  refine z_callV F lw_good (k_X6_row _ D K a26 mth se_27 ea_28 dk_29 wt_30 wh_31 mwc nw_32 mru med mwa msq mar men msd mwg mtk mcp mco ki_33 ke_34 mn_35 ak_36 dg_37 uk_38 ud_39 mzd mzw mzh mzn mkz myz mmz maz mfg mzv mfv (zx (i + 1).toNat) ((((iZ (zx (i + 2).toNat)).toInt64) <<< ((iZ 32).toInt64 &&& 63)) ||| (((iZ (zx (i + 3).toNat)).toInt64) &&& 4294967295)) f41 g33_24 g33_25 g33_26 g33_27 g33_28 g33_29 g33_30 g33_31 g33_32 g33_33 g33_34 g33_35 g33_36 g33_37 g33_38 (by omega) g33_39 g33_40 g33_41 g33_42 g33_43 (by omega)) t3_235 t1_6 t3_232 t3_233 (q := (RX6, TX6, 26)) t3_234 ⟨rfl, rfl⟩ ndX6_row ⟨Nat.le_of_ble_eq_true rfl, Nat.le_of_ble_eq_true rfl⟩ 0 rfl rfl (rest := []) rfl (Nat.le_of_ble_eq_true rfl) dL_law_203 ⟨(show 40 + i.toNat + 0 ≤ 601024 by omega), (show 130000 + 6 * i.toNat + 0 ≤ 7293000 by omega)⟩ (wr := [oX5 a1 d_2 y_3 u_4 sa_21 xru xar xsq xge xne xwa xfe xtk xcp xc_5, oX0 d_2 sc_20 db_9 dq_10 dt_11 wc2_127, aB K db_9 nb_6 zb2_128, aB K dq_10 32768 zq2_129, aI K dt_11 64 zt2_130, oX3 y_3 yk_12 yn_13 yc_14 ya_15 yd_16 yl_17 lp2_131 re2_132 wp2_133 lw2_134, aI K yk_12 np_7 zk2_135, aI K yn_13 np_7 zn2_136, aI K yc_14 np_7 zc2_137, aI K ya_15 na_8 xza, aL K yd_16 np_7 fd2_138, aI K yl_17 64 zl2_139, oX4 u_4 um_18 ud_19, aZ K um_18 64 zm2_140, aL K ud_19 64 fu2_141, aI K xc_5 np_7 xcf, aL K a42 1 fo]) ([16, 17, 18, 19, 20, 21, 22, 23, 24, 25, 26, 27] : List Nat) ([0, 1, 2, 3, 4, 5, 6, 7, 8, 9, 10, 11, 12, 13, 14, 15, 28] : List Nat) rfl rfl rfl rfl (by decide) (fun vr wo hp => ?_)
  obtain ⟨r_161, en2_162, wc2_163, zd2_164, zw2_165, zh2_166, zn2_167, kz2_168, yz2_169, mz2_170, fg2_171, zv2_172, fv2_173, rfl, rfl, f174, f175, f176, f177, f178, f179, f180, f181, f182, f183, f184, f185, f186, f187, f188⟩ := hp
  refine z_re F (ws' := [oX5 a1 d_2 y_3 u_4 sa_21 xru xar xsq xge xne xwa xfe xtk xcp xc_5, oX0 d_2 sc_20 db_9 dq_10 dt_11 wc2_127, aB K db_9 nb_6 zb2_128, aB K dq_10 32768 zq2_129, aI K dt_11 64 zt2_130, oX3 y_3 yk_12 yn_13 yc_14 ya_15 yd_16 yl_17 lp2_131 re2_132 wp2_133 lw2_134, aI K yk_12 np_7 zk2_135, aI K yn_13 np_7 zn2_136, aI K yc_14 np_7 zc2_137, aI K ya_15 na_8 xza, aL K yd_16 np_7 fd2_138, aI K yl_17 64 zl2_139, oX4 u_4 um_18 ud_19, aZ K um_18 64 zm2_140, aL K ud_19 64 fu2_141, aI K xc_5 np_7 xcf, oX6 a26 0 se_27 ea_28 dk_29 wt_30 wh_31 wc2_163 nw_32 mru med mwa msq mar en2_162 msd mwg mtk mcp mco ki_33 ke_34 mn_35 ak_36 dg_37 uk_38 ud_39, aI K dk_29 20480 zd2_164, aI K wt_30 32768 zw2_165, aI K wh_31 64 zh2_166, aI K nw_32 512 zn2_167, aI K ki_33 608 kz2_168, aI K ke_34 608 yz2_169, aI K mn_35 608 mz2_170, aI K ak_36 3648 maz, aL K dg_37 608 fg2_171, aZ K uk_38 64 zv2_172, aL K ud_39 64 fv2_173, aL K a42 1 fo]) (st' := [.int (iZ r_161)]) ([0, 1, 2, 3, 4, 5, 6, 7, 8, 9, 10, 11, 12, 13, 14, 15, 17, 18, 19, 20, 21, 22, 23, 24, 25, 26, 27, 28, 16] : List Nat) rfl rfl rfl ?_
  refine z_pop F dL_law_206 rfl ?_
  refine z_goto F 597 dL_law_207 (by decide) ?_
  refine z_iinc F (lv' := [(4, .int (iZ (i + 4))), (3, .ref a42), (2, .ref a26), (1, .ref a1), (0, .ref b)]) 0 dL_law_597 rfl (by decide) rfl ?_
  refine z_goto F 33 dL_law_600 (by decide) ?_
  refine z_widen F (k2 := 40 + (i + 4).toNat) (n2 := 130000 + 6 * (i + 4).toNat) (by omega) (by omega) ?_
  exact ih33 (i + 4) xru xar xsq xge xne xwa xfe xtk xcp wc2_127 zb2_128 zq2_129 zt2_130 lp2_131 re2_132 wp2_133 lw2_134 zk2_135 zn2_136 zc2_137 xza fd2_138 zl2_139 zm2_140 fu2_141 xcf 0 wc2_163 mru med mwa msq mar en2_162 msd mwg mtk mcp mco zd2_164 zw2_165 zh2_166 zn2_167 kz2_168 yz2_169 mz2_170 maz fg2_171 zv2_172 fv2_173 fo (by omega) (by omega) f144 f145 f146 f147 f149 f150 f151 f152 f153 f154 g33_12 f155 f156 g33_15 (by omega) g33_17 g33_18 g33_19 g33_20 g33_21 g33_22 f157 f178 f179 f180 f181 f182 f183 f184 f185 g33_32 f186 f177 g33_35 (by omega) g33_37 (by omega) g33_39 g33_40 f188 g33_42 (by omega) (by omega)
