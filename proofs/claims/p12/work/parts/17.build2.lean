set_option maxHeartbeats 4000000 in
set_option maxRecDepth 20000 in
theorem k_X5_fitsEdition (l : Launch) (D : va_G) (K : KI) (x : Nat) (xd : Nat) (xt : Nat) (xu : Nat) (sa : Int) (ru : Int) (ar : Int) (sq : Int) (ge : Int) (ne : Int) (wa : Int) (fe : Int) (tk : Int) (cp : Int) (xc : Nat) (ed : Int64)  : Ct lw_T l yX5_fitsEdition cX5_fitsEdition 3 (some .boolean) { frames := 0, cells := 0, slots := 0, locals := 0 } 0 0 D cls5 (TY K) [.ref x, .long ed] [oX5 x xd xt xu sa ru ar sq ge ne wa fe tk cp xc] (fun vr wo => ∃ (r : Int), vr = some (.int (iZ r)) ∧ wo = [oX5 x xd xt xu sa ru ar sq ge ne wa fe tk cp xc] ∧ (r = 0 ∨ r = 1)) := by
  refine ct_of (own := RX5) (lv := [(0, .ref x), (1, .long ed)]) (by decide) rfl (Nat.le_of_ble_eq_true rfl) rfl (fun C F hr hnm hzl => ?_)
  subst hzl
  refine z_lload_n F 1 dX5_fitsEdition_0 rfl ?_
  refine z_aload_n F 0 dX5_fitsEdition_1 rfl ?_
  refine z_get F 0 8 iX5 rfl rfl (by decide) t1_117 rfl dX5_fitsEdition_2 ?_
  refine z_i2l F dX5_fitsEdition_5 ?_
  refine z_lcmp F dX5_fitsEdition_6 (fun b1 rb1 eb1 => ?_)
  refine z_if_eq F 22 dX5_fitsEdition_7 (by decide) (by omega) (fun c2 => ?_) (fun c2 => ?_)
  · refine z_iconst F dX5_fitsEdition_22 ?_
    refine z_goto F 27 dX5_fitsEdition_23 (by decide) ?_
    exact z_zret F hr (by decide) dX5_fitsEdition_27 (by omega) ⟨1, rfl, rfl, (by omega)⟩
  · refine z_lload_n F 1 dX5_fitsEdition_10 rfl ?_
    refine z_aload_n F 0 dX5_fitsEdition_11 rfl ?_
    refine z_get F 0 8 iX5 rfl rfl (by decide) t1_117 rfl dX5_fitsEdition_12 ?_
    refine z_iconst F dX5_fitsEdition_15 ?_
    refine z_isub F dX5_fitsEdition_16 ?_
    refine z_i2l F dX5_fitsEdition_17 ?_
    refine z_lcmp F dX5_fitsEdition_18 (fun b3 rb3 eb3 => ?_)
    refine z_if_ne F 26 dX5_fitsEdition_19 (by decide) (by omega) (fun c4 => ?_) (fun c4 => ?_)
    · refine z_iconst F dX5_fitsEdition_26 ?_
      exact z_zret F hr (by decide) dX5_fitsEdition_27 (by omega) ⟨0, rfl, rfl, (by omega)⟩
    · refine z_iconst F dX5_fitsEdition_22 ?_
      refine z_goto F 27 dX5_fitsEdition_23 (by decide) ?_
      exact z_zret F hr (by decide) dX5_fitsEdition_27 (by omega) ⟨1, rfl, rfl, (by omega)⟩
set_option maxHeartbeats 4000000 in
set_option maxRecDepth 20000 in
theorem k_X5_writeRow (l : Launch) (D : va_G) (K : KI) (x : Nat) (sa : Int) (ru : Int) (ar : Int) (sq : Int) (ge : Int) (ne : Int) (wa : Int) (fe : Int) (tk : Int) (cp : Int) (xc : Nat) (u : Nat) (d : Nat) (sc : Int) (db : Nat) (dq : Nat) (dt : Nat) (wc : Int) (nb : Nat) (zb : Nat → Int) (zq : Nat → Int) (zt : Nat → Int) (y : Nat) (yk : Nat) (yn : Nat) (yc : Nat) (ya : Nat) (yd : Nat) (yl : Nat) (lp : Int) (re : Int) (wp : Int) (lw : Int) (np : Nat) (na : Nat) (zk : Nat → Int) (zn : Nat → Int) (zc : Nat → Int) (za : Nat → Int) (fd : Nat → Int64) (pl : Int) (oa : Int) (tp : Int) (h0 : 4 ≤ sc ∧ sc ≤ 40 ∧ (nb : Int) = 512 * sc) (h1 : 1 ≤ sa ∧ 2 * sa ≤ sc - 2 ∧ (np : Int) = 16 * sa ∧ (na : Int) = 6 * np) (h2 : 0 ≤ wc ∧ wc ≤ 64) (h3 : rng (-128) 127 zb) (h4 : rng (-128) 127 zq) (h5 : rng 0 (sc-1) zt) (h6 : 0 ≤ pl ∧ pl ≤ np - 1 ∧ 0 ≤ tp ∧ tp ≤ np - 1) (h7 : oa = 0 ∨ oa = 1) (h8 : rng 0 6 zc) (h9 : rng (-128) 127 za) : Ct lw_T l yX5_writeRow cX5_writeRow 5 none { frames := 3, cells := 0, slots := 0, locals := 88 } 0 0 D cls5 (TY K) [.ref x, .int (iZ pl), .int (iZ oa), .int (iZ tp)] [oX5 x d y u sa ru ar sq ge ne wa fe tk cp xc, oX0 d sc db dq dt wc, aB K db nb zb, aB K dq 32768 zq, aI K dt 64 zt, oX3 y yk yn yc ya yd yl lp re wp lw, aI K yk np zk, aI K yn np zn, aI K yc np zc, aI K ya na za, aL K yd np fd] (fun vr wo => ∃ (wc2 : Int), ∃ (zb2 : Nat → Int), ∃ (zq2 : Nat → Int), ∃ (zt2 : Nat → Int), vr = none ∧ wo = [oX5 x d y u sa ru ar sq ge ne wa fe tk cp xc, oX0 d sc db dq dt wc2, aB K db nb zb2, aB K dq 32768 zq2, aI K dt 64 zt2, oX3 y yk yn yc ya yd yl lp re wp lw, aI K yk np zk, aI K yn np zn, aI K yc np zc, aI K ya na za, aL K yd np fd] ∧ (0 ≤ wc2 ∧ wc2 ≤ 64) ∧ (rng (-128) 127 zb2) ∧ (rng (-128) 127 zq2) ∧ (rng 0 (sc-1) zt2)) := by
  refine ct_of (own := RX5) (lv := [(0, .ref x), (1, .int (iZ pl)), (2, .int (iZ oa)), (3, .int (iZ tp))]) (by decide) rfl (Nat.le_of_ble_eq_true rfl) rfl (fun C F hr hnm hzl => ?_)
  subst hzl
  refine z_aload_n F 0 dX5_writeRow_0 rfl ?_
  refine z_get F 0 0 iX5 rfl rfl (by decide) t1_109 rfl dX5_writeRow_1 ?_
  refine z_aload_n F 0 dX5_writeRow_4 rfl ?_
  refine z_iload_n F 2 dX5_writeRow_5 rfl ?_
  refine z_callV F lw_good (k_X5_firstSector _ D K x d y u sa ru ar sq ge ne wa fe tk cp xc oa h7) t1_211 t1_1 t1_208 t1_210 (q := (RX5, TX5, 14)) ts_5 ⟨rfl, rfl⟩ ndX5_firstSector ⟨Nat.le_of_ble_eq_true rfl, Nat.le_of_ble_eq_true rfl⟩ 0 rfl rfl (rest := [.ref d]) rfl (Nat.le_of_ble_eq_true rfl) dX5_writeRow_6 ⟨(show 0 + 0 ≤ 0 by omega), (show 0 + 0 ≤ 0 by omega)⟩ (wr := [oX0 d sc db dq dt wc, aB K db nb zb, aB K dq 32768 zq, aI K dt 64 zt, oX3 y yk yn yc ya yd yl lp re wp lw, aI K yk np zk, aI K yn np zn, aI K yc np zc, aI K ya na za, aL K yd np fd]) ([0] : List Nat) ([1, 2, 3, 4, 5, 6, 7, 8, 9, 10] : List Nat) rfl rfl rfl rfl (by decide) (fun vr wo hp => ?_)
  obtain ⟨r_1, rfl, rfl, f2⟩ := hp
  refine z_re F (ws' := [oX5 x d y u sa ru ar sq ge ne wa fe tk cp xc, oX0 d sc db dq dt wc, aB K db nb zb, aB K dq 32768 zq, aI K dt 64 zt, oX3 y yk yn yc ya yd yl lp re wp lw, aI K yk np zk, aI K yn np zn, aI K yc np zc, aI K ya na za, aL K yd np fd]) (st' := [.int (iZ r_1), .ref d]) ([10, 0, 1, 2, 3, 4, 5, 6, 7, 8, 9] : List Nat) rfl rfl rfl ?_
  refine z_iload_n F 3 dX5_writeRow_9 rfl ?_
  refine z_bipush F dX5_writeRow_10 (by decide) ?_
  refine z_idiv F dX5_writeRow_12 (by omega) (by omega) ?_
  refine z_nm F (fun q3 eq3 => ?_)
  have hq3 := dv_spec tp 16 (by omega)
  rw [← eq3] at hq3
  refine z_iadd F dX5_writeRow_13 ?_
  refine z_callV F lw_good (k_X0_waitAsItWillBe _ D K d sc db dq dt wc nb zb zq zt (r_1 + q3) h0 h3 h4 h5 h2 (by omega)) t2_65 t1_3 t2_62 t2_63 (q := (RX0, TX0, 5)) t2_64 ⟨rfl, rfl⟩ ndX0_waitAsItWillBe ⟨Nat.le_of_ble_eq_true rfl, Nat.le_of_ble_eq_true rfl⟩ 0 rfl rfl (rest := []) rfl (Nat.le_of_ble_eq_true rfl) dX5_writeRow_14 ⟨(show 0 + 0 ≤ 0 by omega), (show 0 + 0 ≤ 0 by omega)⟩ (wr := [oX5 x d y u sa ru ar sq ge ne wa fe tk cp xc, oX3 y yk yn yc ya yd yl lp re wp lw, aI K yk np zk, aI K yn np zn, aI K yc np zc, aI K ya na za, aL K yd np fd]) ([1, 2, 3, 4] : List Nat) ([0, 5, 6, 7, 8, 9, 10] : List Nat) rfl rfl rfl rfl (by decide) (fun vr wo hp => ?_)
  obtain ⟨r_4, wc2_5, zb2_6, zq2_7, zt2_8, rfl, rfl, f9, f10, f11, f12, f13⟩ := hp
  refine z_re F (ws' := [oX5 x d y u sa ru ar sq ge ne wa fe tk cp xc, oX0 d sc db dq dt wc2_5, aB K db nb zb2_6, aB K dq 32768 zq2_7, aI K dt 64 zt2_8, oX3 y yk yn yc ya yd yl lp re wp lw, aI K yk np zk, aI K yn np zn, aI K yc np zc, aI K ya na za, aL K yd np fd]) (st' := [.int (iZ r_4)]) ([0, 7, 8, 9, 10, 1, 2, 3, 4, 5, 6] : List Nat) rfl rfl rfl ?_
  refine z_istore F (lv' := [(4, .int (iZ r_4)), (0, .ref x), (1, .int (iZ pl)), (2, .int (iZ oa)), (3, .int (iZ tp))]) dX5_writeRow_17 (by decide) rfl ?_
  refine z_aload_n F 1 dX5_writeRow_19 rfl ?_
  refine z_get F 0 1 iX5 rfl rfl (by decide) t1_110 rfl dX5_writeRow_20 ?_
  refine z_iload_n F 2 dX5_writeRow_23 rfl ?_
  refine z_aload_n F 1 dX5_writeRow_24 rfl ?_
  refine z_get F 0 0 iX5 rfl rfl (by decide) t1_109 rfl dX5_writeRow_25 ?_
  refine z_get F 1 2 iX0 rfl rfl (by decide) t1_41 rfl dX5_writeRow_28 ?_
  refine z_iload F 0 dX5_writeRow_31 rfl ?_
  refine z_iload_n F 4 dX5_writeRow_33 rfl ?_
  refine z_bipush F dX5_writeRow_34 (by decide) ?_
  refine z_irem F dX5_writeRow_36 (by omega) (by omega) ?_
  refine z_nm F (fun q14 eq14 => ?_)
  have hq14 := md_spec tp 16 (by omega)
  rw [← eq14] at hq14
  refine z_bipush F dX5_writeRow_37 (by decide) ?_
  refine z_imul F dX5_writeRow_39 ?_
  refine z_iadd F dX5_writeRow_40 ?_
  refine z_iload_n F 4 dX5_writeRow_41 rfl ?_
  refine z_callV F lw_good (k_X3_write _ D K y yk yn yc ya yd yl lp re wp lw np na zk zn zc za fd dq 32768 zq2_7 pl (r_4 + (q14 * 32)) tp (by omega) (by omega) (by omega) f12 h8 h9) t2_73 t1_4 t2_70 t2_71 (q := (RX3, TX3, 10)) t2_72 ⟨rfl, rfl⟩ ndX3_write ⟨Nat.le_of_ble_eq_true rfl, Nat.le_of_ble_eq_true rfl⟩ 0 rfl rfl (rest := []) rfl (Nat.le_of_ble_eq_true rfl) dX5_writeRow_42 ⟨(show 0 + 0 ≤ 0 by omega), (show 0 + 0 ≤ 0 by omega)⟩ (wr := [oX5 x d y u sa ru ar sq ge ne wa fe tk cp xc, oX0 d sc db dq dt wc2_5, aB K db nb zb2_6, aI K dt 64 zt2_8]) ([5, 6, 7, 8, 9, 10, 3] : List Nat) ([0, 1, 2, 4] : List Nat) rfl rfl rfl rfl (by decide) (fun vr wo hp => ?_)
  obtain ⟨z2_15, rfl, rfl, f16⟩ := hp
  refine z_re F (ws' := [oX5 x d y u sa ru ar sq ge ne wa fe tk cp xc, oX0 d sc db dq dt wc2_5, aB K db nb zb2_6, aB K dq 32768 z2_15, aI K dt 64 zt2_8, oX3 y yk yn yc ya yd yl lp re wp lw, aI K yk np zk, aI K yn np zn, aI K yc np zc, aI K ya na za, aL K yd np fd]) (st' := []) ([0, 1, 2, 10, 3, 4, 5, 6, 7, 8, 9] : List Nat) rfl rfl rfl ?_
  exact z_vret F hr dX5_writeRow_45 (by omega) ⟨wc2_5, zb2_6, z2_15, zt2_8, rfl, rfl, f10, f11, f16, f13⟩
set_option maxHeartbeats 4000000 in
set_option maxRecDepth 20000 in
theorem k_X5_keep (l : Launch) (D : va_G) (K : KI) (x : Nat) (sa : Int) (ru : Int) (ar : Int) (sq : Int) (ge : Int) (ne : Int) (wa : Int) (fe : Int) (tk : Int) (cp : Int) (xc : Nat) (u : Nat) (d : Nat) (sc : Int) (db : Nat) (dq : Nat) (dt : Nat) (wc : Int) (nb : Nat) (zb : Nat → Int) (zq : Nat → Int) (zt : Nat → Int) (y : Nat) (yk : Nat) (yn : Nat) (yc : Nat) (ya : Nat) (yd : Nat) (yl : Nat) (lp : Int) (re : Int) (wp : Int) (lw : Int) (np : Nat) (na : Nat) (zk : Nat → Int) (zn : Nat → Int) (zc : Nat → Int) (za : Nat → Int) (fd : Nat → Int64) (zl : Nat → Int) (kd : Int) (nm : Int) (dg : Int64) (h0 : 4 ≤ sc ∧ sc ≤ 40 ∧ (nb : Int) = 512 * sc) (h1 : 1 ≤ sa ∧ 2 * sa ≤ sc - 2 ∧ (np : Int) = 16 * sa ∧ (na : Int) = 6 * np) (h2 : 0 ≤ wc ∧ wc ≤ 64) (h3 : rng (-128) 127 zb) (h4 : rng (-128) 127 zq) (h5 : rng 0 (sc-1) zt) (h6 : 0 ≤ re ∧ re ≤ np) (h7 : -1 ≤ lp ∧ lp ≤ np - 1 ∧ 0 ≤ wp ∧ wp ≤ re ∧ -1 ≤ lw ∧ lw ≤ np - 1) (h8 : rng 0 3 zk) (h9 : rng (-128) 127 zn) (h10 : nmOk zk zn) (h11 : rng 0 6 zc) (h12 : rng (-128) 127 za) (h13 : akOk zc za) (h14 : rng (-1) (np-1) zl) (h15 : 0 ≤ ar ∧ ar ≤ 1) (h16 : 1 ≤ kd ∧ kd ≤ 3 ∧ 0 ≤ nm ∧ nm ≤ 63) : Ct lw_T l yX5_keep cX5_keep 6 (some .int) { frames := 4, cells := 0, slots := 0, locals := 112 } 0 0 D cls5 (TY K) [.ref x, .int (iZ kd), .int (iZ nm), .long dg] [oX5 x d y u sa ru ar sq ge ne wa fe tk cp xc, oX0 d sc db dq dt wc, aB K db nb zb, aB K dq 32768 zq, aI K dt 64 zt, oX3 y yk yn yc ya yd yl lp re wp lw, aI K yk np zk, aI K yn np zn, aI K yc np zc, aI K ya na za, aL K yd np fd, aI K yl 64 zl] (fun vr wo => ∃ (r : Int), ∃ (wc2 : Int), ∃ (zb2 : Nat → Int), ∃ (zq2 : Nat → Int), ∃ (zt2 : Nat → Int), ∃ (lp2 : Int), ∃ (re2 : Int), ∃ (wp2 : Int), ∃ (lw2 : Int), ∃ (zk2 : Nat → Int), ∃ (zn2 : Nat → Int), ∃ (zc2 : Nat → Int), ∃ (fd2 : Nat → Int64), ∃ (zl2 : Nat → Int), vr = some (.int (iZ r)) ∧ wo = [oX5 x d y u sa ru ar sq ge ne wa fe tk cp xc, oX0 d sc db dq dt wc2, aB K db nb zb2, aB K dq 32768 zq2, aI K dt 64 zt2, oX3 y yk yn yc ya yd yl lp2 re2 wp2 lw2, aI K yk np zk2, aI K yn np zn2, aI K yc np zc2, aI K ya na za, aL K yd np fd2, aI K yl 64 zl2] ∧ (-1 ≤ r ∧ r ≤ np - 1) ∧ (0 ≤ wc2 ∧ wc2 ≤ 64) ∧ (rng (-128) 127 zb2) ∧ (rng (-128) 127 zq2) ∧ (rng 0 (sc-1) zt2) ∧ (re ≤ re2) ∧ (0 ≤ re2 ∧ re2 ≤ np) ∧ (-1 ≤ lp2 ∧ lp2 ≤ np - 1 ∧ 0 ≤ wp2 ∧ wp2 ≤ re2 ∧ -1 ≤ lw2 ∧ lw2 ≤ np - 1) ∧ (rng 0 3 zk2) ∧ (rng (-128) 127 zn2) ∧ (nmOk zk2 zn2) ∧ (rng 0 6 zc2) ∧ (akOk zc2 za) ∧ (rng (-1) (np-1) zl2)) := by
  refine ct_of (own := RX5) (lv := [(0, .ref x), (1, .int (iZ kd)), (2, .int (iZ nm)), (3, .long dg)]) (by decide) rfl (Nat.le_of_ble_eq_true rfl) rfl (fun C F hr hnm hzl => ?_)
  subst hzl
  refine z_aload_n F 0 dX5_keep_0 rfl ?_
  refine z_get F 0 1 iX5 rfl rfl (by decide) t1_110 rfl dX5_keep_1 ?_
  refine z_callV F lw_good (k_X3_isFull _ D K y yk yn yc ya yd yl lp re wp lw np zk (by omega) h6) t2_53 t1_4 t2_50 t2_51 (q := (RX3, TX3, 10)) t2_52 ⟨rfl, rfl⟩ ndX3_isFull ⟨Nat.le_of_ble_eq_true rfl, Nat.le_of_ble_eq_true rfl⟩ 0 rfl rfl (rest := []) rfl (Nat.le_of_ble_eq_true rfl) dX5_keep_4 ⟨(show 0 + 0 ≤ 0 by omega), (show 0 + 0 ≤ 0 by omega)⟩ (wr := [oX5 x d y u sa ru ar sq ge ne wa fe tk cp xc, oX0 d sc db dq dt wc, aB K db nb zb, aB K dq 32768 zq, aI K dt 64 zt, aI K yn np zn, aI K yc np zc, aI K ya na za, aL K yd np fd, aI K yl 64 zl]) ([5, 6] : List Nat) ([0, 1, 2, 3, 4, 7, 8, 9, 10, 11] : List Nat) rfl rfl rfl rfl (by decide) (fun vr wo hp => ?_)
  obtain ⟨r_1, rfl, rfl, f2⟩ := hp
  refine z_re F (ws' := [oX5 x d y u sa ru ar sq ge ne wa fe tk cp xc, oX0 d sc db dq dt wc, aB K db nb zb, aB K dq 32768 zq, aI K dt 64 zt, oX3 y yk yn yc ya yd yl lp re wp lw, aI K yk np zk, aI K yn np zn, aI K yc np zc, aI K ya na za, aL K yd np fd, aI K yl 64 zl]) (st' := [.int (iZ r_1)]) ([0, 1, 2, 3, 4, 10, 11, 5, 6, 7, 8, 9] : List Nat) rfl rfl rfl ?_
  refine z_if_eq F 12 dX5_keep_7 (by decide) (by omega) (fun c3 => ?_) (fun c3 => ?_)
  · refine z_aload_n F 0 dX5_keep_12 rfl ?_
    refine z_get F 0 1 iX5 rfl rfl (by decide) t1_110 rfl dX5_keep_13 ?_
    refine z_iload_n F 1 dX5_keep_16 rfl ?_
    refine z_iload_n F 2 dX5_keep_17 rfl ?_
    refine z_lload_n F 3 dX5_keep_18 rfl ?_
    refine z_callV F lw_good (k_X3_append _ D K y yk yn yc ya yd yl lp re wp lw np na zk zn zc za fd zl kd nm dg (by omega) (by omega) h7 h8 h9 h10 h11 h12 h13 h14 h16) t2_57 t1_4 t2_54 t2_55 (q := (RX3, TX3, 10)) t2_56 ⟨rfl, rfl⟩ ndX3_append ⟨Nat.le_of_ble_eq_true rfl, Nat.le_of_ble_eq_true rfl⟩ 0 rfl rfl (rest := []) rfl (Nat.le_of_ble_eq_true rfl) dX5_keep_19 ⟨(show 0 + 0 ≤ 0 by omega), (show 0 + 0 ≤ 0 by omega)⟩ (wr := [oX5 x d y u sa ru ar sq ge ne wa fe tk cp xc, oX0 d sc db dq dt wc, aB K db nb zb, aB K dq 32768 zq, aI K dt 64 zt]) ([5, 6, 7, 8, 9, 10, 11] : List Nat) ([0, 1, 2, 3, 4] : List Nat) rfl rfl rfl rfl (by decide) (fun vr wo hp => ?_)
    obtain ⟨lp2_4, wp2_5, lw2_6, zk2_7, zn2_8, zc2_9, fd2_10, zl2_11, rfl, rfl, f12, f13, f14, f15, f16, f17, f18⟩ := hp
    refine z_re F (ws' := [oX5 x d y u sa ru ar sq ge ne wa fe tk cp xc, oX0 d sc db dq dt wc, aB K db nb zb, aB K dq 32768 zq, aI K dt 64 zt, oX3 y yk yn yc ya yd yl lp2_4 (re + 1) wp2_5 lw2_6, aI K yk np zk2_7, aI K yn np zn2_8, aI K yc np zc2_9, aI K ya na za, aL K yd np fd2_10, aI K yl 64 zl2_11]) (st' := [.int (iZ re)]) ([0, 1, 2, 3, 4, 5, 6, 7, 8, 9, 10, 11] : List Nat) rfl rfl rfl ?_
    refine z_istore F (lv' := [(5, .int (iZ re)), (0, .ref x), (1, .int (iZ kd)), (2, .int (iZ nm)), (3, .long dg)]) dX5_keep_22 (by decide) rfl ?_
    refine z_aload_n F 1 dX5_keep_24 rfl ?_
    refine z_iload F 0 dX5_keep_25 rfl ?_
    refine z_aload_n F 1 dX5_keep_27 rfl ?_
    refine z_get F 0 5 iX5 rfl rfl (by decide) t1_114 rfl dX5_keep_28 ?_
    refine z_iload F 0 dX5_keep_31 rfl ?_
    refine z_callV F lw_good (k_X5_writeRow _ D K x sa ru ar sq ge ne wa fe tk cp xc u d sc db dq dt wc nb zb zq zt y yk yn yc ya yd yl lp2_4 (re + 1) wp2_5 lw2_6 np na zk2_7 zn2_8 zc2_9 za fd2_10 re ar re h0 h1 h2 h3 h4 h5 (by omega) (by omega) f16 h12) t2_61 t1_1 t2_58 t2_60 (q := (RX5, TX5, 14)) ts_11 ⟨rfl, rfl⟩ ndX5_writeRow ⟨Nat.le_of_ble_eq_true rfl, Nat.le_of_ble_eq_true rfl⟩ 0 rfl rfl (rest := []) rfl (Nat.le_of_ble_eq_true rfl) dX5_keep_33 ⟨(show 0 + 0 ≤ 0 by omega), (show 0 + 0 ≤ 0 by omega)⟩ (wr := [aI K yl 64 zl2_11]) ([0, 1, 2, 3, 4, 5, 6, 7, 8, 9, 10] : List Nat) ([11] : List Nat) rfl rfl rfl rfl (by decide) (fun vr wo hp => ?_)
    obtain ⟨wc2_19, zb2_20, zq2_21, zt2_22, rfl, rfl, f23, f24, f25, f26⟩ := hp
    refine z_re F (ws' := [oX5 x d y u sa ru ar sq ge ne wa fe tk cp xc, oX0 d sc db dq dt wc2_19, aB K db nb zb2_20, aB K dq 32768 zq2_21, aI K dt 64 zt2_22, oX3 y yk yn yc ya yd yl lp2_4 (re + 1) wp2_5 lw2_6, aI K yk np zk2_7, aI K yn np zn2_8, aI K yc np zc2_9, aI K ya na za, aL K yd np fd2_10, aI K yl 64 zl2_11]) (st' := []) ([1, 2, 3, 4, 5, 6, 7, 8, 9, 10, 11, 0] : List Nat) rfl rfl rfl ?_
    refine z_iload F 0 dX5_keep_36 rfl ?_
    exact z_iret F hr dX5_keep_38 (by omega) ⟨re, wc2_19, zb2_20, zq2_21, zt2_22, lp2_4, (re + 1), wp2_5, lw2_6, zk2_7, zn2_8, zc2_9, fd2_10, zl2_11, rfl, rfl, (by omega), f23, f24, f25, f26, (by omega), (by omega), (by omega), f13, f14, f15, f16, f17, f18⟩
  · refine z_iconst F dX5_keep_10 ?_
    exact z_iret F hr dX5_keep_11 (by omega) ⟨(-1), wc, zb, zq, zt, lp, re, wp, lw, zk, zn, zc, fd, zl, rfl, rfl, (by omega), h2, h3, h4, h5, (by omega), h6, h7, h8, h9, h10, h11, h13, h14⟩
set_option maxHeartbeats 4000000 in
set_option maxRecDepth 20000 in
theorem k_X5_allAskedAhead (l : Launch) (D : va_G) (K : KI) (x : Nat) (sa : Int) (ru : Int) (ar : Int) (sq : Int) (ge : Int) (ne : Int) (wa : Int) (fe : Int) (tk : Int) (cp : Int) (xc : Nat) (d : Nat) (y : Nat) (yk : Nat) (yn : Nat) (yc : Nat) (ya : Nat) (yd : Nat) (yl : Nat) (lp : Int) (re : Int) (wp : Int) (lw : Int) (np : Nat) (na : Nat) (zc : Nat → Int) (za : Nat → Int) (zl : Nat → Int) (u : Nat) (um : Nat) (ud : Nat) (zm : Nat → Int) (pl : Int) (h0 : 1 ≤ np ∧ np ≤ 304 ∧ (na : Int) = 6 * np) (h1 : 0 ≤ pl ∧ pl ≤ np - 1) (h2 : rng 0 6 zc) (h3 : rng (-128) 127 za) (h4 : akOk zc za) (h5 : rng (-1) (np-1) zl) (h6 : rng 0 1 zm) : Ct lw_T l yX5_allAskedAhead cX5_allAskedAhead 6 (some .boolean) { frames := 1, cells := 0, slots := 0, locals := 22 } 0 0 D cls5 (TY K) [.ref x, .int (iZ pl)] [oX5 x d y u sa ru ar sq ge ne wa fe tk cp xc, oX3 y yk yn yc ya yd yl lp re wp lw, aI K yc np zc, aI K ya na za, aI K yl 64 zl, oX4 u um ud, aZ K um 64 zm] (fun vr wo => ∃ (r : Int), vr = some (.int (iZ r)) ∧ wo = [oX5 x d y u sa ru ar sq ge ne wa fe tk cp xc, oX3 y yk yn yc ya yd yl lp re wp lw, aI K yc np zc, aI K ya na za, aI K yl 64 zl, oX4 u um ud, aZ K um 64 zm] ∧ (r = 0 ∨ r = 1)) := by
  refine ct_of (own := RX5) (lv := [(0, .ref x), (1, .int (iZ pl))]) (by decide) rfl (Nat.le_of_ble_eq_true rfl) rfl (fun C F hr hnm hzl => ?_)
  subst hzl
  refine z_aload_n F 0 dX5_allAskedAhead_0 rfl ?_
  refine z_get F 0 1 iX5 rfl rfl (by decide) t1_110 rfl dX5_allAskedAhead_1 ?_
  refine z_iload_n F 1 dX5_allAskedAhead_4 rfl ?_
  refine z_callV F lw_good (k_X3_askCount _ D K y yk yn yc ya yd yl lp re wp lw np zc pl (by omega)) t2_99 t1_4 t2_96 t2_97 (q := (RX3, TX3, 10)) t2_98 ⟨rfl, rfl⟩ ndX3_askCount ⟨Nat.le_of_ble_eq_true rfl, Nat.le_of_ble_eq_true rfl⟩ 0 rfl rfl (rest := []) rfl (Nat.le_of_ble_eq_true rfl) dX5_allAskedAhead_5 ⟨(show 0 + 0 ≤ 0 by omega), (show 0 + 0 ≤ 0 by omega)⟩ (wr := [oX5 x d y u sa ru ar sq ge ne wa fe tk cp xc, aI K ya na za, aI K yl 64 zl, oX4 u um ud, aZ K um 64 zm]) ([1, 2] : List Nat) ([0, 3, 4, 5, 6] : List Nat) rfl rfl rfl rfl (by decide) (fun vr wo hp => ?_)
  obtain ⟨rfl, rfl⟩ := hp
  refine z_re F (ws' := [oX5 x d y u sa ru ar sq ge ne wa fe tk cp xc, oX3 y yk yn yc ya yd yl lp re wp lw, aI K yc np zc, aI K ya na za, aI K yl 64 zl, oX4 u um ud, aZ K um 64 zm]) (st' := [.int (iZ (zc pl.toNat))]) ([0, 5, 6, 1, 2, 3, 4] : List Nat) rfl rfl rfl ?_
  refine z_istore_n F (lv' := [(2, .int (iZ (zc pl.toNat))), (0, .ref x), (1, .int (iZ pl))]) dX5_allAskedAhead_8 (by decide) rfl ?_
  have hcr := h2 pl.toNat
  refine z_iconst F dX5_allAskedAhead_9 ?_
  refine z_istore_n F (lv' := [(3, .int (iZ 0)), (2, .int (iZ (zc pl.toNat))), (0, .ref x), (1, .int (iZ pl))]) dX5_allAskedAhead_10 (by decide) rfl ?_
  have lp11 : ∀ (nn11 : Nat) (i : Int), (0 ≤ i ∧ i ≤ zc pl.toNat) → ((zc pl.toNat - i : Int).toNat < nn11) → Go C { frames := 1, cells := 0, slots := 0, locals := 22 } D cls5 6 0 0 [oX5 x d y u sa ru ar sq ge ne wa fe tk cp xc, oX3 y yk yn yc ya yd yl lp re wp lw, aI K yc np zc, aI K ya na za, aI K yl 64 zl, oX4 u um ud, aZ K um 64 zm] 11 [(3, .int (iZ i)), (2, .int (iZ (zc pl.toNat))), (0, .ref x), (1, .int (iZ pl))] [] := by
    intro nn11
    induction nn11 with
    | zero => intro i g11_0 hmu11; exact absurd hmu11 (Nat.not_lt_zero _)
    | succ nn11 ih11 =>
      intro i g11_0 hmu11
      refine z_iload_n F 0 dX5_allAskedAhead_11 rfl ?_
      refine z_iload_n F 1 dX5_allAskedAhead_12 rfl ?_
      refine z_icmp_ge F 70 dX5_allAskedAhead_13 (by decide) (by omega) (fun c1 => ?_) (fun c1 => ?_)
      · refine z_iconst F dX5_allAskedAhead_70 ?_
        exact z_zret F hr (by decide) dX5_allAskedAhead_71 (by omega) ⟨1, rfl, rfl, (by omega)⟩
      · refine z_aload_n F 2 dX5_allAskedAhead_16 rfl ?_
        refine z_get F 0 1 iX5 rfl rfl (by decide) t1_110 rfl dX5_allAskedAhead_17 ?_
        refine z_iload_n F 3 dX5_allAskedAhead_20 rfl ?_
        refine z_iload_n F 0 dX5_allAskedAhead_21 rfl ?_
        refine z_callV F lw_good (k_X3_askAt _ D K y yk yn yc ya yd yl lp re wp lw na za pl i (by omega)) t2_77 t1_4 t2_173 t2_75 (q := (RX3, TX3, 10)) t2_76 ⟨rfl, rfl⟩ ndX3_askAt ⟨Nat.le_of_ble_eq_true rfl, Nat.le_of_ble_eq_true rfl⟩ 0 rfl rfl (rest := []) rfl (Nat.le_of_ble_eq_true rfl) dX5_allAskedAhead_22 ⟨(show 0 + 0 ≤ 0 by omega), (show 0 + 0 ≤ 0 by omega)⟩ (wr := [oX5 x d y u sa ru ar sq ge ne wa fe tk cp xc, aI K yc np zc, aI K yl 64 zl, oX4 u um ud, aZ K um 64 zm]) ([1, 3] : List Nat) ([0, 2, 4, 5, 6] : List Nat) rfl rfl rfl rfl (by decide) (fun vr wo hp => ?_)
        obtain ⟨rfl, rfl⟩ := hp
        refine z_re F (ws' := [oX5 x d y u sa ru ar sq ge ne wa fe tk cp xc, oX3 y yk yn yc ya yd yl lp re wp lw, aI K yc np zc, aI K ya na za, aI K yl 64 zl, oX4 u um ud, aZ K um 64 zm]) (st' := [.int (iZ (za ((pl * 6) + i).toNat))]) ([0, 5, 1, 6, 2, 3, 4] : List Nat) rfl rfl rfl ?_
        have hka := akOk_at (p := pl) (i := i) h4 (by omega) (by omega) (by omega)
        refine z_istore F (lv' := [(4, .int (iZ (za ((pl * 6) + i).toNat))), (3, .int (iZ i)), (2, .int (iZ (zc pl.toNat))), (0, .ref x), (1, .int (iZ pl))]) dX5_allAskedAhead_25 (by decide) rfl ?_
        refine z_aload_n F 3 dX5_allAskedAhead_27 rfl ?_
        refine z_get F 0 1 iX5 rfl rfl (by decide) t1_110 rfl dX5_allAskedAhead_28 ?_
        refine z_iload F 0 dX5_allAskedAhead_31 rfl ?_
        refine z_callV F lw_good (k_X3_latest _ D K y yk yn yc ya yd yl lp re wp lw zl (za ((pl * 6) + i).toNat) (by omega)) t2_164 t1_4 t2_161 t2_162 (q := (RX3, TX3, 10)) t2_163 ⟨rfl, rfl⟩ ndX3_latest ⟨Nat.le_of_ble_eq_true rfl, Nat.le_of_ble_eq_true rfl⟩ 0 rfl rfl (rest := []) rfl (Nat.le_of_ble_eq_true rfl) dX5_allAskedAhead_33 ⟨(show 0 + 0 ≤ 0 by omega), (show 0 + 0 ≤ 0 by omega)⟩ (wr := [oX5 x d y u sa ru ar sq ge ne wa fe tk cp xc, aI K yc np zc, aI K ya na za, oX4 u um ud, aZ K um 64 zm]) ([1, 4] : List Nat) ([0, 2, 3, 5, 6] : List Nat) rfl rfl rfl rfl (by decide) (fun vr wo hp => ?_)
        obtain ⟨rfl, rfl⟩ := hp
        refine z_re F (ws' := [oX5 x d y u sa ru ar sq ge ne wa fe tk cp xc, oX3 y yk yn yc ya yd yl lp re wp lw, aI K yc np zc, aI K ya na za, aI K yl 64 zl, oX4 u um ud, aZ K um 64 zm]) (st' := [.int (iZ (zl (za ((pl * 6) + i).toNat).toNat))]) ([0, 5, 1, 2, 6, 3, 4] : List Nat) rfl rfl rfl ?_
        refine z_istore F (lv' := [(5, .int (iZ (zl (za ((pl * 6) + i).toNat).toNat))), (4, .int (iZ (za ((pl * 6) + i).toNat))), (3, .int (iZ i)), (2, .int (iZ (zc pl.toNat))), (0, .ref x), (1, .int (iZ pl))]) dX5_allAskedAhead_36 (by decide) rfl ?_
        have hlr := h5 (za ((pl * 6) + i).toNat).toNat
        refine z_iload F 0 dX5_allAskedAhead_38 rfl ?_
        refine z_iconst F dX5_allAskedAhead_40 ?_
        refine z_icmp_eq F 62 dX5_allAskedAhead_41 (by decide) (by omega) (fun c2 => ?_) (fun c2 => ?_)
        · refine z_iconst F dX5_allAskedAhead_62 ?_
          exact z_zret F hr (by decide) dX5_allAskedAhead_63 (by omega) ⟨0, rfl, rfl, (by omega)⟩
        · refine z_iload F 0 dX5_allAskedAhead_44 rfl ?_
          refine z_iload_n F 5 dX5_allAskedAhead_46 rfl ?_
          refine z_icmp_ge F 62 dX5_allAskedAhead_47 (by decide) (by omega) (fun c3 => ?_) (fun c3 => ?_)
          · refine z_iconst F dX5_allAskedAhead_62 ?_
            exact z_zret F hr (by decide) dX5_allAskedAhead_63 (by omega) ⟨0, rfl, rfl, (by omega)⟩
          · refine z_aload_n F 4 dX5_allAskedAhead_50 rfl ?_
            refine z_get F 0 2 iX5 rfl rfl (by decide) t1_111 rfl dX5_allAskedAhead_51 ?_
            refine z_iload F 1 dX5_allAskedAhead_54 rfl ?_
            refine z_callV F lw_good (k_X4_has _ D K u um ud zm (za ((pl * 6) + i).toNat) (by omega) h6) t2_156 t1_5 t2_153 t2_154 (q := (RX4, TX4, 2)) t2_155 ⟨rfl, rfl⟩ ndX4_has ⟨Nat.le_of_ble_eq_true rfl, Nat.le_of_ble_eq_true rfl⟩ 0 rfl rfl (rest := []) rfl (Nat.le_of_ble_eq_true rfl) dX5_allAskedAhead_56 ⟨(show 0 + 0 ≤ 0 by omega), (show 0 + 0 ≤ 0 by omega)⟩ (wr := [oX5 x d y u sa ru ar sq ge ne wa fe tk cp xc, oX3 y yk yn yc ya yd yl lp re wp lw, aI K yc np zc, aI K ya na za, aI K yl 64 zl]) ([5, 6] : List Nat) ([0, 1, 2, 3, 4] : List Nat) rfl rfl rfl rfl (by decide) (fun vr wo hp => ?_)
            obtain ⟨rfl, rfl⟩ := hp
            refine z_re F (ws' := [oX5 x d y u sa ru ar sq ge ne wa fe tk cp xc, oX3 y yk yn yc ya yd yl lp re wp lw, aI K yc np zc, aI K ya na za, aI K yl 64 zl, oX4 u um ud, aZ K um 64 zm]) (st' := [.int (iZ (zm (za ((pl * 6) + i).toNat).toNat))]) ([0, 1, 2, 3, 4, 5, 6] : List Nat) rfl rfl rfl ?_
            have hmr := h6 (za ((pl * 6) + i).toNat).toNat
            refine z_if_eq F 64 dX5_allAskedAhead_59 (by decide) (by omega) (fun c4 => ?_) (fun c4 => ?_)
            · refine z_iinc F (lv' := [(3, .int (iZ (i + 1))), (5, .int (iZ (zl (za ((pl * 6) + i).toNat).toNat))), (4, .int (iZ (za ((pl * 6) + i).toNat))), (2, .int (iZ (zc pl.toNat))), (0, .ref x), (1, .int (iZ pl))]) 2 dX5_allAskedAhead_64 rfl (by decide) rfl ?_
              refine z_goto F 11 dX5_allAskedAhead_67 (by decide) ?_
              refine z_lv F (lv' := [(3, .int (iZ (i + 1))), (2, .int (iZ (zc pl.toNat))), (0, .ref x), (1, .int (iZ pl))]) [0, 3, 4, 5] rfl ?_
              exact ih11 (i + 1) (by omega) (by omega)
            · refine z_iconst F dX5_allAskedAhead_62 ?_
              exact z_zret F hr (by decide) dX5_allAskedAhead_63 (by omega) ⟨0, rfl, rfl, (by omega)⟩
  exact lp11 ((zc pl.toNat - 0 : Int).toNat + 1) 0 (by omega) (Nat.lt_succ_self _)
set_option maxHeartbeats 4000000 in
set_option maxRecDepth 20000 in
theorem k_X5_beginEmpty (l : Launch) (D : va_G) (K : KI) (x : Nat) (sa : Int) (ru : Int) (ar : Int) (sq : Int) (ge : Int) (ne : Int) (wa : Int) (fe : Int) (tk : Int) (cp : Int) (xc : Nat) (u : Nat) (d : Nat) (sc : Int) (db : Nat) (dq : Nat) (dt : Nat) (wc : Int) (nb : Nat) (zb : Nat → Int) (zq : Nat → Int) (zt : Nat → Int) (y : Nat) (yk : Nat) (yn : Nat) (yc : Nat) (ya : Nat) (yd : Nat) (yl : Nat) (lp : Int) (re : Int) (wp : Int) (lw : Int) (np : Nat) (zk : Nat → Int) (zn : Nat → Int) (zl : Nat → Int) (h0 : 4 ≤ sc ∧ sc ≤ 40 ∧ (nb : Int) = 512 * sc) (h1 : 1 ≤ sa ∧ 2 * sa ≤ sc - 2 ∧ (np : Int) = 16 * sa) (h2 : 0 ≤ wc ∧ wc ≤ 64) (h3 : rng (-128) 127 zb) (h4 : rng (-128) 127 zq) (h5 : rng 0 (sc-1) zt) (h6 : rng (-1) (np-1) zl) (h7 : nmOk zk zn) (h8 : rng 0 3 zk) : Ct lw_T l yX5_beginEmpty cX5_beginEmpty 1 none { frames := 4, cells := 0, slots := 0, locals := 111 } 0 0 D cls5 (TY K) [.ref x] [oX5 x d y u sa ru ar sq ge ne wa fe tk cp xc, oX0 d sc db dq dt wc, aB K db nb zb, aB K dq 32768 zq, aI K dt 64 zt, oX3 y yk yn yc ya yd yl lp re wp lw, aI K yk np zk, aI K yn np zn, aI K yl 64 zl] (fun vr wo => ∃ (wc2 : Int), ∃ (zb2 : Nat → Int), ∃ (zq2 : Nat → Int), ∃ (zt2 : Nat → Int), ∃ (lp2 : Int), ∃ (lw2 : Int), ∃ (zl2 : Nat → Int), vr = none ∧ wo = [oX5 x d y u sa ru 0 0 ge ne wa fe tk cp xc, oX0 d sc db dq dt wc2, aB K db nb zb2, aB K dq 32768 zq2, aI K dt 64 zt2, oX3 y yk yn yc ya yd yl lp2 0 0 lw2, aI K yk np zk, aI K yn np zn, aI K yl 64 zl2] ∧ (0 ≤ wc2 ∧ wc2 ≤ 64) ∧ (rng (-128) 127 zb2) ∧ (rng (-128) 127 zq2) ∧ (rng 0 (sc-1) zt2) ∧ (-1 ≤ lp2 ∧ lp2 ≤ np - 1 ∧ -1 ≤ lw2 ∧ lw2 ≤ np - 1) ∧ (rng (-1) (np-1) zl2)) := by
  refine ct_of (own := RX5) (lv := [(0, .ref x)]) (by decide) rfl (Nat.le_of_ble_eq_true rfl) rfl (fun C F hr hnm hzl => ?_)
  subst hzl
  refine z_aload_n F 0 dX5_beginEmpty_0 rfl ?_
  refine z_iconst F dX5_beginEmpty_1 ?_
  refine z_put F (ws' := [oX5 x d y u sa ru ar 0 ge ne wa fe tk cp xc, oX0 d sc db dq dt wc, aB K db nb zb, aB K dq 32768 zq, aI K dt 64 zt, oX3 y yk yn yc ya yd yl lp re wp lw, aI K yk np zk, aI K yn np zn, aI K yl 64 zl]) 0 6 iX5 tyX5 tyX5_ok nmX5 rfl rfl (by decide) t1_115 rfl rfl rfl rfl (Nat.le_of_ble_eq_true rfl) dX5_beginEmpty_2 rfl ?_
  refine z_aload_n F 0 dX5_beginEmpty_5 rfl ?_
  refine z_iconst F dX5_beginEmpty_6 ?_
  refine z_put F (ws' := [oX5 x d y u sa ru 0 0 ge ne wa fe tk cp xc, oX0 d sc db dq dt wc, aB K db nb zb, aB K dq 32768 zq, aI K dt 64 zt, oX3 y yk yn yc ya yd yl lp re wp lw, aI K yk np zk, aI K yn np zn, aI K yl 64 zl]) 0 5 iX5 tyX5 tyX5_ok nmX5 rfl rfl (by decide) t1_114 rfl rfl rfl rfl (Nat.le_of_ble_eq_true rfl) dX5_beginEmpty_7 rfl ?_
  refine z_aload_n F 0 dX5_beginEmpty_10 rfl ?_
  refine z_get F 0 1 iX5 rfl rfl (by decide) t1_110 rfl dX5_beginEmpty_11 ?_
  refine z_callV F lw_good (k_X3_clear _ D K y yk yn yc ya yd yl lp re wp lw np zk zn zl (by omega) h6 h7 h8) t1_195 t1_4 t1_192 t1_193 (q := (RX3, TX3, 10)) t1_194 ⟨rfl, rfl⟩ ndX3_clear ⟨Nat.le_of_ble_eq_true rfl, Nat.le_of_ble_eq_true rfl⟩ 0 rfl rfl (rest := []) rfl (Nat.le_of_ble_eq_true rfl) dX5_beginEmpty_14 ⟨(show 0 + 0 ≤ 0 by omega), (show 0 + 0 ≤ 0 by omega)⟩ (wr := [oX5 x d y u sa ru 0 0 ge ne wa fe tk cp xc, oX0 d sc db dq dt wc, aB K db nb zb, aB K dq 32768 zq, aI K dt 64 zt]) ([5, 6, 7, 8] : List Nat) ([0, 1, 2, 3, 4] : List Nat) rfl rfl rfl rfl (by decide) (fun vr wo hp => ?_)
  obtain ⟨lp2_1, lw2_2, zl2_3, rfl, rfl, f4, f5⟩ := hp
  refine z_re F (ws' := [oX5 x d y u sa ru 0 0 ge ne wa fe tk cp xc, oX0 d sc db dq dt wc, aB K db nb zb, aB K dq 32768 zq, aI K dt 64 zt, oX3 y yk yn yc ya yd yl lp2_1 0 0 lw2_2, aI K yk np zk, aI K yn np zn, aI K yl 64 zl2_3]) (st' := []) ([0, 1, 2, 3, 4, 5, 6, 7, 8] : List Nat) rfl rfl rfl ?_
  refine z_aload_n F 0 dX5_beginEmpty_17 rfl ?_
  refine z_iconst F dX5_beginEmpty_18 ?_
  refine z_callV F lw_good (k_X5_clearArea _ D K x y u sa ru 0 0 ge ne wa fe tk cp xc d sc db dq dt wc nb zb zq zt 0 h0 h3 h4 h5 h2 (by omega) (by omega)) t1_207 t1_1 t1_204 t1_206 (q := (RX5, TX5, 14)) ts_4 ⟨rfl, rfl⟩ ndX5_clearArea ⟨Nat.le_of_ble_eq_true rfl, Nat.le_of_ble_eq_true rfl⟩ 0 rfl rfl (rest := []) rfl (Nat.le_of_ble_eq_true rfl) dX5_beginEmpty_19 ⟨(show 0 + 0 ≤ 0 by omega), (show 0 + 0 ≤ 0 by omega)⟩ (wr := [oX3 y yk yn yc ya yd yl lp2_1 0 0 lw2_2, aI K yk np zk, aI K yn np zn, aI K yl 64 zl2_3]) ([0, 1, 2, 3, 4] : List Nat) ([5, 6, 7, 8] : List Nat) rfl rfl rfl rfl (by decide) (fun vr wo hp => ?_)
  obtain ⟨wc2_6, zb2_7, zq2_8, zt2_9, rfl, rfl, f10, f11, f12, f13⟩ := hp
  refine z_re F (ws' := [oX5 x d y u sa ru 0 0 ge ne wa fe tk cp xc, oX0 d sc db dq dt wc2_6, aB K db nb zb2_7, aB K dq 32768 zq2_8, aI K dt 64 zt2_9, oX3 y yk yn yc ya yd yl lp2_1 0 0 lw2_2, aI K yk np zk, aI K yn np zn, aI K yl 64 zl2_3]) (st' := []) ([4, 5, 6, 7, 8, 0, 1, 2, 3] : List Nat) rfl rfl rfl ?_
  exact z_vret F hr dX5_beginEmpty_22 (by omega) ⟨wc2_6, zb2_7, zq2_8, zt2_9, lp2_1, lw2_2, zl2_3, rfl, rfl, f10, f11, f12, f13, f4, f5⟩
set_option maxHeartbeats 4000000 in
set_option maxRecDepth 20000 in
theorem k_X5_beginBy (l : Launch) (D : va_G) (K : KI) (x : Nat) (sa : Int) (ru : Int) (ar : Int) (sq : Int) (ge : Int) (ne : Int) (wa : Int) (fe : Int) (tk : Int) (cp : Int) (xc : Nat) (u : Nat) (d : Nat) (sc : Int) (db : Nat) (dq : Nat) (dt : Nat) (wc : Int) (nb : Nat) (zb : Nat → Int) (y : Nat) (yk : Nat) (yn : Nat) (yc : Nat) (ya : Nat) (yd : Nat) (yl : Nat) (lp : Int) (re : Int) (wp : Int) (lw : Int) (np : Nat) (na : Nat) (zk : Nat → Int) (zn : Nat → Int) (zc : Nat → Int) (za : Nat → Int) (fd : Nat → Int64) (zl : Nat → Int) (h : Int) (h0 : 4 ≤ sc ∧ sc ≤ 40 ∧ (nb : Int) = 512 * sc) (h1 : 1 ≤ sa ∧ 2 * sa ≤ sc - 2 ∧ (np : Int) = 16 * sa ∧ (na : Int) = 6 * np) (h2 : rng (-128) 127 zb) (h3 : 0 ≤ h ∧ h ≤ 1) (h4 : 0 ≤ zb (h * 512 + 8).toNat % 256 ∧ zb (h * 512 + 8).toNat % 256 ≤ 1) (h5 : rng 0 3 zk) (h6 : rng (-128) 127 zn) (h7 : nmOk zk zn) (h8 : rng 0 6 zc) (h9 : rng (-128) 127 za) (h10 : akOk zc za) (h11 : rng (-1) (np-1) zl) : Ct lw_T l yX5_beginBy cX5_beginBy 2 none { frames := 4, cells := 0, slots := 0, locals := 98 } 0 0 D cls5 (TY K) [.ref x, .int (iZ h)] [oX5 x d y u sa ru ar sq ge ne wa fe tk cp xc, oX0 d sc db dq dt wc, aB K db nb zb, oX3 y yk yn yc ya yd yl lp re wp lw, aI K yk np zk, aI K yn np zn, aI K yc np zc, aI K ya na za, aL K yd np fd, aI K yl 64 zl] (fun vr wo => ∃ (sq2 : Int), ∃ (ar2 : Int), ∃ (lp2 : Int), ∃ (re2 : Int), ∃ (wp2 : Int), ∃ (lw2 : Int), ∃ (zk2 : Nat → Int), ∃ (zn2 : Nat → Int), ∃ (zc2 : Nat → Int), ∃ (za2 : Nat → Int), ∃ (fd2 : Nat → Int64), ∃ (zl2 : Nat → Int), vr = none ∧ wo = [oX5 x d y u sa ru ar2 sq2 ge ne wa fe tk cp xc, oX0 d sc db dq dt wc, aB K db nb zb, oX3 y yk yn yc ya yd yl lp2 re2 wp2 lw2, aI K yk np zk2, aI K yn np zn2, aI K yc np zc2, aI K ya na za2, aL K yd np fd2, aI K yl 64 zl2] ∧ (0 ≤ ar2 ∧ ar2 ≤ 1) ∧ (0 ≤ re2 ∧ re2 ≤ np) ∧ (-1 ≤ lp2 ∧ lp2 ≤ np - 1 ∧ 0 ≤ wp2 ∧ wp2 ≤ re2 ∧ -1 ≤ lw2 ∧ lw2 ≤ np - 1) ∧ (rng 0 3 zk2) ∧ (rng (-128) 127 zn2) ∧ (nmOk zk2 zn2) ∧ (rng 0 6 zc2) ∧ (rng (-128) 127 za2) ∧ (akOk zc2 za2) ∧ (rng (-1) (np-1) zl2)) := by
  refine ct_of (own := RX5) (lv := [(0, .ref x), (1, .int (iZ h))]) (by decide) rfl (Nat.le_of_ble_eq_true rfl) rfl (fun C F hr hnm hzl => ?_)
  subst hzl
  refine z_aload_n F 0 dX5_beginBy_0 rfl ?_
  refine z_aload_n F 0 dX5_beginBy_1 rfl ?_
  refine z_get F 0 0 iX5 rfl rfl (by decide) t1_109 rfl dX5_beginBy_2 ?_
  refine z_get F 1 1 iX0 rfl rfl (by decide) t1_39 rfl dX5_beginBy_5 ?_
  refine z_iload_n F 1 dX5_beginBy_8 rfl ?_
  refine z_callS F lw_good (k_X1_sequenceAt _ D K db nb zb h (by omega)) t1_180 t1_7 t1_232 t1_179 ⟨rfl, rfl⟩ ndX1_sequenceAt ⟨Nat.le_of_ble_eq_true rfl, Nat.le_of_ble_eq_true rfl⟩ (rest := [.ref x]) rfl (Nat.le_of_ble_eq_true rfl) dX5_beginBy_9 ⟨(show 0 + 0 ≤ 0 by omega), (show 0 + 0 ≤ 0 by omega)⟩ (wr := [oX5 x d y u sa ru ar sq ge ne wa fe tk cp xc, oX0 d sc db dq dt wc, oX3 y yk yn yc ya yd yl lp re wp lw, aI K yk np zk, aI K yn np zn, aI K yc np zc, aI K ya na za, aL K yd np fd, aI K yl 64 zl]) ([2] : List Nat) ([0, 1, 3, 4, 5, 6, 7, 8, 9] : List Nat) rfl rfl rfl rfl (by decide) (fun vr wo hp => ?_)
  obtain ⟨r_1, rfl, rfl, f2⟩ := hp
  refine z_re F (ws' := [oX5 x d y u sa ru ar sq ge ne wa fe tk cp xc, oX0 d sc db dq dt wc, aB K db nb zb, oX3 y yk yn yc ya yd yl lp re wp lw, aI K yk np zk, aI K yn np zn, aI K yc np zc, aI K ya na za, aL K yd np fd, aI K yl 64 zl]) (st' := [.int (iZ r_1), .ref x]) ([0, 1, 9, 2, 3, 4, 5, 6, 7, 8] : List Nat) rfl rfl rfl ?_
  refine z_put F (ws' := [oX5 x d y u sa ru ar r_1 ge ne wa fe tk cp xc, oX0 d sc db dq dt wc, aB K db nb zb, oX3 y yk yn yc ya yd yl lp re wp lw, aI K yk np zk, aI K yn np zn, aI K yc np zc, aI K ya na za, aL K yd np fd, aI K yl 64 zl]) 0 6 iX5 tyX5 tyX5_ok nmX5 rfl rfl (by decide) t1_115 rfl rfl rfl rfl (Nat.le_of_ble_eq_true rfl) dX5_beginBy_12 rfl ?_
  refine z_aload_n F 0 dX5_beginBy_15 rfl ?_
  refine z_aload_n F 0 dX5_beginBy_16 rfl ?_
  refine z_get F 0 0 iX5 rfl rfl (by decide) t1_109 rfl dX5_beginBy_17 ?_
  refine z_get F 1 1 iX0 rfl rfl (by decide) t1_39 rfl dX5_beginBy_20 ?_
  refine z_iload_n F 1 dX5_beginBy_23 rfl ?_
  refine z_callS F lw_good (k_X1_areaAt _ D K db nb zb h (by omega)) t1_169 t1_7 t1_233 t1_168 ⟨rfl, rfl⟩ ndX1_areaAt ⟨Nat.le_of_ble_eq_true rfl, Nat.le_of_ble_eq_true rfl⟩ (rest := [.ref x]) rfl (Nat.le_of_ble_eq_true rfl) dX5_beginBy_24 ⟨(show 0 + 0 ≤ 0 by omega), (show 0 + 0 ≤ 0 by omega)⟩ (wr := [oX5 x d y u sa ru ar r_1 ge ne wa fe tk cp xc, oX0 d sc db dq dt wc, oX3 y yk yn yc ya yd yl lp re wp lw, aI K yk np zk, aI K yn np zn, aI K yc np zc, aI K ya na za, aL K yd np fd, aI K yl 64 zl]) ([2] : List Nat) ([0, 1, 3, 4, 5, 6, 7, 8, 9] : List Nat) rfl rfl rfl rfl (by decide) (fun vr wo hp => ?_)
  obtain ⟨r_3, rfl, rfl, f4⟩ := hp
  refine z_re F (ws' := [oX5 x d y u sa ru ar r_1 ge ne wa fe tk cp xc, oX0 d sc db dq dt wc, aB K db nb zb, oX3 y yk yn yc ya yd yl lp re wp lw, aI K yk np zk, aI K yn np zn, aI K yc np zc, aI K ya na za, aL K yd np fd, aI K yl 64 zl]) (st' := [.int (iZ r_3), .ref x]) ([0, 1, 9, 2, 3, 4, 5, 6, 7, 8] : List Nat) rfl rfl rfl ?_
  refine z_put F (ws' := [oX5 x d y u sa ru r_3 r_1 ge ne wa fe tk cp xc, oX0 d sc db dq dt wc, aB K db nb zb, oX3 y yk yn yc ya yd yl lp re wp lw, aI K yk np zk, aI K yn np zn, aI K yc np zc, aI K ya na za, aL K yd np fd, aI K yl 64 zl]) 0 5 iX5 tyX5 tyX5_ok nmX5 rfl rfl (by decide) t1_114 rfl rfl rfl rfl (Nat.le_of_ble_eq_true rfl) dX5_beginBy_27 rfl ?_
  refine z_aload_n F 0 dX5_beginBy_30 rfl ?_
  refine z_get F 0 1 iX5 rfl rfl (by decide) t1_110 rfl dX5_beginBy_31 ?_
  refine z_aload_n F 0 dX5_beginBy_34 rfl ?_
  refine z_get F 0 0 iX5 rfl rfl (by decide) t1_109 rfl dX5_beginBy_35 ?_
  refine z_get F 1 1 iX0 rfl rfl (by decide) t1_39 rfl dX5_beginBy_38 ?_
  refine z_aload_n F 0 dX5_beginBy_41 rfl ?_
  refine z_aload_n F 0 dX5_beginBy_42 rfl ?_
  refine z_get F 0 5 iX5 rfl rfl (by decide) t1_114 rfl dX5_beginBy_43 ?_
  refine z_callV F lw_good (k_X5_firstSector _ D K x d y u sa ru r_3 r_1 ge ne wa fe tk cp xc r_3 (by omega)) t1_211 t1_1 t1_208 t1_210 (q := (RX5, TX5, 14)) ts_5 ⟨rfl, rfl⟩ ndX5_firstSector ⟨Nat.le_of_ble_eq_true rfl, Nat.le_of_ble_eq_true rfl⟩ 0 rfl rfl (rest := [.ref db, .ref y]) rfl (Nat.le_of_ble_eq_true rfl) dX5_beginBy_46 ⟨(show 0 + 0 ≤ 0 by omega), (show 0 + 0 ≤ 0 by omega)⟩ (wr := [oX0 d sc db dq dt wc, aB K db nb zb, oX3 y yk yn yc ya yd yl lp re wp lw, aI K yk np zk, aI K yn np zn, aI K yc np zc, aI K ya na za, aL K yd np fd, aI K yl 64 zl]) ([0] : List Nat) ([1, 2, 3, 4, 5, 6, 7, 8, 9] : List Nat) rfl rfl rfl rfl (by decide) (fun vr wo hp => ?_)
  obtain ⟨r_5, rfl, rfl, f6⟩ := hp
  refine z_re F (ws' := [oX5 x d y u sa ru r_3 r_1 ge ne wa fe tk cp xc, oX0 d sc db dq dt wc, aB K db nb zb, oX3 y yk yn yc ya yd yl lp re wp lw, aI K yk np zk, aI K yn np zn, aI K yc np zc, aI K ya na za, aL K yd np fd, aI K yl 64 zl]) (st' := [.int (iZ r_5), .ref db, .ref y]) ([9, 0, 1, 2, 3, 4, 5, 6, 7, 8] : List Nat) rfl rfl rfl ?_
  refine z_sipush F dX5_beginBy_49 (by decide) ?_
  refine z_imul F dX5_beginBy_52 ?_
  refine z_callV F lw_good (k_X3_read _ D K y yk yn yc ya yd yl lp re wp lw np na zk zn zc za fd zl db nb zb (r_5 * 512) (by omega) (by omega) h2 h5 h6 h7 h8 h9 h10 h11) t1_237 t1_4 t1_234 t1_235 (q := (RX3, TX3, 10)) t1_236 ⟨rfl, rfl⟩ ndX3_read ⟨Nat.le_of_ble_eq_true rfl, Nat.le_of_ble_eq_true rfl⟩ 0 rfl rfl (rest := []) rfl (Nat.le_of_ble_eq_true rfl) dX5_beginBy_53 ⟨(show 0 + 0 ≤ 0 by omega), (show 0 + 0 ≤ 0 by omega)⟩ (wr := [oX5 x d y u sa ru r_3 r_1 ge ne wa fe tk cp xc, oX0 d sc db dq dt wc]) ([3, 4, 5, 6, 7, 8, 9, 2] : List Nat) ([0, 1] : List Nat) rfl rfl rfl rfl (by decide) (fun vr wo hp => ?_)
  obtain ⟨lp2_7, re2_8, wp2_9, lw2_10, zk2_11, zn2_12, zc2_13, za2_14, fd2_15, zl2_16, rfl, rfl, f17, f18, f19, f20, f21, f22, f23, f24, f25⟩ := hp
  refine z_re F (ws' := [oX5 x d y u sa ru r_3 r_1 ge ne wa fe tk cp xc, oX0 d sc db dq dt wc, aB K db nb zb, oX3 y yk yn yc ya yd yl lp2_7 re2_8 wp2_9 lw2_10, aI K yk np zk2_11, aI K yn np zn2_12, aI K yc np zc2_13, aI K ya na za2_14, aL K yd np fd2_15, aI K yl 64 zl2_16]) (st' := []) ([0, 1, 9, 2, 3, 4, 5, 6, 7, 8] : List Nat) rfl rfl rfl ?_
  exact z_vret F hr dX5_beginBy_56 (by omega) ⟨r_1, r_3, lp2_7, re2_8, wp2_9, lw2_10, zk2_11, zn2_12, zc2_13, za2_14, fd2_15, zl2_16, rfl, rfl, (by omega), f17, f18, f19, f20, f21, f22, f23, f24, f25⟩
set_option maxHeartbeats 4000000 in
set_option maxRecDepth 20000 in
theorem k_X5_takePlace (l : Launch) (D : va_G) (K : KI) (x : Nat) (sa : Int) (ru : Int) (ar : Int) (sq : Int) (ge : Int) (ne : Int) (wa : Int) (fe : Int) (tk : Int) (cp : Int) (xc : Nat) (u : Nat) (d : Nat) (sc : Int) (db : Nat) (dq : Nat) (dt : Nat) (wc : Int) (nb : Nat) (zb : Nat → Int) (zq : Nat → Int) (zt : Nat → Int) (y : Nat) (yk : Nat) (yn : Nat) (yc : Nat) (ya : Nat) (yd : Nat) (yl : Nat) (lp : Int) (re : Int) (wp : Int) (lw : Int) (np : Nat) (na : Nat) (zk : Nat → Int) (zn : Nat → Int) (zc : Nat → Int) (za : Nat → Int) (fd : Nat → Int64) (zl : Nat → Int) (zx : Nat → Int) (h0 : 4 ≤ sc ∧ sc ≤ 40 ∧ (nb : Int) = 512 * sc) (h1 : 1 ≤ sa ∧ 2 * sa ≤ sc - 2 ∧ (np : Int) = 16 * sa ∧ (na : Int) = 6 * np) (h2 : 0 ≤ wc ∧ wc ≤ 64) (h3 : rng (-128) 127 zb) (h4 : rng (-128) 127 zq) (h5 : rng 0 (sc-1) zt) (h6 : 0 ≤ re ∧ re ≤ np) (h7 : -1 ≤ lp ∧ lp ≤ np - 1 ∧ 0 ≤ wp ∧ wp ≤ re ∧ -1 ≤ lw ∧ lw ≤ np - 1) (h8 : rng 0 3 zk) (h9 : rng (-128) 127 zn) (h10 : nmOk zk zn) (h11 : rng 0 6 zc) (h12 : rng (-128) 127 za) (h13 : akOk zc za) (h14 : rng (-1) (np-1) zl) (h15 : 0 ≤ ar ∧ ar ≤ 1) (h16 : -1 ≤ tk ∧ tk ≤ re ∧ (tk = -1 ∨ (0 ≤ cp ∧ cp ≤ tk))) (h17 : rng 0 (np-1) zx) (h18 : 0 ≤ tk ∧ tk ≤ re - 1) : Ct lw_T l yX5_takePlace cX5_takePlace 2 none { frames := 4, cells := 0, slots := 0, locals := 112 } 0 0 D cls5 (TY K) [.ref x, .int (iZ tk)] [oX5 x d y u sa ru ar sq ge ne wa fe tk cp xc, oX0 d sc db dq dt wc, aB K db nb zb, aB K dq 32768 zq, aI K dt 64 zt, oX3 y yk yn yc ya yd yl lp re wp lw, aI K yk np zk, aI K yn np zn, aI K yc np zc, aI K ya na za, aL K yd np fd, aI K yl 64 zl, aI K xc np zx] (fun vr wo => ∃ (wc2 : Int), ∃ (zb2 : Nat → Int), ∃ (zq2 : Nat → Int), ∃ (zt2 : Nat → Int), ∃ (cp2 : Int), ∃ (zx2 : Nat → Int), vr = none ∧ wo = [oX5 x d y u sa ru ar sq ge ne wa fe (tk + 1) cp2 xc, oX0 d sc db dq dt wc2, aB K db nb zb2, aB K dq 32768 zq2, aI K dt 64 zt2, oX3 y yk yn yc ya yd yl lp re wp lw, aI K yk np zk, aI K yn np zn, aI K yc np zc, aI K ya na za, aL K yd np fd, aI K yl 64 zl, aI K xc np zx2] ∧ (0 ≤ wc2 ∧ wc2 ≤ 64) ∧ (rng (-128) 127 zb2) ∧ (rng (-128) 127 zq2) ∧ (rng 0 (sc-1) zt2) ∧ (0 ≤ cp2 ∧ cp2 ≤ tk + 1) ∧ (rng 0 (np-1) zx2)) := by
  refine ct_of (own := RX5) (lv := [(0, .ref x), (1, .int (iZ tk))]) (by decide) rfl (Nat.le_of_ble_eq_true rfl) rfl (fun C F hr hnm hzl => ?_)
  subst hzl
  refine z_aload_n F 0 dX5_takePlace_0 rfl ?_
  refine z_get F 0 1 iX5 rfl rfl (by decide) t1_110 rfl dX5_takePlace_1 ?_
  refine z_iload_n F 1 dX5_takePlace_4 rfl ?_
  refine z_callV F lw_good (k_X3_isToCopy _ D K y yk yn yc ya yd yl lp re wp lw np zk zn zl tk (by omega) (by omega) h8 h10 h14) t2_124 t1_4 t2_121 t2_122 (q := (RX3, TX3, 10)) t2_123 ⟨rfl, rfl⟩ ndX3_isToCopy ⟨Nat.le_of_ble_eq_true rfl, Nat.le_of_ble_eq_true rfl⟩ 0 rfl rfl (rest := []) rfl (Nat.le_of_ble_eq_true rfl) dX5_takePlace_5 ⟨(show 0 + 0 ≤ 0 by omega), (show 0 + 0 ≤ 0 by omega)⟩ (wr := [oX5 x d y u sa ru ar sq ge ne wa fe tk cp xc, oX0 d sc db dq dt wc, aB K db nb zb, aB K dq 32768 zq, aI K dt 64 zt, aI K yc np zc, aI K ya na za, aL K yd np fd, aI K xc np zx]) ([5, 6, 7, 11] : List Nat) ([0, 1, 2, 3, 4, 8, 9, 10, 12] : List Nat) rfl rfl rfl rfl (by decide) (fun vr wo hp => ?_)
  obtain ⟨r_1, rfl, rfl, f2⟩ := hp
  refine z_re F (ws' := [oX5 x d y u sa ru ar sq ge ne wa fe tk cp xc, oX0 d sc db dq dt wc, aB K db nb zb, aB K dq 32768 zq, aI K dt 64 zt, oX3 y yk yn yc ya yd yl lp re wp lw, aI K yk np zk, aI K yn np zn, aI K yc np zc, aI K ya na za, aL K yd np fd, aI K yl 64 zl, aI K xc np zx]) (st' := [.int (iZ r_1)]) ([0, 1, 2, 3, 4, 9, 10, 11, 5, 6, 7, 12, 8] : List Nat) rfl rfl rfl ?_
  refine z_if_eq F 46 dX5_takePlace_8 (by decide) (by omega) (fun c3 => ?_) (fun c3 => ?_)
  · refine z_aload_n F 0 dX5_takePlace_46 rfl ?_
    refine z_dup F dX5_takePlace_47 rfl ?_
    refine z_get F 0 11 iX5 rfl rfl (by decide) t1_120 rfl dX5_takePlace_48 ?_
    refine z_iconst F dX5_takePlace_51 ?_
    refine z_iadd F dX5_takePlace_52 ?_
    refine z_put F (ws' := [oX5 x d y u sa ru ar sq ge ne wa fe (tk + 1) cp xc, oX0 d sc db dq dt wc, aB K db nb zb, aB K dq 32768 zq, aI K dt 64 zt, oX3 y yk yn yc ya yd yl lp re wp lw, aI K yk np zk, aI K yn np zn, aI K yc np zc, aI K ya na za, aL K yd np fd, aI K yl 64 zl, aI K xc np zx]) 0 11 iX5 tyX5 tyX5_ok nmX5 rfl rfl (by decide) t1_120 rfl rfl rfl rfl (Nat.le_of_ble_eq_true rfl) dX5_takePlace_53 rfl ?_
    exact z_vret F hr dX5_takePlace_56 (by omega) ⟨wc, zb, zq, zt, cp, zx, rfl, rfl, h2, h3, h4, h5, (by omega), h17⟩
  · refine z_aload_n F 0 dX5_takePlace_11 rfl ?_
    refine z_iload_n F 1 dX5_takePlace_12 rfl ?_
    refine z_iconst F dX5_takePlace_13 ?_
    refine z_aload_n F 0 dX5_takePlace_14 rfl ?_
    refine z_get F 0 5 iX5 rfl rfl (by decide) t1_114 rfl dX5_takePlace_15 ?_
    refine z_isub F dX5_takePlace_18 ?_
    refine z_aload_n F 0 dX5_takePlace_19 rfl ?_
    refine z_get F 0 12 iX5 rfl rfl (by decide) t1_121 rfl dX5_takePlace_20 ?_
    refine z_callV F lw_good (k_X5_writeRow _ D K x sa ru ar sq ge ne wa fe tk cp xc u d sc db dq dt wc nb zb zq zt y yk yn yc ya yd yl lp re wp lw np na zk zn zc za fd tk (1 - ar) cp h0 h1 h2 h3 h4 h5 (by omega) (by omega) h11 h12) t2_61 t1_1 t2_58 t2_60 (q := (RX5, TX5, 14)) ts_11 ⟨rfl, rfl⟩ ndX5_writeRow ⟨Nat.le_of_ble_eq_true rfl, Nat.le_of_ble_eq_true rfl⟩ 0 rfl rfl (rest := []) rfl (Nat.le_of_ble_eq_true rfl) dX5_takePlace_23 ⟨(show 0 + 0 ≤ 0 by omega), (show 0 + 0 ≤ 0 by omega)⟩ (wr := [aI K yl 64 zl, aI K xc np zx]) ([0, 1, 2, 3, 4, 5, 6, 7, 8, 9, 10] : List Nat) ([11, 12] : List Nat) rfl rfl rfl rfl (by decide) (fun vr wo hp => ?_)
    obtain ⟨wc2_4, zb2_5, zq2_6, zt2_7, rfl, rfl, f8, f9, f10, f11⟩ := hp
    refine z_re F (ws' := [oX5 x d y u sa ru ar sq ge ne wa fe tk cp xc, oX0 d sc db dq dt wc2_4, aB K db nb zb2_5, aB K dq 32768 zq2_6, aI K dt 64 zt2_7, oX3 y yk yn yc ya yd yl lp re wp lw, aI K yk np zk, aI K yn np zn, aI K yc np zc, aI K ya na za, aL K yd np fd, aI K yl 64 zl, aI K xc np zx]) (st' := []) ([2, 3, 4, 5, 6, 7, 8, 9, 10, 11, 12, 0, 1] : List Nat) rfl rfl rfl ?_
    refine z_aload_n F 0 dX5_takePlace_26 rfl ?_
    refine z_get F 0 13 iX5 rfl rfl (by decide) t1_122 rfl dX5_takePlace_27 ?_
    refine z_aload_n F 0 dX5_takePlace_30 rfl ?_
    refine z_get F 0 12 iX5 rfl rfl (by decide) t1_121 rfl dX5_takePlace_31 ?_
    refine z_iload_n F 1 dX5_takePlace_34 rfl ?_
    refine z_iast F (ws' := [oX5 x d y u sa ru ar sq ge ne wa fe tk cp xc, oX0 d sc db dq dt wc2_4, aB K db nb zb2_5, aB K dq 32768 zq2_6, aI K dt 64 zt2_7, oX3 y yk yn yc ya yd yl lp re wp lw, aI K yk np zk, aI K yn np zn, aI K yc np zc, aI K ya na za, aL K yd np fd, aI K yl 64 zl, aI K xc np (zu zx cp.toNat tk)]) 12 rfl rfl dX5_takePlace_35 (by omega) (by omega) rfl ?_
    have r12 : rng 0 (np-1) (zu zx cp.toNat tk) := rng_zu h17 (by omega)
    refine z_aload_n F 0 dX5_takePlace_36 rfl ?_
    refine z_dup F dX5_takePlace_37 rfl ?_
    refine z_get F 0 12 iX5 rfl rfl (by decide) t1_121 rfl dX5_takePlace_38 ?_
    refine z_iconst F dX5_takePlace_41 ?_
    refine z_iadd F dX5_takePlace_42 ?_
    refine z_put F (ws' := [oX5 x d y u sa ru ar sq ge ne wa fe tk (cp + 1) xc, oX0 d sc db dq dt wc2_4, aB K db nb zb2_5, aB K dq 32768 zq2_6, aI K dt 64 zt2_7, oX3 y yk yn yc ya yd yl lp re wp lw, aI K yk np zk, aI K yn np zn, aI K yc np zc, aI K ya na za, aL K yd np fd, aI K yl 64 zl, aI K xc np (zu zx cp.toNat tk)]) 0 12 iX5 tyX5 tyX5_ok nmX5 rfl rfl (by decide) t1_121 rfl rfl rfl rfl (Nat.le_of_ble_eq_true rfl) dX5_takePlace_43 rfl ?_
    refine z_aload_n F 0 dX5_takePlace_46 rfl ?_
    refine z_dup F dX5_takePlace_47 rfl ?_
    refine z_get F 0 11 iX5 rfl rfl (by decide) t1_120 rfl dX5_takePlace_48 ?_
    refine z_iconst F dX5_takePlace_51 ?_
    refine z_iadd F dX5_takePlace_52 ?_
    refine z_put F (ws' := [oX5 x d y u sa ru ar sq ge ne wa fe (tk + 1) (cp + 1) xc, oX0 d sc db dq dt wc2_4, aB K db nb zb2_5, aB K dq 32768 zq2_6, aI K dt 64 zt2_7, oX3 y yk yn yc ya yd yl lp re wp lw, aI K yk np zk, aI K yn np zn, aI K yc np zc, aI K ya na za, aL K yd np fd, aI K yl 64 zl, aI K xc np (zu zx cp.toNat tk)]) 0 11 iX5 tyX5 tyX5_ok nmX5 rfl rfl (by decide) t1_120 rfl rfl rfl rfl (Nat.le_of_ble_eq_true rfl) dX5_takePlace_53 rfl ?_
    exact z_vret F hr dX5_takePlace_56 (by omega) ⟨wc2_4, zb2_5, zq2_6, zt2_7, (cp + 1), (zu zx cp.toNat tk), rfl, rfl, f8, f9, f10, f11, (by omega), r12⟩
set_option maxHeartbeats 4000000 in
set_option maxRecDepth 20000 in
theorem k_X5_endCompaction (l : Launch) (D : va_G) (K : KI) (x : Nat) (sa : Int) (ru : Int) (ar : Int) (sq : Int) (ge : Int) (ne : Int) (wa : Int) (fe : Int) (tk : Int) (cp : Int) (xc : Nat) (u : Nat) (d : Nat) (sc : Int) (db : Nat) (dq : Nat) (dt : Nat) (wc : Int) (nb : Nat) (zb : Nat → Int) (zq : Nat → Int) (zt : Nat → Int) (y : Nat) (yk : Nat) (yn : Nat) (yc : Nat) (ya : Nat) (yd : Nat) (yl : Nat) (lp : Int) (re : Int) (wp : Int) (lw : Int) (np : Nat) (na : Nat) (zk : Nat → Int) (zn : Nat → Int) (zc : Nat → Int) (za : Nat → Int) (fd : Nat → Int64) (zl : Nat → Int) (zx : Nat → Int) (h0 : 4 ≤ sc ∧ sc ≤ 40 ∧ (nb : Int) = 512 * sc) (h1 : 1 ≤ sa ∧ 2 * sa ≤ sc - 2 ∧ (np : Int) = 16 * sa ∧ (na : Int) = 6 * np) (h2 : 0 ≤ wc ∧ wc ≤ 64) (h3 : rng (-128) 127 zb) (h4 : rng (-128) 127 zq) (h5 : rng 0 (sc-1) zt) (h6 : 0 ≤ re ∧ re ≤ np) (h7 : -1 ≤ lp ∧ lp ≤ np - 1 ∧ 0 ≤ wp ∧ wp ≤ re ∧ -1 ≤ lw ∧ lw ≤ np - 1) (h8 : rng 0 3 zk) (h9 : rng (-128) 127 zn) (h10 : nmOk zk zn) (h11 : rng 0 6 zc) (h12 : rng (-128) 127 za) (h13 : akOk zc za) (h14 : rng (-1) (np-1) zl) (h15 : 0 ≤ ar ∧ ar ≤ 1) (h16 : -1 ≤ tk ∧ tk ≤ re ∧ (tk = -1 ∨ (0 ≤ cp ∧ cp ≤ tk))) (h17 : rng 0 (np-1) zx) (h18 : 0 ≤ tk) : Ct lw_T l yX5_endCompaction cX5_endCompaction 1 none { frames := 4, cells := 0, slots := 0, locals := 110 } 0 0 D cls5 (TY K) [.ref x] [oX5 x d y u sa ru ar sq ge ne wa fe tk cp xc, oX0 d sc db dq dt wc, aB K db nb zb, aB K dq 32768 zq, aI K dt 64 zt, oX3 y yk yn yc ya yd yl lp re wp lw, aI K yk np zk, aI K yn np zn, aI K yc np zc, aI K ya na za, aL K yd np fd, aI K yl 64 zl, aI K xc np zx] (fun vr wo => ∃ (sq2 : Int), ∃ (wc2 : Int), ∃ (zb2 : Nat → Int), ∃ (zq2 : Nat → Int), ∃ (zt2 : Nat → Int), ∃ (lp2 : Int), ∃ (wp2 : Int), ∃ (lw2 : Int), ∃ (zk2 : Nat → Int), ∃ (zn2 : Nat → Int), ∃ (zc2 : Nat → Int), ∃ (za2 : Nat → Int), ∃ (fd2 : Nat → Int64), ∃ (zl2 : Nat → Int), vr = none ∧ wo = [oX5 x d y u sa ru (1 - ar) sq2 ge ne wa cp (-1) cp xc, oX0 d sc db dq dt wc2, aB K db nb zb2, aB K dq 32768 zq2, aI K dt 64 zt2, oX3 y yk yn yc ya yd yl lp2 cp wp2 lw2, aI K yk np zk2, aI K yn np zn2, aI K yc np zc2, aI K ya na za2, aL K yd np fd2, aI K yl 64 zl2, aI K xc np zx] ∧ (0 ≤ wc2 ∧ wc2 ≤ 64) ∧ (rng (-128) 127 zb2) ∧ (rng (-128) 127 zq2) ∧ (rng 0 (sc-1) zt2) ∧ (-1 ≤ lp2 ∧ lp2 ≤ np - 1 ∧ 0 ≤ wp2 ∧ wp2 ≤ cp ∧ -1 ≤ lw2 ∧ lw2 ≤ np - 1) ∧ (rng 0 3 zk2) ∧ (rng (-128) 127 zn2) ∧ (nmOk zk2 zn2) ∧ (rng 0 6 zc2) ∧ (rng (-128) 127 za2) ∧ (akOk zc2 za2) ∧ (rng (-1) (np-1) zl2)) := by
  refine ct_of (own := RX5) (lv := [(0, .ref x)]) (by decide) rfl (Nat.le_of_ble_eq_true rfl) rfl (fun C F hr hnm hzl => ?_)
  subst hzl
  refine z_aload_n F 0 dX5_endCompaction_0 rfl ?_
  refine z_iconst F dX5_endCompaction_1 ?_
  refine z_aload_n F 0 dX5_endCompaction_2 rfl ?_
  refine z_get F 0 5 iX5 rfl rfl (by decide) t1_114 rfl dX5_endCompaction_3 ?_
  refine z_isub F dX5_endCompaction_6 ?_
  refine z_put F (ws' := [oX5 x d y u sa ru (1 - ar) sq ge ne wa fe tk cp xc, oX0 d sc db dq dt wc, aB K db nb zb, aB K dq 32768 zq, aI K dt 64 zt, oX3 y yk yn yc ya yd yl lp re wp lw, aI K yk np zk, aI K yn np zn, aI K yc np zc, aI K ya na za, aL K yd np fd, aI K yl 64 zl, aI K xc np zx]) 0 5 iX5 tyX5 tyX5_ok nmX5 rfl rfl (by decide) t1_114 rfl rfl rfl rfl (Nat.le_of_ble_eq_true rfl) dX5_endCompaction_7 rfl ?_
  refine z_aload_n F 0 dX5_endCompaction_10 rfl ?_
  refine z_get F 0 1 iX5 rfl rfl (by decide) t1_110 rfl dX5_endCompaction_11 ?_
  refine z_aload_n F 0 dX5_endCompaction_14 rfl ?_
  refine z_get F 0 13 iX5 rfl rfl (by decide) t1_122 rfl dX5_endCompaction_15 ?_
  refine z_aload_n F 0 dX5_endCompaction_18 rfl ?_
  refine z_get F 0 12 iX5 rfl rfl (by decide) t1_121 rfl dX5_endCompaction_19 ?_
  refine z_callV F lw_good (k_X3_keepOnly _ D K y yk yn yc ya yd yl lp re wp lw np na zk zn zc za fd zl xc zx cp (by omega) (by omega) h17 h8 h9 h10 h11 h12 h13 h14) t2_136 t1_4 t2_133 t2_134 (q := (RX3, TX3, 10)) t2_135 ⟨rfl, rfl⟩ ndX3_keepOnly ⟨Nat.le_of_ble_eq_true rfl, Nat.le_of_ble_eq_true rfl⟩ 0 rfl rfl (rest := []) rfl (Nat.le_of_ble_eq_true rfl) dX5_endCompaction_22 ⟨(show 0 + 0 ≤ 0 by omega), (show 0 + 0 ≤ 0 by omega)⟩ (wr := [oX5 x d y u sa ru (1 - ar) sq ge ne wa fe tk cp xc, oX0 d sc db dq dt wc, aB K db nb zb, aB K dq 32768 zq, aI K dt 64 zt]) ([5, 6, 7, 8, 9, 10, 11, 12] : List Nat) ([0, 1, 2, 3, 4] : List Nat) rfl rfl rfl rfl (by decide) (fun vr wo hp => ?_)
  obtain ⟨lp2_1, wp2_2, lw2_3, zk2_4, zn2_5, zc2_6, za2_7, fd2_8, zl2_9, rfl, rfl, f10, f11, f12, f13, f14, f15, f16, f17⟩ := hp
  refine z_re F (ws' := [oX5 x d y u sa ru (1 - ar) sq ge ne wa fe tk cp xc, oX0 d sc db dq dt wc, aB K db nb zb, aB K dq 32768 zq, aI K dt 64 zt, oX3 y yk yn yc ya yd yl lp2_1 cp wp2_2 lw2_3, aI K yk np zk2_4, aI K yn np zn2_5, aI K yc np zc2_6, aI K ya na za2_7, aL K yd np fd2_8, aI K yl 64 zl2_9, aI K xc np zx]) (st' := []) ([0, 1, 2, 3, 4, 5, 6, 7, 8, 9, 10, 11, 12] : List Nat) rfl rfl rfl ?_
  refine z_aload_n F 0 dX5_endCompaction_25 rfl ?_
  refine z_aload_n F 0 dX5_endCompaction_26 rfl ?_
  refine z_get F 0 12 iX5 rfl rfl (by decide) t1_121 rfl dX5_endCompaction_27 ?_
  refine z_put F (ws' := [oX5 x d y u sa ru (1 - ar) sq ge ne wa cp tk cp xc, oX0 d sc db dq dt wc, aB K db nb zb, aB K dq 32768 zq, aI K dt 64 zt, oX3 y yk yn yc ya yd yl lp2_1 cp wp2_2 lw2_3, aI K yk np zk2_4, aI K yn np zn2_5, aI K yc np zc2_6, aI K ya na za2_7, aL K yd np fd2_8, aI K yl 64 zl2_9, aI K xc np zx]) 0 10 iX5 tyX5 tyX5_ok nmX5 rfl rfl (by decide) t1_119 rfl rfl rfl rfl (Nat.le_of_ble_eq_true rfl) dX5_endCompaction_30 rfl ?_
  refine z_aload_n F 0 dX5_endCompaction_33 rfl ?_
  refine z_iconst F dX5_endCompaction_34 ?_
  refine z_put F (ws' := [oX5 x d y u sa ru (1 - ar) sq ge ne wa cp (-1) cp xc, oX0 d sc db dq dt wc, aB K db nb zb, aB K dq 32768 zq, aI K dt 64 zt, oX3 y yk yn yc ya yd yl lp2_1 cp wp2_2 lw2_3, aI K yk np zk2_4, aI K yn np zn2_5, aI K yc np zc2_6, aI K ya na za2_7, aL K yd np fd2_8, aI K yl 64 zl2_9, aI K xc np zx]) 0 11 iX5 tyX5 tyX5_ok nmX5 rfl rfl (by decide) t1_120 rfl rfl rfl rfl (Nat.le_of_ble_eq_true rfl) dX5_endCompaction_35 rfl ?_
  refine z_aload_n F 0 dX5_endCompaction_38 rfl ?_
  refine z_callV F lw_good (k_X5_changeHeads _ D K x y u sa ru (1 - ar) sq ge ne wa cp (-1) cp xc d sc db dq dt wc nb zb zq zt h0 h3 h4 h5 h2 (by omega)) t2_27 t1_1 t2_24 t2_26 (q := (RX5, TX5, 14)) ts_9 ⟨rfl, rfl⟩ ndX5_changeHeads ⟨Nat.le_of_ble_eq_true rfl, Nat.le_of_ble_eq_true rfl⟩ 0 rfl rfl (rest := []) rfl (Nat.le_of_ble_eq_true rfl) dX5_endCompaction_39 ⟨(show 0 + 0 ≤ 0 by omega), (show 0 + 0 ≤ 0 by omega)⟩ (wr := [oX3 y yk yn yc ya yd yl lp2_1 cp wp2_2 lw2_3, aI K yk np zk2_4, aI K yn np zn2_5, aI K yc np zc2_6, aI K ya na za2_7, aL K yd np fd2_8, aI K yl 64 zl2_9, aI K xc np zx]) ([0, 1, 2, 3, 4] : List Nat) ([5, 6, 7, 8, 9, 10, 11, 12] : List Nat) rfl rfl rfl rfl (by decide) (fun vr wo hp => ?_)
  obtain ⟨sq2_18, wc2_19, zb2_20, zq2_21, zt2_22, rfl, rfl, f23, f24, f25, f26⟩ := hp
  refine z_re F (ws' := [oX5 x d y u sa ru (1 - ar) sq2_18 ge ne wa cp (-1) cp xc, oX0 d sc db dq dt wc2_19, aB K db nb zb2_20, aB K dq 32768 zq2_21, aI K dt 64 zt2_22, oX3 y yk yn yc ya yd yl lp2_1 cp wp2_2 lw2_3, aI K yk np zk2_4, aI K yn np zn2_5, aI K yc np zc2_6, aI K ya na za2_7, aL K yd np fd2_8, aI K yl 64 zl2_9, aI K xc np zx]) (st' := []) ([8, 9, 10, 11, 12, 0, 1, 2, 3, 4, 5, 6, 7] : List Nat) rfl rfl rfl ?_
  exact z_vret F hr dX5_endCompaction_42 (by omega) ⟨sq2_18, wc2_19, zb2_20, zq2_21, zt2_22, lp2_1, wp2_2, lw2_3, zk2_4, zn2_5, zc2_6, za2_7, fd2_8, zl2_9, rfl, rfl, f23, f24, f25, f26, f10, f11, f12, f13, f14, f15, f16, f17⟩
set_option maxHeartbeats 4000000 in
set_option maxRecDepth 20000 in
theorem k_X5_doStep (l : Launch) (D : va_G) (K : KI) (x : Nat) (sa : Int) (ru : Int) (ar : Int) (sq : Int) (ge : Int) (ne : Int) (wa : Int) (fe : Int) (tk : Int) (cp : Int) (xc : Nat) (u : Nat) (d : Nat) (sc : Int) (db : Nat) (dq : Nat) (dt : Nat) (wc : Int) (nb : Nat) (zb : Nat → Int) (zq : Nat → Int) (zt : Nat → Int) (y : Nat) (yk : Nat) (yn : Nat) (yc : Nat) (ya : Nat) (yd : Nat) (yl : Nat) (lp : Int) (re : Int) (wp : Int) (lw : Int) (np : Nat) (na : Nat) (zk : Nat → Int) (zn : Nat → Int) (zc : Nat → Int) (za : Nat → Int) (fd : Nat → Int64) (zl : Nat → Int) (zx : Nat → Int) (h0 : 4 ≤ sc ∧ sc ≤ 40 ∧ (nb : Int) = 512 * sc) (h1 : 1 ≤ sa ∧ 2 * sa ≤ sc - 2 ∧ (np : Int) = 16 * sa ∧ (na : Int) = 6 * np) (h2 : 0 ≤ wc ∧ wc ≤ 64) (h3 : rng (-128) 127 zb) (h4 : rng (-128) 127 zq) (h5 : rng 0 (sc-1) zt) (h6 : 0 ≤ re ∧ re ≤ np) (h7 : -1 ≤ lp ∧ lp ≤ np - 1 ∧ 0 ≤ wp ∧ wp ≤ re ∧ -1 ≤ lw ∧ lw ≤ np - 1) (h8 : rng 0 3 zk) (h9 : rng (-128) 127 zn) (h10 : nmOk zk zn) (h11 : rng 0 6 zc) (h12 : rng (-128) 127 za) (h13 : akOk zc za) (h14 : rng (-1) (np-1) zl) (h15 : 0 ≤ ar ∧ ar ≤ 1) (h16 : -1 ≤ tk ∧ tk ≤ re ∧ (tk = -1 ∨ (0 ≤ cp ∧ cp ≤ tk))) (h17 : rng 0 (np-1) zx) (h18 : 0 ≤ fe ∧ fe ≤ 304) : Ct lw_T l yX5_doStep cX5_doStep 1 (some .boolean) { frames := 5, cells := 0, slots := 0, locals := 133 } 0 0 D cls5 (TY K) [.ref x] [oX5 x d y u sa ru ar sq ge ne wa fe tk cp xc, oX0 d sc db dq dt wc, aB K db nb zb, aB K dq 32768 zq, aI K dt 64 zt, oX3 y yk yn yc ya yd yl lp re wp lw, aI K yk np zk, aI K yn np zn, aI K yc np zc, aI K ya na za, aL K yd np fd, aI K yl 64 zl, aI K xc np zx] (fun vr wo => ∃ (r : Int), ∃ (ar2 : Int), ∃ (sq2 : Int), ∃ (fe2 : Int), ∃ (tk2 : Int), ∃ (cp2 : Int), ∃ (wc2 : Int), ∃ (zb2 : Nat → Int), ∃ (zq2 : Nat → Int), ∃ (zt2 : Nat → Int), ∃ (lp2 : Int), ∃ (re2 : Int), ∃ (wp2 : Int), ∃ (lw2 : Int), ∃ (zk2 : Nat → Int), ∃ (zn2 : Nat → Int), ∃ (zc2 : Nat → Int), ∃ (za2 : Nat → Int), ∃ (fd2 : Nat → Int64), ∃ (zl2 : Nat → Int), ∃ (zx2 : Nat → Int), vr = some (.int (iZ r)) ∧ wo = [oX5 x d y u sa ru ar2 sq2 ge ne wa fe2 tk2 cp2 xc, oX0 d sc db dq dt wc2, aB K db nb zb2, aB K dq 32768 zq2, aI K dt 64 zt2, oX3 y yk yn yc ya yd yl lp2 re2 wp2 lw2, aI K yk np zk2, aI K yn np zn2, aI K yc np zc2, aI K ya na za2, aL K yd np fd2, aI K yl 64 zl2, aI K xc np zx2] ∧ (r = 0 ∨ r = 1) ∧ (0 ≤ wc2 ∧ wc2 ≤ 64) ∧ (rng (-128) 127 zb2) ∧ (rng (-128) 127 zq2) ∧ (rng 0 (sc-1) zt2) ∧ (0 ≤ re2 ∧ re2 ≤ np) ∧ (-1 ≤ lp2 ∧ lp2 ≤ np - 1 ∧ 0 ≤ wp2 ∧ wp2 ≤ re2 ∧ -1 ≤ lw2 ∧ lw2 ≤ np - 1) ∧ (rng 0 3 zk2) ∧ (rng (-128) 127 zn2) ∧ (nmOk zk2 zn2) ∧ (rng 0 6 zc2) ∧ (rng (-128) 127 za2) ∧ (akOk zc2 za2) ∧ (rng (-1) (np-1) zl2) ∧ (0 ≤ ar2 ∧ ar2 ≤ 1) ∧ (-1 ≤ tk2 ∧ tk2 ≤ re2 ∧ (tk2 = -1 ∨ (0 ≤ cp2 ∧ cp2 ≤ tk2))) ∧ (rng 0 (np-1) zx2) ∧ (0 ≤ fe2 ∧ fe2 ≤ 304)) := by
  refine ct_of (own := RX5) (lv := [(0, .ref x)]) (by decide) rfl (Nat.le_of_ble_eq_true rfl) rfl (fun C F hr hnm hzl => ?_)
  subst hzl
  refine z_aload_n F 0 dX5_doStep_0 rfl ?_
  refine z_get F 0 11 iX5 rfl rfl (by decide) t1_120 rfl dX5_doStep_1 ?_
  refine z_iconst F dX5_doStep_4 ?_
  refine z_icmp_ne F 30 dX5_doStep_5 (by decide) (by omega) (fun c1 => ?_) (fun c1 => ?_)
  · refine z_aload_n F 0 dX5_doStep_30 rfl ?_
    refine z_get F 0 11 iX5 rfl rfl (by decide) t1_120 rfl dX5_doStep_31 ?_
    refine z_aload_n F 0 dX5_doStep_34 rfl ?_
    refine z_get F 0 1 iX5 rfl rfl (by decide) t1_110 rfl dX5_doStep_35 ?_
    refine z_callV F lw_good (k_X3_end _ D K y yk yn yc ya yd yl lp re wp lw) t2_23 t1_4 t2_20 t2_21 (q := (RX3, TX3, 10)) t2_22 ⟨rfl, rfl⟩ ndX3_end ⟨Nat.le_of_ble_eq_true rfl, Nat.le_of_ble_eq_true rfl⟩ 0 rfl rfl (rest := [.int (iZ tk)]) rfl (Nat.le_of_ble_eq_true rfl) dX5_doStep_38 ⟨(show 0 + 0 ≤ 0 by omega), (show 0 + 0 ≤ 0 by omega)⟩ (wr := [oX5 x d y u sa ru ar sq ge ne wa fe tk cp xc, oX0 d sc db dq dt wc, aB K db nb zb, aB K dq 32768 zq, aI K dt 64 zt, aI K yk np zk, aI K yn np zn, aI K yc np zc, aI K ya na za, aL K yd np fd, aI K yl 64 zl, aI K xc np zx]) ([5] : List Nat) ([0, 1, 2, 3, 4, 6, 7, 8, 9, 10, 11, 12] : List Nat) rfl rfl rfl rfl (by decide) (fun vr wo hp => ?_)
    obtain ⟨rfl, rfl⟩ := hp
    refine z_re F (ws' := [oX5 x d y u sa ru ar sq ge ne wa fe tk cp xc, oX0 d sc db dq dt wc, aB K db nb zb, aB K dq 32768 zq, aI K dt 64 zt, oX3 y yk yn yc ya yd yl lp re wp lw, aI K yk np zk, aI K yn np zn, aI K yc np zc, aI K ya na za, aL K yd np fd, aI K yl 64 zl, aI K xc np zx]) (st' := [.int (iZ re), .int (iZ tk)]) ([0, 1, 2, 3, 4, 12, 5, 6, 7, 8, 9, 10, 11] : List Nat) rfl rfl rfl ?_
    refine z_icmp_ge F 54 dX5_doStep_41 (by decide) (by omega) (fun c2 => ?_) (fun c2 => ?_)
    · refine z_aload_n F 0 dX5_doStep_54 rfl ?_
      refine z_callV F lw_good (k_X5_endCompaction _ D K x sa ru ar sq ge ne wa fe tk cp xc u d sc db dq dt wc nb zb zq zt y yk yn yc ya yd yl lp re wp lw np na zk zn zc za fd zl zx h0 h1 h2 h3 h4 h5 h6 h7 h8 h9 h10 h11 h12 h13 h14 h15 h16 h17 (by omega)) t2_132 t1_1 t2_129 t2_131 (q := (RX5, TX5, 14)) ts_15 ⟨rfl, rfl⟩ ndX5_endCompaction ⟨Nat.le_of_ble_eq_true rfl, Nat.le_of_ble_eq_true rfl⟩ 0 rfl rfl (rest := []) rfl (Nat.le_of_ble_eq_true rfl) dX5_doStep_55 ⟨(show 0 + 0 ≤ 0 by omega), (show 0 + 0 ≤ 0 by omega)⟩ (wr := []) ([0, 1, 2, 3, 4, 5, 6, 7, 8, 9, 10, 11, 12] : List Nat) ([] : List Nat) rfl rfl rfl rfl (by decide) (fun vr wo hp => ?_)
      obtain ⟨sq2_3, wc2_4, zb2_5, zq2_6, zt2_7, lp2_8, wp2_9, lw2_10, zk2_11, zn2_12, zc2_13, za2_14, fd2_15, zl2_16, rfl, rfl, f17, f18, f19, f20, f21, f22, f23, f24, f25, f26, f27, f28⟩ := hp
      refine z_re F (ws' := [oX5 x d y u sa ru (1 - ar) sq2_3 ge ne wa cp (-1) cp xc, oX0 d sc db dq dt wc2_4, aB K db nb zb2_5, aB K dq 32768 zq2_6, aI K dt 64 zt2_7, oX3 y yk yn yc ya yd yl lp2_8 cp wp2_9 lw2_10, aI K yk np zk2_11, aI K yn np zn2_12, aI K yc np zc2_13, aI K ya na za2_14, aL K yd np fd2_15, aI K yl 64 zl2_16, aI K xc np zx]) (st' := []) ([0, 1, 2, 3, 4, 5, 6, 7, 8, 9, 10, 11, 12] : List Nat) rfl rfl rfl ?_
      refine z_iconst F dX5_doStep_58 ?_
      exact z_zret F hr (by decide) dX5_doStep_59 (by omega) ⟨1, (1 - ar), sq2_3, cp, (-1), cp, wc2_4, zb2_5, zq2_6, zt2_7, lp2_8, cp, wp2_9, lw2_10, zk2_11, zn2_12, zc2_13, za2_14, fd2_15, zl2_16, zx, rfl, rfl, (by omega), f17, f18, f19, f20, (by omega), f21, f22, f23, f24, f25, f26, f27, f28, (by omega), (by omega), h17, (by omega)⟩
    · refine z_aload_n F 0 dX5_doStep_44 rfl ?_
      refine z_aload_n F 0 dX5_doStep_45 rfl ?_
      refine z_get F 0 11 iX5 rfl rfl (by decide) t1_120 rfl dX5_doStep_46 ?_
      refine z_callV F lw_good (k_X5_takePlace _ D K x sa ru ar sq ge ne wa fe tk cp xc u d sc db dq dt wc nb zb zq zt y yk yn yc ya yd yl lp re wp lw np na zk zn zc za fd zl zx h0 h1 h2 h3 h4 h5 h6 h7 h8 h9 h10 h11 h12 h13 h14 h15 h16 h17 (by omega)) t2_120 t1_1 t2_117 t2_119 (q := (RX5, TX5, 14)) ts_14 ⟨rfl, rfl⟩ ndX5_takePlace ⟨Nat.le_of_ble_eq_true rfl, Nat.le_of_ble_eq_true rfl⟩ 0 rfl rfl (rest := []) rfl (Nat.le_of_ble_eq_true rfl) dX5_doStep_49 ⟨(show 0 + 0 ≤ 0 by omega), (show 0 + 0 ≤ 0 by omega)⟩ (wr := []) ([0, 1, 2, 3, 4, 5, 6, 7, 8, 9, 10, 11, 12] : List Nat) ([] : List Nat) rfl rfl rfl rfl (by decide) (fun vr wo hp => ?_)
      obtain ⟨wc2_29, zb2_30, zq2_31, zt2_32, cp2_33, zx2_34, rfl, rfl, f35, f36, f37, f38, f39, f40⟩ := hp
      refine z_re F (ws' := [oX5 x d y u sa ru ar sq ge ne wa fe (tk + 1) cp2_33 xc, oX0 d sc db dq dt wc2_29, aB K db nb zb2_30, aB K dq 32768 zq2_31, aI K dt 64 zt2_32, oX3 y yk yn yc ya yd yl lp re wp lw, aI K yk np zk, aI K yn np zn, aI K yc np zc, aI K ya na za, aL K yd np fd, aI K yl 64 zl, aI K xc np zx2_34]) (st' := []) ([0, 1, 2, 3, 4, 5, 6, 7, 8, 9, 10, 11, 12] : List Nat) rfl rfl rfl ?_
      refine z_iconst F dX5_doStep_52 ?_
      exact z_zret F hr (by decide) dX5_doStep_53 (by omega) ⟨0, ar, sq, fe, (tk + 1), cp2_33, wc2_29, zb2_30, zq2_31, zt2_32, lp, re, wp, lw, zk, zn, zc, za, fd, zl, zx2_34, rfl, rfl, (by omega), f35, f36, f37, f38, h6, h7, h8, h9, h10, h11, h12, h13, h14, h15, (by omega), f40, h18⟩
  · refine z_aload_n F 0 dX5_doStep_8 rfl ?_
    refine z_iconst F dX5_doStep_9 ?_
    refine z_aload_n F 0 dX5_doStep_10 rfl ?_
    refine z_get F 0 5 iX5 rfl rfl (by decide) t1_114 rfl dX5_doStep_11 ?_
    refine z_isub F dX5_doStep_14 ?_
    refine z_callV F lw_good (k_X5_clearArea _ D K x y u sa ru ar sq ge ne wa fe tk cp xc d sc db dq dt wc nb zb zq zt (1 - ar) h0 h3 h4 h5 h2 (by omega) (by omega)) t1_207 t1_1 t1_204 t1_206 (q := (RX5, TX5, 14)) ts_4 ⟨rfl, rfl⟩ ndX5_clearArea ⟨Nat.le_of_ble_eq_true rfl, Nat.le_of_ble_eq_true rfl⟩ 0 rfl rfl (rest := []) rfl (Nat.le_of_ble_eq_true rfl) dX5_doStep_15 ⟨(show 0 + 0 ≤ 0 by omega), (show 0 + 0 ≤ 0 by omega)⟩ (wr := [oX3 y yk yn yc ya yd yl lp re wp lw, aI K yk np zk, aI K yn np zn, aI K yc np zc, aI K ya na za, aL K yd np fd, aI K yl 64 zl, aI K xc np zx]) ([0, 1, 2, 3, 4] : List Nat) ([5, 6, 7, 8, 9, 10, 11, 12] : List Nat) rfl rfl rfl rfl (by decide) (fun vr wo hp => ?_)
    obtain ⟨wc2_41, zb2_42, zq2_43, zt2_44, rfl, rfl, f45, f46, f47, f48⟩ := hp
    refine z_re F (ws' := [oX5 x d y u sa ru ar sq ge ne wa fe tk cp xc, oX0 d sc db dq dt wc2_41, aB K db nb zb2_42, aB K dq 32768 zq2_43, aI K dt 64 zt2_44, oX3 y yk yn yc ya yd yl lp re wp lw, aI K yk np zk, aI K yn np zn, aI K yc np zc, aI K ya na za, aL K yd np fd, aI K yl 64 zl, aI K xc np zx]) (st' := []) ([8, 9, 10, 11, 12, 0, 1, 2, 3, 4, 5, 6, 7] : List Nat) rfl rfl rfl ?_
    refine z_aload_n F 0 dX5_doStep_18 rfl ?_
    refine z_iconst F dX5_doStep_19 ?_
    refine z_put F (ws' := [oX5 x d y u sa ru ar sq ge ne wa fe 0 cp xc, oX0 d sc db dq dt wc2_41, aB K db nb zb2_42, aB K dq 32768 zq2_43, aI K dt 64 zt2_44, oX3 y yk yn yc ya yd yl lp re wp lw, aI K yk np zk, aI K yn np zn, aI K yc np zc, aI K ya na za, aL K yd np fd, aI K yl 64 zl, aI K xc np zx]) 0 11 iX5 tyX5 tyX5_ok nmX5 rfl rfl (by decide) t1_120 rfl rfl rfl rfl (Nat.le_of_ble_eq_true rfl) dX5_doStep_20 rfl ?_
    refine z_aload_n F 0 dX5_doStep_23 rfl ?_
    refine z_iconst F dX5_doStep_24 ?_
    refine z_put F (ws' := [oX5 x d y u sa ru ar sq ge ne wa fe 0 0 xc, oX0 d sc db dq dt wc2_41, aB K db nb zb2_42, aB K dq 32768 zq2_43, aI K dt 64 zt2_44, oX3 y yk yn yc ya yd yl lp re wp lw, aI K yk np zk, aI K yn np zn, aI K yc np zc, aI K ya na za, aL K yd np fd, aI K yl 64 zl, aI K xc np zx]) 0 12 iX5 tyX5 tyX5_ok nmX5 rfl rfl (by decide) t1_121 rfl rfl rfl rfl (Nat.le_of_ble_eq_true rfl) dX5_doStep_25 rfl ?_
    refine z_iconst F dX5_doStep_28 ?_
    exact z_zret F hr (by decide) dX5_doStep_29 (by omega) ⟨0, ar, sq, fe, 0, 0, wc2_41, zb2_42, zq2_43, zt2_44, lp, re, wp, lw, zk, zn, zc, za, fd, zl, zx, rfl, rfl, (by omega), f45, f46, f47, f48, h6, h7, h8, h9, h10, h11, h12, h13, h14, h15, (by omega), h17, h18⟩
