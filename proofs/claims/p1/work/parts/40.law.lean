set_option maxHeartbeats 40000000 in
set_option maxRecDepth 100000 in
theorem law_walk (hfl0 : True) (D : va_G) (K : KI) (C : ZC) (hfl : (zl C).flags = flags0) (b L q0 : Nat) (zx : Nat → Int) (hL : L ≤ 5) (hzx : ∀ j, -2147483648 ≤ zx j ∧ zx j ≤ 2147483647) (hcv : -2147483648 ≤ cellV L zx ∧ cellV L zx ≤ 2147483647) (F : Fx C D cls5 (TY K) cL_law 7 lw_T RL) (hzt : zT C q0) (hX : zX C b L (zf zx)) (hend : ∀ (kc ns : Nat) (ws : va_W) (lv : List (Nat × Value)), kc ≤ 600002 → ns ≤ 7302198 → Go C room_1 D cls5 7 kc ns ws 633 lv [.int (iZ 1)]) : Go C room_1 D cls5 7 0 0 [] 0 [(0, .ref b)] [] := by
  refine z_new F (ci := 3) (fs := [.null, .null, .null, .int (iZ 0), .int (iZ 0), .int (iZ 0), .int (iZ 0), .int (iZ 0), .int (iZ 0), .int (iZ 0), .int (iZ 0), .int (iZ 0), .int (iZ 0), .null]) iX5 tyX5 tyX5_ok t1_15 t1_16 t1_1 rfl (fun j hj => by rcases (show j = 0 ∨ j = 1 ∨ j = 2 ∨ j = 3 ∨ j = 4 ∨ j = 5 ∨ j = 6 ∨ j = 7 ∨ j = 8 ∨ j = 9 ∨ j = 10 ∨ j = 11 ∨ j = 12 ∨ j = 13 by omega) with rfl | rfl | rfl | rfl | rfl | rfl | rfl | rfl | rfl | rfl | rfl | rfl | rfl | rfl <;> rfl) ⟨(show 0 + 1 ≤ 600002 by omega), (show 0 + 14 ≤ 7302198 by omega)⟩ dL_law_0 (fun a1 => ?_)
  refine z_re F (ws' := [(a1, .inr (3, [.null, .null, .null, .int (iZ 0), .int (iZ 0), .int (iZ 0), .int (iZ 0), .int (iZ 0), .int (iZ 0), .int (iZ 0), .int (iZ 0), .int (iZ 0), .int (iZ 0), .null]))]) (st' := [.ref a1]) [0] rfl rfl rfl ?_
  refine z_dup F dL_law_3 rfl ?_
  refine z_aload_n F 0 dL_law_4 rfl ?_
  refine z_iconst F dL_law_5 ?_
  refine z_cell F hX (by omega) t2_228 ⟨Nat.le_of_ble_eq_true rfl, Nat.le_of_ble_eq_true rfl⟩ (Nat.le_of_ble_eq_true rfl) dL_law_6 ⟨(show 0 + 1 + 0 ≤ 600002 by omega), (show 0 + 14 + 0 ≤ 7302198 by omega)⟩ ?_
  refine z_callI F lw_good (k_X5_init _ D K a1 (cellV L zx) (by omega)) t1_19 t1_1 t1_17 t1_18 rfl ⟨rfl, rfl⟩ ndX5_init ⟨Nat.le_of_ble_eq_true rfl, Nat.le_of_ble_eq_true rfl⟩ (rest := [.ref a1]) rfl (Nat.le_of_ble_eq_true rfl) dL_law_9 ⟨(show 0 + 1 + 15 ≤ 600002 by omega), (show 0 + 14 + 57000 ≤ 7302198 by omega)⟩ (wr := []) ([0] : List Nat) ([] : List Nat) rfl rfl rfl rfl (by decide) (fun vr wo hp => ?_)
  obtain ⟨d_2, y_3, u_4, xc_5, nb_6, np_7, na_8, db_9, dq_10, dt_11, yk_12, yn_13, yc_14, ya_15, yd_16, yl_17, um_18, ud_19, sc_20, sa_21, rfl, rfl, f22, f23, f24, f25⟩ := hp
  refine z_re F (ws' := [oX5 a1 d_2 y_3 u_4 sa_21 0 0 0 0 1 0 0 (-1) 0 xc_5, oX0 d_2 sc_20 db_9 dq_10 dt_11 0, aB K db_9 nb_6 (fun _ => 0), aB K dq_10 32768 (fun _ => 0), aI K dt_11 64 (fun _ => 0), oX3 y_3 yk_12 yn_13 yc_14 ya_15 yd_16 yl_17 0 0 0 0, aI K yk_12 np_7 (fun _ => 0), aI K yn_13 np_7 (fun _ => 0), aI K yc_14 np_7 (fun _ => 0), aI K ya_15 na_8 (fun _ => 0), aL K yd_16 np_7 (fun _ => 0), aI K yl_17 64 (fun _ => 0), oX4 u_4 um_18 ud_19, aZ K um_18 64 (fun _ => 0), aL K ud_19 64 (fun _ => 0), aI K xc_5 np_7 (fun _ => 0)]) (st' := [.ref a1]) ([0, 1, 2, 3, 4, 5, 6, 7, 8, 9, 10, 11, 12, 13, 14, 15] : List Nat) rfl rfl rfl ?_
  refine z_astore_n F (lv' := [(1, .ref a1), (0, .ref b)]) dL_law_12 (by decide) rfl ?_
  refine z_new F (ci := 4) (fs := [.int (iZ 0), .int (iZ 0), .int (iZ 0), .null, .null, .null, .int (iZ 0), .null, .int (iZ 0), .int (iZ 0), .int (iZ 0), .int (iZ 0), .int (iZ 0), .int (iZ 0), .int (iZ 0), .int (iZ 0), .int (iZ 0), .int (iZ 0), .int (iZ 0), .null, .null, .null, .null, .null, .null, .null]) iX6 tyX6 tyX6_ok t3_69 t3_70 t1_6 rfl (fun j hj => by rcases (show j = 0 ∨ j = 1 ∨ j = 2 ∨ j = 3 ∨ j = 4 ∨ j = 5 ∨ j = 6 ∨ j = 7 ∨ j = 8 ∨ j = 9 ∨ j = 10 ∨ j = 11 ∨ j = 12 ∨ j = 13 ∨ j = 14 ∨ j = 15 ∨ j = 16 ∨ j = 17 ∨ j = 18 ∨ j = 19 ∨ j = 20 ∨ j = 21 ∨ j = 22 ∨ j = 23 ∨ j = 24 ∨ j = 25 by omega) with rfl | rfl | rfl | rfl | rfl | rfl | rfl | rfl | rfl | rfl | rfl | rfl | rfl | rfl | rfl | rfl | rfl | rfl | rfl | rfl | rfl | rfl | rfl | rfl | rfl | rfl <;> rfl) ⟨(show 0 + 1 + 15 + 1 ≤ 600002 by omega), (show 0 + 14 + 57000 + 26 ≤ 7302198 by omega)⟩ dL_law_13 (fun a26 => ?_)
  refine z_re F (ws' := [oX5 a1 d_2 y_3 u_4 sa_21 0 0 0 0 1 0 0 (-1) 0 xc_5, oX0 d_2 sc_20 db_9 dq_10 dt_11 0, aB K db_9 nb_6 (fun _ => 0), aB K dq_10 32768 (fun _ => 0), aI K dt_11 64 (fun _ => 0), oX3 y_3 yk_12 yn_13 yc_14 ya_15 yd_16 yl_17 0 0 0 0, aI K yk_12 np_7 (fun _ => 0), aI K yn_13 np_7 (fun _ => 0), aI K yc_14 np_7 (fun _ => 0), aI K ya_15 na_8 (fun _ => 0), aL K yd_16 np_7 (fun _ => 0), aI K yl_17 64 (fun _ => 0), oX4 u_4 um_18 ud_19, aZ K um_18 64 (fun _ => 0), aL K ud_19 64 (fun _ => 0), aI K xc_5 np_7 (fun _ => 0), (a26, .inr (4, [.int (iZ 0), .int (iZ 0), .int (iZ 0), .null, .null, .null, .int (iZ 0), .null, .int (iZ 0), .int (iZ 0), .int (iZ 0), .int (iZ 0), .int (iZ 0), .int (iZ 0), .int (iZ 0), .int (iZ 0), .int (iZ 0), .int (iZ 0), .int (iZ 0), .null, .null, .null, .null, .null, .null, .null]))]) (st' := [.ref a26]) [0, 1, 2, 3, 4, 5, 6, 7, 8, 9, 10, 11, 12, 13, 14, 15, 16] rfl rfl rfl ?_
  refine z_dup F dL_law_16 rfl ?_
  refine z_aload_n F 1 dL_law_17 rfl ?_
  refine z_iconst F dL_law_18 ?_
  refine z_cell F hX (by omega) t2_228 ⟨Nat.le_of_ble_eq_true rfl, Nat.le_of_ble_eq_true rfl⟩ (Nat.le_of_ble_eq_true rfl) dL_law_19 ⟨(show 0 + 1 + 15 + 1 + 0 ≤ 600002 by omega), (show 0 + 14 + 57000 + 26 + 0 ≤ 7302198 by omega)⟩ ?_
  refine z_callI F lw_good (k_X6_init _ D K a26 (cellV L zx) (by omega)) t3_73 t1_6 t3_71 t3_72 rfl ⟨rfl, rfl⟩ ndX6_init ⟨Nat.le_of_ble_eq_true rfl, Nat.le_of_ble_eq_true rfl⟩ (rest := [.ref a26]) rfl (Nat.le_of_ble_eq_true rfl) dL_law_22 ⟨(show 0 + 1 + 15 + 1 + 11 ≤ 600002 by omega), (show 0 + 14 + 57000 + 26 + 60032 ≤ 7302198 by omega)⟩ (wr := [oX5 a1 d_2 y_3 u_4 sa_21 0 0 0 0 1 0 0 (-1) 0 xc_5, oX0 d_2 sc_20 db_9 dq_10 dt_11 0, aB K db_9 nb_6 (fun _ => 0), aB K dq_10 32768 (fun _ => 0), aI K dt_11 64 (fun _ => 0), oX3 y_3 yk_12 yn_13 yc_14 ya_15 yd_16 yl_17 0 0 0 0, aI K yk_12 np_7 (fun _ => 0), aI K yn_13 np_7 (fun _ => 0), aI K yc_14 np_7 (fun _ => 0), aI K ya_15 na_8 (fun _ => 0), aL K yd_16 np_7 (fun _ => 0), aI K yl_17 64 (fun _ => 0), oX4 u_4 um_18 ud_19, aZ K um_18 64 (fun _ => 0), aL K ud_19 64 (fun _ => 0), aI K xc_5 np_7 (fun _ => 0)]) ([16] : List Nat) ([0, 1, 2, 3, 4, 5, 6, 7, 8, 9, 10, 11, 12, 13, 14, 15] : List Nat) rfl rfl rfl rfl (by decide) (fun vr wo hp => ?_)
  obtain ⟨se_27, ea_28, dk_29, wt_30, wh_31, nw_32, ki_33, ke_34, mn_35, ak_36, dg_37, uk_38, ud_39, rfl, rfl, f40, f41⟩ := hp
  refine z_re F (ws' := [oX5 a1 d_2 y_3 u_4 sa_21 0 0 0 0 1 0 0 (-1) 0 xc_5, oX0 d_2 sc_20 db_9 dq_10 dt_11 0, aB K db_9 nb_6 (fun _ => 0), aB K dq_10 32768 (fun _ => 0), aI K dt_11 64 (fun _ => 0), oX3 y_3 yk_12 yn_13 yc_14 ya_15 yd_16 yl_17 0 0 0 0, aI K yk_12 np_7 (fun _ => 0), aI K yn_13 np_7 (fun _ => 0), aI K yc_14 np_7 (fun _ => 0), aI K ya_15 na_8 (fun _ => 0), aL K yd_16 np_7 (fun _ => 0), aI K yl_17 64 (fun _ => 0), oX4 u_4 um_18 ud_19, aZ K um_18 64 (fun _ => 0), aL K ud_19 64 (fun _ => 0), aI K xc_5 np_7 (fun _ => 0), oX6 a26 0 se_27 ea_28 dk_29 wt_30 wh_31 0 nw_32 0 1 1 0 0 0 0 0 0 0 0 ki_33 ke_34 mn_35 ak_36 dg_37 uk_38 ud_39, aI K dk_29 20480 (fun _ => 0), aI K wt_30 32768 (fun _ => 0), aI K wh_31 64 (fun _ => 0), aI K nw_32 512 (fun _ => 0), aI K ki_33 608 (fun _ => 0), aI K ke_34 608 (fun _ => 0), aI K mn_35 608 (fun _ => 0), aI K ak_36 3648 (fun _ => 0), aL K dg_37 608 (fun _ => 0), aZ K uk_38 64 (fun _ => 0), aL K ud_39 64 (fun _ => 0)]) (st' := [.ref a26]) ([0, 1, 2, 3, 4, 5, 6, 7, 8, 9, 10, 11, 12, 13, 14, 15, 16, 17, 18, 19, 20, 21, 22, 23, 24, 25, 26, 27] : List Nat) rfl rfl rfl ?_
  refine z_astore_n F (lv' := [(2, .ref a26), (1, .ref a1), (0, .ref b)]) dL_law_25 (by decide) rfl ?_
  refine z_iconst F dL_law_26 ?_
  refine z_newa F 3 t1_94 rfl rfl (fun _ _ => rfl) (N := 1) (a0 := .inr (.inl (fun _ => 0))) (fun _ => rfl) (by omega) (by omega) (show 1 * 8 ≤ 536870912 by omega) ⟨(show 0 + 1 + 15 + 1 + 11 + 1 ≤ 600002 by omega), (show 0 + 14 + 57000 + 26 + 60032 + 1 ≤ 7302198 by omega)⟩ dL_law_27 (fun a42 => ?_)
  refine z_re F (ws' := [oX5 a1 d_2 y_3 u_4 sa_21 0 0 0 0 1 0 0 (-1) 0 xc_5, oX0 d_2 sc_20 db_9 dq_10 dt_11 0, aB K db_9 nb_6 (fun _ => 0), aB K dq_10 32768 (fun _ => 0), aI K dt_11 64 (fun _ => 0), oX3 y_3 yk_12 yn_13 yc_14 ya_15 yd_16 yl_17 0 0 0 0, aI K yk_12 np_7 (fun _ => 0), aI K yn_13 np_7 (fun _ => 0), aI K yc_14 np_7 (fun _ => 0), aI K ya_15 na_8 (fun _ => 0), aL K yd_16 np_7 (fun _ => 0), aI K yl_17 64 (fun _ => 0), oX4 u_4 um_18 ud_19, aZ K um_18 64 (fun _ => 0), aL K ud_19 64 (fun _ => 0), aI K xc_5 np_7 (fun _ => 0), oX6 a26 0 se_27 ea_28 dk_29 wt_30 wh_31 0 nw_32 0 1 1 0 0 0 0 0 0 0 0 ki_33 ke_34 mn_35 ak_36 dg_37 uk_38 ud_39, aI K dk_29 20480 (fun _ => 0), aI K wt_30 32768 (fun _ => 0), aI K wh_31 64 (fun _ => 0), aI K nw_32 512 (fun _ => 0), aI K ki_33 608 (fun _ => 0), aI K ke_34 608 (fun _ => 0), aI K mn_35 608 (fun _ => 0), aI K ak_36 3648 (fun _ => 0), aL K dg_37 608 (fun _ => 0), aZ K uk_38 64 (fun _ => 0), aL K ud_39 64 (fun _ => 0), aL K a42 1 (fun _ => 0)]) (st' := [.ref a42]) [0, 1, 2, 3, 4, 5, 6, 7, 8, 9, 10, 11, 12, 13, 14, 15, 16, 17, 18, 19, 20, 21, 22, 23, 24, 25, 26, 27, 28] rfl rfl rfl ?_
  refine z_astore_n F (lv' := [(3, .ref a42), (2, .ref a26), (1, .ref a1), (0, .ref b)]) dL_law_29 (by decide) rfl ?_
  refine z_iconst F dL_law_30 ?_
  refine z_istore F (lv' := [(4, .int (iZ 1)), (3, .ref a42), (2, .ref a26), (1, .ref a1), (0, .ref b)]) dL_law_31 (by decide) rfl ?_
  refine z_iload F 0 dL_law_33 rfl ?_
  refine z_aload_n F 4 dL_law_35 rfl ?_
  refine z_slen F hX dL_law_36 ?_
  refine z_iconst F dL_law_37 ?_
  refine z_isub F dL_law_38 ?_
  refine z_icmp_gt F 632 dL_law_39 (by decide) (by omega) (fun c43 => ?_) (fun c43 => ?_)
  · refine z_iconst F dL_law_632 ?_
    exact hend _ _ _ _ (by omega) (by omega)
  · refine z_aload_n F 4 dL_law_42 rfl ?_
    refine z_iload F 0 dL_law_43 rfl ?_
    refine z_sld F hX (by omega) (by omega) dL_law_45 ?_
    have r44 := hzx (1 : Int).toNat
    refine z_bipush F dL_law_46 (by decide) ?_
    refine z_and15 F dL_law_48 ?_
    by_cases c45 : (zx (1 : Int).toNat) % 16 = 0
    · rw [c45]; refine z_tableIn F 0 128 dL_law_49 (by decide) (by decide) (by decide) rfl (by decide) ?_
      refine z_aload_n F 3 dL_law_128 rfl ?_
      refine z_callV F lw_good (k_X5_start _ D K a1 sa_21 0 0 0 0 1 0 0 (-1) 0 xc_5 u_4 d_2 sc_20 db_9 dq_10 dt_11 0 nb_6 (fun _ => 0) (fun _ => 0) (fun _ => 0) y_3 yk_12 yn_13 yc_14 ya_15 yd_16 yl_17 0 0 0 0 np_7 na_8 (fun _ => 0) (fun _ => 0) (fun _ => 0) (fun _ => 0) (fun _ => 0) (fun _ => 0) um_18 ud_19 (fun _ => 0) (fun _ => 0) (fun _ => 0) f23 f24 (by omega) (rng_0 (by omega)) (rng_0 (by omega)) (rng_0 (by omega)) (by omega) (by omega) (rng_0 (by omega)) (rng_0 (by omega)) (by first | assumption | exact nmOk_zu2 (by assumption) (by omega) | exact nmOk_0 (by assumption) | exact nmOk_z | (exfalso; omega)) (rng_0 (by omega)) (rng_0 (by omega)) (by first | assumption | exact akOk_c0 (by assumption) | exact akOk_z | (exfalso; omega)) (rng_0 (by omega)) (by omega) (by omega) (rng_0 (by omega)) (by omega) (by omega) (by omega) (by omega) (by omega) (rng_0 (by omega))) t1_155 t1_1 t1_152 t1_153 (q := (RX5, TX5, 14)) t1_154 ⟨rfl, rfl⟩ ndX5_start ⟨Nat.le_of_ble_eq_true rfl, Nat.le_of_ble_eq_true rfl⟩ 0 rfl rfl (rest := []) rfl (Nat.le_of_ble_eq_true rfl) dL_law_129 ⟨(show 0 + 1 + 15 + 1 + 11 + 1 + 0 ≤ 600002 by omega), (show 0 + 14 + 57000 + 26 + 60032 + 1 + 0 ≤ 7302198 by omega)⟩ (wr := [oX6 a26 0 se_27 ea_28 dk_29 wt_30 wh_31 0 nw_32 0 1 1 0 0 0 0 0 0 0 0 ki_33 ke_34 mn_35 ak_36 dg_37 uk_38 ud_39, aI K dk_29 20480 (fun _ => 0), aI K wt_30 32768 (fun _ => 0), aI K wh_31 64 (fun _ => 0), aI K nw_32 512 (fun _ => 0), aI K ki_33 608 (fun _ => 0), aI K ke_34 608 (fun _ => 0), aI K mn_35 608 (fun _ => 0), aI K ak_36 3648 (fun _ => 0), aL K dg_37 608 (fun _ => 0), aZ K uk_38 64 (fun _ => 0), aL K ud_39 64 (fun _ => 0), aL K a42 1 (fun _ => 0)]) ([0, 1, 2, 3, 4, 5, 6, 7, 8, 9, 10, 11, 12, 13, 14, 15] : List Nat) ([16, 17, 18, 19, 20, 21, 22, 23, 24, 25, 26, 27, 28] : List Nat) rfl rfl rfl rfl (by decide) (fun vr wo hp => ?_)
      obtain ⟨r_46, ru2_47, ar2_48, sq2_49, ge2_50, wa2_51, fe2_52, wc2_53, zb2_54, zq2_55, zt2_56, lp2_57, re2_58, wp2_59, lw2_60, zk2_61, zn2_62, zc2_63, za2_64, fd2_65, zl2_66, rfl, rfl, f67, f68, f69, f70, f71, f72, f73, f74, f75, f76, f77, f78, f79, f80, f81, f82, f83, f84, f85⟩ := hp
      refine z_re F (ws' := [oX5 a1 d_2 y_3 u_4 sa_21 ru2_47 ar2_48 sq2_49 ge2_50 1 wa2_51 fe2_52 (-1) 0 xc_5, oX0 d_2 sc_20 db_9 dq_10 dt_11 wc2_53, aB K db_9 nb_6 zb2_54, aB K dq_10 32768 zq2_55, aI K dt_11 64 zt2_56, oX3 y_3 yk_12 yn_13 yc_14 ya_15 yd_16 yl_17 lp2_57 re2_58 wp2_59 lw2_60, aI K yk_12 np_7 zk2_61, aI K yn_13 np_7 zn2_62, aI K yc_14 np_7 zc2_63, aI K ya_15 na_8 za2_64, aL K yd_16 np_7 fd2_65, aI K yl_17 64 zl2_66, oX4 u_4 um_18 ud_19, aZ K um_18 64 (fun _ => 0), aL K ud_19 64 (fun _ => 0), aI K xc_5 np_7 (fun _ => 0), oX6 a26 0 se_27 ea_28 dk_29 wt_30 wh_31 0 nw_32 0 1 1 0 0 0 0 0 0 0 0 ki_33 ke_34 mn_35 ak_36 dg_37 uk_38 ud_39, aI K dk_29 20480 (fun _ => 0), aI K wt_30 32768 (fun _ => 0), aI K wh_31 64 (fun _ => 0), aI K nw_32 512 (fun _ => 0), aI K ki_33 608 (fun _ => 0), aI K ke_34 608 (fun _ => 0), aI K mn_35 608 (fun _ => 0), aI K ak_36 3648 (fun _ => 0), aL K dg_37 608 (fun _ => 0), aZ K uk_38 64 (fun _ => 0), aL K ud_39 64 (fun _ => 0), aL K a42 1 (fun _ => 0)]) (st' := [.int (iZ r_46)]) ([13, 14, 15, 16, 17, 18, 19, 20, 21, 22, 23, 24, 25, 26, 27, 28, 0, 1, 2, 3, 4, 5, 6, 7, 8, 9, 10, 11, 12] : List Nat) rfl rfl rfl ?_
      have hz1 := f68 (fun _ => rfl) rfl
      refine z_aload_n F 2 dL_law_132 rfl ?_
      refine z_callV F lw_good (k_X6_start _ D K a26 0 se_27 ea_28 dk_29 wt_30 wh_31 0 nw_32 0 1 1 0 0 0 0 0 0 0 0 ki_33 ke_34 mn_35 ak_36 dg_37 uk_38 ud_39 (fun _ => 0) (fun _ => 0) (fun _ => 0) (fun _ => 0) (fun _ => 0) (fun _ => 0) (fun _ => 0) (fun _ => 0) (fun _ => 0) (fun _ => 0) (fun _ => 0) f41 (by omega) (rng_0 (by omega)) (rng_0 (by omega)) (rng_0 (by omega)) (rng_0 (by omega)) (rng_0 (by omega)) (rng_0 (by omega)) (rng_0 (by omega)) (rng_0 (by omega)) (by first | assumption | exact akOk_c0 (by assumption) | exact akOk_z | (exfalso; omega)) (by omega) (by omega) (by omega) (by omega) (by omega) (by omega) (by omega) (by omega) (rng_0 (by omega)) (by omega) (by omega)) t3_162 t1_6 t3_159 t3_160 (q := (RX6, TX6, 26)) t3_161 ⟨rfl, rfl⟩ ndX6_start ⟨Nat.le_of_ble_eq_true rfl, Nat.le_of_ble_eq_true rfl⟩ 0 rfl rfl (rest := [.int (iZ r_46)]) rfl (Nat.le_of_ble_eq_true rfl) dL_law_133 ⟨(show 0 + 1 + 15 + 1 + 11 + 1 + 0 ≤ 600002 by omega), (show 0 + 14 + 57000 + 26 + 60032 + 1 + 0 ≤ 7302198 by omega)⟩ (wr := [oX5 a1 d_2 y_3 u_4 sa_21 ru2_47 ar2_48 sq2_49 ge2_50 1 wa2_51 fe2_52 (-1) 0 xc_5, oX0 d_2 sc_20 db_9 dq_10 dt_11 wc2_53, aB K db_9 nb_6 zb2_54, aB K dq_10 32768 zq2_55, aI K dt_11 64 zt2_56, oX3 y_3 yk_12 yn_13 yc_14 ya_15 yd_16 yl_17 lp2_57 re2_58 wp2_59 lw2_60, aI K yk_12 np_7 zk2_61, aI K yn_13 np_7 zn2_62, aI K yc_14 np_7 zc2_63, aI K ya_15 na_8 za2_64, aL K yd_16 np_7 fd2_65, aI K yl_17 64 zl2_66, oX4 u_4 um_18 ud_19, aZ K um_18 64 (fun _ => 0), aL K ud_19 64 (fun _ => 0), aI K xc_5 np_7 (fun _ => 0), aL K a42 1 (fun _ => 0)]) ([16, 17, 18, 19, 20, 21, 22, 23, 24, 25, 26, 27] : List Nat) ([0, 1, 2, 3, 4, 5, 6, 7, 8, 9, 10, 11, 12, 13, 14, 15, 28] : List Nat) rfl rfl rfl rfl (by decide) (fun vr wo hp => ?_)
      obtain ⟨r_86, ru2_87, ed2_88, sq2_89, ar2_90, en2_91, sd2_92, wg2_93, wc2_94, zd2_95, zw2_96, zh2_97, zn2_98, kz2_99, yz2_100, mz2_101, az2_102, fg2_103, rfl, rfl, f104, f105, f106, f107, f108, f109, f110, f111, f112, f113, f114, f115, f116, f117, f118, f119, f120, f121, f122⟩ := hp
      refine z_re F (ws' := [oX5 a1 d_2 y_3 u_4 sa_21 ru2_47 ar2_48 sq2_49 ge2_50 1 wa2_51 fe2_52 (-1) 0 xc_5, oX0 d_2 sc_20 db_9 dq_10 dt_11 wc2_53, aB K db_9 nb_6 zb2_54, aB K dq_10 32768 zq2_55, aI K dt_11 64 zt2_56, oX3 y_3 yk_12 yn_13 yc_14 ya_15 yd_16 yl_17 lp2_57 re2_58 wp2_59 lw2_60, aI K yk_12 np_7 zk2_61, aI K yn_13 np_7 zn2_62, aI K yc_14 np_7 zc2_63, aI K ya_15 na_8 za2_64, aL K yd_16 np_7 fd2_65, aI K yl_17 64 zl2_66, oX4 u_4 um_18 ud_19, aZ K um_18 64 (fun _ => 0), aL K ud_19 64 (fun _ => 0), aI K xc_5 np_7 (fun _ => 0), oX6 a26 0 se_27 ea_28 dk_29 wt_30 wh_31 wc2_94 nw_32 ru2_87 ed2_88 1 sq2_89 ar2_90 en2_91 sd2_92 wg2_93 0 0 0 ki_33 ke_34 mn_35 ak_36 dg_37 uk_38 ud_39, aI K dk_29 20480 zd2_95, aI K wt_30 32768 zw2_96, aI K wh_31 64 zh2_97, aI K nw_32 512 zn2_98, aI K ki_33 608 kz2_99, aI K ke_34 608 yz2_100, aI K mn_35 608 mz2_101, aI K ak_36 3648 az2_102, aL K dg_37 608 fg2_103, aZ K uk_38 64 (fun _ => 0), aL K ud_39 64 (fun _ => 0), aL K a42 1 (fun _ => 0)]) (st' := [.int (iZ r_86), .int (iZ r_46)]) ([0, 1, 2, 3, 4, 5, 6, 7, 8, 9, 10, 11, 12, 13, 14, 15, 17, 18, 19, 20, 21, 22, 23, 24, 25, 26, 27, 28, 16] : List Nat) rfl rfl rfl ?_
      have hz2 := f105 (fun _ => rfl) rfl
      refine z_icmp_eq F 626 dL_law_136 (by decide) (by omega) (fun c123 => ?_) (fun c123 => ?_)
      · refine z_iinc F (lv' := [(4, .int (iZ (1 + 4))), (3, .ref a42), (2, .ref a26), (1, .ref a1), (0, .ref b)]) 0 dL_law_626 rfl (by decide) rfl ?_
        refine z_goto F 33 dL_law_629 (by decide) ?_
        refine z_iload F 0 dL_law_33 rfl ?_
        refine z_aload_n F 4 dL_law_35 rfl ?_
        refine z_slen F hX dL_law_36 ?_
        refine z_iconst F dL_law_37 ?_
        refine z_isub F dL_law_38 ?_
        refine z_icmp_gt F 632 dL_law_39 (by decide) (by omega) (fun c124 => ?_) (fun c124 => ?_)
        · refine z_iconst F dL_law_632 ?_
          exact hend _ _ _ _ (by omega) (by omega)
        · exfalso; omega
      · exfalso; omega
    by_cases c125 : (zx (1 : Int).toNat) % 16 = 1
    · rw [c125]; refine z_tableIn F 1 141 dL_law_49 (by decide) (by decide) (by decide) rfl (by decide) ?_
      refine z_aload_n F 3 dL_law_141 rfl ?_
      refine z_aload_n F 4 dL_law_142 rfl ?_
      refine z_iload F 0 dL_law_143 rfl ?_
      refine z_iconst F dL_law_145 ?_
      refine z_iadd F dL_law_146 ?_
      refine z_sld F hX (by omega) (by omega) dL_law_147 ?_
      have r126 := hzx (1 + 1 : Int).toNat
      refine z_aload_n F 4 dL_law_148 rfl ?_
      refine z_iload F 0 dL_law_149 rfl ?_
      refine z_iconst F dL_law_151 ?_
      refine z_iadd F dL_law_152 ?_
      refine z_sld F hX (by omega) (by omega) dL_law_153 ?_
      have r127 := hzx (1 + 2 : Int).toNat
      refine z_i2l F dL_law_154 ?_
      refine z_bipush F dL_law_155 (by decide) ?_
      refine z_lshl F dL_law_157 ?_
      refine z_aload_n F 4 dL_law_158 rfl ?_
      refine z_iload F 0 dL_law_159 rfl ?_
      refine z_iconst F dL_law_161 ?_
      refine z_iadd F dL_law_162 ?_
      refine z_sld F hX (by omega) (by omega) dL_law_163 ?_
      have r128 := hzx (1 + 3 : Int).toNat
      refine z_i2l F dL_law_164 ?_
      refine z_ldc2 F t4_88 dL_law_165 ?_
      refine z_land F dL_law_168 ?_
      refine z_lor F dL_law_169 ?_
      refine z_callV F lw_good (k_X5_row _ D K a1 sa_21 0 0 0 0 1 0 0 (-1) 0 xc_5 u_4 d_2 sc_20 db_9 dq_10 dt_11 0 nb_6 (fun _ => 0) (fun _ => 0) (fun _ => 0) y_3 yk_12 yn_13 yc_14 ya_15 yd_16 yl_17 0 0 0 0 np_7 na_8 (fun _ => 0) (fun _ => 0) (fun _ => 0) (fun _ => 0) (fun _ => 0) (fun _ => 0) um_18 ud_19 (fun _ => 0) (fun _ => 0) (fun _ => 0) (zx (1 + 1 : Int).toNat) ((((iZ (zx (1 + 2 : Int).toNat)).toInt64) <<< ((iZ 32).toInt64 &&& 63)) ||| (((iZ (zx (1 + 3 : Int).toNat)).toInt64) &&& 4294967295)) f23 f24 (by omega) (rng_0 (by omega)) (rng_0 (by omega)) (rng_0 (by omega)) (by omega) (by omega) (rng_0 (by omega)) (rng_0 (by omega)) (by first | assumption | exact nmOk_zu2 (by assumption) (by omega) | exact nmOk_0 (by assumption) | exact nmOk_z | (exfalso; omega)) (rng_0 (by omega)) (rng_0 (by omega)) (by first | assumption | exact akOk_c0 (by assumption) | exact akOk_z | (exfalso; omega)) (rng_0 (by omega)) (by omega) (by omega) (rng_0 (by omega)) (by omega) (by omega) (by omega) (by omega) (by omega) (rng_0 (by omega)) (by omega)) t2_44 t1_1 t2_41 t2_42 (q := (RX5, TX5, 14)) t2_43 ⟨rfl, rfl⟩ ndX5_row ⟨Nat.le_of_ble_eq_true rfl, Nat.le_of_ble_eq_true rfl⟩ 0 rfl rfl (rest := []) rfl (Nat.le_of_ble_eq_true rfl) dL_law_170 ⟨(show 0 + 1 + 15 + 1 + 11 + 1 + 0 ≤ 600002 by omega), (show 0 + 14 + 57000 + 26 + 60032 + 1 + 0 ≤ 7302198 by omega)⟩ (wr := [oX6 a26 0 se_27 ea_28 dk_29 wt_30 wh_31 0 nw_32 0 1 1 0 0 0 0 0 0 0 0 ki_33 ke_34 mn_35 ak_36 dg_37 uk_38 ud_39, aI K dk_29 20480 (fun _ => 0), aI K wt_30 32768 (fun _ => 0), aI K wh_31 64 (fun _ => 0), aI K nw_32 512 (fun _ => 0), aI K ki_33 608 (fun _ => 0), aI K ke_34 608 (fun _ => 0), aI K mn_35 608 (fun _ => 0), aI K ak_36 3648 (fun _ => 0), aL K dg_37 608 (fun _ => 0), aZ K uk_38 64 (fun _ => 0), aL K ud_39 64 (fun _ => 0), aL K a42 1 (fun _ => 0)]) ([0, 1, 2, 3, 4, 5, 6, 7, 8, 9, 10, 11, 12, 13, 14, 15] : List Nat) ([16, 17, 18, 19, 20, 21, 22, 23, 24, 25, 26, 27, 28] : List Nat) rfl rfl rfl rfl (by decide) (fun vr wo hp => ?_)
      obtain ⟨r_129, wc2_130, zb2_131, zq2_132, zt2_133, lp2_134, re2_135, wp2_136, lw2_137, zk2_138, zn2_139, zc2_140, fd2_141, zl2_142, zm2_143, fu2_144, rfl, rfl, f145, f146, f147, f148, f149, f150, f151, f152, f153, f154, f155, f156, f157, f158, f159, f160⟩ := hp
      refine z_re F (ws' := [oX5 a1 d_2 y_3 u_4 sa_21 0 0 0 0 1 0 0 (-1) 0 xc_5, oX0 d_2 sc_20 db_9 dq_10 dt_11 wc2_130, aB K db_9 nb_6 zb2_131, aB K dq_10 32768 zq2_132, aI K dt_11 64 zt2_133, oX3 y_3 yk_12 yn_13 yc_14 ya_15 yd_16 yl_17 lp2_134 re2_135 wp2_136 lw2_137, aI K yk_12 np_7 zk2_138, aI K yn_13 np_7 zn2_139, aI K yc_14 np_7 zc2_140, aI K ya_15 na_8 (fun _ => 0), aL K yd_16 np_7 fd2_141, aI K yl_17 64 zl2_142, oX4 u_4 um_18 ud_19, aZ K um_18 64 zm2_143, aL K ud_19 64 fu2_144, aI K xc_5 np_7 (fun _ => 0), oX6 a26 0 se_27 ea_28 dk_29 wt_30 wh_31 0 nw_32 0 1 1 0 0 0 0 0 0 0 0 ki_33 ke_34 mn_35 ak_36 dg_37 uk_38 ud_39, aI K dk_29 20480 (fun _ => 0), aI K wt_30 32768 (fun _ => 0), aI K wh_31 64 (fun _ => 0), aI K nw_32 512 (fun _ => 0), aI K ki_33 608 (fun _ => 0), aI K ke_34 608 (fun _ => 0), aI K mn_35 608 (fun _ => 0), aI K ak_36 3648 (fun _ => 0), aL K dg_37 608 (fun _ => 0), aZ K uk_38 64 (fun _ => 0), aL K ud_39 64 (fun _ => 0), aL K a42 1 (fun _ => 0)]) (st' := [.int (iZ r_129)]) ([13, 14, 15, 16, 17, 18, 19, 20, 21, 22, 23, 24, 25, 26, 27, 28, 0, 1, 2, 3, 4, 5, 6, 7, 8, 9, 10, 11, 12] : List Nat) rfl rfl rfl ?_
      refine z_aload_n F 2 dL_law_173 rfl ?_
      refine z_aload_n F 4 dL_law_174 rfl ?_
      refine z_iload F 0 dL_law_175 rfl ?_
      refine z_iconst F dL_law_177 ?_
      refine z_iadd F dL_law_178 ?_
      refine z_sld F hX (by omega) (by omega) dL_law_179 ?_
      have r161 := hzx (1 + 1 : Int).toNat
      refine z_aload_n F 4 dL_law_180 rfl ?_
      refine z_iload F 0 dL_law_181 rfl ?_
      refine z_iconst F dL_law_183 ?_
      refine z_iadd F dL_law_184 ?_
      refine z_sld F hX (by omega) (by omega) dL_law_185 ?_
      have r162 := hzx (1 + 2 : Int).toNat
      refine z_i2l F dL_law_186 ?_
      refine z_bipush F dL_law_187 (by decide) ?_
      refine z_lshl F dL_law_189 ?_
      refine z_aload_n F 4 dL_law_190 rfl ?_
      refine z_iload F 0 dL_law_191 rfl ?_
      refine z_iconst F dL_law_193 ?_
      refine z_iadd F dL_law_194 ?_
      refine z_sld F hX (by omega) (by omega) dL_law_195 ?_
      have r163 := hzx (1 + 3 : Int).toNat
      refine z_i2l F dL_law_196 ?_
      refine z_ldc2 F t4_88 dL_law_197 ?_
      refine z_land F dL_law_200 ?_
      refine z_lor F dL_law_201 ?_
      refine z_callV F lw_good (k_X6_row _ D K a26 0 se_27 ea_28 dk_29 wt_30 wh_31 0 nw_32 0 1 1 0 0 0 0 0 0 0 0 ki_33 ke_34 mn_35 ak_36 dg_37 uk_38 ud_39 (fun _ => 0) (fun _ => 0) (fun _ => 0) (fun _ => 0) (fun _ => 0) (fun _ => 0) (fun _ => 0) (fun _ => 0) (fun _ => 0) (fun _ => 0) (fun _ => 0) (zx (1 + 1 : Int).toNat) ((((iZ (zx (1 + 2 : Int).toNat)).toInt64) <<< ((iZ 32).toInt64 &&& 63)) ||| (((iZ (zx (1 + 3 : Int).toNat)).toInt64) &&& 4294967295)) f41 (by omega) (rng_0 (by omega)) (rng_0 (by omega)) (rng_0 (by omega)) (rng_0 (by omega)) (rng_0 (by omega)) (rng_0 (by omega)) (rng_0 (by omega)) (rng_0 (by omega)) (by first | assumption | exact akOk_c0 (by assumption) | exact akOk_z | (exfalso; omega)) (by omega) (by omega) (by omega) (by omega) (by omega) (by omega) (by omega) (by omega) (rng_0 (by omega)) (by omega) (by omega) (by omega)) t3_239 t1_6 t3_236 t3_237 (q := (RX6, TX6, 26)) t3_238 ⟨rfl, rfl⟩ ndX6_row ⟨Nat.le_of_ble_eq_true rfl, Nat.le_of_ble_eq_true rfl⟩ 0 rfl rfl (rest := [.int (iZ r_129)]) rfl (Nat.le_of_ble_eq_true rfl) dL_law_202 ⟨(show 0 + 1 + 15 + 1 + 11 + 1 + 0 ≤ 600002 by omega), (show 0 + 14 + 57000 + 26 + 60032 + 1 + 0 ≤ 7302198 by omega)⟩ (wr := [oX5 a1 d_2 y_3 u_4 sa_21 0 0 0 0 1 0 0 (-1) 0 xc_5, oX0 d_2 sc_20 db_9 dq_10 dt_11 wc2_130, aB K db_9 nb_6 zb2_131, aB K dq_10 32768 zq2_132, aI K dt_11 64 zt2_133, oX3 y_3 yk_12 yn_13 yc_14 ya_15 yd_16 yl_17 lp2_134 re2_135 wp2_136 lw2_137, aI K yk_12 np_7 zk2_138, aI K yn_13 np_7 zn2_139, aI K yc_14 np_7 zc2_140, aI K ya_15 na_8 (fun _ => 0), aL K yd_16 np_7 fd2_141, aI K yl_17 64 zl2_142, oX4 u_4 um_18 ud_19, aZ K um_18 64 zm2_143, aL K ud_19 64 fu2_144, aI K xc_5 np_7 (fun _ => 0), aL K a42 1 (fun _ => 0)]) ([16, 17, 18, 19, 20, 21, 22, 23, 24, 25, 26, 27] : List Nat) ([0, 1, 2, 3, 4, 5, 6, 7, 8, 9, 10, 11, 12, 13, 14, 15, 28] : List Nat) rfl rfl rfl rfl (by decide) (fun vr wo hp => ?_)
      obtain ⟨r_164, en2_165, wc2_166, zd2_167, zw2_168, zh2_169, zn2_170, kz2_171, yz2_172, mz2_173, fg2_174, zv2_175, fv2_176, rfl, rfl, f177, f178, f179, f180, f181, f182, f183, f184, f185, f186, f187, f188, f189, f190, f191⟩ := hp
      refine z_re F (ws' := [oX5 a1 d_2 y_3 u_4 sa_21 0 0 0 0 1 0 0 (-1) 0 xc_5, oX0 d_2 sc_20 db_9 dq_10 dt_11 wc2_130, aB K db_9 nb_6 zb2_131, aB K dq_10 32768 zq2_132, aI K dt_11 64 zt2_133, oX3 y_3 yk_12 yn_13 yc_14 ya_15 yd_16 yl_17 lp2_134 re2_135 wp2_136 lw2_137, aI K yk_12 np_7 zk2_138, aI K yn_13 np_7 zn2_139, aI K yc_14 np_7 zc2_140, aI K ya_15 na_8 (fun _ => 0), aL K yd_16 np_7 fd2_141, aI K yl_17 64 zl2_142, oX4 u_4 um_18 ud_19, aZ K um_18 64 zm2_143, aL K ud_19 64 fu2_144, aI K xc_5 np_7 (fun _ => 0), oX6 a26 0 se_27 ea_28 dk_29 wt_30 wh_31 wc2_166 nw_32 0 1 1 0 0 en2_165 0 0 0 0 0 ki_33 ke_34 mn_35 ak_36 dg_37 uk_38 ud_39, aI K dk_29 20480 zd2_167, aI K wt_30 32768 zw2_168, aI K wh_31 64 zh2_169, aI K nw_32 512 zn2_170, aI K ki_33 608 kz2_171, aI K ke_34 608 yz2_172, aI K mn_35 608 mz2_173, aI K ak_36 3648 (fun _ => 0), aL K dg_37 608 fg2_174, aZ K uk_38 64 zv2_175, aL K ud_39 64 fv2_176, aL K a42 1 (fun _ => 0)]) (st' := [.int (iZ r_164), .int (iZ r_129)]) ([0, 1, 2, 3, 4, 5, 6, 7, 8, 9, 10, 11, 12, 13, 14, 15, 17, 18, 19, 20, 21, 22, 23, 24, 25, 26, 27, 28, 16] : List Nat) rfl rfl rfl ?_
      refine z_icmp_eq F 626 dL_law_205 (by decide) (by omega) (fun c192 => ?_) (fun c192 => ?_)
      · refine z_iinc F (lv' := [(4, .int (iZ (1 + 4))), (3, .ref a42), (2, .ref a26), (1, .ref a1), (0, .ref b)]) 0 dL_law_626 rfl (by decide) rfl ?_
        refine z_goto F 33 dL_law_629 (by decide) ?_
        refine z_iload F 0 dL_law_33 rfl ?_
        refine z_aload_n F 4 dL_law_35 rfl ?_
        refine z_slen F hX dL_law_36 ?_
        refine z_iconst F dL_law_37 ?_
        refine z_isub F dL_law_38 ?_
        refine z_icmp_gt F 632 dL_law_39 (by decide) (by omega) (fun c193 => ?_) (fun c193 => ?_)
        · refine z_iconst F dL_law_632 ?_
          exact hend _ _ _ _ (by omega) (by omega)
        · exfalso; omega
      · exfalso; omega
    by_cases c194 : (zx (1 : Int).toNat) % 16 = 2
    · rw [c194]; refine z_tableIn F 2 210 dL_law_49 (by decide) (by decide) (by decide) rfl (by decide) ?_
      refine z_aload_n F 3 dL_law_210 rfl ?_
      refine z_aload_n F 4 dL_law_211 rfl ?_
      refine z_iload F 0 dL_law_212 rfl ?_
      refine z_iconst F dL_law_214 ?_
      refine z_iadd F dL_law_215 ?_
      refine z_sld F hX (by omega) (by omega) dL_law_216 ?_
      have r195 := hzx (1 + 1 : Int).toNat
      refine z_aload_n F 4 dL_law_217 rfl ?_
      refine z_iload F 0 dL_law_218 rfl ?_
      refine z_iconst F dL_law_220 ?_
      refine z_iadd F dL_law_221 ?_
      refine z_sld F hX (by omega) (by omega) dL_law_222 ?_
      have r196 := hzx (1 + 2 : Int).toNat
      refine z_callV F lw_good (k_X5_asks _ D K a1 sa_21 0 0 0 0 1 0 0 (-1) 0 xc_5 u_4 d_2 sc_20 db_9 dq_10 dt_11 0 nb_6 (fun _ => 0) (fun _ => 0) (fun _ => 0) y_3 yk_12 yn_13 yc_14 ya_15 yd_16 yl_17 0 0 0 0 np_7 na_8 (fun _ => 0) (fun _ => 0) (fun _ => 0) (fun _ => 0) (fun _ => 0) (fun _ => 0) um_18 ud_19 (fun _ => 0) (fun _ => 0) (fun _ => 0) (zx (1 + 1 : Int).toNat) (zx (1 + 2 : Int).toNat) f23 f24 (by omega) (rng_0 (by omega)) (rng_0 (by omega)) (rng_0 (by omega)) (by omega) (by omega) (rng_0 (by omega)) (rng_0 (by omega)) (by first | assumption | exact nmOk_zu2 (by assumption) (by omega) | exact nmOk_0 (by assumption) | exact nmOk_z | (exfalso; omega)) (rng_0 (by omega)) (rng_0 (by omega)) (by first | assumption | exact akOk_c0 (by assumption) | exact akOk_z | (exfalso; omega)) (rng_0 (by omega)) (by omega) (by omega) (rng_0 (by omega)) (by omega) (by omega) (by omega) (by omega) (by omega) (rng_0 (by omega)) (by omega) (by omega)) t2_91 t1_1 t2_88 t2_89 (q := (RX5, TX5, 14)) t2_90 ⟨rfl, rfl⟩ ndX5_asks ⟨Nat.le_of_ble_eq_true rfl, Nat.le_of_ble_eq_true rfl⟩ 0 rfl rfl (rest := []) rfl (Nat.le_of_ble_eq_true rfl) dL_law_223 ⟨(show 0 + 1 + 15 + 1 + 11 + 1 + 0 ≤ 600002 by omega), (show 0 + 14 + 57000 + 26 + 60032 + 1 + 0 ≤ 7302198 by omega)⟩ (wr := [oX6 a26 0 se_27 ea_28 dk_29 wt_30 wh_31 0 nw_32 0 1 1 0 0 0 0 0 0 0 0 ki_33 ke_34 mn_35 ak_36 dg_37 uk_38 ud_39, aI K dk_29 20480 (fun _ => 0), aI K wt_30 32768 (fun _ => 0), aI K wh_31 64 (fun _ => 0), aI K nw_32 512 (fun _ => 0), aI K ki_33 608 (fun _ => 0), aI K ke_34 608 (fun _ => 0), aI K mn_35 608 (fun _ => 0), aI K ak_36 3648 (fun _ => 0), aL K dg_37 608 (fun _ => 0), aZ K uk_38 64 (fun _ => 0), aL K ud_39 64 (fun _ => 0), aL K a42 1 (fun _ => 0)]) ([0, 1, 2, 3, 4, 5, 6, 7, 8, 9, 10, 11, 12, 13, 14, 15] : List Nat) ([16, 17, 18, 19, 20, 21, 22, 23, 24, 25, 26, 27, 28] : List Nat) rfl rfl rfl rfl (by decide) (fun vr wo hp => ?_)
      obtain ⟨r_197, wc2_198, zb2_199, zq2_200, zt2_201, zc2_202, za2_203, rfl, rfl, f204, f205, f206, f207, f208, f209, f210, f211, f212⟩ := hp
      refine z_re F (ws' := [oX5 a1 d_2 y_3 u_4 sa_21 0 0 0 0 1 0 0 (-1) 0 xc_5, oX0 d_2 sc_20 db_9 dq_10 dt_11 wc2_198, aB K db_9 nb_6 zb2_199, aB K dq_10 32768 zq2_200, aI K dt_11 64 zt2_201, oX3 y_3 yk_12 yn_13 yc_14 ya_15 yd_16 yl_17 0 0 0 0, aI K yk_12 np_7 (fun _ => 0), aI K yn_13 np_7 (fun _ => 0), aI K yc_14 np_7 zc2_202, aI K ya_15 na_8 za2_203, aL K yd_16 np_7 (fun _ => 0), aI K yl_17 64 (fun _ => 0), oX4 u_4 um_18 ud_19, aZ K um_18 64 (fun _ => 0), aL K ud_19 64 (fun _ => 0), aI K xc_5 np_7 (fun _ => 0), oX6 a26 0 se_27 ea_28 dk_29 wt_30 wh_31 0 nw_32 0 1 1 0 0 0 0 0 0 0 0 ki_33 ke_34 mn_35 ak_36 dg_37 uk_38 ud_39, aI K dk_29 20480 (fun _ => 0), aI K wt_30 32768 (fun _ => 0), aI K wh_31 64 (fun _ => 0), aI K nw_32 512 (fun _ => 0), aI K ki_33 608 (fun _ => 0), aI K ke_34 608 (fun _ => 0), aI K mn_35 608 (fun _ => 0), aI K ak_36 3648 (fun _ => 0), aL K dg_37 608 (fun _ => 0), aZ K uk_38 64 (fun _ => 0), aL K ud_39 64 (fun _ => 0), aL K a42 1 (fun _ => 0)]) (st' := [.int (iZ r_197)]) ([13, 14, 15, 16, 17, 18, 19, 20, 21, 22, 23, 24, 25, 26, 27, 28, 0, 1, 2, 3, 4, 5, 6, 7, 8, 9, 10, 11, 12] : List Nat) rfl rfl rfl ?_
      refine z_aload_n F 2 dL_law_226 rfl ?_
      refine z_aload_n F 4 dL_law_227 rfl ?_
      refine z_iload F 0 dL_law_228 rfl ?_
      refine z_iconst F dL_law_230 ?_
      refine z_iadd F dL_law_231 ?_
      refine z_sld F hX (by omega) (by omega) dL_law_232 ?_
      have r213 := hzx (1 + 1 : Int).toNat
      refine z_aload_n F 4 dL_law_233 rfl ?_
      refine z_iload F 0 dL_law_234 rfl ?_
      refine z_iconst F dL_law_236 ?_
      refine z_iadd F dL_law_237 ?_
      refine z_sld F hX (by omega) (by omega) dL_law_238 ?_
      have r214 := hzx (1 + 2 : Int).toNat
      refine z_callV F lw_good (k_X6_asks _ D K a26 0 se_27 ea_28 dk_29 wt_30 wh_31 0 nw_32 0 1 1 0 0 0 0 0 0 0 0 ki_33 ke_34 mn_35 ak_36 dg_37 uk_38 ud_39 (fun _ => 0) (fun _ => 0) (fun _ => 0) (fun _ => 0) (fun _ => 0) (fun _ => 0) (fun _ => 0) (fun _ => 0) (fun _ => 0) (fun _ => 0) (fun _ => 0) (zx (1 + 1 : Int).toNat) (zx (1 + 2 : Int).toNat) f41 (by omega) (rng_0 (by omega)) (rng_0 (by omega)) (rng_0 (by omega)) (rng_0 (by omega)) (rng_0 (by omega)) (rng_0 (by omega)) (rng_0 (by omega)) (rng_0 (by omega)) (by first | assumption | exact akOk_c0 (by assumption) | exact akOk_z | (exfalso; omega)) (by omega) (by omega) (by omega) (by omega) (by omega) (by omega) (by omega) (by omega) (rng_0 (by omega)) (by omega) (by omega) (by omega) (by omega)) t4_11 t1_6 t4_8 t4_9 (q := (RX6, TX6, 26)) t4_10 ⟨rfl, rfl⟩ ndX6_asks ⟨Nat.le_of_ble_eq_true rfl, Nat.le_of_ble_eq_true rfl⟩ 0 rfl rfl (rest := [.int (iZ r_197)]) rfl (Nat.le_of_ble_eq_true rfl) dL_law_239 ⟨(show 0 + 1 + 15 + 1 + 11 + 1 + 0 ≤ 600002 by omega), (show 0 + 14 + 57000 + 26 + 60032 + 1 + 0 ≤ 7302198 by omega)⟩ (wr := [oX5 a1 d_2 y_3 u_4 sa_21 0 0 0 0 1 0 0 (-1) 0 xc_5, oX0 d_2 sc_20 db_9 dq_10 dt_11 wc2_198, aB K db_9 nb_6 zb2_199, aB K dq_10 32768 zq2_200, aI K dt_11 64 zt2_201, oX3 y_3 yk_12 yn_13 yc_14 ya_15 yd_16 yl_17 0 0 0 0, aI K yk_12 np_7 (fun _ => 0), aI K yn_13 np_7 (fun _ => 0), aI K yc_14 np_7 zc2_202, aI K ya_15 na_8 za2_203, aL K yd_16 np_7 (fun _ => 0), aI K yl_17 64 (fun _ => 0), oX4 u_4 um_18 ud_19, aZ K um_18 64 (fun _ => 0), aL K ud_19 64 (fun _ => 0), aI K xc_5 np_7 (fun _ => 0), aL K a42 1 (fun _ => 0)]) ([16, 17, 18, 19, 20, 21, 22, 23, 24, 25, 26, 27] : List Nat) ([0, 1, 2, 3, 4, 5, 6, 7, 8, 9, 10, 11, 12, 13, 14, 15, 28] : List Nat) rfl rfl rfl rfl (by decide) (fun vr wo hp => ?_)
      obtain ⟨r_215, wc2_216, zd2_217, zw2_218, zh2_219, zn2_220, mz2_221, az2_222, rfl, rfl, f223, f224, f225, f226, f227, f228, f229, f230, f231, f232, f233⟩ := hp
      refine z_re F (ws' := [oX5 a1 d_2 y_3 u_4 sa_21 0 0 0 0 1 0 0 (-1) 0 xc_5, oX0 d_2 sc_20 db_9 dq_10 dt_11 wc2_198, aB K db_9 nb_6 zb2_199, aB K dq_10 32768 zq2_200, aI K dt_11 64 zt2_201, oX3 y_3 yk_12 yn_13 yc_14 ya_15 yd_16 yl_17 0 0 0 0, aI K yk_12 np_7 (fun _ => 0), aI K yn_13 np_7 (fun _ => 0), aI K yc_14 np_7 zc2_202, aI K ya_15 na_8 za2_203, aL K yd_16 np_7 (fun _ => 0), aI K yl_17 64 (fun _ => 0), oX4 u_4 um_18 ud_19, aZ K um_18 64 (fun _ => 0), aL K ud_19 64 (fun _ => 0), aI K xc_5 np_7 (fun _ => 0), oX6 a26 0 se_27 ea_28 dk_29 wt_30 wh_31 wc2_216 nw_32 0 1 1 0 0 0 0 0 0 0 0 ki_33 ke_34 mn_35 ak_36 dg_37 uk_38 ud_39, aI K dk_29 20480 zd2_217, aI K wt_30 32768 zw2_218, aI K wh_31 64 zh2_219, aI K nw_32 512 zn2_220, aI K ki_33 608 (fun _ => 0), aI K ke_34 608 (fun _ => 0), aI K mn_35 608 mz2_221, aI K ak_36 3648 az2_222, aL K dg_37 608 (fun _ => 0), aZ K uk_38 64 (fun _ => 0), aL K ud_39 64 (fun _ => 0), aL K a42 1 (fun _ => 0)]) (st' := [.int (iZ r_215), .int (iZ r_197)]) ([0, 1, 2, 3, 4, 5, 6, 7, 8, 9, 10, 11, 12, 13, 14, 15, 17, 18, 19, 20, 21, 22, 23, 24, 25, 26, 27, 28, 16] : List Nat) rfl rfl rfl ?_
      refine z_icmp_eq F 626 dL_law_242 (by decide) (by omega) (fun c234 => ?_) (fun c234 => ?_)
      · refine z_iinc F (lv' := [(4, .int (iZ (1 + 4))), (3, .ref a42), (2, .ref a26), (1, .ref a1), (0, .ref b)]) 0 dL_law_626 rfl (by decide) rfl ?_
        refine z_goto F 33 dL_law_629 (by decide) ?_
        refine z_iload F 0 dL_law_33 rfl ?_
        refine z_aload_n F 4 dL_law_35 rfl ?_
        refine z_slen F hX dL_law_36 ?_
        refine z_iconst F dL_law_37 ?_
        refine z_isub F dL_law_38 ?_
        refine z_icmp_gt F 632 dL_law_39 (by decide) (by omega) (fun c235 => ?_) (fun c235 => ?_)
        · refine z_iconst F dL_law_632 ?_
          exact hend _ _ _ _ (by omega) (by omega)
        · exfalso; omega
      · exfalso; omega
    by_cases c236 : (zx (1 : Int).toNat) % 16 = 3
    · rw [c236]; refine z_tableIn F 3 247 dL_law_49 (by decide) (by decide) (by decide) rfl (by decide) ?_
      refine z_aload_n F 3 dL_law_247 rfl ?_
      refine z_callV F lw_good (k_X5_sync _ D K a1 sa_21 0 0 0 0 1 0 0 (-1) 0 xc_5 u_4 d_2 sc_20 db_9 dq_10 dt_11 0 nb_6 (fun _ => 0) (fun _ => 0) (fun _ => 0) y_3 yk_12 yn_13 yc_14 ya_15 yd_16 yl_17 0 0 0 0 np_7 na_8 (fun _ => 0) (fun _ => 0) (fun _ => 0) (fun _ => 0) (fun _ => 0) (fun _ => 0) um_18 ud_19 (fun _ => 0) (fun _ => 0) (fun _ => 0) f23 f24 (by omega) (rng_0 (by omega)) (rng_0 (by omega)) (rng_0 (by omega)) (by omega) (by omega) (rng_0 (by omega)) (rng_0 (by omega)) (by first | assumption | exact nmOk_zu2 (by assumption) (by omega) | exact nmOk_0 (by assumption) | exact nmOk_z | (exfalso; omega)) (rng_0 (by omega)) (rng_0 (by omega)) (by first | assumption | exact akOk_c0 (by assumption) | exact akOk_z | (exfalso; omega)) (rng_0 (by omega)) (by omega) (by omega) (rng_0 (by omega)) (by omega) (by omega) (by omega) (by omega) (by omega) (rng_0 (by omega))) t2_107 t1_1 t2_104 t2_105 (q := (RX5, TX5, 14)) t2_106 ⟨rfl, rfl⟩ ndX5_sync ⟨Nat.le_of_ble_eq_true rfl, Nat.le_of_ble_eq_true rfl⟩ 0 rfl rfl (rest := []) rfl (Nat.le_of_ble_eq_true rfl) dL_law_248 ⟨(show 0 + 1 + 15 + 1 + 11 + 1 + 0 ≤ 600002 by omega), (show 0 + 14 + 57000 + 26 + 60032 + 1 + 0 ≤ 7302198 by omega)⟩ (wr := [oX6 a26 0 se_27 ea_28 dk_29 wt_30 wh_31 0 nw_32 0 1 1 0 0 0 0 0 0 0 0 ki_33 ke_34 mn_35 ak_36 dg_37 uk_38 ud_39, aI K dk_29 20480 (fun _ => 0), aI K wt_30 32768 (fun _ => 0), aI K wh_31 64 (fun _ => 0), aI K nw_32 512 (fun _ => 0), aI K ki_33 608 (fun _ => 0), aI K ke_34 608 (fun _ => 0), aI K mn_35 608 (fun _ => 0), aI K ak_36 3648 (fun _ => 0), aL K dg_37 608 (fun _ => 0), aZ K uk_38 64 (fun _ => 0), aL K ud_39 64 (fun _ => 0), aL K a42 1 (fun _ => 0)]) ([0, 1, 2, 3, 4, 5, 6, 7, 8, 9, 10, 11, 12, 13, 14, 15] : List Nat) ([16, 17, 18, 19, 20, 21, 22, 23, 24, 25, 26, 27, 28] : List Nat) rfl rfl rfl rfl (by decide) (fun vr wo hp => ?_)
      obtain ⟨r_237, fe2_238, wc2_239, zb2_240, rfl, rfl, f241, f242, f243, f244, f245⟩ := hp
      refine z_re F (ws' := [oX5 a1 d_2 y_3 u_4 sa_21 0 0 0 0 1 0 fe2_238 (-1) 0 xc_5, oX0 d_2 sc_20 db_9 dq_10 dt_11 wc2_239, aB K db_9 nb_6 zb2_240, aB K dq_10 32768 (fun _ => 0), aI K dt_11 64 (fun _ => 0), oX3 y_3 yk_12 yn_13 yc_14 ya_15 yd_16 yl_17 0 0 0 0, aI K yk_12 np_7 (fun _ => 0), aI K yn_13 np_7 (fun _ => 0), aI K yc_14 np_7 (fun _ => 0), aI K ya_15 na_8 (fun _ => 0), aL K yd_16 np_7 (fun _ => 0), aI K yl_17 64 (fun _ => 0), oX4 u_4 um_18 ud_19, aZ K um_18 64 (fun _ => 0), aL K ud_19 64 (fun _ => 0), aI K xc_5 np_7 (fun _ => 0), oX6 a26 0 se_27 ea_28 dk_29 wt_30 wh_31 0 nw_32 0 1 1 0 0 0 0 0 0 0 0 ki_33 ke_34 mn_35 ak_36 dg_37 uk_38 ud_39, aI K dk_29 20480 (fun _ => 0), aI K wt_30 32768 (fun _ => 0), aI K wh_31 64 (fun _ => 0), aI K nw_32 512 (fun _ => 0), aI K ki_33 608 (fun _ => 0), aI K ke_34 608 (fun _ => 0), aI K mn_35 608 (fun _ => 0), aI K ak_36 3648 (fun _ => 0), aL K dg_37 608 (fun _ => 0), aZ K uk_38 64 (fun _ => 0), aL K ud_39 64 (fun _ => 0), aL K a42 1 (fun _ => 0)]) (st' := [.int (iZ r_237)]) ([13, 14, 15, 16, 17, 18, 19, 20, 21, 22, 23, 24, 25, 26, 27, 28, 0, 1, 2, 3, 4, 5, 6, 7, 8, 9, 10, 11, 12] : List Nat) rfl rfl rfl ?_
      refine z_aload_n F 2 dL_law_251 rfl ?_
      refine z_callV F lw_good (k_X6_sync _ D K a26 0 se_27 ea_28 dk_29 wt_30 wh_31 0 nw_32 0 1 1 0 0 0 0 0 0 0 0 ki_33 ke_34 mn_35 ak_36 dg_37 uk_38 ud_39 (fun _ => 0) (fun _ => 0) (fun _ => 0) (fun _ => 0) (fun _ => 0) (fun _ => 0) (fun _ => 0) (fun _ => 0) (fun _ => 0) (fun _ => 0) (fun _ => 0) f41 (by omega) (rng_0 (by omega)) (rng_0 (by omega)) (rng_0 (by omega)) (rng_0 (by omega)) (rng_0 (by omega)) (rng_0 (by omega)) (rng_0 (by omega)) (rng_0 (by omega)) (by first | assumption | exact akOk_c0 (by assumption) | exact akOk_z | (exfalso; omega)) (by omega) (by omega) (by omega) (by omega) (by omega) (by omega) (by omega) (by omega) (rng_0 (by omega)) (by omega) (by omega)) t4_15 t1_6 t4_12 t4_13 (q := (RX6, TX6, 26)) t4_14 ⟨rfl, rfl⟩ ndX6_sync ⟨Nat.le_of_ble_eq_true rfl, Nat.le_of_ble_eq_true rfl⟩ 0 rfl rfl (rest := [.int (iZ r_237)]) rfl (Nat.le_of_ble_eq_true rfl) dL_law_252 ⟨(show 0 + 1 + 15 + 1 + 11 + 1 + 0 ≤ 600002 by omega), (show 0 + 14 + 57000 + 26 + 60032 + 1 + 0 ≤ 7302198 by omega)⟩ (wr := [oX5 a1 d_2 y_3 u_4 sa_21 0 0 0 0 1 0 fe2_238 (-1) 0 xc_5, oX0 d_2 sc_20 db_9 dq_10 dt_11 wc2_239, aB K db_9 nb_6 zb2_240, aB K dq_10 32768 (fun _ => 0), aI K dt_11 64 (fun _ => 0), oX3 y_3 yk_12 yn_13 yc_14 ya_15 yd_16 yl_17 0 0 0 0, aI K yk_12 np_7 (fun _ => 0), aI K yn_13 np_7 (fun _ => 0), aI K yc_14 np_7 (fun _ => 0), aI K ya_15 na_8 (fun _ => 0), aL K yd_16 np_7 (fun _ => 0), aI K yl_17 64 (fun _ => 0), oX4 u_4 um_18 ud_19, aZ K um_18 64 (fun _ => 0), aL K ud_19 64 (fun _ => 0), aI K xc_5 np_7 (fun _ => 0), aL K a42 1 (fun _ => 0)]) ([16, 17, 18, 19, 20, 21, 22, 23, 24, 25, 26, 27] : List Nat) ([0, 1, 2, 3, 4, 5, 6, 7, 8, 9, 10, 11, 12, 13, 14, 15, 28] : List Nat) rfl rfl rfl rfl (by decide) (fun vr wo hp => ?_)
      obtain ⟨r_246, wc2_247, zd2_248, sd2_249, rfl, rfl, f250, f251, f252, f253, f254, f255⟩ := hp
      refine z_re F (ws' := [oX5 a1 d_2 y_3 u_4 sa_21 0 0 0 0 1 0 fe2_238 (-1) 0 xc_5, oX0 d_2 sc_20 db_9 dq_10 dt_11 wc2_239, aB K db_9 nb_6 zb2_240, aB K dq_10 32768 (fun _ => 0), aI K dt_11 64 (fun _ => 0), oX3 y_3 yk_12 yn_13 yc_14 ya_15 yd_16 yl_17 0 0 0 0, aI K yk_12 np_7 (fun _ => 0), aI K yn_13 np_7 (fun _ => 0), aI K yc_14 np_7 (fun _ => 0), aI K ya_15 na_8 (fun _ => 0), aL K yd_16 np_7 (fun _ => 0), aI K yl_17 64 (fun _ => 0), oX4 u_4 um_18 ud_19, aZ K um_18 64 (fun _ => 0), aL K ud_19 64 (fun _ => 0), aI K xc_5 np_7 (fun _ => 0), oX6 a26 0 se_27 ea_28 dk_29 wt_30 wh_31 wc2_247 nw_32 0 1 1 0 0 0 sd2_249 0 0 0 0 ki_33 ke_34 mn_35 ak_36 dg_37 uk_38 ud_39, aI K dk_29 20480 zd2_248, aI K wt_30 32768 (fun _ => 0), aI K wh_31 64 (fun _ => 0), aI K nw_32 512 (fun _ => 0), aI K ki_33 608 (fun _ => 0), aI K ke_34 608 (fun _ => 0), aI K mn_35 608 (fun _ => 0), aI K ak_36 3648 (fun _ => 0), aL K dg_37 608 (fun _ => 0), aZ K uk_38 64 (fun _ => 0), aL K ud_39 64 (fun _ => 0), aL K a42 1 (fun _ => 0)]) (st' := [.int (iZ r_246), .int (iZ r_237)]) ([0, 1, 2, 3, 4, 5, 6, 7, 8, 9, 10, 11, 12, 13, 14, 15, 17, 18, 19, 20, 21, 22, 23, 24, 25, 26, 27, 28, 16] : List Nat) rfl rfl rfl ?_
      refine z_icmp_eq F 626 dL_law_255 (by decide) (by omega) (fun c256 => ?_) (fun c256 => ?_)
      · refine z_iinc F (lv' := [(4, .int (iZ (1 + 4))), (3, .ref a42), (2, .ref a26), (1, .ref a1), (0, .ref b)]) 0 dL_law_626 rfl (by decide) rfl ?_
        refine z_goto F 33 dL_law_629 (by decide) ?_
        refine z_iload F 0 dL_law_33 rfl ?_
        refine z_aload_n F 4 dL_law_35 rfl ?_
        refine z_slen F hX dL_law_36 ?_
        refine z_iconst F dL_law_37 ?_
        refine z_isub F dL_law_38 ?_
        refine z_icmp_gt F 632 dL_law_39 (by decide) (by omega) (fun c257 => ?_) (fun c257 => ?_)
        · refine z_iconst F dL_law_632 ?_
          exact hend _ _ _ _ (by omega) (by omega)
        · exfalso; omega
      · exfalso; omega
    by_cases c258 : (zx (1 : Int).toNat) % 16 = 4
    · rw [c258]; refine z_tableIn F 4 260 dL_law_49 (by decide) (by decide) (by decide) rfl (by decide) ?_
      refine z_aload_n F 3 dL_law_260 rfl ?_
      refine z_aload_n F 4 dL_law_261 rfl ?_
      refine z_iload F 0 dL_law_262 rfl ?_
      refine z_iconst F dL_law_264 ?_
      refine z_iadd F dL_law_265 ?_
      refine z_sld F hX (by omega) (by omega) dL_law_266 ?_
      have r259 := hzx (1 + 1 : Int).toNat
      refine z_callV F lw_good (k_X5_compact _ D K a1 sa_21 0 0 0 0 1 0 0 (-1) 0 xc_5 u_4 d_2 sc_20 db_9 dq_10 dt_11 0 nb_6 (fun _ => 0) (fun _ => 0) (fun _ => 0) y_3 yk_12 yn_13 yc_14 ya_15 yd_16 yl_17 0 0 0 0 np_7 na_8 (fun _ => 0) (fun _ => 0) (fun _ => 0) (fun _ => 0) (fun _ => 0) (fun _ => 0) um_18 ud_19 (fun _ => 0) (fun _ => 0) (fun _ => 0) (zx (1 + 1 : Int).toNat) f23 f24 (by omega) (rng_0 (by omega)) (rng_0 (by omega)) (rng_0 (by omega)) (by omega) (by omega) (rng_0 (by omega)) (rng_0 (by omega)) (by first | assumption | exact nmOk_zu2 (by assumption) (by omega) | exact nmOk_0 (by assumption) | exact nmOk_z | (exfalso; omega)) (rng_0 (by omega)) (rng_0 (by omega)) (by first | assumption | exact akOk_c0 (by assumption) | exact akOk_z | (exfalso; omega)) (rng_0 (by omega)) (by omega) (by omega) (rng_0 (by omega)) (by omega) (by omega) (by omega) (by omega) (by omega) (rng_0 (by omega)) (by omega)) t2_112 t1_1 t2_109 t2_110 (q := (RX5, TX5, 14)) t2_111 ⟨rfl, rfl⟩ ndX5_compact ⟨Nat.le_of_ble_eq_true rfl, Nat.le_of_ble_eq_true rfl⟩ 0 rfl rfl (rest := []) rfl (Nat.le_of_ble_eq_true rfl) dL_law_267 ⟨(show 0 + 1 + 15 + 1 + 11 + 1 + 0 ≤ 600002 by omega), (show 0 + 14 + 57000 + 26 + 60032 + 1 + 0 ≤ 7302198 by omega)⟩ (wr := [oX6 a26 0 se_27 ea_28 dk_29 wt_30 wh_31 0 nw_32 0 1 1 0 0 0 0 0 0 0 0 ki_33 ke_34 mn_35 ak_36 dg_37 uk_38 ud_39, aI K dk_29 20480 (fun _ => 0), aI K wt_30 32768 (fun _ => 0), aI K wh_31 64 (fun _ => 0), aI K nw_32 512 (fun _ => 0), aI K ki_33 608 (fun _ => 0), aI K ke_34 608 (fun _ => 0), aI K mn_35 608 (fun _ => 0), aI K ak_36 3648 (fun _ => 0), aL K dg_37 608 (fun _ => 0), aZ K uk_38 64 (fun _ => 0), aL K ud_39 64 (fun _ => 0), aL K a42 1 (fun _ => 0)]) ([0, 1, 2, 3, 4, 5, 6, 7, 8, 9, 10, 11, 12, 13, 14, 15] : List Nat) ([16, 17, 18, 19, 20, 21, 22, 23, 24, 25, 26, 27, 28] : List Nat) rfl rfl rfl rfl (by decide) (fun vr wo hp => ?_)
      obtain ⟨r_260, ar2_261, sq2_262, fe2_263, tk2_264, cp2_265, wc2_266, zb2_267, zq2_268, zt2_269, lp2_270, re2_271, wp2_272, lw2_273, zk2_274, zn2_275, zc2_276, za2_277, fd2_278, zl2_279, zx2_280, rfl, rfl, f281, f282, f283, f284, f285, f286, f287, f288, f289, f290, f291, f292, f293, f294, f295, f296, f297, f298, f299, f300⟩ := hp
      refine z_re F (ws' := [oX5 a1 d_2 y_3 u_4 sa_21 0 ar2_261 sq2_262 0 1 0 fe2_263 tk2_264 cp2_265 xc_5, oX0 d_2 sc_20 db_9 dq_10 dt_11 wc2_266, aB K db_9 nb_6 zb2_267, aB K dq_10 32768 zq2_268, aI K dt_11 64 zt2_269, oX3 y_3 yk_12 yn_13 yc_14 ya_15 yd_16 yl_17 lp2_270 re2_271 wp2_272 lw2_273, aI K yk_12 np_7 zk2_274, aI K yn_13 np_7 zn2_275, aI K yc_14 np_7 zc2_276, aI K ya_15 na_8 za2_277, aL K yd_16 np_7 fd2_278, aI K yl_17 64 zl2_279, oX4 u_4 um_18 ud_19, aZ K um_18 64 (fun _ => 0), aL K ud_19 64 (fun _ => 0), aI K xc_5 np_7 zx2_280, oX6 a26 0 se_27 ea_28 dk_29 wt_30 wh_31 0 nw_32 0 1 1 0 0 0 0 0 0 0 0 ki_33 ke_34 mn_35 ak_36 dg_37 uk_38 ud_39, aI K dk_29 20480 (fun _ => 0), aI K wt_30 32768 (fun _ => 0), aI K wh_31 64 (fun _ => 0), aI K nw_32 512 (fun _ => 0), aI K ki_33 608 (fun _ => 0), aI K ke_34 608 (fun _ => 0), aI K mn_35 608 (fun _ => 0), aI K ak_36 3648 (fun _ => 0), aL K dg_37 608 (fun _ => 0), aZ K uk_38 64 (fun _ => 0), aL K ud_39 64 (fun _ => 0), aL K a42 1 (fun _ => 0)]) (st' := [.int (iZ r_260)]) ([13, 14, 15, 16, 17, 18, 19, 20, 21, 22, 23, 24, 25, 26, 27, 28, 0, 1, 2, 3, 4, 5, 6, 7, 8, 9, 10, 11, 12] : List Nat) rfl rfl rfl ?_
      refine z_aload_n F 2 dL_law_270 rfl ?_
      refine z_aload_n F 4 dL_law_271 rfl ?_
      refine z_iload F 0 dL_law_272 rfl ?_
      refine z_iconst F dL_law_274 ?_
      refine z_iadd F dL_law_275 ?_
      refine z_sld F hX (by omega) (by omega) dL_law_276 ?_
      have r301 := hzx (1 + 1 : Int).toNat
      refine z_callV F lw_good (k_X6_compact _ D K a26 0 se_27 ea_28 dk_29 wt_30 wh_31 0 nw_32 0 1 1 0 0 0 0 0 0 0 0 ki_33 ke_34 mn_35 ak_36 dg_37 uk_38 ud_39 (fun _ => 0) (fun _ => 0) (fun _ => 0) (fun _ => 0) (fun _ => 0) (fun _ => 0) (fun _ => 0) (fun _ => 0) (fun _ => 0) (fun _ => 0) (fun _ => 0) (zx (1 + 1 : Int).toNat) f41 (by omega) (rng_0 (by omega)) (rng_0 (by omega)) (rng_0 (by omega)) (rng_0 (by omega)) (rng_0 (by omega)) (rng_0 (by omega)) (rng_0 (by omega)) (rng_0 (by omega)) (by first | assumption | exact akOk_c0 (by assumption) | exact akOk_z | (exfalso; omega)) (by omega) (by omega) (by omega) (by omega) (by omega) (by omega) (by omega) (by omega) (rng_0 (by omega)) (by omega) (by omega) (by omega)) t4_19 t1_6 t4_16 t4_17 (q := (RX6, TX6, 26)) t4_18 ⟨rfl, rfl⟩ ndX6_compact ⟨Nat.le_of_ble_eq_true rfl, Nat.le_of_ble_eq_true rfl⟩ 0 rfl rfl (rest := [.int (iZ r_260)]) rfl (Nat.le_of_ble_eq_true rfl) dL_law_277 ⟨(show 0 + 1 + 15 + 1 + 11 + 1 + 0 ≤ 600002 by omega), (show 0 + 14 + 57000 + 26 + 60032 + 1 + 0 ≤ 7302198 by omega)⟩ (wr := [oX5 a1 d_2 y_3 u_4 sa_21 0 ar2_261 sq2_262 0 1 0 fe2_263 tk2_264 cp2_265 xc_5, oX0 d_2 sc_20 db_9 dq_10 dt_11 wc2_266, aB K db_9 nb_6 zb2_267, aB K dq_10 32768 zq2_268, aI K dt_11 64 zt2_269, oX3 y_3 yk_12 yn_13 yc_14 ya_15 yd_16 yl_17 lp2_270 re2_271 wp2_272 lw2_273, aI K yk_12 np_7 zk2_274, aI K yn_13 np_7 zn2_275, aI K yc_14 np_7 zc2_276, aI K ya_15 na_8 za2_277, aL K yd_16 np_7 fd2_278, aI K yl_17 64 zl2_279, oX4 u_4 um_18 ud_19, aZ K um_18 64 (fun _ => 0), aL K ud_19 64 (fun _ => 0), aI K xc_5 np_7 zx2_280, aL K a42 1 (fun _ => 0)]) ([16, 17, 18, 19, 20, 21, 22, 23, 24, 25, 26, 27] : List Nat) ([0, 1, 2, 3, 4, 5, 6, 7, 8, 9, 10, 11, 12, 13, 14, 15, 28] : List Nat) rfl rfl rfl rfl (by decide) (fun vr wo hp => ?_)
      obtain ⟨r_302, sq2_303, ar2_304, en2_305, sd2_306, tk2_307, cp2_308, co2_309, wc2_310, zd2_311, zw2_312, zh2_313, zn2_314, kz2_315, yz2_316, mz2_317, az2_318, fg2_319, rfl, rfl, f320, f321, f322, f323, f324, f325, f326, f327, f328, f329, f330, f331, f332, f333, f334, f335, f336, f337⟩ := hp
      refine z_re F (ws' := [oX5 a1 d_2 y_3 u_4 sa_21 0 ar2_261 sq2_262 0 1 0 fe2_263 tk2_264 cp2_265 xc_5, oX0 d_2 sc_20 db_9 dq_10 dt_11 wc2_266, aB K db_9 nb_6 zb2_267, aB K dq_10 32768 zq2_268, aI K dt_11 64 zt2_269, oX3 y_3 yk_12 yn_13 yc_14 ya_15 yd_16 yl_17 lp2_270 re2_271 wp2_272 lw2_273, aI K yk_12 np_7 zk2_274, aI K yn_13 np_7 zn2_275, aI K yc_14 np_7 zc2_276, aI K ya_15 na_8 za2_277, aL K yd_16 np_7 fd2_278, aI K yl_17 64 zl2_279, oX4 u_4 um_18 ud_19, aZ K um_18 64 (fun _ => 0), aL K ud_19 64 (fun _ => 0), aI K xc_5 np_7 zx2_280, oX6 a26 0 se_27 ea_28 dk_29 wt_30 wh_31 wc2_310 nw_32 0 1 1 sq2_303 ar2_304 en2_305 sd2_306 0 tk2_307 cp2_308 co2_309 ki_33 ke_34 mn_35 ak_36 dg_37 uk_38 ud_39, aI K dk_29 20480 zd2_311, aI K wt_30 32768 zw2_312, aI K wh_31 64 zh2_313, aI K nw_32 512 zn2_314, aI K ki_33 608 kz2_315, aI K ke_34 608 yz2_316, aI K mn_35 608 mz2_317, aI K ak_36 3648 az2_318, aL K dg_37 608 fg2_319, aZ K uk_38 64 (fun _ => 0), aL K ud_39 64 (fun _ => 0), aL K a42 1 (fun _ => 0)]) (st' := [.int (iZ r_302), .int (iZ r_260)]) ([0, 1, 2, 3, 4, 5, 6, 7, 8, 9, 10, 11, 12, 13, 14, 15, 17, 18, 19, 20, 21, 22, 23, 24, 25, 26, 27, 28, 16] : List Nat) rfl rfl rfl ?_
      refine z_icmp_eq F 626 dL_law_280 (by decide) (by omega) (fun c338 => ?_) (fun c338 => ?_)
      · refine z_iinc F (lv' := [(4, .int (iZ (1 + 4))), (3, .ref a42), (2, .ref a26), (1, .ref a1), (0, .ref b)]) 0 dL_law_626 rfl (by decide) rfl ?_
        refine z_goto F 33 dL_law_629 (by decide) ?_
        refine z_iload F 0 dL_law_33 rfl ?_
        refine z_aload_n F 4 dL_law_35 rfl ?_
        refine z_slen F hX dL_law_36 ?_
        refine z_iconst F dL_law_37 ?_
        refine z_isub F dL_law_38 ?_
        refine z_icmp_gt F 632 dL_law_39 (by decide) (by omega) (fun c339 => ?_) (fun c339 => ?_)
        · refine z_iconst F dL_law_632 ?_
          exact hend _ _ _ _ (by omega) (by omega)
        · exfalso; omega
      · exfalso; omega
    by_cases c340 : (zx (1 : Int).toNat) % 16 = 5
    · rw [c340]; refine z_tableIn F 5 285 dL_law_49 (by decide) (by decide) (by decide) rfl (by decide) ?_
      refine z_aload_n F 3 dL_law_285 rfl ?_
      refine z_aload_n F 4 dL_law_286 rfl ?_
      refine z_iload F 0 dL_law_287 rfl ?_
      refine z_iconst F dL_law_289 ?_
      refine z_iadd F dL_law_290 ?_
      refine z_sld F hX (by omega) (by omega) dL_law_291 ?_
      have r341 := hzx (1 + 1 : Int).toNat
      refine z_aload_n F 4 dL_law_292 rfl ?_
      refine z_iload F 0 dL_law_293 rfl ?_
      refine z_iconst F dL_law_295 ?_
      refine z_iadd F dL_law_296 ?_
      refine z_sld F hX (by omega) (by omega) dL_law_297 ?_
      have r342 := hzx (1 + 2 : Int).toNat
      refine z_callV F lw_good (k_X5_cut _ D K a1 sa_21 0 0 0 0 1 0 0 (-1) 0 xc_5 u_4 d_2 sc_20 db_9 dq_10 dt_11 0 nb_6 (fun _ => 0) (fun _ => 0) (fun _ => 0) y_3 yk_12 yn_13 yc_14 ya_15 yd_16 yl_17 0 0 0 0 np_7 na_8 (fun _ => 0) (fun _ => 0) (fun _ => 0) (fun _ => 0) (fun _ => 0) (fun _ => 0) um_18 ud_19 (fun _ => 0) (fun _ => 0) (fun _ => 0) (zx (1 + 1 : Int).toNat) (zx (1 + 2 : Int).toNat) f23 f24 (by omega) (rng_0 (by omega)) (rng_0 (by omega)) (rng_0 (by omega)) (by omega) (by omega) (rng_0 (by omega)) (rng_0 (by omega)) (by first | assumption | exact nmOk_zu2 (by assumption) (by omega) | exact nmOk_0 (by assumption) | exact nmOk_z | (exfalso; omega)) (rng_0 (by omega)) (rng_0 (by omega)) (by first | assumption | exact akOk_c0 (by assumption) | exact akOk_z | (exfalso; omega)) (rng_0 (by omega)) (by omega) (by omega) (rng_0 (by omega)) (by omega) (by omega) (by omega) (by omega) (by omega) (rng_0 (by omega)) (by omega) (by omega)) t2_144 t1_1 t2_141 t2_142 (q := (RX5, TX5, 14)) t2_143 ⟨rfl, rfl⟩ ndX5_cut ⟨Nat.le_of_ble_eq_true rfl, Nat.le_of_ble_eq_true rfl⟩ 0 rfl rfl (rest := []) rfl (Nat.le_of_ble_eq_true rfl) dL_law_298 ⟨(show 0 + 1 + 15 + 1 + 11 + 1 + 0 ≤ 600002 by omega), (show 0 + 14 + 57000 + 26 + 60032 + 1 + 0 ≤ 7302198 by omega)⟩ (wr := [oX6 a26 0 se_27 ea_28 dk_29 wt_30 wh_31 0 nw_32 0 1 1 0 0 0 0 0 0 0 0 ki_33 ke_34 mn_35 ak_36 dg_37 uk_38 ud_39, aI K dk_29 20480 (fun _ => 0), aI K wt_30 32768 (fun _ => 0), aI K wh_31 64 (fun _ => 0), aI K nw_32 512 (fun _ => 0), aI K ki_33 608 (fun _ => 0), aI K ke_34 608 (fun _ => 0), aI K mn_35 608 (fun _ => 0), aI K ak_36 3648 (fun _ => 0), aL K dg_37 608 (fun _ => 0), aZ K uk_38 64 (fun _ => 0), aL K ud_39 64 (fun _ => 0), aL K a42 1 (fun _ => 0)]) ([0, 1, 2, 3, 4, 5, 6, 7, 8, 9, 10, 11, 12, 13, 14, 15] : List Nat) ([16, 17, 18, 19, 20, 21, 22, 23, 24, 25, 26, 27, 28] : List Nat) rfl rfl rfl rfl (by decide) (fun vr wo hp => ?_)
      obtain ⟨zb2_343, zm2_344, rfl, rfl, f345, f346⟩ := hp
      refine z_re F (ws' := [oX5 a1 d_2 y_3 u_4 sa_21 0 0 0 0 1 0 0 (-1) 0 xc_5, oX0 d_2 sc_20 db_9 dq_10 dt_11 0, aB K db_9 nb_6 zb2_343, aB K dq_10 32768 (fun _ => 0), aI K dt_11 64 (fun _ => 0), oX3 y_3 yk_12 yn_13 yc_14 ya_15 yd_16 yl_17 0 0 0 0, aI K yk_12 np_7 (fun _ => 0), aI K yn_13 np_7 (fun _ => 0), aI K yc_14 np_7 (fun _ => 0), aI K ya_15 na_8 (fun _ => 0), aL K yd_16 np_7 (fun _ => 0), aI K yl_17 64 (fun _ => 0), oX4 u_4 um_18 ud_19, aZ K um_18 64 zm2_344, aL K ud_19 64 (fun _ => 0), aI K xc_5 np_7 (fun _ => 0), oX6 a26 0 se_27 ea_28 dk_29 wt_30 wh_31 0 nw_32 0 1 1 0 0 0 0 0 0 0 0 ki_33 ke_34 mn_35 ak_36 dg_37 uk_38 ud_39, aI K dk_29 20480 (fun _ => 0), aI K wt_30 32768 (fun _ => 0), aI K wh_31 64 (fun _ => 0), aI K nw_32 512 (fun _ => 0), aI K ki_33 608 (fun _ => 0), aI K ke_34 608 (fun _ => 0), aI K mn_35 608 (fun _ => 0), aI K ak_36 3648 (fun _ => 0), aL K dg_37 608 (fun _ => 0), aZ K uk_38 64 (fun _ => 0), aL K ud_39 64 (fun _ => 0), aL K a42 1 (fun _ => 0)]) (st' := []) ([13, 14, 15, 16, 17, 18, 19, 20, 21, 22, 23, 24, 25, 26, 27, 28, 0, 1, 2, 3, 4, 5, 6, 7, 8, 9, 10, 11, 12] : List Nat) rfl rfl rfl ?_
      refine z_aload_n F 2 dL_law_301 rfl ?_
      refine z_aload_n F 4 dL_law_302 rfl ?_
      refine z_iload F 0 dL_law_303 rfl ?_
      refine z_iconst F dL_law_305 ?_
      refine z_iadd F dL_law_306 ?_
      refine z_sld F hX (by omega) (by omega) dL_law_307 ?_
      have r347 := hzx (1 + 1 : Int).toNat
      refine z_aload_n F 4 dL_law_308 rfl ?_
      refine z_iload F 0 dL_law_309 rfl ?_
      refine z_iconst F dL_law_311 ?_
      refine z_iadd F dL_law_312 ?_
      refine z_sld F hX (by omega) (by omega) dL_law_313 ?_
      have r348 := hzx (1 + 2 : Int).toNat
      refine z_callV F lw_good (k_X6_cut _ D K a26 0 se_27 ea_28 dk_29 wt_30 wh_31 0 nw_32 0 1 1 0 0 0 0 0 0 0 0 ki_33 ke_34 mn_35 ak_36 dg_37 uk_38 ud_39 (fun _ => 0) (fun _ => 0) (fun _ => 0) (fun _ => 0) (fun _ => 0) (fun _ => 0) (fun _ => 0) (fun _ => 0) (fun _ => 0) (fun _ => 0) (fun _ => 0) (zx (1 + 1 : Int).toNat) (zx (1 + 2 : Int).toNat) f41 (by omega) (rng_0 (by omega)) (rng_0 (by omega)) (rng_0 (by omega)) (rng_0 (by omega)) (rng_0 (by omega)) (rng_0 (by omega)) (rng_0 (by omega)) (rng_0 (by omega)) (by first | assumption | exact akOk_c0 (by assumption) | exact akOk_z | (exfalso; omega)) (by omega) (by omega) (by omega) (by omega) (by omega) (by omega) (by omega) (by omega) (rng_0 (by omega)) (by omega) (by omega) (by omega) (by omega)) t4_43 t1_6 t4_40 t4_41 (q := (RX6, TX6, 26)) t4_42 ⟨rfl, rfl⟩ ndX6_cut ⟨Nat.le_of_ble_eq_true rfl, Nat.le_of_ble_eq_true rfl⟩ 0 rfl rfl (rest := []) rfl (Nat.le_of_ble_eq_true rfl) dL_law_314 ⟨(show 0 + 1 + 15 + 1 + 11 + 1 + 0 ≤ 600002 by omega), (show 0 + 14 + 57000 + 26 + 60032 + 1 + 0 ≤ 7302198 by omega)⟩ (wr := [oX5 a1 d_2 y_3 u_4 sa_21 0 0 0 0 1 0 0 (-1) 0 xc_5, oX0 d_2 sc_20 db_9 dq_10 dt_11 0, aB K db_9 nb_6 zb2_343, aB K dq_10 32768 (fun _ => 0), aI K dt_11 64 (fun _ => 0), oX3 y_3 yk_12 yn_13 yc_14 ya_15 yd_16 yl_17 0 0 0 0, aI K yk_12 np_7 (fun _ => 0), aI K yn_13 np_7 (fun _ => 0), aI K yc_14 np_7 (fun _ => 0), aI K ya_15 na_8 (fun _ => 0), aL K yd_16 np_7 (fun _ => 0), aI K yl_17 64 (fun _ => 0), oX4 u_4 um_18 ud_19, aZ K um_18 64 zm2_344, aL K ud_19 64 (fun _ => 0), aI K xc_5 np_7 (fun _ => 0), aL K a42 1 (fun _ => 0)]) ([16, 17, 18, 19, 20, 21, 22, 23, 24, 25, 26, 27] : List Nat) ([0, 1, 2, 3, 4, 5, 6, 7, 8, 9, 10, 11, 12, 13, 14, 15, 28] : List Nat) rfl rfl rfl rfl (by decide) (fun vr wo hp => ?_)
      obtain ⟨zd2_349, zv2_350, rfl, rfl, f351, f352⟩ := hp
      refine z_re F (ws' := [oX5 a1 d_2 y_3 u_4 sa_21 0 0 0 0 1 0 0 (-1) 0 xc_5, oX0 d_2 sc_20 db_9 dq_10 dt_11 0, aB K db_9 nb_6 zb2_343, aB K dq_10 32768 (fun _ => 0), aI K dt_11 64 (fun _ => 0), oX3 y_3 yk_12 yn_13 yc_14 ya_15 yd_16 yl_17 0 0 0 0, aI K yk_12 np_7 (fun _ => 0), aI K yn_13 np_7 (fun _ => 0), aI K yc_14 np_7 (fun _ => 0), aI K ya_15 na_8 (fun _ => 0), aL K yd_16 np_7 (fun _ => 0), aI K yl_17 64 (fun _ => 0), oX4 u_4 um_18 ud_19, aZ K um_18 64 zm2_344, aL K ud_19 64 (fun _ => 0), aI K xc_5 np_7 (fun _ => 0), oX6 a26 0 se_27 ea_28 dk_29 wt_30 wh_31 0 nw_32 0 1 1 0 0 0 0 0 0 0 0 ki_33 ke_34 mn_35 ak_36 dg_37 uk_38 ud_39, aI K dk_29 20480 zd2_349, aI K wt_30 32768 (fun _ => 0), aI K wh_31 64 (fun _ => 0), aI K nw_32 512 (fun _ => 0), aI K ki_33 608 (fun _ => 0), aI K ke_34 608 (fun _ => 0), aI K mn_35 608 (fun _ => 0), aI K ak_36 3648 (fun _ => 0), aL K dg_37 608 (fun _ => 0), aZ K uk_38 64 zv2_350, aL K ud_39 64 (fun _ => 0), aL K a42 1 (fun _ => 0)]) (st' := []) ([0, 1, 2, 3, 4, 5, 6, 7, 8, 9, 10, 11, 12, 13, 14, 15, 17, 18, 19, 20, 21, 22, 23, 24, 25, 26, 27, 28, 16] : List Nat) rfl rfl rfl ?_
      refine z_goto F 626 dL_law_317 (by decide) ?_
      refine z_iinc F (lv' := [(4, .int (iZ (1 + 4))), (3, .ref a42), (2, .ref a26), (1, .ref a1), (0, .ref b)]) 0 dL_law_626 rfl (by decide) rfl ?_
      refine z_goto F 33 dL_law_629 (by decide) ?_
      refine z_iload F 0 dL_law_33 rfl ?_
      refine z_aload_n F 4 dL_law_35 rfl ?_
      refine z_slen F hX dL_law_36 ?_
      refine z_iconst F dL_law_37 ?_
      refine z_isub F dL_law_38 ?_
      refine z_icmp_gt F 632 dL_law_39 (by decide) (by omega) (fun c353 => ?_) (fun c353 => ?_)
      · refine z_iconst F dL_law_632 ?_
        exact hend _ _ _ _ (by omega) (by omega)
      · exfalso; omega
    by_cases c354 : (zx (1 : Int).toNat) % 16 = 6
    · rw [c354]; refine z_tableIn F 6 320 dL_law_49 (by decide) (by decide) (by decide) rfl (by decide) ?_
      refine z_aload_n F 3 dL_law_320 rfl ?_
      refine z_aload_n F 4 dL_law_321 rfl ?_
      refine z_iload F 0 dL_law_322 rfl ?_
      refine z_iconst F dL_law_324 ?_
      refine z_iadd F dL_law_325 ?_
      refine z_sld F hX (by omega) (by omega) dL_law_326 ?_
      have r355 := hzx (1 + 1 : Int).toNat
      refine z_callV F lw_good (k_X5_digest _ D K a1 sa_21 0 0 0 0 1 0 0 (-1) 0 xc_5 u_4 d_2 sc_20 db_9 dq_10 dt_11 0 nb_6 (fun _ => 0) (fun _ => 0) (fun _ => 0) y_3 yk_12 yn_13 yc_14 ya_15 yd_16 yl_17 0 0 0 0 np_7 na_8 (fun _ => 0) (fun _ => 0) (fun _ => 0) (fun _ => 0) (fun _ => 0) (fun _ => 0) um_18 ud_19 (fun _ => 0) (fun _ => 0) (fun _ => 0) (zx (1 + 1 : Int).toNat) f23 f24 (by omega) (rng_0 (by omega)) (rng_0 (by omega)) (rng_0 (by omega)) (by omega) (by omega) (rng_0 (by omega)) (rng_0 (by omega)) (by first | assumption | exact nmOk_zu2 (by assumption) (by omega) | exact nmOk_0 (by assumption) | exact nmOk_z | (exfalso; omega)) (rng_0 (by omega)) (rng_0 (by omega)) (by first | assumption | exact akOk_c0 (by assumption) | exact akOk_z | (exfalso; omega)) (rng_0 (by omega)) (by omega) (by omega) (rng_0 (by omega)) (by omega) (by omega) (by omega) (by omega) (by omega) (rng_0 (by omega)) (by omega)) t2_152 t1_1 t2_149 t2_150 (q := (RX5, TX5, 14)) t2_151 ⟨rfl, rfl⟩ ndX5_digest ⟨Nat.le_of_ble_eq_true rfl, Nat.le_of_ble_eq_true rfl⟩ 0 rfl rfl (rest := []) rfl (Nat.le_of_ble_eq_true rfl) dL_law_327 ⟨(show 0 + 1 + 15 + 1 + 11 + 1 + 0 ≤ 600002 by omega), (show 0 + 14 + 57000 + 26 + 60032 + 1 + 0 ≤ 7302198 by omega)⟩ (wr := [oX6 a26 0 se_27 ea_28 dk_29 wt_30 wh_31 0 nw_32 0 1 1 0 0 0 0 0 0 0 0 ki_33 ke_34 mn_35 ak_36 dg_37 uk_38 ud_39, aI K dk_29 20480 (fun _ => 0), aI K wt_30 32768 (fun _ => 0), aI K wh_31 64 (fun _ => 0), aI K nw_32 512 (fun _ => 0), aI K ki_33 608 (fun _ => 0), aI K ke_34 608 (fun _ => 0), aI K mn_35 608 (fun _ => 0), aI K ak_36 3648 (fun _ => 0), aL K dg_37 608 (fun _ => 0), aZ K uk_38 64 (fun _ => 0), aL K ud_39 64 (fun _ => 0), aL K a42 1 (fun _ => 0)]) ([0, 1, 2, 3, 4, 5, 6, 7, 8, 9, 10, 11, 12, 13, 14, 15] : List Nat) ([16, 17, 18, 19, 20, 21, 22, 23, 24, 25, 26, 27, 28] : List Nat) rfl rfl rfl rfl (by decide) (fun vr wo hp => ?_)
      obtain ⟨r_356, rfl, rfl, f357⟩ := hp
      refine z_re F (ws' := [oX5 a1 d_2 y_3 u_4 sa_21 0 0 0 0 1 0 0 (-1) 0 xc_5, oX0 d_2 sc_20 db_9 dq_10 dt_11 0, aB K db_9 nb_6 (fun _ => 0), aB K dq_10 32768 (fun _ => 0), aI K dt_11 64 (fun _ => 0), oX3 y_3 yk_12 yn_13 yc_14 ya_15 yd_16 yl_17 0 0 0 0, aI K yk_12 np_7 (fun _ => 0), aI K yn_13 np_7 (fun _ => 0), aI K yc_14 np_7 (fun _ => 0), aI K ya_15 na_8 (fun _ => 0), aL K yd_16 np_7 (fun _ => 0), aI K yl_17 64 (fun _ => 0), oX4 u_4 um_18 ud_19, aZ K um_18 64 (fun _ => 0), aL K ud_19 64 (fun _ => 0), aI K xc_5 np_7 (fun _ => 0), oX6 a26 0 se_27 ea_28 dk_29 wt_30 wh_31 0 nw_32 0 1 1 0 0 0 0 0 0 0 0 ki_33 ke_34 mn_35 ak_36 dg_37 uk_38 ud_39, aI K dk_29 20480 (fun _ => 0), aI K wt_30 32768 (fun _ => 0), aI K wh_31 64 (fun _ => 0), aI K nw_32 512 (fun _ => 0), aI K ki_33 608 (fun _ => 0), aI K ke_34 608 (fun _ => 0), aI K mn_35 608 (fun _ => 0), aI K ak_36 3648 (fun _ => 0), aL K dg_37 608 (fun _ => 0), aZ K uk_38 64 (fun _ => 0), aL K ud_39 64 (fun _ => 0), aL K a42 1 (fun _ => 0)]) (st' := [.long r_356]) ([13, 14, 15, 16, 17, 18, 19, 20, 21, 22, 23, 24, 25, 26, 27, 28, 0, 1, 2, 3, 4, 5, 6, 7, 8, 9, 10, 11, 12] : List Nat) rfl rfl rfl ?_
      have hd1 := f357 rfl
      refine z_aload_n F 2 dL_law_330 rfl ?_
      refine z_aload_n F 4 dL_law_331 rfl ?_
      refine z_iload F 0 dL_law_332 rfl ?_
      refine z_iconst F dL_law_334 ?_
      refine z_iadd F dL_law_335 ?_
      refine z_sld F hX (by omega) (by omega) dL_law_336 ?_
      have r358 := hzx (1 + 1 : Int).toNat
      refine z_callV F lw_good (k_X6_digest _ D K a26 0 se_27 ea_28 dk_29 wt_30 wh_31 0 nw_32 0 1 1 0 0 0 0 0 0 0 0 ki_33 ke_34 mn_35 ak_36 dg_37 uk_38 ud_39 (fun _ => 0) (fun _ => 0) (fun _ => 0) (fun _ => 0) (fun _ => 0) (fun _ => 0) (fun _ => 0) (fun _ => 0) (fun _ => 0) (fun _ => 0) (fun _ => 0) (zx (1 + 1 : Int).toNat) f41 (by omega) (rng_0 (by omega)) (rng_0 (by omega)) (rng_0 (by omega)) (rng_0 (by omega)) (rng_0 (by omega)) (rng_0 (by omega)) (rng_0 (by omega)) (rng_0 (by omega)) (by first | assumption | exact akOk_c0 (by assumption) | exact akOk_z | (exfalso; omega)) (by omega) (by omega) (by omega) (by omega) (by omega) (by omega) (by omega) (by omega) (rng_0 (by omega)) (by omega) (by omega) (by omega)) t4_47 t1_6 t4_44 t4_45 (q := (RX6, TX6, 26)) t4_46 ⟨rfl, rfl⟩ ndX6_digest ⟨Nat.le_of_ble_eq_true rfl, Nat.le_of_ble_eq_true rfl⟩ 0 rfl rfl (rest := [.long r_356]) rfl (Nat.le_of_ble_eq_true rfl) dL_law_337 ⟨(show 0 + 1 + 15 + 1 + 11 + 1 + 0 ≤ 600002 by omega), (show 0 + 14 + 57000 + 26 + 60032 + 1 + 0 ≤ 7302198 by omega)⟩ (wr := [oX5 a1 d_2 y_3 u_4 sa_21 0 0 0 0 1 0 0 (-1) 0 xc_5, oX0 d_2 sc_20 db_9 dq_10 dt_11 0, aB K db_9 nb_6 (fun _ => 0), aB K dq_10 32768 (fun _ => 0), aI K dt_11 64 (fun _ => 0), oX3 y_3 yk_12 yn_13 yc_14 ya_15 yd_16 yl_17 0 0 0 0, aI K yk_12 np_7 (fun _ => 0), aI K yn_13 np_7 (fun _ => 0), aI K yc_14 np_7 (fun _ => 0), aI K ya_15 na_8 (fun _ => 0), aL K yd_16 np_7 (fun _ => 0), aI K yl_17 64 (fun _ => 0), oX4 u_4 um_18 ud_19, aZ K um_18 64 (fun _ => 0), aL K ud_19 64 (fun _ => 0), aI K xc_5 np_7 (fun _ => 0), aL K a42 1 (fun _ => 0)]) ([16, 17, 18, 19, 20, 21, 22, 23, 24, 25, 26, 27] : List Nat) ([0, 1, 2, 3, 4, 5, 6, 7, 8, 9, 10, 11, 12, 13, 14, 15, 28] : List Nat) rfl rfl rfl rfl (by decide) (fun vr wo hp => ?_)
      obtain ⟨r_359, rfl, rfl, f360⟩ := hp
      refine z_re F (ws' := [oX5 a1 d_2 y_3 u_4 sa_21 0 0 0 0 1 0 0 (-1) 0 xc_5, oX0 d_2 sc_20 db_9 dq_10 dt_11 0, aB K db_9 nb_6 (fun _ => 0), aB K dq_10 32768 (fun _ => 0), aI K dt_11 64 (fun _ => 0), oX3 y_3 yk_12 yn_13 yc_14 ya_15 yd_16 yl_17 0 0 0 0, aI K yk_12 np_7 (fun _ => 0), aI K yn_13 np_7 (fun _ => 0), aI K yc_14 np_7 (fun _ => 0), aI K ya_15 na_8 (fun _ => 0), aL K yd_16 np_7 (fun _ => 0), aI K yl_17 64 (fun _ => 0), oX4 u_4 um_18 ud_19, aZ K um_18 64 (fun _ => 0), aL K ud_19 64 (fun _ => 0), aI K xc_5 np_7 (fun _ => 0), oX6 a26 0 se_27 ea_28 dk_29 wt_30 wh_31 0 nw_32 0 1 1 0 0 0 0 0 0 0 0 ki_33 ke_34 mn_35 ak_36 dg_37 uk_38 ud_39, aI K dk_29 20480 (fun _ => 0), aI K wt_30 32768 (fun _ => 0), aI K wh_31 64 (fun _ => 0), aI K nw_32 512 (fun _ => 0), aI K ki_33 608 (fun _ => 0), aI K ke_34 608 (fun _ => 0), aI K mn_35 608 (fun _ => 0), aI K ak_36 3648 (fun _ => 0), aL K dg_37 608 (fun _ => 0), aZ K uk_38 64 (fun _ => 0), aL K ud_39 64 (fun _ => 0), aL K a42 1 (fun _ => 0)]) (st' := [.long r_359, .long r_356]) ([0, 1, 2, 3, 4, 5, 6, 7, 8, 9, 10, 11, 12, 13, 14, 15, 17, 18, 19, 20, 21, 22, 23, 24, 25, 26, 27, 28, 16] : List Nat) rfl rfl rfl ?_
      have hd2 := f360 rfl
      refine z_lcmp F dL_law_340 (fun b361 rb361 eb361 => ?_)
      have hbb361 : b361 = 0 := by rw [hd1, hd2] at eb361; exact (iZ_eq (a := b361) (b := 0) ⟨rb361, by decide⟩).mp (eb361.symm.trans (by decide))
      refine z_if_eq F 626 dL_law_341 (by decide) (by omega) (fun c362 => ?_) (fun c362 => ?_)
      · refine z_iinc F (lv' := [(4, .int (iZ (1 + 4))), (3, .ref a42), (2, .ref a26), (1, .ref a1), (0, .ref b)]) 0 dL_law_626 rfl (by decide) rfl ?_
        refine z_goto F 33 dL_law_629 (by decide) ?_
        refine z_iload F 0 dL_law_33 rfl ?_
        refine z_aload_n F 4 dL_law_35 rfl ?_
        refine z_slen F hX dL_law_36 ?_
        refine z_iconst F dL_law_37 ?_
        refine z_isub F dL_law_38 ?_
        refine z_icmp_gt F 632 dL_law_39 (by decide) (by omega) (fun c363 => ?_) (fun c363 => ?_)
        · refine z_iconst F dL_law_632 ?_
          exact hend _ _ _ _ (by omega) (by omega)
        · exfalso; omega
      · exfalso; omega
    by_cases c364 : (zx (1 : Int).toNat) % 16 = 7
    · rw [c364]; refine z_tableIn F 7 346 dL_law_49 (by decide) (by decide) (by decide) rfl (by decide) ?_
      refine z_aload_n F 3 dL_law_346 rfl ?_
      refine z_aload_n F 4 dL_law_347 rfl ?_
      refine z_iload F 0 dL_law_348 rfl ?_
      refine z_iconst F dL_law_350 ?_
      refine z_iadd F dL_law_351 ?_
      refine z_sld F hX (by omega) (by omega) dL_law_352 ?_
      have r365 := hzx (1 + 1 : Int).toNat
      refine z_aload_n F 4 dL_law_353 rfl ?_
      refine z_iload F 0 dL_law_354 rfl ?_
      refine z_iconst F dL_law_356 ?_
      refine z_iadd F dL_law_357 ?_
      refine z_sld F hX (by omega) (by omega) dL_law_358 ?_
      have r366 := hzx (1 + 2 : Int).toNat
      refine z_callV F lw_good (k_X5_asked _ D K a1 sa_21 0 0 0 0 1 0 0 (-1) 0 xc_5 u_4 d_2 sc_20 db_9 dq_10 dt_11 0 nb_6 (fun _ => 0) (fun _ => 0) (fun _ => 0) y_3 yk_12 yn_13 yc_14 ya_15 yd_16 yl_17 0 0 0 0 np_7 na_8 (fun _ => 0) (fun _ => 0) (fun _ => 0) (fun _ => 0) (fun _ => 0) (fun _ => 0) um_18 ud_19 (fun _ => 0) (fun _ => 0) (fun _ => 0) (zx (1 + 1 : Int).toNat) (zx (1 + 2 : Int).toNat) f23 f24 (by omega) (rng_0 (by omega)) (rng_0 (by omega)) (rng_0 (by omega)) (by omega) (by omega) (rng_0 (by omega)) (rng_0 (by omega)) (by first | assumption | exact nmOk_zu2 (by assumption) (by omega) | exact nmOk_0 (by assumption) | exact nmOk_z | (exfalso; omega)) (rng_0 (by omega)) (rng_0 (by omega)) (by first | assumption | exact akOk_c0 (by assumption) | exact akOk_z | (exfalso; omega)) (rng_0 (by omega)) (by omega) (by omega) (rng_0 (by omega)) (by omega) (by omega) (by omega) (by omega) (by omega) (rng_0 (by omega)) (by omega) (by omega)) t2_172 t1_1 t2_169 t2_170 (q := (RX5, TX5, 14)) t2_171 ⟨rfl, rfl⟩ ndX5_asked ⟨Nat.le_of_ble_eq_true rfl, Nat.le_of_ble_eq_true rfl⟩ 0 rfl rfl (rest := []) rfl (Nat.le_of_ble_eq_true rfl) dL_law_359 ⟨(show 0 + 1 + 15 + 1 + 11 + 1 + 0 ≤ 600002 by omega), (show 0 + 14 + 57000 + 26 + 60032 + 1 + 0 ≤ 7302198 by omega)⟩ (wr := [oX6 a26 0 se_27 ea_28 dk_29 wt_30 wh_31 0 nw_32 0 1 1 0 0 0 0 0 0 0 0 ki_33 ke_34 mn_35 ak_36 dg_37 uk_38 ud_39, aI K dk_29 20480 (fun _ => 0), aI K wt_30 32768 (fun _ => 0), aI K wh_31 64 (fun _ => 0), aI K nw_32 512 (fun _ => 0), aI K ki_33 608 (fun _ => 0), aI K ke_34 608 (fun _ => 0), aI K mn_35 608 (fun _ => 0), aI K ak_36 3648 (fun _ => 0), aL K dg_37 608 (fun _ => 0), aZ K uk_38 64 (fun _ => 0), aL K ud_39 64 (fun _ => 0), aL K a42 1 (fun _ => 0)]) ([0, 1, 2, 3, 4, 5, 6, 7, 8, 9, 10, 11, 12, 13, 14, 15] : List Nat) ([16, 17, 18, 19, 20, 21, 22, 23, 24, 25, 26, 27, 28] : List Nat) rfl rfl rfl rfl (by decide) (fun vr wo hp => ?_)
      obtain ⟨r_367, rfl, rfl, f368, f369⟩ := hp
      refine z_re F (ws' := [oX5 a1 d_2 y_3 u_4 sa_21 0 0 0 0 1 0 0 (-1) 0 xc_5, oX0 d_2 sc_20 db_9 dq_10 dt_11 0, aB K db_9 nb_6 (fun _ => 0), aB K dq_10 32768 (fun _ => 0), aI K dt_11 64 (fun _ => 0), oX3 y_3 yk_12 yn_13 yc_14 ya_15 yd_16 yl_17 0 0 0 0, aI K yk_12 np_7 (fun _ => 0), aI K yn_13 np_7 (fun _ => 0), aI K yc_14 np_7 (fun _ => 0), aI K ya_15 na_8 (fun _ => 0), aL K yd_16 np_7 (fun _ => 0), aI K yl_17 64 (fun _ => 0), oX4 u_4 um_18 ud_19, aZ K um_18 64 (fun _ => 0), aL K ud_19 64 (fun _ => 0), aI K xc_5 np_7 (fun _ => 0), oX6 a26 0 se_27 ea_28 dk_29 wt_30 wh_31 0 nw_32 0 1 1 0 0 0 0 0 0 0 0 ki_33 ke_34 mn_35 ak_36 dg_37 uk_38 ud_39, aI K dk_29 20480 (fun _ => 0), aI K wt_30 32768 (fun _ => 0), aI K wh_31 64 (fun _ => 0), aI K nw_32 512 (fun _ => 0), aI K ki_33 608 (fun _ => 0), aI K ke_34 608 (fun _ => 0), aI K mn_35 608 (fun _ => 0), aI K ak_36 3648 (fun _ => 0), aL K dg_37 608 (fun _ => 0), aZ K uk_38 64 (fun _ => 0), aL K ud_39 64 (fun _ => 0), aL K a42 1 (fun _ => 0)]) (st' := [.int (iZ r_367)]) ([13, 14, 15, 16, 17, 18, 19, 20, 21, 22, 23, 24, 25, 26, 27, 28, 0, 1, 2, 3, 4, 5, 6, 7, 8, 9, 10, 11, 12] : List Nat) rfl rfl rfl ?_
      refine z_aload_n F 2 dL_law_362 rfl ?_
      refine z_aload_n F 4 dL_law_363 rfl ?_
      refine z_iload F 0 dL_law_364 rfl ?_
      refine z_iconst F dL_law_366 ?_
      refine z_iadd F dL_law_367 ?_
      refine z_sld F hX (by omega) (by omega) dL_law_368 ?_
      have r370 := hzx (1 + 1 : Int).toNat
      refine z_aload_n F 4 dL_law_369 rfl ?_
      refine z_iload F 0 dL_law_370 rfl ?_
      refine z_iconst F dL_law_372 ?_
      refine z_iadd F dL_law_373 ?_
      refine z_sld F hX (by omega) (by omega) dL_law_374 ?_
      have r371 := hzx (1 + 2 : Int).toNat
      refine z_callV F lw_good (k_X6_asked _ D K a26 0 se_27 ea_28 dk_29 wt_30 wh_31 0 nw_32 0 1 1 0 0 0 0 0 0 0 0 ki_33 ke_34 mn_35 ak_36 dg_37 uk_38 ud_39 (fun _ => 0) (fun _ => 0) (fun _ => 0) (fun _ => 0) (fun _ => 0) (fun _ => 0) (fun _ => 0) (fun _ => 0) (fun _ => 0) (fun _ => 0) (fun _ => 0) (zx (1 + 1 : Int).toNat) (zx (1 + 2 : Int).toNat) f41 (by omega) (rng_0 (by omega)) (rng_0 (by omega)) (rng_0 (by omega)) (rng_0 (by omega)) (rng_0 (by omega)) (rng_0 (by omega)) (rng_0 (by omega)) (rng_0 (by omega)) (by first | assumption | exact akOk_c0 (by assumption) | exact akOk_z | (exfalso; omega)) (by omega) (by omega) (by omega) (by omega) (by omega) (by omega) (by omega) (by omega) (rng_0 (by omega)) (by omega) (by omega) (by omega) (by omega)) t4_51 t1_6 t4_48 t4_49 (q := (RX6, TX6, 26)) t4_50 ⟨rfl, rfl⟩ ndX6_asked ⟨Nat.le_of_ble_eq_true rfl, Nat.le_of_ble_eq_true rfl⟩ 0 rfl rfl (rest := [.int (iZ r_367)]) rfl (Nat.le_of_ble_eq_true rfl) dL_law_375 ⟨(show 0 + 1 + 15 + 1 + 11 + 1 + 0 ≤ 600002 by omega), (show 0 + 14 + 57000 + 26 + 60032 + 1 + 0 ≤ 7302198 by omega)⟩ (wr := [oX5 a1 d_2 y_3 u_4 sa_21 0 0 0 0 1 0 0 (-1) 0 xc_5, oX0 d_2 sc_20 db_9 dq_10 dt_11 0, aB K db_9 nb_6 (fun _ => 0), aB K dq_10 32768 (fun _ => 0), aI K dt_11 64 (fun _ => 0), oX3 y_3 yk_12 yn_13 yc_14 ya_15 yd_16 yl_17 0 0 0 0, aI K yk_12 np_7 (fun _ => 0), aI K yn_13 np_7 (fun _ => 0), aI K yc_14 np_7 (fun _ => 0), aI K ya_15 na_8 (fun _ => 0), aL K yd_16 np_7 (fun _ => 0), aI K yl_17 64 (fun _ => 0), oX4 u_4 um_18 ud_19, aZ K um_18 64 (fun _ => 0), aL K ud_19 64 (fun _ => 0), aI K xc_5 np_7 (fun _ => 0), aL K a42 1 (fun _ => 0)]) ([16, 17, 18, 19, 20, 21, 22, 23, 24, 25, 26, 27] : List Nat) ([0, 1, 2, 3, 4, 5, 6, 7, 8, 9, 10, 11, 12, 13, 14, 15, 28] : List Nat) rfl rfl rfl rfl (by decide) (fun vr wo hp => ?_)
      obtain ⟨r_372, rfl, rfl, f373, f374⟩ := hp
      refine z_re F (ws' := [oX5 a1 d_2 y_3 u_4 sa_21 0 0 0 0 1 0 0 (-1) 0 xc_5, oX0 d_2 sc_20 db_9 dq_10 dt_11 0, aB K db_9 nb_6 (fun _ => 0), aB K dq_10 32768 (fun _ => 0), aI K dt_11 64 (fun _ => 0), oX3 y_3 yk_12 yn_13 yc_14 ya_15 yd_16 yl_17 0 0 0 0, aI K yk_12 np_7 (fun _ => 0), aI K yn_13 np_7 (fun _ => 0), aI K yc_14 np_7 (fun _ => 0), aI K ya_15 na_8 (fun _ => 0), aL K yd_16 np_7 (fun _ => 0), aI K yl_17 64 (fun _ => 0), oX4 u_4 um_18 ud_19, aZ K um_18 64 (fun _ => 0), aL K ud_19 64 (fun _ => 0), aI K xc_5 np_7 (fun _ => 0), oX6 a26 0 se_27 ea_28 dk_29 wt_30 wh_31 0 nw_32 0 1 1 0 0 0 0 0 0 0 0 ki_33 ke_34 mn_35 ak_36 dg_37 uk_38 ud_39, aI K dk_29 20480 (fun _ => 0), aI K wt_30 32768 (fun _ => 0), aI K wh_31 64 (fun _ => 0), aI K nw_32 512 (fun _ => 0), aI K ki_33 608 (fun _ => 0), aI K ke_34 608 (fun _ => 0), aI K mn_35 608 (fun _ => 0), aI K ak_36 3648 (fun _ => 0), aL K dg_37 608 (fun _ => 0), aZ K uk_38 64 (fun _ => 0), aL K ud_39 64 (fun _ => 0), aL K a42 1 (fun _ => 0)]) (st' := [.int (iZ r_372), .int (iZ r_367)]) ([0, 1, 2, 3, 4, 5, 6, 7, 8, 9, 10, 11, 12, 13, 14, 15, 17, 18, 19, 20, 21, 22, 23, 24, 25, 26, 27, 28, 16] : List Nat) rfl rfl rfl ?_
      refine z_icmp_eq F 626 dL_law_378 (by decide) (by omega) (fun c375 => ?_) (fun c375 => ?_)
      · refine z_iinc F (lv' := [(4, .int (iZ (1 + 4))), (3, .ref a42), (2, .ref a26), (1, .ref a1), (0, .ref b)]) 0 dL_law_626 rfl (by decide) rfl ?_
        refine z_goto F 33 dL_law_629 (by decide) ?_
        refine z_iload F 0 dL_law_33 rfl ?_
        refine z_aload_n F 4 dL_law_35 rfl ?_
        refine z_slen F hX dL_law_36 ?_
        refine z_iconst F dL_law_37 ?_
        refine z_isub F dL_law_38 ?_
        refine z_icmp_gt F 632 dL_law_39 (by decide) (by omega) (fun c376 => ?_) (fun c376 => ?_)
        · refine z_iconst F dL_law_632 ?_
          exact hend _ _ _ _ (by omega) (by omega)
        · exfalso; omega
      · exfalso; omega
    by_cases c377 : (zx (1 : Int).toNat) % 16 = 8
    · rw [c377]; refine z_tableIn F 8 383 dL_law_49 (by decide) (by decide) (by decide) rfl (by decide) ?_
      refine z_aload_n F 3 dL_law_383 rfl ?_
      refine z_aload_n F 4 dL_law_384 rfl ?_
      refine z_iload F 0 dL_law_385 rfl ?_
      refine z_iconst F dL_law_387 ?_
      refine z_iadd F dL_law_388 ?_
      refine z_sld F hX (by omega) (by omega) dL_law_389 ?_
      have r378 := hzx (1 + 1 : Int).toNat
      refine z_callV F lw_good (k_X5_sure _ D K a1 sa_21 0 0 0 0 1 0 0 (-1) 0 xc_5 u_4 d_2 sc_20 db_9 dq_10 dt_11 0 nb_6 (fun _ => 0) (fun _ => 0) (fun _ => 0) y_3 yk_12 yn_13 yc_14 ya_15 yd_16 yl_17 0 0 0 0 np_7 na_8 (fun _ => 0) (fun _ => 0) (fun _ => 0) (fun _ => 0) (fun _ => 0) (fun _ => 0) um_18 ud_19 (fun _ => 0) (fun _ => 0) (fun _ => 0) (zx (1 + 1 : Int).toNat) f23 f24 (by omega) (rng_0 (by omega)) (rng_0 (by omega)) (rng_0 (by omega)) (by omega) (by omega) (rng_0 (by omega)) (rng_0 (by omega)) (by first | assumption | exact nmOk_zu2 (by assumption) (by omega) | exact nmOk_0 (by assumption) | exact nmOk_z | (exfalso; omega)) (rng_0 (by omega)) (rng_0 (by omega)) (by first | assumption | exact akOk_c0 (by assumption) | exact akOk_z | (exfalso; omega)) (rng_0 (by omega)) (by omega) (by omega) (rng_0 (by omega)) (by omega) (by omega) (by omega) (by omega) (by omega) (rng_0 (by omega)) (by omega)) t2_177 t1_1 t2_174 t2_175 (q := (RX5, TX5, 14)) t2_176 ⟨rfl, rfl⟩ ndX5_sure ⟨Nat.le_of_ble_eq_true rfl, Nat.le_of_ble_eq_true rfl⟩ 0 rfl rfl (rest := []) rfl (Nat.le_of_ble_eq_true rfl) dL_law_390 ⟨(show 0 + 1 + 15 + 1 + 11 + 1 + 0 ≤ 600002 by omega), (show 0 + 14 + 57000 + 26 + 60032 + 1 + 0 ≤ 7302198 by omega)⟩ (wr := [oX6 a26 0 se_27 ea_28 dk_29 wt_30 wh_31 0 nw_32 0 1 1 0 0 0 0 0 0 0 0 ki_33 ke_34 mn_35 ak_36 dg_37 uk_38 ud_39, aI K dk_29 20480 (fun _ => 0), aI K wt_30 32768 (fun _ => 0), aI K wh_31 64 (fun _ => 0), aI K nw_32 512 (fun _ => 0), aI K ki_33 608 (fun _ => 0), aI K ke_34 608 (fun _ => 0), aI K mn_35 608 (fun _ => 0), aI K ak_36 3648 (fun _ => 0), aL K dg_37 608 (fun _ => 0), aZ K uk_38 64 (fun _ => 0), aL K ud_39 64 (fun _ => 0), aL K a42 1 (fun _ => 0)]) ([0, 1, 2, 3, 4, 5, 6, 7, 8, 9, 10, 11, 12, 13, 14, 15] : List Nat) ([16, 17, 18, 19, 20, 21, 22, 23, 24, 25, 26, 27, 28] : List Nat) rfl rfl rfl rfl (by decide) (fun vr wo hp => ?_)
      obtain ⟨r_379, rfl, rfl, f380, f381⟩ := hp
      refine z_re F (ws' := [oX5 a1 d_2 y_3 u_4 sa_21 0 0 0 0 1 0 0 (-1) 0 xc_5, oX0 d_2 sc_20 db_9 dq_10 dt_11 0, aB K db_9 nb_6 (fun _ => 0), aB K dq_10 32768 (fun _ => 0), aI K dt_11 64 (fun _ => 0), oX3 y_3 yk_12 yn_13 yc_14 ya_15 yd_16 yl_17 0 0 0 0, aI K yk_12 np_7 (fun _ => 0), aI K yn_13 np_7 (fun _ => 0), aI K yc_14 np_7 (fun _ => 0), aI K ya_15 na_8 (fun _ => 0), aL K yd_16 np_7 (fun _ => 0), aI K yl_17 64 (fun _ => 0), oX4 u_4 um_18 ud_19, aZ K um_18 64 (fun _ => 0), aL K ud_19 64 (fun _ => 0), aI K xc_5 np_7 (fun _ => 0), oX6 a26 0 se_27 ea_28 dk_29 wt_30 wh_31 0 nw_32 0 1 1 0 0 0 0 0 0 0 0 ki_33 ke_34 mn_35 ak_36 dg_37 uk_38 ud_39, aI K dk_29 20480 (fun _ => 0), aI K wt_30 32768 (fun _ => 0), aI K wh_31 64 (fun _ => 0), aI K nw_32 512 (fun _ => 0), aI K ki_33 608 (fun _ => 0), aI K ke_34 608 (fun _ => 0), aI K mn_35 608 (fun _ => 0), aI K ak_36 3648 (fun _ => 0), aL K dg_37 608 (fun _ => 0), aZ K uk_38 64 (fun _ => 0), aL K ud_39 64 (fun _ => 0), aL K a42 1 (fun _ => 0)]) (st' := [.int (iZ r_379)]) ([13, 14, 15, 16, 17, 18, 19, 20, 21, 22, 23, 24, 25, 26, 27, 28, 0, 1, 2, 3, 4, 5, 6, 7, 8, 9, 10, 11, 12] : List Nat) rfl rfl rfl ?_
      refine z_aload_n F 2 dL_law_393 rfl ?_
      refine z_aload_n F 4 dL_law_394 rfl ?_
      refine z_iload F 0 dL_law_395 rfl ?_
      refine z_iconst F dL_law_397 ?_
      refine z_iadd F dL_law_398 ?_
      refine z_sld F hX (by omega) (by omega) dL_law_399 ?_
      have r382 := hzx (1 + 1 : Int).toNat
      refine z_callV F lw_good (k_X6_sure _ D K a26 0 se_27 ea_28 dk_29 wt_30 wh_31 0 nw_32 0 1 1 0 0 0 0 0 0 0 0 ki_33 ke_34 mn_35 ak_36 dg_37 uk_38 ud_39 (fun _ => 0) (fun _ => 0) (fun _ => 0) (fun _ => 0) (fun _ => 0) (fun _ => 0) (fun _ => 0) (fun _ => 0) (fun _ => 0) (fun _ => 0) (fun _ => 0) (zx (1 + 1 : Int).toNat) f41 (by omega) (rng_0 (by omega)) (rng_0 (by omega)) (rng_0 (by omega)) (rng_0 (by omega)) (rng_0 (by omega)) (rng_0 (by omega)) (rng_0 (by omega)) (rng_0 (by omega)) (by first | assumption | exact akOk_c0 (by assumption) | exact akOk_z | (exfalso; omega)) (by omega) (by omega) (by omega) (by omega) (by omega) (by omega) (by omega) (by omega) (rng_0 (by omega)) (by omega) (by omega) (by omega)) t4_55 t1_6 t4_52 t4_53 (q := (RX6, TX6, 26)) t4_54 ⟨rfl, rfl⟩ ndX6_sure ⟨Nat.le_of_ble_eq_true rfl, Nat.le_of_ble_eq_true rfl⟩ 0 rfl rfl (rest := [.int (iZ r_379)]) rfl (Nat.le_of_ble_eq_true rfl) dL_law_400 ⟨(show 0 + 1 + 15 + 1 + 11 + 1 + 0 ≤ 600002 by omega), (show 0 + 14 + 57000 + 26 + 60032 + 1 + 0 ≤ 7302198 by omega)⟩ (wr := [oX5 a1 d_2 y_3 u_4 sa_21 0 0 0 0 1 0 0 (-1) 0 xc_5, oX0 d_2 sc_20 db_9 dq_10 dt_11 0, aB K db_9 nb_6 (fun _ => 0), aB K dq_10 32768 (fun _ => 0), aI K dt_11 64 (fun _ => 0), oX3 y_3 yk_12 yn_13 yc_14 ya_15 yd_16 yl_17 0 0 0 0, aI K yk_12 np_7 (fun _ => 0), aI K yn_13 np_7 (fun _ => 0), aI K yc_14 np_7 (fun _ => 0), aI K ya_15 na_8 (fun _ => 0), aL K yd_16 np_7 (fun _ => 0), aI K yl_17 64 (fun _ => 0), oX4 u_4 um_18 ud_19, aZ K um_18 64 (fun _ => 0), aL K ud_19 64 (fun _ => 0), aI K xc_5 np_7 (fun _ => 0), aL K a42 1 (fun _ => 0)]) ([16, 17, 18, 19, 20, 21, 22, 23, 24, 25, 26, 27] : List Nat) ([0, 1, 2, 3, 4, 5, 6, 7, 8, 9, 10, 11, 12, 13, 14, 15, 28] : List Nat) rfl rfl rfl rfl (by decide) (fun vr wo hp => ?_)
      obtain ⟨r_383, rfl, rfl, f384, f385⟩ := hp
      refine z_re F (ws' := [oX5 a1 d_2 y_3 u_4 sa_21 0 0 0 0 1 0 0 (-1) 0 xc_5, oX0 d_2 sc_20 db_9 dq_10 dt_11 0, aB K db_9 nb_6 (fun _ => 0), aB K dq_10 32768 (fun _ => 0), aI K dt_11 64 (fun _ => 0), oX3 y_3 yk_12 yn_13 yc_14 ya_15 yd_16 yl_17 0 0 0 0, aI K yk_12 np_7 (fun _ => 0), aI K yn_13 np_7 (fun _ => 0), aI K yc_14 np_7 (fun _ => 0), aI K ya_15 na_8 (fun _ => 0), aL K yd_16 np_7 (fun _ => 0), aI K yl_17 64 (fun _ => 0), oX4 u_4 um_18 ud_19, aZ K um_18 64 (fun _ => 0), aL K ud_19 64 (fun _ => 0), aI K xc_5 np_7 (fun _ => 0), oX6 a26 0 se_27 ea_28 dk_29 wt_30 wh_31 0 nw_32 0 1 1 0 0 0 0 0 0 0 0 ki_33 ke_34 mn_35 ak_36 dg_37 uk_38 ud_39, aI K dk_29 20480 (fun _ => 0), aI K wt_30 32768 (fun _ => 0), aI K wh_31 64 (fun _ => 0), aI K nw_32 512 (fun _ => 0), aI K ki_33 608 (fun _ => 0), aI K ke_34 608 (fun _ => 0), aI K mn_35 608 (fun _ => 0), aI K ak_36 3648 (fun _ => 0), aL K dg_37 608 (fun _ => 0), aZ K uk_38 64 (fun _ => 0), aL K ud_39 64 (fun _ => 0), aL K a42 1 (fun _ => 0)]) (st' := [.int (iZ r_383), .int (iZ r_379)]) ([0, 1, 2, 3, 4, 5, 6, 7, 8, 9, 10, 11, 12, 13, 14, 15, 17, 18, 19, 20, 21, 22, 23, 24, 25, 26, 27, 28, 16] : List Nat) rfl rfl rfl ?_
      refine z_icmp_eq F 626 dL_law_403 (by decide) (by omega) (fun c386 => ?_) (fun c386 => ?_)
      · refine z_iinc F (lv' := [(4, .int (iZ (1 + 4))), (3, .ref a42), (2, .ref a26), (1, .ref a1), (0, .ref b)]) 0 dL_law_626 rfl (by decide) rfl ?_
        refine z_goto F 33 dL_law_629 (by decide) ?_
        refine z_iload F 0 dL_law_33 rfl ?_
        refine z_aload_n F 4 dL_law_35 rfl ?_
        refine z_slen F hX dL_law_36 ?_
        refine z_iconst F dL_law_37 ?_
        refine z_isub F dL_law_38 ?_
        refine z_icmp_gt F 632 dL_law_39 (by decide) (by omega) (fun c387 => ?_) (fun c387 => ?_)
        · refine z_iconst F dL_law_632 ?_
          exact hend _ _ _ _ (by omega) (by omega)
        · exfalso; omega
      · exfalso; omega
    by_cases c388 : (zx (1 : Int).toNat) % 16 = 9
    · rw [c388]; refine z_tableIn F 9 408 dL_law_49 (by decide) (by decide) (by decide) rfl (by decide) ?_
      refine z_aload_n F 3 dL_law_408 rfl ?_
      refine z_aload_n F 4 dL_law_409 rfl ?_
      refine z_iload F 0 dL_law_410 rfl ?_
      refine z_iconst F dL_law_412 ?_
      refine z_iadd F dL_law_413 ?_
      refine z_sld F hX (by omega) (by omega) dL_law_414 ?_
      have r389 := hzx (1 + 1 : Int).toNat
      refine z_aload_n F 4 dL_law_415 rfl ?_
      refine z_iload F 0 dL_law_416 rfl ?_
      refine z_iconst F dL_law_418 ?_
      refine z_iadd F dL_law_419 ?_
      refine z_sld F hX (by omega) (by omega) dL_law_420 ?_
      have r390 := hzx (1 + 2 : Int).toNat
      refine z_aload_n F 1 dL_law_421 rfl ?_
      refine z_callSW F hzt (k_L_sector _ hfl D K a1 d_2 db_9 dq_10 dt_11 y_3 u_4 xc_5 nb_6 a42 q0 sc_20 0 sa_21 0 0 0 0 1 0 0 (-1) 0 (fun _ => 0) (fun _ => 0) (zx (1 + 1 : Int).toNat) (zx (1 + 2 : Int).toNat) (by omega) (rng_0 (by omega)) (by omega) (by omega)) t2_233 t1_0 t2_231 t2_232 ⟨rfl, rfl⟩ ndL_sector ⟨Nat.le_of_ble_eq_true rfl, Nat.le_of_ble_eq_true rfl⟩ (rest := []) rfl (Nat.le_of_ble_eq_true rfl) dL_law_422 ⟨(show 0 + 1 + 15 + 1 + 11 + 1 + 1 ≤ 600002 by omega), (show 0 + 14 + 57000 + 26 + 60032 + 1 + 6 ≤ 7302198 by omega)⟩ (wr := [aB K dq_10 32768 (fun _ => 0), aI K dt_11 64 (fun _ => 0), oX3 y_3 yk_12 yn_13 yc_14 ya_15 yd_16 yl_17 0 0 0 0, aI K yk_12 np_7 (fun _ => 0), aI K yn_13 np_7 (fun _ => 0), aI K yc_14 np_7 (fun _ => 0), aI K ya_15 na_8 (fun _ => 0), aL K yd_16 np_7 (fun _ => 0), aI K yl_17 64 (fun _ => 0), oX4 u_4 um_18 ud_19, aZ K um_18 64 (fun _ => 0), aL K ud_19 64 (fun _ => 0), aI K xc_5 np_7 (fun _ => 0), oX6 a26 0 se_27 ea_28 dk_29 wt_30 wh_31 0 nw_32 0 1 1 0 0 0 0 0 0 0 0 ki_33 ke_34 mn_35 ak_36 dg_37 uk_38 ud_39, aI K dk_29 20480 (fun _ => 0), aI K wt_30 32768 (fun _ => 0), aI K wh_31 64 (fun _ => 0), aI K nw_32 512 (fun _ => 0), aI K ki_33 608 (fun _ => 0), aI K ke_34 608 (fun _ => 0), aI K mn_35 608 (fun _ => 0), aI K ak_36 3648 (fun _ => 0), aL K dg_37 608 (fun _ => 0), aZ K uk_38 64 (fun _ => 0), aL K ud_39 64 (fun _ => 0)]) ([0, 1, 2, 28] : List Nat) ([3, 4, 5, 6, 7, 8, 9, 10, 11, 12, 13, 14, 15, 16, 17, 18, 19, 20, 21, 22, 23, 24, 25, 26, 27] : List Nat) rfl rfl rfl rfl (by decide) (fun vr wo hp => ?_)
      obtain ⟨k391, fo392, rfl, rfl, f393, f394⟩ := hp
      refine z_re F (ws' := [oX5 a1 d_2 y_3 u_4 sa_21 0 0 0 0 1 0 0 (-1) 0 xc_5, oX0 d_2 sc_20 db_9 dq_10 dt_11 0, aB K db_9 nb_6 (fun _ => 0), aB K dq_10 32768 (fun _ => 0), aI K dt_11 64 (fun _ => 0), oX3 y_3 yk_12 yn_13 yc_14 ya_15 yd_16 yl_17 0 0 0 0, aI K yk_12 np_7 (fun _ => 0), aI K yn_13 np_7 (fun _ => 0), aI K yc_14 np_7 (fun _ => 0), aI K ya_15 na_8 (fun _ => 0), aL K yd_16 np_7 (fun _ => 0), aI K yl_17 64 (fun _ => 0), oX4 u_4 um_18 ud_19, aZ K um_18 64 (fun _ => 0), aL K ud_19 64 (fun _ => 0), aI K xc_5 np_7 (fun _ => 0), oX6 a26 0 se_27 ea_28 dk_29 wt_30 wh_31 0 nw_32 0 1 1 0 0 0 0 0 0 0 0 ki_33 ke_34 mn_35 ak_36 dg_37 uk_38 ud_39, aI K dk_29 20480 (fun _ => 0), aI K wt_30 32768 (fun _ => 0), aI K wh_31 64 (fun _ => 0), aI K nw_32 512 (fun _ => 0), aI K ki_33 608 (fun _ => 0), aI K ke_34 608 (fun _ => 0), aI K mn_35 608 (fun _ => 0), aI K ak_36 3648 (fun _ => 0), aL K dg_37 608 (fun _ => 0), aZ K uk_38 64 (fun _ => 0), aL K ud_39 64 (fun _ => 0), aL K a42 1 fo392]) (st' := [.int (iZ k391)]) ([25, 26, 27, 0, 1, 2, 3, 4, 5, 6, 7, 8, 9, 10, 11, 12, 13, 14, 15, 16, 17, 18, 19, 20, 21, 22, 23, 24, 28] : List Nat) rfl rfl rfl ?_
      refine z_istore F (lv' := [(5, .int (iZ k391)), (4, .int (iZ 1)), (3, .ref a42), (2, .ref a26), (1, .ref a1), (0, .ref b)]) dL_law_425 (by decide) rfl ?_
      refine z_aload_n F 3 dL_law_427 rfl ?_
      refine z_aload_n F 5 dL_law_428 rfl ?_
      refine z_iload F 1 dL_law_429 rfl ?_
      refine z_iconst F dL_law_431 ?_
      refine z_iadd F dL_law_432 ?_
      refine z_sld F hX (by omega) (by omega) dL_law_433 ?_
      have r395 := hzx (1 + 1 : Int).toNat
      refine z_aload_n F 5 dL_law_434 rfl ?_
      refine z_iload F 1 dL_law_435 rfl ?_
      refine z_iconst F dL_law_437 ?_
      refine z_iadd F dL_law_438 ?_
      refine z_sld F hX (by omega) (by omega) dL_law_439 ?_
      have r396 := hzx (1 + 2 : Int).toNat
      refine z_callV F lw_good (k_X6_sector _ D K a26 0 se_27 ea_28 dk_29 wt_30 wh_31 0 nw_32 0 1 1 0 0 0 0 0 0 0 0 ki_33 ke_34 mn_35 ak_36 dg_37 uk_38 ud_39 (fun _ => 0) (fun _ => 0) (fun _ => 0) (fun _ => 0) (fun _ => 0) (fun _ => 0) (fun _ => 0) (fun _ => 0) (fun _ => 0) (fun _ => 0) (fun _ => 0) (zx (1 + 1 : Int).toNat) (zx (1 + 2 : Int).toNat) f41 (by omega) (rng_0 (by omega)) (rng_0 (by omega)) (rng_0 (by omega)) (rng_0 (by omega)) (rng_0 (by omega)) (rng_0 (by omega)) (rng_0 (by omega)) (rng_0 (by omega)) (by first | assumption | exact akOk_c0 (by assumption) | exact akOk_z | (exfalso; omega)) (by omega) (by omega) (by omega) (by omega) (by omega) (by omega) (by omega) (by omega) (rng_0 (by omega)) (by omega) (by omega) (by omega) (by omega)) t4_59 t1_6 t4_56 t4_57 (q := (RX6, TX6, 26)) t4_58 ⟨rfl, rfl⟩ ndX6_sector ⟨Nat.le_of_ble_eq_true rfl, Nat.le_of_ble_eq_true rfl⟩ 0 rfl rfl (rest := []) rfl (Nat.le_of_ble_eq_true rfl) dL_law_440 ⟨(show 0 + 1 + 15 + 1 + 11 + 1 + 1 + 0 ≤ 600002 by omega), (show 0 + 14 + 57000 + 26 + 60032 + 1 + 6 + 0 ≤ 7302198 by omega)⟩ (wr := [oX5 a1 d_2 y_3 u_4 sa_21 0 0 0 0 1 0 0 (-1) 0 xc_5, oX0 d_2 sc_20 db_9 dq_10 dt_11 0, aB K db_9 nb_6 (fun _ => 0), aB K dq_10 32768 (fun _ => 0), aI K dt_11 64 (fun _ => 0), oX3 y_3 yk_12 yn_13 yc_14 ya_15 yd_16 yl_17 0 0 0 0, aI K yk_12 np_7 (fun _ => 0), aI K yn_13 np_7 (fun _ => 0), aI K yc_14 np_7 (fun _ => 0), aI K ya_15 na_8 (fun _ => 0), aL K yd_16 np_7 (fun _ => 0), aI K yl_17 64 (fun _ => 0), oX4 u_4 um_18 ud_19, aZ K um_18 64 (fun _ => 0), aL K ud_19 64 (fun _ => 0), aI K xc_5 np_7 (fun _ => 0), aL K a42 1 fo392]) ([16, 17, 18, 19, 20, 21, 22, 23, 24, 25, 26, 27] : List Nat) ([0, 1, 2, 3, 4, 5, 6, 7, 8, 9, 10, 11, 12, 13, 14, 15, 28] : List Nat) rfl rfl rfl rfl (by decide) (fun vr wo hp => ?_)
      obtain ⟨r_397, th2_398, rfl, rfl, f399, f400, f401⟩ := hp
      refine z_re F (ws' := [oX5 a1 d_2 y_3 u_4 sa_21 0 0 0 0 1 0 0 (-1) 0 xc_5, oX0 d_2 sc_20 db_9 dq_10 dt_11 0, aB K db_9 nb_6 (fun _ => 0), aB K dq_10 32768 (fun _ => 0), aI K dt_11 64 (fun _ => 0), oX3 y_3 yk_12 yn_13 yc_14 ya_15 yd_16 yl_17 0 0 0 0, aI K yk_12 np_7 (fun _ => 0), aI K yn_13 np_7 (fun _ => 0), aI K yc_14 np_7 (fun _ => 0), aI K ya_15 na_8 (fun _ => 0), aL K yd_16 np_7 (fun _ => 0), aI K yl_17 64 (fun _ => 0), oX4 u_4 um_18 ud_19, aZ K um_18 64 (fun _ => 0), aL K ud_19 64 (fun _ => 0), aI K xc_5 np_7 (fun _ => 0), oX6 a26 th2_398 se_27 ea_28 dk_29 wt_30 wh_31 0 nw_32 0 1 1 0 0 0 0 0 0 0 0 ki_33 ke_34 mn_35 ak_36 dg_37 uk_38 ud_39, aI K dk_29 20480 (fun _ => 0), aI K wt_30 32768 (fun _ => 0), aI K wh_31 64 (fun _ => 0), aI K nw_32 512 (fun _ => 0), aI K ki_33 608 (fun _ => 0), aI K ke_34 608 (fun _ => 0), aI K mn_35 608 (fun _ => 0), aI K ak_36 3648 (fun _ => 0), aL K dg_37 608 (fun _ => 0), aZ K uk_38 64 (fun _ => 0), aL K ud_39 64 (fun _ => 0), aL K a42 1 fo392]) (st' := [.int (iZ r_397)]) ([0, 1, 2, 3, 4, 5, 6, 7, 8, 9, 10, 11, 12, 13, 14, 15, 17, 18, 19, 20, 21, 22, 23, 24, 25, 26, 27, 28, 16] : List Nat) rfl rfl rfl ?_
      have hm2 := f401 (fun _ => rfl); have hm1 := f400
      refine z_istore F (lv' := [(6, .int (iZ r_397)), (5, .int (iZ k391)), (4, .int (iZ 1)), (3, .ref a42), (2, .ref a26), (1, .ref a1), (0, .ref b)]) dL_law_443 (by decide) rfl ?_
      refine z_aload_n F 4 dL_law_445 rfl ?_
      refine z_callV F lw_good (k_X6_thrown _ D K a26 th2_398 se_27 ea_28 dk_29 wt_30 wh_31 0 nw_32 0 1 1 0 0 0 0 0 0 0 0 ki_33 ke_34 mn_35 ak_36 dg_37 uk_38 ud_39) t3_158 t1_6 t3_155 t3_156 (q := (RX6, TX6, 26)) t3_157 ⟨rfl, rfl⟩ ndX6_thrown ⟨Nat.le_of_ble_eq_true rfl, Nat.le_of_ble_eq_true rfl⟩ 0 rfl rfl (rest := []) rfl (Nat.le_of_ble_eq_true rfl) dL_law_446 ⟨(show 0 + 1 + 15 + 1 + 11 + 1 + 1 + 0 ≤ 600002 by omega), (show 0 + 14 + 57000 + 26 + 60032 + 1 + 6 + 0 ≤ 7302198 by omega)⟩ (wr := [oX5 a1 d_2 y_3 u_4 sa_21 0 0 0 0 1 0 0 (-1) 0 xc_5, oX0 d_2 sc_20 db_9 dq_10 dt_11 0, aB K db_9 nb_6 (fun _ => 0), aB K dq_10 32768 (fun _ => 0), aI K dt_11 64 (fun _ => 0), oX3 y_3 yk_12 yn_13 yc_14 ya_15 yd_16 yl_17 0 0 0 0, aI K yk_12 np_7 (fun _ => 0), aI K yn_13 np_7 (fun _ => 0), aI K yc_14 np_7 (fun _ => 0), aI K ya_15 na_8 (fun _ => 0), aL K yd_16 np_7 (fun _ => 0), aI K yl_17 64 (fun _ => 0), oX4 u_4 um_18 ud_19, aZ K um_18 64 (fun _ => 0), aL K ud_19 64 (fun _ => 0), aI K xc_5 np_7 (fun _ => 0), aI K dk_29 20480 (fun _ => 0), aI K wt_30 32768 (fun _ => 0), aI K wh_31 64 (fun _ => 0), aI K nw_32 512 (fun _ => 0), aI K ki_33 608 (fun _ => 0), aI K ke_34 608 (fun _ => 0), aI K mn_35 608 (fun _ => 0), aI K ak_36 3648 (fun _ => 0), aL K dg_37 608 (fun _ => 0), aZ K uk_38 64 (fun _ => 0), aL K ud_39 64 (fun _ => 0), aL K a42 1 fo392]) ([16] : List Nat) ([0, 1, 2, 3, 4, 5, 6, 7, 8, 9, 10, 11, 12, 13, 14, 15, 17, 18, 19, 20, 21, 22, 23, 24, 25, 26, 27, 28] : List Nat) rfl rfl rfl rfl (by decide) (fun vr wo hp => ?_)
      obtain ⟨rfl, rfl⟩ := hp
      refine z_re F (ws' := [oX5 a1 d_2 y_3 u_4 sa_21 0 0 0 0 1 0 0 (-1) 0 xc_5, oX0 d_2 sc_20 db_9 dq_10 dt_11 0, aB K db_9 nb_6 (fun _ => 0), aB K dq_10 32768 (fun _ => 0), aI K dt_11 64 (fun _ => 0), oX3 y_3 yk_12 yn_13 yc_14 ya_15 yd_16 yl_17 0 0 0 0, aI K yk_12 np_7 (fun _ => 0), aI K yn_13 np_7 (fun _ => 0), aI K yc_14 np_7 (fun _ => 0), aI K ya_15 na_8 (fun _ => 0), aL K yd_16 np_7 (fun _ => 0), aI K yl_17 64 (fun _ => 0), oX4 u_4 um_18 ud_19, aZ K um_18 64 (fun _ => 0), aL K ud_19 64 (fun _ => 0), aI K xc_5 np_7 (fun _ => 0), oX6 a26 th2_398 se_27 ea_28 dk_29 wt_30 wh_31 0 nw_32 0 1 1 0 0 0 0 0 0 0 0 ki_33 ke_34 mn_35 ak_36 dg_37 uk_38 ud_39, aI K dk_29 20480 (fun _ => 0), aI K wt_30 32768 (fun _ => 0), aI K wh_31 64 (fun _ => 0), aI K nw_32 512 (fun _ => 0), aI K ki_33 608 (fun _ => 0), aI K ke_34 608 (fun _ => 0), aI K mn_35 608 (fun _ => 0), aI K ak_36 3648 (fun _ => 0), aL K dg_37 608 (fun _ => 0), aZ K uk_38 64 (fun _ => 0), aL K ud_39 64 (fun _ => 0), aL K a42 1 fo392]) (st' := [.int (iZ th2_398)]) ([0, 1, 2, 3, 4, 5, 6, 7, 8, 9, 10, 11, 12, 13, 14, 15, 28, 16, 17, 18, 19, 20, 21, 22, 23, 24, 25, 26, 27] : List Nat) rfl rfl rfl ?_
      refine z_iload F 1 dL_law_449 rfl ?_
      refine z_icmp_eq F 456 dL_law_451 (by decide) (by omega) (fun c402 => ?_) (fun c402 => ?_)
      · refine z_iload F 1 dL_law_456 rfl ?_
        refine z_if_ne F 473 dL_law_458 (by decide) (by omega) (fun c403 => ?_) (fun c403 => ?_)
        · refine z_goto F 626 dL_law_473 (by decide) ?_
          refine z_iinc F (lv' := [(4, .int (iZ (1 + 4))), (6, .int (iZ r_397)), (5, .int (iZ k391)), (3, .ref a42), (2, .ref a26), (1, .ref a1), (0, .ref b)]) 2 dL_law_626 rfl (by decide) rfl ?_
          refine z_goto F 33 dL_law_629 (by decide) ?_
          refine z_iload F 0 dL_law_33 rfl ?_
          refine z_aload_n F 6 dL_law_35 rfl ?_
          refine z_slen F hX dL_law_36 ?_
          refine z_iconst F dL_law_37 ?_
          refine z_isub F dL_law_38 ?_
          refine z_icmp_gt F 632 dL_law_39 (by decide) (by omega) (fun c404 => ?_) (fun c404 => ?_)
          · refine z_iconst F dL_law_632 ?_
            exact hend _ _ _ _ (by omega) (by omega)
          · exfalso; omega
        · refine z_aload_n F 3 dL_law_461 rfl ?_
          refine z_iconst F dL_law_462 ?_
          refine z_lald F 28 rfl rfl dL_law_463 (by omega) (by omega) ?_
          refine z_iload F 0 dL_law_464 rfl ?_
          refine z_i2l F dL_law_466 ?_
          refine z_lcmp F dL_law_467 (fun b405 rb405 eb405 => ?_)
          have q1 : fo392 (0 : Int).toNat = _ := f394 (by omega)
          have hbb405 : b405 = 0 := by rw [q1, hm2] at eb405; exact (iZ_eq (a := b405) (b := 0) ⟨rb405, by decide⟩).mp (eb405.symm.trans (by decide))
          refine z_if_eq F 473 dL_law_468 (by decide) (by omega) (fun c406 => ?_) (fun c406 => ?_)
          · refine z_goto F 626 dL_law_473 (by decide) ?_
            refine z_iinc F (lv' := [(4, .int (iZ (1 + 4))), (6, .int (iZ r_397)), (5, .int (iZ k391)), (3, .ref a42), (2, .ref a26), (1, .ref a1), (0, .ref b)]) 2 dL_law_626 rfl (by decide) rfl ?_
            refine z_goto F 33 dL_law_629 (by decide) ?_
            refine z_iload F 0 dL_law_33 rfl ?_
            refine z_aload_n F 6 dL_law_35 rfl ?_
            refine z_slen F hX dL_law_36 ?_
            refine z_iconst F dL_law_37 ?_
            refine z_isub F dL_law_38 ?_
            refine z_icmp_gt F 632 dL_law_39 (by decide) (by omega) (fun c407 => ?_) (fun c407 => ?_)
            · refine z_iconst F dL_law_632 ?_
              exact hend _ _ _ _ (by omega) (by omega)
            · exfalso; omega
          · exfalso; omega
      · exfalso; omega
    by_cases c408 : (zx (1 : Int).toNat) % 16 = 10
    · rw [c408]; refine z_tableIn F 10 476 dL_law_49 (by decide) (by decide) (by decide) rfl (by decide) ?_
      refine z_aload_n F 3 dL_law_476 rfl ?_
      refine z_aload_n F 4 dL_law_477 rfl ?_
      refine z_iload F 0 dL_law_478 rfl ?_
      refine z_iconst F dL_law_480 ?_
      refine z_iadd F dL_law_481 ?_
      refine z_sld F hX (by omega) (by omega) dL_law_482 ?_
      have r409 := hzx (1 + 1 : Int).toNat
      refine z_aload_n F 4 dL_law_483 rfl ?_
      refine z_iload F 0 dL_law_484 rfl ?_
      refine z_iconst F dL_law_486 ?_
      refine z_iadd F dL_law_487 ?_
      refine z_sld F hX (by omega) (by omega) dL_law_488 ?_
      have r410 := hzx (1 + 2 : Int).toNat
      refine z_callV F lw_good (k_X5_poke _ D K a1 sa_21 0 0 0 0 1 0 0 (-1) 0 xc_5 u_4 d_2 sc_20 db_9 dq_10 dt_11 0 nb_6 (fun _ => 0) (fun _ => 0) (fun _ => 0) y_3 yk_12 yn_13 yc_14 ya_15 yd_16 yl_17 0 0 0 0 np_7 na_8 (fun _ => 0) (fun _ => 0) (fun _ => 0) (fun _ => 0) (fun _ => 0) (fun _ => 0) um_18 ud_19 (fun _ => 0) (fun _ => 0) (fun _ => 0) (zx (1 + 1 : Int).toNat) (zx (1 + 2 : Int).toNat) f23 f24 (by omega) (rng_0 (by omega)) (rng_0 (by omega)) (rng_0 (by omega)) (by omega) (by omega) (rng_0 (by omega)) (rng_0 (by omega)) (by first | assumption | exact nmOk_zu2 (by assumption) (by omega) | exact nmOk_0 (by assumption) | exact nmOk_z | (exfalso; omega)) (rng_0 (by omega)) (rng_0 (by omega)) (by first | assumption | exact akOk_c0 (by assumption) | exact akOk_z | (exfalso; omega)) (rng_0 (by omega)) (by omega) (by omega) (rng_0 (by omega)) (by omega) (by omega) (by omega) (by omega) (by omega) (rng_0 (by omega)) (by omega) (by omega)) t2_186 t1_1 t2_183 t2_184 (q := (RX5, TX5, 14)) t2_185 ⟨rfl, rfl⟩ ndX5_poke ⟨Nat.le_of_ble_eq_true rfl, Nat.le_of_ble_eq_true rfl⟩ 0 rfl rfl (rest := []) rfl (Nat.le_of_ble_eq_true rfl) dL_law_489 ⟨(show 0 + 1 + 15 + 1 + 11 + 1 + 0 ≤ 600002 by omega), (show 0 + 14 + 57000 + 26 + 60032 + 1 + 0 ≤ 7302198 by omega)⟩ (wr := [oX6 a26 0 se_27 ea_28 dk_29 wt_30 wh_31 0 nw_32 0 1 1 0 0 0 0 0 0 0 0 ki_33 ke_34 mn_35 ak_36 dg_37 uk_38 ud_39, aI K dk_29 20480 (fun _ => 0), aI K wt_30 32768 (fun _ => 0), aI K wh_31 64 (fun _ => 0), aI K nw_32 512 (fun _ => 0), aI K ki_33 608 (fun _ => 0), aI K ke_34 608 (fun _ => 0), aI K mn_35 608 (fun _ => 0), aI K ak_36 3648 (fun _ => 0), aL K dg_37 608 (fun _ => 0), aZ K uk_38 64 (fun _ => 0), aL K ud_39 64 (fun _ => 0), aL K a42 1 (fun _ => 0)]) ([0, 1, 2, 3, 4, 5, 6, 7, 8, 9, 10, 11, 12, 13, 14, 15] : List Nat) ([16, 17, 18, 19, 20, 21, 22, 23, 24, 25, 26, 27, 28] : List Nat) rfl rfl rfl rfl (by decide) (fun vr wo hp => ?_)
      obtain ⟨r_411, zb2_412, rfl, rfl, f413, f414⟩ := hp
      refine z_re F (ws' := [oX5 a1 d_2 y_3 u_4 sa_21 0 0 0 0 1 0 0 (-1) 0 xc_5, oX0 d_2 sc_20 db_9 dq_10 dt_11 0, aB K db_9 nb_6 zb2_412, aB K dq_10 32768 (fun _ => 0), aI K dt_11 64 (fun _ => 0), oX3 y_3 yk_12 yn_13 yc_14 ya_15 yd_16 yl_17 0 0 0 0, aI K yk_12 np_7 (fun _ => 0), aI K yn_13 np_7 (fun _ => 0), aI K yc_14 np_7 (fun _ => 0), aI K ya_15 na_8 (fun _ => 0), aL K yd_16 np_7 (fun _ => 0), aI K yl_17 64 (fun _ => 0), oX4 u_4 um_18 ud_19, aZ K um_18 64 (fun _ => 0), aL K ud_19 64 (fun _ => 0), aI K xc_5 np_7 (fun _ => 0), oX6 a26 0 se_27 ea_28 dk_29 wt_30 wh_31 0 nw_32 0 1 1 0 0 0 0 0 0 0 0 ki_33 ke_34 mn_35 ak_36 dg_37 uk_38 ud_39, aI K dk_29 20480 (fun _ => 0), aI K wt_30 32768 (fun _ => 0), aI K wh_31 64 (fun _ => 0), aI K nw_32 512 (fun _ => 0), aI K ki_33 608 (fun _ => 0), aI K ke_34 608 (fun _ => 0), aI K mn_35 608 (fun _ => 0), aI K ak_36 3648 (fun _ => 0), aL K dg_37 608 (fun _ => 0), aZ K uk_38 64 (fun _ => 0), aL K ud_39 64 (fun _ => 0), aL K a42 1 (fun _ => 0)]) (st' := [.int (iZ r_411)]) ([13, 14, 15, 16, 17, 18, 19, 20, 21, 22, 23, 24, 25, 26, 27, 28, 0, 1, 2, 3, 4, 5, 6, 7, 8, 9, 10, 11, 12] : List Nat) rfl rfl rfl ?_
      refine z_aload_n F 2 dL_law_492 rfl ?_
      refine z_aload_n F 4 dL_law_493 rfl ?_
      refine z_iload F 0 dL_law_494 rfl ?_
      refine z_iconst F dL_law_496 ?_
      refine z_iadd F dL_law_497 ?_
      refine z_sld F hX (by omega) (by omega) dL_law_498 ?_
      have r415 := hzx (1 + 1 : Int).toNat
      refine z_aload_n F 4 dL_law_499 rfl ?_
      refine z_iload F 0 dL_law_500 rfl ?_
      refine z_iconst F dL_law_502 ?_
      refine z_iadd F dL_law_503 ?_
      refine z_sld F hX (by omega) (by omega) dL_law_504 ?_
      have r416 := hzx (1 + 2 : Int).toNat
      refine z_callV F lw_good (k_X6_poke _ D K a26 0 se_27 ea_28 dk_29 wt_30 wh_31 0 nw_32 0 1 1 0 0 0 0 0 0 0 0 ki_33 ke_34 mn_35 ak_36 dg_37 uk_38 ud_39 (fun _ => 0) (fun _ => 0) (fun _ => 0) (fun _ => 0) (fun _ => 0) (fun _ => 0) (fun _ => 0) (fun _ => 0) (fun _ => 0) (fun _ => 0) (fun _ => 0) (zx (1 + 1 : Int).toNat) (zx (1 + 2 : Int).toNat) f41 (by omega) (rng_0 (by omega)) (rng_0 (by omega)) (rng_0 (by omega)) (rng_0 (by omega)) (rng_0 (by omega)) (rng_0 (by omega)) (rng_0 (by omega)) (rng_0 (by omega)) (by first | assumption | exact akOk_c0 (by assumption) | exact akOk_z | (exfalso; omega)) (by omega) (by omega) (by omega) (by omega) (by omega) (by omega) (by omega) (by omega) (rng_0 (by omega)) (by omega) (by omega) (by omega) (by omega)) t4_63 t1_6 t4_60 t4_61 (q := (RX6, TX6, 26)) t4_62 ⟨rfl, rfl⟩ ndX6_poke ⟨Nat.le_of_ble_eq_true rfl, Nat.le_of_ble_eq_true rfl⟩ 0 rfl rfl (rest := [.int (iZ r_411)]) rfl (Nat.le_of_ble_eq_true rfl) dL_law_505 ⟨(show 0 + 1 + 15 + 1 + 11 + 1 + 0 ≤ 600002 by omega), (show 0 + 14 + 57000 + 26 + 60032 + 1 + 0 ≤ 7302198 by omega)⟩ (wr := [oX5 a1 d_2 y_3 u_4 sa_21 0 0 0 0 1 0 0 (-1) 0 xc_5, oX0 d_2 sc_20 db_9 dq_10 dt_11 0, aB K db_9 nb_6 zb2_412, aB K dq_10 32768 (fun _ => 0), aI K dt_11 64 (fun _ => 0), oX3 y_3 yk_12 yn_13 yc_14 ya_15 yd_16 yl_17 0 0 0 0, aI K yk_12 np_7 (fun _ => 0), aI K yn_13 np_7 (fun _ => 0), aI K yc_14 np_7 (fun _ => 0), aI K ya_15 na_8 (fun _ => 0), aL K yd_16 np_7 (fun _ => 0), aI K yl_17 64 (fun _ => 0), oX4 u_4 um_18 ud_19, aZ K um_18 64 (fun _ => 0), aL K ud_19 64 (fun _ => 0), aI K xc_5 np_7 (fun _ => 0), aL K a42 1 (fun _ => 0)]) ([16, 17, 18, 19, 20, 21, 22, 23, 24, 25, 26, 27] : List Nat) ([0, 1, 2, 3, 4, 5, 6, 7, 8, 9, 10, 11, 12, 13, 14, 15, 28] : List Nat) rfl rfl rfl rfl (by decide) (fun vr wo hp => ?_)
      obtain ⟨r_417, zd2_418, rfl, rfl, f419, f420⟩ := hp
      refine z_re F (ws' := [oX5 a1 d_2 y_3 u_4 sa_21 0 0 0 0 1 0 0 (-1) 0 xc_5, oX0 d_2 sc_20 db_9 dq_10 dt_11 0, aB K db_9 nb_6 zb2_412, aB K dq_10 32768 (fun _ => 0), aI K dt_11 64 (fun _ => 0), oX3 y_3 yk_12 yn_13 yc_14 ya_15 yd_16 yl_17 0 0 0 0, aI K yk_12 np_7 (fun _ => 0), aI K yn_13 np_7 (fun _ => 0), aI K yc_14 np_7 (fun _ => 0), aI K ya_15 na_8 (fun _ => 0), aL K yd_16 np_7 (fun _ => 0), aI K yl_17 64 (fun _ => 0), oX4 u_4 um_18 ud_19, aZ K um_18 64 (fun _ => 0), aL K ud_19 64 (fun _ => 0), aI K xc_5 np_7 (fun _ => 0), oX6 a26 0 se_27 ea_28 dk_29 wt_30 wh_31 0 nw_32 0 1 1 0 0 0 0 0 0 0 0 ki_33 ke_34 mn_35 ak_36 dg_37 uk_38 ud_39, aI K dk_29 20480 zd2_418, aI K wt_30 32768 (fun _ => 0), aI K wh_31 64 (fun _ => 0), aI K nw_32 512 (fun _ => 0), aI K ki_33 608 (fun _ => 0), aI K ke_34 608 (fun _ => 0), aI K mn_35 608 (fun _ => 0), aI K ak_36 3648 (fun _ => 0), aL K dg_37 608 (fun _ => 0), aZ K uk_38 64 (fun _ => 0), aL K ud_39 64 (fun _ => 0), aL K a42 1 (fun _ => 0)]) (st' := [.int (iZ r_417), .int (iZ r_411)]) ([0, 1, 2, 3, 4, 5, 6, 7, 8, 9, 10, 11, 12, 13, 14, 15, 17, 18, 19, 20, 21, 22, 23, 24, 25, 26, 27, 28, 16] : List Nat) rfl rfl rfl ?_
      refine z_icmp_eq F 626 dL_law_508 (by decide) (by omega) (fun c421 => ?_) (fun c421 => ?_)
      · refine z_iinc F (lv' := [(4, .int (iZ (1 + 4))), (3, .ref a42), (2, .ref a26), (1, .ref a1), (0, .ref b)]) 0 dL_law_626 rfl (by decide) rfl ?_
        refine z_goto F 33 dL_law_629 (by decide) ?_
        refine z_iload F 0 dL_law_33 rfl ?_
        refine z_aload_n F 4 dL_law_35 rfl ?_
        refine z_slen F hX dL_law_36 ?_
        refine z_iconst F dL_law_37 ?_
        refine z_isub F dL_law_38 ?_
        refine z_icmp_gt F 632 dL_law_39 (by decide) (by omega) (fun c422 => ?_) (fun c422 => ?_)
        · refine z_iconst F dL_law_632 ?_
          exact hend _ _ _ _ (by omega) (by omega)
        · exfalso; omega
      · exfalso; omega
    by_cases c423 : (zx (1 : Int).toNat) % 16 = 11
    · rw [c423]; refine z_tableIn F 11 513 dL_law_49 (by decide) (by decide) (by decide) rfl (by decide) ?_
      refine z_aload_n F 3 dL_law_513 rfl ?_
      refine z_callV F lw_good (k_X5_wrong _ D K a1 sa_21 0 0 0 0 1 0 0 (-1) 0 xc_5 u_4 d_2 sc_20 db_9 dq_10 dt_11 0 nb_6 (fun _ => 0) (fun _ => 0) (fun _ => 0) y_3 yk_12 yn_13 yc_14 ya_15 yd_16 yl_17 0 0 0 0 np_7 na_8 (fun _ => 0) (fun _ => 0) (fun _ => 0) (fun _ => 0) (fun _ => 0) (fun _ => 0) um_18 ud_19 (fun _ => 0) (fun _ => 0) (fun _ => 0) f23 f24 (by omega) (rng_0 (by omega)) (rng_0 (by omega)) (rng_0 (by omega)) (by omega) (by omega) (rng_0 (by omega)) (rng_0 (by omega)) (by first | assumption | exact nmOk_zu2 (by assumption) (by omega) | exact nmOk_0 (by assumption) | exact nmOk_z | (exfalso; omega)) (rng_0 (by omega)) (rng_0 (by omega)) (by first | assumption | exact akOk_c0 (by assumption) | exact akOk_z | (exfalso; omega)) (rng_0 (by omega)) (by omega) (by omega) (rng_0 (by omega)) (by omega) (by omega) (by omega) (by omega) (by omega) (rng_0 (by omega))) t2_190 t1_1 t2_187 t2_188 (q := (RX5, TX5, 14)) t2_189 ⟨rfl, rfl⟩ ndX5_wrong ⟨Nat.le_of_ble_eq_true rfl, Nat.le_of_ble_eq_true rfl⟩ 0 rfl rfl (rest := []) rfl (Nat.le_of_ble_eq_true rfl) dL_law_514 ⟨(show 0 + 1 + 15 + 1 + 11 + 1 + 0 ≤ 600002 by omega), (show 0 + 14 + 57000 + 26 + 60032 + 1 + 0 ≤ 7302198 by omega)⟩ (wr := [oX6 a26 0 se_27 ea_28 dk_29 wt_30 wh_31 0 nw_32 0 1 1 0 0 0 0 0 0 0 0 ki_33 ke_34 mn_35 ak_36 dg_37 uk_38 ud_39, aI K dk_29 20480 (fun _ => 0), aI K wt_30 32768 (fun _ => 0), aI K wh_31 64 (fun _ => 0), aI K nw_32 512 (fun _ => 0), aI K ki_33 608 (fun _ => 0), aI K ke_34 608 (fun _ => 0), aI K mn_35 608 (fun _ => 0), aI K ak_36 3648 (fun _ => 0), aL K dg_37 608 (fun _ => 0), aZ K uk_38 64 (fun _ => 0), aL K ud_39 64 (fun _ => 0), aL K a42 1 (fun _ => 0)]) ([0, 1, 2, 3, 4, 5, 6, 7, 8, 9, 10, 11, 12, 13, 14, 15] : List Nat) ([16, 17, 18, 19, 20, 21, 22, 23, 24, 25, 26, 27, 28] : List Nat) rfl rfl rfl rfl (by decide) (fun vr wo hp => ?_)
      obtain ⟨rfl, rfl⟩ := hp
      refine z_re F (ws' := [oX5 a1 d_2 y_3 u_4 sa_21 0 0 0 0 1 0 0 (-1) 0 xc_5, oX0 d_2 sc_20 db_9 dq_10 dt_11 0, aB K db_9 nb_6 (fun _ => 0), aB K dq_10 32768 (fun _ => 0), aI K dt_11 64 (fun _ => 0), oX3 y_3 yk_12 yn_13 yc_14 ya_15 yd_16 yl_17 0 0 0 0, aI K yk_12 np_7 (fun _ => 0), aI K yn_13 np_7 (fun _ => 0), aI K yc_14 np_7 (fun _ => 0), aI K ya_15 na_8 (fun _ => 0), aL K yd_16 np_7 (fun _ => 0), aI K yl_17 64 (fun _ => 0), oX4 u_4 um_18 ud_19, aZ K um_18 64 (fun _ => 0), aL K ud_19 64 (fun _ => 0), aI K xc_5 np_7 (fun _ => 0), oX6 a26 0 se_27 ea_28 dk_29 wt_30 wh_31 0 nw_32 0 1 1 0 0 0 0 0 0 0 0 ki_33 ke_34 mn_35 ak_36 dg_37 uk_38 ud_39, aI K dk_29 20480 (fun _ => 0), aI K wt_30 32768 (fun _ => 0), aI K wh_31 64 (fun _ => 0), aI K nw_32 512 (fun _ => 0), aI K ki_33 608 (fun _ => 0), aI K ke_34 608 (fun _ => 0), aI K mn_35 608 (fun _ => 0), aI K ak_36 3648 (fun _ => 0), aL K dg_37 608 (fun _ => 0), aZ K uk_38 64 (fun _ => 0), aL K ud_39 64 (fun _ => 0), aL K a42 1 (fun _ => 0)]) (st' := [.int (iZ 0)]) ([13, 14, 15, 16, 17, 18, 19, 20, 21, 22, 23, 24, 25, 26, 27, 28, 0, 1, 2, 3, 4, 5, 6, 7, 8, 9, 10, 11, 12] : List Nat) rfl rfl rfl ?_
      refine z_aload_n F 2 dL_law_517 rfl ?_
      refine z_callV F lw_good (k_X6_wrong _ D K a26 0 se_27 ea_28 dk_29 wt_30 wh_31 0 nw_32 0 1 1 0 0 0 0 0 0 0 0 ki_33 ke_34 mn_35 ak_36 dg_37 uk_38 ud_39 (fun _ => 0) (fun _ => 0) (fun _ => 0) (fun _ => 0) (fun _ => 0) (fun _ => 0) (fun _ => 0) (fun _ => 0) (fun _ => 0) (fun _ => 0) (fun _ => 0) f41 (by omega) (rng_0 (by omega)) (rng_0 (by omega)) (rng_0 (by omega)) (rng_0 (by omega)) (rng_0 (by omega)) (rng_0 (by omega)) (rng_0 (by omega)) (rng_0 (by omega)) (by first | assumption | exact akOk_c0 (by assumption) | exact akOk_z | (exfalso; omega)) (by omega) (by omega) (by omega) (by omega) (by omega) (by omega) (by omega) (by omega) (rng_0 (by omega)) (by omega) (by omega)) t4_67 t1_6 t4_64 t4_65 (q := (RX6, TX6, 26)) t4_66 ⟨rfl, rfl⟩ ndX6_wrong ⟨Nat.le_of_ble_eq_true rfl, Nat.le_of_ble_eq_true rfl⟩ 0 rfl rfl (rest := [.int (iZ 0)]) rfl (Nat.le_of_ble_eq_true rfl) dL_law_518 ⟨(show 0 + 1 + 15 + 1 + 11 + 1 + 0 ≤ 600002 by omega), (show 0 + 14 + 57000 + 26 + 60032 + 1 + 0 ≤ 7302198 by omega)⟩ (wr := [oX5 a1 d_2 y_3 u_4 sa_21 0 0 0 0 1 0 0 (-1) 0 xc_5, oX0 d_2 sc_20 db_9 dq_10 dt_11 0, aB K db_9 nb_6 (fun _ => 0), aB K dq_10 32768 (fun _ => 0), aI K dt_11 64 (fun _ => 0), oX3 y_3 yk_12 yn_13 yc_14 ya_15 yd_16 yl_17 0 0 0 0, aI K yk_12 np_7 (fun _ => 0), aI K yn_13 np_7 (fun _ => 0), aI K yc_14 np_7 (fun _ => 0), aI K ya_15 na_8 (fun _ => 0), aL K yd_16 np_7 (fun _ => 0), aI K yl_17 64 (fun _ => 0), oX4 u_4 um_18 ud_19, aZ K um_18 64 (fun _ => 0), aL K ud_19 64 (fun _ => 0), aI K xc_5 np_7 (fun _ => 0), aL K a42 1 (fun _ => 0)]) ([16, 17, 18, 19, 20, 21, 22, 23, 24, 25, 26, 27] : List Nat) ([0, 1, 2, 3, 4, 5, 6, 7, 8, 9, 10, 11, 12, 13, 14, 15, 28] : List Nat) rfl rfl rfl rfl (by decide) (fun vr wo hp => ?_)
      obtain ⟨rfl, rfl⟩ := hp
      refine z_re F (ws' := [oX5 a1 d_2 y_3 u_4 sa_21 0 0 0 0 1 0 0 (-1) 0 xc_5, oX0 d_2 sc_20 db_9 dq_10 dt_11 0, aB K db_9 nb_6 (fun _ => 0), aB K dq_10 32768 (fun _ => 0), aI K dt_11 64 (fun _ => 0), oX3 y_3 yk_12 yn_13 yc_14 ya_15 yd_16 yl_17 0 0 0 0, aI K yk_12 np_7 (fun _ => 0), aI K yn_13 np_7 (fun _ => 0), aI K yc_14 np_7 (fun _ => 0), aI K ya_15 na_8 (fun _ => 0), aL K yd_16 np_7 (fun _ => 0), aI K yl_17 64 (fun _ => 0), oX4 u_4 um_18 ud_19, aZ K um_18 64 (fun _ => 0), aL K ud_19 64 (fun _ => 0), aI K xc_5 np_7 (fun _ => 0), oX6 a26 0 se_27 ea_28 dk_29 wt_30 wh_31 0 nw_32 0 1 1 0 0 0 0 0 0 0 0 ki_33 ke_34 mn_35 ak_36 dg_37 uk_38 ud_39, aI K dk_29 20480 (fun _ => 0), aI K wt_30 32768 (fun _ => 0), aI K wh_31 64 (fun _ => 0), aI K nw_32 512 (fun _ => 0), aI K ki_33 608 (fun _ => 0), aI K ke_34 608 (fun _ => 0), aI K mn_35 608 (fun _ => 0), aI K ak_36 3648 (fun _ => 0), aL K dg_37 608 (fun _ => 0), aZ K uk_38 64 (fun _ => 0), aL K ud_39 64 (fun _ => 0), aL K a42 1 (fun _ => 0)]) (st' := [.int (iZ 0), .int (iZ 0)]) ([0, 1, 2, 3, 4, 5, 6, 7, 8, 9, 10, 11, 12, 13, 14, 15, 17, 18, 19, 20, 21, 22, 23, 24, 25, 26, 27, 28, 16] : List Nat) rfl rfl rfl ?_
      refine z_icmp_eq F 626 dL_law_521 (by decide) (by omega) (fun c424 => ?_) (fun c424 => ?_)
      · refine z_iinc F (lv' := [(4, .int (iZ (1 + 4))), (3, .ref a42), (2, .ref a26), (1, .ref a1), (0, .ref b)]) 0 dL_law_626 rfl (by decide) rfl ?_
        refine z_goto F 33 dL_law_629 (by decide) ?_
        refine z_iload F 0 dL_law_33 rfl ?_
        refine z_aload_n F 4 dL_law_35 rfl ?_
        refine z_slen F hX dL_law_36 ?_
        refine z_iconst F dL_law_37 ?_
        refine z_isub F dL_law_38 ?_
        refine z_icmp_gt F 632 dL_law_39 (by decide) (by omega) (fun c425 => ?_) (fun c425 => ?_)
        · refine z_iconst F dL_law_632 ?_
          exact hend _ _ _ _ (by omega) (by omega)
        · exfalso; omega
      · exfalso; omega
    by_cases c426 : (zx (1 : Int).toNat) % 16 = 12
    · rw [c426]; refine z_tableIn F 12 526 dL_law_49 (by decide) (by decide) (by decide) rfl (by decide) ?_
      refine z_aload_n F 3 dL_law_526 rfl ?_
      refine z_aload_n F 4 dL_law_527 rfl ?_
      refine z_iload F 0 dL_law_528 rfl ?_
      refine z_iconst F dL_law_530 ?_
      refine z_iadd F dL_law_531 ?_
      refine z_sld F hX (by omega) (by omega) dL_law_532 ?_
      have r427 := hzx (1 + 1 : Int).toNat
      refine z_callV F lw_good (k_X5_lock _ D K a1 sa_21 0 0 0 0 1 0 0 (-1) 0 xc_5 u_4 d_2 sc_20 db_9 dq_10 dt_11 0 nb_6 (fun _ => 0) (fun _ => 0) (fun _ => 0) y_3 yk_12 yn_13 yc_14 ya_15 yd_16 yl_17 0 0 0 0 np_7 na_8 (fun _ => 0) (fun _ => 0) (fun _ => 0) (fun _ => 0) (fun _ => 0) (fun _ => 0) um_18 ud_19 (fun _ => 0) (fun _ => 0) (fun _ => 0) (zx (1 + 1 : Int).toNat) f23 f24 (by omega) (rng_0 (by omega)) (rng_0 (by omega)) (rng_0 (by omega)) (by omega) (by omega) (rng_0 (by omega)) (rng_0 (by omega)) (by first | assumption | exact nmOk_zu2 (by assumption) (by omega) | exact nmOk_0 (by assumption) | exact nmOk_z | (exfalso; omega)) (rng_0 (by omega)) (rng_0 (by omega)) (by first | assumption | exact akOk_c0 (by assumption) | exact akOk_z | (exfalso; omega)) (rng_0 (by omega)) (by omega) (by omega) (rng_0 (by omega)) (by omega) (by omega) (by omega) (by omega) (by omega) (rng_0 (by omega)) (by omega)) t2_194 t1_1 t2_191 t2_192 (q := (RX5, TX5, 14)) t2_193 ⟨rfl, rfl⟩ ndX5_lock ⟨Nat.le_of_ble_eq_true rfl, Nat.le_of_ble_eq_true rfl⟩ 0 rfl rfl (rest := []) rfl (Nat.le_of_ble_eq_true rfl) dL_law_533 ⟨(show 0 + 1 + 15 + 1 + 11 + 1 + 0 ≤ 600002 by omega), (show 0 + 14 + 57000 + 26 + 60032 + 1 + 0 ≤ 7302198 by omega)⟩ (wr := [oX6 a26 0 se_27 ea_28 dk_29 wt_30 wh_31 0 nw_32 0 1 1 0 0 0 0 0 0 0 0 ki_33 ke_34 mn_35 ak_36 dg_37 uk_38 ud_39, aI K dk_29 20480 (fun _ => 0), aI K wt_30 32768 (fun _ => 0), aI K wh_31 64 (fun _ => 0), aI K nw_32 512 (fun _ => 0), aI K ki_33 608 (fun _ => 0), aI K ke_34 608 (fun _ => 0), aI K mn_35 608 (fun _ => 0), aI K ak_36 3648 (fun _ => 0), aL K dg_37 608 (fun _ => 0), aZ K uk_38 64 (fun _ => 0), aL K ud_39 64 (fun _ => 0), aL K a42 1 (fun _ => 0)]) ([0, 1, 2, 3, 4, 5, 6, 7, 8, 9, 10, 11, 12, 13, 14, 15] : List Nat) ([16, 17, 18, 19, 20, 21, 22, 23, 24, 25, 26, 27, 28] : List Nat) rfl rfl rfl rfl (by decide) (fun vr wo hp => ?_)
      obtain ⟨r_428, wc2_429, zb2_430, zq2_431, zt2_432, lp2_433, re2_434, wp2_435, lw2_436, zk2_437, zn2_438, zc2_439, fd2_440, zl2_441, rfl, rfl, f442, f443, f444, f445, f446, f447, f448, f449, f450, f451, f452, f453, f454, f455, f456⟩ := hp
      refine z_re F (ws' := [oX5 a1 d_2 y_3 u_4 sa_21 0 0 0 0 1 0 0 (-1) 0 xc_5, oX0 d_2 sc_20 db_9 dq_10 dt_11 wc2_429, aB K db_9 nb_6 zb2_430, aB K dq_10 32768 zq2_431, aI K dt_11 64 zt2_432, oX3 y_3 yk_12 yn_13 yc_14 ya_15 yd_16 yl_17 lp2_433 re2_434 wp2_435 lw2_436, aI K yk_12 np_7 zk2_437, aI K yn_13 np_7 zn2_438, aI K yc_14 np_7 zc2_439, aI K ya_15 na_8 (fun _ => 0), aL K yd_16 np_7 fd2_440, aI K yl_17 64 zl2_441, oX4 u_4 um_18 ud_19, aZ K um_18 64 (fun _ => 0), aL K ud_19 64 (fun _ => 0), aI K xc_5 np_7 (fun _ => 0), oX6 a26 0 se_27 ea_28 dk_29 wt_30 wh_31 0 nw_32 0 1 1 0 0 0 0 0 0 0 0 ki_33 ke_34 mn_35 ak_36 dg_37 uk_38 ud_39, aI K dk_29 20480 (fun _ => 0), aI K wt_30 32768 (fun _ => 0), aI K wh_31 64 (fun _ => 0), aI K nw_32 512 (fun _ => 0), aI K ki_33 608 (fun _ => 0), aI K ke_34 608 (fun _ => 0), aI K mn_35 608 (fun _ => 0), aI K ak_36 3648 (fun _ => 0), aL K dg_37 608 (fun _ => 0), aZ K uk_38 64 (fun _ => 0), aL K ud_39 64 (fun _ => 0), aL K a42 1 (fun _ => 0)]) (st' := [.int (iZ r_428)]) ([13, 14, 15, 16, 17, 18, 19, 20, 21, 22, 23, 24, 25, 26, 27, 28, 0, 1, 2, 3, 4, 5, 6, 7, 8, 9, 10, 11, 12] : List Nat) rfl rfl rfl ?_
      refine z_aload_n F 2 dL_law_536 rfl ?_
      refine z_aload_n F 4 dL_law_537 rfl ?_
      refine z_iload F 0 dL_law_538 rfl ?_
      refine z_iconst F dL_law_540 ?_
      refine z_iadd F dL_law_541 ?_
      refine z_sld F hX (by omega) (by omega) dL_law_542 ?_
      have r457 := hzx (1 + 1 : Int).toNat
      refine z_callV F lw_good (k_X6_lock _ D K a26 0 se_27 ea_28 dk_29 wt_30 wh_31 0 nw_32 0 1 1 0 0 0 0 0 0 0 0 ki_33 ke_34 mn_35 ak_36 dg_37 uk_38 ud_39 (fun _ => 0) (fun _ => 0) (fun _ => 0) (fun _ => 0) (fun _ => 0) (fun _ => 0) (fun _ => 0) (fun _ => 0) (fun _ => 0) (fun _ => 0) (fun _ => 0) (zx (1 + 1 : Int).toNat) f41 (by omega) (rng_0 (by omega)) (rng_0 (by omega)) (rng_0 (by omega)) (rng_0 (by omega)) (rng_0 (by omega)) (rng_0 (by omega)) (rng_0 (by omega)) (rng_0 (by omega)) (by first | assumption | exact akOk_c0 (by assumption) | exact akOk_z | (exfalso; omega)) (by omega) (by omega) (by omega) (by omega) (by omega) (by omega) (by omega) (by omega) (rng_0 (by omega)) (by omega) (by omega) (by omega)) t4_71 t1_6 t4_68 t4_69 (q := (RX6, TX6, 26)) t4_70 ⟨rfl, rfl⟩ ndX6_lock ⟨Nat.le_of_ble_eq_true rfl, Nat.le_of_ble_eq_true rfl⟩ 0 rfl rfl (rest := [.int (iZ r_428)]) rfl (Nat.le_of_ble_eq_true rfl) dL_law_543 ⟨(show 0 + 1 + 15 + 1 + 11 + 1 + 0 ≤ 600002 by omega), (show 0 + 14 + 57000 + 26 + 60032 + 1 + 0 ≤ 7302198 by omega)⟩ (wr := [oX5 a1 d_2 y_3 u_4 sa_21 0 0 0 0 1 0 0 (-1) 0 xc_5, oX0 d_2 sc_20 db_9 dq_10 dt_11 wc2_429, aB K db_9 nb_6 zb2_430, aB K dq_10 32768 zq2_431, aI K dt_11 64 zt2_432, oX3 y_3 yk_12 yn_13 yc_14 ya_15 yd_16 yl_17 lp2_433 re2_434 wp2_435 lw2_436, aI K yk_12 np_7 zk2_437, aI K yn_13 np_7 zn2_438, aI K yc_14 np_7 zc2_439, aI K ya_15 na_8 (fun _ => 0), aL K yd_16 np_7 fd2_440, aI K yl_17 64 zl2_441, oX4 u_4 um_18 ud_19, aZ K um_18 64 (fun _ => 0), aL K ud_19 64 (fun _ => 0), aI K xc_5 np_7 (fun _ => 0), aL K a42 1 (fun _ => 0)]) ([16, 17, 18, 19, 20, 21, 22, 23, 24, 25, 26, 27] : List Nat) ([0, 1, 2, 3, 4, 5, 6, 7, 8, 9, 10, 11, 12, 13, 14, 15, 28] : List Nat) rfl rfl rfl rfl (by decide) (fun vr wo hp => ?_)
      obtain ⟨r_458, en2_459, wc2_460, zd2_461, zw2_462, zh2_463, zn2_464, kz2_465, yz2_466, mz2_467, fg2_468, rfl, rfl, f469, f470, f471, f472, f473, f474, f475, f476, f477, f478, f479, f480, f481, f482⟩ := hp
      refine z_re F (ws' := [oX5 a1 d_2 y_3 u_4 sa_21 0 0 0 0 1 0 0 (-1) 0 xc_5, oX0 d_2 sc_20 db_9 dq_10 dt_11 wc2_429, aB K db_9 nb_6 zb2_430, aB K dq_10 32768 zq2_431, aI K dt_11 64 zt2_432, oX3 y_3 yk_12 yn_13 yc_14 ya_15 yd_16 yl_17 lp2_433 re2_434 wp2_435 lw2_436, aI K yk_12 np_7 zk2_437, aI K yn_13 np_7 zn2_438, aI K yc_14 np_7 zc2_439, aI K ya_15 na_8 (fun _ => 0), aL K yd_16 np_7 fd2_440, aI K yl_17 64 zl2_441, oX4 u_4 um_18 ud_19, aZ K um_18 64 (fun _ => 0), aL K ud_19 64 (fun _ => 0), aI K xc_5 np_7 (fun _ => 0), oX6 a26 0 se_27 ea_28 dk_29 wt_30 wh_31 wc2_460 nw_32 0 1 1 0 0 en2_459 0 0 0 0 0 ki_33 ke_34 mn_35 ak_36 dg_37 uk_38 ud_39, aI K dk_29 20480 zd2_461, aI K wt_30 32768 zw2_462, aI K wh_31 64 zh2_463, aI K nw_32 512 zn2_464, aI K ki_33 608 kz2_465, aI K ke_34 608 yz2_466, aI K mn_35 608 mz2_467, aI K ak_36 3648 (fun _ => 0), aL K dg_37 608 fg2_468, aZ K uk_38 64 (fun _ => 0), aL K ud_39 64 (fun _ => 0), aL K a42 1 (fun _ => 0)]) (st' := [.int (iZ r_458), .int (iZ r_428)]) ([0, 1, 2, 3, 4, 5, 6, 7, 8, 9, 10, 11, 12, 13, 14, 15, 17, 18, 19, 20, 21, 22, 23, 24, 25, 26, 27, 28, 16] : List Nat) rfl rfl rfl ?_
      refine z_icmp_eq F 626 dL_law_546 (by decide) (by omega) (fun c483 => ?_) (fun c483 => ?_)
      · refine z_iinc F (lv' := [(4, .int (iZ (1 + 4))), (3, .ref a42), (2, .ref a26), (1, .ref a1), (0, .ref b)]) 0 dL_law_626 rfl (by decide) rfl ?_
        refine z_goto F 33 dL_law_629 (by decide) ?_
        refine z_iload F 0 dL_law_33 rfl ?_
        refine z_aload_n F 4 dL_law_35 rfl ?_
        refine z_slen F hX dL_law_36 ?_
        refine z_iconst F dL_law_37 ?_
        refine z_isub F dL_law_38 ?_
        refine z_icmp_gt F 632 dL_law_39 (by decide) (by omega) (fun c484 => ?_) (fun c484 => ?_)
        · refine z_iconst F dL_law_632 ?_
          exact hend _ _ _ _ (by omega) (by omega)
        · exfalso; omega
      · exfalso; omega
    by_cases c485 : (zx (1 : Int).toNat) % 16 = 13
    · rw [c485]; refine z_tableIn F 13 551 dL_law_49 (by decide) (by decide) (by decide) rfl (by decide) ?_
      refine z_aload_n F 3 dL_law_551 rfl ?_
      refine z_aload_n F 4 dL_law_552 rfl ?_
      refine z_iload F 0 dL_law_553 rfl ?_
      refine z_iconst F dL_law_555 ?_
      refine z_iadd F dL_law_556 ?_
      refine z_sld F hX (by omega) (by omega) dL_law_557 ?_
      have r486 := hzx (1 + 1 : Int).toNat
      refine z_callV F lw_good (k_X5_dead _ D K a1 sa_21 0 0 0 0 1 0 0 (-1) 0 xc_5 u_4 d_2 sc_20 db_9 dq_10 dt_11 0 nb_6 (fun _ => 0) (fun _ => 0) (fun _ => 0) y_3 yk_12 yn_13 yc_14 ya_15 yd_16 yl_17 0 0 0 0 np_7 na_8 (fun _ => 0) (fun _ => 0) (fun _ => 0) (fun _ => 0) (fun _ => 0) (fun _ => 0) um_18 ud_19 (fun _ => 0) (fun _ => 0) (fun _ => 0) (zx (1 + 1 : Int).toNat) f23 f24 (by omega) (rng_0 (by omega)) (rng_0 (by omega)) (rng_0 (by omega)) (by omega) (by omega) (rng_0 (by omega)) (rng_0 (by omega)) (by first | assumption | exact nmOk_zu2 (by assumption) (by omega) | exact nmOk_0 (by assumption) | exact nmOk_z | (exfalso; omega)) (rng_0 (by omega)) (rng_0 (by omega)) (by first | assumption | exact akOk_c0 (by assumption) | exact akOk_z | (exfalso; omega)) (rng_0 (by omega)) (by omega) (by omega) (rng_0 (by omega)) (by omega) (by omega) (by omega) (by omega) (by omega) (rng_0 (by omega)) (by omega)) t2_203 t1_1 t2_200 t2_201 (q := (RX5, TX5, 14)) t2_202 ⟨rfl, rfl⟩ ndX5_dead ⟨Nat.le_of_ble_eq_true rfl, Nat.le_of_ble_eq_true rfl⟩ 0 rfl rfl (rest := []) rfl (Nat.le_of_ble_eq_true rfl) dL_law_558 ⟨(show 0 + 1 + 15 + 1 + 11 + 1 + 0 ≤ 600002 by omega), (show 0 + 14 + 57000 + 26 + 60032 + 1 + 0 ≤ 7302198 by omega)⟩ (wr := [oX6 a26 0 se_27 ea_28 dk_29 wt_30 wh_31 0 nw_32 0 1 1 0 0 0 0 0 0 0 0 ki_33 ke_34 mn_35 ak_36 dg_37 uk_38 ud_39, aI K dk_29 20480 (fun _ => 0), aI K wt_30 32768 (fun _ => 0), aI K wh_31 64 (fun _ => 0), aI K nw_32 512 (fun _ => 0), aI K ki_33 608 (fun _ => 0), aI K ke_34 608 (fun _ => 0), aI K mn_35 608 (fun _ => 0), aI K ak_36 3648 (fun _ => 0), aL K dg_37 608 (fun _ => 0), aZ K uk_38 64 (fun _ => 0), aL K ud_39 64 (fun _ => 0), aL K a42 1 (fun _ => 0)]) ([0, 1, 2, 3, 4, 5, 6, 7, 8, 9, 10, 11, 12, 13, 14, 15] : List Nat) ([16, 17, 18, 19, 20, 21, 22, 23, 24, 25, 26, 27, 28] : List Nat) rfl rfl rfl rfl (by decide) (fun vr wo hp => ?_)
      obtain ⟨r_487, wc2_488, zb2_489, zq2_490, zt2_491, lp2_492, re2_493, wp2_494, lw2_495, zk2_496, zn2_497, zc2_498, fd2_499, zl2_500, rfl, rfl, f501, f502, f503, f504, f505, f506, f507, f508, f509, f510, f511, f512, f513, f514, f515⟩ := hp
      refine z_re F (ws' := [oX5 a1 d_2 y_3 u_4 sa_21 0 0 0 0 1 0 0 (-1) 0 xc_5, oX0 d_2 sc_20 db_9 dq_10 dt_11 wc2_488, aB K db_9 nb_6 zb2_489, aB K dq_10 32768 zq2_490, aI K dt_11 64 zt2_491, oX3 y_3 yk_12 yn_13 yc_14 ya_15 yd_16 yl_17 lp2_492 re2_493 wp2_494 lw2_495, aI K yk_12 np_7 zk2_496, aI K yn_13 np_7 zn2_497, aI K yc_14 np_7 zc2_498, aI K ya_15 na_8 (fun _ => 0), aL K yd_16 np_7 fd2_499, aI K yl_17 64 zl2_500, oX4 u_4 um_18 ud_19, aZ K um_18 64 (fun _ => 0), aL K ud_19 64 (fun _ => 0), aI K xc_5 np_7 (fun _ => 0), oX6 a26 0 se_27 ea_28 dk_29 wt_30 wh_31 0 nw_32 0 1 1 0 0 0 0 0 0 0 0 ki_33 ke_34 mn_35 ak_36 dg_37 uk_38 ud_39, aI K dk_29 20480 (fun _ => 0), aI K wt_30 32768 (fun _ => 0), aI K wh_31 64 (fun _ => 0), aI K nw_32 512 (fun _ => 0), aI K ki_33 608 (fun _ => 0), aI K ke_34 608 (fun _ => 0), aI K mn_35 608 (fun _ => 0), aI K ak_36 3648 (fun _ => 0), aL K dg_37 608 (fun _ => 0), aZ K uk_38 64 (fun _ => 0), aL K ud_39 64 (fun _ => 0), aL K a42 1 (fun _ => 0)]) (st' := [.int (iZ r_487)]) ([13, 14, 15, 16, 17, 18, 19, 20, 21, 22, 23, 24, 25, 26, 27, 28, 0, 1, 2, 3, 4, 5, 6, 7, 8, 9, 10, 11, 12] : List Nat) rfl rfl rfl ?_
      refine z_aload_n F 2 dL_law_561 rfl ?_
      refine z_aload_n F 4 dL_law_562 rfl ?_
      refine z_iload F 0 dL_law_563 rfl ?_
      refine z_iconst F dL_law_565 ?_
      refine z_iadd F dL_law_566 ?_
      refine z_sld F hX (by omega) (by omega) dL_law_567 ?_
      have r516 := hzx (1 + 1 : Int).toNat
      refine z_callV F lw_good (k_X6_dead _ D K a26 0 se_27 ea_28 dk_29 wt_30 wh_31 0 nw_32 0 1 1 0 0 0 0 0 0 0 0 ki_33 ke_34 mn_35 ak_36 dg_37 uk_38 ud_39 (fun _ => 0) (fun _ => 0) (fun _ => 0) (fun _ => 0) (fun _ => 0) (fun _ => 0) (fun _ => 0) (fun _ => 0) (fun _ => 0) (fun _ => 0) (fun _ => 0) (zx (1 + 1 : Int).toNat) f41 (by omega) (rng_0 (by omega)) (rng_0 (by omega)) (rng_0 (by omega)) (rng_0 (by omega)) (rng_0 (by omega)) (rng_0 (by omega)) (rng_0 (by omega)) (rng_0 (by omega)) (by first | assumption | exact akOk_c0 (by assumption) | exact akOk_z | (exfalso; omega)) (by omega) (by omega) (by omega) (by omega) (by omega) (by omega) (by omega) (by omega) (rng_0 (by omega)) (by omega) (by omega) (by omega)) t4_79 t1_6 t4_76 t4_77 (q := (RX6, TX6, 26)) t4_78 ⟨rfl, rfl⟩ ndX6_dead ⟨Nat.le_of_ble_eq_true rfl, Nat.le_of_ble_eq_true rfl⟩ 0 rfl rfl (rest := [.int (iZ r_487)]) rfl (Nat.le_of_ble_eq_true rfl) dL_law_568 ⟨(show 0 + 1 + 15 + 1 + 11 + 1 + 0 ≤ 600002 by omega), (show 0 + 14 + 57000 + 26 + 60032 + 1 + 0 ≤ 7302198 by omega)⟩ (wr := [oX5 a1 d_2 y_3 u_4 sa_21 0 0 0 0 1 0 0 (-1) 0 xc_5, oX0 d_2 sc_20 db_9 dq_10 dt_11 wc2_488, aB K db_9 nb_6 zb2_489, aB K dq_10 32768 zq2_490, aI K dt_11 64 zt2_491, oX3 y_3 yk_12 yn_13 yc_14 ya_15 yd_16 yl_17 lp2_492 re2_493 wp2_494 lw2_495, aI K yk_12 np_7 zk2_496, aI K yn_13 np_7 zn2_497, aI K yc_14 np_7 zc2_498, aI K ya_15 na_8 (fun _ => 0), aL K yd_16 np_7 fd2_499, aI K yl_17 64 zl2_500, oX4 u_4 um_18 ud_19, aZ K um_18 64 (fun _ => 0), aL K ud_19 64 (fun _ => 0), aI K xc_5 np_7 (fun _ => 0), aL K a42 1 (fun _ => 0)]) ([16, 17, 18, 19, 20, 21, 22, 23, 24, 25, 26, 27] : List Nat) ([0, 1, 2, 3, 4, 5, 6, 7, 8, 9, 10, 11, 12, 13, 14, 15, 28] : List Nat) rfl rfl rfl rfl (by decide) (fun vr wo hp => ?_)
      obtain ⟨r_517, en2_518, wc2_519, zd2_520, zw2_521, zh2_522, zn2_523, kz2_524, yz2_525, mz2_526, fg2_527, rfl, rfl, f528, f529, f530, f531, f532, f533, f534, f535, f536, f537, f538, f539, f540, f541⟩ := hp
      refine z_re F (ws' := [oX5 a1 d_2 y_3 u_4 sa_21 0 0 0 0 1 0 0 (-1) 0 xc_5, oX0 d_2 sc_20 db_9 dq_10 dt_11 wc2_488, aB K db_9 nb_6 zb2_489, aB K dq_10 32768 zq2_490, aI K dt_11 64 zt2_491, oX3 y_3 yk_12 yn_13 yc_14 ya_15 yd_16 yl_17 lp2_492 re2_493 wp2_494 lw2_495, aI K yk_12 np_7 zk2_496, aI K yn_13 np_7 zn2_497, aI K yc_14 np_7 zc2_498, aI K ya_15 na_8 (fun _ => 0), aL K yd_16 np_7 fd2_499, aI K yl_17 64 zl2_500, oX4 u_4 um_18 ud_19, aZ K um_18 64 (fun _ => 0), aL K ud_19 64 (fun _ => 0), aI K xc_5 np_7 (fun _ => 0), oX6 a26 0 se_27 ea_28 dk_29 wt_30 wh_31 wc2_519 nw_32 0 1 1 0 0 en2_518 0 0 0 0 0 ki_33 ke_34 mn_35 ak_36 dg_37 uk_38 ud_39, aI K dk_29 20480 zd2_520, aI K wt_30 32768 zw2_521, aI K wh_31 64 zh2_522, aI K nw_32 512 zn2_523, aI K ki_33 608 kz2_524, aI K ke_34 608 yz2_525, aI K mn_35 608 mz2_526, aI K ak_36 3648 (fun _ => 0), aL K dg_37 608 fg2_527, aZ K uk_38 64 (fun _ => 0), aL K ud_39 64 (fun _ => 0), aL K a42 1 (fun _ => 0)]) (st' := [.int (iZ r_517), .int (iZ r_487)]) ([0, 1, 2, 3, 4, 5, 6, 7, 8, 9, 10, 11, 12, 13, 14, 15, 17, 18, 19, 20, 21, 22, 23, 24, 25, 26, 27, 28, 16] : List Nat) rfl rfl rfl ?_
      refine z_icmp_eq F 626 dL_law_571 (by decide) (by omega) (fun c542 => ?_) (fun c542 => ?_)
      · refine z_iinc F (lv' := [(4, .int (iZ (1 + 4))), (3, .ref a42), (2, .ref a26), (1, .ref a1), (0, .ref b)]) 0 dL_law_626 rfl (by decide) rfl ?_
        refine z_goto F 33 dL_law_629 (by decide) ?_
        refine z_iload F 0 dL_law_33 rfl ?_
        refine z_aload_n F 4 dL_law_35 rfl ?_
        refine z_slen F hX dL_law_36 ?_
        refine z_iconst F dL_law_37 ?_
        refine z_isub F dL_law_38 ?_
        refine z_icmp_gt F 632 dL_law_39 (by decide) (by omega) (fun c543 => ?_) (fun c543 => ?_)
        · refine z_iconst F dL_law_632 ?_
          exact hend _ _ _ _ (by omega) (by omega)
        · exfalso; omega
      · exfalso; omega
    by_cases c544 : (zx (1 : Int).toNat) % 16 = 14
    · rw [c544]; refine z_tableIn F 14 576 dL_law_49 (by decide) (by decide) (by decide) rfl (by decide) ?_
      refine z_aload_n F 3 dL_law_576 rfl ?_
      refine z_aload_n F 4 dL_law_577 rfl ?_
      refine z_iload F 0 dL_law_578 rfl ?_
      refine z_iconst F dL_law_580 ?_
      refine z_iadd F dL_law_581 ?_
      refine z_sld F hX (by omega) (by omega) dL_law_582 ?_
      have r545 := hzx (1 + 1 : Int).toNat
      refine z_callV F lw_good (k_X5_edition _ D K a1 sa_21 0 0 0 0 1 0 0 (-1) 0 xc_5 u_4 d_2 sc_20 db_9 dq_10 dt_11 0 nb_6 (fun _ => 0) (fun _ => 0) (fun _ => 0) y_3 yk_12 yn_13 yc_14 ya_15 yd_16 yl_17 0 0 0 0 np_7 na_8 (fun _ => 0) (fun _ => 0) (fun _ => 0) (fun _ => 0) (fun _ => 0) (fun _ => 0) um_18 ud_19 (fun _ => 0) (fun _ => 0) (fun _ => 0) (zx (1 + 1 : Int).toNat) f23 f24 (by omega) (rng_0 (by omega)) (rng_0 (by omega)) (rng_0 (by omega)) (by omega) (by omega) (rng_0 (by omega)) (rng_0 (by omega)) (by first | assumption | exact nmOk_zu2 (by assumption) (by omega) | exact nmOk_0 (by assumption) | exact nmOk_z | (exfalso; omega)) (rng_0 (by omega)) (rng_0 (by omega)) (by first | assumption | exact akOk_c0 (by assumption) | exact akOk_z | (exfalso; omega)) (rng_0 (by omega)) (by omega) (by omega) (rng_0 (by omega)) (by omega) (by omega) (by omega) (by omega) (by omega) (rng_0 (by omega)) (by omega)) t2_207 t1_1 t2_204 t2_205 (q := (RX5, TX5, 14)) t2_206 ⟨rfl, rfl⟩ ndX5_edition ⟨Nat.le_of_ble_eq_true rfl, Nat.le_of_ble_eq_true rfl⟩ 0 rfl rfl (rest := []) rfl (Nat.le_of_ble_eq_true rfl) dL_law_583 ⟨(show 0 + 1 + 15 + 1 + 11 + 1 + 0 ≤ 600002 by omega), (show 0 + 14 + 57000 + 26 + 60032 + 1 + 0 ≤ 7302198 by omega)⟩ (wr := [oX6 a26 0 se_27 ea_28 dk_29 wt_30 wh_31 0 nw_32 0 1 1 0 0 0 0 0 0 0 0 ki_33 ke_34 mn_35 ak_36 dg_37 uk_38 ud_39, aI K dk_29 20480 (fun _ => 0), aI K wt_30 32768 (fun _ => 0), aI K wh_31 64 (fun _ => 0), aI K nw_32 512 (fun _ => 0), aI K ki_33 608 (fun _ => 0), aI K ke_34 608 (fun _ => 0), aI K mn_35 608 (fun _ => 0), aI K ak_36 3648 (fun _ => 0), aL K dg_37 608 (fun _ => 0), aZ K uk_38 64 (fun _ => 0), aL K ud_39 64 (fun _ => 0), aL K a42 1 (fun _ => 0)]) ([0, 1, 2, 3, 4, 5, 6, 7, 8, 9, 10, 11, 12, 13, 14, 15] : List Nat) ([16, 17, 18, 19, 20, 21, 22, 23, 24, 25, 26, 27, 28] : List Nat) rfl rfl rfl rfl (by decide) (fun vr wo hp => ?_)
      obtain ⟨r_546, ne2_547, rfl, rfl, f548, f549⟩ := hp
      refine z_re F (ws' := [oX5 a1 d_2 y_3 u_4 sa_21 0 0 0 0 ne2_547 0 0 (-1) 0 xc_5, oX0 d_2 sc_20 db_9 dq_10 dt_11 0, aB K db_9 nb_6 (fun _ => 0), aB K dq_10 32768 (fun _ => 0), aI K dt_11 64 (fun _ => 0), oX3 y_3 yk_12 yn_13 yc_14 ya_15 yd_16 yl_17 0 0 0 0, aI K yk_12 np_7 (fun _ => 0), aI K yn_13 np_7 (fun _ => 0), aI K yc_14 np_7 (fun _ => 0), aI K ya_15 na_8 (fun _ => 0), aL K yd_16 np_7 (fun _ => 0), aI K yl_17 64 (fun _ => 0), oX4 u_4 um_18 ud_19, aZ K um_18 64 (fun _ => 0), aL K ud_19 64 (fun _ => 0), aI K xc_5 np_7 (fun _ => 0), oX6 a26 0 se_27 ea_28 dk_29 wt_30 wh_31 0 nw_32 0 1 1 0 0 0 0 0 0 0 0 ki_33 ke_34 mn_35 ak_36 dg_37 uk_38 ud_39, aI K dk_29 20480 (fun _ => 0), aI K wt_30 32768 (fun _ => 0), aI K wh_31 64 (fun _ => 0), aI K nw_32 512 (fun _ => 0), aI K ki_33 608 (fun _ => 0), aI K ke_34 608 (fun _ => 0), aI K mn_35 608 (fun _ => 0), aI K ak_36 3648 (fun _ => 0), aL K dg_37 608 (fun _ => 0), aZ K uk_38 64 (fun _ => 0), aL K ud_39 64 (fun _ => 0), aL K a42 1 (fun _ => 0)]) (st' := [.int (iZ r_546)]) ([13, 14, 15, 16, 17, 18, 19, 20, 21, 22, 23, 24, 25, 26, 27, 28, 0, 1, 2, 3, 4, 5, 6, 7, 8, 9, 10, 11, 12] : List Nat) rfl rfl rfl ?_
      refine z_aload_n F 2 dL_law_586 rfl ?_
      refine z_aload_n F 4 dL_law_587 rfl ?_
      refine z_iload F 0 dL_law_588 rfl ?_
      refine z_iconst F dL_law_590 ?_
      refine z_iadd F dL_law_591 ?_
      refine z_sld F hX (by omega) (by omega) dL_law_592 ?_
      have r550 := hzx (1 + 1 : Int).toNat
      refine z_callV F lw_good (k_X6_edition _ D K a26 0 se_27 ea_28 dk_29 wt_30 wh_31 0 nw_32 0 1 1 0 0 0 0 0 0 0 0 ki_33 ke_34 mn_35 ak_36 dg_37 uk_38 ud_39 (fun _ => 0) (fun _ => 0) (fun _ => 0) (fun _ => 0) (fun _ => 0) (fun _ => 0) (fun _ => 0) (fun _ => 0) (fun _ => 0) (fun _ => 0) (fun _ => 0) (zx (1 + 1 : Int).toNat) f41 (by omega) (rng_0 (by omega)) (rng_0 (by omega)) (rng_0 (by omega)) (rng_0 (by omega)) (rng_0 (by omega)) (rng_0 (by omega)) (rng_0 (by omega)) (rng_0 (by omega)) (by first | assumption | exact akOk_c0 (by assumption) | exact akOk_z | (exfalso; omega)) (by omega) (by omega) (by omega) (by omega) (by omega) (by omega) (by omega) (by omega) (rng_0 (by omega)) (by omega) (by omega) (by omega)) t4_83 t1_6 t4_80 t4_81 (q := (RX6, TX6, 26)) t4_82 ⟨rfl, rfl⟩ ndX6_edition ⟨Nat.le_of_ble_eq_true rfl, Nat.le_of_ble_eq_true rfl⟩ 0 rfl rfl (rest := [.int (iZ r_546)]) rfl (Nat.le_of_ble_eq_true rfl) dL_law_593 ⟨(show 0 + 1 + 15 + 1 + 11 + 1 + 0 ≤ 600002 by omega), (show 0 + 14 + 57000 + 26 + 60032 + 1 + 0 ≤ 7302198 by omega)⟩ (wr := [oX5 a1 d_2 y_3 u_4 sa_21 0 0 0 0 ne2_547 0 0 (-1) 0 xc_5, oX0 d_2 sc_20 db_9 dq_10 dt_11 0, aB K db_9 nb_6 (fun _ => 0), aB K dq_10 32768 (fun _ => 0), aI K dt_11 64 (fun _ => 0), oX3 y_3 yk_12 yn_13 yc_14 ya_15 yd_16 yl_17 0 0 0 0, aI K yk_12 np_7 (fun _ => 0), aI K yn_13 np_7 (fun _ => 0), aI K yc_14 np_7 (fun _ => 0), aI K ya_15 na_8 (fun _ => 0), aL K yd_16 np_7 (fun _ => 0), aI K yl_17 64 (fun _ => 0), oX4 u_4 um_18 ud_19, aZ K um_18 64 (fun _ => 0), aL K ud_19 64 (fun _ => 0), aI K xc_5 np_7 (fun _ => 0), aL K a42 1 (fun _ => 0)]) ([16, 17, 18, 19, 20, 21, 22, 23, 24, 25, 26, 27] : List Nat) ([0, 1, 2, 3, 4, 5, 6, 7, 8, 9, 10, 11, 12, 13, 14, 15, 28] : List Nat) rfl rfl rfl rfl (by decide) (fun vr wo hp => ?_)
      obtain ⟨r_551, wa2_552, rfl, rfl, f553, f554⟩ := hp
      refine z_re F (ws' := [oX5 a1 d_2 y_3 u_4 sa_21 0 0 0 0 ne2_547 0 0 (-1) 0 xc_5, oX0 d_2 sc_20 db_9 dq_10 dt_11 0, aB K db_9 nb_6 (fun _ => 0), aB K dq_10 32768 (fun _ => 0), aI K dt_11 64 (fun _ => 0), oX3 y_3 yk_12 yn_13 yc_14 ya_15 yd_16 yl_17 0 0 0 0, aI K yk_12 np_7 (fun _ => 0), aI K yn_13 np_7 (fun _ => 0), aI K yc_14 np_7 (fun _ => 0), aI K ya_15 na_8 (fun _ => 0), aL K yd_16 np_7 (fun _ => 0), aI K yl_17 64 (fun _ => 0), oX4 u_4 um_18 ud_19, aZ K um_18 64 (fun _ => 0), aL K ud_19 64 (fun _ => 0), aI K xc_5 np_7 (fun _ => 0), oX6 a26 0 se_27 ea_28 dk_29 wt_30 wh_31 0 nw_32 0 1 wa2_552 0 0 0 0 0 0 0 0 ki_33 ke_34 mn_35 ak_36 dg_37 uk_38 ud_39, aI K dk_29 20480 (fun _ => 0), aI K wt_30 32768 (fun _ => 0), aI K wh_31 64 (fun _ => 0), aI K nw_32 512 (fun _ => 0), aI K ki_33 608 (fun _ => 0), aI K ke_34 608 (fun _ => 0), aI K mn_35 608 (fun _ => 0), aI K ak_36 3648 (fun _ => 0), aL K dg_37 608 (fun _ => 0), aZ K uk_38 64 (fun _ => 0), aL K ud_39 64 (fun _ => 0), aL K a42 1 (fun _ => 0)]) (st' := [.int (iZ r_551), .int (iZ r_546)]) ([0, 1, 2, 3, 4, 5, 6, 7, 8, 9, 10, 11, 12, 13, 14, 15, 17, 18, 19, 20, 21, 22, 23, 24, 25, 26, 27, 28, 16] : List Nat) rfl rfl rfl ?_
      refine z_icmp_eq F 626 dL_law_596 (by decide) (by omega) (fun c555 => ?_) (fun c555 => ?_)
      · refine z_iinc F (lv' := [(4, .int (iZ (1 + 4))), (3, .ref a42), (2, .ref a26), (1, .ref a1), (0, .ref b)]) 0 dL_law_626 rfl (by decide) rfl ?_
        refine z_goto F 33 dL_law_629 (by decide) ?_
        refine z_iload F 0 dL_law_33 rfl ?_
        refine z_aload_n F 4 dL_law_35 rfl ?_
        refine z_slen F hX dL_law_36 ?_
        refine z_iconst F dL_law_37 ?_
        refine z_isub F dL_law_38 ?_
        refine z_icmp_gt F 632 dL_law_39 (by decide) (by omega) (fun c556 => ?_) (fun c556 => ?_)
        · refine z_iconst F dL_law_632 ?_
          exact hend _ _ _ _ (by omega) (by omega)
        · exfalso; omega
      · exfalso; omega
    by_cases c557 : (zx (1 : Int).toNat) % 16 = 15
    · rw [c557]; refine z_tableIn F 15 601 dL_law_49 (by decide) (by decide) (by decide) rfl (by decide) ?_
      refine z_aload_n F 3 dL_law_601 rfl ?_
      refine z_aload_n F 4 dL_law_602 rfl ?_
      refine z_iload F 0 dL_law_603 rfl ?_
      refine z_iconst F dL_law_605 ?_
      refine z_iadd F dL_law_606 ?_
      refine z_sld F hX (by omega) (by omega) dL_law_607 ?_
      have r558 := hzx (1 + 1 : Int).toNat
      refine z_callV F lw_good (k_X5_about _ D K a1 sa_21 0 0 0 0 1 0 0 (-1) 0 xc_5 u_4 d_2 sc_20 db_9 dq_10 dt_11 0 nb_6 (fun _ => 0) (fun _ => 0) (fun _ => 0) y_3 yk_12 yn_13 yc_14 ya_15 yd_16 yl_17 0 0 0 0 np_7 na_8 (fun _ => 0) (fun _ => 0) (fun _ => 0) (fun _ => 0) (fun _ => 0) (fun _ => 0) um_18 ud_19 (fun _ => 0) (fun _ => 0) (fun _ => 0) (zx (1 + 1 : Int).toNat) f23 f24 (by omega) (rng_0 (by omega)) (rng_0 (by omega)) (rng_0 (by omega)) (by omega) (by omega) (rng_0 (by omega)) (rng_0 (by omega)) (by first | assumption | exact nmOk_zu2 (by assumption) (by omega) | exact nmOk_0 (by assumption) | exact nmOk_z | (exfalso; omega)) (rng_0 (by omega)) (rng_0 (by omega)) (by first | assumption | exact akOk_c0 (by assumption) | exact akOk_z | (exfalso; omega)) (rng_0 (by omega)) (by omega) (by omega) (rng_0 (by omega)) (by omega) (by omega) (by omega) (by omega) (by omega) (rng_0 (by omega)) (by omega)) t2_211 t1_1 t2_208 t2_209 (q := (RX5, TX5, 14)) t2_210 ⟨rfl, rfl⟩ ndX5_about ⟨Nat.le_of_ble_eq_true rfl, Nat.le_of_ble_eq_true rfl⟩ 0 rfl rfl (rest := []) rfl (Nat.le_of_ble_eq_true rfl) dL_law_608 ⟨(show 0 + 1 + 15 + 1 + 11 + 1 + 0 ≤ 600002 by omega), (show 0 + 14 + 57000 + 26 + 60032 + 1 + 0 ≤ 7302198 by omega)⟩ (wr := [oX6 a26 0 se_27 ea_28 dk_29 wt_30 wh_31 0 nw_32 0 1 1 0 0 0 0 0 0 0 0 ki_33 ke_34 mn_35 ak_36 dg_37 uk_38 ud_39, aI K dk_29 20480 (fun _ => 0), aI K wt_30 32768 (fun _ => 0), aI K wh_31 64 (fun _ => 0), aI K nw_32 512 (fun _ => 0), aI K ki_33 608 (fun _ => 0), aI K ke_34 608 (fun _ => 0), aI K mn_35 608 (fun _ => 0), aI K ak_36 3648 (fun _ => 0), aL K dg_37 608 (fun _ => 0), aZ K uk_38 64 (fun _ => 0), aL K ud_39 64 (fun _ => 0), aL K a42 1 (fun _ => 0)]) ([0, 1, 2, 3, 4, 5, 6, 7, 8, 9, 10, 11, 12, 13, 14, 15] : List Nat) ([16, 17, 18, 19, 20, 21, 22, 23, 24, 25, 26, 27, 28] : List Nat) rfl rfl rfl rfl (by decide) (fun vr wo hp => ?_)
      obtain ⟨r_559, rfl, rfl, f560⟩ := hp
      refine z_re F (ws' := [oX5 a1 d_2 y_3 u_4 sa_21 0 0 0 0 1 0 0 (-1) 0 xc_5, oX0 d_2 sc_20 db_9 dq_10 dt_11 0, aB K db_9 nb_6 (fun _ => 0), aB K dq_10 32768 (fun _ => 0), aI K dt_11 64 (fun _ => 0), oX3 y_3 yk_12 yn_13 yc_14 ya_15 yd_16 yl_17 0 0 0 0, aI K yk_12 np_7 (fun _ => 0), aI K yn_13 np_7 (fun _ => 0), aI K yc_14 np_7 (fun _ => 0), aI K ya_15 na_8 (fun _ => 0), aL K yd_16 np_7 (fun _ => 0), aI K yl_17 64 (fun _ => 0), oX4 u_4 um_18 ud_19, aZ K um_18 64 (fun _ => 0), aL K ud_19 64 (fun _ => 0), aI K xc_5 np_7 (fun _ => 0), oX6 a26 0 se_27 ea_28 dk_29 wt_30 wh_31 0 nw_32 0 1 1 0 0 0 0 0 0 0 0 ki_33 ke_34 mn_35 ak_36 dg_37 uk_38 ud_39, aI K dk_29 20480 (fun _ => 0), aI K wt_30 32768 (fun _ => 0), aI K wh_31 64 (fun _ => 0), aI K nw_32 512 (fun _ => 0), aI K ki_33 608 (fun _ => 0), aI K ke_34 608 (fun _ => 0), aI K mn_35 608 (fun _ => 0), aI K ak_36 3648 (fun _ => 0), aL K dg_37 608 (fun _ => 0), aZ K uk_38 64 (fun _ => 0), aL K ud_39 64 (fun _ => 0), aL K a42 1 (fun _ => 0)]) (st' := [.int (iZ r_559)]) ([13, 14, 15, 16, 17, 18, 19, 20, 21, 22, 23, 24, 25, 26, 27, 28, 0, 1, 2, 3, 4, 5, 6, 7, 8, 9, 10, 11, 12] : List Nat) rfl rfl rfl ?_
      refine z_aload_n F 2 dL_law_611 rfl ?_
      refine z_aload_n F 4 dL_law_612 rfl ?_
      refine z_iload F 0 dL_law_613 rfl ?_
      refine z_iconst F dL_law_615 ?_
      refine z_iadd F dL_law_616 ?_
      refine z_sld F hX (by omega) (by omega) dL_law_617 ?_
      have r561 := hzx (1 + 1 : Int).toNat
      refine z_callV F lw_good (k_X6_about _ D K a26 0 se_27 ea_28 dk_29 wt_30 wh_31 0 nw_32 0 1 1 0 0 0 0 0 0 0 0 ki_33 ke_34 mn_35 ak_36 dg_37 uk_38 ud_39 (fun _ => 0) (fun _ => 0) (fun _ => 0) (fun _ => 0) (fun _ => 0) (fun _ => 0) (fun _ => 0) (fun _ => 0) (fun _ => 0) (fun _ => 0) (fun _ => 0) (zx (1 + 1 : Int).toNat) f41 (by omega) (rng_0 (by omega)) (rng_0 (by omega)) (rng_0 (by omega)) (rng_0 (by omega)) (rng_0 (by omega)) (rng_0 (by omega)) (rng_0 (by omega)) (rng_0 (by omega)) (by first | assumption | exact akOk_c0 (by assumption) | exact akOk_z | (exfalso; omega)) (by omega) (by omega) (by omega) (by omega) (by omega) (by omega) (by omega) (by omega) (rng_0 (by omega)) (by omega) (by omega) (by omega)) t4_87 t1_6 t4_84 t4_85 (q := (RX6, TX6, 26)) t4_86 ⟨rfl, rfl⟩ ndX6_about ⟨Nat.le_of_ble_eq_true rfl, Nat.le_of_ble_eq_true rfl⟩ 0 rfl rfl (rest := [.int (iZ r_559)]) rfl (Nat.le_of_ble_eq_true rfl) dL_law_618 ⟨(show 0 + 1 + 15 + 1 + 11 + 1 + 0 ≤ 600002 by omega), (show 0 + 14 + 57000 + 26 + 60032 + 1 + 0 ≤ 7302198 by omega)⟩ (wr := [oX5 a1 d_2 y_3 u_4 sa_21 0 0 0 0 1 0 0 (-1) 0 xc_5, oX0 d_2 sc_20 db_9 dq_10 dt_11 0, aB K db_9 nb_6 (fun _ => 0), aB K dq_10 32768 (fun _ => 0), aI K dt_11 64 (fun _ => 0), oX3 y_3 yk_12 yn_13 yc_14 ya_15 yd_16 yl_17 0 0 0 0, aI K yk_12 np_7 (fun _ => 0), aI K yn_13 np_7 (fun _ => 0), aI K yc_14 np_7 (fun _ => 0), aI K ya_15 na_8 (fun _ => 0), aL K yd_16 np_7 (fun _ => 0), aI K yl_17 64 (fun _ => 0), oX4 u_4 um_18 ud_19, aZ K um_18 64 (fun _ => 0), aL K ud_19 64 (fun _ => 0), aI K xc_5 np_7 (fun _ => 0), aL K a42 1 (fun _ => 0)]) ([16, 17, 18, 19, 20, 21, 22, 23, 24, 25, 26, 27] : List Nat) ([0, 1, 2, 3, 4, 5, 6, 7, 8, 9, 10, 11, 12, 13, 14, 15, 28] : List Nat) rfl rfl rfl rfl (by decide) (fun vr wo hp => ?_)
      obtain ⟨r_562, rfl, rfl, f563⟩ := hp
      refine z_re F (ws' := [oX5 a1 d_2 y_3 u_4 sa_21 0 0 0 0 1 0 0 (-1) 0 xc_5, oX0 d_2 sc_20 db_9 dq_10 dt_11 0, aB K db_9 nb_6 (fun _ => 0), aB K dq_10 32768 (fun _ => 0), aI K dt_11 64 (fun _ => 0), oX3 y_3 yk_12 yn_13 yc_14 ya_15 yd_16 yl_17 0 0 0 0, aI K yk_12 np_7 (fun _ => 0), aI K yn_13 np_7 (fun _ => 0), aI K yc_14 np_7 (fun _ => 0), aI K ya_15 na_8 (fun _ => 0), aL K yd_16 np_7 (fun _ => 0), aI K yl_17 64 (fun _ => 0), oX4 u_4 um_18 ud_19, aZ K um_18 64 (fun _ => 0), aL K ud_19 64 (fun _ => 0), aI K xc_5 np_7 (fun _ => 0), oX6 a26 0 se_27 ea_28 dk_29 wt_30 wh_31 0 nw_32 0 1 1 0 0 0 0 0 0 0 0 ki_33 ke_34 mn_35 ak_36 dg_37 uk_38 ud_39, aI K dk_29 20480 (fun _ => 0), aI K wt_30 32768 (fun _ => 0), aI K wh_31 64 (fun _ => 0), aI K nw_32 512 (fun _ => 0), aI K ki_33 608 (fun _ => 0), aI K ke_34 608 (fun _ => 0), aI K mn_35 608 (fun _ => 0), aI K ak_36 3648 (fun _ => 0), aL K dg_37 608 (fun _ => 0), aZ K uk_38 64 (fun _ => 0), aL K ud_39 64 (fun _ => 0), aL K a42 1 (fun _ => 0)]) (st' := [.int (iZ r_562), .int (iZ r_559)]) ([0, 1, 2, 3, 4, 5, 6, 7, 8, 9, 10, 11, 12, 13, 14, 15, 17, 18, 19, 20, 21, 22, 23, 24, 25, 26, 27, 28, 16] : List Nat) rfl rfl rfl ?_
      refine z_icmp_eq F 626 dL_law_621 (by decide) (by omega) (fun c564 => ?_) (fun c564 => ?_)
      · refine z_iinc F (lv' := [(4, .int (iZ (1 + 4))), (3, .ref a42), (2, .ref a26), (1, .ref a1), (0, .ref b)]) 0 dL_law_626 rfl (by decide) rfl ?_
        refine z_goto F 33 dL_law_629 (by decide) ?_
        refine z_iload F 0 dL_law_33 rfl ?_
        refine z_aload_n F 4 dL_law_35 rfl ?_
        refine z_slen F hX dL_law_36 ?_
        refine z_iconst F dL_law_37 ?_
        refine z_isub F dL_law_38 ?_
        refine z_icmp_gt F 632 dL_law_39 (by decide) (by omega) (fun c565 => ?_) (fun c565 => ?_)
        · refine z_iconst F dL_law_632 ?_
          exact hend _ _ _ _ (by omega) (by omega)
        · exfalso; omega
      · exfalso; omega
    refine z_tableOut F 626 dL_law_49 (by omega) (by omega) (by decide) ?_
    refine z_iinc F (lv' := [(4, .int (iZ (1 + 4))), (3, .ref a42), (2, .ref a26), (1, .ref a1), (0, .ref b)]) 0 dL_law_626 rfl (by decide) rfl ?_
    refine z_goto F 33 dL_law_629 (by decide) ?_
    refine z_iload F 0 dL_law_33 rfl ?_
    refine z_aload_n F 4 dL_law_35 rfl ?_
    refine z_slen F hX dL_law_36 ?_
    refine z_iconst F dL_law_37 ?_
    refine z_isub F dL_law_38 ?_
    refine z_icmp_gt F 632 dL_law_39 (by decide) (by omega) (fun c566 => ?_) (fun c566 => ?_)
    · refine z_iconst F dL_law_632 ?_
      exact hend _ _ _ _ (by omega) (by omega)
    · exfalso; omega
