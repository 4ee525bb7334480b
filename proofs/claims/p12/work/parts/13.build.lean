set_option maxHeartbeats 4000000 in
set_option maxRecDepth 20000 in
theorem k_X5_firstSector (l : Launch) (D : va_G) (K : KI) (x : Nat) (xd : Nat) (xt : Nat) (xu : Nat) (sa : Int) (ru : Int) (ar : Int) (sq : Int) (ge : Int) (ne : Int) (wa : Int) (fe : Int) (tk : Int) (cp : Int) (xc : Nat) (oa : Int) (h0 : oa = 0 ∨ oa = 1) : Ct lw_T l yX5_firstSector cX5_firstSector 2 (some .int) { frames := 0, cells := 0, slots := 0, locals := 0 } 0 0 D cls5 (TY K) [.ref x, .int (iZ oa)] [oX5 x xd xt xu sa ru ar sq ge ne wa fe tk cp xc] (fun vr wo => ∃ (r : Int), vr = some (.int (iZ r)) ∧ wo = [oX5 x xd xt xu sa ru ar sq ge ne wa fe tk cp xc] ∧ ((oa = 0 → r = 2) ∧ (oa = 1 → r = 2 + sa))) := by
  refine ct_of (own := RX5) (lv := [(0, .ref x), (1, .int (iZ oa))]) (by decide) rfl (Nat.le_of_ble_eq_true rfl) rfl (fun C F hr hnm hzl => ?_)
  subst hzl
  refine z_iconst F dX5_firstSector_0 ?_
  refine z_iload_n F 1 dX5_firstSector_1 rfl ?_
  refine z_aload_n F 0 dX5_firstSector_2 rfl ?_
  refine z_get F 0 3 iX5 rfl rfl (by decide) t1_112 rfl dX5_firstSector_3 ?_
  refine z_imul F dX5_firstSector_6 ?_
  refine z_iadd F dX5_firstSector_7 ?_
  exact z_iret F hr dX5_firstSector_8 (by omega) ⟨(2 + (oa * sa)), rfl, rfl, (⟨fun q => by rw [q]; omega, fun q => by rw [q]; omega⟩)⟩
set_option maxHeartbeats 4000000 in
set_option maxRecDepth 20000 in
theorem k_X5_clearArea (l : Launch) (D : va_G) (K : KI) (x : Nat) (xt : Nat) (xu : Nat) (sa : Int) (ru : Int) (ar : Int) (sq : Int) (ge : Int) (ne : Int) (wa : Int) (fe : Int) (tk : Int) (cp : Int) (xc : Nat) (d : Nat) (sc : Int) (db : Nat) (dq : Nat) (dt : Nat) (wc : Int) (nb : Nat) (zb : Nat → Int) (zq : Nat → Int) (zt : Nat → Int) (oa : Int) (h0 : 4 ≤ sc ∧ sc ≤ 40 ∧ (nb : Int) = 512 * sc) (h1 : rng (-128) 127 zb) (h2 : rng (-128) 127 zq) (h3 : rng 0 (sc-1) zt) (h4 : 0 ≤ wc ∧ wc ≤ 64) (h5 : oa = 0 ∨ oa = 1) (h6 : 1 ≤ sa ∧ 2 * sa ≤ sc - 2) : Ct lw_T l yX5_clearArea cX5_clearArea 4 none { frames := 3, cells := 0, slots := 0, locals := 88 } 0 0 D cls5 (TY K) [.ref x, .int (iZ oa)] [oX5 x d xt xu sa ru ar sq ge ne wa fe tk cp xc, oX0 d sc db dq dt wc, aB K db nb zb, aB K dq 32768 zq, aI K dt 64 zt] (fun vr wo => ∃ (wc2 : Int), ∃ (zb2 : Nat → Int), ∃ (zq2 : Nat → Int), ∃ (zt2 : Nat → Int), vr = none ∧ wo = [oX5 x d xt xu sa ru ar sq ge ne wa fe tk cp xc, oX0 d sc db dq dt wc2, aB K db nb zb2, aB K dq 32768 zq2, aI K dt 64 zt2] ∧ (0 ≤ wc2 ∧ wc2 ≤ 64) ∧ (rng (-128) 127 zb2) ∧ (rng (-128) 127 zq2) ∧ (rng 0 (sc-1) zt2)) := by
  refine ct_of (own := RX5) (lv := [(0, .ref x), (1, .int (iZ oa))]) (by decide) rfl (Nat.le_of_ble_eq_true rfl) rfl (fun C F hr hnm hzl => ?_)
  subst hzl
  refine z_aload_n F 0 dX5_clearArea_0 rfl ?_
  refine z_iload_n F 1 dX5_clearArea_1 rfl ?_
  refine z_callV F lw_good (k_X5_firstSector _ D K x d xt xu sa ru ar sq ge ne wa fe tk cp xc oa h5) t1_211 t1_1 t1_208 t1_210 (q := (RX5, TX5, 14)) ts_5 ⟨rfl, rfl⟩ ndX5_firstSector ⟨Nat.le_of_ble_eq_true rfl, Nat.le_of_ble_eq_true rfl⟩ 0 rfl rfl (rest := []) rfl (Nat.le_of_ble_eq_true rfl) dX5_clearArea_2 ⟨(show 0 + 0 ≤ 0 by omega), (show 0 + 0 ≤ 0 by omega)⟩ (wr := [oX0 d sc db dq dt wc, aB K db nb zb, aB K dq 32768 zq, aI K dt 64 zt]) ([0] : List Nat) ([1, 2, 3, 4] : List Nat) rfl rfl rfl rfl (by decide) (fun vr wo hp => ?_)
  obtain ⟨r_1, rfl, rfl, f2⟩ := hp
  refine z_re F (ws' := [oX5 x d xt xu sa ru ar sq ge ne wa fe tk cp xc, oX0 d sc db dq dt wc, aB K db nb zb, aB K dq 32768 zq, aI K dt 64 zt]) (st' := [.int (iZ r_1)]) ([4, 0, 1, 2, 3] : List Nat) rfl rfl rfl ?_
  refine z_istore_n F (lv' := [(2, .int (iZ r_1)), (0, .ref x), (1, .int (iZ oa))]) dX5_clearArea_5 (by decide) rfl ?_
  refine z_iconst F dX5_clearArea_6 ?_
  refine z_istore_n F (lv' := [(3, .int (iZ 0)), (2, .int (iZ r_1)), (0, .ref x), (1, .int (iZ oa))]) dX5_clearArea_7 (by decide) rfl ?_
  have lp8 : ∀ (nn8 : Nat) (i : Int) (wcv : Int) (zbv : Nat → Int) (zqv : Nat → Int) (ztv : Nat → Int), (0 ≤ i ∧ i ≤ sa) → (0 ≤ wcv ∧ wcv ≤ 64) → (rng (-128) 127 zbv) → (rng (-128) 127 zqv) → (rng 0 (sc-1) ztv) → ((sa - i : Int).toNat < nn8) → Go C { frames := 3, cells := 0, slots := 0, locals := 88 } D cls5 4 0 0 [oX5 x d xt xu sa ru ar sq ge ne wa fe tk cp xc, oX0 d sc db dq dt wcv, aB K db nb zbv, aB K dq 32768 zqv, aI K dt 64 ztv] 8 [(3, .int (iZ i)), (2, .int (iZ r_1)), (0, .ref x), (1, .int (iZ oa))] [] := by
    intro nn8
    induction nn8 with
    | zero => intro i wcv zbv zqv ztv g8_0 g8_1 g8_2 g8_3 g8_4 hmu8; exact absurd hmu8 (Nat.not_lt_zero _)
    | succ nn8 ih8 =>
      intro i wcv zbv zqv ztv g8_0 g8_1 g8_2 g8_3 g8_4 hmu8
      refine z_iload_n F 0 dX5_clearArea_8 rfl ?_
      refine z_aload_n F 2 dX5_clearArea_9 rfl ?_
      refine z_get F 0 3 iX5 rfl rfl (by decide) t1_112 rfl dX5_clearArea_10 ?_
      refine z_icmp_ge F 33 dX5_clearArea_13 (by decide) (by omega) (fun c3 => ?_) (fun c3 => ?_)
      · exact z_vret F hr dX5_clearArea_33 (by omega) ⟨wcv, zbv, zqv, ztv, rfl, rfl, g8_1, g8_2, g8_3, g8_4⟩
      · refine z_aload_n F 2 dX5_clearArea_16 rfl ?_
        refine z_get F 0 0 iX5 rfl rfl (by decide) t1_109 rfl dX5_clearArea_17 ?_
        refine z_iload_n F 1 dX5_clearArea_20 rfl ?_
        refine z_iload_n F 0 dX5_clearArea_21 rfl ?_
        refine z_iadd F dX5_clearArea_22 ?_
        refine z_callV F lw_good (k_X0_waitWithZeros _ D K d sc db dq dt wcv nb zbv zqv ztv (r_1 + i) h0 g8_2 g8_3 g8_4 g8_1 (by omega)) t1_215 t1_3 t1_212 t1_213 (q := (RX0, TX0, 5)) t1_214 ⟨rfl, rfl⟩ ndX0_waitWithZeros ⟨Nat.le_of_ble_eq_true rfl, Nat.le_of_ble_eq_true rfl⟩ 0 rfl rfl (rest := []) rfl (Nat.le_of_ble_eq_true rfl) dX5_clearArea_23 ⟨(show 0 + 0 ≤ 0 by omega), (show 0 + 0 ≤ 0 by omega)⟩ (wr := [oX5 x d xt xu sa ru ar sq ge ne wa fe tk cp xc]) ([1, 2, 3, 4] : List Nat) ([0] : List Nat) rfl rfl rfl rfl (by decide) (fun vr wo hp => ?_)
        obtain ⟨r_4, wc2_5, zb2_6, zq2_7, zt2_8, rfl, rfl, f9, f10, f11, f12, f13⟩ := hp
        refine z_re F (ws' := [oX5 x d xt xu sa ru ar sq ge ne wa fe tk cp xc, oX0 d sc db dq dt wc2_5, aB K db nb zb2_6, aB K dq 32768 zq2_7, aI K dt 64 zt2_8]) (st' := [.int (iZ r_4)]) ([0, 1, 2, 3, 4] : List Nat) rfl rfl rfl ?_
        refine z_pop F dX5_clearArea_26 rfl ?_
        refine z_iinc F (lv' := [(3, .int (iZ (i + 1))), (2, .int (iZ r_1)), (0, .ref x), (1, .int (iZ oa))]) 0 dX5_clearArea_27 rfl (by decide) rfl ?_
        refine z_goto F 8 dX5_clearArea_30 (by decide) ?_
        exact ih8 (i + 1) wc2_5 zb2_6 zq2_7 zt2_8 (by omega) (by omega) f11 f12 f13 (by omega)
  exact lp8 ((sa - 0 : Int).toNat + 1) 0 wc zb zq zt (by omega) h4 h1 h2 h3 (Nat.lt_succ_self _)
set_option maxHeartbeats 4000000 in
set_option maxRecDepth 20000 in
theorem k_X5_changeHeads (l : Launch) (D : va_G) (K : KI) (x : Nat) (xt : Nat) (xu : Nat) (sa : Int) (ru : Int) (ar : Int) (sq : Int) (ge : Int) (ne : Int) (wa : Int) (fe : Int) (tk : Int) (cp : Int) (xc : Nat) (d : Nat) (sc : Int) (db : Nat) (dq : Nat) (dt : Nat) (wc : Int) (nb : Nat) (zb : Nat → Int) (zq : Nat → Int) (zt : Nat → Int) (h0 : 4 ≤ sc ∧ sc ≤ 40 ∧ (nb : Int) = 512 * sc) (h1 : rng (-128) 127 zb) (h2 : rng (-128) 127 zq) (h3 : rng 0 (sc-1) zt) (h4 : 0 ≤ wc ∧ wc ≤ 64) (h5 : 0 ≤ ar ∧ ar ≤ 1) : Ct lw_T l yX5_changeHeads cX5_changeHeads 3 none { frames := 3, cells := 0, slots := 0, locals := 88 } 0 0 D cls5 (TY K) [.ref x] [oX5 x d xt xu sa ru ar sq ge ne wa fe tk cp xc, oX0 d sc db dq dt wc, aB K db nb zb, aB K dq 32768 zq, aI K dt 64 zt] (fun vr wo => ∃ (sq2 : Int), ∃ (wc2 : Int), ∃ (zb2 : Nat → Int), ∃ (zq2 : Nat → Int), ∃ (zt2 : Nat → Int), vr = none ∧ wo = [oX5 x d xt xu sa ru ar sq2 ge ne wa fe tk cp xc, oX0 d sc db dq dt wc2, aB K db nb zb2, aB K dq 32768 zq2, aI K dt 64 zt2] ∧ (0 ≤ wc2 ∧ wc2 ≤ 64) ∧ (rng (-128) 127 zb2) ∧ (rng (-128) 127 zq2) ∧ (rng 0 (sc-1) zt2)) := by
  refine ct_of (own := RX5) (lv := [(0, .ref x)]) (by decide) rfl (Nat.le_of_ble_eq_true rfl) rfl (fun C F hr hnm hzl => ?_)
  subst hzl
  refine z_iconst F dX5_changeHeads_0 ?_
  refine z_istore_n F (lv' := [(1, .int (iZ 0)), (0, .ref x)]) dX5_changeHeads_1 (by decide) rfl ?_
  have lp2 : ∀ (nn2 : Nat) (i : Int) (sv : Int) (wcv : Int) (zbv : Nat → Int) (zqv : Nat → Int) (ztv : Nat → Int), (0 ≤ i ∧ i ≤ 2) → (0 ≤ wcv ∧ wcv ≤ 64) → (rng (-128) 127 zbv) → (rng (-128) 127 zqv) → (rng 0 (sc-1) ztv) → ((2 - i : Int).toNat < nn2) → Go C { frames := 3, cells := 0, slots := 0, locals := 88 } D cls5 3 0 0 [oX5 x d xt xu sa ru ar sv ge ne wa fe tk cp xc, oX0 d sc db dq dt wcv, aB K db nb zbv, aB K dq 32768 zqv, aI K dt 64 ztv] 2 [(1, .int (iZ i)), (0, .ref x)] [] := by
    intro nn2
    induction nn2 with
    | zero => intro i sv wcv zbv zqv ztv g2_0 g2_1 g2_2 g2_3 g2_4 hmu2; exact absurd hmu2 (Nat.not_lt_zero _)
    | succ nn2 ih2 =>
      intro i sv wcv zbv zqv ztv g2_0 g2_1 g2_2 g2_3 g2_4 hmu2
      refine z_iload_n F 0 dX5_changeHeads_2 rfl ?_
      refine z_iconst F dX5_changeHeads_3 ?_
      refine z_icmp_ge F 62 dX5_changeHeads_4 (by decide) (by omega) (fun c1 => ?_) (fun c1 => ?_)
      · exact z_vret F hr dX5_changeHeads_62 (by omega) ⟨sv, wcv, zbv, zqv, ztv, rfl, rfl, g2_1, g2_2, g2_3, g2_4⟩
      · refine z_aload_n F 1 dX5_changeHeads_7 rfl ?_
        refine z_dup F dX5_changeHeads_8 rfl ?_
        refine z_get F 0 6 iX5 rfl rfl (by decide) t1_115 rfl dX5_changeHeads_9 ?_
        refine z_iconst F dX5_changeHeads_12 ?_
        refine z_iadd F dX5_changeHeads_13 ?_
        refine z_put F (ws' := [oX5 x d xt xu sa ru ar (sv + 1) ge ne wa fe tk cp xc, oX0 d sc db dq dt wcv, aB K db nb zbv, aB K dq 32768 zqv, aI K dt 64 ztv]) 0 6 iX5 tyX5 tyX5_ok nmX5 rfl rfl (by decide) t1_115 rfl rfl rfl rfl (Nat.le_of_ble_eq_true rfl) dX5_changeHeads_14 rfl ?_
        refine z_aload_n F 1 dX5_changeHeads_17 rfl ?_
        refine z_get F 0 0 iX5 rfl rfl (by decide) t1_109 rfl dX5_changeHeads_18 ?_
        refine z_aload_n F 1 dX5_changeHeads_21 rfl ?_
        refine z_get F 0 6 iX5 rfl rfl (by decide) t1_115 rfl dX5_changeHeads_22 ?_
        refine z_norm F (fun y2 ry2 ey2 => ?_)
        refine z_iconst F dX5_changeHeads_25 ?_
        refine z_callS F lw_good (k_J9_floorMod_7cf53 _ D K y2 (by omega)) t2_30 t1_2 t2_28 t2_29 ⟨rfl, rfl⟩ ndJ9_floorMod_7cf53 ⟨Nat.le_of_ble_eq_true rfl, Nat.le_of_ble_eq_true rfl⟩ (rest := [.ref d]) rfl (Nat.le_of_ble_eq_true rfl) dX5_changeHeads_26 ⟨(show 0 + 0 ≤ 0 by omega), (show 0 + 0 ≤ 0 by omega)⟩ (wr := [oX5 x d xt xu sa ru ar (sv + 1) ge ne wa fe tk cp xc, oX0 d sc db dq dt wcv, aB K db nb zbv, aB K dq 32768 zqv, aI K dt 64 ztv]) ([] : List Nat) ([0, 1, 2, 3, 4] : List Nat) rfl rfl rfl rfl (by decide) (fun vr wo hp => ?_)
        obtain ⟨r_3, rfl, rfl, f4⟩ := hp
        refine z_re F (ws' := [oX5 x d xt xu sa ru ar (sv + 1) ge ne wa fe tk cp xc, oX0 d sc db dq dt wcv, aB K db nb zbv, aB K dq 32768 zqv, aI K dt 64 ztv]) (st' := [.int (iZ r_3), .ref d]) ([0, 1, 2, 3, 4] : List Nat) rfl rfl rfl ?_
        refine z_callV F lw_good (k_X0_waitWithZeros _ D K d sc db dq dt wcv nb zbv zqv ztv r_3 h0 g2_2 g2_3 g2_4 g2_1 (by omega)) t1_215 t1_3 t1_212 t1_213 (q := (RX0, TX0, 5)) t1_214 ⟨rfl, rfl⟩ ndX0_waitWithZeros ⟨Nat.le_of_ble_eq_true rfl, Nat.le_of_ble_eq_true rfl⟩ 0 rfl rfl (rest := []) rfl (Nat.le_of_ble_eq_true rfl) dX5_changeHeads_29 ⟨(show 0 + 0 ≤ 0 by omega), (show 0 + 0 ≤ 0 by omega)⟩ (wr := [oX5 x d xt xu sa ru ar (sv + 1) ge ne wa fe tk cp xc]) ([1, 2, 3, 4] : List Nat) ([0] : List Nat) rfl rfl rfl rfl (by decide) (fun vr wo hp => ?_)
        obtain ⟨r_5, wc2_6, zb2_7, zq2_8, zt2_9, rfl, rfl, f10, f11, f12, f13, f14⟩ := hp
        refine z_re F (ws' := [oX5 x d xt xu sa ru ar (sv + 1) ge ne wa fe tk cp xc, oX0 d sc db dq dt wc2_6, aB K db nb zb2_7, aB K dq 32768 zq2_8, aI K dt 64 zt2_9]) (st' := [.int (iZ r_5)]) ([0, 1, 2, 3, 4] : List Nat) rfl rfl rfl ?_
        refine z_istore_n F (lv' := [(2, .int (iZ r_5)), (1, .int (iZ i)), (0, .ref x)]) dX5_changeHeads_32 (by decide) rfl ?_
        refine z_aload_n F 2 dX5_changeHeads_33 rfl ?_
        refine z_get F 0 0 iX5 rfl rfl (by decide) t1_109 rfl dX5_changeHeads_34 ?_
        refine z_get F 1 2 iX0 rfl rfl (by decide) t1_41 rfl dX5_changeHeads_37 ?_
        refine z_iload_n F 0 dX5_changeHeads_40 rfl ?_
        refine z_aload_n F 2 dX5_changeHeads_41 rfl ?_
        refine z_get F 0 7 iX5 rfl rfl (by decide) t1_116 rfl dX5_changeHeads_42 ?_
        refine z_aload_n F 2 dX5_changeHeads_45 rfl ?_
        refine z_get F 0 6 iX5 rfl rfl (by decide) t1_115 rfl dX5_changeHeads_46 ?_
        refine z_aload_n F 2 dX5_changeHeads_49 rfl ?_
        refine z_get F 0 5 iX5 rfl rfl (by decide) t1_114 rfl dX5_changeHeads_50 ?_
        refine z_callS F lw_good (k_X1_write _ D K dq 32768 zq2_8 r_5 ge (sv + 1) ar (by omega) f13) t2_33 t1_7 t2_31 t2_32 ⟨rfl, rfl⟩ ndX1_write ⟨Nat.le_of_ble_eq_true rfl, Nat.le_of_ble_eq_true rfl⟩ (rest := []) rfl (Nat.le_of_ble_eq_true rfl) dX5_changeHeads_53 ⟨(show 0 + 0 ≤ 0 by omega), (show 0 + 0 ≤ 0 by omega)⟩ (wr := [oX5 x d xt xu sa ru ar (sv + 1) ge ne wa fe tk cp xc, oX0 d sc db dq dt wc2_6, aB K db nb zb2_7, aI K dt 64 zt2_9]) ([3] : List Nat) ([0, 1, 2, 4] : List Nat) rfl rfl rfl rfl (by decide) (fun vr wo hp => ?_)
        obtain ⟨z2_15, rfl, rfl, f16⟩ := hp
        refine z_re F (ws' := [oX5 x d xt xu sa ru ar (sv + 1) ge ne wa fe tk cp xc, oX0 d sc db dq dt wc2_6, aB K db nb zb2_7, aB K dq 32768 z2_15, aI K dt 64 zt2_9]) (st' := []) ([0, 1, 2, 4, 3] : List Nat) rfl rfl rfl ?_
        refine z_iinc F (lv' := [(1, .int (iZ (i + 1))), (2, .int (iZ r_5)), (0, .ref x)]) 1 dX5_changeHeads_56 rfl (by decide) rfl ?_
        refine z_goto F 2 dX5_changeHeads_59 (by decide) ?_
        refine z_lv F (lv' := [(1, .int (iZ (i + 1))), (0, .ref x)]) [0, 2] rfl ?_
        exact ih2 (i + 1) (sv + 1) wc2_6 zb2_7 z2_15 zt2_9 (by omega) (by omega) f12 f16 f14 (by omega)
  exact lp2 ((2 - 0 : Int).toNat + 1) 0 sq wc zb zq zt (by omega) h4 h1 h2 h3 (Nat.lt_succ_self _)
