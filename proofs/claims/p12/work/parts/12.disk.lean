set_option maxHeartbeats 4000000 in
set_option maxRecDepth 20000 in
theorem k_X0_bring (l : Launch) (D : va_G) (K : KI) (d : Nat) (sc : Int) (db : Nat) (dq : Nat) (dt : Nat) (wc : Int) (nb : Nat) (zb : Nat → Int) (zq : Nat → Int) (zt : Nat → Int) (wh : Int) (tn : Int) (h0 : 4 ≤ sc ∧ sc ≤ 40 ∧ (nb : Int) = 512 * sc) (h1 : rng (-128) 127 zb) (h2 : rng (-128) 127 zq) (h3 : rng 0 (sc-1) zt) (h4 : 0 ≤ wc ∧ wc ≤ 64) (h5 : 0 ≤ wh ∧ wh ≤ 2147483647 ∧ 0 ≤ tn ∧ tn ≤ 512) : Ct lw_T l yX0_bring cX0_bring 6 (some .int) { frames := 1, cells := 0, slots := 0, locals := 40 } 0 0 D cls5 (TY K) [.ref d, .int (iZ wh), .int (iZ tn)] [oX0 d sc db dq dt wc, aB K db nb zb, aB K dq 32768 zq, aI K dt 64 zt] (fun vr wo => ∃ (r : Int), ∃ (zb2 : Nat → Int), vr = some (.int (iZ r)) ∧ wo = [oX0 d sc db dq dt 0, aB K db nb zb2, aB K dq 32768 zq, aI K dt 64 zt] ∧ (r = min wh wc) ∧ (rng (-128) 127 zb2)) := by
  refine ct_of (own := RX0) (lv := [(0, .ref d), (1, .int (iZ wh)), (2, .int (iZ tn))]) (by decide) rfl (Nat.le_of_ble_eq_true rfl) rfl (fun C F hr hnm hzl => ?_)
  subst hzl
  refine z_iload_n F 1 dX0_bring_0 rfl ?_
  refine z_aload_n F 0 dX0_bring_1 rfl ?_
  refine z_get F 0 4 iX0 rfl rfl (by decide) t1_43 rfl dX0_bring_2 ?_
  refine z_min F t1_220 t1_27 t1_2 t1_28 (Nat.le_of_ble_eq_true rfl) (Nat.le_of_ble_eq_true rfl) ⟨(show 0 + 0 ≤ 0 by omega), (show 0 + 0 ≤ 0 by omega)⟩ (by omega) dX0_bring_5 ?_
  refine z_nm F (fun q1 eq1 => ?_)
  refine z_istore_n F (lv' := [(3, .int (iZ q1)), (0, .ref d), (1, .int (iZ wh)), (2, .int (iZ tn))]) dX0_bring_8 (by decide) rfl ?_
  refine z_iconst F dX0_bring_9 ?_
  refine z_istore F (lv' := [(4, .int (iZ 0)), (3, .int (iZ q1)), (0, .ref d), (1, .int (iZ wh)), (2, .int (iZ tn))]) dX0_bring_10 (by decide) rfl ?_
  have lp12 : ∀ (nn12 : Nat) (i : Int) (w : Nat → Int), (0 ≤ i ∧ i ≤ wc) → (rng (-128) 127 w) → ((wc - i : Int).toNat < nn12) → Go C { frames := 1, cells := 0, slots := 0, locals := 40 } D cls5 6 0 0 [oX0 d sc db dq dt wc, aB K db nb w, aB K dq 32768 zq, aI K dt 64 zt] 12 [(4, .int (iZ i)), (3, .int (iZ q1)), (0, .ref d), (1, .int (iZ wh)), (2, .int (iZ tn))] [] := by
    intro nn12
    induction nn12 with
    | zero => intro i w g12_0 g12_1 hmu12; exact absurd hmu12 (Nat.not_lt_zero _)
    | succ nn12 ih12 =>
      intro i w g12_0 g12_1 hmu12
      refine z_iload F 0 dX0_bring_12 rfl ?_
      refine z_iload_n F 1 dX0_bring_14 rfl ?_
      refine z_icmp_gt F 78 dX0_bring_15 (by decide) (by omega) (fun c2 => ?_) (fun c2 => ?_)
      · refine z_aload_n F 2 dX0_bring_78 rfl ?_
        refine z_iconst F dX0_bring_79 ?_
        refine z_put F (ws' := [oX0 d sc db dq dt 0, aB K db nb w, aB K dq 32768 zq, aI K dt 64 zt]) 0 4 iX0 tyX0 tyX0_ok nmX0 rfl rfl (by decide) t1_43 rfl rfl rfl rfl (Nat.le_of_ble_eq_true rfl) dX0_bring_80 rfl ?_
        refine z_iload_n F 1 dX0_bring_83 rfl ?_
        exact z_iret F hr dX0_bring_84 (by omega) ⟨q1, w, rfl, rfl, (by omega), g12_1⟩
      · refine z_iload F 0 dX0_bring_18 rfl ?_
        refine z_aload_n F 2 dX0_bring_20 rfl ?_
        refine z_get F 0 4 iX0 rfl rfl (by decide) t1_43 rfl dX0_bring_21 ?_
        refine z_icmp_ge F 78 dX0_bring_24 (by decide) (by omega) (fun c3 => ?_) (fun c3 => ?_)
        · refine z_aload_n F 2 dX0_bring_78 rfl ?_
          refine z_iconst F dX0_bring_79 ?_
          refine z_put F (ws' := [oX0 d sc db dq dt 0, aB K db nb w, aB K dq 32768 zq, aI K dt 64 zt]) 0 4 iX0 tyX0 tyX0_ok nmX0 rfl rfl (by decide) t1_43 rfl rfl rfl rfl (Nat.le_of_ble_eq_true rfl) dX0_bring_80 rfl ?_
          refine z_iload_n F 1 dX0_bring_83 rfl ?_
          exact z_iret F hr dX0_bring_84 (by omega) ⟨q1, w, rfl, rfl, (by omega), g12_1⟩
        · refine z_iload F 0 dX0_bring_27 rfl ?_
          refine z_iload_n F 1 dX0_bring_29 rfl ?_
          refine z_icmp_ge F 39 dX0_bring_30 (by decide) (by omega) (fun c4 => ?_) (fun c4 => ?_)
          · refine z_iload_n F 4 dX0_bring_39 rfl ?_
            refine z_istore F (lv' := [(5, .int (iZ tn)), (4, .int (iZ i)), (3, .int (iZ q1)), (0, .ref d), (1, .int (iZ wh)), (2, .int (iZ tn))]) dX0_bring_40 (by decide) rfl ?_
            refine z_aload_n F 3 dX0_bring_42 rfl ?_
            refine z_get F 0 2 iX0 rfl rfl (by decide) t1_40 rfl dX0_bring_43 ?_
            refine z_iload F 1 dX0_bring_46 rfl ?_
            refine z_sipush F dX0_bring_48 (by decide) ?_
            refine z_imul F dX0_bring_51 ?_
            refine z_aload_n F 3 dX0_bring_52 rfl ?_
            refine z_get F 0 1 iX0 rfl rfl (by decide) t1_38 rfl dX0_bring_53 ?_
            refine z_aload_n F 3 dX0_bring_56 rfl ?_
            refine z_get F 0 3 iX0 rfl rfl (by decide) t1_42 rfl dX0_bring_57 ?_
            refine z_iload F 1 dX0_bring_60 rfl ?_
            refine z_iald F 3 rfl rfl dX0_bring_62 (by omega) (by omega) ?_
            have r5 : 0 ≤ zt i.toNat ∧ zt i.toNat ≤ (sc-1) := h3 _
            refine z_sipush F dX0_bring_63 (by decide) ?_
            refine z_imul F dX0_bring_66 ?_
            refine z_iload F 0 dX0_bring_67 rfl ?_
            refine z_copy F (ws' := [oX0 d sc db dq dt wc, aB K db nb (va_cpy zq w (i * 512).toNat ((zt i.toNat) * 512).toNat tn.toNat), aB K dq 32768 zq, aI K dt 64 zt]) 2 1 1 rfl rfl rfl rfl t1_221 t1_223 t1_222 t1_9 (by omega) (fun i _ => fitB (h2 _)) (Nat.le_of_ble_eq_true rfl) (Nat.le_of_ble_eq_true rfl) dX0_bring_69 rfl ?_
            have r6 : rng (-128) 127 (va_cpy zq w (i * 512).toNat ((zt i.toNat) * 512).toNat tn.toNat) := rng_cpy h2 g12_1
            refine z_iinc F (lv' := [(4, .int (iZ (i + 1))), (5, .int (iZ tn)), (3, .int (iZ q1)), (0, .ref d), (1, .int (iZ wh)), (2, .int (iZ tn))]) 1 dX0_bring_72 rfl (by decide) rfl ?_
            refine z_goto F 12 dX0_bring_75 (by decide) ?_
            refine z_lv F (lv' := [(4, .int (iZ (i + 1))), (3, .int (iZ q1)), (0, .ref d), (1, .int (iZ wh)), (2, .int (iZ tn))]) [0, 2, 3, 4, 5] rfl ?_
            exact ih12 (i + 1) (va_cpy zq w (i * 512).toNat ((zt i.toNat) * 512).toNat tn.toNat) (by omega) r6 (by omega)
          · refine z_sipush F dX0_bring_33 (by decide) ?_
            refine z_goto F 40 dX0_bring_36 (by decide) ?_
            refine z_istore F (lv' := [(5, .int (iZ 512)), (4, .int (iZ i)), (3, .int (iZ q1)), (0, .ref d), (1, .int (iZ wh)), (2, .int (iZ tn))]) dX0_bring_40 (by decide) rfl ?_
            refine z_aload_n F 3 dX0_bring_42 rfl ?_
            refine z_get F 0 2 iX0 rfl rfl (by decide) t1_40 rfl dX0_bring_43 ?_
            refine z_iload F 1 dX0_bring_46 rfl ?_
            refine z_sipush F dX0_bring_48 (by decide) ?_
            refine z_imul F dX0_bring_51 ?_
            refine z_aload_n F 3 dX0_bring_52 rfl ?_
            refine z_get F 0 1 iX0 rfl rfl (by decide) t1_38 rfl dX0_bring_53 ?_
            refine z_aload_n F 3 dX0_bring_56 rfl ?_
            refine z_get F 0 3 iX0 rfl rfl (by decide) t1_42 rfl dX0_bring_57 ?_
            refine z_iload F 1 dX0_bring_60 rfl ?_
            refine z_iald F 3 rfl rfl dX0_bring_62 (by omega) (by omega) ?_
            have r7 : 0 ≤ zt i.toNat ∧ zt i.toNat ≤ (sc-1) := h3 _
            refine z_sipush F dX0_bring_63 (by decide) ?_
            refine z_imul F dX0_bring_66 ?_
            refine z_iload F 0 dX0_bring_67 rfl ?_
            refine z_copy F (ws' := [oX0 d sc db dq dt wc, aB K db nb (va_cpy zq w (i * 512).toNat ((zt i.toNat) * 512).toNat (512 : Int).toNat), aB K dq 32768 zq, aI K dt 64 zt]) 2 1 1 rfl rfl rfl rfl t1_221 t1_223 t1_222 t1_9 (by omega) (fun i _ => fitB (h2 _)) (Nat.le_of_ble_eq_true rfl) (Nat.le_of_ble_eq_true rfl) dX0_bring_69 rfl ?_
            have r8 : rng (-128) 127 (va_cpy zq w (i * 512).toNat ((zt i.toNat) * 512).toNat (512 : Int).toNat) := rng_cpy h2 g12_1
            refine z_iinc F (lv' := [(4, .int (iZ (i + 1))), (5, .int (iZ 512)), (3, .int (iZ q1)), (0, .ref d), (1, .int (iZ wh)), (2, .int (iZ tn))]) 1 dX0_bring_72 rfl (by decide) rfl ?_
            refine z_goto F 12 dX0_bring_75 (by decide) ?_
            refine z_lv F (lv' := [(4, .int (iZ (i + 1))), (3, .int (iZ q1)), (0, .ref d), (1, .int (iZ wh)), (2, .int (iZ tn))]) [0, 2, 3, 4, 5] rfl ?_
            exact ih12 (i + 1) (va_cpy zq w (i * 512).toNat ((zt i.toNat) * 512).toNat (512 : Int).toNat) (by omega) r8 (by omega)
  exact lp12 ((wc - 0 : Int).toNat + 1) 0 zb (by omega) h1 (Nat.lt_succ_self _)
set_option maxHeartbeats 4000000 in
set_option maxRecDepth 20000 in
theorem k_X0_addTarget (l : Launch) (D : va_G) (K : KI) (d : Nat) (sc : Int) (db : Nat) (dq : Nat) (dt : Nat) (wc : Int) (zt : Nat → Int) (tg : Int) (h0 : 0 ≤ wc ∧ wc ≤ 63) (h1 : rng 0 (sc-1) zt) (h2 : 0 ≤ tg ∧ tg ≤ sc - 1) : Ct lw_T l yX0_addTarget cX0_addTarget 3 (some .int) { frames := 0, cells := 0, slots := 0, locals := 0 } 0 0 D cls5 (TY K) [.ref d, .int (iZ tg)] [oX0 d sc db dq dt wc, aI K dt 64 zt] (fun vr wo => ∃ (r : Int), ∃ (zt2 : Nat → Int), vr = some (.int (iZ r)) ∧ wo = [oX0 d sc db dq dt (wc + 1), aI K dt 64 zt2] ∧ (r = wc * 512) ∧ (rng 0 (sc-1) zt2)) := by
  refine ct_of (own := RX0) (lv := [(0, .ref d), (1, .int (iZ tg))]) (by decide) rfl (Nat.le_of_ble_eq_true rfl) rfl (fun C F hr hnm hzl => ?_)
  subst hzl
  refine z_aload_n F 0 dX0_addTarget_0 rfl ?_
  refine z_get F 0 4 iX0 rfl rfl (by decide) t1_43 rfl dX0_addTarget_1 ?_
  refine z_sipush F dX0_addTarget_4 (by decide) ?_
  refine z_imul F dX0_addTarget_7 ?_
  refine z_istore_n F (lv' := [(2, .int (iZ (wc * 512))), (0, .ref d), (1, .int (iZ tg))]) dX0_addTarget_8 (by decide) rfl ?_
  refine z_aload_n F 1 dX0_addTarget_9 rfl ?_
  refine z_get F 0 3 iX0 rfl rfl (by decide) t1_42 rfl dX0_addTarget_10 ?_
  refine z_aload_n F 1 dX0_addTarget_13 rfl ?_
  refine z_get F 0 4 iX0 rfl rfl (by decide) t1_43 rfl dX0_addTarget_14 ?_
  refine z_iload_n F 2 dX0_addTarget_17 rfl ?_
  refine z_iast F (ws' := [oX0 d sc db dq dt wc, aI K dt 64 (zu zt wc.toNat tg)]) 1 rfl rfl dX0_addTarget_18 (by omega) (by omega) rfl ?_
  have r1 : rng 0 (sc-1) (zu zt wc.toNat tg) := rng_zu h1 (by omega)
  refine z_aload_n F 1 dX0_addTarget_19 rfl ?_
  refine z_dup F dX0_addTarget_20 rfl ?_
  refine z_get F 0 4 iX0 rfl rfl (by decide) t1_43 rfl dX0_addTarget_21 ?_
  refine z_iconst F dX0_addTarget_24 ?_
  refine z_iadd F dX0_addTarget_25 ?_
  refine z_put F (ws' := [oX0 d sc db dq dt (wc + 1), aI K dt 64 (zu zt wc.toNat tg)]) 0 4 iX0 tyX0 tyX0_ok nmX0 rfl rfl (by decide) t1_43 rfl rfl rfl rfl (Nat.le_of_ble_eq_true rfl) dX0_addTarget_26 rfl ?_
  refine z_iload_n F 0 dX0_addTarget_29 rfl ?_
  exact z_iret F hr dX0_addTarget_30 (by omega) ⟨(wc * 512), (zu zt wc.toNat tg), rfl, rfl, (by omega), r1⟩
set_option maxHeartbeats 4000000 in
set_option maxRecDepth 20000 in
theorem k_X0_waitWithZeros (l : Launch) (D : va_G) (K : KI) (d : Nat) (sc : Int) (db : Nat) (dq : Nat) (dt : Nat) (wc : Int) (nb : Nat) (zb : Nat → Int) (zq : Nat → Int) (zt : Nat → Int) (tg : Int) (h0 : 4 ≤ sc ∧ sc ≤ 40 ∧ (nb : Int) = 512 * sc) (h1 : rng (-128) 127 zb) (h2 : rng (-128) 127 zq) (h3 : rng 0 (sc-1) zt) (h4 : 0 ≤ wc ∧ wc ≤ 64) (h5 : 0 ≤ tg ∧ tg ≤ sc - 1) : Ct lw_T l yX0_waitWithZeros cX0_waitWithZeros 4 (some .int) { frames := 2, cells := 0, slots := 0, locals := 65 } 0 0 D cls5 (TY K) [.ref d, .int (iZ tg)] [oX0 d sc db dq dt wc, aB K db nb zb, aB K dq 32768 zq, aI K dt 64 zt] (fun vr wo => ∃ (r : Int), ∃ (wc2 : Int), ∃ (zb2 : Nat → Int), ∃ (zq2 : Nat → Int), ∃ (zt2 : Nat → Int), vr = some (.int (iZ r)) ∧ wo = [oX0 d sc db dq dt wc2, aB K db nb zb2, aB K dq 32768 zq2, aI K dt 64 zt2] ∧ (0 ≤ r ∧ r + 512 ≤ 32768) ∧ (1 ≤ wc2 ∧ wc2 ≤ 64) ∧ (rng (-128) 127 zb2) ∧ (rng (-128) 127 zq2) ∧ (rng 0 (sc-1) zt2)) := by
  refine ct_of (own := RX0) (lv := [(0, .ref d), (1, .int (iZ tg))]) (by decide) rfl (Nat.le_of_ble_eq_true rfl) rfl (fun C F hr hnm hzl => ?_)
  subst hzl
  refine z_aload_n F 0 dX0_waitWithZeros_0 rfl ?_
  refine z_get F 0 4 iX0 rfl rfl (by decide) t1_43 rfl dX0_waitWithZeros_1 ?_
  refine z_bipush F dX0_waitWithZeros_4 (by decide) ?_
  have lp17 : ∀ (w1 : Int) (b1 : Nat → Int), (0 ≤ w1 ∧ w1 ≤ 63) → (rng (-128) 127 b1) → Go C { frames := 2, cells := 0, slots := 0, locals := 65 } D cls5 4 0 0 [oX0 d sc db dq dt w1, aB K db nb b1, aB K dq 32768 zq, aI K dt 64 zt] 17 [(0, .ref d), (1, .int (iZ tg))] [] := by
    intro w1 b1 g17_0 g17_1
    refine z_aload_n F 0 dX0_waitWithZeros_17 rfl ?_
    refine z_get F 0 4 iX0 rfl rfl (by decide) t1_43 rfl dX0_waitWithZeros_18 ?_
    refine z_sipush F dX0_waitWithZeros_21 (by decide) ?_
    refine z_imul F dX0_waitWithZeros_24 ?_
    refine z_istore_n F (lv' := [(2, .int (iZ (w1 * 512))), (0, .ref d), (1, .int (iZ tg))]) dX0_waitWithZeros_25 (by decide) rfl ?_
    refine z_iconst F dX0_waitWithZeros_26 ?_
    refine z_istore_n F (lv' := [(3, .int (iZ 0)), (2, .int (iZ (w1 * 512))), (0, .ref d), (1, .int (iZ tg))]) dX0_waitWithZeros_27 (by decide) rfl ?_
    have lp28 : ∀ (nn28 : Nat) (i : Int) (q1 : Nat → Int), (0 ≤ i ∧ i ≤ 512) → (rng (-128) 127 q1) → ((512 - i : Int).toNat < nn28) → Go C { frames := 2, cells := 0, slots := 0, locals := 65 } D cls5 4 0 0 [oX0 d sc db dq dt w1, aB K db nb b1, aB K dq 32768 q1, aI K dt 64 zt] 28 [(3, .int (iZ i)), (2, .int (iZ (w1 * 512))), (0, .ref d), (1, .int (iZ tg))] [] := by
      intro nn28
      induction nn28 with
      | zero => intro i q1 g28_0 g28_1 hmu28; exact absurd hmu28 (Nat.not_lt_zero _)
      | succ nn28 ih28 =>
        intro i q1 g28_0 g28_1 hmu28
        refine z_iload_n F 0 dX0_waitWithZeros_28 rfl ?_
        refine z_sipush F dX0_waitWithZeros_29 (by decide) ?_
        refine z_icmp_ge F 50 dX0_waitWithZeros_32 (by decide) (by omega) (fun c1 => ?_) (fun c1 => ?_)
        · refine z_aload_n F 2 dX0_waitWithZeros_50 rfl ?_
          refine z_iload_n F 3 dX0_waitWithZeros_51 rfl ?_
          refine z_callV F lw_good (k_X0_addTarget _ D K d sc db dq dt w1 zt tg g17_0 h3 h5) t1_227 t1_3 t1_224 t1_226 (q := (RX0, TX0, 5)) ts_6 ⟨rfl, rfl⟩ ndX0_addTarget ⟨Nat.le_of_ble_eq_true rfl, Nat.le_of_ble_eq_true rfl⟩ 0 rfl rfl (rest := []) rfl (Nat.le_of_ble_eq_true rfl) dX0_waitWithZeros_52 ⟨(show 0 + 0 ≤ 0 by omega), (show 0 + 0 ≤ 0 by omega)⟩ (wr := [aB K db nb b1, aB K dq 32768 q1]) ([0, 3] : List Nat) ([1, 2] : List Nat) rfl rfl rfl rfl (by decide) (fun vr wo hp => ?_)
          obtain ⟨r_2, zt2_3, rfl, rfl, f4, f5⟩ := hp
          refine z_re F (ws' := [oX0 d sc db dq dt (w1 + 1), aB K db nb b1, aB K dq 32768 q1, aI K dt 64 zt2_3]) (st' := [.int (iZ r_2)]) ([2, 0, 1, 3] : List Nat) rfl rfl rfl ?_
          exact z_iret F hr dX0_waitWithZeros_55 (by omega) ⟨r_2, (w1 + 1), b1, q1, zt2_3, rfl, rfl, (by omega), (by omega), g17_1, g28_1, f5⟩
        · refine z_aload_n F 2 dX0_waitWithZeros_35 rfl ?_
          refine z_get F 0 2 iX0 rfl rfl (by decide) t1_40 rfl dX0_waitWithZeros_36 ?_
          refine z_iload_n F 1 dX0_waitWithZeros_39 rfl ?_
          refine z_iload_n F 0 dX0_waitWithZeros_40 rfl ?_
          refine z_iadd F dX0_waitWithZeros_41 ?_
          refine z_iconst F dX0_waitWithZeros_42 ?_
          refine z_bast F (ws' := [oX0 d sc db dq dt w1, aB K db nb b1, aB K dq 32768 (zu q1 ((w1 * 512) + i).toNat ((0 : Int).bmod 256)), aI K dt 64 zt]) 2 rfl rfl dX0_waitWithZeros_43 (by omega) (by omega) rfl ?_
          have r6 : rng (-128) 127 (zu q1 ((w1 * 512) + i).toNat ((0 : Int).bmod 256)) := rng_zu g28_1 (bm_r _)
          refine z_iinc F (lv' := [(3, .int (iZ (i + 1))), (2, .int (iZ (w1 * 512))), (0, .ref d), (1, .int (iZ tg))]) 0 dX0_waitWithZeros_44 rfl (by decide) rfl ?_
          refine z_goto F 28 dX0_waitWithZeros_47 (by decide) ?_
          exact ih28 (i + 1) (zu q1 ((w1 * 512) + i).toNat ((0 : Int).bmod 256)) (by omega) r6 (by omega)
    exact lp28 ((512 - 0 : Int).toNat + 1) 0 zq (by omega) h2 (Nat.lt_succ_self _)
  refine z_icmp_lt F 17 dX0_waitWithZeros_6 (by decide) (by omega) (fun c7 => ?_) (fun c7 => ?_)
  · exact lp17 wc zb (by omega) h1
  · refine z_aload_n F 0 dX0_waitWithZeros_9 rfl ?_
    refine z_bipush F dX0_waitWithZeros_10 (by decide) ?_
    refine z_iconst F dX0_waitWithZeros_12 ?_
    refine z_callV F lw_good (k_X0_bring _ D K d sc db dq dt wc nb zb zq zt 64 0 h0 h1 h2 h3 h4 (by omega)) t1_219 t1_3 t1_216 t1_217 (q := (RX0, TX0, 5)) t1_218 ⟨rfl, rfl⟩ ndX0_bring ⟨Nat.le_of_ble_eq_true rfl, Nat.le_of_ble_eq_true rfl⟩ 0 rfl rfl (rest := []) rfl (Nat.le_of_ble_eq_true rfl) dX0_waitWithZeros_13 ⟨(show 0 + 0 ≤ 0 by omega), (show 0 + 0 ≤ 0 by omega)⟩ (wr := []) ([0, 1, 2, 3] : List Nat) ([] : List Nat) rfl rfl rfl rfl (by decide) (fun vr wo hp => ?_)
    obtain ⟨r_8, zb2_9, rfl, rfl, f10, f11⟩ := hp
    refine z_re F (ws' := [oX0 d sc db dq dt 0, aB K db nb zb2_9, aB K dq 32768 zq, aI K dt 64 zt]) (st' := [.int (iZ r_8)]) ([0, 1, 2, 3] : List Nat) rfl rfl rfl ?_
    refine z_pop F dX0_waitWithZeros_16 rfl ?_
    exact lp17 0 zb2_9 (by omega) f11
set_option maxHeartbeats 4000000 in
set_option maxRecDepth 20000 in
theorem k_J9_floorMod_7cf53 (l : Launch) (D : va_G) (K : KI) (v : Int) (h0 : -2147483648 ≤ v ∧ v ≤ 2147483647) : Ct lw_T l yJ9_floorMod_7cf53 cJ9_floorMod_7cf53 3 (some .int) { frames := 0, cells := 0, slots := 0, locals := 0 } 0 0 D cls5 (TY K) [.int (iZ v), .int (iZ 2)] [] (fun vr wo => ∃ (r : Int), vr = some (.int (iZ r)) ∧ wo = [] ∧ (0 ≤ r ∧ r ≤ 1)) := by
  refine ct_of (own := RJ9) (lv := [(0, .int (iZ v)), (1, .int (iZ 2))]) (by decide +kernel) rfl (Nat.le_of_ble_eq_true rfl) rfl (fun C F hr hnm hzl => ?_)
  subst hzl
  refine z_iload_n F 0 dJ9_floorMod_7cf53_0 rfl ?_
  refine z_iload_n F 1 dJ9_floorMod_7cf53_1 rfl ?_
  refine z_irem F dJ9_floorMod_7cf53_2 (by omega) (by omega) ?_
  refine z_nm F (fun q1 eq1 => ?_)
  have hq1 := md_spec v 2 (by omega)
  rw [← eq1] at hq1
  refine z_istore_n F (lv' := [(2, .int (iZ q1)), (0, .int (iZ v)), (1, .int (iZ 2))]) dJ9_floorMod_7cf53_3 (by decide) rfl ?_
  refine z_iload_n F 1 dJ9_floorMod_7cf53_4 rfl ?_
  refine z_iload_n F 2 dJ9_floorMod_7cf53_5 rfl ?_
  refine z_ixor F dJ9_floorMod_7cf53_6 (fun b2 rb2 eb2 => ?_)
  have hsg := xor2_sign h0 rb2 eb2
  have htm := tmod_neg2 v
  refine z_if_ge F 18 dJ9_floorMod_7cf53_7 (by decide) (by omega) (fun c3 => ?_) (fun c3 => ?_)
  · refine z_iload_n F 0 dJ9_floorMod_7cf53_18 rfl ?_
    exact z_iret F hr dJ9_floorMod_7cf53_19 (by omega) ⟨q1, rfl, rfl, (by omega)⟩
  · refine z_iload_n F 0 dJ9_floorMod_7cf53_10 rfl ?_
    refine z_if_eq F 18 dJ9_floorMod_7cf53_11 (by decide) (by omega) (fun c4 => ?_) (fun c4 => ?_)
    · refine z_iload_n F 0 dJ9_floorMod_7cf53_18 rfl ?_
      exact z_iret F hr dJ9_floorMod_7cf53_19 (by omega) ⟨q1, rfl, rfl, (by omega)⟩
    · refine z_iload_n F 0 dJ9_floorMod_7cf53_14 rfl ?_
      refine z_iload_n F 2 dJ9_floorMod_7cf53_15 rfl ?_
      refine z_iadd F dJ9_floorMod_7cf53_16 ?_
      exact z_iret F hr dJ9_floorMod_7cf53_17 (by omega) ⟨(q1 + 2), rfl, rfl, (by omega)⟩
