set_option maxHeartbeats 4000000 in
set_option maxRecDepth 20000 in
theorem k_X0_waiting (l : Launch) (D : va_G) (K : KI) (d : Nat) (sc : Int) (db : Nat) (dq : Nat) (dt : Nat) (wc : Int)  : Ct lw_T l yX0_waiting cX0_waiting 1 (some .int) { frames := 0, cells := 0, slots := 0, locals := 0 } 0 0 D cls5 (TY K) [.ref d] [oX0 d sc db dq dt wc] (fun vr wo => vr = some (.int (iZ wc)) ∧ wo = [oX0 d sc db dq dt wc]) := by
  refine ct_of (own := RX0) (lv := [(0, .ref d)]) (by decide) rfl (Nat.le_of_ble_eq_true rfl) rfl (fun C F hr hnm hzl => ?_)
  subst hzl
  refine z_aload_n F 0 dX0_waiting_0 rfl ?_
  refine z_get F 0 4 iX0 rfl rfl (by decide) t1_43 rfl dX0_waiting_1 ?_
  exact z_iret F hr dX0_waiting_4 (by omega) ⟨rfl, rfl⟩
set_option maxHeartbeats 4000000 in
set_option maxRecDepth 20000 in
theorem k_X0_latestWrite (l : Launch) (D : va_G) (K : KI) (d : Nat) (sc : Int) (db : Nat) (dq : Nat) (dt : Nat) (wc : Int) (zt : Nat → Int) (tg : Int) (h0 : 4 ≤ sc ∧ sc ≤ 40) (h1 : 0 ≤ wc ∧ wc ≤ 64) (h2 : rng 0 (sc-1) zt) (h3 : 0 ≤ tg ∧ tg ≤ sc - 1) : Ct lw_T l yX0_latestWrite cX0_latestWrite 3 (some .int) { frames := 0, cells := 0, slots := 0, locals := 0 } 0 0 D cls5 (TY K) [.ref d, .int (iZ tg)] [oX0 d sc db dq dt wc, aI K dt 64 zt] (fun vr wo => ∃ (r : Int), vr = some (.int (iZ r)) ∧ wo = [oX0 d sc db dq dt wc, aI K dt 64 zt] ∧ (-1 ≤ r ∧ r ≤ wc - 1)) := by
  refine ct_of (own := RX0) (lv := [(0, .ref d), (1, .int (iZ tg))]) (by decide) rfl (Nat.le_of_ble_eq_true rfl) rfl (fun C F hr hnm hzl => ?_)
  subst hzl
  refine z_aload_n F 0 dX0_latestWrite_0 rfl ?_
  refine z_get F 0 4 iX0 rfl rfl (by decide) t1_43 rfl dX0_latestWrite_1 ?_
  refine z_iconst F dX0_latestWrite_4 ?_
  refine z_isub F dX0_latestWrite_5 ?_
  refine z_istore_n F (lv' := [(2, .int (iZ (wc - 1))), (0, .ref d), (1, .int (iZ tg))]) dX0_latestWrite_6 (by decide) rfl ?_
  have lp7 : ∀ (nn7 : Nat) (i : Int), (-1 ≤ i ∧ i ≤ wc - 1) → ((i + 1 : Int).toNat < nn7) → Go C { frames := 0, cells := 0, slots := 0, locals := 0 } D cls5 3 0 0 [oX0 d sc db dq dt wc, aI K dt 64 zt] 7 [(2, .int (iZ i)), (0, .ref d), (1, .int (iZ tg))] [] := by
    intro nn7
    induction nn7 with
    | zero => intro i g7_0 hmu7; exact absurd hmu7 (Nat.not_lt_zero _)
    | succ nn7 ih7 =>
      intro i g7_0 hmu7
      refine z_iload_n F 0 dX0_latestWrite_7 rfl ?_
      refine z_if_lt F 29 dX0_latestWrite_8 (by decide) (by omega) (fun c1 => ?_) (fun c1 => ?_)
      · refine z_iconst F dX0_latestWrite_29 ?_
        exact z_iret F hr dX0_latestWrite_30 (by omega) ⟨(-1), rfl, rfl, (by omega)⟩
      · refine z_aload_n F 1 dX0_latestWrite_11 rfl ?_
        refine z_get F 0 3 iX0 rfl rfl (by decide) t1_42 rfl dX0_latestWrite_12 ?_
        refine z_iload_n F 0 dX0_latestWrite_15 rfl ?_
        refine z_iald F 1 rfl rfl dX0_latestWrite_16 (by omega) (by omega) ?_
        have r2 : 0 ≤ zt i.toNat ∧ zt i.toNat ≤ (sc-1) := h2 _
        refine z_iload_n F 2 dX0_latestWrite_17 rfl ?_
        refine z_icmp_ne F 23 dX0_latestWrite_18 (by decide) (by omega) (fun c3 => ?_) (fun c3 => ?_)
        · refine z_iinc F (lv' := [(2, .int (iZ (i + (-1)))), (0, .ref d), (1, .int (iZ tg))]) 0 dX0_latestWrite_23 rfl (by decide) rfl ?_
          refine z_goto F 7 dX0_latestWrite_26 (by decide) ?_
          exact ih7 (i + (-1)) (by omega) (by omega)
        · refine z_iload_n F 0 dX0_latestWrite_21 rfl ?_
          exact z_iret F hr dX0_latestWrite_22 (by omega) ⟨i, rfl, rfl, g7_0⟩
  exact lp7 (((wc - 1) + 1 : Int).toNat + 1) (wc - 1) (by omega) (Nat.lt_succ_self _)
set_option maxHeartbeats 4000000 in
set_option maxRecDepth 20000 in
theorem k_X0_waitAsItWillBe (l : Launch) (D : va_G) (K : KI) (d : Nat) (sc : Int) (db : Nat) (dq : Nat) (dt : Nat) (wc : Int) (nb : Nat) (zb : Nat → Int) (zq : Nat → Int) (zt : Nat → Int) (tg : Int) (h0 : 4 ≤ sc ∧ sc ≤ 40 ∧ (nb : Int) = 512 * sc) (h1 : rng (-128) 127 zb) (h2 : rng (-128) 127 zq) (h3 : rng 0 (sc-1) zt) (h4 : 0 ≤ wc ∧ wc ≤ 64) (h5 : 0 ≤ tg ∧ tg ≤ sc - 1) : Ct lw_T l yX0_waitAsItWillBe cX0_waitAsItWillBe 4 (some .int) { frames := 2, cells := 0, slots := 0, locals := 65 } 0 0 D cls5 (TY K) [.ref d, .int (iZ tg)] [oX0 d sc db dq dt wc, aB K db nb zb, aB K dq 32768 zq, aI K dt 64 zt] (fun vr wo => ∃ (r : Int), ∃ (wc2 : Int), ∃ (zb2 : Nat → Int), ∃ (zq2 : Nat → Int), ∃ (zt2 : Nat → Int), vr = some (.int (iZ r)) ∧ wo = [oX0 d sc db dq dt wc2, aB K db nb zb2, aB K dq 32768 zq2, aI K dt 64 zt2] ∧ (0 ≤ r ∧ r + 512 ≤ 32768) ∧ (0 ≤ wc2 ∧ wc2 ≤ 64) ∧ (rng (-128) 127 zb2) ∧ (rng (-128) 127 zq2) ∧ (rng 0 (sc-1) zt2)) := by
  refine ct_of (own := RX0) (lv := [(0, .ref d), (1, .int (iZ tg))]) (by decide) rfl (Nat.le_of_ble_eq_true rfl) rfl (fun C F hr hnm hzl => ?_)
  subst hzl
  refine z_aload_n F 0 dX0_waitAsItWillBe_0 rfl ?_
  refine z_get F 0 4 iX0 rfl rfl (by decide) t1_43 rfl dX0_waitAsItWillBe_1 ?_
  refine z_bipush F dX0_waitAsItWillBe_4 (by decide) ?_
  have lp17 : ∀ (w1 : Int) (b1 : Nat → Int), (0 ≤ w1 ∧ w1 ≤ 63) → (rng (-128) 127 b1) → Go C { frames := 2, cells := 0, slots := 0, locals := 65 } D cls5 4 0 0 [oX0 d sc db dq dt w1, aB K db nb b1, aB K dq 32768 zq, aI K dt 64 zt] 17 [(0, .ref d), (1, .int (iZ tg))] [] := by
    intro w1 b1 g17_0 g17_1
    refine z_aload_n F 0 dX0_waitAsItWillBe_17 rfl ?_
    refine z_get F 0 4 iX0 rfl rfl (by decide) t1_43 rfl dX0_waitAsItWillBe_18 ?_
    refine z_sipush F dX0_waitAsItWillBe_21 (by decide) ?_
    refine z_imul F dX0_waitAsItWillBe_24 ?_
    refine z_istore_n F (lv' := [(2, .int (iZ (w1 * 512))), (0, .ref d), (1, .int (iZ tg))]) dX0_waitAsItWillBe_25 (by decide) rfl ?_
    refine z_aload_n F 1 dX0_waitAsItWillBe_26 rfl ?_
    refine z_iload_n F 2 dX0_waitAsItWillBe_27 rfl ?_
    refine z_callV F lw_good (k_X0_latestWrite _ D K d sc db dq dt w1 zt tg (by omega) (by omega) h3 h5) t2_69 t1_3 t2_66 t2_68 (q := (RX0, TX0, 5)) ts_12 ⟨rfl, rfl⟩ ndX0_latestWrite ⟨Nat.le_of_ble_eq_true rfl, Nat.le_of_ble_eq_true rfl⟩ 0 rfl rfl (rest := []) rfl (Nat.le_of_ble_eq_true rfl) dX0_waitAsItWillBe_28 ⟨(show 0 + 0 ≤ 0 by omega), (show 0 + 0 ≤ 0 by omega)⟩ (wr := [aB K db nb b1, aB K dq 32768 zq]) ([0, 3] : List Nat) ([1, 2] : List Nat) rfl rfl rfl rfl (by decide) (fun vr wo hp => ?_)
    obtain ⟨r_1, rfl, rfl, f2⟩ := hp
    refine z_re F (ws' := [oX0 d sc db dq dt w1, aB K db nb b1, aB K dq 32768 zq, aI K dt 64 zt]) (st' := [.int (iZ r_1)]) ([2, 0, 1, 3] : List Nat) rfl rfl rfl ?_
    refine z_istore_n F (lv' := [(3, .int (iZ r_1)), (2, .int (iZ (w1 * 512))), (0, .ref d), (1, .int (iZ tg))]) dX0_waitAsItWillBe_31 (by decide) rfl ?_
    refine z_iload_n F 0 dX0_waitAsItWillBe_32 rfl ?_
    refine z_iconst F dX0_waitAsItWillBe_33 ?_
    refine z_icmp_ne F 60 dX0_waitAsItWillBe_34 (by decide) (by omega) (fun c3 => ?_) (fun c3 => ?_)
    · refine z_aload_n F 2 dX0_waitAsItWillBe_60 rfl ?_
      refine z_get F 0 2 iX0 rfl rfl (by decide) t1_40 rfl dX0_waitAsItWillBe_61 ?_
      refine z_iload_n F 0 dX0_waitAsItWillBe_64 rfl ?_
      refine z_sipush F dX0_waitAsItWillBe_65 (by decide) ?_
      refine z_imul F dX0_waitAsItWillBe_68 ?_
      refine z_aload_n F 2 dX0_waitAsItWillBe_69 rfl ?_
      refine z_get F 0 2 iX0 rfl rfl (by decide) t1_40 rfl dX0_waitAsItWillBe_70 ?_
      refine z_iload_n F 1 dX0_waitAsItWillBe_73 rfl ?_
      refine z_sipush F dX0_waitAsItWillBe_74 (by decide) ?_
      refine z_copy F (ws' := [oX0 d sc db dq dt w1, aB K db nb b1, aB K dq 32768 (va_cpy zq zq (r_1 * 512).toNat (w1 * 512).toNat (512 : Int).toNat), aI K dt 64 zt]) 2 2 1 rfl rfl rfl rfl t1_221 t1_223 t1_222 t1_9 (by omega) (fun i _ => fitB (h2 _)) (Nat.le_of_ble_eq_true rfl) (Nat.le_of_ble_eq_true rfl) dX0_waitAsItWillBe_77 rfl ?_
      have r4 : rng (-128) 127 (va_cpy zq zq (r_1 * 512).toNat (w1 * 512).toNat (512 : Int).toNat) := rng_cpy h2 h2
      refine z_aload_n F 2 dX0_waitAsItWillBe_80 rfl ?_
      refine z_iload_n F 3 dX0_waitAsItWillBe_81 rfl ?_
      refine z_callV F lw_good (k_X0_addTarget _ D K d sc db dq dt w1 zt tg g17_0 h3 h5) t1_227 t1_3 t1_224 t1_226 (q := (RX0, TX0, 5)) ts_6 ⟨rfl, rfl⟩ ndX0_addTarget ⟨Nat.le_of_ble_eq_true rfl, Nat.le_of_ble_eq_true rfl⟩ 0 rfl rfl (rest := []) rfl (Nat.le_of_ble_eq_true rfl) dX0_waitAsItWillBe_82 ⟨(show 0 + 0 ≤ 0 by omega), (show 0 + 0 ≤ 0 by omega)⟩ (wr := [aB K db nb b1, aB K dq 32768 (va_cpy zq zq (r_1 * 512).toNat (w1 * 512).toNat (512 : Int).toNat)]) ([0, 3] : List Nat) ([1, 2] : List Nat) rfl rfl rfl rfl (by decide) (fun vr wo hp => ?_)
      obtain ⟨r_5, zt2_6, rfl, rfl, f7, f8⟩ := hp
      refine z_re F (ws' := [oX0 d sc db dq dt (w1 + 1), aB K db nb b1, aB K dq 32768 (va_cpy zq zq (r_1 * 512).toNat (w1 * 512).toNat (512 : Int).toNat), aI K dt 64 zt2_6]) (st' := [.int (iZ r_5)]) ([2, 0, 1, 3] : List Nat) rfl rfl rfl ?_
      exact z_iret F hr dX0_waitAsItWillBe_85 (by omega) ⟨r_5, (w1 + 1), b1, (va_cpy zq zq (r_1 * 512).toNat (w1 * 512).toNat (512 : Int).toNat), zt2_6, rfl, rfl, (by omega), (by omega), g17_1, r4, f8⟩
    · refine z_aload_n F 2 dX0_waitAsItWillBe_37 rfl ?_
      refine z_get F 0 1 iX0 rfl rfl (by decide) t1_38 rfl dX0_waitAsItWillBe_38 ?_
      refine z_iload_n F 3 dX0_waitAsItWillBe_41 rfl ?_
      refine z_sipush F dX0_waitAsItWillBe_42 (by decide) ?_
      refine z_imul F dX0_waitAsItWillBe_45 ?_
      refine z_aload_n F 2 dX0_waitAsItWillBe_46 rfl ?_
      refine z_get F 0 2 iX0 rfl rfl (by decide) t1_40 rfl dX0_waitAsItWillBe_47 ?_
      refine z_iload_n F 1 dX0_waitAsItWillBe_50 rfl ?_
      refine z_sipush F dX0_waitAsItWillBe_51 (by decide) ?_
      refine z_copy F (ws' := [oX0 d sc db dq dt w1, aB K db nb b1, aB K dq 32768 (va_cpy b1 zq (tg * 512).toNat (w1 * 512).toNat (512 : Int).toNat), aI K dt 64 zt]) 1 2 1 rfl rfl rfl rfl t1_221 t1_223 t1_222 t1_9 (by omega) (fun i _ => fitB (g17_1 _)) (Nat.le_of_ble_eq_true rfl) (Nat.le_of_ble_eq_true rfl) dX0_waitAsItWillBe_54 rfl ?_
      have r9 : rng (-128) 127 (va_cpy b1 zq (tg * 512).toNat (w1 * 512).toNat (512 : Int).toNat) := rng_cpy g17_1 h2
      refine z_goto F 80 dX0_waitAsItWillBe_57 (by decide) ?_
      refine z_aload_n F 2 dX0_waitAsItWillBe_80 rfl ?_
      refine z_iload_n F 3 dX0_waitAsItWillBe_81 rfl ?_
      refine z_callV F lw_good (k_X0_addTarget _ D K d sc db dq dt w1 zt tg g17_0 h3 h5) t1_227 t1_3 t1_224 t1_226 (q := (RX0, TX0, 5)) ts_6 ⟨rfl, rfl⟩ ndX0_addTarget ⟨Nat.le_of_ble_eq_true rfl, Nat.le_of_ble_eq_true rfl⟩ 0 rfl rfl (rest := []) rfl (Nat.le_of_ble_eq_true rfl) dX0_waitAsItWillBe_82 ⟨(show 0 + 0 ≤ 0 by omega), (show 0 + 0 ≤ 0 by omega)⟩ (wr := [aB K db nb b1, aB K dq 32768 (va_cpy b1 zq (tg * 512).toNat (w1 * 512).toNat (512 : Int).toNat)]) ([0, 3] : List Nat) ([1, 2] : List Nat) rfl rfl rfl rfl (by decide) (fun vr wo hp => ?_)
      obtain ⟨r_10, zt2_11, rfl, rfl, f12, f13⟩ := hp
      refine z_re F (ws' := [oX0 d sc db dq dt (w1 + 1), aB K db nb b1, aB K dq 32768 (va_cpy b1 zq (tg * 512).toNat (w1 * 512).toNat (512 : Int).toNat), aI K dt 64 zt2_11]) (st' := [.int (iZ r_10)]) ([2, 0, 1, 3] : List Nat) rfl rfl rfl ?_
      exact z_iret F hr dX0_waitAsItWillBe_85 (by omega) ⟨r_10, (w1 + 1), b1, (va_cpy b1 zq (tg * 512).toNat (w1 * 512).toNat (512 : Int).toNat), zt2_11, rfl, rfl, (by omega), (by omega), g17_1, r9, f13⟩
  refine z_icmp_lt F 17 dX0_waitAsItWillBe_6 (by decide) (by omega) (fun c14 => ?_) (fun c14 => ?_)
  · exact lp17 wc zb (by omega) h1
  · refine z_aload_n F 0 dX0_waitAsItWillBe_9 rfl ?_
    refine z_bipush F dX0_waitAsItWillBe_10 (by decide) ?_
    refine z_iconst F dX0_waitAsItWillBe_12 ?_
    refine z_callV F lw_good (k_X0_bring _ D K d sc db dq dt wc nb zb zq zt 64 0 h0 h1 h2 h3 h4 (by omega)) t1_219 t1_3 t1_216 t1_217 (q := (RX0, TX0, 5)) t1_218 ⟨rfl, rfl⟩ ndX0_bring ⟨Nat.le_of_ble_eq_true rfl, Nat.le_of_ble_eq_true rfl⟩ 0 rfl rfl (rest := []) rfl (Nat.le_of_ble_eq_true rfl) dX0_waitAsItWillBe_13 ⟨(show 0 + 0 ≤ 0 by omega), (show 0 + 0 ≤ 0 by omega)⟩ (wr := []) ([0, 1, 2, 3] : List Nat) ([] : List Nat) rfl rfl rfl rfl (by decide) (fun vr wo hp => ?_)
    obtain ⟨r_15, zb2_16, rfl, rfl, f17, f18⟩ := hp
    refine z_re F (ws' := [oX0 d sc db dq dt 0, aB K db nb zb2_16, aB K dq 32768 zq, aI K dt 64 zt]) (st' := [.int (iZ r_15)]) ([0, 1, 2, 3] : List Nat) rfl rfl rfl ?_
    refine z_pop F dX0_waitAsItWillBe_16 rfl ?_
    exact lp17 0 zb2_16 (by omega) f18
set_option maxHeartbeats 4000000 in
set_option maxRecDepth 20000 in
theorem k_X1_editionAt (l : Launch) (D : va_G) (K : KI) (a : Nat) (n : Nat) (z : Nat → Int) (h : Int) (h0 : 1024 ≤ n ∧ n < 2147483648 ∧ 0 ≤ h ∧ h ≤ 1) : Ct lw_T l yX1_editionAt cX1_editionAt 2 (some .long) { frames := 1, cells := 0, slots := 0, locals := 25 } 0 0 D cls5 (TY K) [.ref a, .int (iZ h)] [aB K a n z] (fun vr wo => ∃ (r : Int64), vr = some (.long r) ∧ wo = [aB K a n z]) := by
  refine ct_of (own := RX1) (lv := [(0, .ref a), (1, .int (iZ h))]) (by decide) rfl (Nat.le_of_ble_eq_true rfl) rfl (fun C F hr hnm hzl => ?_)
  subst hzl
  refine z_aload_n F 0 dX1_editionAt_0 rfl ?_
  refine z_iload_n F 1 dX1_editionAt_1 rfl ?_
  refine z_sipush F dX1_editionAt_2 (by decide) ?_
  refine z_imul F dX1_editionAt_5 ?_
  refine z_iconst F dX1_editionAt_6 ?_
  refine z_callS F lw_good (k_X2_read _ D K a n z (h * 512) 4 (by omega)) t1_164 t1_8 t1_162 t1_163 ⟨rfl, rfl⟩ ndX2_read ⟨Nat.le_of_ble_eq_true rfl, Nat.le_of_ble_eq_true rfl⟩ (rest := []) rfl (Nat.le_of_ble_eq_true rfl) dX1_editionAt_7 ⟨(show 0 + 0 ≤ 0 by omega), (show 0 + 0 ≤ 0 by omega)⟩ (wr := []) ([0] : List Nat) ([] : List Nat) rfl rfl rfl rfl (by decide) (fun vr wo hp => ?_)
  obtain ⟨r_1, rfl, rfl, f2⟩ := hp
  refine z_re F (ws' := [aB K a n z]) (st' := [.long r_1]) ([0] : List Nat) rfl rfl rfl ?_
  exact z_lret F hr dX1_editionAt_10 (by omega) ⟨r_1, rfl, rfl⟩
set_option maxHeartbeats 4000000 in
set_option maxRecDepth 20000 in
theorem k_X4_has (l : Launch) (D : va_G) (K : KI) (u : Nat) (um : Nat) (ud : Nat) (zm : Nat → Int) (k : Int) (h0 : 0 ≤ k ∧ k ≤ 63) (h1 : rng 0 1 zm) : Ct lw_T l yX4_has cX4_has 2 (some .boolean) { frames := 0, cells := 0, slots := 0, locals := 0 } 0 0 D cls5 (TY K) [.ref u, .int (iZ k)] [oX4 u um ud, aZ K um 64 zm] (fun vr wo => vr = some (.int (iZ (zm k.toNat))) ∧ wo = [oX4 u um ud, aZ K um 64 zm]) := by
  refine ct_of (own := RX4) (lv := [(0, .ref u), (1, .int (iZ k))]) (by decide) rfl (Nat.le_of_ble_eq_true rfl) rfl (fun C F hr hnm hzl => ?_)
  subst hzl
  refine z_aload_n F 0 dX4_has_0 rfl ?_
  refine z_get F 0 0 iX4 rfl rfl (by decide) t1_101 rfl dX4_has_1 ?_
  refine z_iload_n F 1 dX4_has_4 rfl ?_
  refine z_zald F 1 rfl rfl dX4_has_5 (by omega) (by omega) ?_
  have r1 : 0 ≤ zm k.toNat ∧ zm k.toNat ≤ 1 := h1 _
  exact z_zret F hr (nar01 (by omega)) dX4_has_6 (by omega) ⟨rfl, rfl⟩
set_option maxHeartbeats 4000000 in
set_option maxRecDepth 20000 in
theorem k_X4_digestOf (l : Launch) (D : va_G) (K : KI) (u : Nat) (um : Nat) (ud : Nat) (fu : Nat → Int64) (k : Int) (h0 : 0 ≤ k ∧ k ≤ 63) : Ct lw_T l yX4_digestOf cX4_digestOf 2 (some .long) { frames := 0, cells := 0, slots := 0, locals := 0 } 0 0 D cls5 (TY K) [.ref u, .int (iZ k)] [oX4 u um ud, aL K ud 64 fu] (fun vr wo => vr = some (.long (fu k.toNat)) ∧ wo = [oX4 u um ud, aL K ud 64 fu]) := by
  refine ct_of (own := RX4) (lv := [(0, .ref u), (1, .int (iZ k))]) (by decide) rfl (Nat.le_of_ble_eq_true rfl) rfl (fun C F hr hnm hzl => ?_)
  subst hzl
  refine z_aload_n F 0 dX4_digestOf_0 rfl ?_
  refine z_get F 0 1 iX4 rfl rfl (by decide) t1_102 rfl dX4_digestOf_1 ?_
  refine z_iload_n F 1 dX4_digestOf_4 rfl ?_
  refine z_lald F 1 rfl rfl dX4_digestOf_5 (by omega) (by omega) ?_
  exact z_lret F hr dX4_digestOf_6 (by omega) ⟨rfl, rfl⟩
set_option maxHeartbeats 4000000 in
set_option maxRecDepth 20000 in
theorem k_X4_count (l : Launch) (D : va_G) (K : KI) (u : Nat) (um : Nat) (ud : Nat) (zm : Nat → Int) (h0 : rng 0 1 zm) : Ct lw_T l yX4_count cX4_count 3 (some .int) { frames := 0, cells := 0, slots := 0, locals := 0 } 0 0 D cls5 (TY K) [.ref u] [oX4 u um ud, aZ K um 64 zm] (fun vr wo => ∃ (r : Int), vr = some (.int (iZ r)) ∧ wo = [oX4 u um ud, aZ K um 64 zm] ∧ (0 ≤ r ∧ r ≤ 64)) := by
  refine ct_of (own := RX4) (lv := [(0, .ref u)]) (by decide) rfl (Nat.le_of_ble_eq_true rfl) rfl (fun C F hr hnm hzl => ?_)
  subst hzl
  refine z_iconst F dX4_count_0 ?_
  refine z_istore_n F (lv' := [(1, .int (iZ 0)), (0, .ref u)]) dX4_count_1 (by decide) rfl ?_
  refine z_iconst F dX4_count_2 ?_
  refine z_istore_n F (lv' := [(2, .int (iZ 0)), (1, .int (iZ 0)), (0, .ref u)]) dX4_count_3 (by decide) rfl ?_
  have lp4 : ∀ (nn4 : Nat) (c0 : Int) (i : Int), (0 ≤ i ∧ i ≤ 64) → (0 ≤ c0 ∧ c0 ≤ i) → ((64 - i : Int).toNat < nn4) → Go C { frames := 0, cells := 0, slots := 0, locals := 0 } D cls5 3 0 0 [oX4 u um ud, aZ K um 64 zm] 4 [(2, .int (iZ i)), (1, .int (iZ c0)), (0, .ref u)] [] := by
    intro nn4
    induction nn4 with
    | zero => intro c0 i g4_0 g4_1 hmu4; exact absurd hmu4 (Nat.not_lt_zero _)
    | succ nn4 ih4 =>
      intro c0 i g4_0 g4_1 hmu4
      refine z_iload_n F 0 dX4_count_4 rfl ?_
      refine z_bipush F dX4_count_5 (by decide) ?_
      refine z_icmp_ge F 28 dX4_count_7 (by decide) (by omega) (fun c1 => ?_) (fun c1 => ?_)
      · refine z_iload_n F 1 dX4_count_28 rfl ?_
        exact z_iret F hr dX4_count_29 (by omega) ⟨c0, rfl, rfl, (by omega)⟩
      · refine z_aload_n F 2 dX4_count_10 rfl ?_
        refine z_get F 0 0 iX4 rfl rfl (by decide) t1_101 rfl dX4_count_11 ?_
        refine z_iload_n F 0 dX4_count_14 rfl ?_
        refine z_zald F 1 rfl rfl dX4_count_15 (by omega) (by omega) ?_
        have r2 : 0 ≤ zm i.toNat ∧ zm i.toNat ≤ 1 := h0 _
        refine z_if_eq F 22 dX4_count_16 (by decide) (by omega) (fun c3 => ?_) (fun c3 => ?_)
        · refine z_iinc F (lv' := [(2, .int (iZ (i + 1))), (1, .int (iZ c0)), (0, .ref u)]) 0 dX4_count_22 rfl (by decide) rfl ?_
          refine z_goto F 4 dX4_count_25 (by decide) ?_
          exact ih4 c0 (i + 1) (by omega) (by omega) (by omega)
        · refine z_iinc F (lv' := [(1, .int (iZ (c0 + 1))), (2, .int (iZ i)), (0, .ref u)]) 1 dX4_count_19 rfl (by decide) rfl ?_
          refine z_iinc F (lv' := [(2, .int (iZ (i + 1))), (1, .int (iZ (c0 + 1))), (0, .ref u)]) 1 dX4_count_22 rfl (by decide) rfl ?_
          refine z_goto F 4 dX4_count_25 (by decide) ?_
          exact ih4 (c0 + 1) (i + 1) (by omega) (by omega) (by omega)
  exact lp4 ((64 - 0 : Int).toNat + 1) 0 0 (by omega) (by omega) (Nat.lt_succ_self _)
set_option maxHeartbeats 4000000 in
set_option maxRecDepth 20000 in
theorem k_X4_put (l : Launch) (D : va_G) (K : KI) (u : Nat) (um : Nat) (ud : Nat) (zm : Nat → Int) (fu : Nat → Int64) (k : Int) (dg : Int64) (h0 : 0 ≤ k ∧ k ≤ 63) (h1 : rng 0 1 zm) : Ct lw_T l yX4_put cX4_put 4 none { frames := 0, cells := 0, slots := 0, locals := 0 } 0 0 D cls5 (TY K) [.ref u, .int (iZ k), .long dg] [oX4 u um ud, aZ K um 64 zm, aL K ud 64 fu] (fun vr wo => ∃ (zm2 : Nat → Int), ∃ (fu2 : Nat → Int64), vr = none ∧ wo = [oX4 u um ud, aZ K um 64 zm2, aL K ud 64 fu2] ∧ (rng 0 1 zm2)) := by
  refine ct_of (own := RX4) (lv := [(0, .ref u), (1, .int (iZ k)), (2, .long dg)]) (by decide) rfl (Nat.le_of_ble_eq_true rfl) rfl (fun C F hr hnm hzl => ?_)
  subst hzl
  refine z_aload_n F 0 dX4_put_0 rfl ?_
  refine z_get F 0 0 iX4 rfl rfl (by decide) t1_101 rfl dX4_put_1 ?_
  refine z_iload_n F 1 dX4_put_4 rfl ?_
  refine z_iconst F dX4_put_5 ?_
  refine z_zast F (ws' := [oX4 u um ud, aZ K um 64 (zu zm k.toNat (1 % 2)), aL K ud 64 fu]) 1 rfl rfl dX4_put_6 (by omega) (by omega) rfl ?_
  have r1 : rng 0 1 (zu zm k.toNat (1 % 2)) := rng_zu h1 (by omega)
  refine z_aload_n F 0 dX4_put_7 rfl ?_
  refine z_get F 0 1 iX4 rfl rfl (by decide) t1_102 rfl dX4_put_8 ?_
  refine z_iload_n F 1 dX4_put_11 rfl ?_
  refine z_lload_n F 2 dX4_put_12 rfl ?_
  refine z_last F (ws' := [oX4 u um ud, aZ K um 64 (zu zm k.toNat (1 % 2)), aL K ud 64 (vp_updL fu k.toNat dg)]) 2 rfl rfl dX4_put_13 (by omega) (by omega) rfl ?_
  exact z_vret F hr dX4_put_14 (by omega) ⟨(zu zm k.toNat (1 % 2)), (vp_updL fu k.toNat dg), rfl, rfl, r1⟩
set_option maxHeartbeats 4000000 in
set_option maxRecDepth 20000 in
theorem k_X4_forget (l : Launch) (D : va_G) (K : KI) (u : Nat) (um : Nat) (ud : Nat) (zm : Nat → Int) (k : Int) (h0 : 0 ≤ k ∧ k ≤ 63) (h1 : rng 0 1 zm) : Ct lw_T l yX4_forget cX4_forget 2 none { frames := 0, cells := 0, slots := 0, locals := 0 } 0 0 D cls5 (TY K) [.ref u, .int (iZ k)] [oX4 u um ud, aZ K um 64 zm] (fun vr wo => ∃ (zm2 : Nat → Int), vr = none ∧ wo = [oX4 u um ud, aZ K um 64 zm2] ∧ (rng 0 1 zm2)) := by
  refine ct_of (own := RX4) (lv := [(0, .ref u), (1, .int (iZ k))]) (by decide) rfl (Nat.le_of_ble_eq_true rfl) rfl (fun C F hr hnm hzl => ?_)
  subst hzl
  refine z_aload_n F 0 dX4_forget_0 rfl ?_
  refine z_get F 0 0 iX4 rfl rfl (by decide) t1_101 rfl dX4_forget_1 ?_
  refine z_iload_n F 1 dX4_forget_4 rfl ?_
  refine z_iconst F dX4_forget_5 ?_
  refine z_zast F (ws' := [oX4 u um ud, aZ K um 64 (zu zm k.toNat (0 % 2))]) 1 rfl rfl dX4_forget_6 (by omega) (by omega) rfl ?_
  have r1 : rng 0 1 (zu zm k.toNat (0 % 2)) := rng_zu h1 (by omega)
  exact z_vret F hr dX4_forget_7 (by omega) ⟨(zu zm k.toNat (0 % 2)), rfl, rfl, r1⟩
set_option maxHeartbeats 4000000 in
set_option maxRecDepth 20000 in
theorem k_X4_forgetAll (l : Launch) (D : va_G) (K : KI) (u : Nat) (um : Nat) (ud : Nat) (zm : Nat → Int) (h0 : rng 0 1 zm) : Ct lw_T l yX4_forgetAll cX4_forgetAll 2 none { frames := 0, cells := 0, slots := 0, locals := 0 } 0 0 D cls5 (TY K) [.ref u] [oX4 u um ud, aZ K um 64 zm] (fun vr wo => ∃ (zm2 : Nat → Int), vr = none ∧ wo = [oX4 u um ud, aZ K um 64 zm2] ∧ (rng 0 1 zm2)) := by
  refine ct_of (own := RX4) (lv := [(0, .ref u)]) (by decide) rfl (Nat.le_of_ble_eq_true rfl) rfl (fun C F hr hnm hzl => ?_)
  subst hzl
  refine z_iconst F dX4_forgetAll_0 ?_
  refine z_istore_n F (lv' := [(1, .int (iZ 0)), (0, .ref u)]) dX4_forgetAll_1 (by decide) rfl ?_
  have lp2 : ∀ (nn2 : Nat) (i : Int) (w : Nat → Int), (0 ≤ i ∧ i ≤ 64) → (rng 0 1 w) → ((64 - i : Int).toNat < nn2) → Go C { frames := 0, cells := 0, slots := 0, locals := 0 } D cls5 2 0 0 [oX4 u um ud, aZ K um 64 w] 2 [(1, .int (iZ i)), (0, .ref u)] [] := by
    intro nn2
    induction nn2 with
    | zero => intro i w g2_0 g2_1 hmu2; exact absurd hmu2 (Nat.not_lt_zero _)
    | succ nn2 ih2 =>
      intro i w g2_0 g2_1 hmu2
      refine z_iload_n F 0 dX4_forgetAll_2 rfl ?_
      refine z_bipush F dX4_forgetAll_3 (by decide) ?_
      refine z_icmp_ge F 21 dX4_forgetAll_5 (by decide) (by omega) (fun c1 => ?_) (fun c1 => ?_)
      · exact z_vret F hr dX4_forgetAll_21 (by omega) ⟨w, rfl, rfl, g2_1⟩
      · refine z_aload_n F 1 dX4_forgetAll_8 rfl ?_
        refine z_get F 0 0 iX4 rfl rfl (by decide) t1_101 rfl dX4_forgetAll_9 ?_
        refine z_iload_n F 0 dX4_forgetAll_12 rfl ?_
        refine z_iconst F dX4_forgetAll_13 ?_
        refine z_zast F (ws' := [oX4 u um ud, aZ K um 64 (zu w i.toNat (0 % 2))]) 1 rfl rfl dX4_forgetAll_14 (by omega) (by omega) rfl ?_
        have r2 : rng 0 1 (zu w i.toNat (0 % 2)) := rng_zu g2_1 (by omega)
        refine z_iinc F (lv' := [(1, .int (iZ (i + 1))), (0, .ref u)]) 0 dX4_forgetAll_15 rfl (by decide) rfl ?_
        refine z_goto F 2 dX4_forgetAll_18 (by decide) ?_
        exact ih2 (i + 1) (zu w i.toNat (0 % 2)) (by omega) r2 (by omega)
  exact lp2 ((64 - 0 : Int).toNat + 1) 0 zm (by omega) h0 (Nat.lt_succ_self _)
