set_option maxHeartbeats 4000000 in
set_option maxRecDepth 20000 in
theorem k_X6_step (l : Launch) (D : va_G) (K : KI) (o : Nat) (th : Int) (se : Int) (ea : Int) (dk : Nat) (wt : Nat) (wh : Nat) (wc : Int) (nw : Nat) (ru : Int) (ed : Int) (wa : Int) (sq : Int) (ar : Int) (en : Int) (sd : Int) (wg : Int) (tk : Int) (cp : Int) (co : Int) (ki : Nat) (ke : Nat) (mn : Nat) (ak : Nat) (dg : Nat) (uk : Nat) (ud : Nat) (zd : Nat → Int) (zw : Nat → Int) (zh : Nat → Int) (zn : Nat → Int) (kz : Nat → Int) (yz : Nat → Int) (mz : Nat → Int) (az : Nat → Int) (fg : Nat → Int64) (h0 : 4 ≤ se ∧ se ≤ 40 ∧ 1 ≤ ea ∧ 2 * ea ≤ se - 2 ∧ se - 2 ≤ 2 * ea + 1) (h1 : 0 ≤ wc ∧ wc ≤ 64) (h2 : rng 0 255 zd) (h3 : rng 0 255 zw) (h4 : rng 0 (se-1) zh) (h5 : rng 0 255 zn) (h6 : rng 0 3 kz) (h7 : rng 0 255 yz) (h8 : rng 0 6 mz) (h9 : rng 0 255 az) (h10 : akOk mz az) (h11 : 0 ≤ en ∧ en ≤ 16 * ea) (h12 : 0 ≤ ar ∧ ar ≤ 1) (h13 : co = 0 ∨ (co = 1 ∧ 0 ≤ cp ∧ cp ≤ tk ∧ tk ≤ en)) (h14 : 0 ≤ sq ∧ sq ≤ 2100000000) (h15 : 0 ≤ sd ∧ sd ≤ 304) : Ct lw_T l yX6_step cX6_step 3 (some .boolean) { frames := 5, cells := 0, slots := 0, locals := 106 } 0 0 D cls5 (TY K) [.ref o] [oX6 o th se ea dk wt wh wc nw ru ed wa sq ar en sd wg tk cp co ki ke mn ak dg uk ud, aI K dk 20480 zd, aI K wt 32768 zw, aI K wh 64 zh, aI K nw 512 zn, aI K ki 608 kz, aI K ke 608 yz, aI K mn 608 mz, aI K ak 3648 az, aL K dg 608 fg] (fun vr wo => ∃ (r : Int), ∃ (sq2 : Int), ∃ (ar2 : Int), ∃ (en2 : Int), ∃ (sd2 : Int), ∃ (tk2 : Int), ∃ (cp2 : Int), ∃ (co2 : Int), ∃ (wc2 : Int), ∃ (zd2 : Nat → Int), ∃ (zw2 : Nat → Int), ∃ (zh2 : Nat → Int), ∃ (zn2 : Nat → Int), ∃ (kz2 : Nat → Int), ∃ (yz2 : Nat → Int), ∃ (mz2 : Nat → Int), ∃ (az2 : Nat → Int), ∃ (fg2 : Nat → Int64), vr = some (.int (iZ r)) ∧ wo = [oX6 o th se ea dk wt wh wc2 nw ru ed wa sq2 ar2 en2 sd2 wg tk2 cp2 co2 ki ke mn ak dg uk ud, aI K dk 20480 zd2, aI K wt 32768 zw2, aI K wh 64 zh2, aI K nw 512 zn2, aI K ki 608 kz2, aI K ke 608 yz2, aI K mn 608 mz2, aI K ak 3648 az2, aL K dg 608 fg2] ∧ (r = 0 ∨ r = 1) ∧ (sq ≤ sq2 ∧ sq2 ≤ sq + 2 * r) ∧ (0 ≤ en2 ∧ en2 ≤ 16 * ea) ∧ (0 ≤ sd2 ∧ sd2 ≤ 304) ∧ (0 ≤ wc2 ∧ wc2 ≤ 64) ∧ (rng 0 255 zd2) ∧ (rng 0 255 zw2) ∧ (rng 0 (se-1) zh2) ∧ (rng 0 255 zn2) ∧ (rng 0 3 kz2) ∧ (rng 0 255 yz2) ∧ (rng 0 6 mz2) ∧ (rng 0 255 az2) ∧ (akOk mz2 az2) ∧ (0 ≤ ar2 ∧ ar2 ≤ 1) ∧ (co2 = 0 ∨ (co2 = 1 ∧ 0 ≤ cp2 ∧ cp2 ≤ tk2 ∧ tk2 ≤ en2))) := by
  refine ct_of (own := RX6) (lv := [(0, .ref o)]) (by decide) rfl (Nat.le_of_ble_eq_true rfl) rfl (fun C F hr hnm hzl => ?_)
  subst hzl
  refine z_aload_n F 0 dX6_step_0 rfl ?_
  refine z_get F 0 18 iX6 rfl rfl (by decide) t3_94 rfl dX6_step_1 ?_
  refine z_if_ne F 34 dX6_step_4 (by decide) (by omega) (fun c1 => ?_) (fun c1 => ?_)
  · refine z_aload_n F 0 dX6_step_34 rfl ?_
    refine z_get F 0 16 iX6 rfl rfl (by decide) t3_92 rfl dX6_step_35 ?_
    refine z_aload_n F 0 dX6_step_38 rfl ?_
    refine z_get F 0 13 iX6 rfl rfl (by decide) t3_89 rfl dX6_step_39 ?_
    refine z_icmp_ge F 176 dX6_step_42 (by decide) (by omega) (fun c2 => ?_) (fun c2 => ?_)
    · refine z_aload_n F 0 dX6_step_176 rfl ?_
      refine z_iconst F dX6_step_177 ?_
      refine z_aload_n F 0 dX6_step_178 rfl ?_
      refine z_get F 0 12 iX6 rfl rfl (by decide) t3_88 rfl dX6_step_179 ?_
      refine z_isub F dX6_step_182 ?_
      refine z_put F (ws' := [oX6 o th se ea dk wt wh wc nw ru ed wa sq (1 - ar) en sd wg tk cp co ki ke mn ak dg uk ud, aI K dk 20480 zd, aI K wt 32768 zw, aI K wh 64 zh, aI K nw 512 zn, aI K ki 608 kz, aI K ke 608 yz, aI K mn 608 mz, aI K ak 3648 az, aL K dg 608 fg]) 0 12 iX6 tyX6 tyX6_ok nmX6 rfl rfl (by decide) t3_88 rfl rfl rfl rfl (Nat.le_of_ble_eq_true rfl) dX6_step_183 rfl ?_
      refine z_aload_n F 0 dX6_step_186 rfl ?_
      refine z_callV F lw_good (k_X6_changeHeads _ D K o th se ea dk wt wh wc nw ru ed wa sq (1 - ar) en sd wg tk cp co ki ke mn ak dg uk ud zd zw zh zn h0 h1 h2 h3 h4 h5 (by omega) h14) t3_222 t1_6 t3_219 t3_221 (q := (RX6, TX6, 26)) ts_32 ⟨rfl, rfl⟩ ndX6_changeHeads ⟨Nat.le_of_ble_eq_true rfl, Nat.le_of_ble_eq_true rfl⟩ 0 rfl rfl (rest := []) rfl (Nat.le_of_ble_eq_true rfl) dX6_step_187 ⟨(show 0 + 0 ≤ 0 by omega), (show 0 + 0 ≤ 0 by omega)⟩ (wr := [aI K ki 608 kz, aI K ke 608 yz, aI K mn 608 mz, aI K ak 3648 az, aL K dg 608 fg]) ([0, 1, 2, 3, 4] : List Nat) ([5, 6, 7, 8, 9] : List Nat) rfl rfl rfl rfl (by decide) (fun vr wo hp => ?_)
      obtain ⟨wc2_3, zd2_4, zw2_5, zh2_6, zn2_7, rfl, rfl, f8, f9, f10, f11, f12⟩ := hp
      refine z_re F (ws' := [oX6 o th se ea dk wt wh wc2_3 nw ru ed wa ((sq + 1) + 1) (1 - ar) en sd wg tk cp co ki ke mn ak dg uk ud, aI K dk 20480 zd2_4, aI K wt 32768 zw2_5, aI K wh 64 zh2_6, aI K nw 512 zn2_7, aI K ki 608 kz, aI K ke 608 yz, aI K mn 608 mz, aI K ak 3648 az, aL K dg 608 fg]) (st' := []) ([5, 6, 7, 8, 9, 0, 1, 2, 3, 4] : List Nat) rfl rfl rfl ?_
      refine z_iconst F dX6_step_190 ?_
      refine z_istore_n F (lv' := [(1, .int (iZ 0)), (0, .ref o)]) dX6_step_191 (by decide) rfl ?_
      have lp192 : ∀ (nn192 : Nat) (i : Int) (kzv : Nat → Int) (yzv : Nat → Int) (mzv : Nat → Int) (azv : Nat → Int) (fgv : Nat → Int64), (0 ≤ i ∧ i ≤ cp) → (rng 0 3 kzv) → (rng 0 255 yzv) → (rng 0 6 mzv) → (rng 0 255 azv) → (akOk mzv azv) → ((cp - i : Int).toNat < nn192) → Go C { frames := 5, cells := 0, slots := 0, locals := 106 } D cls5 3 0 0 [oX6 o th se ea dk wt wh wc2_3 nw ru ed wa ((sq + 1) + 1) (1 - ar) en sd wg tk cp co ki ke mn ak dg uk ud, aI K dk 20480 zd2_4, aI K wt 32768 zw2_5, aI K wh 64 zh2_6, aI K nw 512 zn2_7, aI K ki 608 kzv, aI K ke 608 yzv, aI K mn 608 mzv, aI K ak 3648 azv, aL K dg 608 fgv] 192 [(1, .int (iZ i)), (0, .ref o)] [] := by
        intro nn192
        induction nn192 with
        | zero => intro i kzv yzv mzv azv fgv g192_0 g192_1 g192_2 g192_3 g192_4 g192_5 hmu192; exact absurd hmu192 (Nat.not_lt_zero _)
        | succ nn192 ih192 =>
          intro i kzv yzv mzv azv fgv g192_0 g192_1 g192_2 g192_3 g192_4 g192_5 hmu192
          refine z_iload_n F 0 dX6_step_192 rfl ?_
          refine z_aload_n F 1 dX6_step_193 rfl ?_
          refine z_get F 0 17 iX6 rfl rfl (by decide) t3_93 rfl dX6_step_194 ?_
          refine z_icmp_ge F 216 dX6_step_197 (by decide) (by omega) (fun c13 => ?_) (fun c13 => ?_)
          · refine z_aload_n F 1 dX6_step_216 rfl ?_
            refine z_aload_n F 1 dX6_step_217 rfl ?_
            refine z_get F 0 17 iX6 rfl rfl (by decide) t3_93 rfl dX6_step_218 ?_
            refine z_put F (ws' := [oX6 o th se ea dk wt wh wc2_3 nw ru ed wa ((sq + 1) + 1) (1 - ar) cp sd wg tk cp co ki ke mn ak dg uk ud, aI K dk 20480 zd2_4, aI K wt 32768 zw2_5, aI K wh 64 zh2_6, aI K nw 512 zn2_7, aI K ki 608 kzv, aI K ke 608 yzv, aI K mn 608 mzv, aI K ak 3648 azv, aL K dg 608 fgv]) 0 13 iX6 tyX6 tyX6_ok nmX6 rfl rfl (by decide) t3_89 rfl rfl rfl rfl (Nat.le_of_ble_eq_true rfl) dX6_step_221 rfl ?_
            refine z_aload_n F 1 dX6_step_224 rfl ?_
            refine z_aload_n F 1 dX6_step_225 rfl ?_
            refine z_get F 0 13 iX6 rfl rfl (by decide) t3_89 rfl dX6_step_226 ?_
            refine z_put F (ws' := [oX6 o th se ea dk wt wh wc2_3 nw ru ed wa ((sq + 1) + 1) (1 - ar) cp cp wg tk cp co ki ke mn ak dg uk ud, aI K dk 20480 zd2_4, aI K wt 32768 zw2_5, aI K wh 64 zh2_6, aI K nw 512 zn2_7, aI K ki 608 kzv, aI K ke 608 yzv, aI K mn 608 mzv, aI K ak 3648 azv, aL K dg 608 fgv]) 0 14 iX6 tyX6 tyX6_ok nmX6 rfl rfl (by decide) t3_90 rfl rfl rfl rfl (Nat.le_of_ble_eq_true rfl) dX6_step_229 rfl ?_
            refine z_aload_n F 1 dX6_step_232 rfl ?_
            refine z_iconst F dX6_step_233 ?_
            refine z_put F (ws' := [oX6 o th se ea dk wt wh wc2_3 nw ru ed wa ((sq + 1) + 1) (1 - ar) cp cp wg tk cp 0 ki ke mn ak dg uk ud, aI K dk 20480 zd2_4, aI K wt 32768 zw2_5, aI K wh 64 zh2_6, aI K nw 512 zn2_7, aI K ki 608 kzv, aI K ke 608 yzv, aI K mn 608 mzv, aI K ak 3648 azv, aL K dg 608 fgv]) 0 18 iX6 tyX6 tyX6_ok nmX6 rfl rfl (by decide) t3_94 rfl rfl (by decide) (by decide) (Nat.le_of_ble_eq_true rfl) dX6_step_234 rfl ?_
            refine z_iconst F dX6_step_237 ?_
            exact z_zret F hr (by decide) dX6_step_238 (by omega) ⟨1, ((sq + 1) + 1), (1 - ar), cp, cp, tk, cp, 0, wc2_3, zd2_4, zw2_5, zh2_6, zn2_7, kzv, yzv, mzv, azv, fgv, rfl, rfl, (by omega), (by omega), (by omega), (by omega), f8, f9, f10, f11, f12, g192_1, g192_2, g192_3, g192_4, g192_5, (by omega), (by omega)⟩
          · refine z_aload_n F 1 dX6_step_200 rfl ?_
            refine z_sipush F dX6_step_201 (by decide) ?_
            refine z_iload_n F 0 dX6_step_204 rfl ?_
            refine z_iadd F dX6_step_205 ?_
            refine z_iload_n F 0 dX6_step_206 rfl ?_
            refine z_callV F lw_good (k_X6_copyRow _ D K o th se ea dk wt wh wc2_3 nw ru ed wa ((sq + 1) + 1) (1 - ar) en sd wg tk cp co ki ke mn ak dg uk ud kzv yzv mzv azv fgv (304 + i) i (by omega) g192_1 g192_2 g192_3 g192_4 g192_5) t4_35 t1_6 t4_32 t4_34 (q := (RX6, TX6, 26)) ts_41 ⟨rfl, rfl⟩ ndX6_copyRow ⟨Nat.le_of_ble_eq_true rfl, Nat.le_of_ble_eq_true rfl⟩ 0 rfl rfl (rest := []) rfl (Nat.le_of_ble_eq_true rfl) dX6_step_207 ⟨(show 0 + 0 ≤ 0 by omega), (show 0 + 0 ≤ 0 by omega)⟩ (wr := [aI K dk 20480 zd2_4, aI K wt 32768 zw2_5, aI K wh 64 zh2_6, aI K nw 512 zn2_7]) ([0, 5, 6, 7, 8, 9] : List Nat) ([1, 2, 3, 4] : List Nat) rfl rfl rfl rfl (by decide) (fun vr wo hp => ?_)
            obtain ⟨kz2_14, yz2_15, mz2_16, az2_17, fg2_18, rfl, rfl, f19, f20, f21, f22, f23⟩ := hp
            refine z_re F (ws' := [oX6 o th se ea dk wt wh wc2_3 nw ru ed wa ((sq + 1) + 1) (1 - ar) en sd wg tk cp co ki ke mn ak dg uk ud, aI K dk 20480 zd2_4, aI K wt 32768 zw2_5, aI K wh 64 zh2_6, aI K nw 512 zn2_7, aI K ki 608 kz2_14, aI K ke 608 yz2_15, aI K mn 608 mz2_16, aI K ak 3648 az2_17, aL K dg 608 fg2_18]) (st' := []) ([4, 0, 1, 2, 3, 5, 6, 7, 8, 9] : List Nat) rfl rfl rfl ?_
            refine z_iinc F (lv' := [(1, .int (iZ (i + 1))), (0, .ref o)]) 0 dX6_step_210 rfl (by decide) rfl ?_
            refine z_goto F 192 dX6_step_213 (by decide) ?_
            exact ih192 (i + 1) kz2_14 yz2_15 mz2_16 az2_17 fg2_18 (by omega) f19 f20 f21 f22 f23 (by omega)
      exact lp192 ((cp - 0 : Int).toNat + 1) 0 kz yz mz az fg (by omega) h6 h7 h8 h9 h10 (Nat.lt_succ_self _)
    · refine z_aload_n F 0 dX6_step_45 rfl ?_
      refine z_get F 0 16 iX6 rfl rfl (by decide) t3_92 rfl dX6_step_46 ?_
      refine z_istore_n F (lv' := [(1, .int (iZ tk)), (0, .ref o)]) dX6_step_49 (by decide) rfl ?_
      refine z_aload_n F 1 dX6_step_50 rfl ?_
      refine z_dup F dX6_step_51 rfl ?_
      refine z_get F 0 16 iX6 rfl rfl (by decide) t3_92 rfl dX6_step_52 ?_
      refine z_iconst F dX6_step_55 ?_
      refine z_iadd F dX6_step_56 ?_
      refine z_put F (ws' := [oX6 o th se ea dk wt wh wc nw ru ed wa sq ar en sd wg (tk + 1) cp co ki ke mn ak dg uk ud, aI K dk 20480 zd, aI K wt 32768 zw, aI K wh 64 zh, aI K nw 512 zn, aI K ki 608 kz, aI K ke 608 yz, aI K mn 608 mz, aI K ak 3648 az, aL K dg 608 fg]) 0 16 iX6 tyX6 tyX6_ok nmX6 rfl rfl (by decide) t3_92 rfl rfl rfl rfl (Nat.le_of_ble_eq_true rfl) dX6_step_57 rfl ?_
      refine z_aload_n F 1 dX6_step_60 rfl ?_
      refine z_get F 0 19 iX6 rfl rfl (by decide) t3_95 rfl dX6_step_61 ?_
      refine z_iload_n F 0 dX6_step_64 rfl ?_
      refine z_iald F 5 rfl rfl dX6_step_65 (by omega) (by omega) ?_
      have r24 : 0 ≤ kz tk.toNat ∧ kz tk.toNat ≤ 3 := h6 _
      refine z_iconst F dX6_step_66 ?_
      have lp122 : ∀ (s0 : Int), (s0 = 0 ∨ s0 = 1) → Go C { frames := 5, cells := 0, slots := 0, locals := 106 } D cls5 3 0 0 [oX6 o th se ea dk wt wh wc nw ru ed wa sq ar en sd wg (tk + 1) cp co ki ke mn ak dg uk ud, aI K dk 20480 zd, aI K wt 32768 zw, aI K wh 64 zh, aI K nw 512 zn, aI K ki 608 kz, aI K ke 608 yz, aI K mn 608 mz, aI K ak 3648 az, aL K dg 608 fg] 122 [(1, .int (iZ tk)), (0, .ref o)] [.int (iZ s0)] := by
        intro s0 g122_0
        refine z_istore_n F (lv' := [(2, .int (iZ s0)), (1, .int (iZ tk)), (0, .ref o)]) dX6_step_122 (by decide) rfl ?_
        refine z_iload_n F 0 dX6_step_123 rfl ?_
        refine z_if_ne F 129 dX6_step_124 (by decide) (by omega) (fun c25 => ?_) (fun c25 => ?_)
        · refine z_aload_n F 2 dX6_step_129 rfl ?_
          refine z_iload_n F 1 dX6_step_130 rfl ?_
          refine z_sipush F dX6_step_131 (by decide) ?_
          refine z_aload_n F 2 dX6_step_134 rfl ?_
          refine z_get F 0 17 iX6 rfl rfl (by decide) t3_93 rfl dX6_step_135 ?_
          refine z_iadd F dX6_step_138 ?_
          refine z_callV F lw_good (k_X6_copyRow _ D K o th se ea dk wt wh wc nw ru ed wa sq ar en sd wg (tk + 1) cp co ki ke mn ak dg uk ud kz yz mz az fg tk (304 + cp) (by omega) h6 h7 h8 h9 h10) t4_35 t1_6 t4_32 t4_34 (q := (RX6, TX6, 26)) ts_41 ⟨rfl, rfl⟩ ndX6_copyRow ⟨Nat.le_of_ble_eq_true rfl, Nat.le_of_ble_eq_true rfl⟩ 0 rfl rfl (rest := []) rfl (Nat.le_of_ble_eq_true rfl) dX6_step_139 ⟨(show 0 + 0 ≤ 0 by omega), (show 0 + 0 ≤ 0 by omega)⟩ (wr := [aI K dk 20480 zd, aI K wt 32768 zw, aI K wh 64 zh, aI K nw 512 zn]) ([0, 5, 6, 7, 8, 9] : List Nat) ([1, 2, 3, 4] : List Nat) rfl rfl rfl rfl (by decide) (fun vr wo hp => ?_)
          obtain ⟨kz2_26, yz2_27, mz2_28, az2_29, fg2_30, rfl, rfl, f31, f32, f33, f34, f35⟩ := hp
          refine z_re F (ws' := [oX6 o th se ea dk wt wh wc nw ru ed wa sq ar en sd wg (tk + 1) cp co ki ke mn ak dg uk ud, aI K dk 20480 zd, aI K wt 32768 zw, aI K wh 64 zh, aI K nw 512 zn, aI K ki 608 kz2_26, aI K ke 608 yz2_27, aI K mn 608 mz2_28, aI K ak 3648 az2_29, aL K dg 608 fg2_30]) (st' := []) ([4, 0, 1, 2, 3, 5, 6, 7, 8, 9] : List Nat) rfl rfl rfl ?_
          refine z_aload_n F 2 dX6_step_142 rfl ?_
          refine z_iconst F dX6_step_143 ?_
          refine z_aload_n F 2 dX6_step_144 rfl ?_
          refine z_get F 0 12 iX6 rfl rfl (by decide) t3_88 rfl dX6_step_145 ?_
          refine z_isub F dX6_step_148 ?_
          refine z_aload_n F 2 dX6_step_149 rfl ?_
          refine z_get F 0 17 iX6 rfl rfl (by decide) t3_93 rfl dX6_step_150 ?_
          refine z_sipush F dX6_step_153 (by decide) ?_
          refine z_aload_n F 2 dX6_step_156 rfl ?_
          refine z_get F 0 17 iX6 rfl rfl (by decide) t3_93 rfl dX6_step_157 ?_
          refine z_iadd F dX6_step_160 ?_
          refine z_callV F lw_good (k_X6_write _ D K o th se ea dk wt wh wc nw ru ed wa sq ar en sd wg (tk + 1) cp co ki ke mn ak dg uk ud zd zw zh zn kz2_26 yz2_27 mz2_28 az2_29 fg2_30 (1 - ar) cp (304 + cp) h0 h1 h2 h3 h4 h5 f31 f32 f33 f34 f35 (by omega) (by omega)) t4_3 t1_6 t4_0 t4_2 (q := (RX6, TX6, 26)) ts_36 ⟨rfl, rfl⟩ ndX6_write ⟨Nat.le_of_ble_eq_true rfl, Nat.le_of_ble_eq_true rfl⟩ 0 rfl rfl (rest := []) rfl (Nat.le_of_ble_eq_true rfl) dX6_step_161 ⟨(show 0 + 0 ≤ 0 by omega), (show 0 + 0 ≤ 0 by omega)⟩ (wr := []) ([0, 1, 2, 3, 4, 5, 6, 7, 8, 9] : List Nat) ([] : List Nat) rfl rfl rfl rfl (by decide) (fun vr wo hp => ?_)
          obtain ⟨wc2_36, zd2_37, zw2_38, zh2_39, zn2_40, rfl, rfl, f41, f42, f43, f44, f45⟩ := hp
          refine z_re F (ws' := [oX6 o th se ea dk wt wh wc2_36 nw ru ed wa sq ar en sd wg (tk + 1) cp co ki ke mn ak dg uk ud, aI K dk 20480 zd2_37, aI K wt 32768 zw2_38, aI K wh 64 zh2_39, aI K nw 512 zn2_40, aI K ki 608 kz2_26, aI K ke 608 yz2_27, aI K mn 608 mz2_28, aI K ak 3648 az2_29, aL K dg 608 fg2_30]) (st' := []) ([0, 1, 2, 3, 4, 5, 6, 7, 8, 9] : List Nat) rfl rfl rfl ?_
          refine z_aload_n F 2 dX6_step_164 rfl ?_
          refine z_dup F dX6_step_165 rfl ?_
          refine z_get F 0 17 iX6 rfl rfl (by decide) t3_93 rfl dX6_step_166 ?_
          refine z_iconst F dX6_step_169 ?_
          refine z_iadd F dX6_step_170 ?_
          refine z_put F (ws' := [oX6 o th se ea dk wt wh wc2_36 nw ru ed wa sq ar en sd wg (tk + 1) (cp + 1) co ki ke mn ak dg uk ud, aI K dk 20480 zd2_37, aI K wt 32768 zw2_38, aI K wh 64 zh2_39, aI K nw 512 zn2_40, aI K ki 608 kz2_26, aI K ke 608 yz2_27, aI K mn 608 mz2_28, aI K ak 3648 az2_29, aL K dg 608 fg2_30]) 0 17 iX6 tyX6 tyX6_ok nmX6 rfl rfl (by decide) t3_93 rfl rfl rfl rfl (Nat.le_of_ble_eq_true rfl) dX6_step_171 rfl ?_
          refine z_iconst F dX6_step_174 ?_
          exact z_zret F hr (by decide) dX6_step_175 (by omega) ⟨0, sq, ar, en, sd, (tk + 1), (cp + 1), co, wc2_36, zd2_37, zw2_38, zh2_39, zn2_40, kz2_26, yz2_27, mz2_28, az2_29, fg2_30, rfl, rfl, (by omega), (by omega), h11, h15, f41, f42, f43, f44, f45, f31, f32, f33, f34, f35, h12, (by omega)⟩
        · refine z_iconst F dX6_step_127 ?_
          exact z_zret F hr (by decide) dX6_step_128 (by omega) ⟨0, sq, ar, en, sd, (tk + 1), cp, co, wc, zd, zw, zh, zn, kz, yz, mz, az, fg, rfl, rfl, (by omega), (by omega), h11, h15, h1, h2, h3, h4, h5, h6, h7, h8, h9, h10, h12, (by omega)⟩
      refine z_icmp_ne F 100 dX6_step_67 (by decide) (by omega) (fun c46 => ?_) (fun c46 => ?_)
      · refine z_aload_n F 1 dX6_step_100 rfl ?_
        refine z_get F 0 19 iX6 rfl rfl (by decide) t3_95 rfl dX6_step_101 ?_
        refine z_iload_n F 0 dX6_step_104 rfl ?_
        refine z_iald F 5 rfl rfl dX6_step_105 (by omega) (by omega) ?_
        have r47 : 0 ≤ kz tk.toNat ∧ kz tk.toNat ≤ 3 := h6 _
        refine z_if_eq F 121 dX6_step_106 (by decide) (by omega) (fun c48 => ?_) (fun c48 => ?_)
        · refine z_iconst F dX6_step_121 ?_
          exact lp122 0 (by omega)
        · refine z_aload_n F 1 dX6_step_109 rfl ?_
          refine z_callV F lw_good (k_X6_lockRow _ D K o th se ea dk wt wh wc nw ru ed wa sq ar en sd wg (tk + 1) cp co ki ke mn ak dg uk ud kz (by omega) h6) t4_31 t1_6 t4_28 t4_30 (q := (RX6, TX6, 26)) ts_40 ⟨rfl, rfl⟩ ndX6_lockRow ⟨Nat.le_of_ble_eq_true rfl, Nat.le_of_ble_eq_true rfl⟩ 0 rfl rfl (rest := []) rfl (Nat.le_of_ble_eq_true rfl) dX6_step_110 ⟨(show 0 + 0 ≤ 0 by omega), (show 0 + 0 ≤ 0 by omega)⟩ (wr := [aI K dk 20480 zd, aI K wt 32768 zw, aI K wh 64 zh, aI K nw 512 zn, aI K ke 608 yz, aI K mn 608 mz, aI K ak 3648 az, aL K dg 608 fg]) ([0, 5] : List Nat) ([1, 2, 3, 4, 6, 7, 8, 9] : List Nat) rfl rfl rfl rfl (by decide) (fun vr wo hp => ?_)
          obtain ⟨r_49, rfl, rfl, f50⟩ := hp
          refine z_re F (ws' := [oX6 o th se ea dk wt wh wc nw ru ed wa sq ar en sd wg (tk + 1) cp co ki ke mn ak dg uk ud, aI K dk 20480 zd, aI K wt 32768 zw, aI K wh 64 zh, aI K nw 512 zn, aI K ki 608 kz, aI K ke 608 yz, aI K mn 608 mz, aI K ak 3648 az, aL K dg 608 fg]) (st' := [.int (iZ r_49)]) ([8, 0, 1, 2, 3, 9, 4, 5, 6, 7] : List Nat) rfl rfl rfl ?_
          refine z_iload_n F 0 dX6_step_113 rfl ?_
          refine z_icmp_ne F 121 dX6_step_114 (by decide) (by omega) (fun c51 => ?_) (fun c51 => ?_)
          · refine z_iconst F dX6_step_121 ?_
            exact lp122 0 (by omega)
          · refine z_iconst F dX6_step_117 ?_
            refine z_goto F 122 dX6_step_118 (by decide) ?_
            exact lp122 1 (by omega)
      · refine z_aload_n F 1 dX6_step_70 rfl ?_
        refine z_aload_n F 1 dX6_step_71 rfl ?_
        refine z_get F 0 20 iX6 rfl rfl (by decide) t3_96 rfl dX6_step_72 ?_
        refine z_iload_n F 0 dX6_step_75 rfl ?_
        refine z_iald F 6 rfl rfl dX6_step_76 (by omega) (by omega) ?_
        have r52 : 0 ≤ yz tk.toNat ∧ yz tk.toNat ≤ 255 := h7 _
        refine z_callV F lw_good (k_X6_latest _ D K o th se ea dk wt wh wc nw ru ed wa sq ar en sd wg (tk + 1) cp co ki ke mn ak dg uk ud kz yz (yz tk.toNat) (by omega) h6 h7 (by omega)) t4_23 t1_6 t4_20 t4_22 (q := (RX6, TX6, 26)) ts_38 ⟨rfl, rfl⟩ ndX6_latest ⟨Nat.le_of_ble_eq_true rfl, Nat.le_of_ble_eq_true rfl⟩ 0 rfl rfl (rest := []) rfl (Nat.le_of_ble_eq_true rfl) dX6_step_77 ⟨(show 0 + 0 ≤ 0 by omega), (show 0 + 0 ≤ 0 by omega)⟩ (wr := [aI K dk 20480 zd, aI K wt 32768 zw, aI K wh 64 zh, aI K nw 512 zn, aI K mn 608 mz, aI K ak 3648 az, aL K dg 608 fg]) ([0, 5, 6] : List Nat) ([1, 2, 3, 4, 7, 8, 9] : List Nat) rfl rfl rfl rfl (by decide) (fun vr wo hp => ?_)
        obtain ⟨r_53, rfl, rfl, f54⟩ := hp
        refine z_re F (ws' := [oX6 o th se ea dk wt wh wc nw ru ed wa sq ar en sd wg (tk + 1) cp co ki ke mn ak dg uk ud, aI K dk 20480 zd, aI K wt 32768 zw, aI K wh 64 zh, aI K nw 512 zn, aI K ki 608 kz, aI K ke 608 yz, aI K mn 608 mz, aI K ak 3648 az, aL K dg 608 fg]) (st' := [.int (iZ r_53)]) ([7, 0, 1, 2, 3, 8, 9, 4, 5, 6] : List Nat) rfl rfl rfl ?_
        refine z_iload_n F 0 dX6_step_80 rfl ?_
        refine z_icmp_ne F 96 dX6_step_81 (by decide) (by omega) (fun c55 => ?_) (fun c55 => ?_)
        · refine z_iconst F dX6_step_96 ?_
          refine z_goto F 122 dX6_step_97 (by decide) ?_
          exact lp122 0 (by omega)
        · refine z_aload_n F 1 dX6_step_84 rfl ?_
          refine z_iload_n F 0 dX6_step_85 rfl ?_
          refine z_callV F lw_good (k_X6_isWrongBehind _ D K o th se ea dk wt wh wc nw ru ed wa sq ar en sd wg (tk + 1) cp co ki ke mn ak dg uk ud kz tk (by omega) h6 (by omega)) t4_27 t1_6 t4_24 t4_26 (q := (RX6, TX6, 26)) ts_39 ⟨rfl, rfl⟩ ndX6_isWrongBehind ⟨Nat.le_of_ble_eq_true rfl, Nat.le_of_ble_eq_true rfl⟩ 0 rfl rfl (rest := []) rfl (Nat.le_of_ble_eq_true rfl) dX6_step_86 ⟨(show 0 + 0 ≤ 0 by omega), (show 0 + 0 ≤ 0 by omega)⟩ (wr := [aI K dk 20480 zd, aI K wt 32768 zw, aI K wh 64 zh, aI K nw 512 zn, aI K ke 608 yz, aI K mn 608 mz, aI K ak 3648 az, aL K dg 608 fg]) ([0, 5] : List Nat) ([1, 2, 3, 4, 6, 7, 8, 9] : List Nat) rfl rfl rfl rfl (by decide) (fun vr wo hp => ?_)
          obtain ⟨r_56, rfl, rfl, f57⟩ := hp
          refine z_re F (ws' := [oX6 o th se ea dk wt wh wc nw ru ed wa sq ar en sd wg (tk + 1) cp co ki ke mn ak dg uk ud, aI K dk 20480 zd, aI K wt 32768 zw, aI K wh 64 zh, aI K nw 512 zn, aI K ki 608 kz, aI K ke 608 yz, aI K mn 608 mz, aI K ak 3648 az, aL K dg 608 fg]) (st' := [.int (iZ r_56)]) ([8, 0, 1, 2, 3, 9, 4, 5, 6, 7] : List Nat) rfl rfl rfl ?_
          refine z_if_ne F 96 dX6_step_89 (by decide) (by omega) (fun c58 => ?_) (fun c58 => ?_)
          · refine z_iconst F dX6_step_96 ?_
            refine z_goto F 122 dX6_step_97 (by decide) ?_
            exact lp122 0 (by omega)
          · refine z_iconst F dX6_step_92 ?_
            refine z_goto F 122 dX6_step_93 (by decide) ?_
            exact lp122 1 (by omega)
  · refine z_aload_n F 0 dX6_step_7 rfl ?_
    refine z_iconst F dX6_step_8 ?_
    refine z_aload_n F 0 dX6_step_9 rfl ?_
    refine z_get F 0 12 iX6 rfl rfl (by decide) t3_88 rfl dX6_step_10 ?_
    refine z_isub F dX6_step_13 ?_
    refine z_callV F lw_good (k_X6_zeros _ D K o th se ea dk wt wh wc nw ru ed wa sq ar en sd wg tk cp co ki ke mn ak dg uk ud zd zw zh zn (1 - ar) h0 h1 h2 h3 h4 h5 (by omega)) t3_183 t1_6 t3_180 t3_182 (q := (RX6, TX6, 26)) ts_24 ⟨rfl, rfl⟩ ndX6_zeros ⟨Nat.le_of_ble_eq_true rfl, Nat.le_of_ble_eq_true rfl⟩ 0 rfl rfl (rest := []) rfl (Nat.le_of_ble_eq_true rfl) dX6_step_14 ⟨(show 0 + 0 ≤ 0 by omega), (show 0 + 0 ≤ 0 by omega)⟩ (wr := [aI K ki 608 kz, aI K ke 608 yz, aI K mn 608 mz, aI K ak 3648 az, aL K dg 608 fg]) ([0, 1, 2, 3, 4] : List Nat) ([5, 6, 7, 8, 9] : List Nat) rfl rfl rfl rfl (by decide) (fun vr wo hp => ?_)
    obtain ⟨wc2_59, zd2_60, zw2_61, zh2_62, zn2_63, rfl, rfl, f64, f65, f66, f67, f68⟩ := hp
    refine z_re F (ws' := [oX6 o th se ea dk wt wh wc2_59 nw ru ed wa sq ar en sd wg tk cp co ki ke mn ak dg uk ud, aI K dk 20480 zd2_60, aI K wt 32768 zw2_61, aI K wh 64 zh2_62, aI K nw 512 zn2_63, aI K ki 608 kz, aI K ke 608 yz, aI K mn 608 mz, aI K ak 3648 az, aL K dg 608 fg]) (st' := []) ([5, 6, 7, 8, 9, 0, 1, 2, 3, 4] : List Nat) rfl rfl rfl ?_
    refine z_aload_n F 0 dX6_step_17 rfl ?_
    refine z_iconst F dX6_step_18 ?_
    refine z_put F (ws' := [oX6 o th se ea dk wt wh wc2_59 nw ru ed wa sq ar en sd wg tk cp 1 ki ke mn ak dg uk ud, aI K dk 20480 zd2_60, aI K wt 32768 zw2_61, aI K wh 64 zh2_62, aI K nw 512 zn2_63, aI K ki 608 kz, aI K ke 608 yz, aI K mn 608 mz, aI K ak 3648 az, aL K dg 608 fg]) 0 18 iX6 tyX6 tyX6_ok nmX6 rfl rfl (by decide) t3_94 rfl rfl (by decide) (by decide) (Nat.le_of_ble_eq_true rfl) dX6_step_19 rfl ?_
    refine z_aload_n F 0 dX6_step_22 rfl ?_
    refine z_iconst F dX6_step_23 ?_
    refine z_put F (ws' := [oX6 o th se ea dk wt wh wc2_59 nw ru ed wa sq ar en sd wg 0 cp 1 ki ke mn ak dg uk ud, aI K dk 20480 zd2_60, aI K wt 32768 zw2_61, aI K wh 64 zh2_62, aI K nw 512 zn2_63, aI K ki 608 kz, aI K ke 608 yz, aI K mn 608 mz, aI K ak 3648 az, aL K dg 608 fg]) 0 16 iX6 tyX6 tyX6_ok nmX6 rfl rfl (by decide) t3_92 rfl rfl rfl rfl (Nat.le_of_ble_eq_true rfl) dX6_step_24 rfl ?_
    refine z_aload_n F 0 dX6_step_27 rfl ?_
    refine z_iconst F dX6_step_28 ?_
    refine z_put F (ws' := [oX6 o th se ea dk wt wh wc2_59 nw ru ed wa sq ar en sd wg 0 0 1 ki ke mn ak dg uk ud, aI K dk 20480 zd2_60, aI K wt 32768 zw2_61, aI K wh 64 zh2_62, aI K nw 512 zn2_63, aI K ki 608 kz, aI K ke 608 yz, aI K mn 608 mz, aI K ak 3648 az, aL K dg 608 fg]) 0 17 iX6 tyX6 tyX6_ok nmX6 rfl rfl (by decide) t3_93 rfl rfl rfl rfl (Nat.le_of_ble_eq_true rfl) dX6_step_29 rfl ?_
    refine z_iconst F dX6_step_32 ?_
    exact z_zret F hr (by decide) dX6_step_33 (by omega) ⟨0, sq, ar, en, sd, 0, 0, 1, wc2_59, zd2_60, zw2_61, zh2_62, zn2_63, kz, yz, mz, az, fg, rfl, rfl, (by omega), (by omega), h11, h15, f64, f65, f66, f67, f68, h6, h7, h8, h9, h10, h12, (by omega)⟩
set_option maxHeartbeats 4000000 in
set_option maxRecDepth 20000 in
theorem k_X6_row (l : Launch) (D : va_G) (K : KI) (o : Nat) (th : Int) (se : Int) (ea : Int) (dk : Nat) (wt : Nat) (wh : Nat) (wc : Int) (nw : Nat) (ru : Int) (ed : Int) (wa : Int) (sq : Int) (ar : Int) (en : Int) (sd : Int) (wg : Int) (tk : Int) (cp : Int) (co : Int) (ki : Nat) (ke : Nat) (mn : Nat) (ak : Nat) (dg : Nat) (uk : Nat) (ud : Nat) (zd : Nat → Int) (zw : Nat → Int) (zh : Nat → Int) (zn : Nat → Int) (kz : Nat → Int) (yz : Nat → Int) (mz : Nat → Int) (az : Nat → Int) (fg : Nat → Int64) (zv : Nat → Int) (fv : Nat → Int64) (k : Int) (dd : Int64) (h0 : 4 ≤ se ∧ se ≤ 40 ∧ 1 ≤ ea ∧ 2 * ea ≤ se - 2 ∧ se - 2 ≤ 2 * ea + 1) (h1 : 0 ≤ wc ∧ wc ≤ 64) (h2 : rng 0 255 zd) (h3 : rng 0 255 zw) (h4 : rng 0 (se-1) zh) (h5 : rng 0 255 zn) (h6 : rng 0 3 kz) (h7 : rng 0 255 yz) (h8 : rng 0 6 mz) (h9 : rng 0 255 az) (h10 : akOk mz az) (h11 : 0 ≤ en ∧ en ≤ 16 * ea) (h12 : 0 ≤ ar ∧ ar ≤ 1) (h13 : co = 0 ∨ (co = 1 ∧ 0 ≤ cp ∧ cp ≤ tk ∧ tk ≤ en)) (h14 : ru = 0 ∨ ru = 1) (h15 : ru = 0 → wc = 0 ∧ co = 0) (h16 : 0 ≤ sq ∧ sq ≤ 2100000000) (h17 : 0 ≤ sd ∧ sd ≤ 304) (h18 : 0 ≤ wg ∧ wg ≤ 304) (h19 : rng 0 1 zv) (h20 : 1 ≤ wa ∧ wa ≤ 200) (h21 : th = 0 ∨ th = 1) (h22 : -2147483648 ≤ k ∧ k ≤ 2147483647) : Ct lw_T l yX6_row cX6_row 5 (some .int) { frames := 5, cells := 0, slots := 0, locals := 115 } 0 0 D cls5 (TY K) [.ref o, .int (iZ k), .long dd] [oX6 o th se ea dk wt wh wc nw ru ed wa sq ar en sd wg tk cp co ki ke mn ak dg uk ud, aI K dk 20480 zd, aI K wt 32768 zw, aI K wh 64 zh, aI K nw 512 zn, aI K ki 608 kz, aI K ke 608 yz, aI K mn 608 mz, aI K ak 3648 az, aL K dg 608 fg, aZ K uk 64 zv, aL K ud 64 fv] (fun vr wo => ∃ (r : Int), ∃ (en2 : Int), ∃ (wc2 : Int), ∃ (zd2 : Nat → Int), ∃ (zw2 : Nat → Int), ∃ (zh2 : Nat → Int), ∃ (zn2 : Nat → Int), ∃ (kz2 : Nat → Int), ∃ (yz2 : Nat → Int), ∃ (mz2 : Nat → Int), ∃ (fg2 : Nat → Int64), ∃ (zv2 : Nat → Int), ∃ (fv2 : Nat → Int64), vr = some (.int (iZ r)) ∧ wo = [oX6 o 0 se ea dk wt wh wc2 nw ru ed wa sq ar en2 sd wg tk cp co ki ke mn ak dg uk ud, aI K dk 20480 zd2, aI K wt 32768 zw2, aI K wh 64 zh2, aI K nw 512 zn2, aI K ki 608 kz2, aI K ke 608 yz2, aI K mn 608 mz2, aI K ak 3648 az, aL K dg 608 fg2, aZ K uk 64 zv2, aL K ud 64 fv2] ∧ (-4 ≤ r ∧ r ≤ 303) ∧ (ru = 0 → ((0 ≤ k ∧ k ≤ 63 → r = -3) ∧ (¬ (0 ≤ k ∧ k ≤ 63) → r = -2))) ∧ (en ≤ en2) ∧ (0 ≤ en2 ∧ en2 ≤ 16 * ea) ∧ (0 ≤ wc2 ∧ wc2 ≤ 64) ∧ (rng 0 255 zd2) ∧ (rng 0 255 zw2) ∧ (rng 0 (se-1) zh2) ∧ (rng 0 255 zn2) ∧ (rng 0 3 kz2) ∧ (rng 0 255 yz2) ∧ (rng 0 6 mz2) ∧ (akOk mz2 az) ∧ (ru = 0 → wc2 = 0) ∧ (rng 0 1 zv2)) := by
  refine ct_of (own := RX6) (lv := [(0, .ref o), (1, .int (iZ k)), (2, .long dd)]) (by decide) rfl (Nat.le_of_ble_eq_true rfl) rfl (fun C F hr hnm hzl => ?_)
  subst hzl
  refine z_aload_n F 0 dX6_row_0 rfl ?_
  refine z_iconst F dX6_row_1 ?_
  refine z_put F (ws' := [oX6 o 0 se ea dk wt wh wc nw ru ed wa sq ar en sd wg tk cp co ki ke mn ak dg uk ud, aI K dk 20480 zd, aI K wt 32768 zw, aI K wh 64 zh, aI K nw 512 zn, aI K ki 608 kz, aI K ke 608 yz, aI K mn 608 mz, aI K ak 3648 az, aL K dg 608 fg, aZ K uk 64 zv, aL K ud 64 fv]) 0 0 iX6 tyX6 tyX6_ok nmX6 rfl rfl (by decide) t3_76 rfl rfl rfl rfl (Nat.le_of_ble_eq_true rfl) dX6_row_2 rfl ?_
  refine z_iload_n F 1 dX6_row_5 rfl ?_
  refine z_callS F lw_good (k_X6_isKey _ D K k h22) t3_214 t1_6 t3_212 t3_213 ⟨rfl, rfl⟩ ndX6_isKey ⟨Nat.le_of_ble_eq_true rfl, Nat.le_of_ble_eq_true rfl⟩ (rest := []) rfl (Nat.le_of_ble_eq_true rfl) dX6_row_6 ⟨(show 0 + 0 ≤ 0 by omega), (show 0 + 0 ≤ 0 by omega)⟩ (wr := [oX6 o 0 se ea dk wt wh wc nw ru ed wa sq ar en sd wg tk cp co ki ke mn ak dg uk ud, aI K dk 20480 zd, aI K wt 32768 zw, aI K wh 64 zh, aI K nw 512 zn, aI K ki 608 kz, aI K ke 608 yz, aI K mn 608 mz, aI K ak 3648 az, aL K dg 608 fg, aZ K uk 64 zv, aL K ud 64 fv]) ([] : List Nat) ([0, 1, 2, 3, 4, 5, 6, 7, 8, 9, 10, 11] : List Nat) rfl rfl rfl rfl (by decide) (fun vr wo hp => ?_)
  obtain ⟨r_1, rfl, rfl, f2⟩ := hp
  refine z_re F (ws' := [oX6 o 0 se ea dk wt wh wc nw ru ed wa sq ar en sd wg tk cp co ki ke mn ak dg uk ud, aI K dk 20480 zd, aI K wt 32768 zw, aI K wh 64 zh, aI K nw 512 zn, aI K ki 608 kz, aI K ke 608 yz, aI K mn 608 mz, aI K ak 3648 az, aL K dg 608 fg, aZ K uk 64 zv, aL K ud 64 fv]) (st' := [.int (iZ r_1)]) ([0, 1, 2, 3, 4, 5, 6, 7, 8, 9, 10, 11] : List Nat) rfl rfl rfl ?_
  refine z_if_ne F 15 dX6_row_9 (by decide) (by omega) (fun c3 => ?_) (fun c3 => ?_)
  · refine z_aload_n F 0 dX6_row_15 rfl ?_
    refine z_get F 0 8 iX6 rfl rfl (by decide) t3_84 rfl dX6_row_16 ?_
    refine z_if_ne F 25 dX6_row_19 (by decide) (by omega) (fun c4 => ?_) (fun c4 => ?_)
    · refine z_aload_n F 0 dX6_row_25 rfl ?_
      refine z_iconst F dX6_row_26 ?_
      refine z_iload_n F 1 dX6_row_27 rfl ?_
      refine z_lload_n F 2 dX6_row_28 rfl ?_
      refine z_callV F lw_good (k_X6_keep _ D K o 0 se ea dk wt wh wc nw ru ed wa sq ar en sd wg tk cp co ki ke mn ak dg uk ud zd zw zh zn kz yz mz az fg 1 k dd h0 h1 h2 h3 h4 h5 h6 h7 h8 h9 h10 h11 h12 (by omega)) t3_239 t1_6 t3_236 t3_238 (q := (RX6, TX6, 26)) ts_35 ⟨rfl, rfl⟩ ndX6_keep ⟨Nat.le_of_ble_eq_true rfl, Nat.le_of_ble_eq_true rfl⟩ 0 rfl rfl (rest := []) rfl (Nat.le_of_ble_eq_true rfl) dX6_row_29 ⟨(show 0 + 0 ≤ 0 by omega), (show 0 + 0 ≤ 0 by omega)⟩ (wr := [aZ K uk 64 zv, aL K ud 64 fv]) ([0, 1, 2, 3, 4, 5, 6, 7, 8, 9] : List Nat) ([10, 11] : List Nat) rfl rfl rfl rfl (by decide) (fun vr wo hp => ?_)
      obtain ⟨r_5, en2_6, wc2_7, zd2_8, zw2_9, zh2_10, zn2_11, kz2_12, yz2_13, mz2_14, fg2_15, rfl, rfl, f16, f17, f18, f19, f20, f21, f22, f23, f24, f25, f26, f27⟩ := hp
      refine z_re F (ws' := [oX6 o 0 se ea dk wt wh wc2_7 nw ru ed wa sq ar en2_6 sd wg tk cp co ki ke mn ak dg uk ud, aI K dk 20480 zd2_8, aI K wt 32768 zw2_9, aI K wh 64 zh2_10, aI K nw 512 zn2_11, aI K ki 608 kz2_12, aI K ke 608 yz2_13, aI K mn 608 mz2_14, aI K ak 3648 az, aL K dg 608 fg2_15, aZ K uk 64 zv, aL K ud 64 fv]) (st' := [.int (iZ r_5)]) ([2, 3, 4, 5, 6, 7, 8, 9, 10, 11, 0, 1] : List Nat) rfl rfl rfl ?_
      refine z_istore F (lv' := [(4, .int (iZ r_5)), (0, .ref o), (1, .int (iZ k)), (2, .long dd)]) dX6_row_32 (by decide) rfl ?_
      refine z_aload_n F 1 dX6_row_34 rfl ?_
      refine z_get F 0 24 iX6 rfl rfl (by decide) t3_100 rfl dX6_row_35 ?_
      refine z_iload_n F 2 dX6_row_38 rfl ?_
      refine z_iload F 0 dX6_row_39 rfl ?_
      refine z_if_ge F 48 dX6_row_41 (by decide) (by omega) (fun c28 => ?_) (fun c28 => ?_)
      · refine z_iconst F dX6_row_48 ?_
        refine z_zast F (ws' := [oX6 o 0 se ea dk wt wh wc2_7 nw ru ed wa sq ar en2_6 sd wg tk cp co ki ke mn ak dg uk ud, aI K dk 20480 zd2_8, aI K wt 32768 zw2_9, aI K wh 64 zh2_10, aI K nw 512 zn2_11, aI K ki 608 kz2_12, aI K ke 608 yz2_13, aI K mn 608 mz2_14, aI K ak 3648 az, aL K dg 608 fg2_15, aZ K uk 64 (zu zv k.toNat (0 % 2)), aL K ud 64 fv]) 10 rfl rfl dX6_row_49 (by omega) (by omega) rfl ?_
        have r29 : rng 0 1 (zu zv k.toNat (0 % 2)) := rng_zu h19 (by omega)
        refine z_aload_n F 1 dX6_row_50 rfl ?_
        refine z_get F 0 25 iX6 rfl rfl (by decide) t3_101 rfl dX6_row_51 ?_
        refine z_iload_n F 2 dX6_row_54 rfl ?_
        refine z_lload_n F 3 dX6_row_55 rfl ?_
        refine z_last F (ws' := [oX6 o 0 se ea dk wt wh wc2_7 nw ru ed wa sq ar en2_6 sd wg tk cp co ki ke mn ak dg uk ud, aI K dk 20480 zd2_8, aI K wt 32768 zw2_9, aI K wh 64 zh2_10, aI K nw 512 zn2_11, aI K ki 608 kz2_12, aI K ke 608 yz2_13, aI K mn 608 mz2_14, aI K ak 3648 az, aL K dg 608 fg2_15, aZ K uk 64 (zu zv k.toNat (0 % 2)), aL K ud 64 (vp_updL fv k.toNat dd)]) 11 rfl rfl dX6_row_56 (by omega) (by omega) rfl ?_
        refine z_iload F 0 dX6_row_57 rfl ?_
        exact z_iret F hr dX6_row_59 (by omega) ⟨r_5, en2_6, wc2_7, zd2_8, zw2_9, zh2_10, zn2_11, kz2_12, yz2_13, mz2_14, fg2_15, (zu zv k.toNat (0 % 2)), (vp_updL fv k.toNat dd), rfl, rfl, f16, (by omega), f17, f18, f19, f20, f21, f22, f23, f24, f25, f26, f27, (by omega), r29⟩
      · refine z_iconst F dX6_row_44 ?_
        refine z_goto F 49 dX6_row_45 (by decide) ?_
        refine z_zast F (ws' := [oX6 o 0 se ea dk wt wh wc2_7 nw ru ed wa sq ar en2_6 sd wg tk cp co ki ke mn ak dg uk ud, aI K dk 20480 zd2_8, aI K wt 32768 zw2_9, aI K wh 64 zh2_10, aI K nw 512 zn2_11, aI K ki 608 kz2_12, aI K ke 608 yz2_13, aI K mn 608 mz2_14, aI K ak 3648 az, aL K dg 608 fg2_15, aZ K uk 64 (zu zv k.toNat (1 % 2)), aL K ud 64 fv]) 10 rfl rfl dX6_row_49 (by omega) (by omega) rfl ?_
        have r30 : rng 0 1 (zu zv k.toNat (1 % 2)) := rng_zu h19 (by omega)
        refine z_aload_n F 1 dX6_row_50 rfl ?_
        refine z_get F 0 25 iX6 rfl rfl (by decide) t3_101 rfl dX6_row_51 ?_
        refine z_iload_n F 2 dX6_row_54 rfl ?_
        refine z_lload_n F 3 dX6_row_55 rfl ?_
        refine z_last F (ws' := [oX6 o 0 se ea dk wt wh wc2_7 nw ru ed wa sq ar en2_6 sd wg tk cp co ki ke mn ak dg uk ud, aI K dk 20480 zd2_8, aI K wt 32768 zw2_9, aI K wh 64 zh2_10, aI K nw 512 zn2_11, aI K ki 608 kz2_12, aI K ke 608 yz2_13, aI K mn 608 mz2_14, aI K ak 3648 az, aL K dg 608 fg2_15, aZ K uk 64 (zu zv k.toNat (1 % 2)), aL K ud 64 (vp_updL fv k.toNat dd)]) 11 rfl rfl dX6_row_56 (by omega) (by omega) rfl ?_
        refine z_iload F 0 dX6_row_57 rfl ?_
        exact z_iret F hr dX6_row_59 (by omega) ⟨r_5, en2_6, wc2_7, zd2_8, zw2_9, zh2_10, zn2_11, kz2_12, yz2_13, mz2_14, fg2_15, (zu zv k.toNat (1 % 2)), (vp_updL fv k.toNat dd), rfl, rfl, f16, (by omega), f17, f18, f19, f20, f21, f22, f23, f24, f25, f26, f27, (by omega), r30⟩
    · refine z_bipush F dX6_row_22 (by decide) ?_
      exact z_iret F hr dX6_row_24 (by omega) ⟨(-3), en, wc, zd, zw, zh, zn, kz, yz, mz, fg, zv, fv, rfl, rfl, (by omega), (by omega), (by omega), h11, h1, h2, h3, h4, h5, h6, h7, h8, h10, (by omega), h19⟩
  · refine z_bipush F dX6_row_12 (by decide) ?_
    exact z_iret F hr dX6_row_14 (by omega) ⟨(-2), en, wc, zd, zw, zh, zn, kz, yz, mz, fg, zv, fv, rfl, rfl, (by omega), (by omega), (by omega), h11, h1, h2, h3, h4, h5, h6, h7, h8, h10, (by omega), h19⟩
set_option maxHeartbeats 4000000 in
set_option maxRecDepth 20000 in
theorem k_X6_asks (l : Launch) (D : va_G) (K : KI) (o : Nat) (th : Int) (se : Int) (ea : Int) (dk : Nat) (wt : Nat) (wh : Nat) (wc : Int) (nw : Nat) (ru : Int) (ed : Int) (wa : Int) (sq : Int) (ar : Int) (en : Int) (sd : Int) (wg : Int) (tk : Int) (cp : Int) (co : Int) (ki : Nat) (ke : Nat) (mn : Nat) (ak : Nat) (dg : Nat) (uk : Nat) (ud : Nat) (zd : Nat → Int) (zw : Nat → Int) (zh : Nat → Int) (zn : Nat → Int) (kz : Nat → Int) (yz : Nat → Int) (mz : Nat → Int) (az : Nat → Int) (fg : Nat → Int64) (zv : Nat → Int) (fv : Nat → Int64) (rw : Int) (k : Int) (h0 : 4 ≤ se ∧ se ≤ 40 ∧ 1 ≤ ea ∧ 2 * ea ≤ se - 2 ∧ se - 2 ≤ 2 * ea + 1) (h1 : 0 ≤ wc ∧ wc ≤ 64) (h2 : rng 0 255 zd) (h3 : rng 0 255 zw) (h4 : rng 0 (se-1) zh) (h5 : rng 0 255 zn) (h6 : rng 0 3 kz) (h7 : rng 0 255 yz) (h8 : rng 0 6 mz) (h9 : rng 0 255 az) (h10 : akOk mz az) (h11 : 0 ≤ en ∧ en ≤ 16 * ea) (h12 : 0 ≤ ar ∧ ar ≤ 1) (h13 : co = 0 ∨ (co = 1 ∧ 0 ≤ cp ∧ cp ≤ tk ∧ tk ≤ en)) (h14 : ru = 0 ∨ ru = 1) (h15 : ru = 0 → wc = 0 ∧ co = 0) (h16 : 0 ≤ sq ∧ sq ≤ 2100000000) (h17 : 0 ≤ sd ∧ sd ≤ 304) (h18 : 0 ≤ wg ∧ wg ≤ 304) (h19 : rng 0 1 zv) (h20 : 1 ≤ wa ∧ wa ≤ 200) (h21 : th = 0 ∨ th = 1) (h22 : -2147483648 ≤ rw ∧ rw ≤ 2147483647) (h23 : -2147483648 ≤ k ∧ k ≤ 2147483647) : Ct lw_T l yX6_asks cX6_asks 3 (some .int) { frames := 4, cells := 0, slots := 0, locals := 91 } 0 0 D cls5 (TY K) [.ref o, .int (iZ rw), .int (iZ k)] [oX6 o th se ea dk wt wh wc nw ru ed wa sq ar en sd wg tk cp co ki ke mn ak dg uk ud, aI K dk 20480 zd, aI K wt 32768 zw, aI K wh 64 zh, aI K nw 512 zn, aI K ki 608 kz, aI K ke 608 yz, aI K mn 608 mz, aI K ak 3648 az, aL K dg 608 fg, aZ K uk 64 zv, aL K ud 64 fv] (fun vr wo => ∃ (r : Int), ∃ (wc2 : Int), ∃ (zd2 : Nat → Int), ∃ (zw2 : Nat → Int), ∃ (zh2 : Nat → Int), ∃ (zn2 : Nat → Int), ∃ (mz2 : Nat → Int), ∃ (az2 : Nat → Int), vr = some (.int (iZ r)) ∧ wo = [oX6 o 0 se ea dk wt wh wc2 nw ru ed wa sq ar en sd wg tk cp co ki ke mn ak dg uk ud, aI K dk 20480 zd2, aI K wt 32768 zw2, aI K wh 64 zh2, aI K nw 512 zn2, aI K ki 608 kz, aI K ke 608 yz, aI K mn 608 mz2, aI K ak 3648 az2, aL K dg 608 fg, aZ K uk 64 zv, aL K ud 64 fv] ∧ (-4 ≤ r ∧ r ≤ 6) ∧ (ru = 0 → r = -1) ∧ (0 ≤ wc2 ∧ wc2 ≤ 64) ∧ (rng 0 255 zd2) ∧ (rng 0 255 zw2) ∧ (rng 0 (se-1) zh2) ∧ (rng 0 255 zn2) ∧ (rng 0 6 mz2) ∧ (rng 0 255 az2) ∧ (akOk mz2 az2) ∧ (ru = 0 → wc2 = 0)) := by
  refine ct_of (own := RX6) (lv := [(0, .ref o), (1, .int (iZ rw)), (2, .int (iZ k))]) (by decide) rfl (Nat.le_of_ble_eq_true rfl) rfl (fun C F hr hnm hzl => ?_)
  subst hzl
  refine z_aload_n F 0 dX6_asks_0 rfl ?_
  refine z_iconst F dX6_asks_1 ?_
  refine z_put F (ws' := [oX6 o 0 se ea dk wt wh wc nw ru ed wa sq ar en sd wg tk cp co ki ke mn ak dg uk ud, aI K dk 20480 zd, aI K wt 32768 zw, aI K wh 64 zh, aI K nw 512 zn, aI K ki 608 kz, aI K ke 608 yz, aI K mn 608 mz, aI K ak 3648 az, aL K dg 608 fg, aZ K uk 64 zv, aL K ud 64 fv]) 0 0 iX6 tyX6 tyX6_ok nmX6 rfl rfl (by decide) t3_76 rfl rfl rfl rfl (Nat.le_of_ble_eq_true rfl) dX6_asks_2 rfl ?_
  refine z_aload_n F 0 dX6_asks_5 rfl ?_
  refine z_get F 0 8 iX6 rfl rfl (by decide) t3_84 rfl dX6_asks_6 ?_
  refine z_if_eq F 34 dX6_asks_9 (by decide) (by omega) (fun c1 => ?_) (fun c1 => ?_)
  · refine z_iconst F dX6_asks_34 ?_
    exact z_iret F hr dX6_asks_35 (by omega) ⟨(-1), wc, zd, zw, zh, zn, mz, az, rfl, rfl, (by omega), (by omega), h1, h2, h3, h4, h5, h8, h9, h10, (by omega)⟩
  · refine z_iload_n F 1 dX6_asks_12 rfl ?_
    refine z_if_lt F 34 dX6_asks_13 (by decide) (by omega) (fun c2 => ?_) (fun c2 => ?_)
    · refine z_iconst F dX6_asks_34 ?_
      exact z_iret F hr dX6_asks_35 (by omega) ⟨(-1), wc, zd, zw, zh, zn, mz, az, rfl, rfl, (by omega), (by omega), h1, h2, h3, h4, h5, h8, h9, h10, (by omega)⟩
    · refine z_iload_n F 1 dX6_asks_16 rfl ?_
      refine z_aload_n F 0 dX6_asks_17 rfl ?_
      refine z_get F 0 13 iX6 rfl rfl (by decide) t3_89 rfl dX6_asks_18 ?_
      refine z_icmp_ge F 34 dX6_asks_21 (by decide) (by omega) (fun c3 => ?_) (fun c3 => ?_)
      · refine z_iconst F dX6_asks_34 ?_
        exact z_iret F hr dX6_asks_35 (by omega) ⟨(-1), wc, zd, zw, zh, zn, mz, az, rfl, rfl, (by omega), (by omega), h1, h2, h3, h4, h5, h8, h9, h10, (by omega)⟩
      · refine z_aload_n F 0 dX6_asks_24 rfl ?_
        refine z_get F 0 19 iX6 rfl rfl (by decide) t3_95 rfl dX6_asks_25 ?_
        refine z_iload_n F 1 dX6_asks_28 rfl ?_
        refine z_iald F 5 rfl rfl dX6_asks_29 (by omega) (by omega) ?_
        have r4 : 0 ≤ kz rw.toNat ∧ kz rw.toNat ≤ 3 := h6 _
        refine z_iconst F dX6_asks_30 ?_
        refine z_icmp_eq F 36 dX6_asks_31 (by decide) (by omega) (fun c5 => ?_) (fun c5 => ?_)
        · refine z_iload_n F 2 dX6_asks_36 rfl ?_
          refine z_callS F lw_good (k_X6_isKey _ D K k h23) t3_214 t1_6 t3_212 t3_213 ⟨rfl, rfl⟩ ndX6_isKey ⟨Nat.le_of_ble_eq_true rfl, Nat.le_of_ble_eq_true rfl⟩ (rest := []) rfl (Nat.le_of_ble_eq_true rfl) dX6_asks_37 ⟨(show 0 + 0 ≤ 0 by omega), (show 0 + 0 ≤ 0 by omega)⟩ (wr := [oX6 o 0 se ea dk wt wh wc nw ru ed wa sq ar en sd wg tk cp co ki ke mn ak dg uk ud, aI K dk 20480 zd, aI K wt 32768 zw, aI K wh 64 zh, aI K nw 512 zn, aI K ki 608 kz, aI K ke 608 yz, aI K mn 608 mz, aI K ak 3648 az, aL K dg 608 fg, aZ K uk 64 zv, aL K ud 64 fv]) ([] : List Nat) ([0, 1, 2, 3, 4, 5, 6, 7, 8, 9, 10, 11] : List Nat) rfl rfl rfl rfl (by decide) (fun vr wo hp => ?_)
          obtain ⟨r_6, rfl, rfl, f7⟩ := hp
          refine z_re F (ws' := [oX6 o 0 se ea dk wt wh wc nw ru ed wa sq ar en sd wg tk cp co ki ke mn ak dg uk ud, aI K dk 20480 zd, aI K wt 32768 zw, aI K wh 64 zh, aI K nw 512 zn, aI K ki 608 kz, aI K ke 608 yz, aI K mn 608 mz, aI K ak 3648 az, aL K dg 608 fg, aZ K uk 64 zv, aL K ud 64 fv]) (st' := [.int (iZ r_6)]) ([0, 1, 2, 3, 4, 5, 6, 7, 8, 9, 10, 11] : List Nat) rfl rfl rfl ?_
          refine z_if_ne F 46 dX6_asks_40 (by decide) (by omega) (fun c8 => ?_) (fun c8 => ?_)
          · refine z_iload_n F 1 dX6_asks_46 rfl ?_
            refine z_aload_n F 0 dX6_asks_47 rfl ?_
            refine z_get F 0 13 iX6 rfl rfl (by decide) t3_89 rfl dX6_asks_48 ?_
            refine z_iconst F dX6_asks_51 ?_
            refine z_isub F dX6_asks_52 ?_
            refine z_icmp_ne F 79 dX6_asks_53 (by decide) (by omega) (fun c9 => ?_) (fun c9 => ?_)
            · refine z_bipush F dX6_asks_79 (by decide) ?_
              exact z_iret F hr dX6_asks_81 (by omega) ⟨(-3), wc, zd, zw, zh, zn, mz, az, rfl, rfl, (by omega), (by omega), h1, h2, h3, h4, h5, h8, h9, h10, (by omega)⟩
            · refine z_iload_n F 1 dX6_asks_56 rfl ?_
              refine z_aload_n F 0 dX6_asks_57 rfl ?_
              refine z_get F 0 14 iX6 rfl rfl (by decide) t3_90 rfl dX6_asks_58 ?_
              refine z_icmp_lt F 79 dX6_asks_61 (by decide) (by omega) (fun c10 => ?_) (fun c10 => ?_)
              · refine z_bipush F dX6_asks_79 (by decide) ?_
                exact z_iret F hr dX6_asks_81 (by omega) ⟨(-3), wc, zd, zw, zh, zn, mz, az, rfl, rfl, (by omega), (by omega), h1, h2, h3, h4, h5, h8, h9, h10, (by omega)⟩
              · refine z_aload_n F 0 dX6_asks_64 rfl ?_
                refine z_get F 0 18 iX6 rfl rfl (by decide) t3_94 rfl dX6_asks_65 ?_
                refine z_if_eq F 82 dX6_asks_68 (by decide) (by omega) (fun c11 => ?_) (fun c11 => ?_)
                · refine z_aload_n F 0 dX6_asks_82 rfl ?_
                  refine z_get F 0 21 iX6 rfl rfl (by decide) t3_97 rfl dX6_asks_83 ?_
                  refine z_iload_n F 1 dX6_asks_86 rfl ?_
                  refine z_iald F 7 rfl rfl dX6_asks_87 (by omega) (by omega) ?_
                  have r12 : 0 ≤ mz rw.toNat ∧ mz rw.toNat ≤ 6 := h8 _
                  refine z_bipush F dX6_asks_88 (by decide) ?_
                  refine z_icmp_ne F 96 dX6_asks_90 (by decide) (by omega) (fun c13 => ?_) (fun c13 => ?_)
                  · refine z_aload_n F 0 dX6_asks_96 rfl ?_
                    refine z_get F 0 22 iX6 rfl rfl (by decide) t3_98 rfl dX6_asks_97 ?_
                    refine z_bipush F dX6_asks_100 (by decide) ?_
                    refine z_iload_n F 1 dX6_asks_102 rfl ?_
                    refine z_imul F dX6_asks_103 ?_
                    refine z_aload_n F 0 dX6_asks_104 rfl ?_
                    refine z_get F 0 21 iX6 rfl rfl (by decide) t3_97 rfl dX6_asks_105 ?_
                    refine z_iload_n F 1 dX6_asks_108 rfl ?_
                    refine z_iald F 7 rfl rfl dX6_asks_109 (by omega) (by omega) ?_
                    have r14 : 0 ≤ mz rw.toNat ∧ mz rw.toNat ≤ 6 := h8 _
                    refine z_iadd F dX6_asks_110 ?_
                    refine z_iload_n F 2 dX6_asks_111 rfl ?_
                    refine z_iast F (ws' := [oX6 o 0 se ea dk wt wh wc nw ru ed wa sq ar en sd wg tk cp co ki ke mn ak dg uk ud, aI K dk 20480 zd, aI K wt 32768 zw, aI K wh 64 zh, aI K nw 512 zn, aI K ki 608 kz, aI K ke 608 yz, aI K mn 608 mz, aI K ak 3648 (zu az ((6 * rw) + (mz rw.toNat)).toNat k), aL K dg 608 fg, aZ K uk 64 zv, aL K ud 64 fv]) 8 rfl rfl dX6_asks_112 (by omega) (by omega) rfl ?_
                    have r15 : rng 0 255 (zu az ((6 * rw) + (mz rw.toNat)).toNat k) := rng_zu h9 (by omega)
                    refine z_aload_n F 0 dX6_asks_113 rfl ?_
                    refine z_get F 0 21 iX6 rfl rfl (by decide) t3_97 rfl dX6_asks_114 ?_
                    refine z_iload_n F 1 dX6_asks_117 rfl ?_
                    refine z_dup2 F dX6_asks_118 rfl rfl ?_
                    refine z_iald F 7 rfl rfl dX6_asks_119 (by omega) (by omega) ?_
                    have r16 : 0 ≤ mz rw.toNat ∧ mz rw.toNat ≤ 6 := h8 _
                    refine z_iconst F dX6_asks_120 ?_
                    refine z_iadd F dX6_asks_121 ?_
                    refine z_iast F (ws' := [oX6 o 0 se ea dk wt wh wc nw ru ed wa sq ar en sd wg tk cp co ki ke mn ak dg uk ud, aI K dk 20480 zd, aI K wt 32768 zw, aI K wh 64 zh, aI K nw 512 zn, aI K ki 608 kz, aI K ke 608 yz, aI K mn 608 (zu mz rw.toNat ((mz rw.toNat) + 1)), aI K ak 3648 (zu az ((6 * rw) + (mz rw.toNat)).toNat k), aL K dg 608 fg, aZ K uk 64 zv, aL K ud 64 fv]) 7 rfl rfl dX6_asks_122 (by omega) (by omega) rfl ?_
                    have r17 : rng 0 6 (zu mz rw.toNat ((mz rw.toNat) + 1)) := rng_zu h8 (by omega)
                    have hak9 : akOk (zu mz rw.toNat ((mz rw.toNat) + 1)) (zu az ((6 * rw) + (mz rw.toNat)).toNat k) := akOk_add6 h10 h8 (by omega) (by omega) (by omega)
                    refine z_aload_n F 0 dX6_asks_123 rfl ?_
                    refine z_aload_n F 0 dX6_asks_124 rfl ?_
                    refine z_get F 0 12 iX6 rfl rfl (by decide) t3_88 rfl dX6_asks_125 ?_
                    refine z_iload_n F 1 dX6_asks_128 rfl ?_
                    refine z_iload_n F 1 dX6_asks_129 rfl ?_
                    refine z_callV F lw_good (k_X6_write _ D K o 0 se ea dk wt wh wc nw ru ed wa sq ar en sd wg tk cp co ki ke mn ak dg uk ud zd zw zh zn kz yz (zu mz rw.toNat ((mz rw.toNat) + 1)) (zu az ((6 * rw) + (mz rw.toNat)).toNat k) fg ar rw rw h0 h1 h2 h3 h4 h5 h6 h7 r17 r15 hak9 (by omega) (by omega)) t4_3 t1_6 t4_0 t4_2 (q := (RX6, TX6, 26)) ts_36 ⟨rfl, rfl⟩ ndX6_write ⟨Nat.le_of_ble_eq_true rfl, Nat.le_of_ble_eq_true rfl⟩ 0 rfl rfl (rest := []) rfl (Nat.le_of_ble_eq_true rfl) dX6_asks_130 ⟨(show 0 + 0 ≤ 0 by omega), (show 0 + 0 ≤ 0 by omega)⟩ (wr := [aZ K uk 64 zv, aL K ud 64 fv]) ([0, 1, 2, 3, 4, 5, 6, 7, 8, 9] : List Nat) ([10, 11] : List Nat) rfl rfl rfl rfl (by decide) (fun vr wo hp => ?_)
                    obtain ⟨wc2_18, zd2_19, zw2_20, zh2_21, zn2_22, rfl, rfl, f23, f24, f25, f26, f27⟩ := hp
                    refine z_re F (ws' := [oX6 o 0 se ea dk wt wh wc2_18 nw ru ed wa sq ar en sd wg tk cp co ki ke mn ak dg uk ud, aI K dk 20480 zd2_19, aI K wt 32768 zw2_20, aI K wh 64 zh2_21, aI K nw 512 zn2_22, aI K ki 608 kz, aI K ke 608 yz, aI K mn 608 (zu mz rw.toNat ((mz rw.toNat) + 1)), aI K ak 3648 (zu az ((6 * rw) + (mz rw.toNat)).toNat k), aL K dg 608 fg, aZ K uk 64 zv, aL K ud 64 fv]) (st' := []) ([2, 3, 4, 5, 6, 7, 8, 9, 10, 11, 0, 1] : List Nat) rfl rfl rfl ?_
                    refine z_aload_n F 0 dX6_asks_133 rfl ?_
                    refine z_get F 0 21 iX6 rfl rfl (by decide) t3_97 rfl dX6_asks_134 ?_
                    refine z_iload_n F 1 dX6_asks_137 rfl ?_
                    refine z_iald F 7 rfl rfl dX6_asks_138 (by omega) (by omega) ?_
                    have r28 : 0 ≤ (zu mz rw.toNat ((mz rw.toNat) + 1)) rw.toNat ∧ (zu mz rw.toNat ((mz rw.toNat) + 1)) rw.toNat ≤ 6 := r17 _
                    have hcr2 : 0 ≤ ((zu mz rw.toNat ((mz rw.toNat) + 1)) rw.toNat) ∧ ((zu mz rw.toNat ((mz rw.toNat) + 1)) rw.toNat) ≤ 6 := r17 _
                    exact z_iret F hr dX6_asks_139 (by omega) ⟨((zu mz rw.toNat ((mz rw.toNat) + 1)) rw.toNat), wc2_18, zd2_19, zw2_20, zh2_21, zn2_22, (zu mz rw.toNat ((mz rw.toNat) + 1)), (zu az ((6 * rw) + (mz rw.toNat)).toNat k), rfl, rfl, (by omega), (by omega), f23, f24, f25, f26, f27, r17, r15, hak9, (by omega)⟩
                  · refine z_bipush F dX6_asks_93 (by decide) ?_
                    exact z_iret F hr dX6_asks_95 (by omega) ⟨(-4), wc, zd, zw, zh, zn, mz, az, rfl, rfl, (by omega), (by omega), h1, h2, h3, h4, h5, h8, h9, h10, (by omega)⟩
                · refine z_iload_n F 1 dX6_asks_71 rfl ?_
                  refine z_aload_n F 0 dX6_asks_72 rfl ?_
                  refine z_get F 0 16 iX6 rfl rfl (by decide) t3_92 rfl dX6_asks_73 ?_
                  refine z_icmp_ge F 82 dX6_asks_76 (by decide) (by omega) (fun c29 => ?_) (fun c29 => ?_)
                  · refine z_aload_n F 0 dX6_asks_82 rfl ?_
                    refine z_get F 0 21 iX6 rfl rfl (by decide) t3_97 rfl dX6_asks_83 ?_
                    refine z_iload_n F 1 dX6_asks_86 rfl ?_
                    refine z_iald F 7 rfl rfl dX6_asks_87 (by omega) (by omega) ?_
                    have r30 : 0 ≤ mz rw.toNat ∧ mz rw.toNat ≤ 6 := h8 _
                    refine z_bipush F dX6_asks_88 (by decide) ?_
                    refine z_icmp_ne F 96 dX6_asks_90 (by decide) (by omega) (fun c31 => ?_) (fun c31 => ?_)
                    · refine z_aload_n F 0 dX6_asks_96 rfl ?_
                      refine z_get F 0 22 iX6 rfl rfl (by decide) t3_98 rfl dX6_asks_97 ?_
                      refine z_bipush F dX6_asks_100 (by decide) ?_
                      refine z_iload_n F 1 dX6_asks_102 rfl ?_
                      refine z_imul F dX6_asks_103 ?_
                      refine z_aload_n F 0 dX6_asks_104 rfl ?_
                      refine z_get F 0 21 iX6 rfl rfl (by decide) t3_97 rfl dX6_asks_105 ?_
                      refine z_iload_n F 1 dX6_asks_108 rfl ?_
                      refine z_iald F 7 rfl rfl dX6_asks_109 (by omega) (by omega) ?_
                      have r32 : 0 ≤ mz rw.toNat ∧ mz rw.toNat ≤ 6 := h8 _
                      refine z_iadd F dX6_asks_110 ?_
                      refine z_iload_n F 2 dX6_asks_111 rfl ?_
                      refine z_iast F (ws' := [oX6 o 0 se ea dk wt wh wc nw ru ed wa sq ar en sd wg tk cp co ki ke mn ak dg uk ud, aI K dk 20480 zd, aI K wt 32768 zw, aI K wh 64 zh, aI K nw 512 zn, aI K ki 608 kz, aI K ke 608 yz, aI K mn 608 mz, aI K ak 3648 (zu az ((6 * rw) + (mz rw.toNat)).toNat k), aL K dg 608 fg, aZ K uk 64 zv, aL K ud 64 fv]) 8 rfl rfl dX6_asks_112 (by omega) (by omega) rfl ?_
                      have r33 : rng 0 255 (zu az ((6 * rw) + (mz rw.toNat)).toNat k) := rng_zu h9 (by omega)
                      refine z_aload_n F 0 dX6_asks_113 rfl ?_
                      refine z_get F 0 21 iX6 rfl rfl (by decide) t3_97 rfl dX6_asks_114 ?_
                      refine z_iload_n F 1 dX6_asks_117 rfl ?_
                      refine z_dup2 F dX6_asks_118 rfl rfl ?_
                      refine z_iald F 7 rfl rfl dX6_asks_119 (by omega) (by omega) ?_
                      have r34 : 0 ≤ mz rw.toNat ∧ mz rw.toNat ≤ 6 := h8 _
                      refine z_iconst F dX6_asks_120 ?_
                      refine z_iadd F dX6_asks_121 ?_
                      refine z_iast F (ws' := [oX6 o 0 se ea dk wt wh wc nw ru ed wa sq ar en sd wg tk cp co ki ke mn ak dg uk ud, aI K dk 20480 zd, aI K wt 32768 zw, aI K wh 64 zh, aI K nw 512 zn, aI K ki 608 kz, aI K ke 608 yz, aI K mn 608 (zu mz rw.toNat ((mz rw.toNat) + 1)), aI K ak 3648 (zu az ((6 * rw) + (mz rw.toNat)).toNat k), aL K dg 608 fg, aZ K uk 64 zv, aL K ud 64 fv]) 7 rfl rfl dX6_asks_122 (by omega) (by omega) rfl ?_
                      have r35 : rng 0 6 (zu mz rw.toNat ((mz rw.toNat) + 1)) := rng_zu h8 (by omega)
                      have hak9 : akOk (zu mz rw.toNat ((mz rw.toNat) + 1)) (zu az ((6 * rw) + (mz rw.toNat)).toNat k) := akOk_add6 h10 h8 (by omega) (by omega) (by omega)
                      refine z_aload_n F 0 dX6_asks_123 rfl ?_
                      refine z_aload_n F 0 dX6_asks_124 rfl ?_
                      refine z_get F 0 12 iX6 rfl rfl (by decide) t3_88 rfl dX6_asks_125 ?_
                      refine z_iload_n F 1 dX6_asks_128 rfl ?_
                      refine z_iload_n F 1 dX6_asks_129 rfl ?_
                      refine z_callV F lw_good (k_X6_write _ D K o 0 se ea dk wt wh wc nw ru ed wa sq ar en sd wg tk cp co ki ke mn ak dg uk ud zd zw zh zn kz yz (zu mz rw.toNat ((mz rw.toNat) + 1)) (zu az ((6 * rw) + (mz rw.toNat)).toNat k) fg ar rw rw h0 h1 h2 h3 h4 h5 h6 h7 r35 r33 hak9 (by omega) (by omega)) t4_3 t1_6 t4_0 t4_2 (q := (RX6, TX6, 26)) ts_36 ⟨rfl, rfl⟩ ndX6_write ⟨Nat.le_of_ble_eq_true rfl, Nat.le_of_ble_eq_true rfl⟩ 0 rfl rfl (rest := []) rfl (Nat.le_of_ble_eq_true rfl) dX6_asks_130 ⟨(show 0 + 0 ≤ 0 by omega), (show 0 + 0 ≤ 0 by omega)⟩ (wr := [aZ K uk 64 zv, aL K ud 64 fv]) ([0, 1, 2, 3, 4, 5, 6, 7, 8, 9] : List Nat) ([10, 11] : List Nat) rfl rfl rfl rfl (by decide) (fun vr wo hp => ?_)
                      obtain ⟨wc2_36, zd2_37, zw2_38, zh2_39, zn2_40, rfl, rfl, f41, f42, f43, f44, f45⟩ := hp
                      refine z_re F (ws' := [oX6 o 0 se ea dk wt wh wc2_36 nw ru ed wa sq ar en sd wg tk cp co ki ke mn ak dg uk ud, aI K dk 20480 zd2_37, aI K wt 32768 zw2_38, aI K wh 64 zh2_39, aI K nw 512 zn2_40, aI K ki 608 kz, aI K ke 608 yz, aI K mn 608 (zu mz rw.toNat ((mz rw.toNat) + 1)), aI K ak 3648 (zu az ((6 * rw) + (mz rw.toNat)).toNat k), aL K dg 608 fg, aZ K uk 64 zv, aL K ud 64 fv]) (st' := []) ([2, 3, 4, 5, 6, 7, 8, 9, 10, 11, 0, 1] : List Nat) rfl rfl rfl ?_
                      refine z_aload_n F 0 dX6_asks_133 rfl ?_
                      refine z_get F 0 21 iX6 rfl rfl (by decide) t3_97 rfl dX6_asks_134 ?_
                      refine z_iload_n F 1 dX6_asks_137 rfl ?_
                      refine z_iald F 7 rfl rfl dX6_asks_138 (by omega) (by omega) ?_
                      have r46 : 0 ≤ (zu mz rw.toNat ((mz rw.toNat) + 1)) rw.toNat ∧ (zu mz rw.toNat ((mz rw.toNat) + 1)) rw.toNat ≤ 6 := r35 _
                      have hcr2 : 0 ≤ ((zu mz rw.toNat ((mz rw.toNat) + 1)) rw.toNat) ∧ ((zu mz rw.toNat ((mz rw.toNat) + 1)) rw.toNat) ≤ 6 := r35 _
                      exact z_iret F hr dX6_asks_139 (by omega) ⟨((zu mz rw.toNat ((mz rw.toNat) + 1)) rw.toNat), wc2_36, zd2_37, zw2_38, zh2_39, zn2_40, (zu mz rw.toNat ((mz rw.toNat) + 1)), (zu az ((6 * rw) + (mz rw.toNat)).toNat k), rfl, rfl, (by omega), (by omega), f41, f42, f43, f44, f45, r35, r33, hak9, (by omega)⟩
                    · refine z_bipush F dX6_asks_93 (by decide) ?_
                      exact z_iret F hr dX6_asks_95 (by omega) ⟨(-4), wc, zd, zw, zh, zn, mz, az, rfl, rfl, (by omega), (by omega), h1, h2, h3, h4, h5, h8, h9, h10, (by omega)⟩
                  · refine z_bipush F dX6_asks_79 (by decide) ?_
                    exact z_iret F hr dX6_asks_81 (by omega) ⟨(-3), wc, zd, zw, zh, zn, mz, az, rfl, rfl, (by omega), (by omega), h1, h2, h3, h4, h5, h8, h9, h10, (by omega)⟩
          · refine z_bipush F dX6_asks_43 (by decide) ?_
            exact z_iret F hr dX6_asks_45 (by omega) ⟨(-2), wc, zd, zw, zh, zn, mz, az, rfl, rfl, (by omega), (by omega), h1, h2, h3, h4, h5, h8, h9, h10, (by omega)⟩
        · refine z_iconst F dX6_asks_34 ?_
          exact z_iret F hr dX6_asks_35 (by omega) ⟨(-1), wc, zd, zw, zh, zn, mz, az, rfl, rfl, (by omega), (by omega), h1, h2, h3, h4, h5, h8, h9, h10, (by omega)⟩
set_option maxHeartbeats 4000000 in
set_option maxRecDepth 20000 in
theorem k_X6_sync (l : Launch) (D : va_G) (K : KI) (o : Nat) (th : Int) (se : Int) (ea : Int) (dk : Nat) (wt : Nat) (wh : Nat) (wc : Int) (nw : Nat) (ru : Int) (ed : Int) (wa : Int) (sq : Int) (ar : Int) (en : Int) (sd : Int) (wg : Int) (tk : Int) (cp : Int) (co : Int) (ki : Nat) (ke : Nat) (mn : Nat) (ak : Nat) (dg : Nat) (uk : Nat) (ud : Nat) (zd : Nat → Int) (zw : Nat → Int) (zh : Nat → Int) (zn : Nat → Int) (kz : Nat → Int) (yz : Nat → Int) (mz : Nat → Int) (az : Nat → Int) (fg : Nat → Int64) (zv : Nat → Int) (fv : Nat → Int64) (h0 : 4 ≤ se ∧ se ≤ 40 ∧ 1 ≤ ea ∧ 2 * ea ≤ se - 2 ∧ se - 2 ≤ 2 * ea + 1) (h1 : 0 ≤ wc ∧ wc ≤ 64) (h2 : rng 0 255 zd) (h3 : rng 0 255 zw) (h4 : rng 0 (se-1) zh) (h5 : rng 0 255 zn) (h6 : rng 0 3 kz) (h7 : rng 0 255 yz) (h8 : rng 0 6 mz) (h9 : rng 0 255 az) (h10 : akOk mz az) (h11 : 0 ≤ en ∧ en ≤ 16 * ea) (h12 : 0 ≤ ar ∧ ar ≤ 1) (h13 : co = 0 ∨ (co = 1 ∧ 0 ≤ cp ∧ cp ≤ tk ∧ tk ≤ en)) (h14 : ru = 0 ∨ ru = 1) (h15 : ru = 0 → wc = 0 ∧ co = 0) (h16 : 0 ≤ sq ∧ sq ≤ 2100000000) (h17 : 0 ≤ sd ∧ sd ≤ 304) (h18 : 0 ≤ wg ∧ wg ≤ 304) (h19 : rng 0 1 zv) (h20 : 1 ≤ wa ∧ wa ≤ 200) (h21 : th = 0 ∨ th = 1) : Ct lw_T l yX6_sync cX6_sync 2 (some .int) { frames := 2, cells := 0, slots := 0, locals := 44 } 0 0 D cls5 (TY K) [.ref o] [oX6 o th se ea dk wt wh wc nw ru ed wa sq ar en sd wg tk cp co ki ke mn ak dg uk ud, aI K dk 20480 zd, aI K wt 32768 zw, aI K wh 64 zh, aI K nw 512 zn, aI K ki 608 kz, aI K ke 608 yz, aI K mn 608 mz, aI K ak 3648 az, aL K dg 608 fg, aZ K uk 64 zv, aL K ud 64 fv] (fun vr wo => ∃ (r : Int), ∃ (wc2 : Int), ∃ (zd2 : Nat → Int), ∃ (sd2 : Int), vr = some (.int (iZ r)) ∧ wo = [oX6 o 0 se ea dk wt wh wc2 nw ru ed wa sq ar en sd2 wg tk cp co ki ke mn ak dg uk ud, aI K dk 20480 zd2, aI K wt 32768 zw, aI K wh 64 zh, aI K nw 512 zn, aI K ki 608 kz, aI K ke 608 yz, aI K mn 608 mz, aI K ak 3648 az, aL K dg 608 fg, aZ K uk 64 zv, aL K ud 64 fv] ∧ (-3 ≤ r ∧ r ≤ 64) ∧ (ru = 0 → r = -3) ∧ (0 ≤ wc2 ∧ wc2 ≤ 64) ∧ (rng 0 255 zd2) ∧ (0 ≤ sd2 ∧ sd2 ≤ 304) ∧ (ru = 0 → wc2 = 0)) := by
  refine ct_of (own := RX6) (lv := [(0, .ref o)]) (by decide) rfl (Nat.le_of_ble_eq_true rfl) rfl (fun C F hr hnm hzl => ?_)
  subst hzl
  refine z_aload_n F 0 dX6_sync_0 rfl ?_
  refine z_iconst F dX6_sync_1 ?_
  refine z_put F (ws' := [oX6 o 0 se ea dk wt wh wc nw ru ed wa sq ar en sd wg tk cp co ki ke mn ak dg uk ud, aI K dk 20480 zd, aI K wt 32768 zw, aI K wh 64 zh, aI K nw 512 zn, aI K ki 608 kz, aI K ke 608 yz, aI K mn 608 mz, aI K ak 3648 az, aL K dg 608 fg, aZ K uk 64 zv, aL K ud 64 fv]) 0 0 iX6 tyX6 tyX6_ok nmX6 rfl rfl (by decide) t3_76 rfl rfl rfl rfl (Nat.le_of_ble_eq_true rfl) dX6_sync_2 rfl ?_
  refine z_aload_n F 0 dX6_sync_5 rfl ?_
  refine z_get F 0 8 iX6 rfl rfl (by decide) t3_84 rfl dX6_sync_6 ?_
  refine z_if_ne F 15 dX6_sync_9 (by decide) (by omega) (fun c1 => ?_) (fun c1 => ?_)
  · refine z_aload_n F 0 dX6_sync_15 rfl ?_
    refine z_get F 0 6 iX6 rfl rfl (by decide) t3_82 rfl dX6_sync_16 ?_
    refine z_istore_n F (lv' := [(1, .int (iZ wc)), (0, .ref o)]) dX6_sync_19 (by decide) rfl ?_
    refine z_aload_n F 1 dX6_sync_20 rfl ?_
    refine z_callV F lw_good (k_X6_bringAll _ D K o 0 se ea dk wt wh wc nw ru ed wa sq ar en sd wg tk cp co ki ke mn ak dg uk ud zd zw zh (by omega) h1 h2 h3 h4) t3_195 t1_6 t3_192 t3_194 (q := (RX6, TX6, 26)) ts_27 ⟨rfl, rfl⟩ ndX6_bringAll ⟨Nat.le_of_ble_eq_true rfl, Nat.le_of_ble_eq_true rfl⟩ 0 rfl rfl (rest := []) rfl (Nat.le_of_ble_eq_true rfl) dX6_sync_21 ⟨(show 0 + 0 ≤ 0 by omega), (show 0 + 0 ≤ 0 by omega)⟩ (wr := [aI K nw 512 zn, aI K ki 608 kz, aI K ke 608 yz, aI K mn 608 mz, aI K ak 3648 az, aL K dg 608 fg, aZ K uk 64 zv, aL K ud 64 fv]) ([0, 1, 2, 3] : List Nat) ([4, 5, 6, 7, 8, 9, 10, 11] : List Nat) rfl rfl rfl rfl (by decide) (fun vr wo hp => ?_)
    obtain ⟨zd2_2, rfl, rfl, f3⟩ := hp
    refine z_re F (ws' := [oX6 o 0 se ea dk wt wh 0 nw ru ed wa sq ar en sd wg tk cp co ki ke mn ak dg uk ud, aI K dk 20480 zd2_2, aI K wt 32768 zw, aI K wh 64 zh, aI K nw 512 zn, aI K ki 608 kz, aI K ke 608 yz, aI K mn 608 mz, aI K ak 3648 az, aL K dg 608 fg, aZ K uk 64 zv, aL K ud 64 fv]) (st' := []) ([8, 9, 10, 11, 0, 1, 2, 3, 4, 5, 6, 7] : List Nat) rfl rfl rfl ?_
    refine z_aload_n F 1 dX6_sync_24 rfl ?_
    refine z_aload_n F 1 dX6_sync_25 rfl ?_
    refine z_get F 0 13 iX6 rfl rfl (by decide) t3_89 rfl dX6_sync_26 ?_
    refine z_put F (ws' := [oX6 o 0 se ea dk wt wh 0 nw ru ed wa sq ar en en wg tk cp co ki ke mn ak dg uk ud, aI K dk 20480 zd2_2, aI K wt 32768 zw, aI K wh 64 zh, aI K nw 512 zn, aI K ki 608 kz, aI K ke 608 yz, aI K mn 608 mz, aI K ak 3648 az, aL K dg 608 fg, aZ K uk 64 zv, aL K ud 64 fv]) 0 14 iX6 tyX6 tyX6_ok nmX6 rfl rfl (by decide) t3_90 rfl rfl rfl rfl (Nat.le_of_ble_eq_true rfl) dX6_sync_29 rfl ?_
    refine z_iload_n F 0 dX6_sync_32 rfl ?_
    exact z_iret F hr dX6_sync_33 (by omega) ⟨wc, 0, zd2_2, en, rfl, rfl, (by omega), (by omega), (by omega), f3, (by omega), (by omega)⟩
  · refine z_bipush F dX6_sync_12 (by decide) ?_
    exact z_iret F hr dX6_sync_14 (by omega) ⟨(-3), wc, zd, sd, rfl, rfl, (by omega), (by omega), h1, h2, h17, (by omega)⟩
set_option maxHeartbeats 4000000 in
set_option maxRecDepth 20000 in
theorem k_X6_compact (l : Launch) (D : va_G) (K : KI) (o : Nat) (th : Int) (se : Int) (ea : Int) (dk : Nat) (wt : Nat) (wh : Nat) (wc : Int) (nw : Nat) (ru : Int) (ed : Int) (wa : Int) (sq : Int) (ar : Int) (en : Int) (sd : Int) (wg : Int) (tk : Int) (cp : Int) (co : Int) (ki : Nat) (ke : Nat) (mn : Nat) (ak : Nat) (dg : Nat) (uk : Nat) (ud : Nat) (zd : Nat → Int) (zw : Nat → Int) (zh : Nat → Int) (zn : Nat → Int) (kz : Nat → Int) (yz : Nat → Int) (mz : Nat → Int) (az : Nat → Int) (fg : Nat → Int64) (zv : Nat → Int) (fv : Nat → Int64) (n : Int) (h0 : 4 ≤ se ∧ se ≤ 40 ∧ 1 ≤ ea ∧ 2 * ea ≤ se - 2 ∧ se - 2 ≤ 2 * ea + 1) (h1 : 0 ≤ wc ∧ wc ≤ 64) (h2 : rng 0 255 zd) (h3 : rng 0 255 zw) (h4 : rng 0 (se-1) zh) (h5 : rng 0 255 zn) (h6 : rng 0 3 kz) (h7 : rng 0 255 yz) (h8 : rng 0 6 mz) (h9 : rng 0 255 az) (h10 : akOk mz az) (h11 : 0 ≤ en ∧ en ≤ 16 * ea) (h12 : 0 ≤ ar ∧ ar ≤ 1) (h13 : co = 0 ∨ (co = 1 ∧ 0 ≤ cp ∧ cp ≤ tk ∧ tk ≤ en)) (h14 : ru = 0 ∨ ru = 1) (h15 : ru = 0 → wc = 0 ∧ co = 0) (h16 : 0 ≤ sq ∧ sq ≤ 2100000000) (h17 : 0 ≤ sd ∧ sd ≤ 304) (h18 : 0 ≤ wg ∧ wg ≤ 304) (h19 : rng 0 1 zv) (h20 : 1 ≤ wa ∧ wa ≤ 200) (h21 : th = 0 ∨ th = 1) (h22 : -2147483648 ≤ n ∧ n ≤ 2147483647) : Ct lw_T l yX6_compact cX6_compact 4 (some .int) { frames := 6, cells := 0, slots := 0, locals := 128 } 0 0 D cls5 (TY K) [.ref o, .int (iZ n)] [oX6 o th se ea dk wt wh wc nw ru ed wa sq ar en sd wg tk cp co ki ke mn ak dg uk ud, aI K dk 20480 zd, aI K wt 32768 zw, aI K wh 64 zh, aI K nw 512 zn, aI K ki 608 kz, aI K ke 608 yz, aI K mn 608 mz, aI K ak 3648 az, aL K dg 608 fg, aZ K uk 64 zv, aL K ud 64 fv] (fun vr wo => ∃ (r : Int), ∃ (sq2 : Int), ∃ (ar2 : Int), ∃ (en2 : Int), ∃ (sd2 : Int), ∃ (tk2 : Int), ∃ (cp2 : Int), ∃ (co2 : Int), ∃ (wc2 : Int), ∃ (zd2 : Nat → Int), ∃ (zw2 : Nat → Int), ∃ (zh2 : Nat → Int), ∃ (zn2 : Nat → Int), ∃ (kz2 : Nat → Int), ∃ (yz2 : Nat → Int), ∃ (mz2 : Nat → Int), ∃ (az2 : Nat → Int), ∃ (fg2 : Nat → Int64), vr = some (.int (iZ r)) ∧ wo = [oX6 o 0 se ea dk wt wh wc2 nw ru ed wa sq2 ar2 en2 sd2 wg tk2 cp2 co2 ki ke mn ak dg uk ud, aI K dk 20480 zd2, aI K wt 32768 zw2, aI K wh 64 zh2, aI K nw 512 zn2, aI K ki 608 kz2, aI K ke 608 yz2, aI K mn 608 mz2, aI K ak 3648 az2, aL K dg 608 fg2, aZ K uk 64 zv, aL K ud 64 fv] ∧ (-3 ≤ r ∧ r ≤ 1000) ∧ (ru = 0 → ((1 ≤ n ∧ n ≤ 1000 → r = -3) ∧ (¬ (1 ≤ n ∧ n ≤ 1000) → r = -2))) ∧ (ru = 0 → wc2 = 0 ∧ co2 = 0) ∧ (sq ≤ sq2 ∧ sq2 ≤ sq + 2) ∧ (0 ≤ en2 ∧ en2 ≤ 16 * ea) ∧ (0 ≤ sd2 ∧ sd2 ≤ 304) ∧ (0 ≤ wc2 ∧ wc2 ≤ 64) ∧ (rng 0 255 zd2) ∧ (rng 0 255 zw2) ∧ (rng 0 (se-1) zh2) ∧ (rng 0 255 zn2) ∧ (rng 0 3 kz2) ∧ (rng 0 255 yz2) ∧ (rng 0 6 mz2) ∧ (rng 0 255 az2) ∧ (akOk mz2 az2) ∧ (0 ≤ ar2 ∧ ar2 ≤ 1) ∧ (co2 = 0 ∨ (co2 = 1 ∧ 0 ≤ cp2 ∧ cp2 ≤ tk2 ∧ tk2 ≤ en2))) := by
  refine ct_of (own := RX6) (lv := [(0, .ref o), (1, .int (iZ n))]) (by decide) rfl (Nat.le_of_ble_eq_true rfl) rfl (fun C F hr hnm hzl => ?_)
  subst hzl
  refine z_aload_n F 0 dX6_compact_0 rfl ?_
  refine z_iconst F dX6_compact_1 ?_
  refine z_put F (ws' := [oX6 o 0 se ea dk wt wh wc nw ru ed wa sq ar en sd wg tk cp co ki ke mn ak dg uk ud, aI K dk 20480 zd, aI K wt 32768 zw, aI K wh 64 zh, aI K nw 512 zn, aI K ki 608 kz, aI K ke 608 yz, aI K mn 608 mz, aI K ak 3648 az, aL K dg 608 fg, aZ K uk 64 zv, aL K ud 64 fv]) 0 0 iX6 tyX6 tyX6_ok nmX6 rfl rfl (by decide) t3_76 rfl rfl rfl rfl (Nat.le_of_ble_eq_true rfl) dX6_compact_2 rfl ?_
  refine z_iload_n F 1 dX6_compact_5 rfl ?_
  refine z_iconst F dX6_compact_6 ?_
  refine z_icmp_lt F 17 dX6_compact_7 (by decide) (by omega) (fun c1 => ?_) (fun c1 => ?_)
  · refine z_bipush F dX6_compact_17 (by decide) ?_
    exact z_iret F hr dX6_compact_19 (by omega) ⟨(-2), sq, ar, en, sd, tk, cp, co, wc, zd, zw, zh, zn, kz, yz, mz, az, fg, rfl, rfl, (by omega), (by omega), h15, (by omega), h11, h17, h1, h2, h3, h4, h5, h6, h7, h8, h9, h10, h12, h13⟩
  · refine z_iload_n F 1 dX6_compact_10 rfl ?_
    refine z_sipush F dX6_compact_11 (by decide) ?_
    refine z_icmp_le F 20 dX6_compact_14 (by decide) (by omega) (fun c2 => ?_) (fun c2 => ?_)
    · refine z_aload_n F 0 dX6_compact_20 rfl ?_
      refine z_get F 0 8 iX6 rfl rfl (by decide) t3_84 rfl dX6_compact_21 ?_
      refine z_if_ne F 30 dX6_compact_24 (by decide) (by omega) (fun c3 => ?_) (fun c3 => ?_)
      · refine z_iconst F dX6_compact_30 ?_
        refine z_istore_n F (lv' := [(2, .int (iZ 0)), (0, .ref o), (1, .int (iZ n))]) dX6_compact_31 (by decide) rfl ?_
        refine z_iconst F dX6_compact_32 ?_
        refine z_istore_n F (lv' := [(3, .int (iZ 0)), (2, .int (iZ 0)), (0, .ref o), (1, .int (iZ n))]) dX6_compact_33 (by decide) rfl ?_
        have lp34 : ∀ (nn34 : Nat) (dn : Int) (ev : Int) (wcv : Int) (sqv : Int) (arv : Int) (env : Int) (sdv : Int) (tkv : Int) (cpv : Int) (cov : Int) (zdv : Nat → Int) (zwv : Nat → Int) (zhv : Nat → Int) (znv : Nat → Int) (kzv : Nat → Int) (yzv : Nat → Int) (mzv : Nat → Int) (azv : Nat → Int) (fgv : Nat → Int64), (0 ≤ dn ∧ dn ≤ n) → (ev = 0 ∨ ev = 1) → (sq ≤ sqv ∧ sqv ≤ sq + 2 * ev) → (0 ≤ env ∧ env ≤ 16 * ea) → (0 ≤ sdv ∧ sdv ≤ 304) → (0 ≤ wcv ∧ wcv ≤ 64) → (rng 0 255 zdv) → (rng 0 255 zwv) → (rng 0 (se-1) zhv) → (rng 0 255 znv) → (rng 0 3 kzv) → (rng 0 255 yzv) → (rng 0 6 mzv) → (rng 0 255 azv) → (akOk mzv azv) → (0 ≤ arv ∧ arv ≤ 1) → (cov = 0 ∨ (cov = 1 ∧ 0 ≤ cpv ∧ cpv ≤ tkv ∧ tkv ≤ env)) → ((n - dn : Int).toNat < nn34) → Go C { frames := 6, cells := 0, slots := 0, locals := 128 } D cls5 4 0 0 [oX6 o 0 se ea dk wt wh wcv nw ru ed wa sqv arv env sdv wg tkv cpv cov ki ke mn ak dg uk ud, aI K dk 20480 zdv, aI K wt 32768 zwv, aI K wh 64 zhv, aI K nw 512 znv, aI K ki 608 kzv, aI K ke 608 yzv, aI K mn 608 mzv, aI K ak 3648 azv, aL K dg 608 fgv, aZ K uk 64 zv, aL K ud 64 fv] 34 [(3, .int (iZ ev)), (2, .int (iZ dn)), (0, .ref o), (1, .int (iZ n))] [] := by
          intro nn34
          induction nn34 with
          | zero => intro dn ev wcv sqv arv env sdv tkv cpv cov zdv zwv zhv znv kzv yzv mzv azv fgv g34_0 g34_1 g34_2 g34_3 g34_4 g34_5 g34_6 g34_7 g34_8 g34_9 g34_10 g34_11 g34_12 g34_13 g34_14 g34_15 g34_16 hmu34; exact absurd hmu34 (Nat.not_lt_zero _)
          | succ nn34 ih34 =>
            intro dn ev wcv sqv arv env sdv tkv cpv cov zdv zwv zhv znv kzv yzv mzv azv fgv g34_0 g34_1 g34_2 g34_3 g34_4 g34_5 g34_6 g34_7 g34_8 g34_9 g34_10 g34_11 g34_12 g34_13 g34_14 g34_15 g34_16 hmu34
            refine z_iload_n F 1 dX6_compact_34 rfl ?_
            refine z_iload_n F 3 dX6_compact_35 rfl ?_
            refine z_icmp_ge F 54 dX6_compact_36 (by decide) (by omega) (fun c4 => ?_) (fun c4 => ?_)
            · refine z_iload_n F 1 dX6_compact_54 rfl ?_
              exact z_iret F hr dX6_compact_55 (by omega) ⟨dn, sqv, arv, env, sdv, tkv, cpv, cov, wcv, zdv, zwv, zhv, znv, kzv, yzv, mzv, azv, fgv, rfl, rfl, (by omega), (by omega), (by omega), (by omega), g34_3, g34_4, g34_5, g34_6, g34_7, g34_8, g34_9, g34_10, g34_11, g34_12, g34_13, g34_14, g34_15, g34_16⟩
            · refine z_iload_n F 0 dX6_compact_39 rfl ?_
              refine z_if_ne F 54 dX6_compact_40 (by decide) (by omega) (fun c5 => ?_) (fun c5 => ?_)
              · refine z_iload_n F 1 dX6_compact_54 rfl ?_
                exact z_iret F hr dX6_compact_55 (by omega) ⟨dn, sqv, arv, env, sdv, tkv, cpv, cov, wcv, zdv, zwv, zhv, znv, kzv, yzv, mzv, azv, fgv, rfl, rfl, (by omega), (by omega), (by omega), (by omega), g34_3, g34_4, g34_5, g34_6, g34_7, g34_8, g34_9, g34_10, g34_11, g34_12, g34_13, g34_14, g34_15, g34_16⟩
              · refine z_aload_n F 2 dX6_compact_43 rfl ?_
                refine z_callV F lw_good (k_X6_step _ D K o 0 se ea dk wt wh wcv nw ru ed wa sqv arv env sdv wg tkv cpv cov ki ke mn ak dg uk ud zdv zwv zhv znv kzv yzv mzv azv fgv h0 g34_5 g34_6 g34_7 g34_8 g34_9 g34_10 g34_11 g34_12 g34_13 g34_14 g34_3 g34_15 g34_16 (by omega) g34_4) t4_19 t1_6 t4_16 t4_18 (q := (RX6, TX6, 26)) ts_37 ⟨rfl, rfl⟩ ndX6_step ⟨Nat.le_of_ble_eq_true rfl, Nat.le_of_ble_eq_true rfl⟩ 0 rfl rfl (rest := []) rfl (Nat.le_of_ble_eq_true rfl) dX6_compact_44 ⟨(show 0 + 0 ≤ 0 by omega), (show 0 + 0 ≤ 0 by omega)⟩ (wr := [aZ K uk 64 zv, aL K ud 64 fv]) ([0, 1, 2, 3, 4, 5, 6, 7, 8, 9] : List Nat) ([10, 11] : List Nat) rfl rfl rfl rfl (by decide) (fun vr wo hp => ?_)
                obtain ⟨r_6, sq2_7, ar2_8, en2_9, sd2_10, tk2_11, cp2_12, co2_13, wc2_14, zd2_15, zw2_16, zh2_17, zn2_18, kz2_19, yz2_20, mz2_21, az2_22, fg2_23, rfl, rfl, f24, f25, f26, f27, f28, f29, f30, f31, f32, f33, f34, f35, f36, f37, f38, f39⟩ := hp
                refine z_re F (ws' := [oX6 o 0 se ea dk wt wh wc2_14 nw ru ed wa sq2_7 ar2_8 en2_9 sd2_10 wg tk2_11 cp2_12 co2_13 ki ke mn ak dg uk ud, aI K dk 20480 zd2_15, aI K wt 32768 zw2_16, aI K wh 64 zh2_17, aI K nw 512 zn2_18, aI K ki 608 kz2_19, aI K ke 608 yz2_20, aI K mn 608 mz2_21, aI K ak 3648 az2_22, aL K dg 608 fg2_23, aZ K uk 64 zv, aL K ud 64 fv]) (st' := [.int (iZ r_6)]) ([2, 3, 4, 5, 6, 7, 8, 9, 10, 11, 0, 1] : List Nat) rfl rfl rfl ?_
                refine z_istore_n F (lv' := [(3, .int (iZ r_6)), (2, .int (iZ dn)), (0, .ref o), (1, .int (iZ n))]) dX6_compact_47 (by decide) rfl ?_
                refine z_iinc F (lv' := [(2, .int (iZ (dn + 1))), (3, .int (iZ r_6)), (0, .ref o), (1, .int (iZ n))]) 1 dX6_compact_48 rfl (by decide) rfl ?_
                refine z_goto F 34 dX6_compact_51 (by decide) ?_
                refine z_lv F (lv' := [(3, .int (iZ r_6)), (2, .int (iZ (dn + 1))), (0, .ref o), (1, .int (iZ n))]) [1, 0, 2, 3] rfl ?_
                exact ih34 (dn + 1) r_6 wc2_14 sq2_7 ar2_8 en2_9 sd2_10 tk2_11 cp2_12 co2_13 zd2_15 zw2_16 zh2_17 zn2_18 kz2_19 yz2_20 mz2_21 az2_22 fg2_23 (by omega) f24 (by omega) f26 f27 f28 f29 f30 f31 f32 f33 f34 f35 f36 f37 f38 f39 (by omega)
        exact lp34 ((n - 0 : Int).toNat + 1) 0 0 wc sq ar en sd tk cp co zd zw zh zn kz yz mz az fg (by omega) (by omega) (by omega) h11 h17 h1 h2 h3 h4 h5 h6 h7 h8 h9 h10 h12 h13 (Nat.lt_succ_self _)
      · refine z_bipush F dX6_compact_27 (by decide) ?_
        exact z_iret F hr dX6_compact_29 (by omega) ⟨(-3), sq, ar, en, sd, tk, cp, co, wc, zd, zw, zh, zn, kz, yz, mz, az, fg, rfl, rfl, (by omega), (by omega), h15, (by omega), h11, h17, h1, h2, h3, h4, h5, h6, h7, h8, h9, h10, h12, h13⟩
    · refine z_bipush F dX6_compact_17 (by decide) ?_
      exact z_iret F hr dX6_compact_19 (by omega) ⟨(-2), sq, ar, en, sd, tk, cp, co, wc, zd, zw, zh, zn, kz, yz, mz, az, fg, rfl, rfl, (by omega), (by omega), h15, (by omega), h11, h17, h1, h2, h3, h4, h5, h6, h7, h8, h9, h10, h12, h13⟩
set_option maxHeartbeats 4000000 in
set_option maxRecDepth 20000 in
theorem k_X6_cut (l : Launch) (D : va_G) (K : KI) (o : Nat) (th : Int) (se : Int) (ea : Int) (dk : Nat) (wt : Nat) (wh : Nat) (wc : Int) (nw : Nat) (ru : Int) (ed : Int) (wa : Int) (sq : Int) (ar : Int) (en : Int) (sd : Int) (wg : Int) (tk : Int) (cp : Int) (co : Int) (ki : Nat) (ke : Nat) (mn : Nat) (ak : Nat) (dg : Nat) (uk : Nat) (ud : Nat) (zd : Nat → Int) (zw : Nat → Int) (zh : Nat → Int) (zn : Nat → Int) (kz : Nat → Int) (yz : Nat → Int) (mz : Nat → Int) (az : Nat → Int) (fg : Nat → Int64) (zv : Nat → Int) (fv : Nat → Int64) (kp : Int) (te : Int) (h0 : 4 ≤ se ∧ se ≤ 40 ∧ 1 ≤ ea ∧ 2 * ea ≤ se - 2 ∧ se - 2 ≤ 2 * ea + 1) (h1 : 0 ≤ wc ∧ wc ≤ 64) (h2 : rng 0 255 zd) (h3 : rng 0 255 zw) (h4 : rng 0 (se-1) zh) (h5 : rng 0 255 zn) (h6 : rng 0 3 kz) (h7 : rng 0 255 yz) (h8 : rng 0 6 mz) (h9 : rng 0 255 az) (h10 : akOk mz az) (h11 : 0 ≤ en ∧ en ≤ 16 * ea) (h12 : 0 ≤ ar ∧ ar ≤ 1) (h13 : co = 0 ∨ (co = 1 ∧ 0 ≤ cp ∧ cp ≤ tk ∧ tk ≤ en)) (h14 : ru = 0 ∨ ru = 1) (h15 : ru = 0 → wc = 0 ∧ co = 0) (h16 : 0 ≤ sq ∧ sq ≤ 2100000000) (h17 : 0 ≤ sd ∧ sd ≤ 304) (h18 : 0 ≤ wg ∧ wg ≤ 304) (h19 : rng 0 1 zv) (h20 : 1 ≤ wa ∧ wa ≤ 200) (h21 : th = 0 ∨ th = 1) (h22 : -2147483648 ≤ kp ∧ kp ≤ 2147483647) (h23 : -2147483648 ≤ te ∧ te ≤ 2147483647) : Ct lw_T l yX6_cut cX6_cut 6 none { frames := 1, cells := 0, slots := 0, locals := 23 } 0 0 D cls5 (TY K) [.ref o, .int (iZ kp), .int (iZ te)] [oX6 o th se ea dk wt wh wc nw ru ed wa sq ar en sd wg tk cp co ki ke mn ak dg uk ud, aI K dk 20480 zd, aI K wt 32768 zw, aI K wh 64 zh, aI K nw 512 zn, aI K ki 608 kz, aI K ke 608 yz, aI K mn 608 mz, aI K ak 3648 az, aL K dg 608 fg, aZ K uk 64 zv, aL K ud 64 fv] (fun vr wo => ∃ (zd2 : Nat → Int), ∃ (zv2 : Nat → Int), vr = none ∧ wo = [oX6 o 0 se ea dk wt wh 0 nw 0 ed wa sq ar en sd wg tk cp 0 ki ke mn ak dg uk ud, aI K dk 20480 zd2, aI K wt 32768 zw, aI K wh 64 zh, aI K nw 512 zn, aI K ki 608 kz, aI K ke 608 yz, aI K mn 608 mz, aI K ak 3648 az, aL K dg 608 fg, aZ K uk 64 zv2, aL K ud 64 fv] ∧ (rng 0 255 zd2) ∧ (rng 0 1 zv2)) := by
  refine ct_of (own := RX6) (lv := [(0, .ref o), (1, .int (iZ kp)), (2, .int (iZ te))]) (by decide) rfl (Nat.le_of_ble_eq_true rfl) rfl (fun C F hr hnm hzl => ?_)
  subst hzl
  refine z_aload_n F 0 dX6_cut_0 rfl ?_
  refine z_iconst F dX6_cut_1 ?_
  refine z_put F (ws' := [oX6 o 0 se ea dk wt wh wc nw ru ed wa sq ar en sd wg tk cp co ki ke mn ak dg uk ud, aI K dk 20480 zd, aI K wt 32768 zw, aI K wh 64 zh, aI K nw 512 zn, aI K ki 608 kz, aI K ke 608 yz, aI K mn 608 mz, aI K ak 3648 az, aL K dg 608 fg, aZ K uk 64 zv, aL K ud 64 fv]) 0 0 iX6 tyX6 tyX6_ok nmX6 rfl rfl (by decide) t3_76 rfl rfl rfl rfl (Nat.le_of_ble_eq_true rfl) dX6_cut_2 rfl ?_
  refine z_iload_n F 1 dX6_cut_5 rfl ?_
  have lp29 : ∀ (n0 : Int), (0 ≤ n0 ∧ n0 ≤ wc) → Go C { frames := 1, cells := 0, slots := 0, locals := 23 } D cls5 6 0 0 [oX6 o 0 se ea dk wt wh wc nw ru ed wa sq ar en sd wg tk cp co ki ke mn ak dg uk ud, aI K dk 20480 zd, aI K wt 32768 zw, aI K wh 64 zh, aI K nw 512 zn, aI K ki 608 kz, aI K ke 608 yz, aI K mn 608 mz, aI K ak 3648 az, aL K dg 608 fg, aZ K uk 64 zv, aL K ud 64 fv] 29 [(0, .ref o), (1, .int (iZ kp)), (2, .int (iZ te))] [.int (iZ n0)] := by
    intro n0 g29_0
    refine z_istore_n F (lv' := [(3, .int (iZ n0)), (0, .ref o), (1, .int (iZ kp)), (2, .int (iZ te))]) dX6_cut_29 (by decide) rfl ?_
    refine z_iload_n F 3 dX6_cut_30 rfl ?_
    have lp52 : ∀ (t0 : Int), (0 ≤ t0 ∧ t0 ≤ 512) → Go C { frames := 1, cells := 0, slots := 0, locals := 23 } D cls5 6 0 0 [oX6 o 0 se ea dk wt wh wc nw ru ed wa sq ar en sd wg tk cp co ki ke mn ak dg uk ud, aI K dk 20480 zd, aI K wt 32768 zw, aI K wh 64 zh, aI K nw 512 zn, aI K ki 608 kz, aI K ke 608 yz, aI K mn 608 mz, aI K ak 3648 az, aL K dg 608 fg, aZ K uk 64 zv, aL K ud 64 fv] 52 [(3, .int (iZ n0)), (0, .ref o), (1, .int (iZ kp)), (2, .int (iZ te))] [.int (iZ t0)] := by
      intro t0 g52_0
      refine z_istore F (lv' := [(4, .int (iZ t0)), (3, .int (iZ n0)), (0, .ref o), (1, .int (iZ kp)), (2, .int (iZ te))]) dX6_cut_52 (by decide) rfl ?_
      refine z_iconst F dX6_cut_54 ?_
      refine z_istore F (lv' := [(5, .int (iZ 0)), (4, .int (iZ t0)), (3, .int (iZ n0)), (0, .ref o), (1, .int (iZ kp)), (2, .int (iZ te))]) dX6_cut_55 (by decide) rfl ?_
      have lp57 : ∀ (nn57 : Nat) (i : Int) (w : Nat → Int), (0 ≤ i ∧ i ≤ n0) → (rng 0 255 w) → ((n0 - i : Int).toNat < nn57) → Go C { frames := 1, cells := 0, slots := 0, locals := 23 } D cls5 6 0 0 [oX6 o 0 se ea dk wt wh wc nw ru ed wa sq ar en sd wg tk cp co ki ke mn ak dg uk ud, aI K dk 20480 w, aI K wt 32768 zw, aI K wh 64 zh, aI K nw 512 zn, aI K ki 608 kz, aI K ke 608 yz, aI K mn 608 mz, aI K ak 3648 az, aL K dg 608 fg, aZ K uk 64 zv, aL K ud 64 fv] 57 [(5, .int (iZ i)), (4, .int (iZ t0)), (3, .int (iZ n0)), (0, .ref o), (1, .int (iZ kp)), (2, .int (iZ te))] [] := by
        intro nn57
        induction nn57 with
        | zero => intro i w g57_0 g57_1 hmu57; exact absurd hmu57 (Nat.not_lt_zero _)
        | succ nn57 ih57 =>
          intro i w g57_0 g57_1 hmu57
          refine z_iload F 0 dX6_cut_57 rfl ?_
          refine z_iload_n F 2 dX6_cut_59 rfl ?_
          refine z_icmp_ge F 78 dX6_cut_60 (by decide) (by omega) (fun c1 => ?_) (fun c1 => ?_)
          · refine z_iload_n F 2 dX6_cut_78 rfl ?_
            refine z_aload_n F 3 dX6_cut_79 rfl ?_
            refine z_get F 0 6 iX6 rfl rfl (by decide) t3_82 rfl dX6_cut_80 ?_
            have lp93 : ∀ (w9 : Nat → Int), (rng 0 255 w9) → Go C { frames := 1, cells := 0, slots := 0, locals := 23 } D cls5 6 0 0 [oX6 o 0 se ea dk wt wh wc nw ru ed wa sq ar en sd wg tk cp co ki ke mn ak dg uk ud, aI K dk 20480 w9, aI K wt 32768 zw, aI K wh 64 zh, aI K nw 512 zn, aI K ki 608 kz, aI K ke 608 yz, aI K mn 608 mz, aI K ak 3648 az, aL K dg 608 fg, aZ K uk 64 zv, aL K ud 64 fv] 93 [(0, .ref o)] [] := by
              intro w9 g93_0
              refine z_aload_n F 0 dX6_cut_93 rfl ?_
              refine z_iconst F dX6_cut_94 ?_
              refine z_put F (ws' := [oX6 o 0 se ea dk wt wh 0 nw ru ed wa sq ar en sd wg tk cp co ki ke mn ak dg uk ud, aI K dk 20480 w9, aI K wt 32768 zw, aI K wh 64 zh, aI K nw 512 zn, aI K ki 608 kz, aI K ke 608 yz, aI K mn 608 mz, aI K ak 3648 az, aL K dg 608 fg, aZ K uk 64 zv, aL K ud 64 fv]) 0 6 iX6 tyX6 tyX6_ok nmX6 rfl rfl (by decide) t3_82 rfl rfl rfl rfl (Nat.le_of_ble_eq_true rfl) dX6_cut_95 rfl ?_
              refine z_aload_n F 0 dX6_cut_98 rfl ?_
              refine z_iconst F dX6_cut_99 ?_
              refine z_put F (ws' := [oX6 o 0 se ea dk wt wh 0 nw 0 ed wa sq ar en sd wg tk cp co ki ke mn ak dg uk ud, aI K dk 20480 w9, aI K wt 32768 zw, aI K wh 64 zh, aI K nw 512 zn, aI K ki 608 kz, aI K ke 608 yz, aI K mn 608 mz, aI K ak 3648 az, aL K dg 608 fg, aZ K uk 64 zv, aL K ud 64 fv]) 0 8 iX6 tyX6 tyX6_ok nmX6 rfl rfl (by decide) t3_84 rfl rfl (by decide) (by decide) (Nat.le_of_ble_eq_true rfl) dX6_cut_100 rfl ?_
              refine z_aload_n F 0 dX6_cut_103 rfl ?_
              refine z_iconst F dX6_cut_104 ?_
              refine z_put F (ws' := [oX6 o 0 se ea dk wt wh 0 nw 0 ed wa sq ar en sd wg tk cp 0 ki ke mn ak dg uk ud, aI K dk 20480 w9, aI K wt 32768 zw, aI K wh 64 zh, aI K nw 512 zn, aI K ki 608 kz, aI K ke 608 yz, aI K mn 608 mz, aI K ak 3648 az, aL K dg 608 fg, aZ K uk 64 zv, aL K ud 64 fv]) 0 18 iX6 tyX6 tyX6_ok nmX6 rfl rfl (by decide) t3_94 rfl rfl (by decide) (by decide) (Nat.le_of_ble_eq_true rfl) dX6_cut_105 rfl ?_
              refine z_iconst F dX6_cut_108 ?_
              refine z_istore F (lv' := [(5, .int (iZ 0)), (0, .ref o)]) dX6_cut_109 (by decide) rfl ?_
              have lp111 : ∀ (nn111 : Nat) (i9 : Int) (v9 : Nat → Int), (0 ≤ i9 ∧ i9 ≤ 64) → (rng 0 1 v9) → ((64 - i9 : Int).toNat < nn111) → Go C { frames := 1, cells := 0, slots := 0, locals := 23 } D cls5 6 0 0 [oX6 o 0 se ea dk wt wh 0 nw 0 ed wa sq ar en sd wg tk cp 0 ki ke mn ak dg uk ud, aI K dk 20480 w9, aI K wt 32768 zw, aI K wh 64 zh, aI K nw 512 zn, aI K ki 608 kz, aI K ke 608 yz, aI K mn 608 mz, aI K ak 3648 az, aL K dg 608 fg, aZ K uk 64 v9, aL K ud 64 fv] 111 [(5, .int (iZ i9)), (0, .ref o)] [] := by
                intro nn111
                induction nn111 with
                | zero => intro i9 v9 g111_0 g111_1 hmu111; exact absurd hmu111 (Nat.not_lt_zero _)
                | succ nn111 ih111 =>
                  intro i9 v9 g111_0 g111_1 hmu111
                  refine z_iload F 0 dX6_cut_111 rfl ?_
                  refine z_bipush F dX6_cut_113 (by decide) ?_
                  refine z_icmp_ge F 132 dX6_cut_115 (by decide) (by omega) (fun c2 => ?_) (fun c2 => ?_)
                  · exact z_vret F hr dX6_cut_132 (by omega) ⟨w9, v9, rfl, rfl, g93_0, g111_1⟩
                  · refine z_aload_n F 1 dX6_cut_118 rfl ?_
                    refine z_get F 0 24 iX6 rfl rfl (by decide) t3_100 rfl dX6_cut_119 ?_
                    refine z_iload F 0 dX6_cut_122 rfl ?_
                    refine z_iconst F dX6_cut_124 ?_
                    refine z_zast F (ws' := [oX6 o 0 se ea dk wt wh 0 nw 0 ed wa sq ar en sd wg tk cp 0 ki ke mn ak dg uk ud, aI K dk 20480 w9, aI K wt 32768 zw, aI K wh 64 zh, aI K nw 512 zn, aI K ki 608 kz, aI K ke 608 yz, aI K mn 608 mz, aI K ak 3648 az, aL K dg 608 fg, aZ K uk 64 (zu v9 i9.toNat (0 % 2)), aL K ud 64 fv]) 10 rfl rfl dX6_cut_125 (by omega) (by omega) rfl ?_
                    have r3 : rng 0 1 (zu v9 i9.toNat (0 % 2)) := rng_zu g111_1 (by omega)
                    refine z_iinc F (lv' := [(5, .int (iZ (i9 + 1))), (0, .ref o)]) 0 dX6_cut_126 rfl (by decide) rfl ?_
                    refine z_goto F 111 dX6_cut_129 (by decide) ?_
                    exact ih111 (i9 + 1) (zu v9 i9.toNat (0 % 2)) (by omega) r3 (by omega)
              exact lp111 ((64 - 0 : Int).toNat + 1) 0 zv (by omega) h19 (Nat.lt_succ_self _)
            refine z_icmp_ge F 93 dX6_cut_83 (by decide) (by omega) (fun c4 => ?_) (fun c4 => ?_)
            · refine z_lv F (lv' := [(0, .ref o)]) [3] rfl ?_
              exact lp93 w g57_1
            · refine z_aload_n F 3 dX6_cut_86 rfl ?_
              refine z_iload_n F 2 dX6_cut_87 rfl ?_
              refine z_iload F 1 dX6_cut_88 rfl ?_
              refine z_callV F lw_good (k_X6_bring _ D K o 0 se ea dk wt wh wc nw ru ed wa sq ar en sd wg tk cp co ki ke mn ak dg uk ud w zw zh n0 t0 (by omega) (by omega) g57_1 h3 h4) t3_199 t1_6 t3_196 t3_198 (q := (RX6, TX6, 26)) ts_28 ⟨rfl, rfl⟩ ndX6_bring ⟨Nat.le_of_ble_eq_true rfl, Nat.le_of_ble_eq_true rfl⟩ 0 rfl rfl (rest := []) rfl (Nat.le_of_ble_eq_true rfl) dX6_cut_90 ⟨(show 0 + 0 ≤ 0 by omega), (show 0 + 0 ≤ 0 by omega)⟩ (wr := [aI K nw 512 zn, aI K ki 608 kz, aI K ke 608 yz, aI K mn 608 mz, aI K ak 3648 az, aL K dg 608 fg, aZ K uk 64 zv, aL K ud 64 fv]) ([0, 1, 2, 3] : List Nat) ([4, 5, 6, 7, 8, 9, 10, 11] : List Nat) rfl rfl rfl rfl (by decide) (fun vr wo hp => ?_)
              obtain ⟨zd2_5, rfl, rfl, f6⟩ := hp
              refine z_re F (ws' := [oX6 o 0 se ea dk wt wh wc nw ru ed wa sq ar en sd wg tk cp co ki ke mn ak dg uk ud, aI K dk 20480 zd2_5, aI K wt 32768 zw, aI K wh 64 zh, aI K nw 512 zn, aI K ki 608 kz, aI K ke 608 yz, aI K mn 608 mz, aI K ak 3648 az, aL K dg 608 fg, aZ K uk 64 zv, aL K ud 64 fv]) (st' := []) ([8, 9, 10, 11, 0, 1, 2, 3, 4, 5, 6, 7] : List Nat) rfl rfl rfl ?_
              refine z_lv F (lv' := [(0, .ref o)]) [3] rfl ?_
              exact lp93 zd2_5 f6
          · refine z_aload_n F 3 dX6_cut_63 rfl ?_
            refine z_iload F 0 dX6_cut_64 rfl ?_
            refine z_sipush F dX6_cut_66 (by decide) ?_
            refine z_callV F lw_good (k_X6_bring _ D K o 0 se ea dk wt wh wc nw ru ed wa sq ar en sd wg tk cp co ki ke mn ak dg uk ud w zw zh i 512 (by omega) (by omega) g57_1 h3 h4) t3_199 t1_6 t3_196 t3_198 (q := (RX6, TX6, 26)) ts_28 ⟨rfl, rfl⟩ ndX6_bring ⟨Nat.le_of_ble_eq_true rfl, Nat.le_of_ble_eq_true rfl⟩ 0 rfl rfl (rest := []) rfl (Nat.le_of_ble_eq_true rfl) dX6_cut_69 ⟨(show 0 + 0 ≤ 0 by omega), (show 0 + 0 ≤ 0 by omega)⟩ (wr := [aI K nw 512 zn, aI K ki 608 kz, aI K ke 608 yz, aI K mn 608 mz, aI K ak 3648 az, aL K dg 608 fg, aZ K uk 64 zv, aL K ud 64 fv]) ([0, 1, 2, 3] : List Nat) ([4, 5, 6, 7, 8, 9, 10, 11] : List Nat) rfl rfl rfl rfl (by decide) (fun vr wo hp => ?_)
            obtain ⟨zd2_7, rfl, rfl, f8⟩ := hp
            refine z_re F (ws' := [oX6 o 0 se ea dk wt wh wc nw ru ed wa sq ar en sd wg tk cp co ki ke mn ak dg uk ud, aI K dk 20480 zd2_7, aI K wt 32768 zw, aI K wh 64 zh, aI K nw 512 zn, aI K ki 608 kz, aI K ke 608 yz, aI K mn 608 mz, aI K ak 3648 az, aL K dg 608 fg, aZ K uk 64 zv, aL K ud 64 fv]) (st' := []) ([8, 9, 10, 11, 0, 1, 2, 3, 4, 5, 6, 7] : List Nat) rfl rfl rfl ?_
            refine z_iinc F (lv' := [(5, .int (iZ (i + 1))), (4, .int (iZ t0)), (3, .int (iZ n0)), (0, .ref o), (1, .int (iZ kp)), (2, .int (iZ te))]) 0 dX6_cut_72 rfl (by decide) rfl ?_
            refine z_goto F 57 dX6_cut_75 (by decide) ?_
            exact ih57 (i + 1) zd2_7 (by omega) f8 (by omega)
      exact lp57 ((n0 - 0 : Int).toNat + 1) 0 zd (by omega) h2 (Nat.lt_succ_self _)
    refine z_if_ge F 38 dX6_cut_31 (by decide) (by omega) (fun c9 => ?_) (fun c9 => ?_)
    · refine z_iload_n F 3 dX6_cut_38 rfl ?_
      refine z_sipush F dX6_cut_39 (by decide) ?_
      refine z_icmp_le F 51 dX6_cut_42 (by decide) (by omega) (fun c10 => ?_) (fun c10 => ?_)
      · refine z_iload_n F 3 dX6_cut_51 rfl ?_
        exact lp52 te (by omega)
      · refine z_sipush F dX6_cut_45 (by decide) ?_
        refine z_goto F 52 dX6_cut_48 (by decide) ?_
        exact lp52 512 (by omega)
    · refine z_iconst F dX6_cut_34 ?_
      refine z_goto F 52 dX6_cut_35 (by decide) ?_
      exact lp52 0 (by omega)
  refine z_if_ge F 13 dX6_cut_6 (by decide) (by omega) (fun c11 => ?_) (fun c11 => ?_)
  · refine z_iload_n F 1 dX6_cut_13 rfl ?_
    refine z_aload_n F 0 dX6_cut_14 rfl ?_
    refine z_get F 0 6 iX6 rfl rfl (by decide) t3_82 rfl dX6_cut_15 ?_
    refine z_icmp_le F 28 dX6_cut_18 (by decide) (by omega) (fun c12 => ?_) (fun c12 => ?_)
    · refine z_iload_n F 1 dX6_cut_28 rfl ?_
      exact lp29 kp (by omega)
    · refine z_aload_n F 0 dX6_cut_21 rfl ?_
      refine z_get F 0 6 iX6 rfl rfl (by decide) t3_82 rfl dX6_cut_22 ?_
      refine z_goto F 29 dX6_cut_25 (by decide) ?_
      exact lp29 wc (by omega)
  · refine z_iconst F dX6_cut_9 ?_
    refine z_goto F 29 dX6_cut_10 (by decide) ?_
    exact lp29 0 (by omega)
set_option maxHeartbeats 4000000 in
set_option maxRecDepth 20000 in
theorem k_X6_digest (l : Launch) (D : va_G) (K : KI) (o : Nat) (th : Int) (se : Int) (ea : Int) (dk : Nat) (wt : Nat) (wh : Nat) (wc : Int) (nw : Nat) (ru : Int) (ed : Int) (wa : Int) (sq : Int) (ar : Int) (en : Int) (sd : Int) (wg : Int) (tk : Int) (cp : Int) (co : Int) (ki : Nat) (ke : Nat) (mn : Nat) (ak : Nat) (dg : Nat) (uk : Nat) (ud : Nat) (zd : Nat → Int) (zw : Nat → Int) (zh : Nat → Int) (zn : Nat → Int) (kz : Nat → Int) (yz : Nat → Int) (mz : Nat → Int) (az : Nat → Int) (fg : Nat → Int64) (zv : Nat → Int) (fv : Nat → Int64) (k : Int) (h0 : 4 ≤ se ∧ se ≤ 40 ∧ 1 ≤ ea ∧ 2 * ea ≤ se - 2 ∧ se - 2 ≤ 2 * ea + 1) (h1 : 0 ≤ wc ∧ wc ≤ 64) (h2 : rng 0 255 zd) (h3 : rng 0 255 zw) (h4 : rng 0 (se-1) zh) (h5 : rng 0 255 zn) (h6 : rng 0 3 kz) (h7 : rng 0 255 yz) (h8 : rng 0 6 mz) (h9 : rng 0 255 az) (h10 : akOk mz az) (h11 : 0 ≤ en ∧ en ≤ 16 * ea) (h12 : 0 ≤ ar ∧ ar ≤ 1) (h13 : co = 0 ∨ (co = 1 ∧ 0 ≤ cp ∧ cp ≤ tk ∧ tk ≤ en)) (h14 : ru = 0 ∨ ru = 1) (h15 : ru = 0 → wc = 0 ∧ co = 0) (h16 : 0 ≤ sq ∧ sq ≤ 2100000000) (h17 : 0 ≤ sd ∧ sd ≤ 304) (h18 : 0 ≤ wg ∧ wg ≤ 304) (h19 : rng 0 1 zv) (h20 : 1 ≤ wa ∧ wa ≤ 200) (h21 : th = 0 ∨ th = 1) (h22 : -2147483648 ≤ k ∧ k ≤ 2147483647) : Ct lw_T l yX6_digest cX6_digest 3 (some .long) { frames := 1, cells := 0, slots := 0, locals := 23 } 0 0 D cls5 (TY K) [.ref o, .int (iZ k)] [oX6 o th se ea dk wt wh wc nw ru ed wa sq ar en sd wg tk cp co ki ke mn ak dg uk ud, aI K dk 20480 zd, aI K wt 32768 zw, aI K wh 64 zh, aI K nw 512 zn, aI K ki 608 kz, aI K ke 608 yz, aI K mn 608 mz, aI K ak 3648 az, aL K dg 608 fg, aZ K uk 64 zv, aL K ud 64 fv] (fun vr wo => ∃ (r : Int64), vr = some (.long r) ∧ wo = [oX6 o 0 se ea dk wt wh wc nw ru ed wa sq ar en sd wg tk cp co ki ke mn ak dg uk ud, aI K dk 20480 zd, aI K wt 32768 zw, aI K wh 64 zh, aI K nw 512 zn, aI K ki 608 kz, aI K ke 608 yz, aI K mn 608 mz, aI K ak 3648 az, aL K dg 608 fg, aZ K uk 64 zv, aL K ud 64 fv] ∧ (ru = 0 → r = 0)) := by
  refine ct_of (own := RX6) (lv := [(0, .ref o), (1, .int (iZ k))]) (by decide) rfl (Nat.le_of_ble_eq_true rfl) rfl (fun C F hr hnm hzl => ?_)
  subst hzl
  refine z_aload_n F 0 dX6_digest_0 rfl ?_
  refine z_iconst F dX6_digest_1 ?_
  refine z_put F (ws' := [oX6 o 0 se ea dk wt wh wc nw ru ed wa sq ar en sd wg tk cp co ki ke mn ak dg uk ud, aI K dk 20480 zd, aI K wt 32768 zw, aI K wh 64 zh, aI K nw 512 zn, aI K ki 608 kz, aI K ke 608 yz, aI K mn 608 mz, aI K ak 3648 az, aL K dg 608 fg, aZ K uk 64 zv, aL K ud 64 fv]) 0 0 iX6 tyX6 tyX6_ok nmX6 rfl rfl (by decide) t3_76 rfl rfl rfl rfl (Nat.le_of_ble_eq_true rfl) dX6_digest_2 rfl ?_
  refine z_iload_n F 1 dX6_digest_5 rfl ?_
  refine z_callS F lw_good (k_X6_isKey _ D K k h22) t3_214 t1_6 t3_212 t3_213 ⟨rfl, rfl⟩ ndX6_isKey ⟨Nat.le_of_ble_eq_true rfl, Nat.le_of_ble_eq_true rfl⟩ (rest := []) rfl (Nat.le_of_ble_eq_true rfl) dX6_digest_6 ⟨(show 0 + 0 ≤ 0 by omega), (show 0 + 0 ≤ 0 by omega)⟩ (wr := [oX6 o 0 se ea dk wt wh wc nw ru ed wa sq ar en sd wg tk cp co ki ke mn ak dg uk ud, aI K dk 20480 zd, aI K wt 32768 zw, aI K wh 64 zh, aI K nw 512 zn, aI K ki 608 kz, aI K ke 608 yz, aI K mn 608 mz, aI K ak 3648 az, aL K dg 608 fg, aZ K uk 64 zv, aL K ud 64 fv]) ([] : List Nat) ([0, 1, 2, 3, 4, 5, 6, 7, 8, 9, 10, 11] : List Nat) rfl rfl rfl rfl (by decide) (fun vr wo hp => ?_)
  obtain ⟨r_1, rfl, rfl, f2⟩ := hp
  refine z_re F (ws' := [oX6 o 0 se ea dk wt wh wc nw ru ed wa sq ar en sd wg tk cp co ki ke mn ak dg uk ud, aI K dk 20480 zd, aI K wt 32768 zw, aI K wh 64 zh, aI K nw 512 zn, aI K ki 608 kz, aI K ke 608 yz, aI K mn 608 mz, aI K ak 3648 az, aL K dg 608 fg, aZ K uk 64 zv, aL K ud 64 fv]) (st' := [.int (iZ r_1)]) ([0, 1, 2, 3, 4, 5, 6, 7, 8, 9, 10, 11] : List Nat) rfl rfl rfl ?_
  refine z_if_eq F 19 dX6_digest_9 (by decide) (by omega) (fun c3 => ?_) (fun c3 => ?_)
  · refine z_lconst F (v := 0) dX6_digest_19 (by decide) ?_
    exact z_lret F hr dX6_digest_20 (by omega) ⟨0, rfl, rfl, (by first | exact fun _ => rfl | (intro q; exfalso; omega))⟩
  · refine z_aload_n F 0 dX6_digest_12 rfl ?_
    refine z_get F 0 8 iX6 rfl rfl (by decide) t3_84 rfl dX6_digest_13 ?_
    refine z_if_ne F 21 dX6_digest_16 (by decide) (by omega) (fun c4 => ?_) (fun c4 => ?_)
    · refine z_aload_n F 0 dX6_digest_21 rfl ?_
      refine z_get F 0 24 iX6 rfl rfl (by decide) t3_100 rfl dX6_digest_22 ?_
      refine z_iload_n F 1 dX6_digest_25 rfl ?_
      refine z_zald F 10 rfl rfl dX6_digest_26 (by omega) (by omega) ?_
      have r5 : 0 ≤ zv k.toNat ∧ zv k.toNat ≤ 1 := h19 _
      refine z_if_eq F 37 dX6_digest_27 (by decide) (by omega) (fun c6 => ?_) (fun c6 => ?_)
      · refine z_aload_n F 0 dX6_digest_37 rfl ?_
        refine z_iload_n F 1 dX6_digest_38 rfl ?_
        refine z_callV F lw_good (k_X6_latest _ D K o 0 se ea dk wt wh wc nw ru ed wa sq ar en sd wg tk cp co ki ke mn ak dg uk ud kz yz k (by omega) h6 h7 h22) t4_23 t1_6 t4_20 t4_22 (q := (RX6, TX6, 26)) ts_38 ⟨rfl, rfl⟩ ndX6_latest ⟨Nat.le_of_ble_eq_true rfl, Nat.le_of_ble_eq_true rfl⟩ 0 rfl rfl (rest := []) rfl (Nat.le_of_ble_eq_true rfl) dX6_digest_39 ⟨(show 0 + 0 ≤ 0 by omega), (show 0 + 0 ≤ 0 by omega)⟩ (wr := [aI K dk 20480 zd, aI K wt 32768 zw, aI K wh 64 zh, aI K nw 512 zn, aI K mn 608 mz, aI K ak 3648 az, aL K dg 608 fg, aZ K uk 64 zv, aL K ud 64 fv]) ([0, 5, 6] : List Nat) ([1, 2, 3, 4, 7, 8, 9, 10, 11] : List Nat) rfl rfl rfl rfl (by decide) (fun vr wo hp => ?_)
        obtain ⟨r_7, rfl, rfl, f8⟩ := hp
        refine z_re F (ws' := [oX6 o 0 se ea dk wt wh wc nw ru ed wa sq ar en sd wg tk cp co ki ke mn ak dg uk ud, aI K dk 20480 zd, aI K wt 32768 zw, aI K wh 64 zh, aI K nw 512 zn, aI K ki 608 kz, aI K ke 608 yz, aI K mn 608 mz, aI K ak 3648 az, aL K dg 608 fg, aZ K uk 64 zv, aL K ud 64 fv]) (st' := [.int (iZ r_7)]) ([9, 0, 1, 2, 3, 10, 11, 4, 5, 6, 7, 8] : List Nat) rfl rfl rfl ?_
        refine z_istore_n F (lv' := [(2, .int (iZ r_7)), (0, .ref o), (1, .int (iZ k))]) dX6_digest_42 (by decide) rfl ?_
        refine z_iload_n F 0 dX6_digest_43 rfl ?_
        refine z_iconst F dX6_digest_44 ?_
        refine z_icmp_ne F 52 dX6_digest_45 (by decide) (by omega) (fun c9 => ?_) (fun c9 => ?_)
        · refine z_aload_n F 1 dX6_digest_52 rfl ?_
          refine z_get F 0 23 iX6 rfl rfl (by decide) t3_99 rfl dX6_digest_53 ?_
          refine z_iload_n F 0 dX6_digest_56 rfl ?_
          refine z_lald F 9 rfl rfl dX6_digest_57 (by omega) (by omega) ?_
          exact z_lret F hr dX6_digest_58 (by omega) ⟨(fg r_7.toNat), rfl, rfl, (by first | exact fun _ => rfl | (intro q; exfalso; omega))⟩
        · refine z_lconst F (v := 0) dX6_digest_48 (by decide) ?_
          refine z_goto F 58 dX6_digest_49 (by decide) ?_
          exact z_lret F hr dX6_digest_58 (by omega) ⟨0, rfl, rfl, (by first | exact fun _ => rfl | (intro q; exfalso; omega))⟩
      · refine z_aload_n F 0 dX6_digest_30 rfl ?_
        refine z_get F 0 25 iX6 rfl rfl (by decide) t3_101 rfl dX6_digest_31 ?_
        refine z_iload_n F 1 dX6_digest_34 rfl ?_
        refine z_lald F 11 rfl rfl dX6_digest_35 (by omega) (by omega) ?_
        exact z_lret F hr dX6_digest_36 (by omega) ⟨(fv k.toNat), rfl, rfl, (by first | exact fun _ => rfl | (intro q; exfalso; omega))⟩
    · refine z_lconst F (v := 0) dX6_digest_19 (by decide) ?_
      exact z_lret F hr dX6_digest_20 (by omega) ⟨0, rfl, rfl, (by first | exact fun _ => rfl | (intro q; exfalso; omega))⟩
set_option maxHeartbeats 4000000 in
set_option maxRecDepth 20000 in
theorem k_X6_asked (l : Launch) (D : va_G) (K : KI) (o : Nat) (th : Int) (se : Int) (ea : Int) (dk : Nat) (wt : Nat) (wh : Nat) (wc : Int) (nw : Nat) (ru : Int) (ed : Int) (wa : Int) (sq : Int) (ar : Int) (en : Int) (sd : Int) (wg : Int) (tk : Int) (cp : Int) (co : Int) (ki : Nat) (ke : Nat) (mn : Nat) (ak : Nat) (dg : Nat) (uk : Nat) (ud : Nat) (zd : Nat → Int) (zw : Nat → Int) (zh : Nat → Int) (zn : Nat → Int) (kz : Nat → Int) (yz : Nat → Int) (mz : Nat → Int) (az : Nat → Int) (fg : Nat → Int64) (zv : Nat → Int) (fv : Nat → Int64) (k : Int) (i : Int) (h0 : 4 ≤ se ∧ se ≤ 40 ∧ 1 ≤ ea ∧ 2 * ea ≤ se - 2 ∧ se - 2 ≤ 2 * ea + 1) (h1 : 0 ≤ wc ∧ wc ≤ 64) (h2 : rng 0 255 zd) (h3 : rng 0 255 zw) (h4 : rng 0 (se-1) zh) (h5 : rng 0 255 zn) (h6 : rng 0 3 kz) (h7 : rng 0 255 yz) (h8 : rng 0 6 mz) (h9 : rng 0 255 az) (h10 : akOk mz az) (h11 : 0 ≤ en ∧ en ≤ 16 * ea) (h12 : 0 ≤ ar ∧ ar ≤ 1) (h13 : co = 0 ∨ (co = 1 ∧ 0 ≤ cp ∧ cp ≤ tk ∧ tk ≤ en)) (h14 : ru = 0 ∨ ru = 1) (h15 : ru = 0 → wc = 0 ∧ co = 0) (h16 : 0 ≤ sq ∧ sq ≤ 2100000000) (h17 : 0 ≤ sd ∧ sd ≤ 304) (h18 : 0 ≤ wg ∧ wg ≤ 304) (h19 : rng 0 1 zv) (h20 : 1 ≤ wa ∧ wa ≤ 200) (h21 : th = 0 ∨ th = 1) (h22 : -2147483648 ≤ k ∧ k ≤ 2147483647) (h23 : -2147483648 ≤ i ∧ i ≤ 2147483647) : Ct lw_T l yX6_asked cX6_asked 4 (some .int) { frames := 1, cells := 0, slots := 0, locals := 23 } 0 0 D cls5 (TY K) [.ref o, .int (iZ k), .int (iZ i)] [oX6 o th se ea dk wt wh wc nw ru ed wa sq ar en sd wg tk cp co ki ke mn ak dg uk ud, aI K dk 20480 zd, aI K wt 32768 zw, aI K wh 64 zh, aI K nw 512 zn, aI K ki 608 kz, aI K ke 608 yz, aI K mn 608 mz, aI K ak 3648 az, aL K dg 608 fg, aZ K uk 64 zv, aL K ud 64 fv] (fun vr wo => ∃ (r : Int), vr = some (.int (iZ r)) ∧ wo = [oX6 o 0 se ea dk wt wh wc nw ru ed wa sq ar en sd wg tk cp co ki ke mn ak dg uk ud, aI K dk 20480 zd, aI K wt 32768 zw, aI K wh 64 zh, aI K nw 512 zn, aI K ki 608 kz, aI K ke 608 yz, aI K mn 608 mz, aI K ak 3648 az, aL K dg 608 fg, aZ K uk 64 zv, aL K ud 64 fv] ∧ (-1 ≤ r ∧ r ≤ 255) ∧ (ru = 0 → r = -1)) := by
  refine ct_of (own := RX6) (lv := [(0, .ref o), (1, .int (iZ k)), (2, .int (iZ i))]) (by decide) rfl (Nat.le_of_ble_eq_true rfl) rfl (fun C F hr hnm hzl => ?_)
  subst hzl
  refine z_aload_n F 0 dX6_asked_0 rfl ?_
  refine z_iconst F dX6_asked_1 ?_
  refine z_put F (ws' := [oX6 o 0 se ea dk wt wh wc nw ru ed wa sq ar en sd wg tk cp co ki ke mn ak dg uk ud, aI K dk 20480 zd, aI K wt 32768 zw, aI K wh 64 zh, aI K nw 512 zn, aI K ki 608 kz, aI K ke 608 yz, aI K mn 608 mz, aI K ak 3648 az, aL K dg 608 fg, aZ K uk 64 zv, aL K ud 64 fv]) 0 0 iX6 tyX6 tyX6_ok nmX6 rfl rfl (by decide) t3_76 rfl rfl rfl rfl (Nat.le_of_ble_eq_true rfl) dX6_asked_2 rfl ?_
  refine z_iload_n F 1 dX6_asked_5 rfl ?_
  refine z_callS F lw_good (k_X6_isKey _ D K k h22) t3_214 t1_6 t3_212 t3_213 ⟨rfl, rfl⟩ ndX6_isKey ⟨Nat.le_of_ble_eq_true rfl, Nat.le_of_ble_eq_true rfl⟩ (rest := []) rfl (Nat.le_of_ble_eq_true rfl) dX6_asked_6 ⟨(show 0 + 0 ≤ 0 by omega), (show 0 + 0 ≤ 0 by omega)⟩ (wr := [oX6 o 0 se ea dk wt wh wc nw ru ed wa sq ar en sd wg tk cp co ki ke mn ak dg uk ud, aI K dk 20480 zd, aI K wt 32768 zw, aI K wh 64 zh, aI K nw 512 zn, aI K ki 608 kz, aI K ke 608 yz, aI K mn 608 mz, aI K ak 3648 az, aL K dg 608 fg, aZ K uk 64 zv, aL K ud 64 fv]) ([] : List Nat) ([0, 1, 2, 3, 4, 5, 6, 7, 8, 9, 10, 11] : List Nat) rfl rfl rfl rfl (by decide) (fun vr wo hp => ?_)
  obtain ⟨r_1, rfl, rfl, f2⟩ := hp
  refine z_re F (ws' := [oX6 o 0 se ea dk wt wh wc nw ru ed wa sq ar en sd wg tk cp co ki ke mn ak dg uk ud, aI K dk 20480 zd, aI K wt 32768 zw, aI K wh 64 zh, aI K nw 512 zn, aI K ki 608 kz, aI K ke 608 yz, aI K mn 608 mz, aI K ak 3648 az, aL K dg 608 fg, aZ K uk 64 zv, aL K ud 64 fv]) (st' := [.int (iZ r_1)]) ([0, 1, 2, 3, 4, 5, 6, 7, 8, 9, 10, 11] : List Nat) rfl rfl rfl ?_
  refine z_if_eq F 28 dX6_asked_9 (by decide) (by omega) (fun c3 => ?_) (fun c3 => ?_)
  · refine z_iconst F dX6_asked_28 ?_
    exact z_iret F hr dX6_asked_29 (by omega) ⟨(-1), rfl, rfl, (by omega), (by omega)⟩
  · refine z_aload_n F 0 dX6_asked_12 rfl ?_
    refine z_get F 0 8 iX6 rfl rfl (by decide) t3_84 rfl dX6_asked_13 ?_
    refine z_if_eq F 28 dX6_asked_16 (by decide) (by omega) (fun c4 => ?_) (fun c4 => ?_)
    · refine z_iconst F dX6_asked_28 ?_
      exact z_iret F hr dX6_asked_29 (by omega) ⟨(-1), rfl, rfl, (by omega), (by omega)⟩
    · refine z_aload_n F 0 dX6_asked_19 rfl ?_
      refine z_get F 0 24 iX6 rfl rfl (by decide) t3_100 rfl dX6_asked_20 ?_
      refine z_iload_n F 1 dX6_asked_23 rfl ?_
      refine z_zald F 10 rfl rfl dX6_asked_24 (by omega) (by omega) ?_
      have r5 : 0 ≤ zv k.toNat ∧ zv k.toNat ≤ 1 := h19 _
      refine z_if_eq F 30 dX6_asked_25 (by decide) (by omega) (fun c6 => ?_) (fun c6 => ?_)
      · refine z_aload_n F 0 dX6_asked_30 rfl ?_
        refine z_iload_n F 1 dX6_asked_31 rfl ?_
        refine z_callV F lw_good (k_X6_latest _ D K o 0 se ea dk wt wh wc nw ru ed wa sq ar en sd wg tk cp co ki ke mn ak dg uk ud kz yz k (by omega) h6 h7 h22) t4_23 t1_6 t4_20 t4_22 (q := (RX6, TX6, 26)) ts_38 ⟨rfl, rfl⟩ ndX6_latest ⟨Nat.le_of_ble_eq_true rfl, Nat.le_of_ble_eq_true rfl⟩ 0 rfl rfl (rest := []) rfl (Nat.le_of_ble_eq_true rfl) dX6_asked_32 ⟨(show 0 + 0 ≤ 0 by omega), (show 0 + 0 ≤ 0 by omega)⟩ (wr := [aI K dk 20480 zd, aI K wt 32768 zw, aI K wh 64 zh, aI K nw 512 zn, aI K mn 608 mz, aI K ak 3648 az, aL K dg 608 fg, aZ K uk 64 zv, aL K ud 64 fv]) ([0, 5, 6] : List Nat) ([1, 2, 3, 4, 7, 8, 9, 10, 11] : List Nat) rfl rfl rfl rfl (by decide) (fun vr wo hp => ?_)
        obtain ⟨r_7, rfl, rfl, f8⟩ := hp
        refine z_re F (ws' := [oX6 o 0 se ea dk wt wh wc nw ru ed wa sq ar en sd wg tk cp co ki ke mn ak dg uk ud, aI K dk 20480 zd, aI K wt 32768 zw, aI K wh 64 zh, aI K nw 512 zn, aI K ki 608 kz, aI K ke 608 yz, aI K mn 608 mz, aI K ak 3648 az, aL K dg 608 fg, aZ K uk 64 zv, aL K ud 64 fv]) (st' := [.int (iZ r_7)]) ([9, 0, 1, 2, 3, 10, 11, 4, 5, 6, 7, 8] : List Nat) rfl rfl rfl ?_
        refine z_istore_n F (lv' := [(3, .int (iZ r_7)), (0, .ref o), (1, .int (iZ k)), (2, .int (iZ i))]) dX6_asked_35 (by decide) rfl ?_
        refine z_iload_n F 0 dX6_asked_36 rfl ?_
        refine z_iconst F dX6_asked_37 ?_
        refine z_icmp_eq F 55 dX6_asked_38 (by decide) (by omega) (fun c9 => ?_) (fun c9 => ?_)
        · refine z_iconst F dX6_asked_55 ?_
          refine z_goto F 70 dX6_asked_56 (by decide) ?_
          exact z_iret F hr dX6_asked_70 (by omega) ⟨(-1), rfl, rfl, (by omega), (by omega)⟩
        · refine z_iload_n F 3 dX6_asked_41 rfl ?_
          refine z_if_lt F 55 dX6_asked_42 (by decide) (by omega) (fun c10 => ?_) (fun c10 => ?_)
          · refine z_iconst F dX6_asked_55 ?_
            refine z_goto F 70 dX6_asked_56 (by decide) ?_
            exact z_iret F hr dX6_asked_70 (by omega) ⟨(-1), rfl, rfl, (by omega), (by omega)⟩
          · refine z_iload_n F 3 dX6_asked_45 rfl ?_
            refine z_aload_n F 1 dX6_asked_46 rfl ?_
            refine z_get F 0 21 iX6 rfl rfl (by decide) t3_97 rfl dX6_asked_47 ?_
            refine z_iload_n F 0 dX6_asked_50 rfl ?_
            refine z_iald F 7 rfl rfl dX6_asked_51 (by omega) (by omega) ?_
            have r11 : 0 ≤ mz r_7.toNat ∧ mz r_7.toNat ≤ 6 := h8 _
            refine z_icmp_lt F 59 dX6_asked_52 (by decide) (by omega) (fun c12 => ?_) (fun c12 => ?_)
            · refine z_aload_n F 1 dX6_asked_59 rfl ?_
              refine z_get F 0 22 iX6 rfl rfl (by decide) t3_98 rfl dX6_asked_60 ?_
              refine z_bipush F dX6_asked_63 (by decide) ?_
              refine z_iload_n F 0 dX6_asked_65 rfl ?_
              refine z_imul F dX6_asked_66 ?_
              refine z_iload_n F 3 dX6_asked_67 rfl ?_
              refine z_iadd F dX6_asked_68 ?_
              refine z_iald F 8 rfl rfl dX6_asked_69 (by omega) (by omega) ?_
              have r13 : 0 ≤ az ((6 * r_7) + i).toNat ∧ az ((6 * r_7) + i).toNat ≤ 255 := h9 _
              exact z_iret F hr dX6_asked_70 (by omega) ⟨(az ((6 * r_7) + i).toNat), rfl, rfl, (by omega), (by omega)⟩
            · refine z_iconst F dX6_asked_55 ?_
              refine z_goto F 70 dX6_asked_56 (by decide) ?_
              exact z_iret F hr dX6_asked_70 (by omega) ⟨(-1), rfl, rfl, (by omega), (by omega)⟩
      · refine z_iconst F dX6_asked_28 ?_
        exact z_iret F hr dX6_asked_29 (by omega) ⟨(-1), rfl, rfl, (by omega), (by omega)⟩
set_option maxHeartbeats 4000000 in
set_option maxRecDepth 20000 in
theorem k_X6_sure (l : Launch) (D : va_G) (K : KI) (o : Nat) (th : Int) (se : Int) (ea : Int) (dk : Nat) (wt : Nat) (wh : Nat) (wc : Int) (nw : Nat) (ru : Int) (ed : Int) (wa : Int) (sq : Int) (ar : Int) (en : Int) (sd : Int) (wg : Int) (tk : Int) (cp : Int) (co : Int) (ki : Nat) (ke : Nat) (mn : Nat) (ak : Nat) (dg : Nat) (uk : Nat) (ud : Nat) (zd : Nat → Int) (zw : Nat → Int) (zh : Nat → Int) (zn : Nat → Int) (kz : Nat → Int) (yz : Nat → Int) (mz : Nat → Int) (az : Nat → Int) (fg : Nat → Int64) (zv : Nat → Int) (fv : Nat → Int64) (k : Int) (h0 : 4 ≤ se ∧ se ≤ 40 ∧ 1 ≤ ea ∧ 2 * ea ≤ se - 2 ∧ se - 2 ≤ 2 * ea + 1) (h1 : 0 ≤ wc ∧ wc ≤ 64) (h2 : rng 0 255 zd) (h3 : rng 0 255 zw) (h4 : rng 0 (se-1) zh) (h5 : rng 0 255 zn) (h6 : rng 0 3 kz) (h7 : rng 0 255 yz) (h8 : rng 0 6 mz) (h9 : rng 0 255 az) (h10 : akOk mz az) (h11 : 0 ≤ en ∧ en ≤ 16 * ea) (h12 : 0 ≤ ar ∧ ar ≤ 1) (h13 : co = 0 ∨ (co = 1 ∧ 0 ≤ cp ∧ cp ≤ tk ∧ tk ≤ en)) (h14 : ru = 0 ∨ ru = 1) (h15 : ru = 0 → wc = 0 ∧ co = 0) (h16 : 0 ≤ sq ∧ sq ≤ 2100000000) (h17 : 0 ≤ sd ∧ sd ≤ 304) (h18 : 0 ≤ wg ∧ wg ≤ 304) (h19 : rng 0 1 zv) (h20 : 1 ≤ wa ∧ wa ≤ 200) (h21 : th = 0 ∨ th = 1) (h22 : -2147483648 ≤ k ∧ k ≤ 2147483647) : Ct lw_T l yX6_sure cX6_sure 6 (some .boolean) { frames := 1, cells := 0, slots := 0, locals := 23 } 0 0 D cls5 (TY K) [.ref o, .int (iZ k)] [oX6 o th se ea dk wt wh wc nw ru ed wa sq ar en sd wg tk cp co ki ke mn ak dg uk ud, aI K dk 20480 zd, aI K wt 32768 zw, aI K wh 64 zh, aI K nw 512 zn, aI K ki 608 kz, aI K ke 608 yz, aI K mn 608 mz, aI K ak 3648 az, aL K dg 608 fg, aZ K uk 64 zv, aL K ud 64 fv] (fun vr wo => ∃ (r : Int), vr = some (.int (iZ r)) ∧ wo = [oX6 o 0 se ea dk wt wh wc nw ru ed wa sq ar en sd wg tk cp co ki ke mn ak dg uk ud, aI K dk 20480 zd, aI K wt 32768 zw, aI K wh 64 zh, aI K nw 512 zn, aI K ki 608 kz, aI K ke 608 yz, aI K mn 608 mz, aI K ak 3648 az, aL K dg 608 fg, aZ K uk 64 zv, aL K ud 64 fv] ∧ (r = 0 ∨ r = 1) ∧ (ru = 0 → r = 0)) := by
  refine ct_of (own := RX6) (lv := [(0, .ref o), (1, .int (iZ k))]) (by decide) rfl (Nat.le_of_ble_eq_true rfl) rfl (fun C F hr hnm hzl => ?_)
  subst hzl
  refine z_aload_n F 0 dX6_sure_0 rfl ?_
  refine z_iconst F dX6_sure_1 ?_
  refine z_put F (ws' := [oX6 o 0 se ea dk wt wh wc nw ru ed wa sq ar en sd wg tk cp co ki ke mn ak dg uk ud, aI K dk 20480 zd, aI K wt 32768 zw, aI K wh 64 zh, aI K nw 512 zn, aI K ki 608 kz, aI K ke 608 yz, aI K mn 608 mz, aI K ak 3648 az, aL K dg 608 fg, aZ K uk 64 zv, aL K ud 64 fv]) 0 0 iX6 tyX6 tyX6_ok nmX6 rfl rfl (by decide) t3_76 rfl rfl rfl rfl (Nat.le_of_ble_eq_true rfl) dX6_sure_2 rfl ?_
  refine z_iload_n F 1 dX6_sure_5 rfl ?_
  refine z_callS F lw_good (k_X6_isKey _ D K k h22) t3_214 t1_6 t3_212 t3_213 ⟨rfl, rfl⟩ ndX6_isKey ⟨Nat.le_of_ble_eq_true rfl, Nat.le_of_ble_eq_true rfl⟩ (rest := []) rfl (Nat.le_of_ble_eq_true rfl) dX6_sure_6 ⟨(show 0 + 0 ≤ 0 by omega), (show 0 + 0 ≤ 0 by omega)⟩ (wr := [oX6 o 0 se ea dk wt wh wc nw ru ed wa sq ar en sd wg tk cp co ki ke mn ak dg uk ud, aI K dk 20480 zd, aI K wt 32768 zw, aI K wh 64 zh, aI K nw 512 zn, aI K ki 608 kz, aI K ke 608 yz, aI K mn 608 mz, aI K ak 3648 az, aL K dg 608 fg, aZ K uk 64 zv, aL K ud 64 fv]) ([] : List Nat) ([0, 1, 2, 3, 4, 5, 6, 7, 8, 9, 10, 11] : List Nat) rfl rfl rfl rfl (by decide) (fun vr wo hp => ?_)
  obtain ⟨r_1, rfl, rfl, f2⟩ := hp
  refine z_re F (ws' := [oX6 o 0 se ea dk wt wh wc nw ru ed wa sq ar en sd wg tk cp co ki ke mn ak dg uk ud, aI K dk 20480 zd, aI K wt 32768 zw, aI K wh 64 zh, aI K nw 512 zn, aI K ki 608 kz, aI K ke 608 yz, aI K mn 608 mz, aI K ak 3648 az, aL K dg 608 fg, aZ K uk 64 zv, aL K ud 64 fv]) (st' := [.int (iZ r_1)]) ([0, 1, 2, 3, 4, 5, 6, 7, 8, 9, 10, 11] : List Nat) rfl rfl rfl ?_
  refine z_if_eq F 19 dX6_sure_9 (by decide) (by omega) (fun c3 => ?_) (fun c3 => ?_)
  · refine z_iconst F dX6_sure_19 ?_
    exact z_zret F hr (by decide) dX6_sure_20 (by omega) ⟨0, rfl, rfl, (by omega), (by omega)⟩
  · refine z_aload_n F 0 dX6_sure_12 rfl ?_
    refine z_get F 0 8 iX6 rfl rfl (by decide) t3_84 rfl dX6_sure_13 ?_
    refine z_if_ne F 21 dX6_sure_16 (by decide) (by omega) (fun c4 => ?_) (fun c4 => ?_)
    · refine z_aload_n F 0 dX6_sure_21 rfl ?_
      refine z_get F 0 24 iX6 rfl rfl (by decide) t3_100 rfl dX6_sure_22 ?_
      refine z_iload_n F 1 dX6_sure_25 rfl ?_
      refine z_zald F 10 rfl rfl dX6_sure_26 (by omega) (by omega) ?_
      have r5 : 0 ≤ zv k.toNat ∧ zv k.toNat ≤ 1 := h19 _
      refine z_if_eq F 32 dX6_sure_27 (by decide) (by omega) (fun c6 => ?_) (fun c6 => ?_)
      · refine z_aload_n F 0 dX6_sure_32 rfl ?_
        refine z_iload_n F 1 dX6_sure_33 rfl ?_
        refine z_callV F lw_good (k_X6_latest _ D K o 0 se ea dk wt wh wc nw ru ed wa sq ar en sd wg tk cp co ki ke mn ak dg uk ud kz yz k (by omega) h6 h7 h22) t4_23 t1_6 t4_20 t4_22 (q := (RX6, TX6, 26)) ts_38 ⟨rfl, rfl⟩ ndX6_latest ⟨Nat.le_of_ble_eq_true rfl, Nat.le_of_ble_eq_true rfl⟩ 0 rfl rfl (rest := []) rfl (Nat.le_of_ble_eq_true rfl) dX6_sure_34 ⟨(show 0 + 0 ≤ 0 by omega), (show 0 + 0 ≤ 0 by omega)⟩ (wr := [aI K dk 20480 zd, aI K wt 32768 zw, aI K wh 64 zh, aI K nw 512 zn, aI K mn 608 mz, aI K ak 3648 az, aL K dg 608 fg, aZ K uk 64 zv, aL K ud 64 fv]) ([0, 5, 6] : List Nat) ([1, 2, 3, 4, 7, 8, 9, 10, 11] : List Nat) rfl rfl rfl rfl (by decide) (fun vr wo hp => ?_)
        obtain ⟨r_7, rfl, rfl, f8⟩ := hp
        refine z_re F (ws' := [oX6 o 0 se ea dk wt wh wc nw ru ed wa sq ar en sd wg tk cp co ki ke mn ak dg uk ud, aI K dk 20480 zd, aI K wt 32768 zw, aI K wh 64 zh, aI K nw 512 zn, aI K ki 608 kz, aI K ke 608 yz, aI K mn 608 mz, aI K ak 3648 az, aL K dg 608 fg, aZ K uk 64 zv, aL K ud 64 fv]) (st' := [.int (iZ r_7)]) ([9, 0, 1, 2, 3, 10, 11, 4, 5, 6, 7, 8] : List Nat) rfl rfl rfl ?_
        refine z_istore_n F (lv' := [(2, .int (iZ r_7)), (0, .ref o), (1, .int (iZ k))]) dX6_sure_37 (by decide) rfl ?_
        refine z_iload_n F 0 dX6_sure_38 rfl ?_
        refine z_iconst F dX6_sure_39 ?_
        refine z_icmp_eq F 51 dX6_sure_40 (by decide) (by omega) (fun c9 => ?_) (fun c9 => ?_)
        · refine z_iconst F dX6_sure_51 ?_
          exact z_zret F hr (by decide) dX6_sure_52 (by omega) ⟨0, rfl, rfl, (by omega), (by omega)⟩
        · refine z_aload_n F 1 dX6_sure_43 rfl ?_
          refine z_iload_n F 0 dX6_sure_44 rfl ?_
          refine z_callV F lw_good (k_X6_isWrongBehind _ D K o 0 se ea dk wt wh wc nw ru ed wa sq ar en sd wg tk cp co ki ke mn ak dg uk ud kz r_7 (by omega) h6 (by omega)) t4_27 t1_6 t4_24 t4_26 (q := (RX6, TX6, 26)) ts_39 ⟨rfl, rfl⟩ ndX6_isWrongBehind ⟨Nat.le_of_ble_eq_true rfl, Nat.le_of_ble_eq_true rfl⟩ 0 rfl rfl (rest := []) rfl (Nat.le_of_ble_eq_true rfl) dX6_sure_45 ⟨(show 0 + 0 ≤ 0 by omega), (show 0 + 0 ≤ 0 by omega)⟩ (wr := [aI K dk 20480 zd, aI K wt 32768 zw, aI K wh 64 zh, aI K nw 512 zn, aI K ke 608 yz, aI K mn 608 mz, aI K ak 3648 az, aL K dg 608 fg, aZ K uk 64 zv, aL K ud 64 fv]) ([0, 5] : List Nat) ([1, 2, 3, 4, 6, 7, 8, 9, 10, 11] : List Nat) rfl rfl rfl rfl (by decide) (fun vr wo hp => ?_)
          obtain ⟨r_10, rfl, rfl, f11⟩ := hp
          refine z_re F (ws' := [oX6 o 0 se ea dk wt wh wc nw ru ed wa sq ar en sd wg tk cp co ki ke mn ak dg uk ud, aI K dk 20480 zd, aI K wt 32768 zw, aI K wh 64 zh, aI K nw 512 zn, aI K ki 608 kz, aI K ke 608 yz, aI K mn 608 mz, aI K ak 3648 az, aL K dg 608 fg, aZ K uk 64 zv, aL K ud 64 fv]) (st' := [.int (iZ r_10)]) ([10, 0, 1, 2, 3, 11, 4, 5, 6, 7, 8, 9] : List Nat) rfl rfl rfl ?_
          refine z_if_eq F 53 dX6_sure_48 (by decide) (by omega) (fun c12 => ?_) (fun c12 => ?_)
          · refine z_iconst F dX6_sure_53 ?_
            refine z_istore_n F (lv' := [(3, .int (iZ 1)), (2, .int (iZ r_7)), (0, .ref o), (1, .int (iZ k))]) dX6_sure_54 (by decide) rfl ?_
            refine z_iconst F dX6_sure_55 ?_
            refine z_istore F (lv' := [(4, .int (iZ 0)), (3, .int (iZ 1)), (2, .int (iZ r_7)), (0, .ref o), (1, .int (iZ k))]) dX6_sure_56 (by decide) rfl ?_
            have lp58 : ∀ (nn58 : Nat) (is : Int) (i : Int), (0 ≤ i ∧ i ≤ 6) → (is = 0 ∨ is = 1) → ((6 - i : Int).toNat < nn58) → Go C { frames := 1, cells := 0, slots := 0, locals := 23 } D cls5 6 0 0 [oX6 o 0 se ea dk wt wh wc nw ru ed wa sq ar en sd wg tk cp co ki ke mn ak dg uk ud, aI K dk 20480 zd, aI K wt 32768 zw, aI K wh 64 zh, aI K nw 512 zn, aI K ki 608 kz, aI K ke 608 yz, aI K mn 608 mz, aI K ak 3648 az, aL K dg 608 fg, aZ K uk 64 zv, aL K ud 64 fv] 58 [(4, .int (iZ i)), (3, .int (iZ is)), (2, .int (iZ r_7)), (0, .ref o), (1, .int (iZ k))] [] := by
              intro nn58
              induction nn58 with
              | zero => intro is i g58_0 g58_1 hmu58; exact absurd hmu58 (Nat.not_lt_zero _)
              | succ nn58 ih58 =>
                intro is i g58_0 g58_1 hmu58
                refine z_iload F 0 dX6_sure_58 rfl ?_
                refine z_aload_n F 3 dX6_sure_60 rfl ?_
                refine z_get F 0 21 iX6 rfl rfl (by decide) t3_97 rfl dX6_sure_61 ?_
                refine z_iload_n F 2 dX6_sure_64 rfl ?_
                refine z_iald F 7 rfl rfl dX6_sure_65 (by omega) (by omega) ?_
                have r13 : 0 ≤ mz r_7.toNat ∧ mz r_7.toNat ≤ 6 := h8 _
                refine z_icmp_ge F 129 dX6_sure_66 (by decide) (by omega) (fun c14 => ?_) (fun c14 => ?_)
                · refine z_iload_n F 1 dX6_sure_129 rfl ?_
                  exact z_zret F hr (nar01 g58_1) dX6_sure_130 (by omega) ⟨is, rfl, rfl, g58_1, (by omega)⟩
                · have hmq := h8 r_7.toNat
                  refine z_aload_n F 3 dX6_sure_69 rfl ?_
                  refine z_get F 0 22 iX6 rfl rfl (by decide) t3_98 rfl dX6_sure_70 ?_
                  refine z_bipush F dX6_sure_73 (by decide) ?_
                  refine z_iload_n F 2 dX6_sure_75 rfl ?_
                  refine z_imul F dX6_sure_76 ?_
                  refine z_iload F 0 dX6_sure_77 rfl ?_
                  refine z_iadd F dX6_sure_79 ?_
                  refine z_iald F 8 rfl rfl dX6_sure_80 (by omega) (by omega) ?_
                  have r15 : 0 ≤ az ((6 * r_7) + i).toNat ∧ az ((6 * r_7) + i).toNat ≤ 255 := h9 _
                  have hka := akOk_at6 (p := r_7) (i := i) h10 (by omega) (by omega) (by omega)
                  refine z_istore F (lv' := [(5, .int (iZ (az ((6 * r_7) + i).toNat))), (4, .int (iZ i)), (3, .int (iZ is)), (2, .int (iZ r_7)), (0, .ref o), (1, .int (iZ k))]) dX6_sure_81 (by decide) rfl ?_
                  refine z_iload_n F 2 dX6_sure_83 rfl ?_
                  refine z_if_eq F 121 dX6_sure_84 (by decide) (by omega) (fun c16 => ?_) (fun c16 => ?_)
                  · refine z_iconst F dX6_sure_121 ?_
                    refine z_istore_n F (lv' := [(3, .int (iZ 0)), (5, .int (iZ (az ((6 * r_7) + i).toNat))), (4, .int (iZ i)), (2, .int (iZ r_7)), (0, .ref o), (1, .int (iZ k))]) dX6_sure_122 (by decide) rfl ?_
                    refine z_iinc F (lv' := [(4, .int (iZ (i + 1))), (3, .int (iZ 0)), (5, .int (iZ (az ((6 * r_7) + i).toNat))), (2, .int (iZ r_7)), (0, .ref o), (1, .int (iZ k))]) 2 dX6_sure_123 rfl (by decide) rfl ?_
                    refine z_goto F 58 dX6_sure_126 (by decide) ?_
                    refine z_lv F (lv' := [(4, .int (iZ (i + 1))), (3, .int (iZ 0)), (2, .int (iZ r_7)), (0, .ref o), (1, .int (iZ k))]) [0, 1, 3, 4, 5] rfl ?_
                    exact ih58 0 (i + 1) (by omega) (by omega) (by omega)
                  · refine z_aload_n F 4 dX6_sure_87 rfl ?_
                    refine z_get F 0 24 iX6 rfl rfl (by decide) t3_100 rfl dX6_sure_88 ?_
                    refine z_iload F 0 dX6_sure_91 rfl ?_
                    refine z_zald F 10 rfl rfl dX6_sure_93 (by omega) (by omega) ?_
                    have r17 : 0 ≤ zv (az ((6 * r_7) + i).toNat).toNat ∧ zv (az ((6 * r_7) + i).toNat).toNat ≤ 1 := h19 _
                    refine z_if_ne F 121 dX6_sure_94 (by decide) (by omega) (fun c18 => ?_) (fun c18 => ?_)
                    · refine z_iconst F dX6_sure_121 ?_
                      refine z_istore_n F (lv' := [(3, .int (iZ 0)), (5, .int (iZ (az ((6 * r_7) + i).toNat))), (4, .int (iZ i)), (2, .int (iZ r_7)), (0, .ref o), (1, .int (iZ k))]) dX6_sure_122 (by decide) rfl ?_
                      refine z_iinc F (lv' := [(4, .int (iZ (i + 1))), (3, .int (iZ 0)), (5, .int (iZ (az ((6 * r_7) + i).toNat))), (2, .int (iZ r_7)), (0, .ref o), (1, .int (iZ k))]) 2 dX6_sure_123 rfl (by decide) rfl ?_
                      refine z_goto F 58 dX6_sure_126 (by decide) ?_
                      refine z_lv F (lv' := [(4, .int (iZ (i + 1))), (3, .int (iZ 0)), (2, .int (iZ r_7)), (0, .ref o), (1, .int (iZ k))]) [0, 1, 3, 4, 5] rfl ?_
                      exact ih58 0 (i + 1) (by omega) (by omega) (by omega)
                    · refine z_aload_n F 4 dX6_sure_97 rfl ?_
                      refine z_iload F 0 dX6_sure_98 rfl ?_
                      refine z_callV F lw_good (k_X6_latest _ D K o 0 se ea dk wt wh wc nw ru ed wa sq ar en sd wg tk cp co ki ke mn ak dg uk ud kz yz (az ((6 * r_7) + i).toNat) (by omega) h6 h7 (by omega)) t4_23 t1_6 t4_20 t4_22 (q := (RX6, TX6, 26)) ts_38 ⟨rfl, rfl⟩ ndX6_latest ⟨Nat.le_of_ble_eq_true rfl, Nat.le_of_ble_eq_true rfl⟩ 0 rfl rfl (rest := []) rfl (Nat.le_of_ble_eq_true rfl) dX6_sure_100 ⟨(show 0 + 0 ≤ 0 by omega), (show 0 + 0 ≤ 0 by omega)⟩ (wr := [aI K dk 20480 zd, aI K wt 32768 zw, aI K wh 64 zh, aI K nw 512 zn, aI K mn 608 mz, aI K ak 3648 az, aL K dg 608 fg, aZ K uk 64 zv, aL K ud 64 fv]) ([0, 5, 6] : List Nat) ([1, 2, 3, 4, 7, 8, 9, 10, 11] : List Nat) rfl rfl rfl rfl (by decide) (fun vr wo hp => ?_)
                      obtain ⟨r_19, rfl, rfl, f20⟩ := hp
                      refine z_re F (ws' := [oX6 o 0 se ea dk wt wh wc nw ru ed wa sq ar en sd wg tk cp co ki ke mn ak dg uk ud, aI K dk 20480 zd, aI K wt 32768 zw, aI K wh 64 zh, aI K nw 512 zn, aI K ki 608 kz, aI K ke 608 yz, aI K mn 608 mz, aI K ak 3648 az, aL K dg 608 fg, aZ K uk 64 zv, aL K ud 64 fv]) (st' := [.int (iZ r_19)]) ([9, 0, 1, 2, 3, 10, 11, 4, 5, 6, 7, 8] : List Nat) rfl rfl rfl ?_
                      refine z_iconst F dX6_sure_103 ?_
                      refine z_icmp_eq F 121 dX6_sure_104 (by decide) (by omega) (fun c21 => ?_) (fun c21 => ?_)
                      · refine z_iconst F dX6_sure_121 ?_
                        refine z_istore_n F (lv' := [(3, .int (iZ 0)), (5, .int (iZ (az ((6 * r_7) + i).toNat))), (4, .int (iZ i)), (2, .int (iZ r_7)), (0, .ref o), (1, .int (iZ k))]) dX6_sure_122 (by decide) rfl ?_
                        refine z_iinc F (lv' := [(4, .int (iZ (i + 1))), (3, .int (iZ 0)), (5, .int (iZ (az ((6 * r_7) + i).toNat))), (2, .int (iZ r_7)), (0, .ref o), (1, .int (iZ k))]) 2 dX6_sure_123 rfl (by decide) rfl ?_
                        refine z_goto F 58 dX6_sure_126 (by decide) ?_
                        refine z_lv F (lv' := [(4, .int (iZ (i + 1))), (3, .int (iZ 0)), (2, .int (iZ r_7)), (0, .ref o), (1, .int (iZ k))]) [0, 1, 3, 4, 5] rfl ?_
                        exact ih58 0 (i + 1) (by omega) (by omega) (by omega)
                      · refine z_aload_n F 4 dX6_sure_107 rfl ?_
                        refine z_iload F 0 dX6_sure_108 rfl ?_
                        refine z_callV F lw_good (k_X6_latest _ D K o 0 se ea dk wt wh wc nw ru ed wa sq ar en sd wg tk cp co ki ke mn ak dg uk ud kz yz (az ((6 * r_7) + i).toNat) (by omega) h6 h7 (by omega)) t4_23 t1_6 t4_20 t4_22 (q := (RX6, TX6, 26)) ts_38 ⟨rfl, rfl⟩ ndX6_latest ⟨Nat.le_of_ble_eq_true rfl, Nat.le_of_ble_eq_true rfl⟩ 0 rfl rfl (rest := []) rfl (Nat.le_of_ble_eq_true rfl) dX6_sure_110 ⟨(show 0 + 0 ≤ 0 by omega), (show 0 + 0 ≤ 0 by omega)⟩ (wr := [aI K dk 20480 zd, aI K wt 32768 zw, aI K wh 64 zh, aI K nw 512 zn, aI K mn 608 mz, aI K ak 3648 az, aL K dg 608 fg, aZ K uk 64 zv, aL K ud 64 fv]) ([0, 5, 6] : List Nat) ([1, 2, 3, 4, 7, 8, 9, 10, 11] : List Nat) rfl rfl rfl rfl (by decide) (fun vr wo hp => ?_)
                        obtain ⟨r_22, rfl, rfl, f23⟩ := hp
                        refine z_re F (ws' := [oX6 o 0 se ea dk wt wh wc nw ru ed wa sq ar en sd wg tk cp co ki ke mn ak dg uk ud, aI K dk 20480 zd, aI K wt 32768 zw, aI K wh 64 zh, aI K nw 512 zn, aI K ki 608 kz, aI K ke 608 yz, aI K mn 608 mz, aI K ak 3648 az, aL K dg 608 fg, aZ K uk 64 zv, aL K ud 64 fv]) (st' := [.int (iZ r_22)]) ([9, 0, 1, 2, 3, 10, 11, 4, 5, 6, 7, 8] : List Nat) rfl rfl rfl ?_
                        refine z_iload_n F 3 dX6_sure_113 rfl ?_
                        refine z_icmp_ge F 121 dX6_sure_114 (by decide) (by omega) (fun c24 => ?_) (fun c24 => ?_)
                        · refine z_iconst F dX6_sure_121 ?_
                          refine z_istore_n F (lv' := [(3, .int (iZ 0)), (5, .int (iZ (az ((6 * r_7) + i).toNat))), (4, .int (iZ i)), (2, .int (iZ r_7)), (0, .ref o), (1, .int (iZ k))]) dX6_sure_122 (by decide) rfl ?_
                          refine z_iinc F (lv' := [(4, .int (iZ (i + 1))), (3, .int (iZ 0)), (5, .int (iZ (az ((6 * r_7) + i).toNat))), (2, .int (iZ r_7)), (0, .ref o), (1, .int (iZ k))]) 2 dX6_sure_123 rfl (by decide) rfl ?_
                          refine z_goto F 58 dX6_sure_126 (by decide) ?_
                          refine z_lv F (lv' := [(4, .int (iZ (i + 1))), (3, .int (iZ 0)), (2, .int (iZ r_7)), (0, .ref o), (1, .int (iZ k))]) [0, 1, 3, 4, 5] rfl ?_
                          exact ih58 0 (i + 1) (by omega) (by omega) (by omega)
                        · refine z_iconst F dX6_sure_117 ?_
                          refine z_goto F 122 dX6_sure_118 (by decide) ?_
                          refine z_istore_n F (lv' := [(3, .int (iZ 1)), (5, .int (iZ (az ((6 * r_7) + i).toNat))), (4, .int (iZ i)), (2, .int (iZ r_7)), (0, .ref o), (1, .int (iZ k))]) dX6_sure_122 (by decide) rfl ?_
                          refine z_iinc F (lv' := [(4, .int (iZ (i + 1))), (3, .int (iZ 1)), (5, .int (iZ (az ((6 * r_7) + i).toNat))), (2, .int (iZ r_7)), (0, .ref o), (1, .int (iZ k))]) 2 dX6_sure_123 rfl (by decide) rfl ?_
                          refine z_goto F 58 dX6_sure_126 (by decide) ?_
                          refine z_lv F (lv' := [(4, .int (iZ (i + 1))), (3, .int (iZ 1)), (2, .int (iZ r_7)), (0, .ref o), (1, .int (iZ k))]) [0, 1, 3, 4, 5] rfl ?_
                          exact ih58 1 (i + 1) (by omega) (by omega) (by omega)
            exact lp58 ((6 - 0 : Int).toNat + 1) 1 0 (by omega) (by omega) (Nat.lt_succ_self _)
          · refine z_iconst F dX6_sure_51 ?_
            exact z_zret F hr (by decide) dX6_sure_52 (by omega) ⟨0, rfl, rfl, (by omega), (by omega)⟩
      · refine z_iconst F dX6_sure_30 ?_
        exact z_zret F hr (by decide) dX6_sure_31 (by omega) ⟨1, rfl, rfl, (by omega), (by omega)⟩
    · refine z_iconst F dX6_sure_19 ?_
      exact z_zret F hr (by decide) dX6_sure_20 (by omega) ⟨0, rfl, rfl, (by omega), (by omega)⟩
set_option maxHeartbeats 4000000 in
set_option maxRecDepth 20000 in
theorem k_X6_poke (l : Launch) (D : va_G) (K : KI) (o : Nat) (th : Int) (se : Int) (ea : Int) (dk : Nat) (wt : Nat) (wh : Nat) (wc : Int) (nw : Nat) (ru : Int) (ed : Int) (wa : Int) (sq : Int) (ar : Int) (en : Int) (sd : Int) (wg : Int) (tk : Int) (cp : Int) (co : Int) (ki : Nat) (ke : Nat) (mn : Nat) (ak : Nat) (dg : Nat) (uk : Nat) (ud : Nat) (zd : Nat → Int) (zw : Nat → Int) (zh : Nat → Int) (zn : Nat → Int) (kz : Nat → Int) (yz : Nat → Int) (mz : Nat → Int) (az : Nat → Int) (fg : Nat → Int64) (zv : Nat → Int) (fv : Nat → Int64) (pc0 : Int) (mk : Int) (h0 : 4 ≤ se ∧ se ≤ 40 ∧ 1 ≤ ea ∧ 2 * ea ≤ se - 2 ∧ se - 2 ≤ 2 * ea + 1) (h1 : 0 ≤ wc ∧ wc ≤ 64) (h2 : rng 0 255 zd) (h3 : rng 0 255 zw) (h4 : rng 0 (se-1) zh) (h5 : rng 0 255 zn) (h6 : rng 0 3 kz) (h7 : rng 0 255 yz) (h8 : rng 0 6 mz) (h9 : rng 0 255 az) (h10 : akOk mz az) (h11 : 0 ≤ en ∧ en ≤ 16 * ea) (h12 : 0 ≤ ar ∧ ar ≤ 1) (h13 : co = 0 ∨ (co = 1 ∧ 0 ≤ cp ∧ cp ≤ tk ∧ tk ≤ en)) (h14 : ru = 0 ∨ ru = 1) (h15 : ru = 0 → wc = 0 ∧ co = 0) (h16 : 0 ≤ sq ∧ sq ≤ 2100000000) (h17 : 0 ≤ sd ∧ sd ≤ 304) (h18 : 0 ≤ wg ∧ wg ≤ 304) (h19 : rng 0 1 zv) (h20 : 1 ≤ wa ∧ wa ≤ 200) (h21 : th = 0 ∨ th = 1) (h22 : -2147483648 ≤ pc0 ∧ pc0 ≤ 2147483647) (h23 : -2147483648 ≤ mk ∧ mk ≤ 2147483647) : Ct lw_T l yX6_poke cX6_poke 3 (some .int) { frames := 0, cells := 0, slots := 0, locals := 0 } 0 0 D cls5 (TY K) [.ref o, .int (iZ pc0), .int (iZ mk)] [oX6 o th se ea dk wt wh wc nw ru ed wa sq ar en sd wg tk cp co ki ke mn ak dg uk ud, aI K dk 20480 zd, aI K wt 32768 zw, aI K wh 64 zh, aI K nw 512 zn, aI K ki 608 kz, aI K ke 608 yz, aI K mn 608 mz, aI K ak 3648 az, aL K dg 608 fg, aZ K uk 64 zv, aL K ud 64 fv] (fun vr wo => ∃ (r : Int), ∃ (zd2 : Nat → Int), vr = some (.int (iZ r)) ∧ wo = [oX6 o 0 se ea dk wt wh wc nw ru ed wa sq ar en sd wg tk cp co ki ke mn ak dg uk ud, aI K dk 20480 zd2, aI K wt 32768 zw, aI K wh 64 zh, aI K nw 512 zn, aI K ki 608 kz, aI K ke 608 yz, aI K mn 608 mz, aI K ak 3648 az, aL K dg 608 fg, aZ K uk 64 zv, aL K ud 64 fv] ∧ (((0 ≤ pc0 ∧ pc0 ≤ 512 * se - 1 ∧ 1 ≤ mk ∧ mk ≤ 255) → r = 1) ∧ (¬ (0 ≤ pc0 ∧ pc0 ≤ 512 * se - 1 ∧ 1 ≤ mk ∧ mk ≤ 255) → r = -2)) ∧ (rng 0 255 zd2)) := by
  refine ct_of (own := RX6) (lv := [(0, .ref o), (1, .int (iZ pc0)), (2, .int (iZ mk))]) (by decide) rfl (Nat.le_of_ble_eq_true rfl) rfl (fun C F hr hnm hzl => ?_)
  subst hzl
  refine z_aload_n F 0 dX6_poke_0 rfl ?_
  refine z_iconst F dX6_poke_1 ?_
  refine z_put F (ws' := [oX6 o 0 se ea dk wt wh wc nw ru ed wa sq ar en sd wg tk cp co ki ke mn ak dg uk ud, aI K dk 20480 zd, aI K wt 32768 zw, aI K wh 64 zh, aI K nw 512 zn, aI K ki 608 kz, aI K ke 608 yz, aI K mn 608 mz, aI K ak 3648 az, aL K dg 608 fg, aZ K uk 64 zv, aL K ud 64 fv]) 0 0 iX6 tyX6 tyX6_ok nmX6 rfl rfl (by decide) t3_76 rfl rfl rfl rfl (Nat.le_of_ble_eq_true rfl) dX6_poke_2 rfl ?_
  refine z_iload_n F 1 dX6_poke_5 rfl ?_
  refine z_if_lt F 33 dX6_poke_6 (by decide) (by omega) (fun c1 => ?_) (fun c1 => ?_)
  · refine z_bipush F dX6_poke_33 (by decide) ?_
    exact z_iret F hr dX6_poke_35 (by omega) ⟨(-2), zd, rfl, rfl, (by omega), h2⟩
  · refine z_iload_n F 1 dX6_poke_9 rfl ?_
    refine z_sipush F dX6_poke_10 (by decide) ?_
    refine z_aload_n F 0 dX6_poke_13 rfl ?_
    refine z_get F 0 1 iX6 rfl rfl (by decide) t3_77 rfl dX6_poke_14 ?_
    refine z_imul F dX6_poke_17 ?_
    refine z_icmp_ge F 33 dX6_poke_18 (by decide) (by omega) (fun c2 => ?_) (fun c2 => ?_)
    · refine z_bipush F dX6_poke_33 (by decide) ?_
      exact z_iret F hr dX6_poke_35 (by omega) ⟨(-2), zd, rfl, rfl, (by omega), h2⟩
    · refine z_iload_n F 2 dX6_poke_21 rfl ?_
      refine z_iconst F dX6_poke_22 ?_
      refine z_icmp_lt F 33 dX6_poke_23 (by decide) (by omega) (fun c3 => ?_) (fun c3 => ?_)
      · refine z_bipush F dX6_poke_33 (by decide) ?_
        exact z_iret F hr dX6_poke_35 (by omega) ⟨(-2), zd, rfl, rfl, (by omega), h2⟩
      · refine z_iload_n F 2 dX6_poke_26 rfl ?_
        refine z_sipush F dX6_poke_27 (by decide) ?_
        refine z_icmp_le F 36 dX6_poke_30 (by decide) (by omega) (fun c4 => ?_) (fun c4 => ?_)
        · refine z_aload_n F 0 dX6_poke_36 rfl ?_
          refine z_get F 0 3 iX6 rfl rfl (by decide) t3_79 rfl dX6_poke_37 ?_
          refine z_iload_n F 1 dX6_poke_40 rfl ?_
          refine z_aload_n F 0 dX6_poke_41 rfl ?_
          refine z_get F 0 3 iX6 rfl rfl (by decide) t3_79 rfl dX6_poke_42 ?_
          refine z_iload_n F 1 dX6_poke_45 rfl ?_
          refine z_iald F 1 rfl rfl dX6_poke_46 (by omega) (by omega) ?_
          have r5 : 0 ≤ zd pc0.toNat ∧ zd pc0.toNat ≤ 255 := h2 _
          refine z_iload_n F 2 dX6_poke_47 rfl ?_
          refine z_ixor F dX6_poke_48 (fun b6 rb6 eb6 => ?_)
          have hx255 := xor255 (by omega) (by omega) rb6 eb6
          refine z_iast F (ws' := [oX6 o 0 se ea dk wt wh wc nw ru ed wa sq ar en sd wg tk cp co ki ke mn ak dg uk ud, aI K dk 20480 (zu zd pc0.toNat b6), aI K wt 32768 zw, aI K wh 64 zh, aI K nw 512 zn, aI K ki 608 kz, aI K ke 608 yz, aI K mn 608 mz, aI K ak 3648 az, aL K dg 608 fg, aZ K uk 64 zv, aL K ud 64 fv]) 1 rfl rfl dX6_poke_49 (by omega) (by omega) rfl ?_
          have r7 : rng 0 255 (zu zd pc0.toNat b6) := rng_zu h2 (by omega)
          refine z_iconst F dX6_poke_50 ?_
          exact z_iret F hr dX6_poke_51 (by omega) ⟨1, (zu zd pc0.toNat b6), rfl, rfl, (by omega), r7⟩
        · refine z_bipush F dX6_poke_33 (by decide) ?_
          exact z_iret F hr dX6_poke_35 (by omega) ⟨(-2), zd, rfl, rfl, (by omega), h2⟩
set_option maxHeartbeats 4000000 in
set_option maxRecDepth 20000 in
theorem k_X6_sector (l : Launch) (D : va_G) (K : KI) (o : Nat) (th : Int) (se : Int) (ea : Int) (dk : Nat) (wt : Nat) (wh : Nat) (wc : Int) (nw : Nat) (ru : Int) (ed : Int) (wa : Int) (sq : Int) (ar : Int) (en : Int) (sd : Int) (wg : Int) (tk : Int) (cp : Int) (co : Int) (ki : Nat) (ke : Nat) (mn : Nat) (ak : Nat) (dg : Nat) (uk : Nat) (ud : Nat) (zd : Nat → Int) (zw : Nat → Int) (zh : Nat → Int) (zn : Nat → Int) (kz : Nat → Int) (yz : Nat → Int) (mz : Nat → Int) (az : Nat → Int) (fg : Nat → Int64) (zv : Nat → Int) (fv : Nat → Int64) (n : Int) (i : Int) (h0 : 4 ≤ se ∧ se ≤ 40 ∧ 1 ≤ ea ∧ 2 * ea ≤ se - 2 ∧ se - 2 ≤ 2 * ea + 1) (h1 : 0 ≤ wc ∧ wc ≤ 64) (h2 : rng 0 255 zd) (h3 : rng 0 255 zw) (h4 : rng 0 (se-1) zh) (h5 : rng 0 255 zn) (h6 : rng 0 3 kz) (h7 : rng 0 255 yz) (h8 : rng 0 6 mz) (h9 : rng 0 255 az) (h10 : akOk mz az) (h11 : 0 ≤ en ∧ en ≤ 16 * ea) (h12 : 0 ≤ ar ∧ ar ≤ 1) (h13 : co = 0 ∨ (co = 1 ∧ 0 ≤ cp ∧ cp ≤ tk ∧ tk ≤ en)) (h14 : ru = 0 ∨ ru = 1) (h15 : ru = 0 → wc = 0 ∧ co = 0) (h16 : 0 ≤ sq ∧ sq ≤ 2100000000) (h17 : 0 ≤ sd ∧ sd ≤ 304) (h18 : 0 ≤ wg ∧ wg ≤ 304) (h19 : rng 0 1 zv) (h20 : 1 ≤ wa ∧ wa ≤ 200) (h21 : th = 0 ∨ th = 1) (h22 : -2147483648 ≤ n ∧ n ≤ 2147483647) (h23 : -2147483648 ≤ i ∧ i ≤ 2147483647) : Ct lw_T l yX6_sector cX6_sector 3 (some .byte) { frames := 0, cells := 0, slots := 0, locals := 0 } 0 0 D cls5 (TY K) [.ref o, .int (iZ n), .int (iZ i)] [oX6 o th se ea dk wt wh wc nw ru ed wa sq ar en sd wg tk cp co ki ke mn ak dg uk ud, aI K dk 20480 zd, aI K wt 32768 zw, aI K wh 64 zh, aI K nw 512 zn, aI K ki 608 kz, aI K ke 608 yz, aI K mn 608 mz, aI K ak 3648 az, aL K dg 608 fg, aZ K uk 64 zv, aL K ud 64 fv] (fun vr wo => ∃ (r : Int), ∃ (th2 : Int), vr = some (.int (iZ r)) ∧ wo = [oX6 o th2 se ea dk wt wh wc nw ru ed wa sq ar en sd wg tk cp co ki ke mn ak dg uk ud, aI K dk 20480 zd, aI K wt 32768 zw, aI K wh 64 zh, aI K nw 512 zn, aI K ki 608 kz, aI K ke 608 yz, aI K mn 608 mz, aI K ak 3648 az, aL K dg 608 fg, aZ K uk 64 zv, aL K ud 64 fv] ∧ (-128 ≤ r ∧ r ≤ 127) ∧ (((0 ≤ n ∧ n ≤ se - 1 ∧ 0 ≤ i ∧ i ≤ 511) ∧ th2 = 0) ∨ (¬ (0 ≤ n ∧ n ≤ se - 1 ∧ 0 ≤ i ∧ i ≤ 511) ∧ th2 = 1)) ∧ ((∀ j, zd j = 0) → r = 0)) := by
  refine ct_of (own := RX6) (lv := [(0, .ref o), (1, .int (iZ n)), (2, .int (iZ i))]) (by decide) rfl (Nat.le_of_ble_eq_true rfl) rfl (fun C F hr hnm hzl => ?_)
  subst hzl
  refine z_aload_n F 0 dX6_sector_0 rfl ?_
  refine z_iload_n F 1 dX6_sector_1 rfl ?_
  refine z_if_lt F 28 dX6_sector_2 (by decide) (by omega) (fun c1 => ?_) (fun c1 => ?_)
  · refine z_iconst F dX6_sector_28 ?_
    refine z_put F (ws' := [oX6 o 1 se ea dk wt wh wc nw ru ed wa sq ar en sd wg tk cp co ki ke mn ak dg uk ud, aI K dk 20480 zd, aI K wt 32768 zw, aI K wh 64 zh, aI K nw 512 zn, aI K ki 608 kz, aI K ke 608 yz, aI K mn 608 mz, aI K ak 3648 az, aL K dg 608 fg, aZ K uk 64 zv, aL K ud 64 fv]) 0 0 iX6 tyX6 tyX6_ok nmX6 rfl rfl (by decide) t3_76 rfl rfl rfl rfl (Nat.le_of_ble_eq_true rfl) dX6_sector_29 rfl ?_
    refine z_aload_n F 0 dX6_sector_32 rfl ?_
    refine z_get F 0 0 iX6 rfl rfl (by decide) t3_76 rfl dX6_sector_33 ?_
    refine z_if_le F 43 dX6_sector_36 (by decide) (by omega) (fun c2 => ?_) (fun c2 => ?_)
    · exfalso; omega
    · refine z_iconst F dX6_sector_39 ?_
      refine z_goto F 56 dX6_sector_40 (by decide) ?_
      exact z_zret F hr (narB (by first | exact bm_r _ | omega)) dX6_sector_56 (by omega) ⟨0, 1, rfl, rfl, (by first | exact bm_r _ | omega), (by omega), (by first | exact fun _ => rfl | (intro hz; rw [hz]; decide))⟩
  · refine z_iload_n F 1 dX6_sector_5 rfl ?_
    refine z_aload_n F 0 dX6_sector_6 rfl ?_
    refine z_get F 0 1 iX6 rfl rfl (by decide) t3_77 rfl dX6_sector_7 ?_
    refine z_icmp_ge F 28 dX6_sector_10 (by decide) (by omega) (fun c3 => ?_) (fun c3 => ?_)
    · refine z_iconst F dX6_sector_28 ?_
      refine z_put F (ws' := [oX6 o 1 se ea dk wt wh wc nw ru ed wa sq ar en sd wg tk cp co ki ke mn ak dg uk ud, aI K dk 20480 zd, aI K wt 32768 zw, aI K wh 64 zh, aI K nw 512 zn, aI K ki 608 kz, aI K ke 608 yz, aI K mn 608 mz, aI K ak 3648 az, aL K dg 608 fg, aZ K uk 64 zv, aL K ud 64 fv]) 0 0 iX6 tyX6 tyX6_ok nmX6 rfl rfl (by decide) t3_76 rfl rfl rfl rfl (Nat.le_of_ble_eq_true rfl) dX6_sector_29 rfl ?_
      refine z_aload_n F 0 dX6_sector_32 rfl ?_
      refine z_get F 0 0 iX6 rfl rfl (by decide) t3_76 rfl dX6_sector_33 ?_
      refine z_if_le F 43 dX6_sector_36 (by decide) (by omega) (fun c4 => ?_) (fun c4 => ?_)
      · exfalso; omega
      · refine z_iconst F dX6_sector_39 ?_
        refine z_goto F 56 dX6_sector_40 (by decide) ?_
        exact z_zret F hr (narB (by first | exact bm_r _ | omega)) dX6_sector_56 (by omega) ⟨0, 1, rfl, rfl, (by first | exact bm_r _ | omega), (by omega), (by first | exact fun _ => rfl | (intro hz; rw [hz]; decide))⟩
    · refine z_iload_n F 2 dX6_sector_13 rfl ?_
      refine z_if_lt F 28 dX6_sector_14 (by decide) (by omega) (fun c5 => ?_) (fun c5 => ?_)
      · refine z_iconst F dX6_sector_28 ?_
        refine z_put F (ws' := [oX6 o 1 se ea dk wt wh wc nw ru ed wa sq ar en sd wg tk cp co ki ke mn ak dg uk ud, aI K dk 20480 zd, aI K wt 32768 zw, aI K wh 64 zh, aI K nw 512 zn, aI K ki 608 kz, aI K ke 608 yz, aI K mn 608 mz, aI K ak 3648 az, aL K dg 608 fg, aZ K uk 64 zv, aL K ud 64 fv]) 0 0 iX6 tyX6 tyX6_ok nmX6 rfl rfl (by decide) t3_76 rfl rfl rfl rfl (Nat.le_of_ble_eq_true rfl) dX6_sector_29 rfl ?_
        refine z_aload_n F 0 dX6_sector_32 rfl ?_
        refine z_get F 0 0 iX6 rfl rfl (by decide) t3_76 rfl dX6_sector_33 ?_
        refine z_if_le F 43 dX6_sector_36 (by decide) (by omega) (fun c6 => ?_) (fun c6 => ?_)
        · exfalso; omega
        · refine z_iconst F dX6_sector_39 ?_
          refine z_goto F 56 dX6_sector_40 (by decide) ?_
          exact z_zret F hr (narB (by first | exact bm_r _ | omega)) dX6_sector_56 (by omega) ⟨0, 1, rfl, rfl, (by first | exact bm_r _ | omega), (by omega), (by first | exact fun _ => rfl | (intro hz; rw [hz]; decide))⟩
      · refine z_iload_n F 2 dX6_sector_17 rfl ?_
        refine z_sipush F dX6_sector_18 (by decide) ?_
        refine z_icmp_ge F 28 dX6_sector_21 (by decide) (by omega) (fun c7 => ?_) (fun c7 => ?_)
        · refine z_iconst F dX6_sector_28 ?_
          refine z_put F (ws' := [oX6 o 1 se ea dk wt wh wc nw ru ed wa sq ar en sd wg tk cp co ki ke mn ak dg uk ud, aI K dk 20480 zd, aI K wt 32768 zw, aI K wh 64 zh, aI K nw 512 zn, aI K ki 608 kz, aI K ke 608 yz, aI K mn 608 mz, aI K ak 3648 az, aL K dg 608 fg, aZ K uk 64 zv, aL K ud 64 fv]) 0 0 iX6 tyX6 tyX6_ok nmX6 rfl rfl (by decide) t3_76 rfl rfl rfl rfl (Nat.le_of_ble_eq_true rfl) dX6_sector_29 rfl ?_
          refine z_aload_n F 0 dX6_sector_32 rfl ?_
          refine z_get F 0 0 iX6 rfl rfl (by decide) t3_76 rfl dX6_sector_33 ?_
          refine z_if_le F 43 dX6_sector_36 (by decide) (by omega) (fun c8 => ?_) (fun c8 => ?_)
          · exfalso; omega
          · refine z_iconst F dX6_sector_39 ?_
            refine z_goto F 56 dX6_sector_40 (by decide) ?_
            exact z_zret F hr (narB (by first | exact bm_r _ | omega)) dX6_sector_56 (by omega) ⟨0, 1, rfl, rfl, (by first | exact bm_r _ | omega), (by omega), (by first | exact fun _ => rfl | (intro hz; rw [hz]; decide))⟩
        · refine z_iconst F dX6_sector_24 ?_
          refine z_goto F 29 dX6_sector_25 (by decide) ?_
          refine z_put F (ws' := [oX6 o 0 se ea dk wt wh wc nw ru ed wa sq ar en sd wg tk cp co ki ke mn ak dg uk ud, aI K dk 20480 zd, aI K wt 32768 zw, aI K wh 64 zh, aI K nw 512 zn, aI K ki 608 kz, aI K ke 608 yz, aI K mn 608 mz, aI K ak 3648 az, aL K dg 608 fg, aZ K uk 64 zv, aL K ud 64 fv]) 0 0 iX6 tyX6 tyX6_ok nmX6 rfl rfl (by decide) t3_76 rfl rfl rfl rfl (Nat.le_of_ble_eq_true rfl) dX6_sector_29 rfl ?_
          refine z_aload_n F 0 dX6_sector_32 rfl ?_
          refine z_get F 0 0 iX6 rfl rfl (by decide) t3_76 rfl dX6_sector_33 ?_
          refine z_if_le F 43 dX6_sector_36 (by decide) (by omega) (fun c9 => ?_) (fun c9 => ?_)
          · refine z_aload_n F 0 dX6_sector_43 rfl ?_
            refine z_get F 0 3 iX6 rfl rfl (by decide) t3_79 rfl dX6_sector_44 ?_
            refine z_sipush F dX6_sector_47 (by decide) ?_
            refine z_iload_n F 1 dX6_sector_50 rfl ?_
            refine z_imul F dX6_sector_51 ?_
            refine z_iload_n F 2 dX6_sector_52 rfl ?_
            refine z_iadd F dX6_sector_53 ?_
            refine z_iald F 1 rfl rfl dX6_sector_54 (by omega) (by omega) ?_
            have r10 : 0 ≤ zd ((512 * n) + i).toNat ∧ zd ((512 * n) + i).toNat ≤ 255 := h2 _
            refine z_i2b F dX6_sector_55 ?_
            exact z_zret F hr (narB (by first | exact bm_r _ | omega)) dX6_sector_56 (by omega) ⟨((zd ((512 * n) + i).toNat).bmod 256), 0, rfl, rfl, (by first | exact bm_r _ | omega), (by omega), (by first | exact fun _ => rfl | (intro hz; rw [hz]; decide))⟩
          · exfalso; omega
set_option maxHeartbeats 4000000 in
set_option maxRecDepth 20000 in
theorem k_X6_wrong (l : Launch) (D : va_G) (K : KI) (o : Nat) (th : Int) (se : Int) (ea : Int) (dk : Nat) (wt : Nat) (wh : Nat) (wc : Int) (nw : Nat) (ru : Int) (ed : Int) (wa : Int) (sq : Int) (ar : Int) (en : Int) (sd : Int) (wg : Int) (tk : Int) (cp : Int) (co : Int) (ki : Nat) (ke : Nat) (mn : Nat) (ak : Nat) (dg : Nat) (uk : Nat) (ud : Nat) (zd : Nat → Int) (zw : Nat → Int) (zh : Nat → Int) (zn : Nat → Int) (kz : Nat → Int) (yz : Nat → Int) (mz : Nat → Int) (az : Nat → Int) (fg : Nat → Int64) (zv : Nat → Int) (fv : Nat → Int64) (h0 : 4 ≤ se ∧ se ≤ 40 ∧ 1 ≤ ea ∧ 2 * ea ≤ se - 2 ∧ se - 2 ≤ 2 * ea + 1) (h1 : 0 ≤ wc ∧ wc ≤ 64) (h2 : rng 0 255 zd) (h3 : rng 0 255 zw) (h4 : rng 0 (se-1) zh) (h5 : rng 0 255 zn) (h6 : rng 0 3 kz) (h7 : rng 0 255 yz) (h8 : rng 0 6 mz) (h9 : rng 0 255 az) (h10 : akOk mz az) (h11 : 0 ≤ en ∧ en ≤ 16 * ea) (h12 : 0 ≤ ar ∧ ar ≤ 1) (h13 : co = 0 ∨ (co = 1 ∧ 0 ≤ cp ∧ cp ≤ tk ∧ tk ≤ en)) (h14 : ru = 0 ∨ ru = 1) (h15 : ru = 0 → wc = 0 ∧ co = 0) (h16 : 0 ≤ sq ∧ sq ≤ 2100000000) (h17 : 0 ≤ sd ∧ sd ≤ 304) (h18 : 0 ≤ wg ∧ wg ≤ 304) (h19 : rng 0 1 zv) (h20 : 1 ≤ wa ∧ wa ≤ 200) (h21 : th = 0 ∨ th = 1) : Ct lw_T l yX6_wrong cX6_wrong 1 (some .int) { frames := 0, cells := 0, slots := 0, locals := 0 } 0 0 D cls5 (TY K) [.ref o] [oX6 o th se ea dk wt wh wc nw ru ed wa sq ar en sd wg tk cp co ki ke mn ak dg uk ud, aI K dk 20480 zd, aI K wt 32768 zw, aI K wh 64 zh, aI K nw 512 zn, aI K ki 608 kz, aI K ke 608 yz, aI K mn 608 mz, aI K ak 3648 az, aL K dg 608 fg, aZ K uk 64 zv, aL K ud 64 fv] (fun vr wo => vr = some (.int (iZ wg)) ∧ wo = [oX6 o 0 se ea dk wt wh wc nw ru ed wa sq ar en sd wg tk cp co ki ke mn ak dg uk ud, aI K dk 20480 zd, aI K wt 32768 zw, aI K wh 64 zh, aI K nw 512 zn, aI K ki 608 kz, aI K ke 608 yz, aI K mn 608 mz, aI K ak 3648 az, aL K dg 608 fg, aZ K uk 64 zv, aL K ud 64 fv]) := by
  refine ct_of (own := RX6) (lv := [(0, .ref o)]) (by decide) rfl (Nat.le_of_ble_eq_true rfl) rfl (fun C F hr hnm hzl => ?_)
  subst hzl
  refine z_aload_n F 0 dX6_wrong_0 rfl ?_
  refine z_iconst F dX6_wrong_1 ?_
  refine z_put F (ws' := [oX6 o 0 se ea dk wt wh wc nw ru ed wa sq ar en sd wg tk cp co ki ke mn ak dg uk ud, aI K dk 20480 zd, aI K wt 32768 zw, aI K wh 64 zh, aI K nw 512 zn, aI K ki 608 kz, aI K ke 608 yz, aI K mn 608 mz, aI K ak 3648 az, aL K dg 608 fg, aZ K uk 64 zv, aL K ud 64 fv]) 0 0 iX6 tyX6 tyX6_ok nmX6 rfl rfl (by decide) t3_76 rfl rfl rfl rfl (Nat.le_of_ble_eq_true rfl) dX6_wrong_2 rfl ?_
  refine z_aload_n F 0 dX6_wrong_5 rfl ?_
  refine z_get F 0 15 iX6 rfl rfl (by decide) t3_91 rfl dX6_wrong_6 ?_
  exact z_iret F hr dX6_wrong_9 (by omega) ⟨rfl, rfl⟩
set_option maxHeartbeats 4000000 in
set_option maxRecDepth 20000 in
theorem k_X6_lock (l : Launch) (D : va_G) (K : KI) (o : Nat) (th : Int) (se : Int) (ea : Int) (dk : Nat) (wt : Nat) (wh : Nat) (wc : Int) (nw : Nat) (ru : Int) (ed : Int) (wa : Int) (sq : Int) (ar : Int) (en : Int) (sd : Int) (wg : Int) (tk : Int) (cp : Int) (co : Int) (ki : Nat) (ke : Nat) (mn : Nat) (ak : Nat) (dg : Nat) (uk : Nat) (ud : Nat) (zd : Nat → Int) (zw : Nat → Int) (zh : Nat → Int) (zn : Nat → Int) (kz : Nat → Int) (yz : Nat → Int) (mz : Nat → Int) (az : Nat → Int) (fg : Nat → Int64) (zv : Nat → Int) (fv : Nat → Int64) (k : Int) (h0 : 4 ≤ se ∧ se ≤ 40 ∧ 1 ≤ ea ∧ 2 * ea ≤ se - 2 ∧ se - 2 ≤ 2 * ea + 1) (h1 : 0 ≤ wc ∧ wc ≤ 64) (h2 : rng 0 255 zd) (h3 : rng 0 255 zw) (h4 : rng 0 (se-1) zh) (h5 : rng 0 255 zn) (h6 : rng 0 3 kz) (h7 : rng 0 255 yz) (h8 : rng 0 6 mz) (h9 : rng 0 255 az) (h10 : akOk mz az) (h11 : 0 ≤ en ∧ en ≤ 16 * ea) (h12 : 0 ≤ ar ∧ ar ≤ 1) (h13 : co = 0 ∨ (co = 1 ∧ 0 ≤ cp ∧ cp ≤ tk ∧ tk ≤ en)) (h14 : ru = 0 ∨ ru = 1) (h15 : ru = 0 → wc = 0 ∧ co = 0) (h16 : 0 ≤ sq ∧ sq ≤ 2100000000) (h17 : 0 ≤ sd ∧ sd ≤ 304) (h18 : 0 ≤ wg ∧ wg ≤ 304) (h19 : rng 0 1 zv) (h20 : 1 ≤ wa ∧ wa ≤ 200) (h21 : th = 0 ∨ th = 1) (h22 : -2147483648 ≤ k ∧ k ≤ 2147483647) : Ct lw_T l yX6_lock cX6_lock 3 (some .int) { frames := 5, cells := 0, slots := 0, locals := 115 } 0 0 D cls5 (TY K) [.ref o, .int (iZ k)] [oX6 o th se ea dk wt wh wc nw ru ed wa sq ar en sd wg tk cp co ki ke mn ak dg uk ud, aI K dk 20480 zd, aI K wt 32768 zw, aI K wh 64 zh, aI K nw 512 zn, aI K ki 608 kz, aI K ke 608 yz, aI K mn 608 mz, aI K ak 3648 az, aL K dg 608 fg, aZ K uk 64 zv, aL K ud 64 fv] (fun vr wo => ∃ (r : Int), ∃ (en2 : Int), ∃ (wc2 : Int), ∃ (zd2 : Nat → Int), ∃ (zw2 : Nat → Int), ∃ (zh2 : Nat → Int), ∃ (zn2 : Nat → Int), ∃ (kz2 : Nat → Int), ∃ (yz2 : Nat → Int), ∃ (mz2 : Nat → Int), ∃ (fg2 : Nat → Int64), vr = some (.int (iZ r)) ∧ wo = [oX6 o 0 se ea dk wt wh wc2 nw ru ed wa sq ar en2 sd wg tk cp co ki ke mn ak dg uk ud, aI K dk 20480 zd2, aI K wt 32768 zw2, aI K wh 64 zh2, aI K nw 512 zn2, aI K ki 608 kz2, aI K ke 608 yz2, aI K mn 608 mz2, aI K ak 3648 az, aL K dg 608 fg2, aZ K uk 64 zv, aL K ud 64 fv] ∧ (-4 ≤ r ∧ r ≤ 1) ∧ (ru = 0 → ((0 ≤ k ∧ k ≤ 7 → r = -3) ∧ (¬ (0 ≤ k ∧ k ≤ 7) → r = -2))) ∧ (en ≤ en2) ∧ (0 ≤ en2 ∧ en2 ≤ 16 * ea) ∧ (0 ≤ wc2 ∧ wc2 ≤ 64) ∧ (rng 0 255 zd2) ∧ (rng 0 255 zw2) ∧ (rng 0 (se-1) zh2) ∧ (rng 0 255 zn2) ∧ (rng 0 3 kz2) ∧ (rng 0 255 yz2) ∧ (rng 0 6 mz2) ∧ (akOk mz2 az) ∧ (ru = 0 → wc2 = 0)) := by
  refine ct_of (own := RX6) (lv := [(0, .ref o), (1, .int (iZ k))]) (by decide) rfl (Nat.le_of_ble_eq_true rfl) rfl (fun C F hr hnm hzl => ?_)
  subst hzl
  refine z_aload_n F 0 dX6_lock_0 rfl ?_
  refine z_iconst F dX6_lock_1 ?_
  refine z_put F (ws' := [oX6 o 0 se ea dk wt wh wc nw ru ed wa sq ar en sd wg tk cp co ki ke mn ak dg uk ud, aI K dk 20480 zd, aI K wt 32768 zw, aI K wh 64 zh, aI K nw 512 zn, aI K ki 608 kz, aI K ke 608 yz, aI K mn 608 mz, aI K ak 3648 az, aL K dg 608 fg, aZ K uk 64 zv, aL K ud 64 fv]) 0 0 iX6 tyX6 tyX6_ok nmX6 rfl rfl (by decide) t3_76 rfl rfl rfl rfl (Nat.le_of_ble_eq_true rfl) dX6_lock_2 rfl ?_
  refine z_iload_n F 1 dX6_lock_5 rfl ?_
  refine z_callS F lw_good (k_X6_isUser _ D K k h22) t3_217 t1_6 t3_215 t3_216 ⟨rfl, rfl⟩ ndX6_isUser ⟨Nat.le_of_ble_eq_true rfl, Nat.le_of_ble_eq_true rfl⟩ (rest := []) rfl (Nat.le_of_ble_eq_true rfl) dX6_lock_6 ⟨(show 0 + 0 ≤ 0 by omega), (show 0 + 0 ≤ 0 by omega)⟩ (wr := [oX6 o 0 se ea dk wt wh wc nw ru ed wa sq ar en sd wg tk cp co ki ke mn ak dg uk ud, aI K dk 20480 zd, aI K wt 32768 zw, aI K wh 64 zh, aI K nw 512 zn, aI K ki 608 kz, aI K ke 608 yz, aI K mn 608 mz, aI K ak 3648 az, aL K dg 608 fg, aZ K uk 64 zv, aL K ud 64 fv]) ([] : List Nat) ([0, 1, 2, 3, 4, 5, 6, 7, 8, 9, 10, 11] : List Nat) rfl rfl rfl rfl (by decide) (fun vr wo hp => ?_)
  obtain ⟨r_1, rfl, rfl, f2⟩ := hp
  refine z_re F (ws' := [oX6 o 0 se ea dk wt wh wc nw ru ed wa sq ar en sd wg tk cp co ki ke mn ak dg uk ud, aI K dk 20480 zd, aI K wt 32768 zw, aI K wh 64 zh, aI K nw 512 zn, aI K ki 608 kz, aI K ke 608 yz, aI K mn 608 mz, aI K ak 3648 az, aL K dg 608 fg, aZ K uk 64 zv, aL K ud 64 fv]) (st' := [.int (iZ r_1)]) ([0, 1, 2, 3, 4, 5, 6, 7, 8, 9, 10, 11] : List Nat) rfl rfl rfl ?_
  refine z_if_ne F 15 dX6_lock_9 (by decide) (by omega) (fun c3 => ?_) (fun c3 => ?_)
  · refine z_aload_n F 0 dX6_lock_15 rfl ?_
    refine z_get F 0 8 iX6 rfl rfl (by decide) t3_84 rfl dX6_lock_16 ?_
    refine z_if_ne F 25 dX6_lock_19 (by decide) (by omega) (fun c4 => ?_) (fun c4 => ?_)
    · refine z_aload_n F 0 dX6_lock_25 rfl ?_
      refine z_callV F lw_good (k_X6_holder _ D K o 0 se ea dk wt wh wc nw ru ed wa sq ar en sd wg tk cp co ki ke mn ak dg uk ud kz yz (by omega) h6 h7) t4_71 t1_6 t4_68 t4_70 (q := (RX6, TX6, 26)) ts_42 ⟨rfl, rfl⟩ ndX6_holder ⟨Nat.le_of_ble_eq_true rfl, Nat.le_of_ble_eq_true rfl⟩ 0 rfl rfl (rest := []) rfl (Nat.le_of_ble_eq_true rfl) dX6_lock_26 ⟨(show 0 + 0 ≤ 0 by omega), (show 0 + 0 ≤ 0 by omega)⟩ (wr := [aI K dk 20480 zd, aI K wt 32768 zw, aI K wh 64 zh, aI K nw 512 zn, aI K mn 608 mz, aI K ak 3648 az, aL K dg 608 fg, aZ K uk 64 zv, aL K ud 64 fv]) ([0, 5, 6] : List Nat) ([1, 2, 3, 4, 7, 8, 9, 10, 11] : List Nat) rfl rfl rfl rfl (by decide) (fun vr wo hp => ?_)
      obtain ⟨r_5, rfl, rfl, f6⟩ := hp
      refine z_re F (ws' := [oX6 o 0 se ea dk wt wh wc nw ru ed wa sq ar en sd wg tk cp co ki ke mn ak dg uk ud, aI K dk 20480 zd, aI K wt 32768 zw, aI K wh 64 zh, aI K nw 512 zn, aI K ki 608 kz, aI K ke 608 yz, aI K mn 608 mz, aI K ak 3648 az, aL K dg 608 fg, aZ K uk 64 zv, aL K ud 64 fv]) (st' := [.int (iZ r_5)]) ([9, 0, 1, 2, 3, 10, 11, 4, 5, 6, 7, 8] : List Nat) rfl rfl rfl ?_
      refine z_istore_n F (lv' := [(2, .int (iZ r_5)), (0, .ref o), (1, .int (iZ k))]) dX6_lock_29 (by decide) rfl ?_
      refine z_iload_n F 0 dX6_lock_30 rfl ?_
      refine z_iconst F dX6_lock_31 ?_
      refine z_icmp_eq F 46 dX6_lock_32 (by decide) (by omega) (fun c7 => ?_) (fun c7 => ?_)
      · refine z_aload_n F 1 dX6_lock_46 rfl ?_
        refine z_iconst F dX6_lock_47 ?_
        refine z_iload_n F 2 dX6_lock_48 rfl ?_
        refine z_lconst F (v := 0) dX6_lock_49 (by decide) ?_
        refine z_callV F lw_good (k_X6_keep _ D K o 0 se ea dk wt wh wc nw ru ed wa sq ar en sd wg tk cp co ki ke mn ak dg uk ud zd zw zh zn kz yz mz az fg 2 k 0 h0 h1 h2 h3 h4 h5 h6 h7 h8 h9 h10 h11 h12 (by omega)) t3_239 t1_6 t3_236 t3_238 (q := (RX6, TX6, 26)) ts_35 ⟨rfl, rfl⟩ ndX6_keep ⟨Nat.le_of_ble_eq_true rfl, Nat.le_of_ble_eq_true rfl⟩ 0 rfl rfl (rest := []) rfl (Nat.le_of_ble_eq_true rfl) dX6_lock_50 ⟨(show 0 + 0 ≤ 0 by omega), (show 0 + 0 ≤ 0 by omega)⟩ (wr := [aZ K uk 64 zv, aL K ud 64 fv]) ([0, 1, 2, 3, 4, 5, 6, 7, 8, 9] : List Nat) ([10, 11] : List Nat) rfl rfl rfl rfl (by decide) (fun vr wo hp => ?_)
        obtain ⟨r_8, en2_9, wc2_10, zd2_11, zw2_12, zh2_13, zn2_14, kz2_15, yz2_16, mz2_17, fg2_18, rfl, rfl, f19, f20, f21, f22, f23, f24, f25, f26, f27, f28, f29, f30⟩ := hp
        refine z_re F (ws' := [oX6 o 0 se ea dk wt wh wc2_10 nw ru ed wa sq ar en2_9 sd wg tk cp co ki ke mn ak dg uk ud, aI K dk 20480 zd2_11, aI K wt 32768 zw2_12, aI K wh 64 zh2_13, aI K nw 512 zn2_14, aI K ki 608 kz2_15, aI K ke 608 yz2_16, aI K mn 608 mz2_17, aI K ak 3648 az, aL K dg 608 fg2_18, aZ K uk 64 zv, aL K ud 64 fv]) (st' := [.int (iZ r_8)]) ([2, 3, 4, 5, 6, 7, 8, 9, 10, 11, 0, 1] : List Nat) rfl rfl rfl ?_
        refine z_if_ge F 61 dX6_lock_53 (by decide) (by omega) (fun c31 => ?_) (fun c31 => ?_)
        · refine z_iconst F dX6_lock_61 ?_
          exact z_iret F hr dX6_lock_62 (by omega) ⟨1, en2_9, wc2_10, zd2_11, zw2_12, zh2_13, zn2_14, kz2_15, yz2_16, mz2_17, fg2_18, rfl, rfl, (by omega), (by omega), f20, f21, f22, f23, f24, f25, f26, f27, f28, f29, f30, (by omega)⟩
        · refine z_bipush F dX6_lock_56 (by decide) ?_
          refine z_goto F 62 dX6_lock_58 (by decide) ?_
          exact z_iret F hr dX6_lock_62 (by omega) ⟨(-4), en2_9, wc2_10, zd2_11, zw2_12, zh2_13, zn2_14, kz2_15, yz2_16, mz2_17, fg2_18, rfl, rfl, (by omega), (by omega), f20, f21, f22, f23, f24, f25, f26, f27, f28, f29, f30, (by omega)⟩
      · refine z_iload_n F 0 dX6_lock_35 rfl ?_
        refine z_iload_n F 2 dX6_lock_36 rfl ?_
        refine z_icmp_ne F 44 dX6_lock_37 (by decide) (by omega) (fun c32 => ?_) (fun c32 => ?_)
        · refine z_iconst F dX6_lock_44 ?_
          exact z_iret F hr dX6_lock_45 (by omega) ⟨0, en, wc, zd, zw, zh, zn, kz, yz, mz, fg, rfl, rfl, (by omega), (by omega), (by omega), h11, h1, h2, h3, h4, h5, h6, h7, h8, h10, (by omega)⟩
        · refine z_iconst F dX6_lock_40 ?_
          refine z_goto F 45 dX6_lock_41 (by decide) ?_
          exact z_iret F hr dX6_lock_45 (by omega) ⟨1, en, wc, zd, zw, zh, zn, kz, yz, mz, fg, rfl, rfl, (by omega), (by omega), (by omega), h11, h1, h2, h3, h4, h5, h6, h7, h8, h10, (by omega)⟩
    · refine z_bipush F dX6_lock_22 (by decide) ?_
      exact z_iret F hr dX6_lock_24 (by omega) ⟨(-3), en, wc, zd, zw, zh, zn, kz, yz, mz, fg, rfl, rfl, (by omega), (by omega), (by omega), h11, h1, h2, h3, h4, h5, h6, h7, h8, h10, (by omega)⟩
  · refine z_bipush F dX6_lock_12 (by decide) ?_
    exact z_iret F hr dX6_lock_14 (by omega) ⟨(-2), en, wc, zd, zw, zh, zn, kz, yz, mz, fg, rfl, rfl, (by omega), (by omega), (by omega), h11, h1, h2, h3, h4, h5, h6, h7, h8, h10, (by omega)⟩
set_option maxHeartbeats 4000000 in
set_option maxRecDepth 20000 in
theorem k_X6_dead (l : Launch) (D : va_G) (K : KI) (o : Nat) (th : Int) (se : Int) (ea : Int) (dk : Nat) (wt : Nat) (wh : Nat) (wc : Int) (nw : Nat) (ru : Int) (ed : Int) (wa : Int) (sq : Int) (ar : Int) (en : Int) (sd : Int) (wg : Int) (tk : Int) (cp : Int) (co : Int) (ki : Nat) (ke : Nat) (mn : Nat) (ak : Nat) (dg : Nat) (uk : Nat) (ud : Nat) (zd : Nat → Int) (zw : Nat → Int) (zh : Nat → Int) (zn : Nat → Int) (kz : Nat → Int) (yz : Nat → Int) (mz : Nat → Int) (az : Nat → Int) (fg : Nat → Int64) (zv : Nat → Int) (fv : Nat → Int64) (k : Int) (h0 : 4 ≤ se ∧ se ≤ 40 ∧ 1 ≤ ea ∧ 2 * ea ≤ se - 2 ∧ se - 2 ≤ 2 * ea + 1) (h1 : 0 ≤ wc ∧ wc ≤ 64) (h2 : rng 0 255 zd) (h3 : rng 0 255 zw) (h4 : rng 0 (se-1) zh) (h5 : rng 0 255 zn) (h6 : rng 0 3 kz) (h7 : rng 0 255 yz) (h8 : rng 0 6 mz) (h9 : rng 0 255 az) (h10 : akOk mz az) (h11 : 0 ≤ en ∧ en ≤ 16 * ea) (h12 : 0 ≤ ar ∧ ar ≤ 1) (h13 : co = 0 ∨ (co = 1 ∧ 0 ≤ cp ∧ cp ≤ tk ∧ tk ≤ en)) (h14 : ru = 0 ∨ ru = 1) (h15 : ru = 0 → wc = 0 ∧ co = 0) (h16 : 0 ≤ sq ∧ sq ≤ 2100000000) (h17 : 0 ≤ sd ∧ sd ≤ 304) (h18 : 0 ≤ wg ∧ wg ≤ 304) (h19 : rng 0 1 zv) (h20 : 1 ≤ wa ∧ wa ≤ 200) (h21 : th = 0 ∨ th = 1) (h22 : -2147483648 ≤ k ∧ k ≤ 2147483647) : Ct lw_T l yX6_dead cX6_dead 2 (some .int) { frames := 5, cells := 0, slots := 0, locals := 115 } 0 0 D cls5 (TY K) [.ref o, .int (iZ k)] [oX6 o th se ea dk wt wh wc nw ru ed wa sq ar en sd wg tk cp co ki ke mn ak dg uk ud, aI K dk 20480 zd, aI K wt 32768 zw, aI K wh 64 zh, aI K nw 512 zn, aI K ki 608 kz, aI K ke 608 yz, aI K mn 608 mz, aI K ak 3648 az, aL K dg 608 fg, aZ K uk 64 zv, aL K ud 64 fv] (fun vr wo => ∃ (r : Int), ∃ (en2 : Int), ∃ (wc2 : Int), ∃ (zd2 : Nat → Int), ∃ (zw2 : Nat → Int), ∃ (zh2 : Nat → Int), ∃ (zn2 : Nat → Int), ∃ (kz2 : Nat → Int), ∃ (yz2 : Nat → Int), ∃ (mz2 : Nat → Int), ∃ (fg2 : Nat → Int64), vr = some (.int (iZ r)) ∧ wo = [oX6 o 0 se ea dk wt wh wc2 nw ru ed wa sq ar en2 sd wg tk cp co ki ke mn ak dg uk ud, aI K dk 20480 zd2, aI K wt 32768 zw2, aI K wh 64 zh2, aI K nw 512 zn2, aI K ki 608 kz2, aI K ke 608 yz2, aI K mn 608 mz2, aI K ak 3648 az, aL K dg 608 fg2, aZ K uk 64 zv, aL K ud 64 fv] ∧ (-4 ≤ r ∧ r ≤ 1) ∧ (ru = 0 → ((0 ≤ k ∧ k ≤ 7 → r = -3) ∧ (¬ (0 ≤ k ∧ k ≤ 7) → r = -2))) ∧ (en ≤ en2) ∧ (0 ≤ en2 ∧ en2 ≤ 16 * ea) ∧ (0 ≤ wc2 ∧ wc2 ≤ 64) ∧ (rng 0 255 zd2) ∧ (rng 0 255 zw2) ∧ (rng 0 (se-1) zh2) ∧ (rng 0 255 zn2) ∧ (rng 0 3 kz2) ∧ (rng 0 255 yz2) ∧ (rng 0 6 mz2) ∧ (akOk mz2 az) ∧ (ru = 0 → wc2 = 0)) := by
  refine ct_of (own := RX6) (lv := [(0, .ref o), (1, .int (iZ k))]) (by decide) rfl (Nat.le_of_ble_eq_true rfl) rfl (fun C F hr hnm hzl => ?_)
  subst hzl
  refine z_aload_n F 0 dX6_dead_0 rfl ?_
  refine z_iconst F dX6_dead_1 ?_
  refine z_put F (ws' := [oX6 o 0 se ea dk wt wh wc nw ru ed wa sq ar en sd wg tk cp co ki ke mn ak dg uk ud, aI K dk 20480 zd, aI K wt 32768 zw, aI K wh 64 zh, aI K nw 512 zn, aI K ki 608 kz, aI K ke 608 yz, aI K mn 608 mz, aI K ak 3648 az, aL K dg 608 fg, aZ K uk 64 zv, aL K ud 64 fv]) 0 0 iX6 tyX6 tyX6_ok nmX6 rfl rfl (by decide) t3_76 rfl rfl rfl rfl (Nat.le_of_ble_eq_true rfl) dX6_dead_2 rfl ?_
  refine z_iload_n F 1 dX6_dead_5 rfl ?_
  refine z_callS F lw_good (k_X6_isUser _ D K k h22) t3_217 t1_6 t3_215 t3_216 ⟨rfl, rfl⟩ ndX6_isUser ⟨Nat.le_of_ble_eq_true rfl, Nat.le_of_ble_eq_true rfl⟩ (rest := []) rfl (Nat.le_of_ble_eq_true rfl) dX6_dead_6 ⟨(show 0 + 0 ≤ 0 by omega), (show 0 + 0 ≤ 0 by omega)⟩ (wr := [oX6 o 0 se ea dk wt wh wc nw ru ed wa sq ar en sd wg tk cp co ki ke mn ak dg uk ud, aI K dk 20480 zd, aI K wt 32768 zw, aI K wh 64 zh, aI K nw 512 zn, aI K ki 608 kz, aI K ke 608 yz, aI K mn 608 mz, aI K ak 3648 az, aL K dg 608 fg, aZ K uk 64 zv, aL K ud 64 fv]) ([] : List Nat) ([0, 1, 2, 3, 4, 5, 6, 7, 8, 9, 10, 11] : List Nat) rfl rfl rfl rfl (by decide) (fun vr wo hp => ?_)
  obtain ⟨r_1, rfl, rfl, f2⟩ := hp
  refine z_re F (ws' := [oX6 o 0 se ea dk wt wh wc nw ru ed wa sq ar en sd wg tk cp co ki ke mn ak dg uk ud, aI K dk 20480 zd, aI K wt 32768 zw, aI K wh 64 zh, aI K nw 512 zn, aI K ki 608 kz, aI K ke 608 yz, aI K mn 608 mz, aI K ak 3648 az, aL K dg 608 fg, aZ K uk 64 zv, aL K ud 64 fv]) (st' := [.int (iZ r_1)]) ([0, 1, 2, 3, 4, 5, 6, 7, 8, 9, 10, 11] : List Nat) rfl rfl rfl ?_
  refine z_if_ne F 15 dX6_dead_9 (by decide) (by omega) (fun c3 => ?_) (fun c3 => ?_)
  · refine z_aload_n F 0 dX6_dead_15 rfl ?_
    refine z_get F 0 8 iX6 rfl rfl (by decide) t3_84 rfl dX6_dead_16 ?_
    refine z_if_ne F 25 dX6_dead_19 (by decide) (by omega) (fun c4 => ?_) (fun c4 => ?_)
    · refine z_aload_n F 0 dX6_dead_25 rfl ?_
      refine z_callV F lw_good (k_X6_holder _ D K o 0 se ea dk wt wh wc nw ru ed wa sq ar en sd wg tk cp co ki ke mn ak dg uk ud kz yz (by omega) h6 h7) t4_71 t1_6 t4_68 t4_70 (q := (RX6, TX6, 26)) ts_42 ⟨rfl, rfl⟩ ndX6_holder ⟨Nat.le_of_ble_eq_true rfl, Nat.le_of_ble_eq_true rfl⟩ 0 rfl rfl (rest := []) rfl (Nat.le_of_ble_eq_true rfl) dX6_dead_26 ⟨(show 0 + 0 ≤ 0 by omega), (show 0 + 0 ≤ 0 by omega)⟩ (wr := [aI K dk 20480 zd, aI K wt 32768 zw, aI K wh 64 zh, aI K nw 512 zn, aI K mn 608 mz, aI K ak 3648 az, aL K dg 608 fg, aZ K uk 64 zv, aL K ud 64 fv]) ([0, 5, 6] : List Nat) ([1, 2, 3, 4, 7, 8, 9, 10, 11] : List Nat) rfl rfl rfl rfl (by decide) (fun vr wo hp => ?_)
      obtain ⟨r_5, rfl, rfl, f6⟩ := hp
      refine z_re F (ws' := [oX6 o 0 se ea dk wt wh wc nw ru ed wa sq ar en sd wg tk cp co ki ke mn ak dg uk ud, aI K dk 20480 zd, aI K wt 32768 zw, aI K wh 64 zh, aI K nw 512 zn, aI K ki 608 kz, aI K ke 608 yz, aI K mn 608 mz, aI K ak 3648 az, aL K dg 608 fg, aZ K uk 64 zv, aL K ud 64 fv]) (st' := [.int (iZ r_5)]) ([9, 0, 1, 2, 3, 10, 11, 4, 5, 6, 7, 8] : List Nat) rfl rfl rfl ?_
      refine z_iload_n F 1 dX6_dead_29 rfl ?_
      refine z_icmp_eq F 35 dX6_dead_30 (by decide) (by omega) (fun c7 => ?_) (fun c7 => ?_)
      · refine z_aload_n F 0 dX6_dead_35 rfl ?_
        refine z_iconst F dX6_dead_36 ?_
        refine z_iload_n F 1 dX6_dead_37 rfl ?_
        refine z_lconst F (v := 0) dX6_dead_38 (by decide) ?_
        refine z_callV F lw_good (k_X6_keep _ D K o 0 se ea dk wt wh wc nw ru ed wa sq ar en sd wg tk cp co ki ke mn ak dg uk ud zd zw zh zn kz yz mz az fg 3 k 0 h0 h1 h2 h3 h4 h5 h6 h7 h8 h9 h10 h11 h12 (by omega)) t3_239 t1_6 t3_236 t3_238 (q := (RX6, TX6, 26)) ts_35 ⟨rfl, rfl⟩ ndX6_keep ⟨Nat.le_of_ble_eq_true rfl, Nat.le_of_ble_eq_true rfl⟩ 0 rfl rfl (rest := []) rfl (Nat.le_of_ble_eq_true rfl) dX6_dead_39 ⟨(show 0 + 0 ≤ 0 by omega), (show 0 + 0 ≤ 0 by omega)⟩ (wr := [aZ K uk 64 zv, aL K ud 64 fv]) ([0, 1, 2, 3, 4, 5, 6, 7, 8, 9] : List Nat) ([10, 11] : List Nat) rfl rfl rfl rfl (by decide) (fun vr wo hp => ?_)
        obtain ⟨r_8, en2_9, wc2_10, zd2_11, zw2_12, zh2_13, zn2_14, kz2_15, yz2_16, mz2_17, fg2_18, rfl, rfl, f19, f20, f21, f22, f23, f24, f25, f26, f27, f28, f29, f30⟩ := hp
        refine z_re F (ws' := [oX6 o 0 se ea dk wt wh wc2_10 nw ru ed wa sq ar en2_9 sd wg tk cp co ki ke mn ak dg uk ud, aI K dk 20480 zd2_11, aI K wt 32768 zw2_12, aI K wh 64 zh2_13, aI K nw 512 zn2_14, aI K ki 608 kz2_15, aI K ke 608 yz2_16, aI K mn 608 mz2_17, aI K ak 3648 az, aL K dg 608 fg2_18, aZ K uk 64 zv, aL K ud 64 fv]) (st' := [.int (iZ r_8)]) ([2, 3, 4, 5, 6, 7, 8, 9, 10, 11, 0, 1] : List Nat) rfl rfl rfl ?_
        refine z_if_ge F 50 dX6_dead_42 (by decide) (by omega) (fun c31 => ?_) (fun c31 => ?_)
        · refine z_iconst F dX6_dead_50 ?_
          exact z_iret F hr dX6_dead_51 (by omega) ⟨1, en2_9, wc2_10, zd2_11, zw2_12, zh2_13, zn2_14, kz2_15, yz2_16, mz2_17, fg2_18, rfl, rfl, (by omega), (by omega), f20, f21, f22, f23, f24, f25, f26, f27, f28, f29, f30, (by omega)⟩
        · refine z_bipush F dX6_dead_45 (by decide) ?_
          refine z_goto F 51 dX6_dead_47 (by decide) ?_
          exact z_iret F hr dX6_dead_51 (by omega) ⟨(-4), en2_9, wc2_10, zd2_11, zw2_12, zh2_13, zn2_14, kz2_15, yz2_16, mz2_17, fg2_18, rfl, rfl, (by omega), (by omega), f20, f21, f22, f23, f24, f25, f26, f27, f28, f29, f30, (by omega)⟩
      · refine z_iconst F dX6_dead_33 ?_
        exact z_iret F hr dX6_dead_34 (by omega) ⟨0, en, wc, zd, zw, zh, zn, kz, yz, mz, fg, rfl, rfl, (by omega), (by omega), (by omega), h11, h1, h2, h3, h4, h5, h6, h7, h8, h10, (by omega)⟩
    · refine z_bipush F dX6_dead_22 (by decide) ?_
      exact z_iret F hr dX6_dead_24 (by omega) ⟨(-3), en, wc, zd, zw, zh, zn, kz, yz, mz, fg, rfl, rfl, (by omega), (by omega), (by omega), h11, h1, h2, h3, h4, h5, h6, h7, h8, h10, (by omega)⟩
  · refine z_bipush F dX6_dead_12 (by decide) ?_
    exact z_iret F hr dX6_dead_14 (by omega) ⟨(-2), en, wc, zd, zw, zh, zn, kz, yz, mz, fg, rfl, rfl, (by omega), (by omega), (by omega), h11, h1, h2, h3, h4, h5, h6, h7, h8, h10, (by omega)⟩
set_option maxHeartbeats 4000000 in
set_option maxRecDepth 20000 in
theorem k_X6_edition (l : Launch) (D : va_G) (K : KI) (o : Nat) (th : Int) (se : Int) (ea : Int) (dk : Nat) (wt : Nat) (wh : Nat) (wc : Int) (nw : Nat) (ru : Int) (ed : Int) (wa : Int) (sq : Int) (ar : Int) (en : Int) (sd : Int) (wg : Int) (tk : Int) (cp : Int) (co : Int) (ki : Nat) (ke : Nat) (mn : Nat) (ak : Nat) (dg : Nat) (uk : Nat) (ud : Nat) (zd : Nat → Int) (zw : Nat → Int) (zh : Nat → Int) (zn : Nat → Int) (kz : Nat → Int) (yz : Nat → Int) (mz : Nat → Int) (az : Nat → Int) (fg : Nat → Int64) (zv : Nat → Int) (fv : Nat → Int64) (e0 : Int) (h0 : 4 ≤ se ∧ se ≤ 40 ∧ 1 ≤ ea ∧ 2 * ea ≤ se - 2 ∧ se - 2 ≤ 2 * ea + 1) (h1 : 0 ≤ wc ∧ wc ≤ 64) (h2 : rng 0 255 zd) (h3 : rng 0 255 zw) (h4 : rng 0 (se-1) zh) (h5 : rng 0 255 zn) (h6 : rng 0 3 kz) (h7 : rng 0 255 yz) (h8 : rng 0 6 mz) (h9 : rng 0 255 az) (h10 : akOk mz az) (h11 : 0 ≤ en ∧ en ≤ 16 * ea) (h12 : 0 ≤ ar ∧ ar ≤ 1) (h13 : co = 0 ∨ (co = 1 ∧ 0 ≤ cp ∧ cp ≤ tk ∧ tk ≤ en)) (h14 : ru = 0 ∨ ru = 1) (h15 : ru = 0 → wc = 0 ∧ co = 0) (h16 : 0 ≤ sq ∧ sq ≤ 2100000000) (h17 : 0 ≤ sd ∧ sd ≤ 304) (h18 : 0 ≤ wg ∧ wg ≤ 304) (h19 : rng 0 1 zv) (h20 : 1 ≤ wa ∧ wa ≤ 200) (h21 : th = 0 ∨ th = 1) (h22 : -2147483648 ≤ e0 ∧ e0 ≤ 2147483647) : Ct lw_T l yX6_edition cX6_edition 2 (some .int) { frames := 0, cells := 0, slots := 0, locals := 0 } 0 0 D cls5 (TY K) [.ref o, .int (iZ e0)] [oX6 o th se ea dk wt wh wc nw ru ed wa sq ar en sd wg tk cp co ki ke mn ak dg uk ud, aI K dk 20480 zd, aI K wt 32768 zw, aI K wh 64 zh, aI K nw 512 zn, aI K ki 608 kz, aI K ke 608 yz, aI K mn 608 mz, aI K ak 3648 az, aL K dg 608 fg, aZ K uk 64 zv, aL K ud 64 fv] (fun vr wo => ∃ (r : Int), ∃ (wa2 : Int), vr = some (.int (iZ r)) ∧ wo = [oX6 o 0 se ea dk wt wh wc nw ru ed wa2 sq ar en sd wg tk cp co ki ke mn ak dg uk ud, aI K dk 20480 zd, aI K wt 32768 zw, aI K wh 64 zh, aI K nw 512 zn, aI K ki 608 kz, aI K ke 608 yz, aI K mn 608 mz, aI K ak 3648 az, aL K dg 608 fg, aZ K uk 64 zv, aL K ud 64 fv] ∧ (((1 ≤ e0 ∧ e0 ≤ 200) → r = 1) ∧ (¬ (1 ≤ e0 ∧ e0 ≤ 200) → r = -2)) ∧ (1 ≤ wa2 ∧ wa2 ≤ 200)) := by
  refine ct_of (own := RX6) (lv := [(0, .ref o), (1, .int (iZ e0))]) (by decide) rfl (Nat.le_of_ble_eq_true rfl) rfl (fun C F hr hnm hzl => ?_)
  subst hzl
  refine z_aload_n F 0 dX6_edition_0 rfl ?_
  refine z_iconst F dX6_edition_1 ?_
  refine z_put F (ws' := [oX6 o 0 se ea dk wt wh wc nw ru ed wa sq ar en sd wg tk cp co ki ke mn ak dg uk ud, aI K dk 20480 zd, aI K wt 32768 zw, aI K wh 64 zh, aI K nw 512 zn, aI K ki 608 kz, aI K ke 608 yz, aI K mn 608 mz, aI K ak 3648 az, aL K dg 608 fg, aZ K uk 64 zv, aL K ud 64 fv]) 0 0 iX6 tyX6 tyX6_ok nmX6 rfl rfl (by decide) t3_76 rfl rfl rfl rfl (Nat.le_of_ble_eq_true rfl) dX6_edition_2 rfl ?_
  refine z_iload_n F 1 dX6_edition_5 rfl ?_
  refine z_iconst F dX6_edition_6 ?_
  refine z_icmp_lt F 17 dX6_edition_7 (by decide) (by omega) (fun c1 => ?_) (fun c1 => ?_)
  · refine z_bipush F dX6_edition_17 (by decide) ?_
    exact z_iret F hr dX6_edition_19 (by omega) ⟨(-2), wa, rfl, rfl, (by omega), h20⟩
  · refine z_iload_n F 1 dX6_edition_10 rfl ?_
    refine z_sipush F dX6_edition_11 (by decide) ?_
    refine z_icmp_le F 20 dX6_edition_14 (by decide) (by omega) (fun c2 => ?_) (fun c2 => ?_)
    · refine z_aload_n F 0 dX6_edition_20 rfl ?_
      refine z_iload_n F 1 dX6_edition_21 rfl ?_
      refine z_put F (ws' := [oX6 o 0 se ea dk wt wh wc nw ru ed e0 sq ar en sd wg tk cp co ki ke mn ak dg uk ud, aI K dk 20480 zd, aI K wt 32768 zw, aI K wh 64 zh, aI K nw 512 zn, aI K ki 608 kz, aI K ke 608 yz, aI K mn 608 mz, aI K ak 3648 az, aL K dg 608 fg, aZ K uk 64 zv, aL K ud 64 fv]) 0 10 iX6 tyX6 tyX6_ok nmX6 rfl rfl (by decide) t3_86 rfl rfl rfl rfl (Nat.le_of_ble_eq_true rfl) dX6_edition_22 rfl ?_
      refine z_iconst F dX6_edition_25 ?_
      exact z_iret F hr dX6_edition_26 (by omega) ⟨1, e0, rfl, rfl, (by omega), (by omega)⟩
    · refine z_bipush F dX6_edition_17 (by decide) ?_
      exact z_iret F hr dX6_edition_19 (by omega) ⟨(-2), wa, rfl, rfl, (by omega), h20⟩
set_option maxHeartbeats 4000000 in
set_option maxRecDepth 20000 in
theorem k_X6_about (l : Launch) (D : va_G) (K : KI) (o : Nat) (th : Int) (se : Int) (ea : Int) (dk : Nat) (wt : Nat) (wh : Nat) (wc : Int) (nw : Nat) (ru : Int) (ed : Int) (wa : Int) (sq : Int) (ar : Int) (en : Int) (sd : Int) (wg : Int) (tk : Int) (cp : Int) (co : Int) (ki : Nat) (ke : Nat) (mn : Nat) (ak : Nat) (dg : Nat) (uk : Nat) (ud : Nat) (zd : Nat → Int) (zw : Nat → Int) (zh : Nat → Int) (zn : Nat → Int) (kz : Nat → Int) (yz : Nat → Int) (mz : Nat → Int) (az : Nat → Int) (fg : Nat → Int64) (zv : Nat → Int) (fv : Nat → Int64) (w0 : Int) (h0 : 4 ≤ se ∧ se ≤ 40 ∧ 1 ≤ ea ∧ 2 * ea ≤ se - 2 ∧ se - 2 ≤ 2 * ea + 1) (h1 : 0 ≤ wc ∧ wc ≤ 64) (h2 : rng 0 255 zd) (h3 : rng 0 255 zw) (h4 : rng 0 (se-1) zh) (h5 : rng 0 255 zn) (h6 : rng 0 3 kz) (h7 : rng 0 255 yz) (h8 : rng 0 6 mz) (h9 : rng 0 255 az) (h10 : akOk mz az) (h11 : 0 ≤ en ∧ en ≤ 16 * ea) (h12 : 0 ≤ ar ∧ ar ≤ 1) (h13 : co = 0 ∨ (co = 1 ∧ 0 ≤ cp ∧ cp ≤ tk ∧ tk ≤ en)) (h14 : ru = 0 ∨ ru = 1) (h15 : ru = 0 → wc = 0 ∧ co = 0) (h16 : 0 ≤ sq ∧ sq ≤ 2100000000) (h17 : 0 ≤ sd ∧ sd ≤ 304) (h18 : 0 ≤ wg ∧ wg ≤ 304) (h19 : rng 0 1 zv) (h20 : 1 ≤ wa ∧ wa ≤ 200) (h21 : th = 0 ∨ th = 1) (h22 : -2147483648 ≤ w0 ∧ w0 ≤ 2147483647) : Ct lw_T l yX6_about cX6_about 4 (some .int) { frames := 2, cells := 0, slots := 0, locals := 43 } 0 0 D cls5 (TY K) [.ref o, .int (iZ w0)] [oX6 o th se ea dk wt wh wc nw ru ed wa sq ar en sd wg tk cp co ki ke mn ak dg uk ud, aI K dk 20480 zd, aI K wt 32768 zw, aI K wh 64 zh, aI K nw 512 zn, aI K ki 608 kz, aI K ke 608 yz, aI K mn 608 mz, aI K ak 3648 az, aL K dg 608 fg, aZ K uk 64 zv, aL K ud 64 fv] (fun vr wo => ∃ (r : Int), vr = some (.int (iZ r)) ∧ wo = [oX6 o 0 se ea dk wt wh wc nw ru ed wa sq ar en sd wg tk cp co ki ke mn ak dg uk ud, aI K dk 20480 zd, aI K wt 32768 zw, aI K wh 64 zh, aI K nw 512 zn, aI K ki 608 kz, aI K ke 608 yz, aI K mn 608 mz, aI K ak 3648 az, aL K dg 608 fg, aZ K uk 64 zv, aL K ud 64 fv] ∧ (ru = 0 → (w0 = 0 → r = 0) ∧ (w0 = 8 → r = 16 * ea) ∧ (¬ w0 = 0 ∧ ¬ w0 = 8 → r = -1))) := by
  refine ct_of (own := RX6) (lv := [(0, .ref o), (1, .int (iZ w0))]) (by decide) rfl (Nat.le_of_ble_eq_true rfl) rfl (fun C F hr hnm hzl => ?_)
  subst hzl
  refine z_aload_n F 0 dX6_about_0 rfl ?_
  refine z_iconst F dX6_about_1 ?_
  refine z_put F (ws' := [oX6 o 0 se ea dk wt wh wc nw ru ed wa sq ar en sd wg tk cp co ki ke mn ak dg uk ud, aI K dk 20480 zd, aI K wt 32768 zw, aI K wh 64 zh, aI K nw 512 zn, aI K ki 608 kz, aI K ke 608 yz, aI K mn 608 mz, aI K ak 3648 az, aL K dg 608 fg, aZ K uk 64 zv, aL K ud 64 fv]) 0 0 iX6 tyX6 tyX6_ok nmX6 rfl rfl (by decide) t3_76 rfl rfl rfl rfl (Nat.le_of_ble_eq_true rfl) dX6_about_2 rfl ?_
  refine z_iload_n F 1 dX6_about_5 rfl ?_
  refine z_if_ne F 22 dX6_about_6 (by decide) (by omega) (fun c1 => ?_) (fun c1 => ?_)
  · refine z_iload_n F 1 dX6_about_22 rfl ?_
    refine z_bipush F dX6_about_23 (by decide) ?_
    refine z_icmp_ne F 36 dX6_about_25 (by decide) (by omega) (fun c2 => ?_) (fun c2 => ?_)
    · refine z_aload_n F 0 dX6_about_36 rfl ?_
      refine z_get F 0 8 iX6 rfl rfl (by decide) t3_84 rfl dX6_about_37 ?_
      refine z_if_ne F 45 dX6_about_40 (by decide) (by omega) (fun c3 => ?_) (fun c3 => ?_)
      · refine z_iconst F dX6_about_45 ?_
        refine z_istore_n F (lv' := [(2, .int (iZ 0)), (0, .ref o), (1, .int (iZ w0))]) dX6_about_46 (by decide) rfl ?_
        refine z_iload_n F 2 dX6_about_47 rfl ?_
        by_cases c4 : w0 = 1
        · rw [c4]; refine z_tableIn F 1 92 dX6_about_48 (by decide) (by decide) (by decide) rfl (by decide) ?_
          refine z_aload_n F 1 dX6_about_92 rfl ?_
          refine z_get F 0 13 iX6 rfl rfl (by decide) t3_89 rfl dX6_about_93 ?_
          exact z_iret F hr dX6_about_96 (by omega) ⟨en, rfl, rfl, (by omega)⟩
        by_cases c5 : w0 = 2
        · rw [c5]; refine z_tableIn F 2 97 dX6_about_48 (by decide) (by decide) (by decide) rfl (by decide) ?_
          refine z_aload_n F 1 dX6_about_97 rfl ?_
          refine z_get F 0 6 iX6 rfl rfl (by decide) t3_82 rfl dX6_about_98 ?_
          exact z_iret F hr dX6_about_101 (by omega) ⟨wc, rfl, rfl, (by omega)⟩
        by_cases c6 : w0 = 3
        · rw [c6]; refine z_tableIn F 3 102 dX6_about_48 (by decide) (by decide) (by decide) rfl (by decide) ?_
          refine z_iconst F dX6_about_102 ?_
          refine z_istore_n F (lv' := [(3, .int (iZ 0)), (2, .int (iZ 0)), (0, .ref o), (1, .int (iZ 3))]) dX6_about_103 (by decide) rfl ?_
          have lp104 : ∀ (nn104 : Nat) (n1 : Int) (i : Int), (0 ≤ i ∧ i ≤ 64) → (0 ≤ n1 ∧ n1 ≤ i) → ((64 - i : Int).toNat < nn104) → Go C { frames := 2, cells := 0, slots := 0, locals := 43 } D cls5 4 0 0 [oX6 o 0 se ea dk wt wh wc nw ru ed wa sq ar en sd wg tk cp co ki ke mn ak dg uk ud, aI K dk 20480 zd, aI K wt 32768 zw, aI K wh 64 zh, aI K nw 512 zn, aI K ki 608 kz, aI K ke 608 yz, aI K mn 608 mz, aI K ak 3648 az, aL K dg 608 fg, aZ K uk 64 zv, aL K ud 64 fv] 104 [(3, .int (iZ i)), (2, .int (iZ n1)), (0, .ref o), (1, .int (iZ 3))] [] := by
            intro nn104
            induction nn104 with
            | zero => intro n1 i g104_0 g104_1 hmu104; exact absurd hmu104 (Nat.not_lt_zero _)
            | succ nn104 ih104 =>
              intro n1 i g104_0 g104_1 hmu104
              refine z_iload_n F 0 dX6_about_104 rfl ?_
              refine z_bipush F dX6_about_105 (by decide) ?_
              refine z_icmp_ge F 133 dX6_about_107 (by decide) (by omega) (fun c7 => ?_) (fun c7 => ?_)
              · refine z_iload_n F 1 dX6_about_133 rfl ?_
                exact z_iret F hr dX6_about_134 (by omega) ⟨n1, rfl, rfl, (by omega)⟩
              · refine z_iload_n F 1 dX6_about_110 rfl ?_
                refine z_aload_n F 2 dX6_about_111 rfl ?_
                refine z_get F 0 24 iX6 rfl rfl (by decide) t3_100 rfl dX6_about_112 ?_
                refine z_iload_n F 0 dX6_about_115 rfl ?_
                refine z_zald F 10 rfl rfl dX6_about_116 (by omega) (by omega) ?_
                have r8 : 0 ≤ zv i.toNat ∧ zv i.toNat ≤ 1 := h19 _
                refine z_if_eq F 124 dX6_about_117 (by decide) (by omega) (fun c9 => ?_) (fun c9 => ?_)
                · refine z_iconst F dX6_about_124 ?_
                  refine z_iadd F dX6_about_125 ?_
                  refine z_istore_n F (lv' := [(2, .int (iZ (n1 + 0))), (3, .int (iZ i)), (0, .ref o), (1, .int (iZ 3))]) dX6_about_126 (by decide) rfl ?_
                  refine z_iinc F (lv' := [(3, .int (iZ (i + 1))), (2, .int (iZ (n1 + 0))), (0, .ref o), (1, .int (iZ 3))]) 1 dX6_about_127 rfl (by decide) rfl ?_
                  refine z_goto F 104 dX6_about_130 (by decide) ?_
                  exact ih104 (n1 + 0) (i + 1) (by omega) (by omega) (by omega)
                · refine z_iconst F dX6_about_120 ?_
                  refine z_goto F 125 dX6_about_121 (by decide) ?_
                  refine z_iadd F dX6_about_125 ?_
                  refine z_istore_n F (lv' := [(2, .int (iZ (n1 + 1))), (3, .int (iZ i)), (0, .ref o), (1, .int (iZ 3))]) dX6_about_126 (by decide) rfl ?_
                  refine z_iinc F (lv' := [(3, .int (iZ (i + 1))), (2, .int (iZ (n1 + 1))), (0, .ref o), (1, .int (iZ 3))]) 1 dX6_about_127 rfl (by decide) rfl ?_
                  refine z_goto F 104 dX6_about_130 (by decide) ?_
                  exact ih104 (n1 + 1) (i + 1) (by omega) (by omega) (by omega)
          exact lp104 ((64 - 0 : Int).toNat + 1) 0 0 (by omega) (by omega) (Nat.lt_succ_self _)
        by_cases c10 : w0 = 4
        · rw [c10]; refine z_tableIn F 4 135 dX6_about_48 (by decide) (by decide) (by decide) rfl (by decide) ?_
          refine z_aload_n F 1 dX6_about_135 rfl ?_
          refine z_callV F lw_good (k_X6_holder _ D K o 0 se ea dk wt wh wc nw ru ed wa sq ar en sd wg tk cp co ki ke mn ak dg uk ud kz yz (by omega) h6 h7) t4_71 t1_6 t4_68 t4_70 (q := (RX6, TX6, 26)) ts_42 ⟨rfl, rfl⟩ ndX6_holder ⟨Nat.le_of_ble_eq_true rfl, Nat.le_of_ble_eq_true rfl⟩ 0 rfl rfl (rest := []) rfl (Nat.le_of_ble_eq_true rfl) dX6_about_136 ⟨(show 0 + 0 ≤ 0 by omega), (show 0 + 0 ≤ 0 by omega)⟩ (wr := [aI K dk 20480 zd, aI K wt 32768 zw, aI K wh 64 zh, aI K nw 512 zn, aI K mn 608 mz, aI K ak 3648 az, aL K dg 608 fg, aZ K uk 64 zv, aL K ud 64 fv]) ([0, 5, 6] : List Nat) ([1, 2, 3, 4, 7, 8, 9, 10, 11] : List Nat) rfl rfl rfl rfl (by decide) (fun vr wo hp => ?_)
          obtain ⟨r_11, rfl, rfl, f12⟩ := hp
          refine z_re F (ws' := [oX6 o 0 se ea dk wt wh wc nw ru ed wa sq ar en sd wg tk cp co ki ke mn ak dg uk ud, aI K dk 20480 zd, aI K wt 32768 zw, aI K wh 64 zh, aI K nw 512 zn, aI K ki 608 kz, aI K ke 608 yz, aI K mn 608 mz, aI K ak 3648 az, aL K dg 608 fg, aZ K uk 64 zv, aL K ud 64 fv]) (st' := [.int (iZ r_11)]) ([9, 0, 1, 2, 3, 10, 11, 4, 5, 6, 7, 8] : List Nat) rfl rfl rfl ?_
          exact z_iret F hr dX6_about_139 (by omega) ⟨r_11, rfl, rfl, (by omega)⟩
        by_cases c13 : w0 = 5
        · rw [c13]; refine z_tableIn F 5 140 dX6_about_48 (by decide) (by decide) (by decide) rfl (by decide) ?_
          refine z_aload_n F 1 dX6_about_140 rfl ?_
          refine z_get F 0 12 iX6 rfl rfl (by decide) t3_88 rfl dX6_about_141 ?_
          exact z_iret F hr dX6_about_144 (by omega) ⟨ar, rfl, rfl, (by omega)⟩
        by_cases c14 : w0 = 6
        · rw [c14]; refine z_tableIn F 6 145 dX6_about_48 (by decide) (by decide) (by decide) rfl (by decide) ?_
          refine z_aload_n F 1 dX6_about_145 rfl ?_
          refine z_get F 0 11 iX6 rfl rfl (by decide) t3_87 rfl dX6_about_146 ?_
          exact z_iret F hr dX6_about_149 (by omega) ⟨sq, rfl, rfl, (by omega)⟩
        by_cases c15 : w0 = 7
        · rw [c15]; refine z_tableIn F 7 150 dX6_about_48 (by decide) (by decide) (by decide) rfl (by decide) ?_
          refine z_aload_n F 1 dX6_about_150 rfl ?_
          refine z_get F 0 18 iX6 rfl rfl (by decide) t3_94 rfl dX6_about_151 ?_
          refine z_if_eq F 164 dX6_about_154 (by decide) (by omega) (fun c16 => ?_) (fun c16 => ?_)
          · refine z_iconst F dX6_about_164 ?_
            exact z_iret F hr dX6_about_165 (by omega) ⟨(-1), rfl, rfl, (by omega)⟩
          · refine z_aload_n F 1 dX6_about_157 rfl ?_
            refine z_get F 0 16 iX6 rfl rfl (by decide) t3_92 rfl dX6_about_158 ?_
            refine z_goto F 165 dX6_about_161 (by decide) ?_
            exact z_iret F hr dX6_about_165 (by omega) ⟨tk, rfl, rfl, (by omega)⟩
        refine z_tableOut F 166 dX6_about_48 (by omega) (by omega) (by decide) ?_
        refine z_iconst F dX6_about_166 ?_
        exact z_iret F hr dX6_about_167 (by omega) ⟨(-1), rfl, rfl, (by omega)⟩
      · refine z_iconst F dX6_about_43 ?_
        exact z_iret F hr dX6_about_44 (by omega) ⟨(-1), rfl, rfl, (by omega)⟩
    · refine z_bipush F dX6_about_28 (by decide) ?_
      refine z_aload_n F 0 dX6_about_30 rfl ?_
      refine z_get F 0 2 iX6 rfl rfl (by decide) t3_78 rfl dX6_about_31 ?_
      refine z_imul F dX6_about_34 ?_
      exact z_iret F hr dX6_about_35 (by omega) ⟨(16 * ea), rfl, rfl, (by omega)⟩
  · refine z_aload_n F 0 dX6_about_9 rfl ?_
    refine z_get F 0 8 iX6 rfl rfl (by decide) t3_84 rfl dX6_about_10 ?_
    refine z_if_eq F 20 dX6_about_13 (by decide) (by omega) (fun c17 => ?_) (fun c17 => ?_)
    · refine z_iconst F dX6_about_20 ?_
      exact z_iret F hr dX6_about_21 (by omega) ⟨0, rfl, rfl, (by omega)⟩
    · refine z_iconst F dX6_about_16 ?_
      refine z_goto F 21 dX6_about_17 (by decide) ?_
      exact z_iret F hr dX6_about_21 (by omega) ⟨1, rfl, rfl, (by omega)⟩
