set_option maxHeartbeats 4000000 in
set_option maxRecDepth 20000 in
theorem k_X6_write (l : Launch) (D : va_G) (K : KI) (o : Nat) (th : Int) (se : Int) (ea : Int) (dk : Nat) (wt : Nat) (wh : Nat) (wc : Int) (nw : Nat) (ru : Int) (ed : Int) (wa : Int) (sq : Int) (ar : Int) (en : Int) (sd : Int) (wg : Int) (tk : Int) (cp : Int) (co : Int) (ki : Nat) (ke : Nat) (mn : Nat) (ak : Nat) (dg : Nat) (uk : Nat) (ud : Nat) (zd : Nat → Int) (zw : Nat → Int) (zh : Nat → Int) (zn : Nat → Int) (kz : Nat → Int) (yz : Nat → Int) (mz : Nat → Int) (az : Nat → Int) (fg : Nat → Int64) (wh0 : Int) (pl : Int) (rr : Int) (h0 : 4 ≤ se ∧ se ≤ 40 ∧ 1 ≤ ea ∧ 2 * ea ≤ se - 2 ∧ se - 2 ≤ 2 * ea + 1) (h1 : 0 ≤ wc ∧ wc ≤ 64) (h2 : rng 0 255 zd) (h3 : rng 0 255 zw) (h4 : rng 0 (se-1) zh) (h5 : rng 0 255 zn) (h6 : rng 0 3 kz) (h7 : rng 0 255 yz) (h8 : rng 0 6 mz) (h9 : rng 0 255 az) (h10 : akOk mz az) (h11 : wh0 = 0 ∨ wh0 = 1) (h12 : 0 ≤ pl ∧ pl ≤ 16 * ea - 1 ∧ 0 ≤ rr ∧ rr ≤ 607) : Ct lw_T l yX6_write cX6_write 6 none { frames := 3, cells := 0, slots := 0, locals := 66 } 0 0 D cls5 (TY K) [.ref o, .int (iZ wh0), .int (iZ pl), .int (iZ rr)] [oX6 o th se ea dk wt wh wc nw ru ed wa sq ar en sd wg tk cp co ki ke mn ak dg uk ud, aI K dk 20480 zd, aI K wt 32768 zw, aI K wh 64 zh, aI K nw 512 zn, aI K ki 608 kz, aI K ke 608 yz, aI K mn 608 mz, aI K ak 3648 az, aL K dg 608 fg] (fun vr wo => ∃ (wc2 : Int), ∃ (zd2 : Nat → Int), ∃ (zw2 : Nat → Int), ∃ (zh2 : Nat → Int), ∃ (zn2 : Nat → Int), vr = none ∧ wo = [oX6 o th se ea dk wt wh wc2 nw ru ed wa sq ar en sd wg tk cp co ki ke mn ak dg uk ud, aI K dk 20480 zd2, aI K wt 32768 zw2, aI K wh 64 zh2, aI K nw 512 zn2, aI K ki 608 kz, aI K ke 608 yz, aI K mn 608 mz, aI K ak 3648 az, aL K dg 608 fg] ∧ (0 ≤ wc2 ∧ wc2 ≤ 64) ∧ (rng 0 255 zd2) ∧ (rng 0 255 zw2) ∧ (rng 0 (se-1) zh2) ∧ (rng 0 255 zn2)) := by
  refine ct_of (own := RX6) (lv := [(0, .ref o), (1, .int (iZ wh0)), (2, .int (iZ pl)), (3, .int (iZ rr))]) (by decide) rfl (Nat.le_of_ble_eq_true rfl) rfl (fun C F hr hnm hzl => ?_)
  subst hzl
  refine z_aload_n F 0 dX6_write_0 rfl ?_
  refine z_aload_n F 0 dX6_write_1 rfl ?_
  refine z_iload_n F 1 dX6_write_2 rfl ?_
  refine z_iload_n F 2 dX6_write_3 rfl ?_
  refine z_callV F lw_good (k_X6_sectorOf _ D K o th se ea dk wt wh wc nw ru ed wa sq ar en sd wg tk cp co ki ke mn ak dg uk ud wh0 pl (by omega) h11 (by omega)) t3_207 t1_6 t3_204 t3_206 (q := (RX6, TX6, 26)) ts_30 ⟨rfl, rfl⟩ ndX6_sectorOf ⟨Nat.le_of_ble_eq_true rfl, Nat.le_of_ble_eq_true rfl⟩ 0 rfl rfl (rest := [.ref o]) rfl (Nat.le_of_ble_eq_true rfl) dX6_write_4 ⟨(show 0 + 0 ≤ 0 by omega), (show 0 + 0 ≤ 0 by omega)⟩ (wr := [aI K dk 20480 zd, aI K wt 32768 zw, aI K wh 64 zh, aI K nw 512 zn, aI K ki 608 kz, aI K ke 608 yz, aI K mn 608 mz, aI K ak 3648 az, aL K dg 608 fg]) ([0] : List Nat) ([1, 2, 3, 4, 5, 6, 7, 8, 9] : List Nat) rfl rfl rfl rfl (by decide) (fun vr wo hp => ?_)
  obtain ⟨r_1, rfl, rfl, f2⟩ := hp
  refine z_re F (ws' := [oX6 o th se ea dk wt wh wc nw ru ed wa sq ar en sd wg tk cp co ki ke mn ak dg uk ud, aI K dk 20480 zd, aI K wt 32768 zw, aI K wh 64 zh, aI K nw 512 zn, aI K ki 608 kz, aI K ke 608 yz, aI K mn 608 mz, aI K ak 3648 az, aL K dg 608 fg]) (st' := [.int (iZ r_1), .ref o]) ([9, 0, 1, 2, 3, 4, 5, 6, 7, 8] : List Nat) rfl rfl rfl ?_
  refine z_callV F lw_good (k_X6_load _ D K o th se ea dk wt wh wc nw ru ed wa sq ar en sd wg tk cp co ki ke mn ak dg uk ud zd zw zh zn r_1 (by omega) h1 h2 h3 h4 h5 (by omega)) t3_166 t1_6 t3_163 t3_165 (q := (RX6, TX6, 26)) ts_21 ⟨rfl, rfl⟩ ndX6_load ⟨Nat.le_of_ble_eq_true rfl, Nat.le_of_ble_eq_true rfl⟩ 0 rfl rfl (rest := []) rfl (Nat.le_of_ble_eq_true rfl) dX6_write_7 ⟨(show 0 + 0 ≤ 0 by omega), (show 0 + 0 ≤ 0 by omega)⟩ (wr := [aI K ki 608 kz, aI K ke 608 yz, aI K mn 608 mz, aI K ak 3648 az, aL K dg 608 fg]) ([0, 1, 2, 3, 4] : List Nat) ([5, 6, 7, 8, 9] : List Nat) rfl rfl rfl rfl (by decide) (fun vr wo hp => ?_)
  obtain ⟨zn2_3, rfl, rfl, f4, f5⟩ := hp
  refine z_re F (ws' := [oX6 o th se ea dk wt wh wc nw ru ed wa sq ar en sd wg tk cp co ki ke mn ak dg uk ud, aI K dk 20480 zd, aI K wt 32768 zw, aI K wh 64 zh, aI K nw 512 zn2_3, aI K ki 608 kz, aI K ke 608 yz, aI K mn 608 mz, aI K ak 3648 az, aL K dg 608 fg]) (st' := []) ([5, 6, 7, 8, 9, 0, 1, 2, 3, 4] : List Nat) rfl rfl rfl ?_
  refine z_bipush F dX6_write_10 (by decide) ?_
  refine z_iload_n F 2 dX6_write_12 rfl ?_
  refine z_bipush F dX6_write_13 (by decide) ?_
  refine z_irem F dX6_write_15 (by omega) (by omega) ?_
  refine z_nm F (fun q6 eq6 => ?_)
  have hq6 := md_spec pl 16 (by omega)
  rw [← eq6] at hq6
  refine z_imul F dX6_write_16 ?_
  refine z_istore F (lv' := [(4, .int (iZ (32 * q6))), (0, .ref o), (1, .int (iZ wh0)), (2, .int (iZ pl)), (3, .int (iZ rr))]) dX6_write_17 (by decide) rfl ?_
  refine z_iload F 0 dX6_write_19 rfl ?_
  refine z_istore F (lv' := [(5, .int (iZ (32 * q6))), (4, .int (iZ (32 * q6))), (0, .ref o), (1, .int (iZ wh0)), (2, .int (iZ pl)), (3, .int (iZ rr))]) dX6_write_21 (by decide) rfl ?_
  have lp23 : ∀ (nn23 : Nat) (i : Int) (w : Nat → Int), ((32 * q6) ≤ i ∧ i ≤ (32 * q6) + 32 ∧ 0 ≤ (32 * q6) ∧ (32 * q6) ≤ 480) → (rng 0 255 w) → (((32 * q6) + 32 - i : Int).toNat < nn23) → Go C { frames := 3, cells := 0, slots := 0, locals := 66 } D cls5 6 0 0 [oX6 o th se ea dk wt wh wc nw ru ed wa sq ar en sd wg tk cp co ki ke mn ak dg uk ud, aI K dk 20480 zd, aI K wt 32768 zw, aI K wh 64 zh, aI K nw 512 w, aI K ki 608 kz, aI K ke 608 yz, aI K mn 608 mz, aI K ak 3648 az, aL K dg 608 fg] 23 [(5, .int (iZ i)), (4, .int (iZ (32 * q6))), (0, .ref o), (1, .int (iZ wh0)), (2, .int (iZ pl)), (3, .int (iZ rr))] [] := by
    intro nn23
    induction nn23 with
    | zero => intro i w g23_0 g23_1 hmu23; exact absurd hmu23 (Nat.not_lt_zero _)
    | succ nn23 ih23 =>
      intro i w g23_0 g23_1 hmu23
      refine z_iload F 0 dX6_write_23 rfl ?_
      refine z_iload F 1 dX6_write_25 rfl ?_
      refine z_bipush F dX6_write_27 (by decide) ?_
      refine z_iadd F dX6_write_29 ?_
      refine z_icmp_ge F 47 dX6_write_30 (by decide) (by omega) (fun c7 => ?_) (fun c7 => ?_)
      · refine z_aload_n F 2 dX6_write_47 rfl ?_
        refine z_get F 0 7 iX6 rfl rfl (by decide) t3_83 rfl dX6_write_48 ?_
        refine z_iload F 1 dX6_write_51 rfl ?_
        refine z_aload_n F 2 dX6_write_53 rfl ?_
        refine z_get F 0 19 iX6 rfl rfl (by decide) t3_95 rfl dX6_write_54 ?_
        refine z_iload_n F 5 dX6_write_57 rfl ?_
        refine z_iald F 5 rfl rfl dX6_write_58 (by omega) (by omega) ?_
        have r8 : 0 ≤ kz rr.toNat ∧ kz rr.toNat ≤ 3 := h6 _
        refine z_iast F (ws' := [oX6 o th se ea dk wt wh wc nw ru ed wa sq ar en sd wg tk cp co ki ke mn ak dg uk ud, aI K dk 20480 zd, aI K wt 32768 zw, aI K wh 64 zh, aI K nw 512 (zu w (32 * q6).toNat (kz rr.toNat)), aI K ki 608 kz, aI K ke 608 yz, aI K mn 608 mz, aI K ak 3648 az, aL K dg 608 fg]) 4 rfl rfl dX6_write_59 (by omega) (by omega) rfl ?_
        have r9 : rng 0 255 (zu w (32 * q6).toNat (kz rr.toNat)) := rng_zu g23_1 (by omega)
        refine z_aload_n F 2 dX6_write_60 rfl ?_
        refine z_get F 0 7 iX6 rfl rfl (by decide) t3_83 rfl dX6_write_61 ?_
        refine z_iload F 1 dX6_write_64 rfl ?_
        refine z_iconst F dX6_write_66 ?_
        refine z_iadd F dX6_write_67 ?_
        refine z_aload_n F 2 dX6_write_68 rfl ?_
        refine z_get F 0 20 iX6 rfl rfl (by decide) t3_96 rfl dX6_write_69 ?_
        refine z_iload_n F 5 dX6_write_72 rfl ?_
        refine z_iald F 6 rfl rfl dX6_write_73 (by omega) (by omega) ?_
        have r10 : 0 ≤ yz rr.toNat ∧ yz rr.toNat ≤ 255 := h7 _
        refine z_iast F (ws' := [oX6 o th se ea dk wt wh wc nw ru ed wa sq ar en sd wg tk cp co ki ke mn ak dg uk ud, aI K dk 20480 zd, aI K wt 32768 zw, aI K wh 64 zh, aI K nw 512 (zu (zu w (32 * q6).toNat (kz rr.toNat)) ((32 * q6) + 1).toNat (yz rr.toNat)), aI K ki 608 kz, aI K ke 608 yz, aI K mn 608 mz, aI K ak 3648 az, aL K dg 608 fg]) 4 rfl rfl dX6_write_74 (by omega) (by omega) rfl ?_
        have r11 : rng 0 255 (zu (zu w (32 * q6).toNat (kz rr.toNat)) ((32 * q6) + 1).toNat (yz rr.toNat)) := rng_zu r9 (by omega)
        refine z_aload_n F 2 dX6_write_75 rfl ?_
        refine z_get F 0 7 iX6 rfl rfl (by decide) t3_83 rfl dX6_write_76 ?_
        refine z_iload F 1 dX6_write_79 rfl ?_
        refine z_iconst F dX6_write_81 ?_
        refine z_iadd F dX6_write_82 ?_
        refine z_aload_n F 2 dX6_write_83 rfl ?_
        refine z_get F 0 21 iX6 rfl rfl (by decide) t3_97 rfl dX6_write_84 ?_
        refine z_iload_n F 5 dX6_write_87 rfl ?_
        refine z_iald F 7 rfl rfl dX6_write_88 (by omega) (by omega) ?_
        have r12 : 0 ≤ mz rr.toNat ∧ mz rr.toNat ≤ 6 := h8 _
        refine z_iast F (ws' := [oX6 o th se ea dk wt wh wc nw ru ed wa sq ar en sd wg tk cp co ki ke mn ak dg uk ud, aI K dk 20480 zd, aI K wt 32768 zw, aI K wh 64 zh, aI K nw 512 (zu (zu (zu w (32 * q6).toNat (kz rr.toNat)) ((32 * q6) + 1).toNat (yz rr.toNat)) ((32 * q6) + 2).toNat (mz rr.toNat)), aI K ki 608 kz, aI K ke 608 yz, aI K mn 608 mz, aI K ak 3648 az, aL K dg 608 fg]) 4 rfl rfl dX6_write_89 (by omega) (by omega) rfl ?_
        have r13 : rng 0 255 (zu (zu (zu w (32 * q6).toNat (kz rr.toNat)) ((32 * q6) + 1).toNat (yz rr.toNat)) ((32 * q6) + 2).toNat (mz rr.toNat)) := rng_zu r11 (by omega)
        refine z_iconst F dX6_write_90 ?_
        refine z_istore F (lv' := [(5, .int (iZ 0)), (4, .int (iZ (32 * q6))), (0, .ref o), (1, .int (iZ wh0)), (2, .int (iZ pl)), (3, .int (iZ rr))]) dX6_write_91 (by decide) rfl ?_
        have lp93 : ∀ (nn93 : Nat) (i : Int) (w : Nat → Int), (0 ≤ i ∧ i ≤ 6) → (rng 0 255 w) → ((6 - i : Int).toNat < nn93) → Go C { frames := 3, cells := 0, slots := 0, locals := 66 } D cls5 6 0 0 [oX6 o th se ea dk wt wh wc nw ru ed wa sq ar en sd wg tk cp co ki ke mn ak dg uk ud, aI K dk 20480 zd, aI K wt 32768 zw, aI K wh 64 zh, aI K nw 512 w, aI K ki 608 kz, aI K ke 608 yz, aI K mn 608 mz, aI K ak 3648 az, aL K dg 608 fg] 93 [(5, .int (iZ i)), (4, .int (iZ (32 * q6))), (0, .ref o), (1, .int (iZ wh0)), (2, .int (iZ pl)), (3, .int (iZ rr))] [] := by
          intro nn93
          induction nn93 with
          | zero => intro i w g93_0 g93_1 hmu93; exact absurd hmu93 (Nat.not_lt_zero _)
          | succ nn93 ih93 =>
            intro i w g93_0 g93_1 hmu93
            refine z_iload F 0 dX6_write_93 rfl ?_
            refine z_aload_n F 2 dX6_write_95 rfl ?_
            refine z_get F 0 21 iX6 rfl rfl (by decide) t3_97 rfl dX6_write_96 ?_
            refine z_iload_n F 5 dX6_write_99 rfl ?_
            refine z_iald F 7 rfl rfl dX6_write_100 (by omega) (by omega) ?_
            have r14 : 0 ≤ mz rr.toNat ∧ mz rr.toNat ≤ 6 := h8 _
            refine z_icmp_ge F 134 dX6_write_101 (by decide) (by omega) (fun c15 => ?_) (fun c15 => ?_)
            · refine z_aload_n F 2 dX6_write_134 rfl ?_
              refine z_iload F 1 dX6_write_135 rfl ?_
              refine z_bipush F dX6_write_137 (by decide) ?_
              refine z_iadd F dX6_write_139 ?_
              refine z_aload_n F 2 dX6_write_140 rfl ?_
              refine z_get F 0 23 iX6 rfl rfl (by decide) t3_99 rfl dX6_write_141 ?_
              refine z_iload_n F 5 dX6_write_144 rfl ?_
              refine z_lald F 9 rfl rfl dX6_write_145 (by omega) (by omega) ?_
              refine z_bipush F dX6_write_146 (by decide) ?_
              refine z_callV F lw_good (k_X6_put _ D K o th se ea dk wt wh wc nw ru ed wa sq ar en sd wg tk cp co ki ke mn ak dg uk ud w ((32 * q6) + 16) (fg rr.toNat) 8 (by omega) g93_1) t3_230 t1_6 t3_227 t3_229 (q := (RX6, TX6, 26)) ts_34 ⟨rfl, rfl⟩ ndX6_put ⟨Nat.le_of_ble_eq_true rfl, Nat.le_of_ble_eq_true rfl⟩ 0 rfl rfl (rest := []) rfl (Nat.le_of_ble_eq_true rfl) dX6_write_148 ⟨(show 0 + 0 ≤ 0 by omega), (show 0 + 0 ≤ 0 by omega)⟩ (wr := [aI K dk 20480 zd, aI K wt 32768 zw, aI K wh 64 zh, aI K ki 608 kz, aI K ke 608 yz, aI K mn 608 mz, aI K ak 3648 az, aL K dg 608 fg]) ([0, 4] : List Nat) ([1, 2, 3, 5, 6, 7, 8, 9] : List Nat) rfl rfl rfl rfl (by decide) (fun vr wo hp => ?_)
              obtain ⟨zn2_16, rfl, rfl, f17⟩ := hp
              refine z_re F (ws' := [oX6 o th se ea dk wt wh wc nw ru ed wa sq ar en sd wg tk cp co ki ke mn ak dg uk ud, aI K dk 20480 zd, aI K wt 32768 zw, aI K wh 64 zh, aI K nw 512 zn2_16, aI K ki 608 kz, aI K ke 608 yz, aI K mn 608 mz, aI K ak 3648 az, aL K dg 608 fg]) (st' := []) ([8, 0, 1, 2, 9, 3, 4, 5, 6, 7] : List Nat) rfl rfl rfl ?_
              refine z_aload_n F 2 dX6_write_151 rfl ?_
              refine z_iload F 1 dX6_write_152 rfl ?_
              refine z_bipush F dX6_write_154 (by decide) ?_
              refine z_iadd F dX6_write_156 ?_
              refine z_aload_n F 2 dX6_write_157 rfl ?_
              refine z_iload F 1 dX6_write_158 rfl ?_
              refine z_bipush F dX6_write_160 (by decide) ?_
              refine z_iload_n F 4 dX6_write_162 rfl ?_
              refine z_callV F lw_good (k_X6_sum _ D K o th se ea dk wt wh wc nw ru ed wa sq ar en sd wg tk cp co ki ke mn ak dg uk ud zn2_16 (32 * q6) 28 pl (by omega)) t3_175 t1_6 t3_172 t3_174 (q := (RX6, TX6, 26)) ts_23 ⟨rfl, rfl⟩ ndX6_sum ⟨Nat.le_of_ble_eq_true rfl, Nat.le_of_ble_eq_true rfl⟩ 0 rfl rfl (rest := [.int (iZ ((32 * q6) + 28)), .ref o]) rfl (Nat.le_of_ble_eq_true rfl) dX6_write_163 ⟨(show 0 + 0 ≤ 0 by omega), (show 0 + 0 ≤ 0 by omega)⟩ (wr := [aI K dk 20480 zd, aI K wt 32768 zw, aI K wh 64 zh, aI K ki 608 kz, aI K ke 608 yz, aI K mn 608 mz, aI K ak 3648 az, aL K dg 608 fg]) ([0, 4] : List Nat) ([1, 2, 3, 5, 6, 7, 8, 9] : List Nat) rfl rfl rfl rfl (by decide) (fun vr wo hp => ?_)
              obtain ⟨r_18, rfl, rfl, f19, f20⟩ := hp
              refine z_re F (ws' := [oX6 o th se ea dk wt wh wc nw ru ed wa sq ar en sd wg tk cp co ki ke mn ak dg uk ud, aI K dk 20480 zd, aI K wt 32768 zw, aI K wh 64 zh, aI K nw 512 zn2_16, aI K ki 608 kz, aI K ke 608 yz, aI K mn 608 mz, aI K ak 3648 az, aL K dg 608 fg]) (st' := [.int (iZ r_18), .int (iZ ((32 * q6) + 28)), .ref o]) ([8, 0, 1, 2, 9, 3, 4, 5, 6, 7] : List Nat) rfl rfl rfl ?_
              refine z_i2l F dX6_write_166 ?_
              refine z_iconst F dX6_write_167 ?_
              refine z_callV F lw_good (k_X6_put _ D K o th se ea dk wt wh wc nw ru ed wa sq ar en sd wg tk cp co ki ke mn ak dg uk ud zn2_16 ((32 * q6) + 28) ((iZ r_18).toInt64) 4 (by omega) f17) t3_230 t1_6 t3_227 t3_229 (q := (RX6, TX6, 26)) ts_34 ⟨rfl, rfl⟩ ndX6_put ⟨Nat.le_of_ble_eq_true rfl, Nat.le_of_ble_eq_true rfl⟩ 0 rfl rfl (rest := []) rfl (Nat.le_of_ble_eq_true rfl) dX6_write_168 ⟨(show 0 + 0 ≤ 0 by omega), (show 0 + 0 ≤ 0 by omega)⟩ (wr := [aI K dk 20480 zd, aI K wt 32768 zw, aI K wh 64 zh, aI K ki 608 kz, aI K ke 608 yz, aI K mn 608 mz, aI K ak 3648 az, aL K dg 608 fg]) ([0, 4] : List Nat) ([1, 2, 3, 5, 6, 7, 8, 9] : List Nat) rfl rfl rfl rfl (by decide) (fun vr wo hp => ?_)
              obtain ⟨zn2_21, rfl, rfl, f22⟩ := hp
              refine z_re F (ws' := [oX6 o th se ea dk wt wh wc nw ru ed wa sq ar en sd wg tk cp co ki ke mn ak dg uk ud, aI K dk 20480 zd, aI K wt 32768 zw, aI K wh 64 zh, aI K nw 512 zn2_21, aI K ki 608 kz, aI K ke 608 yz, aI K mn 608 mz, aI K ak 3648 az, aL K dg 608 fg]) (st' := []) ([8, 0, 1, 2, 9, 3, 4, 5, 6, 7] : List Nat) rfl rfl rfl ?_
              refine z_aload_n F 2 dX6_write_171 rfl ?_
              refine z_aload_n F 2 dX6_write_172 rfl ?_
              refine z_iload_n F 3 dX6_write_173 rfl ?_
              refine z_iload_n F 4 dX6_write_174 rfl ?_
              refine z_callV F lw_good (k_X6_sectorOf _ D K o th se ea dk wt wh wc nw ru ed wa sq ar en sd wg tk cp co ki ke mn ak dg uk ud wh0 pl (by omega) h11 (by omega)) t3_207 t1_6 t3_204 t3_206 (q := (RX6, TX6, 26)) ts_30 ⟨rfl, rfl⟩ ndX6_sectorOf ⟨Nat.le_of_ble_eq_true rfl, Nat.le_of_ble_eq_true rfl⟩ 0 rfl rfl (rest := [.ref o]) rfl (Nat.le_of_ble_eq_true rfl) dX6_write_175 ⟨(show 0 + 0 ≤ 0 by omega), (show 0 + 0 ≤ 0 by omega)⟩ (wr := [aI K dk 20480 zd, aI K wt 32768 zw, aI K wh 64 zh, aI K nw 512 zn2_21, aI K ki 608 kz, aI K ke 608 yz, aI K mn 608 mz, aI K ak 3648 az, aL K dg 608 fg]) ([0] : List Nat) ([1, 2, 3, 4, 5, 6, 7, 8, 9] : List Nat) rfl rfl rfl rfl (by decide) (fun vr wo hp => ?_)
              obtain ⟨r_23, rfl, rfl, f24⟩ := hp
              refine z_re F (ws' := [oX6 o th se ea dk wt wh wc nw ru ed wa sq ar en sd wg tk cp co ki ke mn ak dg uk ud, aI K dk 20480 zd, aI K wt 32768 zw, aI K wh 64 zh, aI K nw 512 zn2_21, aI K ki 608 kz, aI K ke 608 yz, aI K mn 608 mz, aI K ak 3648 az, aL K dg 608 fg]) (st' := [.int (iZ r_23), .ref o]) ([9, 0, 1, 2, 3, 4, 5, 6, 7, 8] : List Nat) rfl rfl rfl ?_
              refine z_callV F lw_good (k_X6_send _ D K o th se ea dk wt wh wc nw ru ed wa sq ar en sd wg tk cp co ki ke mn ak dg uk ud zd zw zh zn2_21 r_23 (by omega) h1 h2 h3 h4 f22 (by omega)) t3_191 t1_6 t3_188 t3_190 (q := (RX6, TX6, 26)) ts_26 ⟨rfl, rfl⟩ ndX6_send ⟨Nat.le_of_ble_eq_true rfl, Nat.le_of_ble_eq_true rfl⟩ 0 rfl rfl (rest := []) rfl (Nat.le_of_ble_eq_true rfl) dX6_write_178 ⟨(show 0 + 0 ≤ 0 by omega), (show 0 + 0 ≤ 0 by omega)⟩ (wr := [aI K ki 608 kz, aI K ke 608 yz, aI K mn 608 mz, aI K ak 3648 az, aL K dg 608 fg]) ([0, 1, 2, 3, 4] : List Nat) ([5, 6, 7, 8, 9] : List Nat) rfl rfl rfl rfl (by decide) (fun vr wo hp => ?_)
              obtain ⟨wc2_25, zd2_26, zw2_27, zh2_28, rfl, rfl, f29, f30, f31, f32⟩ := hp
              refine z_re F (ws' := [oX6 o th se ea dk wt wh wc2_25 nw ru ed wa sq ar en sd wg tk cp co ki ke mn ak dg uk ud, aI K dk 20480 zd2_26, aI K wt 32768 zw2_27, aI K wh 64 zh2_28, aI K nw 512 zn2_21, aI K ki 608 kz, aI K ke 608 yz, aI K mn 608 mz, aI K ak 3648 az, aL K dg 608 fg]) (st' := []) ([5, 6, 7, 8, 9, 0, 1, 2, 3, 4] : List Nat) rfl rfl rfl ?_
              exact z_vret F hr dX6_write_181 (by omega) ⟨wc2_25, zd2_26, zw2_27, zh2_28, zn2_21, rfl, rfl, f29, f30, f31, f32, f22⟩
            · refine z_aload_n F 2 dX6_write_104 rfl ?_
              refine z_get F 0 7 iX6 rfl rfl (by decide) t3_83 rfl dX6_write_105 ?_
              refine z_iload F 1 dX6_write_108 rfl ?_
              refine z_iconst F dX6_write_110 ?_
              refine z_iadd F dX6_write_111 ?_
              refine z_iload F 0 dX6_write_112 rfl ?_
              refine z_iadd F dX6_write_114 ?_
              refine z_aload_n F 2 dX6_write_115 rfl ?_
              refine z_get F 0 22 iX6 rfl rfl (by decide) t3_98 rfl dX6_write_116 ?_
              refine z_bipush F dX6_write_119 (by decide) ?_
              refine z_iload_n F 5 dX6_write_121 rfl ?_
              refine z_imul F dX6_write_122 ?_
              refine z_iload F 0 dX6_write_123 rfl ?_
              refine z_iadd F dX6_write_125 ?_
              refine z_iald F 8 rfl rfl dX6_write_126 (by omega) (by omega) ?_
              have r33 : 0 ≤ az ((6 * rr) + i).toNat ∧ az ((6 * rr) + i).toNat ≤ 255 := h9 _
              refine z_iast F (ws' := [oX6 o th se ea dk wt wh wc nw ru ed wa sq ar en sd wg tk cp co ki ke mn ak dg uk ud, aI K dk 20480 zd, aI K wt 32768 zw, aI K wh 64 zh, aI K nw 512 (zu w (((32 * q6) + 3) + i).toNat (az ((6 * rr) + i).toNat)), aI K ki 608 kz, aI K ke 608 yz, aI K mn 608 mz, aI K ak 3648 az, aL K dg 608 fg]) 4 rfl rfl dX6_write_127 (by omega) (by omega) rfl ?_
              have r34 : rng 0 255 (zu w (((32 * q6) + 3) + i).toNat (az ((6 * rr) + i).toNat)) := rng_zu g93_1 (by omega)
              refine z_iinc F (lv' := [(5, .int (iZ (i + 1))), (4, .int (iZ (32 * q6))), (0, .ref o), (1, .int (iZ wh0)), (2, .int (iZ pl)), (3, .int (iZ rr))]) 0 dX6_write_128 rfl (by decide) rfl ?_
              refine z_goto F 93 dX6_write_131 (by decide) ?_
              exact ih93 (i + 1) (zu w (((32 * q6) + 3) + i).toNat (az ((6 * rr) + i).toNat)) (by omega) r34 (by omega)
        exact lp93 ((6 - 0 : Int).toNat + 1) 0 (zu (zu (zu w (32 * q6).toNat (kz rr.toNat)) ((32 * q6) + 1).toNat (yz rr.toNat)) ((32 * q6) + 2).toNat (mz rr.toNat)) (by omega) r13 (Nat.lt_succ_self _)
      · refine z_aload_n F 2 dX6_write_33 rfl ?_
        refine z_get F 0 7 iX6 rfl rfl (by decide) t3_83 rfl dX6_write_34 ?_
        refine z_iload F 0 dX6_write_37 rfl ?_
        refine z_iconst F dX6_write_39 ?_
        refine z_iast F (ws' := [oX6 o th se ea dk wt wh wc nw ru ed wa sq ar en sd wg tk cp co ki ke mn ak dg uk ud, aI K dk 20480 zd, aI K wt 32768 zw, aI K wh 64 zh, aI K nw 512 (zu w i.toNat 0), aI K ki 608 kz, aI K ke 608 yz, aI K mn 608 mz, aI K ak 3648 az, aL K dg 608 fg]) 4 rfl rfl dX6_write_40 (by omega) (by omega) rfl ?_
        have r35 : rng 0 255 (zu w i.toNat 0) := rng_zu g23_1 (by omega)
        refine z_iinc F (lv' := [(5, .int (iZ (i + 1))), (4, .int (iZ (32 * q6))), (0, .ref o), (1, .int (iZ wh0)), (2, .int (iZ pl)), (3, .int (iZ rr))]) 0 dX6_write_41 rfl (by decide) rfl ?_
        refine z_goto F 23 dX6_write_44 (by decide) ?_
        exact ih23 (i + 1) (zu w i.toNat 0) (by omega) r35 (by omega)
  exact lp23 (((32 * q6) + 32 - (32 * q6) : Int).toNat + 1) (32 * q6) zn2_3 (by omega) f4 (Nat.lt_succ_self _)
set_option maxHeartbeats 4000000 in
set_option maxRecDepth 20000 in
theorem k_X6_isRow (l : Launch) (D : va_G) (K : KI) (o : Nat) (th : Int) (se : Int) (ea : Int) (dk : Nat) (wt : Nat) (wh : Nat) (wc : Int) (nw : Nat) (ru : Int) (ed : Int) (wa : Int) (sq : Int) (ar : Int) (en : Int) (sd : Int) (wg : Int) (tk : Int) (cp : Int) (co : Int) (ki : Nat) (ke : Nat) (mn : Nat) (ak : Nat) (dg : Nat) (uk : Nat) (ud : Nat) (zn : Nat → Int) (pl : Int) (h0 : rng 0 255 zn) (h1 : 0 ≤ pl ∧ pl ≤ 303) : Ct lw_T l yX6_isRow cX6_isRow 7 (some .boolean) { frames := 2, cells := 0, slots := 0, locals := 46 } 0 0 D cls5 (TY K) [.ref o, .int (iZ pl)] [oX6 o th se ea dk wt wh wc nw ru ed wa sq ar en sd wg tk cp co ki ke mn ak dg uk ud, aI K nw 512 zn] (fun vr wo => ∃ (r : Int), vr = some (.int (iZ r)) ∧ wo = [oX6 o th se ea dk wt wh wc nw ru ed wa sq ar en sd wg tk cp co ki ke mn ak dg uk ud, aI K nw 512 zn] ∧ (r = 0 ∨ r = 1) ∧ (r = 1 → rowN zn (32 * (pl % 16)))) := by
  refine ct_of (own := RX6) (lv := [(0, .ref o), (1, .int (iZ pl))]) (by decide) rfl (Nat.le_of_ble_eq_true rfl) rfl (fun C F hr hnm hzl => ?_)
  subst hzl
  refine z_bipush F dX6_isRow_0 (by decide) ?_
  refine z_iload_n F 1 dX6_isRow_2 rfl ?_
  refine z_bipush F dX6_isRow_3 (by decide) ?_
  refine z_irem F dX6_isRow_5 (by omega) (by omega) ?_
  refine z_nm F (fun q1 eq1 => ?_)
  have hq1 := md_spec pl 16 (by omega)
  rw [← eq1] at hq1
  refine z_imul F dX6_isRow_6 ?_
  refine z_istore_n F (lv' := [(2, .int (iZ (32 * q1))), (0, .ref o), (1, .int (iZ pl))]) dX6_isRow_7 (by decide) rfl ?_
  refine z_aload_n F 1 dX6_isRow_8 rfl ?_
  refine z_get F 0 7 iX6 rfl rfl (by decide) t3_83 rfl dX6_isRow_9 ?_
  refine z_iload_n F 0 dX6_isRow_12 rfl ?_
  refine z_iald F 1 rfl rfl dX6_isRow_13 (by omega) (by omega) ?_
  have r2 : 0 ≤ zn (32 * q1).toNat ∧ zn (32 * q1).toNat ≤ 255 := h0 _
  refine z_istore_n F (lv' := [(3, .int (iZ (zn (32 * q1).toNat))), (2, .int (iZ (32 * q1))), (0, .ref o), (1, .int (iZ pl))]) dX6_isRow_14 (by decide) rfl ?_
  refine z_aload_n F 2 dX6_isRow_15 rfl ?_
  refine z_get F 0 7 iX6 rfl rfl (by decide) t3_83 rfl dX6_isRow_16 ?_
  refine z_iload_n F 1 dX6_isRow_19 rfl ?_
  refine z_iconst F dX6_isRow_20 ?_
  refine z_iadd F dX6_isRow_21 ?_
  refine z_iald F 1 rfl rfl dX6_isRow_22 (by omega) (by omega) ?_
  have r3 : 0 ≤ zn ((32 * q1) + 2).toNat ∧ zn ((32 * q1) + 2).toNat ≤ 255 := h0 _
  refine z_istore F (lv' := [(4, .int (iZ (zn ((32 * q1) + 2).toNat))), (3, .int (iZ (zn (32 * q1).toNat))), (2, .int (iZ (32 * q1))), (0, .ref o), (1, .int (iZ pl))]) dX6_isRow_23 (by decide) rfl ?_
  refine z_iload_n F 1 dX6_isRow_25 rfl ?_
  refine z_iconst F dX6_isRow_26 ?_
  have lp93 : ∀ (s0 : Int), (s0 = 0 ∨ s0 = 1) → (s0 = 1 → (1 ≤ (zn (32 * q1).toNat) ∧ (zn (32 * q1).toNat) ≤ 3) ∧ 0 ≤ (zn ((32 * q1) + 2).toNat) ∧ (zn ((32 * q1) + 2).toNat) ≤ 6) → Go C { frames := 2, cells := 0, slots := 0, locals := 46 } D cls5 7 0 0 [oX6 o th se ea dk wt wh wc nw ru ed wa sq ar en sd wg tk cp co ki ke mn ak dg uk ud, aI K nw 512 zn] 93 [(4, .int (iZ (zn ((32 * q1) + 2).toNat))), (3, .int (iZ (zn (32 * q1).toNat))), (2, .int (iZ (32 * q1))), (0, .ref o), (1, .int (iZ pl))] [.int (iZ s0)] := by
    intro s0 g93_0 g93_1
    refine z_istore F (lv' := [(5, .int (iZ s0)), (4, .int (iZ (zn ((32 * q1) + 2).toNat))), (3, .int (iZ (zn (32 * q1).toNat))), (2, .int (iZ (32 * q1))), (0, .ref o), (1, .int (iZ pl))]) dX6_isRow_93 (by decide) rfl ?_
    refine z_iconst F dX6_isRow_95 ?_
    refine z_istore F (lv' := [(6, .int (iZ 0)), (5, .int (iZ s0)), (4, .int (iZ (zn ((32 * q1) + 2).toNat))), (3, .int (iZ (zn (32 * q1).toNat))), (2, .int (iZ (32 * q1))), (0, .ref o), (1, .int (iZ pl))]) dX6_isRow_96 (by decide) rfl ?_
    have lp98 : ∀ (nn98 : Nat) (is : Int) (i : Int), (0 ≤ i ∧ i ≤ 6) → (is = 0 ∨ is = 1) → (is = 1 → (1 ≤ (zn (32 * q1).toNat) ∧ (zn (32 * q1).toNat) ≤ 3) ∧ 0 ≤ (zn ((32 * q1) + 2).toNat) ∧ (zn ((32 * q1) + 2).toNat) ≤ 6) → (is = 1 → ∀ j : Nat, (j : Int) < i → 0 ≤ zn ((32 * q1) + 3 + j).toNat ∧ zn ((32 * q1) + 3 + j).toNat ≤ 63) → ((6 - i : Int).toNat < nn98) → Go C { frames := 2, cells := 0, slots := 0, locals := 46 } D cls5 7 0 0 [oX6 o th se ea dk wt wh wc nw ru ed wa sq ar en sd wg tk cp co ki ke mn ak dg uk ud, aI K nw 512 zn] 98 [(6, .int (iZ i)), (5, .int (iZ is)), (4, .int (iZ (zn ((32 * q1) + 2).toNat))), (3, .int (iZ (zn (32 * q1).toNat))), (2, .int (iZ (32 * q1))), (0, .ref o), (1, .int (iZ pl))] [] := by
      intro nn98
      induction nn98 with
      | zero => intro is i g98_0 g98_1 g98_2 g98_3 hmu98; exact absurd hmu98 (Nat.not_lt_zero _)
      | succ nn98 ih98 =>
        intro is i g98_0 g98_1 g98_2 g98_3 hmu98
        refine z_iload F 1 dX6_isRow_98 rfl ?_
        refine z_if_eq F 132 dX6_isRow_100 (by decide) (by omega) (fun c4 => ?_) (fun c4 => ?_)
        · refine z_iload F 1 dX6_isRow_132 rfl ?_
          refine z_if_eq F 161 dX6_isRow_134 (by decide) (by omega) (fun c5 => ?_) (fun c5 => ?_)
          · refine z_iconst F dX6_isRow_161 ?_
            exact z_zret F hr (by decide) dX6_isRow_162 (by omega) ⟨0, rfl, rfl, (by omega), (by first | (intro q; exact absurd q (by decide)) | (intro _; have hA1 := g98_2 (by omega); have hA2 := g98_3 (by omega); rw [show 32 * (pl % 16) = (32 * q1) by omega]; exact ⟨hA1.1, hA1.2, fun j hj => hA2 j (by omega)⟩))⟩
          · refine z_aload_n F 5 dX6_isRow_137 rfl ?_
            refine z_iload_n F 4 dX6_isRow_138 rfl ?_
            refine z_bipush F dX6_isRow_139 (by decide) ?_
            refine z_iadd F dX6_isRow_141 ?_
            refine z_iconst F dX6_isRow_142 ?_
            refine z_callV F lw_good (k_X6_number _ D K o th se ea dk wt wh wc nw ru ed wa sq ar en sd wg tk cp co ki ke mn ak dg uk ud zn ((32 * q1) + 28) 4 (by omega)) t3_170 t1_6 t3_167 t3_169 (q := (RX6, TX6, 26)) ts_22 ⟨rfl, rfl⟩ ndX6_number ⟨Nat.le_of_ble_eq_true rfl, Nat.le_of_ble_eq_true rfl⟩ 0 rfl rfl (rest := []) rfl (Nat.le_of_ble_eq_true rfl) dX6_isRow_143 ⟨(show 0 + 0 ≤ 0 by omega), (show 0 + 0 ≤ 0 by omega)⟩ (wr := []) ([0, 1] : List Nat) ([] : List Nat) rfl rfl rfl rfl (by decide) (fun vr wo hp => ?_)
            obtain ⟨r_6, rfl, rfl, f7, f8⟩ := hp
            refine z_re F (ws' := [oX6 o th se ea dk wt wh wc nw ru ed wa sq ar en sd wg tk cp co ki ke mn ak dg uk ud, aI K nw 512 zn]) (st' := [.int (iZ r_6)]) ([0, 1] : List Nat) rfl rfl rfl ?_
            refine z_aload_n F 5 dX6_isRow_146 rfl ?_
            refine z_iload_n F 4 dX6_isRow_147 rfl ?_
            refine z_bipush F dX6_isRow_148 (by decide) ?_
            refine z_iload_n F 6 dX6_isRow_150 rfl ?_
            refine z_callV F lw_good (k_X6_sum _ D K o th se ea dk wt wh wc nw ru ed wa sq ar en sd wg tk cp co ki ke mn ak dg uk ud zn (32 * q1) 28 pl (by omega)) t3_175 t1_6 t3_172 t3_174 (q := (RX6, TX6, 26)) ts_23 ⟨rfl, rfl⟩ ndX6_sum ⟨Nat.le_of_ble_eq_true rfl, Nat.le_of_ble_eq_true rfl⟩ 0 rfl rfl (rest := [.int (iZ r_6)]) rfl (Nat.le_of_ble_eq_true rfl) dX6_isRow_151 ⟨(show 0 + 0 ≤ 0 by omega), (show 0 + 0 ≤ 0 by omega)⟩ (wr := []) ([0, 1] : List Nat) ([] : List Nat) rfl rfl rfl rfl (by decide) (fun vr wo hp => ?_)
            obtain ⟨r_9, rfl, rfl, f10, f11⟩ := hp
            refine z_re F (ws' := [oX6 o th se ea dk wt wh wc nw ru ed wa sq ar en sd wg tk cp co ki ke mn ak dg uk ud, aI K nw 512 zn]) (st' := [.int (iZ r_9), .int (iZ r_6)]) ([0, 1] : List Nat) rfl rfl rfl ?_
            refine z_icmp_ne F 161 dX6_isRow_154 (by decide) (by omega) (fun c12 => ?_) (fun c12 => ?_)
            · refine z_iconst F dX6_isRow_161 ?_
              exact z_zret F hr (by decide) dX6_isRow_162 (by omega) ⟨0, rfl, rfl, (by omega), (by first | (intro q; exact absurd q (by decide)) | (intro _; have hA1 := g98_2 (by omega); have hA2 := g98_3 (by omega); rw [show 32 * (pl % 16) = (32 * q1) by omega]; exact ⟨hA1.1, hA1.2, fun j hj => hA2 j (by omega)⟩))⟩
            · refine z_iconst F dX6_isRow_157 ?_
              refine z_goto F 162 dX6_isRow_158 (by decide) ?_
              exact z_zret F hr (by decide) dX6_isRow_162 (by omega) ⟨1, rfl, rfl, (by omega), (by first | (intro q; exact absurd q (by decide)) | (intro _; have hA1 := g98_2 (by omega); have hA2 := g98_3 (by omega); rw [show 32 * (pl % 16) = (32 * q1) by omega]; exact ⟨hA1.1, hA1.2, fun j hj => hA2 j (by omega)⟩))⟩
        · refine z_iload F 0 dX6_isRow_103 rfl ?_
          refine z_iload F 2 dX6_isRow_105 rfl ?_
          refine z_icmp_ge F 132 dX6_isRow_107 (by decide) (by omega) (fun c13 => ?_) (fun c13 => ?_)
          · refine z_iload F 1 dX6_isRow_132 rfl ?_
            refine z_if_eq F 161 dX6_isRow_134 (by decide) (by omega) (fun c14 => ?_) (fun c14 => ?_)
            · refine z_iconst F dX6_isRow_161 ?_
              exact z_zret F hr (by decide) dX6_isRow_162 (by omega) ⟨0, rfl, rfl, (by omega), (by first | (intro q; exact absurd q (by decide)) | (intro _; have hA1 := g98_2 (by omega); have hA2 := g98_3 (by omega); rw [show 32 * (pl % 16) = (32 * q1) by omega]; exact ⟨hA1.1, hA1.2, fun j hj => hA2 j (by omega)⟩))⟩
            · refine z_aload_n F 5 dX6_isRow_137 rfl ?_
              refine z_iload_n F 4 dX6_isRow_138 rfl ?_
              refine z_bipush F dX6_isRow_139 (by decide) ?_
              refine z_iadd F dX6_isRow_141 ?_
              refine z_iconst F dX6_isRow_142 ?_
              refine z_callV F lw_good (k_X6_number _ D K o th se ea dk wt wh wc nw ru ed wa sq ar en sd wg tk cp co ki ke mn ak dg uk ud zn ((32 * q1) + 28) 4 (by omega)) t3_170 t1_6 t3_167 t3_169 (q := (RX6, TX6, 26)) ts_22 ⟨rfl, rfl⟩ ndX6_number ⟨Nat.le_of_ble_eq_true rfl, Nat.le_of_ble_eq_true rfl⟩ 0 rfl rfl (rest := []) rfl (Nat.le_of_ble_eq_true rfl) dX6_isRow_143 ⟨(show 0 + 0 ≤ 0 by omega), (show 0 + 0 ≤ 0 by omega)⟩ (wr := []) ([0, 1] : List Nat) ([] : List Nat) rfl rfl rfl rfl (by decide) (fun vr wo hp => ?_)
              obtain ⟨r_15, rfl, rfl, f16, f17⟩ := hp
              refine z_re F (ws' := [oX6 o th se ea dk wt wh wc nw ru ed wa sq ar en sd wg tk cp co ki ke mn ak dg uk ud, aI K nw 512 zn]) (st' := [.int (iZ r_15)]) ([0, 1] : List Nat) rfl rfl rfl ?_
              refine z_aload_n F 5 dX6_isRow_146 rfl ?_
              refine z_iload_n F 4 dX6_isRow_147 rfl ?_
              refine z_bipush F dX6_isRow_148 (by decide) ?_
              refine z_iload_n F 6 dX6_isRow_150 rfl ?_
              refine z_callV F lw_good (k_X6_sum _ D K o th se ea dk wt wh wc nw ru ed wa sq ar en sd wg tk cp co ki ke mn ak dg uk ud zn (32 * q1) 28 pl (by omega)) t3_175 t1_6 t3_172 t3_174 (q := (RX6, TX6, 26)) ts_23 ⟨rfl, rfl⟩ ndX6_sum ⟨Nat.le_of_ble_eq_true rfl, Nat.le_of_ble_eq_true rfl⟩ 0 rfl rfl (rest := [.int (iZ r_15)]) rfl (Nat.le_of_ble_eq_true rfl) dX6_isRow_151 ⟨(show 0 + 0 ≤ 0 by omega), (show 0 + 0 ≤ 0 by omega)⟩ (wr := []) ([0, 1] : List Nat) ([] : List Nat) rfl rfl rfl rfl (by decide) (fun vr wo hp => ?_)
              obtain ⟨r_18, rfl, rfl, f19, f20⟩ := hp
              refine z_re F (ws' := [oX6 o th se ea dk wt wh wc nw ru ed wa sq ar en sd wg tk cp co ki ke mn ak dg uk ud, aI K nw 512 zn]) (st' := [.int (iZ r_18), .int (iZ r_15)]) ([0, 1] : List Nat) rfl rfl rfl ?_
              refine z_icmp_ne F 161 dX6_isRow_154 (by decide) (by omega) (fun c21 => ?_) (fun c21 => ?_)
              · refine z_iconst F dX6_isRow_161 ?_
                exact z_zret F hr (by decide) dX6_isRow_162 (by omega) ⟨0, rfl, rfl, (by omega), (by first | (intro q; exact absurd q (by decide)) | (intro _; have hA1 := g98_2 (by omega); have hA2 := g98_3 (by omega); rw [show 32 * (pl % 16) = (32 * q1) by omega]; exact ⟨hA1.1, hA1.2, fun j hj => hA2 j (by omega)⟩))⟩
              · refine z_iconst F dX6_isRow_157 ?_
                refine z_goto F 162 dX6_isRow_158 (by decide) ?_
                exact z_zret F hr (by decide) dX6_isRow_162 (by omega) ⟨1, rfl, rfl, (by omega), (by first | (intro q; exact absurd q (by decide)) | (intro _; have hA1 := g98_2 (by omega); have hA2 := g98_3 (by omega); rw [show 32 * (pl % 16) = (32 * q1) by omega]; exact ⟨hA1.1, hA1.2, fun j hj => hA2 j (by omega)⟩))⟩
          · refine z_aload_n F 5 dX6_isRow_110 rfl ?_
            refine z_get F 0 7 iX6 rfl rfl (by decide) t3_83 rfl dX6_isRow_111 ?_
            refine z_iload_n F 4 dX6_isRow_114 rfl ?_
            refine z_iconst F dX6_isRow_115 ?_
            refine z_iadd F dX6_isRow_116 ?_
            refine z_iload F 0 dX6_isRow_117 rfl ?_
            refine z_iadd F dX6_isRow_119 ?_
            refine z_iald F 1 rfl rfl dX6_isRow_120 (by omega) (by omega) ?_
            have r22 : 0 ≤ zn (((32 * q1) + 3) + i).toNat ∧ zn (((32 * q1) + 3) + i).toNat ≤ 255 := h0 _
            refine z_callS F lw_good (k_X6_isKey _ D K (zn (((32 * q1) + 3) + i).toNat) (by omega)) t3_214 t1_6 t3_212 t3_213 ⟨rfl, rfl⟩ ndX6_isKey ⟨Nat.le_of_ble_eq_true rfl, Nat.le_of_ble_eq_true rfl⟩ (rest := []) rfl (Nat.le_of_ble_eq_true rfl) dX6_isRow_121 ⟨(show 0 + 0 ≤ 0 by omega), (show 0 + 0 ≤ 0 by omega)⟩ (wr := [oX6 o th se ea dk wt wh wc nw ru ed wa sq ar en sd wg tk cp co ki ke mn ak dg uk ud, aI K nw 512 zn]) ([] : List Nat) ([0, 1] : List Nat) rfl rfl rfl rfl (by decide) (fun vr wo hp => ?_)
            obtain ⟨r_23, rfl, rfl, f24⟩ := hp
            refine z_re F (ws' := [oX6 o th se ea dk wt wh wc nw ru ed wa sq ar en sd wg tk cp co ki ke mn ak dg uk ud, aI K nw 512 zn]) (st' := [.int (iZ r_23)]) ([0, 1] : List Nat) rfl rfl rfl ?_
            refine z_istore F (lv' := [(5, .int (iZ r_23)), (6, .int (iZ i)), (4, .int (iZ (zn ((32 * q1) + 2).toNat))), (3, .int (iZ (zn (32 * q1).toNat))), (2, .int (iZ (32 * q1))), (0, .ref o), (1, .int (iZ pl))]) dX6_isRow_124 (by decide) rfl ?_
            refine z_iinc F (lv' := [(6, .int (iZ (i + 1))), (5, .int (iZ r_23)), (4, .int (iZ (zn ((32 * q1) + 2).toNat))), (3, .int (iZ (zn (32 * q1).toNat))), (2, .int (iZ (32 * q1))), (0, .ref o), (1, .int (iZ pl))]) 1 dX6_isRow_126 rfl (by decide) rfl ?_
            refine z_goto F 98 dX6_isRow_129 (by decide) ?_
            exact ih98 r_23 (i + 1) (by omega) (by omega) (by omega) (fun q j hj => by rcases (show (j : Int) < i ∨ (j : Int) = i by omega) with q2 | q2; exact g98_3 (by omega) j q2; rw [q2]; omega) (by omega)
    exact lp98 ((6 - 0 : Int).toNat + 1) s0 0 (by omega) g93_0 (g93_1) (fun _ j hj => absurd hj (by omega)) (Nat.lt_succ_self _)
  refine z_icmp_ne F 59 dX6_isRow_27 (by decide) (by omega) (fun c25 => ?_) (fun c25 => ?_)
  · refine z_iload_n F 1 dX6_isRow_59 rfl ?_
    refine z_iconst F dX6_isRow_60 ?_
    refine z_icmp_eq F 69 dX6_isRow_61 (by decide) (by omega) (fun c26 => ?_) (fun c26 => ?_)
    · refine z_aload_n F 3 dX6_isRow_69 rfl ?_
      refine z_get F 0 7 iX6 rfl rfl (by decide) t3_83 rfl dX6_isRow_70 ?_
      refine z_iload_n F 2 dX6_isRow_73 rfl ?_
      refine z_iconst F dX6_isRow_74 ?_
      refine z_iadd F dX6_isRow_75 ?_
      refine z_iald F 1 rfl rfl dX6_isRow_76 (by omega) (by omega) ?_
      have r27 : 0 ≤ zn ((32 * q1) + 1).toNat ∧ zn ((32 * q1) + 1).toNat ≤ 255 := h0 _
      refine z_callS F lw_good (k_X6_isUser _ D K (zn ((32 * q1) + 1).toNat) (by omega)) t3_217 t1_6 t3_215 t3_216 ⟨rfl, rfl⟩ ndX6_isUser ⟨Nat.le_of_ble_eq_true rfl, Nat.le_of_ble_eq_true rfl⟩ (rest := []) rfl (Nat.le_of_ble_eq_true rfl) dX6_isRow_77 ⟨(show 0 + 0 ≤ 0 by omega), (show 0 + 0 ≤ 0 by omega)⟩ (wr := [oX6 o th se ea dk wt wh wc nw ru ed wa sq ar en sd wg tk cp co ki ke mn ak dg uk ud, aI K nw 512 zn]) ([] : List Nat) ([0, 1] : List Nat) rfl rfl rfl rfl (by decide) (fun vr wo hp => ?_)
      obtain ⟨r_28, rfl, rfl, f29⟩ := hp
      refine z_re F (ws' := [oX6 o th se ea dk wt wh wc nw ru ed wa sq ar en sd wg tk cp co ki ke mn ak dg uk ud, aI K nw 512 zn]) (st' := [.int (iZ r_28)]) ([0, 1] : List Nat) rfl rfl rfl ?_
      refine z_if_eq F 92 dX6_isRow_80 (by decide) (by omega) (fun c30 => ?_) (fun c30 => ?_)
      · refine z_iconst F dX6_isRow_92 ?_
        exact lp93 0 (by omega) (by omega)
      · refine z_iload F 0 dX6_isRow_83 rfl ?_
        refine z_if_ne F 92 dX6_isRow_85 (by decide) (by omega) (fun c31 => ?_) (fun c31 => ?_)
        · refine z_iconst F dX6_isRow_92 ?_
          exact lp93 0 (by omega) (by omega)
        · refine z_iconst F dX6_isRow_88 ?_
          refine z_goto F 93 dX6_isRow_89 (by decide) ?_
          exact lp93 1 (by omega) (by omega)
    · refine z_iload_n F 1 dX6_isRow_64 rfl ?_
      refine z_iconst F dX6_isRow_65 ?_
      refine z_icmp_ne F 92 dX6_isRow_66 (by decide) (by omega) (fun c32 => ?_) (fun c32 => ?_)
      · refine z_iconst F dX6_isRow_92 ?_
        exact lp93 0 (by omega) (by omega)
      · refine z_aload_n F 3 dX6_isRow_69 rfl ?_
        refine z_get F 0 7 iX6 rfl rfl (by decide) t3_83 rfl dX6_isRow_70 ?_
        refine z_iload_n F 2 dX6_isRow_73 rfl ?_
        refine z_iconst F dX6_isRow_74 ?_
        refine z_iadd F dX6_isRow_75 ?_
        refine z_iald F 1 rfl rfl dX6_isRow_76 (by omega) (by omega) ?_
        have r33 : 0 ≤ zn ((32 * q1) + 1).toNat ∧ zn ((32 * q1) + 1).toNat ≤ 255 := h0 _
        refine z_callS F lw_good (k_X6_isUser _ D K (zn ((32 * q1) + 1).toNat) (by omega)) t3_217 t1_6 t3_215 t3_216 ⟨rfl, rfl⟩ ndX6_isUser ⟨Nat.le_of_ble_eq_true rfl, Nat.le_of_ble_eq_true rfl⟩ (rest := []) rfl (Nat.le_of_ble_eq_true rfl) dX6_isRow_77 ⟨(show 0 + 0 ≤ 0 by omega), (show 0 + 0 ≤ 0 by omega)⟩ (wr := [oX6 o th se ea dk wt wh wc nw ru ed wa sq ar en sd wg tk cp co ki ke mn ak dg uk ud, aI K nw 512 zn]) ([] : List Nat) ([0, 1] : List Nat) rfl rfl rfl rfl (by decide) (fun vr wo hp => ?_)
        obtain ⟨r_34, rfl, rfl, f35⟩ := hp
        refine z_re F (ws' := [oX6 o th se ea dk wt wh wc nw ru ed wa sq ar en sd wg tk cp co ki ke mn ak dg uk ud, aI K nw 512 zn]) (st' := [.int (iZ r_34)]) ([0, 1] : List Nat) rfl rfl rfl ?_
        refine z_if_eq F 92 dX6_isRow_80 (by decide) (by omega) (fun c36 => ?_) (fun c36 => ?_)
        · refine z_iconst F dX6_isRow_92 ?_
          exact lp93 0 (by omega) (by omega)
        · refine z_iload F 0 dX6_isRow_83 rfl ?_
          refine z_if_ne F 92 dX6_isRow_85 (by decide) (by omega) (fun c37 => ?_) (fun c37 => ?_)
          · refine z_iconst F dX6_isRow_92 ?_
            exact lp93 0 (by omega) (by omega)
          · refine z_iconst F dX6_isRow_88 ?_
            refine z_goto F 93 dX6_isRow_89 (by decide) ?_
            exact lp93 1 (by omega) (by omega)
  · refine z_aload_n F 3 dX6_isRow_30 rfl ?_
    refine z_get F 0 7 iX6 rfl rfl (by decide) t3_83 rfl dX6_isRow_31 ?_
    refine z_iload_n F 2 dX6_isRow_34 rfl ?_
    refine z_iconst F dX6_isRow_35 ?_
    refine z_iadd F dX6_isRow_36 ?_
    refine z_iald F 1 rfl rfl dX6_isRow_37 (by omega) (by omega) ?_
    have r38 : 0 ≤ zn ((32 * q1) + 1).toNat ∧ zn ((32 * q1) + 1).toNat ≤ 255 := h0 _
    refine z_callS F lw_good (k_X6_isKey _ D K (zn ((32 * q1) + 1).toNat) (by omega)) t3_214 t1_6 t3_212 t3_213 ⟨rfl, rfl⟩ ndX6_isKey ⟨Nat.le_of_ble_eq_true rfl, Nat.le_of_ble_eq_true rfl⟩ (rest := []) rfl (Nat.le_of_ble_eq_true rfl) dX6_isRow_38 ⟨(show 0 + 0 ≤ 0 by omega), (show 0 + 0 ≤ 0 by omega)⟩ (wr := [oX6 o th se ea dk wt wh wc nw ru ed wa sq ar en sd wg tk cp co ki ke mn ak dg uk ud, aI K nw 512 zn]) ([] : List Nat) ([0, 1] : List Nat) rfl rfl rfl rfl (by decide) (fun vr wo hp => ?_)
    obtain ⟨r_39, rfl, rfl, f40⟩ := hp
    refine z_re F (ws' := [oX6 o th se ea dk wt wh wc nw ru ed wa sq ar en sd wg tk cp co ki ke mn ak dg uk ud, aI K nw 512 zn]) (st' := [.int (iZ r_39)]) ([0, 1] : List Nat) rfl rfl rfl ?_
    refine z_if_eq F 55 dX6_isRow_41 (by decide) (by omega) (fun c41 => ?_) (fun c41 => ?_)
    · refine z_iconst F dX6_isRow_55 ?_
      refine z_goto F 93 dX6_isRow_56 (by decide) ?_
      exact lp93 0 (by omega) (by omega)
    · refine z_iload F 0 dX6_isRow_44 rfl ?_
      refine z_bipush F dX6_isRow_46 (by decide) ?_
      refine z_icmp_gt F 55 dX6_isRow_48 (by decide) (by omega) (fun c42 => ?_) (fun c42 => ?_)
      · refine z_iconst F dX6_isRow_55 ?_
        refine z_goto F 93 dX6_isRow_56 (by decide) ?_
        exact lp93 0 (by omega) (by omega)
      · refine z_iconst F dX6_isRow_51 ?_
        refine z_goto F 93 dX6_isRow_52 (by decide) ?_
        exact lp93 1 (by omega) (by omega)
set_option maxHeartbeats 4000000 in
set_option maxRecDepth 20000 in
theorem k_X6_read (l : Launch) (D : va_G) (K : KI) (o : Nat) (th : Int) (se : Int) (ea : Int) (dk : Nat) (wt : Nat) (wh : Nat) (wc : Int) (nw : Nat) (ru : Int) (ed : Int) (wa : Int) (sq : Int) (ar : Int) (en : Int) (sd : Int) (wg : Int) (tk : Int) (cp : Int) (co : Int) (ki : Nat) (ke : Nat) (mn : Nat) (ak : Nat) (dg : Nat) (uk : Nat) (ud : Nat) (zd : Nat → Int) (zw : Nat → Int) (zh : Nat → Int) (zn : Nat → Int) (kz : Nat → Int) (yz : Nat → Int) (mz : Nat → Int) (az : Nat → Int) (fg : Nat → Int64) (pl : Int) (h0 : 4 ≤ se ∧ se ≤ 40 ∧ 1 ≤ ea ∧ 2 * ea ≤ se - 2 ∧ se - 2 ≤ 2 * ea + 1) (h1 : 0 ≤ wc ∧ wc ≤ 64) (h2 : rng 0 255 zd) (h3 : rng 0 255 zw) (h4 : rng 0 (se-1) zh) (h5 : rng 0 255 zn) (h6 : rng 0 3 kz) (h7 : rng 0 255 yz) (h8 : rng 0 6 mz) (h9 : rng 0 255 az) (h10 : akOk mz az) (h11 : 0 ≤ ar ∧ ar ≤ 1) (h12 : 0 ≤ pl ∧ pl ≤ 16 * ea - 1) : Ct lw_T l yX6_read cX6_read 5 none { frames := 3, cells := 0, slots := 0, locals := 72 } 0 0 D cls5 (TY K) [.ref o, .int (iZ pl)] [oX6 o th se ea dk wt wh wc nw ru ed wa sq ar en sd wg tk cp co ki ke mn ak dg uk ud, aI K dk 20480 zd, aI K wt 32768 zw, aI K wh 64 zh, aI K nw 512 zn, aI K ki 608 kz, aI K ke 608 yz, aI K mn 608 mz, aI K ak 3648 az, aL K dg 608 fg] (fun vr wo => ∃ (en2 : Int), ∃ (zn2 : Nat → Int), ∃ (kz2 : Nat → Int), ∃ (yz2 : Nat → Int), ∃ (mz2 : Nat → Int), ∃ (az2 : Nat → Int), ∃ (fg2 : Nat → Int64), vr = none ∧ wo = [oX6 o th se ea dk wt wh wc nw ru ed wa sq ar en2 sd wg tk cp co ki ke mn ak dg uk ud, aI K dk 20480 zd, aI K wt 32768 zw, aI K wh 64 zh, aI K nw 512 zn2, aI K ki 608 kz2, aI K ke 608 yz2, aI K mn 608 mz2, aI K ak 3648 az2, aL K dg 608 fg2] ∧ (en2 = en ∨ en2 = pl + 1) ∧ (rng 0 255 zn2) ∧ (rng 0 3 kz2) ∧ (rng 0 255 yz2) ∧ (rng 0 6 mz2) ∧ (rng 0 255 az2) ∧ (akOk mz2 az2)) := by
  refine ct_of (own := RX6) (lv := [(0, .ref o), (1, .int (iZ pl))]) (by decide) rfl (Nat.le_of_ble_eq_true rfl) rfl (fun C F hr hnm hzl => ?_)
  subst hzl
  refine z_aload_n F 0 dX6_read_0 rfl ?_
  refine z_aload_n F 0 dX6_read_1 rfl ?_
  refine z_aload_n F 0 dX6_read_2 rfl ?_
  refine z_get F 0 12 iX6 rfl rfl (by decide) t3_88 rfl dX6_read_3 ?_
  refine z_iload_n F 1 dX6_read_6 rfl ?_
  refine z_callV F lw_good (k_X6_sectorOf _ D K o th se ea dk wt wh wc nw ru ed wa sq ar en sd wg tk cp co ki ke mn ak dg uk ud ar pl (by omega) (by omega) h12) t3_207 t1_6 t3_204 t3_206 (q := (RX6, TX6, 26)) ts_30 ⟨rfl, rfl⟩ ndX6_sectorOf ⟨Nat.le_of_ble_eq_true rfl, Nat.le_of_ble_eq_true rfl⟩ 0 rfl rfl (rest := [.ref o]) rfl (Nat.le_of_ble_eq_true rfl) dX6_read_7 ⟨(show 0 + 0 ≤ 0 by omega), (show 0 + 0 ≤ 0 by omega)⟩ (wr := [aI K dk 20480 zd, aI K wt 32768 zw, aI K wh 64 zh, aI K nw 512 zn, aI K ki 608 kz, aI K ke 608 yz, aI K mn 608 mz, aI K ak 3648 az, aL K dg 608 fg]) ([0] : List Nat) ([1, 2, 3, 4, 5, 6, 7, 8, 9] : List Nat) rfl rfl rfl rfl (by decide) (fun vr wo hp => ?_)
  obtain ⟨r_1, rfl, rfl, f2⟩ := hp
  refine z_re F (ws' := [oX6 o th se ea dk wt wh wc nw ru ed wa sq ar en sd wg tk cp co ki ke mn ak dg uk ud, aI K dk 20480 zd, aI K wt 32768 zw, aI K wh 64 zh, aI K nw 512 zn, aI K ki 608 kz, aI K ke 608 yz, aI K mn 608 mz, aI K ak 3648 az, aL K dg 608 fg]) (st' := [.int (iZ r_1), .ref o]) ([9, 0, 1, 2, 3, 4, 5, 6, 7, 8] : List Nat) rfl rfl rfl ?_
  refine z_callV F lw_good (k_X6_load _ D K o th se ea dk wt wh wc nw ru ed wa sq ar en sd wg tk cp co ki ke mn ak dg uk ud zd zw zh zn r_1 (by omega) h1 h2 h3 h4 h5 (by omega)) t3_166 t1_6 t3_163 t3_165 (q := (RX6, TX6, 26)) ts_21 ⟨rfl, rfl⟩ ndX6_load ⟨Nat.le_of_ble_eq_true rfl, Nat.le_of_ble_eq_true rfl⟩ 0 rfl rfl (rest := []) rfl (Nat.le_of_ble_eq_true rfl) dX6_read_10 ⟨(show 0 + 0 ≤ 0 by omega), (show 0 + 0 ≤ 0 by omega)⟩ (wr := [aI K ki 608 kz, aI K ke 608 yz, aI K mn 608 mz, aI K ak 3648 az, aL K dg 608 fg]) ([0, 1, 2, 3, 4] : List Nat) ([5, 6, 7, 8, 9] : List Nat) rfl rfl rfl rfl (by decide) (fun vr wo hp => ?_)
  obtain ⟨zn2_3, rfl, rfl, f4, f5⟩ := hp
  refine z_re F (ws' := [oX6 o th se ea dk wt wh wc nw ru ed wa sq ar en sd wg tk cp co ki ke mn ak dg uk ud, aI K dk 20480 zd, aI K wt 32768 zw, aI K wh 64 zh, aI K nw 512 zn2_3, aI K ki 608 kz, aI K ke 608 yz, aI K mn 608 mz, aI K ak 3648 az, aL K dg 608 fg]) (st' := []) ([5, 6, 7, 8, 9, 0, 1, 2, 3, 4] : List Nat) rfl rfl rfl ?_
  refine z_bipush F dX6_read_13 (by decide) ?_
  refine z_iload_n F 1 dX6_read_15 rfl ?_
  refine z_bipush F dX6_read_16 (by decide) ?_
  refine z_irem F dX6_read_18 (by omega) (by omega) ?_
  refine z_nm F (fun q6 eq6 => ?_)
  have hq6 := md_spec pl 16 (by omega)
  rw [← eq6] at hq6
  refine z_imul F dX6_read_19 ?_
  refine z_istore_n F (lv' := [(2, .int (iZ (32 * q6))), (0, .ref o), (1, .int (iZ pl))]) dX6_read_20 (by decide) rfl ?_
  refine z_aload_n F 1 dX6_read_21 rfl ?_
  refine z_iload_n F 2 dX6_read_22 rfl ?_
  refine z_callV F lw_good (k_X6_isRow _ D K o th se ea dk wt wh wc nw ru ed wa sq ar en sd wg tk cp co ki ke mn ak dg uk ud zn2_3 pl f4 (by omega)) t3_211 t1_6 t3_208 t3_210 (q := (RX6, TX6, 26)) ts_31 ⟨rfl, rfl⟩ ndX6_isRow ⟨Nat.le_of_ble_eq_true rfl, Nat.le_of_ble_eq_true rfl⟩ 0 rfl rfl (rest := []) rfl (Nat.le_of_ble_eq_true rfl) dX6_read_23 ⟨(show 0 + 0 ≤ 0 by omega), (show 0 + 0 ≤ 0 by omega)⟩ (wr := [aI K dk 20480 zd, aI K wt 32768 zw, aI K wh 64 zh, aI K ki 608 kz, aI K ke 608 yz, aI K mn 608 mz, aI K ak 3648 az, aL K dg 608 fg]) ([0, 4] : List Nat) ([1, 2, 3, 5, 6, 7, 8, 9] : List Nat) rfl rfl rfl rfl (by decide) (fun vr wo hp => ?_)
  obtain ⟨r_7, rfl, rfl, f8, f9⟩ := hp
  refine z_re F (ws' := [oX6 o th se ea dk wt wh wc nw ru ed wa sq ar en sd wg tk cp co ki ke mn ak dg uk ud, aI K dk 20480 zd, aI K wt 32768 zw, aI K wh 64 zh, aI K nw 512 zn2_3, aI K ki 608 kz, aI K ke 608 yz, aI K mn 608 mz, aI K ak 3648 az, aL K dg 608 fg]) (st' := [.int (iZ r_7)]) ([8, 0, 1, 2, 9, 3, 4, 5, 6, 7] : List Nat) rfl rfl rfl ?_
  refine z_istore_n F (lv' := [(3, .int (iZ r_7)), (2, .int (iZ (32 * q6))), (0, .ref o), (1, .int (iZ pl))]) dX6_read_26 (by decide) rfl ?_
  refine z_aload_n F 2 dX6_read_27 rfl ?_
  refine z_get F 0 19 iX6 rfl rfl (by decide) t3_95 rfl dX6_read_28 ?_
  refine z_iload_n F 3 dX6_read_31 rfl ?_
  refine z_iload_n F 0 dX6_read_32 rfl ?_
  have lp86 : ∀ (nn86 : Nat) (i : Int) (kzv : Nat → Int) (yzv : Nat → Int) (mzv : Nat → Int) (azv : Nat → Int), (0 ≤ i ∧ i ≤ 6) → (rng 0 3 kzv) → (rng 0 255 yzv) → (rng 0 6 mzv) → (rng 0 255 azv) → (∀ p : Nat, ¬ (p : Int) = pl → mzv p = mz p) → (∀ j : Nat, (j : Int) < mzv pl.toNat → 0 ≤ zn2_3 ((32 * q6) + 3 + j).toNat ∧ zn2_3 ((32 * q6) + 3 + j).toNat ≤ 63) → (∀ q j : Nat, j < 6 → ¬ (q : Int) = pl → azv (6 * q + j) = az (6 * q + j)) → (∀ j : Nat, (j : Int) < i → azv (6 * pl.toNat + j) = zn2_3 ((32 * q6) + 3 + j).toNat) → ((6 - i : Int).toNat < nn86) → Go C { frames := 3, cells := 0, slots := 0, locals := 72 } D cls5 5 0 0 [oX6 o th se ea dk wt wh wc nw ru ed wa sq ar en sd wg tk cp co ki ke mn ak dg uk ud, aI K dk 20480 zd, aI K wt 32768 zw, aI K wh 64 zh, aI K nw 512 zn2_3, aI K ki 608 kzv, aI K ke 608 yzv, aI K mn 608 mzv, aI K ak 3648 azv, aL K dg 608 fg] 86 [(4, .int (iZ i)), (3, .int (iZ r_7)), (2, .int (iZ (32 * q6))), (0, .ref o), (1, .int (iZ pl))] [] := by
    intro nn86
    induction nn86 with
    | zero => intro i kzv yzv mzv azv g86_0 g86_1 g86_2 g86_3 g86_4 g86_5 g86_6 g86_7 g86_8 hmu86; exact absurd hmu86 (Nat.not_lt_zero _)
    | succ nn86 ih86 =>
      intro i kzv yzv mzv azv g86_0 g86_1 g86_2 g86_3 g86_4 g86_5 g86_6 g86_7 g86_8 hmu86
      have hmp := g86_3 pl.toNat
      refine z_iload F 0 dX6_read_86 rfl ?_
      refine z_aload_n F 3 dX6_read_88 rfl ?_
      refine z_get F 0 21 iX6 rfl rfl (by decide) t3_97 rfl dX6_read_89 ?_
      refine z_iload_n F 4 dX6_read_92 rfl ?_
      refine z_iald F 7 rfl rfl dX6_read_93 (by omega) (by omega) ?_
      have r10 : 0 ≤ mzv pl.toNat ∧ mzv pl.toNat ≤ 6 := g86_3 _
      refine z_icmp_ge F 126 dX6_read_94 (by decide) (by omega) (fun c11 => ?_) (fun c11 => ?_)
      · refine z_aload_n F 3 dX6_read_126 rfl ?_
        refine z_get F 0 23 iX6 rfl rfl (by decide) t3_99 rfl dX6_read_127 ?_
        refine z_iload_n F 4 dX6_read_130 rfl ?_
        refine z_aload_n F 3 dX6_read_131 rfl ?_
        refine z_iload_n F 2 dX6_read_132 rfl ?_
        refine z_bipush F dX6_read_133 (by decide) ?_
        refine z_iadd F dX6_read_135 ?_
        refine z_iconst F dX6_read_136 ?_
        refine z_callV F lw_good (k_X6_number _ D K o th se ea dk wt wh wc nw ru ed wa sq ar en sd wg tk cp co ki ke mn ak dg uk ud zn2_3 ((32 * q6) + 16) 4 (by omega)) t3_170 t1_6 t3_167 t3_169 (q := (RX6, TX6, 26)) ts_22 ⟨rfl, rfl⟩ ndX6_number ⟨Nat.le_of_ble_eq_true rfl, Nat.le_of_ble_eq_true rfl⟩ 0 rfl rfl (rest := [.int (iZ pl), .ref dg]) rfl (Nat.le_of_ble_eq_true rfl) dX6_read_137 ⟨(show 0 + 0 ≤ 0 by omega), (show 0 + 0 ≤ 0 by omega)⟩ (wr := [aI K dk 20480 zd, aI K wt 32768 zw, aI K wh 64 zh, aI K ki 608 kzv, aI K ke 608 yzv, aI K mn 608 mzv, aI K ak 3648 azv, aL K dg 608 fg]) ([0, 4] : List Nat) ([1, 2, 3, 5, 6, 7, 8, 9] : List Nat) rfl rfl rfl rfl (by decide) (fun vr wo hp => ?_)
        obtain ⟨r_12, rfl, rfl, f13, f14⟩ := hp
        refine z_re F (ws' := [oX6 o th se ea dk wt wh wc nw ru ed wa sq ar en sd wg tk cp co ki ke mn ak dg uk ud, aI K dk 20480 zd, aI K wt 32768 zw, aI K wh 64 zh, aI K nw 512 zn2_3, aI K ki 608 kzv, aI K ke 608 yzv, aI K mn 608 mzv, aI K ak 3648 azv, aL K dg 608 fg]) (st' := [.int (iZ r_12), .int (iZ pl), .ref dg]) ([8, 0, 1, 2, 9, 3, 4, 5, 6, 7] : List Nat) rfl rfl rfl ?_
        refine z_i2l F dX6_read_140 ?_
        refine z_bipush F dX6_read_141 (by decide) ?_
        refine z_lshl F dX6_read_143 ?_
        refine z_aload_n F 3 dX6_read_144 rfl ?_
        refine z_iload_n F 2 dX6_read_145 rfl ?_
        refine z_bipush F dX6_read_146 (by decide) ?_
        refine z_iadd F dX6_read_148 ?_
        refine z_iconst F dX6_read_149 ?_
        refine z_callV F lw_good (k_X6_number _ D K o th se ea dk wt wh wc nw ru ed wa sq ar en sd wg tk cp co ki ke mn ak dg uk ud zn2_3 ((32 * q6) + 20) 4 (by omega)) t3_170 t1_6 t3_167 t3_169 (q := (RX6, TX6, 26)) ts_22 ⟨rfl, rfl⟩ ndX6_number ⟨Nat.le_of_ble_eq_true rfl, Nat.le_of_ble_eq_true rfl⟩ 0 rfl rfl (rest := [.long (((iZ r_12).toInt64) <<< ((iZ 32).toInt64 &&& 63)), .int (iZ pl), .ref dg]) rfl (Nat.le_of_ble_eq_true rfl) dX6_read_150 ⟨(show 0 + 0 ≤ 0 by omega), (show 0 + 0 ≤ 0 by omega)⟩ (wr := [aI K dk 20480 zd, aI K wt 32768 zw, aI K wh 64 zh, aI K ki 608 kzv, aI K ke 608 yzv, aI K mn 608 mzv, aI K ak 3648 azv, aL K dg 608 fg]) ([0, 4] : List Nat) ([1, 2, 3, 5, 6, 7, 8, 9] : List Nat) rfl rfl rfl rfl (by decide) (fun vr wo hp => ?_)
        obtain ⟨r_15, rfl, rfl, f16, f17⟩ := hp
        refine z_re F (ws' := [oX6 o th se ea dk wt wh wc nw ru ed wa sq ar en sd wg tk cp co ki ke mn ak dg uk ud, aI K dk 20480 zd, aI K wt 32768 zw, aI K wh 64 zh, aI K nw 512 zn2_3, aI K ki 608 kzv, aI K ke 608 yzv, aI K mn 608 mzv, aI K ak 3648 azv, aL K dg 608 fg]) (st' := [.int (iZ r_15), .long (((iZ r_12).toInt64) <<< ((iZ 32).toInt64 &&& 63)), .int (iZ pl), .ref dg]) ([8, 0, 1, 2, 9, 3, 4, 5, 6, 7] : List Nat) rfl rfl rfl ?_
        refine z_i2l F dX6_read_153 ?_
        refine z_ldc2 F t3_218 dX6_read_154 ?_
        refine z_land F dX6_read_157 ?_
        refine z_lor F dX6_read_158 ?_
        refine z_last F (ws' := [oX6 o th se ea dk wt wh wc nw ru ed wa sq ar en sd wg tk cp co ki ke mn ak dg uk ud, aI K dk 20480 zd, aI K wt 32768 zw, aI K wh 64 zh, aI K nw 512 zn2_3, aI K ki 608 kzv, aI K ke 608 yzv, aI K mn 608 mzv, aI K ak 3648 azv, aL K dg 608 (vp_updL fg pl.toNat ((((iZ r_12).toInt64) <<< ((iZ 32).toInt64 &&& 63)) ||| (((iZ r_15).toInt64) &&& 4294967295)))]) 9 rfl rfl dX6_read_159 (by omega) (by omega) rfl ?_
        refine z_iload_n F 1 dX6_read_160 rfl ?_
        refine z_if_eq F 171 dX6_read_161 (by decide) (by omega) (fun c18 => ?_) (fun c18 => ?_)
        · exact z_vret F hr dX6_read_171 (by omega) ⟨en, zn2_3, kzv, yzv, mzv, azv, (vp_updL fg pl.toNat ((((iZ r_12).toInt64) <<< ((iZ 32).toInt64 &&& 63)) ||| (((iZ r_15).toInt64) &&& 4294967295))), rfl, rfl, (by omega), f4, g86_1, g86_2, g86_3, g86_4, (akOk_read (by omega) h10 h8 g86_5 g86_6 g86_7 (fun j hj => g86_8 j (by omega)) (by omega))⟩
        · refine z_aload_n F 3 dX6_read_164 rfl ?_
          refine z_iload_n F 4 dX6_read_165 rfl ?_
          refine z_iconst F dX6_read_166 ?_
          refine z_iadd F dX6_read_167 ?_
          refine z_put F (ws' := [oX6 o th se ea dk wt wh wc nw ru ed wa sq ar (pl + 1) sd wg tk cp co ki ke mn ak dg uk ud, aI K dk 20480 zd, aI K wt 32768 zw, aI K wh 64 zh, aI K nw 512 zn2_3, aI K ki 608 kzv, aI K ke 608 yzv, aI K mn 608 mzv, aI K ak 3648 azv, aL K dg 608 (vp_updL fg pl.toNat ((((iZ r_12).toInt64) <<< ((iZ 32).toInt64 &&& 63)) ||| (((iZ r_15).toInt64) &&& 4294967295)))]) 0 13 iX6 tyX6 tyX6_ok nmX6 rfl rfl (by decide) t3_89 rfl rfl rfl rfl (Nat.le_of_ble_eq_true rfl) dX6_read_168 rfl ?_
          exact z_vret F hr dX6_read_171 (by omega) ⟨(pl + 1), zn2_3, kzv, yzv, mzv, azv, (vp_updL fg pl.toNat ((((iZ r_12).toInt64) <<< ((iZ 32).toInt64 &&& 63)) ||| (((iZ r_15).toInt64) &&& 4294967295))), rfl, rfl, (by omega), f4, g86_1, g86_2, g86_3, g86_4, (akOk_read (by omega) h10 h8 g86_5 g86_6 g86_7 (fun j hj => g86_8 j (by omega)) (by omega))⟩
      · refine z_aload_n F 3 dX6_read_97 rfl ?_
        refine z_get F 0 22 iX6 rfl rfl (by decide) t3_98 rfl dX6_read_98 ?_
        refine z_bipush F dX6_read_101 (by decide) ?_
        refine z_iload_n F 4 dX6_read_103 rfl ?_
        refine z_imul F dX6_read_104 ?_
        refine z_iload F 0 dX6_read_105 rfl ?_
        refine z_iadd F dX6_read_107 ?_
        refine z_aload_n F 3 dX6_read_108 rfl ?_
        refine z_get F 0 7 iX6 rfl rfl (by decide) t3_83 rfl dX6_read_109 ?_
        refine z_iload_n F 2 dX6_read_112 rfl ?_
        refine z_iconst F dX6_read_113 ?_
        refine z_iadd F dX6_read_114 ?_
        refine z_iload F 0 dX6_read_115 rfl ?_
        refine z_iadd F dX6_read_117 ?_
        refine z_iald F 4 rfl rfl dX6_read_118 (by omega) (by omega) ?_
        have r19 : 0 ≤ zn2_3 (((32 * q6) + 3) + i).toNat ∧ zn2_3 (((32 * q6) + 3) + i).toNat ≤ 255 := f4 _
        refine z_iast F (ws' := [oX6 o th se ea dk wt wh wc nw ru ed wa sq ar en sd wg tk cp co ki ke mn ak dg uk ud, aI K dk 20480 zd, aI K wt 32768 zw, aI K wh 64 zh, aI K nw 512 zn2_3, aI K ki 608 kzv, aI K ke 608 yzv, aI K mn 608 mzv, aI K ak 3648 (zu azv ((6 * pl) + i).toNat (zn2_3 (((32 * q6) + 3) + i).toNat)), aL K dg 608 fg]) 8 rfl rfl dX6_read_119 (by omega) (by omega) rfl ?_
        have r20 : rng 0 255 (zu azv ((6 * pl) + i).toNat (zn2_3 (((32 * q6) + 3) + i).toNat)) := rng_zu g86_4 (by omega)
        refine z_iinc F (lv' := [(4, .int (iZ (i + 1))), (3, .int (iZ r_7)), (2, .int (iZ (32 * q6))), (0, .ref o), (1, .int (iZ pl))]) 0 dX6_read_120 rfl (by decide) rfl ?_
        refine z_goto F 86 dX6_read_123 (by decide) ?_
        exact ih86 (i + 1) kzv yzv mzv (zu azv ((6 * pl) + i).toNat (zn2_3 (((32 * q6) + 3) + i).toNat)) (by omega) g86_1 g86_2 g86_3 r20 (g86_5) (g86_6) (fun q j hj hq => by rw [zu_n (by omega)]; exact g86_7 q j hj hq) (fun j hj => by rcases (show (j : Int) < i ∨ (j : Int) = i by omega) with q | q; rw [zu_n (by omega)]; exact g86_8 j q; rw [show 6 * pl.toNat + j = ((6 * pl) + i).toNat by omega, zu_s, ← q]) (by omega)
  refine z_if_eq F 45 dX6_read_33 (by decide) (by omega) (fun c21 => ?_) (fun c21 => ?_)
  · refine z_iconst F dX6_read_45 ?_
    refine z_iast F (ws' := [oX6 o th se ea dk wt wh wc nw ru ed wa sq ar en sd wg tk cp co ki ke mn ak dg uk ud, aI K dk 20480 zd, aI K wt 32768 zw, aI K wh 64 zh, aI K nw 512 zn2_3, aI K ki 608 (zu kz pl.toNat 0), aI K ke 608 yz, aI K mn 608 mz, aI K ak 3648 az, aL K dg 608 fg]) 5 rfl rfl dX6_read_46 (by omega) (by omega) rfl ?_
    have r22 : rng 0 3 (zu kz pl.toNat 0) := rng_zu h6 (by omega)
    refine z_aload_n F 2 dX6_read_47 rfl ?_
    refine z_get F 0 20 iX6 rfl rfl (by decide) t3_96 rfl dX6_read_48 ?_
    refine z_iload_n F 3 dX6_read_51 rfl ?_
    refine z_aload_n F 2 dX6_read_52 rfl ?_
    refine z_get F 0 7 iX6 rfl rfl (by decide) t3_83 rfl dX6_read_53 ?_
    refine z_iload_n F 1 dX6_read_56 rfl ?_
    refine z_iconst F dX6_read_57 ?_
    refine z_iadd F dX6_read_58 ?_
    refine z_iald F 4 rfl rfl dX6_read_59 (by omega) (by omega) ?_
    have r23 : 0 ≤ zn2_3 ((32 * q6) + 1).toNat ∧ zn2_3 ((32 * q6) + 1).toNat ≤ 255 := f4 _
    refine z_iast F (ws' := [oX6 o th se ea dk wt wh wc nw ru ed wa sq ar en sd wg tk cp co ki ke mn ak dg uk ud, aI K dk 20480 zd, aI K wt 32768 zw, aI K wh 64 zh, aI K nw 512 zn2_3, aI K ki 608 (zu kz pl.toNat 0), aI K ke 608 (zu yz pl.toNat (zn2_3 ((32 * q6) + 1).toNat)), aI K mn 608 mz, aI K ak 3648 az, aL K dg 608 fg]) 6 rfl rfl dX6_read_60 (by omega) (by omega) rfl ?_
    have r24 : rng 0 255 (zu yz pl.toNat (zn2_3 ((32 * q6) + 1).toNat)) := rng_zu h7 (by omega)
    refine z_aload_n F 2 dX6_read_61 rfl ?_
    refine z_get F 0 21 iX6 rfl rfl (by decide) t3_97 rfl dX6_read_62 ?_
    refine z_iload_n F 3 dX6_read_65 rfl ?_
    refine z_iload_n F 0 dX6_read_66 rfl ?_
    refine z_if_eq F 81 dX6_read_67 (by decide) (by omega) (fun c25 => ?_) (fun c25 => ?_)
    · refine z_iconst F dX6_read_81 ?_
      refine z_iast F (ws' := [oX6 o th se ea dk wt wh wc nw ru ed wa sq ar en sd wg tk cp co ki ke mn ak dg uk ud, aI K dk 20480 zd, aI K wt 32768 zw, aI K wh 64 zh, aI K nw 512 zn2_3, aI K ki 608 (zu kz pl.toNat 0), aI K ke 608 (zu yz pl.toNat (zn2_3 ((32 * q6) + 1).toNat)), aI K mn 608 (zu mz pl.toNat 0), aI K ak 3648 az, aL K dg 608 fg]) 7 rfl rfl dX6_read_82 (by omega) (by omega) rfl ?_
      have r26 : rng 0 6 (zu mz pl.toNat 0) := rng_zu h8 (by omega)
      refine z_iconst F dX6_read_83 ?_
      refine z_istore F (lv' := [(4, .int (iZ 0)), (3, .int (iZ r_7)), (2, .int (iZ (32 * q6))), (0, .ref o), (1, .int (iZ pl))]) dX6_read_84 (by decide) rfl ?_
      exact lp86 ((6 - 0 : Int).toNat + 1) 0 (zu kz pl.toNat 0) (zu yz pl.toNat (zn2_3 ((32 * q6) + 1).toNat)) (zu mz pl.toNat 0) az (by omega) r22 r24 r26 h9 (fun p hp => zu_n (by omega)) (by first | (intro j hj; rw [zu_s] at hj; exact hro.2.2 j hj) | (intro j hj; rw [zu_s] at hj; exact absurd hj (by omega))) (fun _ _ _ _ => rfl) (fun j hj => absurd hj (by omega)) (Nat.lt_succ_self _)
    · have hro : rowN zn2_3 (32 * q6) := by have h9 := f9 (by omega); rw [show 32 * (pl % 16) = 32 * q6 by omega] at h9; exact h9
      have hk1 := hro.1; have hk2 := hro.2.1
      refine z_aload_n F 2 dX6_read_70 rfl ?_
      refine z_get F 0 7 iX6 rfl rfl (by decide) t3_83 rfl dX6_read_71 ?_
      refine z_iload_n F 1 dX6_read_74 rfl ?_
      refine z_iconst F dX6_read_75 ?_
      refine z_iadd F dX6_read_76 ?_
      refine z_iald F 4 rfl rfl dX6_read_77 (by omega) (by omega) ?_
      have r27 : 0 ≤ zn2_3 ((32 * q6) + 2).toNat ∧ zn2_3 ((32 * q6) + 2).toNat ≤ 255 := f4 _
      refine z_goto F 82 dX6_read_78 (by decide) ?_
      refine z_iast F (ws' := [oX6 o th se ea dk wt wh wc nw ru ed wa sq ar en sd wg tk cp co ki ke mn ak dg uk ud, aI K dk 20480 zd, aI K wt 32768 zw, aI K wh 64 zh, aI K nw 512 zn2_3, aI K ki 608 (zu kz pl.toNat 0), aI K ke 608 (zu yz pl.toNat (zn2_3 ((32 * q6) + 1).toNat)), aI K mn 608 (zu mz pl.toNat (zn2_3 ((32 * q6) + 2).toNat)), aI K ak 3648 az, aL K dg 608 fg]) 7 rfl rfl dX6_read_82 (by omega) (by omega) rfl ?_
      have r28 : rng 0 6 (zu mz pl.toNat (zn2_3 ((32 * q6) + 2).toNat)) := rng_zu h8 (by omega)
      refine z_iconst F dX6_read_83 ?_
      refine z_istore F (lv' := [(4, .int (iZ 0)), (3, .int (iZ r_7)), (2, .int (iZ (32 * q6))), (0, .ref o), (1, .int (iZ pl))]) dX6_read_84 (by decide) rfl ?_
      exact lp86 ((6 - 0 : Int).toNat + 1) 0 (zu kz pl.toNat 0) (zu yz pl.toNat (zn2_3 ((32 * q6) + 1).toNat)) (zu mz pl.toNat (zn2_3 ((32 * q6) + 2).toNat)) az (by omega) r22 r24 r28 h9 (fun p hp => zu_n (by omega)) (by first | (intro j hj; rw [zu_s] at hj; exact hro.2.2 j hj) | (intro j hj; rw [zu_s] at hj; exact absurd hj (by omega))) (fun _ _ _ _ => rfl) (fun j hj => absurd hj (by omega)) (Nat.lt_succ_self _)
  · have hro : rowN zn2_3 (32 * q6) := by have h9 := f9 (by omega); rw [show 32 * (pl % 16) = 32 * q6 by omega] at h9; exact h9
    have hk1 := hro.1; have hk2 := hro.2.1
    refine z_aload_n F 2 dX6_read_36 rfl ?_
    refine z_get F 0 7 iX6 rfl rfl (by decide) t3_83 rfl dX6_read_37 ?_
    refine z_iload_n F 1 dX6_read_40 rfl ?_
    refine z_iald F 4 rfl rfl dX6_read_41 (by omega) (by omega) ?_
    have r29 : 0 ≤ zn2_3 (32 * q6).toNat ∧ zn2_3 (32 * q6).toNat ≤ 255 := f4 _
    refine z_goto F 46 dX6_read_42 (by decide) ?_
    refine z_iast F (ws' := [oX6 o th se ea dk wt wh wc nw ru ed wa sq ar en sd wg tk cp co ki ke mn ak dg uk ud, aI K dk 20480 zd, aI K wt 32768 zw, aI K wh 64 zh, aI K nw 512 zn2_3, aI K ki 608 (zu kz pl.toNat (zn2_3 (32 * q6).toNat)), aI K ke 608 yz, aI K mn 608 mz, aI K ak 3648 az, aL K dg 608 fg]) 5 rfl rfl dX6_read_46 (by omega) (by omega) rfl ?_
    have r30 : rng 0 3 (zu kz pl.toNat (zn2_3 (32 * q6).toNat)) := rng_zu h6 (by omega)
    refine z_aload_n F 2 dX6_read_47 rfl ?_
    refine z_get F 0 20 iX6 rfl rfl (by decide) t3_96 rfl dX6_read_48 ?_
    refine z_iload_n F 3 dX6_read_51 rfl ?_
    refine z_aload_n F 2 dX6_read_52 rfl ?_
    refine z_get F 0 7 iX6 rfl rfl (by decide) t3_83 rfl dX6_read_53 ?_
    refine z_iload_n F 1 dX6_read_56 rfl ?_
    refine z_iconst F dX6_read_57 ?_
    refine z_iadd F dX6_read_58 ?_
    refine z_iald F 4 rfl rfl dX6_read_59 (by omega) (by omega) ?_
    have r31 : 0 ≤ zn2_3 ((32 * q6) + 1).toNat ∧ zn2_3 ((32 * q6) + 1).toNat ≤ 255 := f4 _
    refine z_iast F (ws' := [oX6 o th se ea dk wt wh wc nw ru ed wa sq ar en sd wg tk cp co ki ke mn ak dg uk ud, aI K dk 20480 zd, aI K wt 32768 zw, aI K wh 64 zh, aI K nw 512 zn2_3, aI K ki 608 (zu kz pl.toNat (zn2_3 (32 * q6).toNat)), aI K ke 608 (zu yz pl.toNat (zn2_3 ((32 * q6) + 1).toNat)), aI K mn 608 mz, aI K ak 3648 az, aL K dg 608 fg]) 6 rfl rfl dX6_read_60 (by omega) (by omega) rfl ?_
    have r32 : rng 0 255 (zu yz pl.toNat (zn2_3 ((32 * q6) + 1).toNat)) := rng_zu h7 (by omega)
    refine z_aload_n F 2 dX6_read_61 rfl ?_
    refine z_get F 0 21 iX6 rfl rfl (by decide) t3_97 rfl dX6_read_62 ?_
    refine z_iload_n F 3 dX6_read_65 rfl ?_
    refine z_iload_n F 0 dX6_read_66 rfl ?_
    refine z_if_eq F 81 dX6_read_67 (by decide) (by omega) (fun c33 => ?_) (fun c33 => ?_)
    · refine z_iconst F dX6_read_81 ?_
      refine z_iast F (ws' := [oX6 o th se ea dk wt wh wc nw ru ed wa sq ar en sd wg tk cp co ki ke mn ak dg uk ud, aI K dk 20480 zd, aI K wt 32768 zw, aI K wh 64 zh, aI K nw 512 zn2_3, aI K ki 608 (zu kz pl.toNat (zn2_3 (32 * q6).toNat)), aI K ke 608 (zu yz pl.toNat (zn2_3 ((32 * q6) + 1).toNat)), aI K mn 608 (zu mz pl.toNat 0), aI K ak 3648 az, aL K dg 608 fg]) 7 rfl rfl dX6_read_82 (by omega) (by omega) rfl ?_
      have r34 : rng 0 6 (zu mz pl.toNat 0) := rng_zu h8 (by omega)
      refine z_iconst F dX6_read_83 ?_
      refine z_istore F (lv' := [(4, .int (iZ 0)), (3, .int (iZ r_7)), (2, .int (iZ (32 * q6))), (0, .ref o), (1, .int (iZ pl))]) dX6_read_84 (by decide) rfl ?_
      exact lp86 ((6 - 0 : Int).toNat + 1) 0 (zu kz pl.toNat (zn2_3 (32 * q6).toNat)) (zu yz pl.toNat (zn2_3 ((32 * q6) + 1).toNat)) (zu mz pl.toNat 0) az (by omega) r30 r32 r34 h9 (fun p hp => zu_n (by omega)) (by first | (intro j hj; rw [zu_s] at hj; exact hro.2.2 j hj) | (intro j hj; rw [zu_s] at hj; exact absurd hj (by omega))) (fun _ _ _ _ => rfl) (fun j hj => absurd hj (by omega)) (Nat.lt_succ_self _)
    · have hro : rowN zn2_3 (32 * q6) := by have h9 := f9 (by omega); rw [show 32 * (pl % 16) = 32 * q6 by omega] at h9; exact h9
      have hk1 := hro.1; have hk2 := hro.2.1
      refine z_aload_n F 2 dX6_read_70 rfl ?_
      refine z_get F 0 7 iX6 rfl rfl (by decide) t3_83 rfl dX6_read_71 ?_
      refine z_iload_n F 1 dX6_read_74 rfl ?_
      refine z_iconst F dX6_read_75 ?_
      refine z_iadd F dX6_read_76 ?_
      refine z_iald F 4 rfl rfl dX6_read_77 (by omega) (by omega) ?_
      have r35 : 0 ≤ zn2_3 ((32 * q6) + 2).toNat ∧ zn2_3 ((32 * q6) + 2).toNat ≤ 255 := f4 _
      refine z_goto F 82 dX6_read_78 (by decide) ?_
      refine z_iast F (ws' := [oX6 o th se ea dk wt wh wc nw ru ed wa sq ar en sd wg tk cp co ki ke mn ak dg uk ud, aI K dk 20480 zd, aI K wt 32768 zw, aI K wh 64 zh, aI K nw 512 zn2_3, aI K ki 608 (zu kz pl.toNat (zn2_3 (32 * q6).toNat)), aI K ke 608 (zu yz pl.toNat (zn2_3 ((32 * q6) + 1).toNat)), aI K mn 608 (zu mz pl.toNat (zn2_3 ((32 * q6) + 2).toNat)), aI K ak 3648 az, aL K dg 608 fg]) 7 rfl rfl dX6_read_82 (by omega) (by omega) rfl ?_
      have r36 : rng 0 6 (zu mz pl.toNat (zn2_3 ((32 * q6) + 2).toNat)) := rng_zu h8 (by omega)
      refine z_iconst F dX6_read_83 ?_
      refine z_istore F (lv' := [(4, .int (iZ 0)), (3, .int (iZ r_7)), (2, .int (iZ (32 * q6))), (0, .ref o), (1, .int (iZ pl))]) dX6_read_84 (by decide) rfl ?_
      exact lp86 ((6 - 0 : Int).toNat + 1) 0 (zu kz pl.toNat (zn2_3 (32 * q6).toNat)) (zu yz pl.toNat (zn2_3 ((32 * q6) + 1).toNat)) (zu mz pl.toNat (zn2_3 ((32 * q6) + 2).toNat)) az (by omega) r30 r32 r36 h9 (fun p hp => zu_n (by omega)) (by first | (intro j hj; rw [zu_s] at hj; exact hro.2.2 j hj) | (intro j hj; rw [zu_s] at hj; exact absurd hj (by omega))) (fun _ _ _ _ => rfl) (fun j hj => absurd hj (by omega)) (Nat.lt_succ_self _)
set_option maxHeartbeats 4000000 in
set_option maxRecDepth 20000 in
theorem k_X6_copyRow (l : Launch) (D : va_G) (K : KI) (o : Nat) (th : Int) (se : Int) (ea : Int) (dk : Nat) (wt : Nat) (wh : Nat) (wc : Int) (nw : Nat) (ru : Int) (ed : Int) (wa : Int) (sq : Int) (ar : Int) (en : Int) (sd : Int) (wg : Int) (tk : Int) (cp : Int) (co : Int) (ki : Nat) (ke : Nat) (mn : Nat) (ak : Nat) (dg : Nat) (uk : Nat) (ud : Nat) (kz : Nat → Int) (yz : Nat → Int) (mz : Nat → Int) (az : Nat → Int) (fg : Nat → Int64) (fr : Int) (to : Int) (h0 : 0 ≤ fr ∧ fr ≤ 607 ∧ 0 ≤ to ∧ to ≤ 607) (h1 : rng 0 3 kz) (h2 : rng 0 255 yz) (h3 : rng 0 6 mz) (h4 : rng 0 255 az) (h5 : akOk mz az) : Ct lw_T l yX6_copyRow cX6_copyRow 4 none { frames := 0, cells := 0, slots := 0, locals := 0 } 0 0 D cls5 (TY K) [.ref o, .int (iZ fr), .int (iZ to)] [oX6 o th se ea dk wt wh wc nw ru ed wa sq ar en sd wg tk cp co ki ke mn ak dg uk ud, aI K ki 608 kz, aI K ke 608 yz, aI K mn 608 mz, aI K ak 3648 az, aL K dg 608 fg] (fun vr wo => ∃ (kz2 : Nat → Int), ∃ (yz2 : Nat → Int), ∃ (mz2 : Nat → Int), ∃ (az2 : Nat → Int), ∃ (fg2 : Nat → Int64), vr = none ∧ wo = [oX6 o th se ea dk wt wh wc nw ru ed wa sq ar en sd wg tk cp co ki ke mn ak dg uk ud, aI K ki 608 kz2, aI K ke 608 yz2, aI K mn 608 mz2, aI K ak 3648 az2, aL K dg 608 fg2] ∧ (rng 0 3 kz2) ∧ (rng 0 255 yz2) ∧ (rng 0 6 mz2) ∧ (rng 0 255 az2) ∧ (akOk mz2 az2)) := by
  refine ct_of (own := RX6) (lv := [(0, .ref o), (1, .int (iZ fr)), (2, .int (iZ to))]) (by decide) rfl (Nat.le_of_ble_eq_true rfl) rfl (fun C F hr hnm hzl => ?_)
  subst hzl
  refine z_aload_n F 0 dX6_copyRow_0 rfl ?_
  refine z_get F 0 19 iX6 rfl rfl (by decide) t3_95 rfl dX6_copyRow_1 ?_
  refine z_iload_n F 2 dX6_copyRow_4 rfl ?_
  refine z_aload_n F 0 dX6_copyRow_5 rfl ?_
  refine z_get F 0 19 iX6 rfl rfl (by decide) t3_95 rfl dX6_copyRow_6 ?_
  refine z_iload_n F 1 dX6_copyRow_9 rfl ?_
  refine z_iald F 1 rfl rfl dX6_copyRow_10 (by omega) (by omega) ?_
  have r1 : 0 ≤ kz fr.toNat ∧ kz fr.toNat ≤ 3 := h1 _
  refine z_iast F (ws' := [oX6 o th se ea dk wt wh wc nw ru ed wa sq ar en sd wg tk cp co ki ke mn ak dg uk ud, aI K ki 608 (zu kz to.toNat (kz fr.toNat)), aI K ke 608 yz, aI K mn 608 mz, aI K ak 3648 az, aL K dg 608 fg]) 1 rfl rfl dX6_copyRow_11 (by omega) (by omega) rfl ?_
  have r2 : rng 0 3 (zu kz to.toNat (kz fr.toNat)) := rng_zu h1 (by omega)
  refine z_aload_n F 0 dX6_copyRow_12 rfl ?_
  refine z_get F 0 20 iX6 rfl rfl (by decide) t3_96 rfl dX6_copyRow_13 ?_
  refine z_iload_n F 2 dX6_copyRow_16 rfl ?_
  refine z_aload_n F 0 dX6_copyRow_17 rfl ?_
  refine z_get F 0 20 iX6 rfl rfl (by decide) t3_96 rfl dX6_copyRow_18 ?_
  refine z_iload_n F 1 dX6_copyRow_21 rfl ?_
  refine z_iald F 2 rfl rfl dX6_copyRow_22 (by omega) (by omega) ?_
  have r3 : 0 ≤ yz fr.toNat ∧ yz fr.toNat ≤ 255 := h2 _
  refine z_iast F (ws' := [oX6 o th se ea dk wt wh wc nw ru ed wa sq ar en sd wg tk cp co ki ke mn ak dg uk ud, aI K ki 608 (zu kz to.toNat (kz fr.toNat)), aI K ke 608 (zu yz to.toNat (yz fr.toNat)), aI K mn 608 mz, aI K ak 3648 az, aL K dg 608 fg]) 2 rfl rfl dX6_copyRow_23 (by omega) (by omega) rfl ?_
  have r4 : rng 0 255 (zu yz to.toNat (yz fr.toNat)) := rng_zu h2 (by omega)
  refine z_aload_n F 0 dX6_copyRow_24 rfl ?_
  refine z_get F 0 21 iX6 rfl rfl (by decide) t3_97 rfl dX6_copyRow_25 ?_
  refine z_iload_n F 2 dX6_copyRow_28 rfl ?_
  refine z_aload_n F 0 dX6_copyRow_29 rfl ?_
  refine z_get F 0 21 iX6 rfl rfl (by decide) t3_97 rfl dX6_copyRow_30 ?_
  refine z_iload_n F 1 dX6_copyRow_33 rfl ?_
  refine z_iald F 3 rfl rfl dX6_copyRow_34 (by omega) (by omega) ?_
  have r5 : 0 ≤ mz fr.toNat ∧ mz fr.toNat ≤ 6 := h3 _
  refine z_iast F (ws' := [oX6 o th se ea dk wt wh wc nw ru ed wa sq ar en sd wg tk cp co ki ke mn ak dg uk ud, aI K ki 608 (zu kz to.toNat (kz fr.toNat)), aI K ke 608 (zu yz to.toNat (yz fr.toNat)), aI K mn 608 (zu mz to.toNat (mz fr.toNat)), aI K ak 3648 az, aL K dg 608 fg]) 3 rfl rfl dX6_copyRow_35 (by omega) (by omega) rfl ?_
  have r6 : rng 0 6 (zu mz to.toNat (mz fr.toNat)) := rng_zu h3 (by omega)
  refine z_aload_n F 0 dX6_copyRow_36 rfl ?_
  refine z_get F 0 23 iX6 rfl rfl (by decide) t3_99 rfl dX6_copyRow_37 ?_
  refine z_iload_n F 2 dX6_copyRow_40 rfl ?_
  refine z_aload_n F 0 dX6_copyRow_41 rfl ?_
  refine z_get F 0 23 iX6 rfl rfl (by decide) t3_99 rfl dX6_copyRow_42 ?_
  refine z_iload_n F 1 dX6_copyRow_45 rfl ?_
  refine z_lald F 5 rfl rfl dX6_copyRow_46 (by omega) (by omega) ?_
  refine z_last F (ws' := [oX6 o th se ea dk wt wh wc nw ru ed wa sq ar en sd wg tk cp co ki ke mn ak dg uk ud, aI K ki 608 (zu kz to.toNat (kz fr.toNat)), aI K ke 608 (zu yz to.toNat (yz fr.toNat)), aI K mn 608 (zu mz to.toNat (mz fr.toNat)), aI K ak 3648 az, aL K dg 608 (vp_updL fg to.toNat (fg fr.toNat))]) 5 rfl rfl dX6_copyRow_47 (by omega) (by omega) rfl ?_
  refine z_iconst F dX6_copyRow_48 ?_
  refine z_istore_n F (lv' := [(3, .int (iZ 0)), (0, .ref o), (1, .int (iZ fr)), (2, .int (iZ to))]) dX6_copyRow_49 (by decide) rfl ?_
  have lp50 : ∀ (nn50 : Nat) (i : Int) (w : Nat → Int), (0 ≤ i ∧ i ≤ 6) → (rng 0 255 w) → (∀ q j : Nat, j < 6 → ¬ (q : Int) = to → w (6 * q + j) = az (6 * q + j)) → (∀ j : Nat, (j : Int) < i → w (6 * to.toNat + j) = az (6 * fr.toNat + j)) → (∀ j : Nat, i ≤ (j : Int) → j < 6 → w (6 * to.toNat + j) = az (6 * to.toNat + j)) → ((6 - i : Int).toNat < nn50) → Go C { frames := 0, cells := 0, slots := 0, locals := 0 } D cls5 4 0 0 [oX6 o th se ea dk wt wh wc nw ru ed wa sq ar en sd wg tk cp co ki ke mn ak dg uk ud, aI K ki 608 (zu kz to.toNat (kz fr.toNat)), aI K ke 608 (zu yz to.toNat (yz fr.toNat)), aI K mn 608 (zu mz to.toNat (mz fr.toNat)), aI K ak 3648 w, aL K dg 608 (vp_updL fg to.toNat (fg fr.toNat))] 50 [(3, .int (iZ i)), (0, .ref o), (1, .int (iZ fr)), (2, .int (iZ to))] [] := by
    intro nn50
    induction nn50 with
    | zero => intro i w g50_0 g50_1 g50_2 g50_3 g50_4 hmu50; exact absurd hmu50 (Nat.not_lt_zero _)
    | succ nn50 ih50 =>
      intro i w g50_0 g50_1 g50_2 g50_3 g50_4 hmu50
      refine z_iload_n F 0 dX6_copyRow_50 rfl ?_
      refine z_bipush F dX6_copyRow_51 (by decide) ?_
      refine z_icmp_ge F 84 dX6_copyRow_53 (by decide) (by omega) (fun c7 => ?_) (fun c7 => ?_)
      · exact z_vret F hr dX6_copyRow_84 (by omega) ⟨(zu kz to.toNat (kz fr.toNat)), (zu yz to.toNat (yz fr.toNat)), (zu mz to.toNat (mz fr.toNat)), w, (vp_updL fg to.toNat (fg fr.toNat)), rfl, rfl, r2, r4, r6, g50_1, (akOk_mv (by omega) (by omega) h5 h3 g50_2 (fun j hj => g50_3 j (by omega)))⟩
      · refine z_aload_n F 1 dX6_copyRow_56 rfl ?_
        refine z_get F 0 22 iX6 rfl rfl (by decide) t3_98 rfl dX6_copyRow_57 ?_
        refine z_bipush F dX6_copyRow_60 (by decide) ?_
        refine z_iload_n F 3 dX6_copyRow_62 rfl ?_
        refine z_imul F dX6_copyRow_63 ?_
        refine z_iload_n F 0 dX6_copyRow_64 rfl ?_
        refine z_iadd F dX6_copyRow_65 ?_
        refine z_aload_n F 1 dX6_copyRow_66 rfl ?_
        refine z_get F 0 22 iX6 rfl rfl (by decide) t3_98 rfl dX6_copyRow_67 ?_
        refine z_bipush F dX6_copyRow_70 (by decide) ?_
        refine z_iload_n F 2 dX6_copyRow_72 rfl ?_
        refine z_imul F dX6_copyRow_73 ?_
        refine z_iload_n F 0 dX6_copyRow_74 rfl ?_
        refine z_iadd F dX6_copyRow_75 ?_
        refine z_iald F 4 rfl rfl dX6_copyRow_76 (by omega) (by omega) ?_
        have r8 : 0 ≤ w ((6 * fr) + i).toNat ∧ w ((6 * fr) + i).toNat ≤ 255 := g50_1 _
        refine z_iast F (ws' := [oX6 o th se ea dk wt wh wc nw ru ed wa sq ar en sd wg tk cp co ki ke mn ak dg uk ud, aI K ki 608 (zu kz to.toNat (kz fr.toNat)), aI K ke 608 (zu yz to.toNat (yz fr.toNat)), aI K mn 608 (zu mz to.toNat (mz fr.toNat)), aI K ak 3648 (zu w ((6 * to) + i).toNat (w ((6 * fr) + i).toNat)), aL K dg 608 (vp_updL fg to.toNat (fg fr.toNat))]) 4 rfl rfl dX6_copyRow_77 (by omega) (by omega) rfl ?_
        have r9 : rng 0 255 (zu w ((6 * to) + i).toNat (w ((6 * fr) + i).toNat)) := rng_zu g50_1 (by omega)
        refine z_iinc F (lv' := [(3, .int (iZ (i + 1))), (0, .ref o), (1, .int (iZ fr)), (2, .int (iZ to))]) 0 dX6_copyRow_78 rfl (by decide) rfl ?_
        refine z_goto F 50 dX6_copyRow_81 (by decide) ?_
        exact ih50 (i + 1) (zu w ((6 * to) + i).toNat (w ((6 * fr) + i).toNat)) (by omega) r9 (fun q j hj hq => by rw [zu_n (by omega)]; exact g50_2 q j hj hq) (fun j hj => by rcases (show (j : Int) < i ∨ (j : Int) = i by omega) with q | q; rw [zu_n (by omega)]; exact g50_3 j q; rw [show 6 * to.toNat + j = ((6 * to) + i).toNat by omega, zu_s, show ((6 * fr) + i).toNat = 6 * fr.toNat + j by omega]; by_cases e : (fr : Int) = to; rw [e]; exact g50_4 j (by omega) (by omega); exact g50_2 fr.toNat j (by omega) (by omega)) (fun j h1 h2 => by rw [zu_n (by omega)]; exact g50_4 j (by omega) h2) (by omega)
  exact lp50 ((6 - 0 : Int).toNat + 1) 0 az (by omega) h4 (fun _ _ _ _ => rfl) (fun j hj => absurd hj (by omega)) (fun _ _ _ => rfl) (Nat.lt_succ_self _)
set_option maxHeartbeats 4000000 in
set_option maxRecDepth 20000 in
theorem k_X6_latest (l : Launch) (D : va_G) (K : KI) (o : Nat) (th : Int) (se : Int) (ea : Int) (dk : Nat) (wt : Nat) (wh : Nat) (wc : Int) (nw : Nat) (ru : Int) (ed : Int) (wa : Int) (sq : Int) (ar : Int) (en : Int) (sd : Int) (wg : Int) (tk : Int) (cp : Int) (co : Int) (ki : Nat) (ke : Nat) (mn : Nat) (ak : Nat) (dg : Nat) (uk : Nat) (ud : Nat) (kz : Nat → Int) (yz : Nat → Int) (k : Int) (h0 : 0 ≤ en ∧ en ≤ 304) (h1 : rng 0 3 kz) (h2 : rng 0 255 yz) (h3 : -2147483648 ≤ k ∧ k ≤ 2147483647) : Ct lw_T l yX6_latest cX6_latest 4 (some .int) { frames := 0, cells := 0, slots := 0, locals := 0 } 0 0 D cls5 (TY K) [.ref o, .int (iZ k)] [oX6 o th se ea dk wt wh wc nw ru ed wa sq ar en sd wg tk cp co ki ke mn ak dg uk ud, aI K ki 608 kz, aI K ke 608 yz] (fun vr wo => ∃ (r : Int), vr = some (.int (iZ r)) ∧ wo = [oX6 o th se ea dk wt wh wc nw ru ed wa sq ar en sd wg tk cp co ki ke mn ak dg uk ud, aI K ki 608 kz, aI K ke 608 yz] ∧ (-1 ≤ r ∧ r ≤ en - 1)) := by
  refine ct_of (own := RX6) (lv := [(0, .ref o), (1, .int (iZ k))]) (by decide) rfl (Nat.le_of_ble_eq_true rfl) rfl (fun C F hr hnm hzl => ?_)
  subst hzl
  refine z_iconst F dX6_latest_0 ?_
  refine z_istore_n F (lv' := [(2, .int (iZ (-1))), (0, .ref o), (1, .int (iZ k))]) dX6_latest_1 (by decide) rfl ?_
  refine z_iconst F dX6_latest_2 ?_
  refine z_istore_n F (lv' := [(3, .int (iZ 0)), (2, .int (iZ (-1))), (0, .ref o), (1, .int (iZ k))]) dX6_latest_3 (by decide) rfl ?_
  have lp4 : ∀ (nn4 : Nat) (b0 : Int) (i : Int), (0 ≤ i ∧ i ≤ en) → (-1 ≤ b0 ∧ b0 ≤ en - 1) → ((en - i : Int).toNat < nn4) → Go C { frames := 0, cells := 0, slots := 0, locals := 0 } D cls5 4 0 0 [oX6 o th se ea dk wt wh wc nw ru ed wa sq ar en sd wg tk cp co ki ke mn ak dg uk ud, aI K ki 608 kz, aI K ke 608 yz] 4 [(3, .int (iZ i)), (2, .int (iZ b0)), (0, .ref o), (1, .int (iZ k))] [] := by
    intro nn4
    induction nn4 with
    | zero => intro b0 i g4_0 g4_1 hmu4; exact absurd hmu4 (Nat.not_lt_zero _)
    | succ nn4 ih4 =>
      intro b0 i g4_0 g4_1 hmu4
      refine z_iload_n F 0 dX6_latest_4 rfl ?_
      refine z_aload_n F 2 dX6_latest_5 rfl ?_
      refine z_get F 0 13 iX6 rfl rfl (by decide) t3_89 rfl dX6_latest_6 ?_
      refine z_icmp_ge F 40 dX6_latest_9 (by decide) (by omega) (fun c1 => ?_) (fun c1 => ?_)
      · refine z_iload_n F 1 dX6_latest_40 rfl ?_
        exact z_iret F hr dX6_latest_41 (by omega) ⟨b0, rfl, rfl, g4_1⟩
      · refine z_aload_n F 2 dX6_latest_12 rfl ?_
        refine z_get F 0 19 iX6 rfl rfl (by decide) t3_95 rfl dX6_latest_13 ?_
        refine z_iload_n F 0 dX6_latest_16 rfl ?_
        refine z_iald F 1 rfl rfl dX6_latest_17 (by omega) (by omega) ?_
        have r2 : 0 ≤ kz i.toNat ∧ kz i.toNat ≤ 3 := h1 _
        refine z_iconst F dX6_latest_18 ?_
        refine z_icmp_ne F 34 dX6_latest_19 (by decide) (by omega) (fun c3 => ?_) (fun c3 => ?_)
        · refine z_iinc F (lv' := [(3, .int (iZ (i + 1))), (2, .int (iZ b0)), (0, .ref o), (1, .int (iZ k))]) 0 dX6_latest_34 rfl (by decide) rfl ?_
          refine z_goto F 4 dX6_latest_37 (by decide) ?_
          exact ih4 b0 (i + 1) (by omega) g4_1 (by omega)
        · refine z_aload_n F 2 dX6_latest_22 rfl ?_
          refine z_get F 0 20 iX6 rfl rfl (by decide) t3_96 rfl dX6_latest_23 ?_
          refine z_iload_n F 0 dX6_latest_26 rfl ?_
          refine z_iald F 2 rfl rfl dX6_latest_27 (by omega) (by omega) ?_
          have r4 : 0 ≤ yz i.toNat ∧ yz i.toNat ≤ 255 := h2 _
          refine z_iload_n F 3 dX6_latest_28 rfl ?_
          refine z_icmp_ne F 34 dX6_latest_29 (by decide) (by omega) (fun c5 => ?_) (fun c5 => ?_)
          · refine z_iinc F (lv' := [(3, .int (iZ (i + 1))), (2, .int (iZ b0)), (0, .ref o), (1, .int (iZ k))]) 0 dX6_latest_34 rfl (by decide) rfl ?_
            refine z_goto F 4 dX6_latest_37 (by decide) ?_
            exact ih4 b0 (i + 1) (by omega) g4_1 (by omega)
          · refine z_iload_n F 0 dX6_latest_32 rfl ?_
            refine z_istore_n F (lv' := [(2, .int (iZ i)), (3, .int (iZ i)), (0, .ref o), (1, .int (iZ k))]) dX6_latest_33 (by decide) rfl ?_
            refine z_iinc F (lv' := [(3, .int (iZ (i + 1))), (2, .int (iZ i)), (0, .ref o), (1, .int (iZ k))]) 1 dX6_latest_34 rfl (by decide) rfl ?_
            refine z_goto F 4 dX6_latest_37 (by decide) ?_
            exact ih4 i (i + 1) (by omega) (by omega) (by omega)
  exact lp4 ((en - 0 : Int).toNat + 1) (-1) 0 (by omega) (by omega) (Nat.lt_succ_self _)
set_option maxHeartbeats 4000000 in
set_option maxRecDepth 20000 in
theorem k_X6_lockRow (l : Launch) (D : va_G) (K : KI) (o : Nat) (th : Int) (se : Int) (ea : Int) (dk : Nat) (wt : Nat) (wh : Nat) (wc : Int) (nw : Nat) (ru : Int) (ed : Int) (wa : Int) (sq : Int) (ar : Int) (en : Int) (sd : Int) (wg : Int) (tk : Int) (cp : Int) (co : Int) (ki : Nat) (ke : Nat) (mn : Nat) (ak : Nat) (dg : Nat) (uk : Nat) (ud : Nat) (kz : Nat → Int) (h0 : 0 ≤ en ∧ en ≤ 304) (h1 : rng 0 3 kz) : Ct lw_T l yX6_lockRow cX6_lockRow 3 (some .int) { frames := 0, cells := 0, slots := 0, locals := 0 } 0 0 D cls5 (TY K) [.ref o] [oX6 o th se ea dk wt wh wc nw ru ed wa sq ar en sd wg tk cp co ki ke mn ak dg uk ud, aI K ki 608 kz] (fun vr wo => ∃ (r : Int), vr = some (.int (iZ r)) ∧ wo = [oX6 o th se ea dk wt wh wc nw ru ed wa sq ar en sd wg tk cp co ki ke mn ak dg uk ud, aI K ki 608 kz] ∧ (-1 ≤ r ∧ r ≤ en - 1)) := by
  refine ct_of (own := RX6) (lv := [(0, .ref o)]) (by decide) rfl (Nat.le_of_ble_eq_true rfl) rfl (fun C F hr hnm hzl => ?_)
  subst hzl
  refine z_iconst F dX6_lockRow_0 ?_
  refine z_istore_n F (lv' := [(1, .int (iZ (-1))), (0, .ref o)]) dX6_lockRow_1 (by decide) rfl ?_
  refine z_iconst F dX6_lockRow_2 ?_
  refine z_istore_n F (lv' := [(2, .int (iZ 0)), (1, .int (iZ (-1))), (0, .ref o)]) dX6_lockRow_3 (by decide) rfl ?_
  have lp4 : ∀ (nn4 : Nat) (b0 : Int) (i : Int), (0 ≤ i ∧ i ≤ en) → (-1 ≤ b0 ∧ b0 ≤ en - 1) → ((en - i : Int).toNat < nn4) → Go C { frames := 0, cells := 0, slots := 0, locals := 0 } D cls5 3 0 0 [oX6 o th se ea dk wt wh wc nw ru ed wa sq ar en sd wg tk cp co ki ke mn ak dg uk ud, aI K ki 608 kz] 4 [(2, .int (iZ i)), (1, .int (iZ b0)), (0, .ref o)] [] := by
    intro nn4
    induction nn4 with
    | zero => intro b0 i g4_0 g4_1 hmu4; exact absurd hmu4 (Nat.not_lt_zero _)
    | succ nn4 ih4 =>
      intro b0 i g4_0 g4_1 hmu4
      refine z_iload_n F 0 dX6_lockRow_4 rfl ?_
      refine z_aload_n F 2 dX6_lockRow_5 rfl ?_
      refine z_get F 0 13 iX6 rfl rfl (by decide) t3_89 rfl dX6_lockRow_6 ?_
      refine z_icmp_ge F 40 dX6_lockRow_9 (by decide) (by omega) (fun c1 => ?_) (fun c1 => ?_)
      · refine z_iload_n F 1 dX6_lockRow_40 rfl ?_
        exact z_iret F hr dX6_lockRow_41 (by omega) ⟨b0, rfl, rfl, g4_1⟩
      · refine z_aload_n F 2 dX6_lockRow_12 rfl ?_
        refine z_get F 0 19 iX6 rfl rfl (by decide) t3_95 rfl dX6_lockRow_13 ?_
        refine z_iload_n F 0 dX6_lockRow_16 rfl ?_
        refine z_iald F 1 rfl rfl dX6_lockRow_17 (by omega) (by omega) ?_
        have r2 : 0 ≤ kz i.toNat ∧ kz i.toNat ≤ 3 := h1 _
        refine z_iconst F dX6_lockRow_18 ?_
        refine z_icmp_eq F 32 dX6_lockRow_19 (by decide) (by omega) (fun c3 => ?_) (fun c3 => ?_)
        · refine z_iload_n F 0 dX6_lockRow_32 rfl ?_
          refine z_istore_n F (lv' := [(1, .int (iZ i)), (2, .int (iZ i)), (0, .ref o)]) dX6_lockRow_33 (by decide) rfl ?_
          refine z_iinc F (lv' := [(2, .int (iZ (i + 1))), (1, .int (iZ i)), (0, .ref o)]) 1 dX6_lockRow_34 rfl (by decide) rfl ?_
          refine z_goto F 4 dX6_lockRow_37 (by decide) ?_
          exact ih4 i (i + 1) (by omega) (by omega) (by omega)
        · refine z_aload_n F 2 dX6_lockRow_22 rfl ?_
          refine z_get F 0 19 iX6 rfl rfl (by decide) t3_95 rfl dX6_lockRow_23 ?_
          refine z_iload_n F 0 dX6_lockRow_26 rfl ?_
          refine z_iald F 1 rfl rfl dX6_lockRow_27 (by omega) (by omega) ?_
          have r4 : 0 ≤ kz i.toNat ∧ kz i.toNat ≤ 3 := h1 _
          refine z_iconst F dX6_lockRow_28 ?_
          refine z_icmp_ne F 34 dX6_lockRow_29 (by decide) (by omega) (fun c5 => ?_) (fun c5 => ?_)
          · refine z_iinc F (lv' := [(2, .int (iZ (i + 1))), (1, .int (iZ b0)), (0, .ref o)]) 0 dX6_lockRow_34 rfl (by decide) rfl ?_
            refine z_goto F 4 dX6_lockRow_37 (by decide) ?_
            exact ih4 b0 (i + 1) (by omega) g4_1 (by omega)
          · refine z_iload_n F 0 dX6_lockRow_32 rfl ?_
            refine z_istore_n F (lv' := [(1, .int (iZ i)), (2, .int (iZ i)), (0, .ref o)]) dX6_lockRow_33 (by decide) rfl ?_
            refine z_iinc F (lv' := [(2, .int (iZ (i + 1))), (1, .int (iZ i)), (0, .ref o)]) 1 dX6_lockRow_34 rfl (by decide) rfl ?_
            refine z_goto F 4 dX6_lockRow_37 (by decide) ?_
            exact ih4 i (i + 1) (by omega) (by omega) (by omega)
  exact lp4 ((en - 0 : Int).toNat + 1) (-1) 0 (by omega) (by omega) (Nat.lt_succ_self _)
set_option maxHeartbeats 4000000 in
set_option maxRecDepth 20000 in
theorem k_X6_isWrongBehind (l : Launch) (D : va_G) (K : KI) (o : Nat) (th : Int) (se : Int) (ea : Int) (dk : Nat) (wt : Nat) (wh : Nat) (wc : Int) (nw : Nat) (ru : Int) (ed : Int) (wa : Int) (sq : Int) (ar : Int) (en : Int) (sd : Int) (wg : Int) (tk : Int) (cp : Int) (co : Int) (ki : Nat) (ke : Nat) (mn : Nat) (ak : Nat) (dg : Nat) (uk : Nat) (ud : Nat) (kz : Nat → Int) (pl : Int) (h0 : 0 ≤ en ∧ en ≤ 304) (h1 : rng 0 3 kz) (h2 : 0 ≤ pl ∧ pl ≤ en - 1) : Ct lw_T l yX6_isWrongBehind cX6_isWrongBehind 4 (some .boolean) { frames := 0, cells := 0, slots := 0, locals := 0 } 0 0 D cls5 (TY K) [.ref o, .int (iZ pl)] [oX6 o th se ea dk wt wh wc nw ru ed wa sq ar en sd wg tk cp co ki ke mn ak dg uk ud, aI K ki 608 kz] (fun vr wo => ∃ (r : Int), vr = some (.int (iZ r)) ∧ wo = [oX6 o th se ea dk wt wh wc nw ru ed wa sq ar en sd wg tk cp co ki ke mn ak dg uk ud, aI K ki 608 kz] ∧ (r = 0 ∨ r = 1)) := by
  refine ct_of (own := RX6) (lv := [(0, .ref o), (1, .int (iZ pl))]) (by decide) rfl (Nat.le_of_ble_eq_true rfl) rfl (fun C F hr hnm hzl => ?_)
  subst hzl
  refine z_iconst F dX6_isWrongBehind_0 ?_
  refine z_istore_n F (lv' := [(2, .int (iZ 0)), (0, .ref o), (1, .int (iZ pl))]) dX6_isWrongBehind_1 (by decide) rfl ?_
  refine z_iload_n F 2 dX6_isWrongBehind_2 rfl ?_
  refine z_iconst F dX6_isWrongBehind_3 ?_
  refine z_iadd F dX6_isWrongBehind_4 ?_
  refine z_istore_n F (lv' := [(3, .int (iZ (pl + 1))), (2, .int (iZ 0)), (0, .ref o), (1, .int (iZ pl))]) dX6_isWrongBehind_5 (by decide) rfl ?_
  have lp6 : ∀ (nn6 : Nat) (is : Int) (i : Int), (0 ≤ i ∧ i ≤ en) → (is = 0 ∨ is = 1) → ((en - i : Int).toNat < nn6) → Go C { frames := 0, cells := 0, slots := 0, locals := 0 } D cls5 4 0 0 [oX6 o th se ea dk wt wh wc nw ru ed wa sq ar en sd wg tk cp co ki ke mn ak dg uk ud, aI K ki 608 kz] 6 [(3, .int (iZ i)), (2, .int (iZ is)), (0, .ref o), (1, .int (iZ pl))] [] := by
    intro nn6
    induction nn6 with
    | zero => intro is i g6_0 g6_1 hmu6; exact absurd hmu6 (Nat.not_lt_zero _)
    | succ nn6 ih6 =>
      intro is i g6_0 g6_1 hmu6
      refine z_iload_n F 0 dX6_isWrongBehind_6 rfl ?_
      refine z_aload_n F 2 dX6_isWrongBehind_7 rfl ?_
      refine z_get F 0 13 iX6 rfl rfl (by decide) t3_89 rfl dX6_isWrongBehind_8 ?_
      refine z_icmp_ge F 39 dX6_isWrongBehind_11 (by decide) (by omega) (fun c1 => ?_) (fun c1 => ?_)
      · refine z_iload_n F 1 dX6_isWrongBehind_39 rfl ?_
        exact z_zret F hr (nar01 g6_1) dX6_isWrongBehind_40 (by omega) ⟨is, rfl, rfl, g6_1⟩
      · refine z_iload_n F 1 dX6_isWrongBehind_14 rfl ?_
        refine z_if_ne F 27 dX6_isWrongBehind_15 (by decide) (by omega) (fun c2 => ?_) (fun c2 => ?_)
        · refine z_iconst F dX6_isWrongBehind_27 ?_
          refine z_goto F 32 dX6_isWrongBehind_28 (by decide) ?_
          refine z_istore_n F (lv' := [(2, .int (iZ 1)), (3, .int (iZ i)), (0, .ref o), (1, .int (iZ pl))]) dX6_isWrongBehind_32 (by decide) rfl ?_
          refine z_iinc F (lv' := [(3, .int (iZ (i + 1))), (2, .int (iZ 1)), (0, .ref o), (1, .int (iZ pl))]) 1 dX6_isWrongBehind_33 rfl (by decide) rfl ?_
          refine z_goto F 6 dX6_isWrongBehind_36 (by decide) ?_
          exact ih6 1 (i + 1) (by omega) (by omega) (by omega)
        · refine z_aload_n F 2 dX6_isWrongBehind_18 rfl ?_
          refine z_get F 0 19 iX6 rfl rfl (by decide) t3_95 rfl dX6_isWrongBehind_19 ?_
          refine z_iload_n F 0 dX6_isWrongBehind_22 rfl ?_
          refine z_iald F 1 rfl rfl dX6_isWrongBehind_23 (by omega) (by omega) ?_
          have r3 : 0 ≤ kz i.toNat ∧ kz i.toNat ≤ 3 := h1 _
          refine z_if_ne F 31 dX6_isWrongBehind_24 (by decide) (by omega) (fun c4 => ?_) (fun c4 => ?_)
          · refine z_iconst F dX6_isWrongBehind_31 ?_
            refine z_istore_n F (lv' := [(2, .int (iZ 0)), (3, .int (iZ i)), (0, .ref o), (1, .int (iZ pl))]) dX6_isWrongBehind_32 (by decide) rfl ?_
            refine z_iinc F (lv' := [(3, .int (iZ (i + 1))), (2, .int (iZ 0)), (0, .ref o), (1, .int (iZ pl))]) 1 dX6_isWrongBehind_33 rfl (by decide) rfl ?_
            refine z_goto F 6 dX6_isWrongBehind_36 (by decide) ?_
            exact ih6 0 (i + 1) (by omega) (by omega) (by omega)
          · refine z_iconst F dX6_isWrongBehind_27 ?_
            refine z_goto F 32 dX6_isWrongBehind_28 (by decide) ?_
            refine z_istore_n F (lv' := [(2, .int (iZ 1)), (3, .int (iZ i)), (0, .ref o), (1, .int (iZ pl))]) dX6_isWrongBehind_32 (by decide) rfl ?_
            refine z_iinc F (lv' := [(3, .int (iZ (i + 1))), (2, .int (iZ 1)), (0, .ref o), (1, .int (iZ pl))]) 1 dX6_isWrongBehind_33 rfl (by decide) rfl ?_
            refine z_goto F 6 dX6_isWrongBehind_36 (by decide) ?_
            exact ih6 1 (i + 1) (by omega) (by omega) (by omega)
  exact lp6 ((en - (pl + 1) : Int).toNat + 1) 0 (pl + 1) (by omega) (by omega) (Nat.lt_succ_self _)
set_option maxHeartbeats 4000000 in
set_option maxRecDepth 20000 in
theorem k_X6_holder (l : Launch) (D : va_G) (K : KI) (o : Nat) (th : Int) (se : Int) (ea : Int) (dk : Nat) (wt : Nat) (wh : Nat) (wc : Int) (nw : Nat) (ru : Int) (ed : Int) (wa : Int) (sq : Int) (ar : Int) (en : Int) (sd : Int) (wg : Int) (tk : Int) (cp : Int) (co : Int) (ki : Nat) (ke : Nat) (mn : Nat) (ak : Nat) (dg : Nat) (uk : Nat) (ud : Nat) (kz : Nat → Int) (yz : Nat → Int) (h0 : 0 ≤ en ∧ en ≤ 304) (h1 : rng 0 3 kz) (h2 : rng 0 255 yz) : Ct lw_T l yX6_holder cX6_holder 2 (some .int) { frames := 1, cells := 0, slots := 0, locals := 22 } 0 0 D cls5 (TY K) [.ref o] [oX6 o th se ea dk wt wh wc nw ru ed wa sq ar en sd wg tk cp co ki ke mn ak dg uk ud, aI K ki 608 kz, aI K ke 608 yz] (fun vr wo => ∃ (r : Int), vr = some (.int (iZ r)) ∧ wo = [oX6 o th se ea dk wt wh wc nw ru ed wa sq ar en sd wg tk cp co ki ke mn ak dg uk ud, aI K ki 608 kz, aI K ke 608 yz] ∧ (-1 ≤ r ∧ r ≤ 255)) := by
  refine ct_of (own := RX6) (lv := [(0, .ref o)]) (by decide) rfl (Nat.le_of_ble_eq_true rfl) rfl (fun C F hr hnm hzl => ?_)
  subst hzl
  refine z_aload_n F 0 dX6_holder_0 rfl ?_
  refine z_callV F lw_good (k_X6_lockRow _ D K o th se ea dk wt wh wc nw ru ed wa sq ar en sd wg tk cp co ki ke mn ak dg uk ud kz h0 h1) t4_31 t1_6 t4_28 t4_30 (q := (RX6, TX6, 26)) ts_40 ⟨rfl, rfl⟩ ndX6_lockRow ⟨Nat.le_of_ble_eq_true rfl, Nat.le_of_ble_eq_true rfl⟩ 0 rfl rfl (rest := []) rfl (Nat.le_of_ble_eq_true rfl) dX6_holder_1 ⟨(show 0 + 0 ≤ 0 by omega), (show 0 + 0 ≤ 0 by omega)⟩ (wr := [aI K ke 608 yz]) ([0, 1] : List Nat) ([2] : List Nat) rfl rfl rfl rfl (by decide) (fun vr wo hp => ?_)
  obtain ⟨r_1, rfl, rfl, f2⟩ := hp
  refine z_re F (ws' := [oX6 o th se ea dk wt wh wc nw ru ed wa sq ar en sd wg tk cp co ki ke mn ak dg uk ud, aI K ki 608 kz, aI K ke 608 yz]) (st' := [.int (iZ r_1)]) ([1, 2, 0] : List Nat) rfl rfl rfl ?_
  refine z_istore_n F (lv' := [(1, .int (iZ r_1)), (0, .ref o)]) dX6_holder_4 (by decide) rfl ?_
  refine z_iload_n F 0 dX6_holder_5 rfl ?_
  refine z_iconst F dX6_holder_6 ?_
  refine z_icmp_eq F 20 dX6_holder_7 (by decide) (by omega) (fun c3 => ?_) (fun c3 => ?_)
  · refine z_iconst F dX6_holder_20 ?_
    refine z_goto F 30 dX6_holder_21 (by decide) ?_
    exact z_iret F hr dX6_holder_30 (by omega) ⟨(-1), rfl, rfl, (by omega)⟩
  · refine z_aload_n F 1 dX6_holder_10 rfl ?_
    refine z_get F 0 19 iX6 rfl rfl (by decide) t3_95 rfl dX6_holder_11 ?_
    refine z_iload_n F 0 dX6_holder_14 rfl ?_
    refine z_iald F 1 rfl rfl dX6_holder_15 (by omega) (by omega) ?_
    have r4 : 0 ≤ kz r_1.toNat ∧ kz r_1.toNat ≤ 3 := h1 _
    refine z_iconst F dX6_holder_16 ?_
    refine z_icmp_ne F 24 dX6_holder_17 (by decide) (by omega) (fun c5 => ?_) (fun c5 => ?_)
    · refine z_aload_n F 1 dX6_holder_24 rfl ?_
      refine z_get F 0 20 iX6 rfl rfl (by decide) t3_96 rfl dX6_holder_25 ?_
      refine z_iload_n F 0 dX6_holder_28 rfl ?_
      refine z_iald F 2 rfl rfl dX6_holder_29 (by omega) (by omega) ?_
      have r6 : 0 ≤ yz r_1.toNat ∧ yz r_1.toNat ≤ 255 := h2 _
      exact z_iret F hr dX6_holder_30 (by omega) ⟨(yz r_1.toNat), rfl, rfl, (by omega)⟩
    · refine z_iconst F dX6_holder_20 ?_
      refine z_goto F 30 dX6_holder_21 (by decide) ?_
      exact z_iret F hr dX6_holder_30 (by omega) ⟨(-1), rfl, rfl, (by omega)⟩
set_option maxHeartbeats 4000000 in
set_option maxRecDepth 20000 in
theorem k_X6_keep (l : Launch) (D : va_G) (K : KI) (o : Nat) (th : Int) (se : Int) (ea : Int) (dk : Nat) (wt : Nat) (wh : Nat) (wc : Int) (nw : Nat) (ru : Int) (ed : Int) (wa : Int) (sq : Int) (ar : Int) (en : Int) (sd : Int) (wg : Int) (tk : Int) (cp : Int) (co : Int) (ki : Nat) (ke : Nat) (mn : Nat) (ak : Nat) (dg : Nat) (uk : Nat) (ud : Nat) (zd : Nat → Int) (zw : Nat → Int) (zh : Nat → Int) (zn : Nat → Int) (kz : Nat → Int) (yz : Nat → Int) (mz : Nat → Int) (az : Nat → Int) (fg : Nat → Int64) (kd : Int) (nm : Int) (dd : Int64) (h0 : 4 ≤ se ∧ se ≤ 40 ∧ 1 ≤ ea ∧ 2 * ea ≤ se - 2 ∧ se - 2 ≤ 2 * ea + 1) (h1 : 0 ≤ wc ∧ wc ≤ 64) (h2 : rng 0 255 zd) (h3 : rng 0 255 zw) (h4 : rng 0 (se-1) zh) (h5 : rng 0 255 zn) (h6 : rng 0 3 kz) (h7 : rng 0 255 yz) (h8 : rng 0 6 mz) (h9 : rng 0 255 az) (h10 : akOk mz az) (h11 : 0 ≤ en ∧ en ≤ 16 * ea) (h12 : 0 ≤ ar ∧ ar ≤ 1) (h13 : 1 ≤ kd ∧ kd ≤ 3 ∧ 0 ≤ nm ∧ nm ≤ 63) : Ct lw_T l yX6_keep cX6_keep 5 (some .int) { frames := 4, cells := 0, slots := 0, locals := 91 } 0 0 D cls5 (TY K) [.ref o, .int (iZ kd), .int (iZ nm), .long dd] [oX6 o th se ea dk wt wh wc nw ru ed wa sq ar en sd wg tk cp co ki ke mn ak dg uk ud, aI K dk 20480 zd, aI K wt 32768 zw, aI K wh 64 zh, aI K nw 512 zn, aI K ki 608 kz, aI K ke 608 yz, aI K mn 608 mz, aI K ak 3648 az, aL K dg 608 fg] (fun vr wo => ∃ (r : Int), ∃ (en2 : Int), ∃ (wc2 : Int), ∃ (zd2 : Nat → Int), ∃ (zw2 : Nat → Int), ∃ (zh2 : Nat → Int), ∃ (zn2 : Nat → Int), ∃ (kz2 : Nat → Int), ∃ (yz2 : Nat → Int), ∃ (mz2 : Nat → Int), ∃ (fg2 : Nat → Int64), vr = some (.int (iZ r)) ∧ wo = [oX6 o th se ea dk wt wh wc2 nw ru ed wa sq ar en2 sd wg tk cp co ki ke mn ak dg uk ud, aI K dk 20480 zd2, aI K wt 32768 zw2, aI K wh 64 zh2, aI K nw 512 zn2, aI K ki 608 kz2, aI K ke 608 yz2, aI K mn 608 mz2, aI K ak 3648 az, aL K dg 608 fg2] ∧ (-4 ≤ r ∧ r ≤ 303) ∧ (en ≤ en2) ∧ (0 ≤ en2 ∧ en2 ≤ 16 * ea) ∧ (0 ≤ wc2 ∧ wc2 ≤ 64) ∧ (rng 0 255 zd2) ∧ (rng 0 255 zw2) ∧ (rng 0 (se-1) zh2) ∧ (rng 0 255 zn2) ∧ (rng 0 3 kz2) ∧ (rng 0 255 yz2) ∧ (rng 0 6 mz2) ∧ (akOk mz2 az)) := by
  refine ct_of (own := RX6) (lv := [(0, .ref o), (1, .int (iZ kd)), (2, .int (iZ nm)), (3, .long dd)]) (by decide) rfl (Nat.le_of_ble_eq_true rfl) rfl (fun C F hr hnm hzl => ?_)
  subst hzl
  refine z_aload_n F 0 dX6_keep_0 rfl ?_
  refine z_get F 0 13 iX6 rfl rfl (by decide) t3_89 rfl dX6_keep_1 ?_
  refine z_bipush F dX6_keep_4 (by decide) ?_
  refine z_aload_n F 0 dX6_keep_6 rfl ?_
  refine z_get F 0 2 iX6 rfl rfl (by decide) t3_78 rfl dX6_keep_7 ?_
  refine z_imul F dX6_keep_10 ?_
  refine z_icmp_ne F 17 dX6_keep_11 (by decide) (by omega) (fun c1 => ?_) (fun c1 => ?_)
  · refine z_aload_n F 0 dX6_keep_17 rfl ?_
    refine z_get F 0 19 iX6 rfl rfl (by decide) t3_95 rfl dX6_keep_18 ?_
    refine z_aload_n F 0 dX6_keep_21 rfl ?_
    refine z_get F 0 13 iX6 rfl rfl (by decide) t3_89 rfl dX6_keep_22 ?_
    refine z_iload_n F 1 dX6_keep_25 rfl ?_
    refine z_iast F (ws' := [oX6 o th se ea dk wt wh wc nw ru ed wa sq ar en sd wg tk cp co ki ke mn ak dg uk ud, aI K dk 20480 zd, aI K wt 32768 zw, aI K wh 64 zh, aI K nw 512 zn, aI K ki 608 (zu kz en.toNat kd), aI K ke 608 yz, aI K mn 608 mz, aI K ak 3648 az, aL K dg 608 fg]) 5 rfl rfl dX6_keep_26 (by omega) (by omega) rfl ?_
    have r2 : rng 0 3 (zu kz en.toNat kd) := rng_zu h6 (by omega)
    refine z_aload_n F 0 dX6_keep_27 rfl ?_
    refine z_get F 0 20 iX6 rfl rfl (by decide) t3_96 rfl dX6_keep_28 ?_
    refine z_aload_n F 0 dX6_keep_31 rfl ?_
    refine z_get F 0 13 iX6 rfl rfl (by decide) t3_89 rfl dX6_keep_32 ?_
    refine z_iload_n F 2 dX6_keep_35 rfl ?_
    refine z_iast F (ws' := [oX6 o th se ea dk wt wh wc nw ru ed wa sq ar en sd wg tk cp co ki ke mn ak dg uk ud, aI K dk 20480 zd, aI K wt 32768 zw, aI K wh 64 zh, aI K nw 512 zn, aI K ki 608 (zu kz en.toNat kd), aI K ke 608 (zu yz en.toNat nm), aI K mn 608 mz, aI K ak 3648 az, aL K dg 608 fg]) 6 rfl rfl dX6_keep_36 (by omega) (by omega) rfl ?_
    have r3 : rng 0 255 (zu yz en.toNat nm) := rng_zu h7 (by omega)
    refine z_aload_n F 0 dX6_keep_37 rfl ?_
    refine z_get F 0 21 iX6 rfl rfl (by decide) t3_97 rfl dX6_keep_38 ?_
    refine z_aload_n F 0 dX6_keep_41 rfl ?_
    refine z_get F 0 13 iX6 rfl rfl (by decide) t3_89 rfl dX6_keep_42 ?_
    refine z_iconst F dX6_keep_45 ?_
    refine z_iast F (ws' := [oX6 o th se ea dk wt wh wc nw ru ed wa sq ar en sd wg tk cp co ki ke mn ak dg uk ud, aI K dk 20480 zd, aI K wt 32768 zw, aI K wh 64 zh, aI K nw 512 zn, aI K ki 608 (zu kz en.toNat kd), aI K ke 608 (zu yz en.toNat nm), aI K mn 608 (zu mz en.toNat 0), aI K ak 3648 az, aL K dg 608 fg]) 7 rfl rfl dX6_keep_46 (by omega) (by omega) rfl ?_
    have r4 : rng 0 6 (zu mz en.toNat 0) := rng_zu h8 (by omega)
    refine z_aload_n F 0 dX6_keep_47 rfl ?_
    refine z_get F 0 23 iX6 rfl rfl (by decide) t3_99 rfl dX6_keep_48 ?_
    refine z_aload_n F 0 dX6_keep_51 rfl ?_
    refine z_get F 0 13 iX6 rfl rfl (by decide) t3_89 rfl dX6_keep_52 ?_
    refine z_lload_n F 3 dX6_keep_55 rfl ?_
    refine z_last F (ws' := [oX6 o th se ea dk wt wh wc nw ru ed wa sq ar en sd wg tk cp co ki ke mn ak dg uk ud, aI K dk 20480 zd, aI K wt 32768 zw, aI K wh 64 zh, aI K nw 512 zn, aI K ki 608 (zu kz en.toNat kd), aI K ke 608 (zu yz en.toNat nm), aI K mn 608 (zu mz en.toNat 0), aI K ak 3648 az, aL K dg 608 (vp_updL fg en.toNat dd)]) 9 rfl rfl dX6_keep_56 (by omega) (by omega) rfl ?_
    refine z_aload_n F 0 dX6_keep_57 rfl ?_
    refine z_aload_n F 0 dX6_keep_58 rfl ?_
    refine z_get F 0 12 iX6 rfl rfl (by decide) t3_88 rfl dX6_keep_59 ?_
    refine z_aload_n F 0 dX6_keep_62 rfl ?_
    refine z_get F 0 13 iX6 rfl rfl (by decide) t3_89 rfl dX6_keep_63 ?_
    refine z_aload_n F 0 dX6_keep_66 rfl ?_
    refine z_get F 0 13 iX6 rfl rfl (by decide) t3_89 rfl dX6_keep_67 ?_
    refine z_callV F lw_good (k_X6_write _ D K o th se ea dk wt wh wc nw ru ed wa sq ar en sd wg tk cp co ki ke mn ak dg uk ud zd zw zh zn (zu kz en.toNat kd) (zu yz en.toNat nm) (zu mz en.toNat 0) az (vp_updL fg en.toNat dd) ar en en h0 h1 h2 h3 h4 h5 r2 r3 r4 h9 (by first | assumption | exact akOk_c0 (by assumption) | exact akOk_z | (exfalso; omega)) (by omega) (by omega)) t4_3 t1_6 t4_0 t4_2 (q := (RX6, TX6, 26)) ts_36 ⟨rfl, rfl⟩ ndX6_write ⟨Nat.le_of_ble_eq_true rfl, Nat.le_of_ble_eq_true rfl⟩ 0 rfl rfl (rest := []) rfl (Nat.le_of_ble_eq_true rfl) dX6_keep_70 ⟨(show 0 + 0 ≤ 0 by omega), (show 0 + 0 ≤ 0 by omega)⟩ (wr := []) ([0, 1, 2, 3, 4, 5, 6, 7, 8, 9] : List Nat) ([] : List Nat) rfl rfl rfl rfl (by decide) (fun vr wo hp => ?_)
    obtain ⟨wc2_5, zd2_6, zw2_7, zh2_8, zn2_9, rfl, rfl, f10, f11, f12, f13, f14⟩ := hp
    refine z_re F (ws' := [oX6 o th se ea dk wt wh wc2_5 nw ru ed wa sq ar en sd wg tk cp co ki ke mn ak dg uk ud, aI K dk 20480 zd2_6, aI K wt 32768 zw2_7, aI K wh 64 zh2_8, aI K nw 512 zn2_9, aI K ki 608 (zu kz en.toNat kd), aI K ke 608 (zu yz en.toNat nm), aI K mn 608 (zu mz en.toNat 0), aI K ak 3648 az, aL K dg 608 (vp_updL fg en.toNat dd)]) (st' := []) ([0, 1, 2, 3, 4, 5, 6, 7, 8, 9] : List Nat) rfl rfl rfl ?_
    refine z_aload_n F 0 dX6_keep_73 rfl ?_
    refine z_dup F dX6_keep_74 rfl ?_
    refine z_get F 0 13 iX6 rfl rfl (by decide) t3_89 rfl dX6_keep_75 ?_
    refine z_iconst F dX6_keep_78 ?_
    refine z_iadd F dX6_keep_79 ?_
    refine z_put F (ws' := [oX6 o th se ea dk wt wh wc2_5 nw ru ed wa sq ar (en + 1) sd wg tk cp co ki ke mn ak dg uk ud, aI K dk 20480 zd2_6, aI K wt 32768 zw2_7, aI K wh 64 zh2_8, aI K nw 512 zn2_9, aI K ki 608 (zu kz en.toNat kd), aI K ke 608 (zu yz en.toNat nm), aI K mn 608 (zu mz en.toNat 0), aI K ak 3648 az, aL K dg 608 (vp_updL fg en.toNat dd)]) 0 13 iX6 tyX6 tyX6_ok nmX6 rfl rfl (by decide) t3_89 rfl rfl rfl rfl (Nat.le_of_ble_eq_true rfl) dX6_keep_80 rfl ?_
    refine z_aload_n F 0 dX6_keep_83 rfl ?_
    refine z_get F 0 13 iX6 rfl rfl (by decide) t3_89 rfl dX6_keep_84 ?_
    refine z_iconst F dX6_keep_87 ?_
    refine z_isub F dX6_keep_88 ?_
    exact z_iret F hr dX6_keep_89 (by omega) ⟨((en + 1) - 1), (en + 1), wc2_5, zd2_6, zw2_7, zh2_8, zn2_9, (zu kz en.toNat kd), (zu yz en.toNat nm), (zu mz en.toNat 0), (vp_updL fg en.toNat dd), rfl, rfl, (by omega), (by omega), (by omega), f10, f11, f12, f13, f14, r2, r3, r4, (by first | assumption | exact akOk_c0 (by assumption) | exact akOk_z | (exfalso; omega))⟩
  · refine z_bipush F dX6_keep_14 (by decide) ?_
    exact z_iret F hr dX6_keep_16 (by omega) ⟨(-4), en, wc, zd, zw, zh, zn, kz, yz, mz, fg, rfl, rfl, (by omega), (by omega), h11, h1, h2, h3, h4, h5, h6, h7, h8, h10⟩
