set_option maxHeartbeats 4000000 in
set_option maxRecDepth 20000 in
theorem k_X6_start (l : Launch) (D : va_G) (K : KI) (o : Nat) (th : Int) (se : Int) (ea : Int) (dk : Nat) (wt : Nat) (wh : Nat) (wc : Int) (nw : Nat) (ru : Int) (ed : Int) (wa : Int) (sq : Int) (ar : Int) (en : Int) (sd : Int) (wg : Int) (tk : Int) (cp : Int) (co : Int) (ki : Nat) (ke : Nat) (mn : Nat) (ak : Nat) (dg : Nat) (uk : Nat) (ud : Nat) (zd : Nat → Int) (zw : Nat → Int) (zh : Nat → Int) (zn : Nat → Int) (kz : Nat → Int) (yz : Nat → Int) (mz : Nat → Int) (az : Nat → Int) (fg : Nat → Int64) (zv : Nat → Int) (fv : Nat → Int64) (h0 : 4 ≤ se ∧ se ≤ 40 ∧ 1 ≤ ea ∧ 2 * ea ≤ se - 2 ∧ se - 2 ≤ 2 * ea + 1) (h1 : 0 ≤ wc ∧ wc ≤ 64) (h2 : rng 0 255 zd) (h3 : rng 0 255 zw) (h4 : rng 0 (se-1) zh) (h5 : rng 0 255 zn) (h6 : rng 0 3 kz) (h7 : rng 0 255 yz) (h8 : rng 0 6 mz) (h9 : rng 0 255 az) (h10 : akOk mz az) (h11 : 0 ≤ en ∧ en ≤ 16 * ea) (h12 : 0 ≤ ar ∧ ar ≤ 1) (h13 : co = 0 ∨ (co = 1 ∧ 0 ≤ cp ∧ cp ≤ tk ∧ tk ≤ en)) (h14 : ru = 0 ∨ ru = 1) (h15 : ru = 0 → wc = 0 ∧ co = 0) (h16 : 0 ≤ sq ∧ sq ≤ 2100000000) (h17 : 0 ≤ sd ∧ sd ≤ 304) (h18 : 0 ≤ wg ∧ wg ≤ 304) (h19 : rng 0 1 zv) (h20 : 1 ≤ wa ∧ wa ≤ 200) (h21 : th = 0 ∨ th = 1) : Ct lw_T l yX6_start cX6_start 5 (some .int) { frames := 5, cells := 0, slots := 0, locals := 106 } 0 0 D cls5 (TY K) [.ref o] [oX6 o th se ea dk wt wh wc nw ru ed wa sq ar en sd wg tk cp co ki ke mn ak dg uk ud, aI K dk 20480 zd, aI K wt 32768 zw, aI K wh 64 zh, aI K nw 512 zn, aI K ki 608 kz, aI K ke 608 yz, aI K mn 608 mz, aI K ak 3648 az, aL K dg 608 fg, aZ K uk 64 zv, aL K ud 64 fv] (fun vr wo => ∃ (r : Int), ∃ (ru2 : Int), ∃ (ed2 : Int), ∃ (sq2 : Int), ∃ (ar2 : Int), ∃ (en2 : Int), ∃ (sd2 : Int), ∃ (wg2 : Int), ∃ (wc2 : Int), ∃ (zd2 : Nat → Int), ∃ (zw2 : Nat → Int), ∃ (zh2 : Nat → Int), ∃ (zn2 : Nat → Int), ∃ (kz2 : Nat → Int), ∃ (yz2 : Nat → Int), ∃ (mz2 : Nat → Int), ∃ (az2 : Nat → Int), ∃ (fg2 : Nat → Int64), vr = some (.int (iZ r)) ∧ wo = [oX6 o 0 se ea dk wt wh wc2 nw ru2 ed2 wa sq2 ar2 en2 sd2 wg2 tk cp co ki ke mn ak dg uk ud, aI K dk 20480 zd2, aI K wt 32768 zw2, aI K wh 64 zh2, aI K nw 512 zn2, aI K ki 608 kz2, aI K ke 608 yz2, aI K mn 608 mz2, aI K ak 3648 az2, aL K dg 608 fg2, aZ K uk 64 zv, aL K ud 64 fv] ∧ (-3 ≤ r ∧ r ≤ 304) ∧ ((∀ j, zd j = 0) → ru = 0 → r = 0) ∧ (ru2 = 0 ∨ ru2 = 1) ∧ (0 ≤ ar2 ∧ ar2 ≤ 1) ∧ (0 ≤ sq2 ∧ (sq2 ≤ sq + 2 ∨ sq2 ≤ 2000000001)) ∧ (0 ≤ sd2 ∧ sd2 ≤ 304 ∧ 0 ≤ wg2 ∧ wg2 ≤ 304) ∧ (0 ≤ en2 ∧ en2 ≤ 16 * ea) ∧ (ru2 = 0 → wc2 = 0 ∧ co = 0) ∧ (co = 0 ∨ en ≤ en2) ∧ (0 ≤ wc2 ∧ wc2 ≤ 64) ∧ (rng 0 255 zd2) ∧ (rng 0 255 zw2) ∧ (rng 0 (se-1) zh2) ∧ (rng 0 255 zn2) ∧ (rng 0 3 kz2) ∧ (rng 0 255 yz2) ∧ (rng 0 6 mz2) ∧ (rng 0 255 az2) ∧ (akOk mz2 az2)) := by
  refine ct_of (own := RX6) (lv := [(0, .ref o)]) (by decide) rfl (Nat.le_of_ble_eq_true rfl) rfl (fun C F hr hnm hzl => ?_)
  subst hzl
  refine z_aload_n F 0 dX6_start_0 rfl ?_
  refine z_iconst F dX6_start_1 ?_
  refine z_put F (ws' := [oX6 o 0 se ea dk wt wh wc nw ru ed wa sq ar en sd wg tk cp co ki ke mn ak dg uk ud, aI K dk 20480 zd, aI K wt 32768 zw, aI K wh 64 zh, aI K nw 512 zn, aI K ki 608 kz, aI K ke 608 yz, aI K mn 608 mz, aI K ak 3648 az, aL K dg 608 fg, aZ K uk 64 zv, aL K ud 64 fv]) 0 0 iX6 tyX6 tyX6_ok nmX6 rfl rfl (by decide) t3_76 rfl rfl rfl rfl (Nat.le_of_ble_eq_true rfl) dX6_start_2 rfl ?_
  refine z_aload_n F 0 dX6_start_5 rfl ?_
  refine z_get F 0 8 iX6 rfl rfl (by decide) t3_84 rfl dX6_start_6 ?_
  refine z_if_eq F 15 dX6_start_9 (by decide) (by omega) (fun c1 => ?_) (fun c1 => ?_)
  · refine z_iconst F dX6_start_15 ?_
    refine z_istore_n F (lv' := [(1, .int (iZ (-1))), (0, .ref o)]) dX6_start_16 (by decide) rfl ?_
    refine z_iconst F dX6_start_17 ?_
    refine z_istore_n F (lv' := [(2, .int (iZ (-1))), (1, .int (iZ (-1))), (0, .ref o)]) dX6_start_18 (by decide) rfl ?_
    refine z_iconst F dX6_start_19 ?_
    refine z_istore_n F (lv' := [(3, .int (iZ 0)), (2, .int (iZ (-1))), (1, .int (iZ (-1))), (0, .ref o)]) dX6_start_20 (by decide) rfl ?_
    have lp21 : ∀ (nn21 : Nat) (be : Int) (gr : Int) (i : Int) (zq : Nat → Int), (0 ≤ i ∧ i ≤ 2) → (-1 ≤ gr ∧ gr ≤ 1999999999) → (be = -1 ∨ ((be = 0 ∨ be = 1) ∧ 0 ≤ zd (512 * be + 8).toNat ∧ zd (512 * be + 8).toNat ≤ 1 ∧ 0 ≤ gr ∧ gr ≤ 1999999999)) → ((∀ j, zd j = 0) → be = -1) → (rng 0 255 zq) → ((2 - i : Int).toNat < nn21) → Go C { frames := 5, cells := 0, slots := 0, locals := 106 } D cls5 5 0 0 [oX6 o 0 se ea dk wt wh wc nw ru ed wa sq ar en sd wg tk cp co ki ke mn ak dg uk ud, aI K dk 20480 zd, aI K wt 32768 zw, aI K wh 64 zh, aI K nw 512 zq, aI K ki 608 kz, aI K ke 608 yz, aI K mn 608 mz, aI K ak 3648 az, aL K dg 608 fg, aZ K uk 64 zv, aL K ud 64 fv] 21 [(3, .int (iZ i)), (2, .int (iZ gr)), (1, .int (iZ be)), (0, .ref o)] [] := by
      intro nn21
      induction nn21 with
      | zero => intro be gr i zq g21_0 g21_1 g21_2 g21_3 g21_4 hmu21; exact absurd hmu21 (Nat.not_lt_zero _)
      | succ nn21 ih21 =>
        intro be gr i zq g21_0 g21_1 g21_2 g21_3 g21_4 hmu21
        refine z_iload_n F 0 dX6_start_21 rfl ?_
        refine z_iconst F dX6_start_22 ?_
        refine z_icmp_ge F 62 dX6_start_23 (by decide) (by omega) (fun c2 => ?_) (fun c2 => ?_)
        · have lp72 : ∀ (zp : Nat → Int), (rng 0 255 zp) → (be = -1 ∨ (0 ≤ zp (8 : Int).toNat ∧ zp (8 : Int).toNat ≤ 1)) → Go C { frames := 5, cells := 0, slots := 0, locals := 106 } D cls5 5 0 0 [oX6 o 0 se ea dk wt wh wc nw ru ed wa sq ar en sd wg tk cp co ki ke mn ak dg uk ud, aI K dk 20480 zd, aI K wt 32768 zw, aI K wh 64 zh, aI K nw 512 zp, aI K ki 608 kz, aI K ke 608 yz, aI K mn 608 mz, aI K ak 3648 az, aL K dg 608 fg, aZ K uk 64 zv, aL K ud 64 fv] 72 [(3, .int (iZ i)), (2, .int (iZ gr)), (1, .int (iZ be)), (0, .ref o)] [] := by
            intro zp g72_0 g72_1
            refine z_aload_n F 3 dX6_start_72 rfl ?_
            refine z_iconst F dX6_start_73 ?_
            refine z_iconst F dX6_start_74 ?_
            refine z_callV F lw_good (k_X6_number _ D K o 0 se ea dk wt wh wc nw ru ed wa sq ar en sd wg tk cp co ki ke mn ak dg uk ud zp 0 4 (by omega)) t3_170 t1_6 t3_167 t3_169 (q := (RX6, TX6, 26)) ts_22 ⟨rfl, rfl⟩ ndX6_number ⟨Nat.le_of_ble_eq_true rfl, Nat.le_of_ble_eq_true rfl⟩ 0 rfl rfl (rest := []) rfl (Nat.le_of_ble_eq_true rfl) dX6_start_75 ⟨(show 0 + 0 ≤ 0 by omega), (show 0 + 0 ≤ 0 by omega)⟩ (wr := [aI K dk 20480 zd, aI K wt 32768 zw, aI K wh 64 zh, aI K ki 608 kz, aI K ke 608 yz, aI K mn 608 mz, aI K ak 3648 az, aL K dg 608 fg, aZ K uk 64 zv, aL K ud 64 fv]) ([0, 4] : List Nat) ([1, 2, 3, 5, 6, 7, 8, 9, 10, 11] : List Nat) rfl rfl rfl rfl (by decide) (fun vr wo hp => ?_)
            obtain ⟨r_3, rfl, rfl, f4, f5⟩ := hp
            refine z_re F (ws' := [oX6 o 0 se ea dk wt wh wc nw ru ed wa sq ar en sd wg tk cp co ki ke mn ak dg uk ud, aI K dk 20480 zd, aI K wt 32768 zw, aI K wh 64 zh, aI K nw 512 zp, aI K ki 608 kz, aI K ke 608 yz, aI K mn 608 mz, aI K ak 3648 az, aL K dg 608 fg, aZ K uk 64 zv, aL K ud 64 fv]) (st' := [.int (iZ r_3)]) ([10, 0, 1, 2, 11, 3, 4, 5, 6, 7, 8, 9] : List Nat) rfl rfl rfl ?_
            refine z_istore_n F (lv' := [(3, .int (iZ r_3)), (2, .int (iZ gr)), (1, .int (iZ be)), (0, .ref o)]) dX6_start_78 (by decide) rfl ?_
            have lp104 : (be = -1 ∨ (0 ≤ zp (8 : Int).toNat ∧ zp (8 : Int).toNat ≤ 1)) → Go C { frames := 5, cells := 0, slots := 0, locals := 106 } D cls5 5 0 0 [oX6 o 0 se ea dk wt wh wc nw ru ed wa sq ar en sd wg tk cp co ki ke mn ak dg uk ud, aI K dk 20480 zd, aI K wt 32768 zw, aI K wh 64 zh, aI K nw 512 zp, aI K ki 608 kz, aI K ke 608 yz, aI K mn 608 mz, aI K ak 3648 az, aL K dg 608 fg, aZ K uk 64 zv, aL K ud 64 fv] 104 [(2, .int (iZ gr)), (1, .int (iZ be)), (0, .ref o)] [] := by
              intro g104_0
              refine z_aload_n F 2 dX6_start_104 rfl ?_
              refine z_aload_n F 2 dX6_start_105 rfl ?_
              refine z_get F 0 10 iX6 rfl rfl (by decide) t3_86 rfl dX6_start_106 ?_
              refine z_put F (ws' := [oX6 o 0 se ea dk wt wh wc nw ru wa wa sq ar en sd wg tk cp co ki ke mn ak dg uk ud, aI K dk 20480 zd, aI K wt 32768 zw, aI K wh 64 zh, aI K nw 512 zp, aI K ki 608 kz, aI K ke 608 yz, aI K mn 608 mz, aI K ak 3648 az, aL K dg 608 fg, aZ K uk 64 zv, aL K ud 64 fv]) 0 9 iX6 tyX6 tyX6_ok nmX6 rfl rfl (by decide) t3_85 rfl rfl rfl rfl (Nat.le_of_ble_eq_true rfl) dX6_start_109 rfl ?_
              have lp123 : ∀ (s1 : Int), (0 ≤ s1 ∧ s1 ≤ 1999999999) → Go C { frames := 5, cells := 0, slots := 0, locals := 106 } D cls5 5 0 0 [oX6 o 0 se ea dk wt wh wc nw ru wa wa sq ar en sd wg tk cp co ki ke mn ak dg uk ud, aI K dk 20480 zd, aI K wt 32768 zw, aI K wh 64 zh, aI K nw 512 zp, aI K ki 608 kz, aI K ke 608 yz, aI K mn 608 mz, aI K ak 3648 az, aL K dg 608 fg, aZ K uk 64 zv, aL K ud 64 fv] 123 [(1, .int (iZ be)), (0, .ref o)] [.int (iZ s1), .ref o] := by
                intro s1 g123_0
                refine z_put F (ws' := [oX6 o 0 se ea dk wt wh wc nw ru wa wa s1 ar en sd wg tk cp co ki ke mn ak dg uk ud, aI K dk 20480 zd, aI K wt 32768 zw, aI K wh 64 zh, aI K nw 512 zp, aI K ki 608 kz, aI K ke 608 yz, aI K mn 608 mz, aI K ak 3648 az, aL K dg 608 fg, aZ K uk 64 zv, aL K ud 64 fv]) 0 11 iX6 tyX6 tyX6_ok nmX6 rfl rfl (by decide) t3_87 rfl rfl rfl rfl (Nat.le_of_ble_eq_true rfl) dX6_start_123 rfl ?_
                have lp143 : ∀ (a1 : Int), (0 ≤ a1 ∧ a1 ≤ 1) → Go C { frames := 5, cells := 0, slots := 0, locals := 106 } D cls5 5 0 0 [oX6 o 0 se ea dk wt wh wc nw ru wa wa s1 ar en sd wg tk cp co ki ke mn ak dg uk ud, aI K dk 20480 zd, aI K wt 32768 zw, aI K wh 64 zh, aI K nw 512 zp, aI K ki 608 kz, aI K ke 608 yz, aI K mn 608 mz, aI K ak 3648 az, aL K dg 608 fg, aZ K uk 64 zv, aL K ud 64 fv] 143 [(1, .int (iZ be)), (0, .ref o)] [.int (iZ a1), .ref o] := by
                  intro a1 g143_0
                  refine z_put F (ws' := [oX6 o 0 se ea dk wt wh wc nw ru wa wa s1 a1 en sd wg tk cp co ki ke mn ak dg uk ud, aI K dk 20480 zd, aI K wt 32768 zw, aI K wh 64 zh, aI K nw 512 zp, aI K ki 608 kz, aI K ke 608 yz, aI K mn 608 mz, aI K ak 3648 az, aL K dg 608 fg, aZ K uk 64 zv, aL K ud 64 fv]) 0 12 iX6 tyX6 tyX6_ok nmX6 rfl rfl (by decide) t3_88 rfl rfl rfl rfl (Nat.le_of_ble_eq_true rfl) dX6_start_143 rfl ?_
                  refine z_aload_n F 1 dX6_start_146 rfl ?_
                  refine z_iconst F dX6_start_147 ?_
                  refine z_put F (ws' := [oX6 o 0 se ea dk wt wh wc nw ru wa wa s1 a1 0 sd wg tk cp co ki ke mn ak dg uk ud, aI K dk 20480 zd, aI K wt 32768 zw, aI K wh 64 zh, aI K nw 512 zp, aI K ki 608 kz, aI K ke 608 yz, aI K mn 608 mz, aI K ak 3648 az, aL K dg 608 fg, aZ K uk 64 zv, aL K ud 64 fv]) 0 13 iX6 tyX6 tyX6_ok nmX6 rfl rfl (by decide) t3_89 rfl rfl rfl rfl (Nat.le_of_ble_eq_true rfl) dX6_start_148 rfl ?_
                  have lp191 : ∀ (wcv : Int) (env : Int) (zdv : Nat → Int) (zwv : Nat → Int) (zhv : Nat → Int) (znv : Nat → Int) (kzv : Nat → Int) (yzv : Nat → Int) (mzv : Nat → Int) (azv : Nat → Int) (fgv : Nat → Int64), ((∀ j, zd j = 0) → env = 0) → (0 ≤ env ∧ env ≤ 16 * ea) → (0 ≤ wcv ∧ wcv ≤ 64) → (rng 0 255 zdv) → (rng 0 255 zwv) → (rng 0 (se-1) zhv) → (rng 0 255 znv) → (rng 0 3 kzv) → (rng 0 255 yzv) → (rng 0 6 mzv) → (rng 0 255 azv) → (akOk mzv azv) → Go C { frames := 5, cells := 0, slots := 0, locals := 106 } D cls5 5 0 0 [oX6 o 0 se ea dk wt wh wcv nw ru wa wa s1 a1 env sd wg tk cp co ki ke mn ak dg uk ud, aI K dk 20480 zdv, aI K wt 32768 zwv, aI K wh 64 zhv, aI K nw 512 znv, aI K ki 608 kzv, aI K ke 608 yzv, aI K mn 608 mzv, aI K ak 3648 azv, aL K dg 608 fgv, aZ K uk 64 zv, aL K ud 64 fv] 191 [(1, .int (iZ be)), (0, .ref o)] [] := by
                    intro wcv env zdv zwv zhv znv kzv yzv mzv azv fgv g191_0 g191_1 g191_2 g191_3 g191_4 g191_5 g191_6 g191_7 g191_8 g191_9 g191_10 g191_11
                    refine z_aload_n F 1 dX6_start_191 rfl ?_
                    refine z_callV F lw_good (k_X6_changeHeads _ D K o 0 se ea dk wt wh wcv nw ru wa wa s1 a1 env sd wg tk cp co ki ke mn ak dg uk ud zdv zwv zhv znv h0 g191_2 g191_3 g191_4 g191_5 g191_6 g143_0 (by omega)) t3_222 t1_6 t3_219 t3_221 (q := (RX6, TX6, 26)) ts_32 ⟨rfl, rfl⟩ ndX6_changeHeads ⟨Nat.le_of_ble_eq_true rfl, Nat.le_of_ble_eq_true rfl⟩ 0 rfl rfl (rest := []) rfl (Nat.le_of_ble_eq_true rfl) dX6_start_192 ⟨(show 0 + 0 ≤ 0 by omega), (show 0 + 0 ≤ 0 by omega)⟩ (wr := [aI K ki 608 kzv, aI K ke 608 yzv, aI K mn 608 mzv, aI K ak 3648 azv, aL K dg 608 fgv, aZ K uk 64 zv, aL K ud 64 fv]) ([0, 1, 2, 3, 4] : List Nat) ([5, 6, 7, 8, 9, 10, 11] : List Nat) rfl rfl rfl rfl (by decide) (fun vr wo hp => ?_)
                    obtain ⟨wc2_6, zd2_7, zw2_8, zh2_9, zn2_10, rfl, rfl, f11, f12, f13, f14, f15⟩ := hp
                    refine z_re F (ws' := [oX6 o 0 se ea dk wt wh wc2_6 nw ru wa wa ((s1 + 1) + 1) a1 env sd wg tk cp co ki ke mn ak dg uk ud, aI K dk 20480 zd2_7, aI K wt 32768 zw2_8, aI K wh 64 zh2_9, aI K nw 512 zn2_10, aI K ki 608 kzv, aI K ke 608 yzv, aI K mn 608 mzv, aI K ak 3648 azv, aL K dg 608 fgv, aZ K uk 64 zv, aL K ud 64 fv]) (st' := []) ([7, 8, 9, 10, 11, 0, 1, 2, 3, 4, 5, 6] : List Nat) rfl rfl rfl ?_
                    refine z_aload_n F 1 dX6_start_195 rfl ?_
                    refine z_iconst F dX6_start_196 ?_
                    refine z_put F (ws' := [oX6 o 0 se ea dk wt wh wc2_6 nw 1 wa wa ((s1 + 1) + 1) a1 env sd wg tk cp co ki ke mn ak dg uk ud, aI K dk 20480 zd2_7, aI K wt 32768 zw2_8, aI K wh 64 zh2_9, aI K nw 512 zn2_10, aI K ki 608 kzv, aI K ke 608 yzv, aI K mn 608 mzv, aI K ak 3648 azv, aL K dg 608 fgv, aZ K uk 64 zv, aL K ud 64 fv]) 0 8 iX6 tyX6 tyX6_ok nmX6 rfl rfl (by decide) t3_84 rfl rfl (by decide) (by decide) (Nat.le_of_ble_eq_true rfl) dX6_start_197 rfl ?_
                    refine z_aload_n F 1 dX6_start_200 rfl ?_
                    refine z_aload_n F 1 dX6_start_201 rfl ?_
                    refine z_get F 0 13 iX6 rfl rfl (by decide) t3_89 rfl dX6_start_202 ?_
                    refine z_put F (ws' := [oX6 o 0 se ea dk wt wh wc2_6 nw 1 wa wa ((s1 + 1) + 1) a1 env env wg tk cp co ki ke mn ak dg uk ud, aI K dk 20480 zd2_7, aI K wt 32768 zw2_8, aI K wh 64 zh2_9, aI K nw 512 zn2_10, aI K ki 608 kzv, aI K ke 608 yzv, aI K mn 608 mzv, aI K ak 3648 azv, aL K dg 608 fgv, aZ K uk 64 zv, aL K ud 64 fv]) 0 14 iX6 tyX6 tyX6_ok nmX6 rfl rfl (by decide) t3_90 rfl rfl rfl rfl (Nat.le_of_ble_eq_true rfl) dX6_start_205 rfl ?_
                    refine z_aload_n F 1 dX6_start_208 rfl ?_
                    refine z_iconst F dX6_start_209 ?_
                    refine z_put F (ws' := [oX6 o 0 se ea dk wt wh wc2_6 nw 1 wa wa ((s1 + 1) + 1) a1 env env 0 tk cp co ki ke mn ak dg uk ud, aI K dk 20480 zd2_7, aI K wt 32768 zw2_8, aI K wh 64 zh2_9, aI K nw 512 zn2_10, aI K ki 608 kzv, aI K ke 608 yzv, aI K mn 608 mzv, aI K ak 3648 azv, aL K dg 608 fgv, aZ K uk 64 zv, aL K ud 64 fv]) 0 15 iX6 tyX6 tyX6_ok nmX6 rfl rfl (by decide) t3_91 rfl rfl rfl rfl (Nat.le_of_ble_eq_true rfl) dX6_start_210 rfl ?_
                    refine z_iconst F dX6_start_213 ?_
                    refine z_istore F (lv' := [(4, .int (iZ 0)), (1, .int (iZ be)), (0, .ref o)]) dX6_start_214 (by decide) rfl ?_
                    have lp216 : ∀ (nn216 : Nat) (i : Int) (wgv : Int), (0 ≤ i ∧ i ≤ env) → (0 ≤ wgv ∧ wgv ≤ i) → ((env - i : Int).toNat < nn216) → Go C { frames := 5, cells := 0, slots := 0, locals := 106 } D cls5 5 0 0 [oX6 o 0 se ea dk wt wh wc2_6 nw 1 wa wa ((s1 + 1) + 1) a1 env env wgv tk cp co ki ke mn ak dg uk ud, aI K dk 20480 zd2_7, aI K wt 32768 zw2_8, aI K wh 64 zh2_9, aI K nw 512 zn2_10, aI K ki 608 kzv, aI K ke 608 yzv, aI K mn 608 mzv, aI K ak 3648 azv, aL K dg 608 fgv, aZ K uk 64 zv, aL K ud 64 fv] 216 [(4, .int (iZ i)), (1, .int (iZ be)), (0, .ref o)] [] := by
                      intro nn216
                      induction nn216 with
                      | zero => intro i wgv g216_0 g216_1 hmu216; exact absurd hmu216 (Nat.not_lt_zero _)
                      | succ nn216 ih216 =>
                        intro i wgv g216_0 g216_1 hmu216
                        refine z_iload F 0 dX6_start_216 rfl ?_
                        refine z_aload_n F 2 dX6_start_218 rfl ?_
                        refine z_get F 0 13 iX6 rfl rfl (by decide) t3_89 rfl dX6_start_219 ?_
                        refine z_icmp_ge F 255 dX6_start_222 (by decide) (by omega) (fun c16 => ?_) (fun c16 => ?_)
                        · refine z_aload_n F 2 dX6_start_255 rfl ?_
                          refine z_get F 0 13 iX6 rfl rfl (by decide) t3_89 rfl dX6_start_256 ?_
                          refine z_aload_n F 2 dX6_start_259 rfl ?_
                          refine z_get F 0 15 iX6 rfl rfl (by decide) t3_91 rfl dX6_start_260 ?_
                          refine z_isub F dX6_start_263 ?_
                          exact z_iret F hr dX6_start_264 (by omega) ⟨(env - wgv), 1, wa, ((s1 + 1) + 1), a1, env, env, wgv, wc2_6, zd2_7, zw2_8, zh2_9, zn2_10, kzv, yzv, mzv, azv, fgv, rfl, rfl, (by omega), (by first | (intro hz q; exact absurd q (by omega)) | (intro hz q; have z1 := g191_0 hz; omega) | (intro hz q; exact absurd (g21_3 hz) (by omega))), (by omega), g143_0, (by omega), (by omega), g191_1, (by omega), (by omega), f11, f12, f13, f14, f15, g191_7, g191_8, g191_9, g191_10, g191_11⟩
                        · refine z_aload_n F 2 dX6_start_225 rfl ?_
                          refine z_dup F dX6_start_226 rfl ?_
                          refine z_get F 0 15 iX6 rfl rfl (by decide) t3_91 rfl dX6_start_227 ?_
                          refine z_aload_n F 2 dX6_start_230 rfl ?_
                          refine z_get F 0 19 iX6 rfl rfl (by decide) t3_95 rfl dX6_start_231 ?_
                          refine z_iload F 0 dX6_start_234 rfl ?_
                          refine z_iald F 5 rfl rfl dX6_start_236 (by omega) (by omega) ?_
                          have r17 : 0 ≤ kzv i.toNat ∧ kzv i.toNat ≤ 3 := g191_7 _
                          refine z_if_ne F 244 dX6_start_237 (by decide) (by omega) (fun c18 => ?_) (fun c18 => ?_)
                          · refine z_iconst F dX6_start_244 ?_
                            refine z_iadd F dX6_start_245 ?_
                            refine z_put F (ws' := [oX6 o 0 se ea dk wt wh wc2_6 nw 1 wa wa ((s1 + 1) + 1) a1 env env (wgv + 0) tk cp co ki ke mn ak dg uk ud, aI K dk 20480 zd2_7, aI K wt 32768 zw2_8, aI K wh 64 zh2_9, aI K nw 512 zn2_10, aI K ki 608 kzv, aI K ke 608 yzv, aI K mn 608 mzv, aI K ak 3648 azv, aL K dg 608 fgv, aZ K uk 64 zv, aL K ud 64 fv]) 0 15 iX6 tyX6 tyX6_ok nmX6 rfl rfl (by decide) t3_91 rfl rfl rfl rfl (Nat.le_of_ble_eq_true rfl) dX6_start_246 rfl ?_
                            refine z_iinc F (lv' := [(4, .int (iZ (i + 1))), (1, .int (iZ be)), (0, .ref o)]) 0 dX6_start_249 rfl (by decide) rfl ?_
                            refine z_goto F 216 dX6_start_252 (by decide) ?_
                            exact ih216 (i + 1) (wgv + 0) (by omega) (by omega) (by omega)
                          · refine z_iconst F dX6_start_240 ?_
                            refine z_goto F 245 dX6_start_241 (by decide) ?_
                            refine z_iadd F dX6_start_245 ?_
                            refine z_put F (ws' := [oX6 o 0 se ea dk wt wh wc2_6 nw 1 wa wa ((s1 + 1) + 1) a1 env env (wgv + 1) tk cp co ki ke mn ak dg uk ud, aI K dk 20480 zd2_7, aI K wt 32768 zw2_8, aI K wh 64 zh2_9, aI K nw 512 zn2_10, aI K ki 608 kzv, aI K ke 608 yzv, aI K mn 608 mzv, aI K ak 3648 azv, aL K dg 608 fgv, aZ K uk 64 zv, aL K ud 64 fv]) 0 15 iX6 tyX6 tyX6_ok nmX6 rfl rfl (by decide) t3_91 rfl rfl rfl rfl (Nat.le_of_ble_eq_true rfl) dX6_start_246 rfl ?_
                            refine z_iinc F (lv' := [(4, .int (iZ (i + 1))), (1, .int (iZ be)), (0, .ref o)]) 0 dX6_start_249 rfl (by decide) rfl ?_
                            refine z_goto F 216 dX6_start_252 (by decide) ?_
                            exact ih216 (i + 1) (wgv + 1) (by omega) (by omega) (by omega)
                    exact lp216 ((env - 0 : Int).toNat + 1) 0 0 (by omega) (by omega) (Nat.lt_succ_self _)
                  refine z_iload_n F 0 dX6_start_151 rfl ?_
                  refine z_iconst F dX6_start_152 ?_
                  refine z_icmp_ne F 164 dX6_start_153 (by decide) (by omega) (fun c19 => ?_) (fun c19 => ?_)
                  · refine z_iconst F dX6_start_164 ?_
                    refine z_istore F (lv' := [(4, .int (iZ 0)), (1, .int (iZ be)), (0, .ref o)]) dX6_start_165 (by decide) rfl ?_
                    have lp167 : ∀ (nn167 : Nat) (i : Int) (env : Int) (zq2 : Nat → Int) (kzv : Nat → Int) (yzv : Nat → Int) (mzv : Nat → Int) (azv : Nat → Int) (fgv : Nat → Int64), (0 ≤ i ∧ i ≤ 16 * ea) → (0 ≤ env ∧ env ≤ i) → (rng 0 255 zq2) → (rng 0 3 kzv) → (rng 0 255 yzv) → (rng 0 6 mzv) → (rng 0 255 azv) → (akOk mzv azv) → ((16 * ea - i : Int).toNat < nn167) → Go C { frames := 5, cells := 0, slots := 0, locals := 106 } D cls5 5 0 0 [oX6 o 0 se ea dk wt wh wc nw ru wa wa s1 a1 env sd wg tk cp co ki ke mn ak dg uk ud, aI K dk 20480 zd, aI K wt 32768 zw, aI K wh 64 zh, aI K nw 512 zq2, aI K ki 608 kzv, aI K ke 608 yzv, aI K mn 608 mzv, aI K ak 3648 azv, aL K dg 608 fgv, aZ K uk 64 zv, aL K ud 64 fv] 167 [(4, .int (iZ i)), (1, .int (iZ be)), (0, .ref o)] [] := by
                      intro nn167
                      induction nn167 with
                      | zero => intro i env zq2 kzv yzv mzv azv fgv g167_0 g167_1 g167_2 g167_3 g167_4 g167_5 g167_6 g167_7 hmu167; exact absurd hmu167 (Nat.not_lt_zero _)
                      | succ nn167 ih167 =>
                        intro i env zq2 kzv yzv mzv azv fgv g167_0 g167_1 g167_2 g167_3 g167_4 g167_5 g167_6 g167_7 hmu167
                        refine z_iload F 0 dX6_start_167 rfl ?_
                        refine z_bipush F dX6_start_169 (by decide) ?_
                        refine z_aload_n F 2 dX6_start_171 rfl ?_
                        refine z_get F 0 2 iX6 rfl rfl (by decide) t3_78 rfl dX6_start_172 ?_
                        refine z_imul F dX6_start_175 ?_
                        refine z_icmp_ge F 191 dX6_start_176 (by decide) (by omega) (fun c20 => ?_) (fun c20 => ?_)
                        · refine z_lv F (lv' := [(1, .int (iZ be)), (0, .ref o)]) [1, 2] rfl ?_
                          exact lp191 wc env zd zw zh zq2 kzv yzv mzv azv fgv (by first | exact fun _ => rfl | exact fun hz => absurd (g21_3 hz) (by omega)) (by omega) h1 h2 h3 h4 g167_2 g167_3 g167_4 g167_5 g167_6 g167_7
                        · refine z_aload_n F 2 dX6_start_179 rfl ?_
                          refine z_iload F 0 dX6_start_180 rfl ?_
                          refine z_callV F lw_good (k_X6_read _ D K o 0 se ea dk wt wh wc nw ru wa wa s1 a1 env sd wg tk cp co ki ke mn ak dg uk ud zd zw zh zq2 kzv yzv mzv azv fgv i h0 h1 h2 h3 h4 g167_2 g167_3 g167_4 g167_5 g167_6 g167_7 g143_0 (by omega)) t3_203 t1_6 t3_200 t3_202 (q := (RX6, TX6, 26)) ts_29 ⟨rfl, rfl⟩ ndX6_read ⟨Nat.le_of_ble_eq_true rfl, Nat.le_of_ble_eq_true rfl⟩ 0 rfl rfl (rest := []) rfl (Nat.le_of_ble_eq_true rfl) dX6_start_182 ⟨(show 0 + 0 ≤ 0 by omega), (show 0 + 0 ≤ 0 by omega)⟩ (wr := [aZ K uk 64 zv, aL K ud 64 fv]) ([0, 1, 2, 3, 4, 5, 6, 7, 8, 9] : List Nat) ([10, 11] : List Nat) rfl rfl rfl rfl (by decide) (fun vr wo hp => ?_)
                          obtain ⟨en2_21, zn2_22, kz2_23, yz2_24, mz2_25, az2_26, fg2_27, rfl, rfl, f28, f29, f30, f31, f32, f33, f34⟩ := hp
                          refine z_re F (ws' := [oX6 o 0 se ea dk wt wh wc nw ru wa wa s1 a1 en2_21 sd wg tk cp co ki ke mn ak dg uk ud, aI K dk 20480 zd, aI K wt 32768 zw, aI K wh 64 zh, aI K nw 512 zn2_22, aI K ki 608 kz2_23, aI K ke 608 yz2_24, aI K mn 608 mz2_25, aI K ak 3648 az2_26, aL K dg 608 fg2_27, aZ K uk 64 zv, aL K ud 64 fv]) (st' := []) ([2, 3, 4, 5, 6, 7, 8, 9, 10, 11, 0, 1] : List Nat) rfl rfl rfl ?_
                          refine z_iinc F (lv' := [(4, .int (iZ (i + 1))), (1, .int (iZ be)), (0, .ref o)]) 0 dX6_start_185 rfl (by decide) rfl ?_
                          refine z_goto F 167 dX6_start_188 (by decide) ?_
                          exact ih167 (i + 1) en2_21 zn2_22 kz2_23 yz2_24 mz2_25 az2_26 fg2_27 (by omega) (by omega) f29 f30 f31 f32 f33 f34 (by omega)
                    exact lp167 ((16 * ea - 0 : Int).toNat + 1) 0 0 zp kz yz mz az fg (by omega) (by omega) g72_0 h6 h7 h8 h9 h10 (Nat.lt_succ_self _)
                  · refine z_aload_n F 1 dX6_start_156 rfl ?_
                    refine z_iconst F dX6_start_157 ?_
                    refine z_callV F lw_good (k_X6_zeros _ D K o 0 se ea dk wt wh wc nw ru wa wa s1 a1 0 sd wg tk cp co ki ke mn ak dg uk ud zd zw zh zp 0 h0 h1 h2 h3 h4 g72_0 (by omega)) t3_183 t1_6 t3_180 t3_182 (q := (RX6, TX6, 26)) ts_24 ⟨rfl, rfl⟩ ndX6_zeros ⟨Nat.le_of_ble_eq_true rfl, Nat.le_of_ble_eq_true rfl⟩ 0 rfl rfl (rest := []) rfl (Nat.le_of_ble_eq_true rfl) dX6_start_158 ⟨(show 0 + 0 ≤ 0 by omega), (show 0 + 0 ≤ 0 by omega)⟩ (wr := [aI K ki 608 kz, aI K ke 608 yz, aI K mn 608 mz, aI K ak 3648 az, aL K dg 608 fg, aZ K uk 64 zv, aL K ud 64 fv]) ([0, 1, 2, 3, 4] : List Nat) ([5, 6, 7, 8, 9, 10, 11] : List Nat) rfl rfl rfl rfl (by decide) (fun vr wo hp => ?_)
                    obtain ⟨wc2_35, zd2_36, zw2_37, zh2_38, zn2_39, rfl, rfl, f40, f41, f42, f43, f44⟩ := hp
                    refine z_re F (ws' := [oX6 o 0 se ea dk wt wh wc2_35 nw ru wa wa s1 a1 0 sd wg tk cp co ki ke mn ak dg uk ud, aI K dk 20480 zd2_36, aI K wt 32768 zw2_37, aI K wh 64 zh2_38, aI K nw 512 zn2_39, aI K ki 608 kz, aI K ke 608 yz, aI K mn 608 mz, aI K ak 3648 az, aL K dg 608 fg, aZ K uk 64 zv, aL K ud 64 fv]) (st' := []) ([7, 8, 9, 10, 11, 0, 1, 2, 3, 4, 5, 6] : List Nat) rfl rfl rfl ?_
                    refine z_goto F 191 dX6_start_161 (by decide) ?_
                    exact lp191 wc2_35 0 zd2_36 zw2_37 zh2_38 zn2_39 kz yz mz az fg (by first | exact fun _ => rfl | exact fun hz => absurd (g21_3 hz) (by omega)) (by omega) f40 f41 f42 f43 f44 h6 h7 h8 h9 h10
                refine z_aload_n F 1 dX6_start_126 rfl ?_
                refine z_iload_n F 0 dX6_start_127 rfl ?_
                refine z_iconst F dX6_start_128 ?_
                refine z_icmp_ne F 136 dX6_start_129 (by decide) (by omega) (fun c45 => ?_) (fun c45 => ?_)
                · refine z_aload_n F 1 dX6_start_136 rfl ?_
                  refine z_get F 0 7 iX6 rfl rfl (by decide) t3_83 rfl dX6_start_137 ?_
                  refine z_bipush F dX6_start_140 (by decide) ?_
                  refine z_iald F 4 rfl rfl dX6_start_142 (by omega) (by omega) ?_
                  have r46 : 0 ≤ zp (8 : Int).toNat ∧ zp (8 : Int).toNat ≤ 255 := g72_0 _
                  exact lp143 (zp (8 : Int).toNat) (by omega)
                · refine z_iconst F dX6_start_132 ?_
                  refine z_goto F 143 dX6_start_133 (by decide) ?_
                  exact lp143 0 (by omega)
              refine z_aload_n F 2 dX6_start_112 rfl ?_
              refine z_iload_n F 1 dX6_start_113 rfl ?_
              refine z_iconst F dX6_start_114 ?_
              refine z_icmp_ne F 122 dX6_start_115 (by decide) (by omega) (fun c47 => ?_) (fun c47 => ?_)
              · refine z_iload_n F 0 dX6_start_122 rfl ?_
                refine z_lv F (lv' := [(1, .int (iZ be)), (0, .ref o)]) [1, 2] rfl ?_
                exact lp123 gr (by omega)
              · refine z_iconst F dX6_start_118 ?_
                refine z_goto F 123 dX6_start_119 (by decide) ?_
                refine z_lv F (lv' := [(1, .int (iZ be)), (0, .ref o)]) [1, 2] rfl ?_
                exact lp123 0 (by omega)
            refine z_iload_n F 2 dX6_start_79 rfl ?_
            refine z_iconst F dX6_start_80 ?_
            refine z_icmp_eq F 104 dX6_start_81 (by decide) (by omega) (fun c48 => ?_) (fun c48 => ?_)
            · refine z_lv F (lv' := [(2, .int (iZ gr)), (1, .int (iZ be)), (0, .ref o)]) [1, 2, 3] rfl ?_
              exact lp104 g72_1
            · refine z_iload_n F 0 dX6_start_84 rfl ?_
              refine z_aload_n F 3 dX6_start_85 rfl ?_
              refine z_get F 0 10 iX6 rfl rfl (by decide) t3_86 rfl dX6_start_86 ?_
              refine z_icmp_eq F 104 dX6_start_89 (by decide) (by omega) (fun c49 => ?_) (fun c49 => ?_)
              · refine z_lv F (lv' := [(2, .int (iZ gr)), (1, .int (iZ be)), (0, .ref o)]) [1, 2, 3] rfl ?_
                exact lp104 g72_1
              · refine z_iload_n F 0 dX6_start_92 rfl ?_
                refine z_aload_n F 3 dX6_start_93 rfl ?_
                refine z_get F 0 10 iX6 rfl rfl (by decide) t3_86 rfl dX6_start_94 ?_
                refine z_iconst F dX6_start_97 ?_
                refine z_isub F dX6_start_98 ?_
                refine z_icmp_eq F 104 dX6_start_99 (by decide) (by omega) (fun c50 => ?_) (fun c50 => ?_)
                · refine z_lv F (lv' := [(2, .int (iZ gr)), (1, .int (iZ be)), (0, .ref o)]) [1, 2, 3] rfl ?_
                  exact lp104 g72_1
                · refine z_iconst F dX6_start_102 ?_
                  exact z_iret F hr dX6_start_103 (by omega) ⟨(-1), ru, ed, sq, ar, en, sd, wg, wc, zd, zw, zh, zp, kz, yz, mz, az, fg, rfl, rfl, (by omega), (by first | (intro hz q; exact absurd q (by omega)) | (intro hz q; have z1 := g191_0 hz; omega) | (intro hz q; exact absurd (g21_3 hz) (by omega))), h14, h12, (by omega), (by omega), h11, h15, (by omega), h1, h2, h3, h4, g72_0, h6, h7, h8, h9, h10⟩
          refine z_iload_n F 2 dX6_start_62 rfl ?_
          refine z_iconst F dX6_start_63 ?_
          refine z_icmp_eq F 72 dX6_start_64 (by decide) (by omega) (fun c51 => ?_) (fun c51 => ?_)
          · exact lp72 zq g21_4 (by first | omega | (have q9 := f41 (by omega) 8 (by decide); right; have q7 : 0 ≤ zd (512 * be + 8).toNat ∧ zd (512 * be + 8).toNat ≤ 1 := (by omega); exact ⟨(Int.le_trans q7.1 (Int.le_of_eq q9.symm)), (Int.le_trans (Int.le_of_eq q9) q7.2)⟩))
          · refine z_aload_n F 3 dX6_start_67 rfl ?_
            refine z_iload_n F 2 dX6_start_68 rfl ?_
            refine z_callV F lw_good (k_X6_load _ D K o 0 se ea dk wt wh wc nw ru ed wa sq ar en sd wg tk cp co ki ke mn ak dg uk ud zd zw zh zq be (by omega) h1 h2 h3 h4 g21_4 (by omega)) t3_166 t1_6 t3_163 t3_165 (q := (RX6, TX6, 26)) ts_21 ⟨rfl, rfl⟩ ndX6_load ⟨Nat.le_of_ble_eq_true rfl, Nat.le_of_ble_eq_true rfl⟩ 0 rfl rfl (rest := []) rfl (Nat.le_of_ble_eq_true rfl) dX6_start_69 ⟨(show 0 + 0 ≤ 0 by omega), (show 0 + 0 ≤ 0 by omega)⟩ (wr := [aI K ki 608 kz, aI K ke 608 yz, aI K mn 608 mz, aI K ak 3648 az, aL K dg 608 fg, aZ K uk 64 zv, aL K ud 64 fv]) ([0, 1, 2, 3, 4] : List Nat) ([5, 6, 7, 8, 9, 10, 11] : List Nat) rfl rfl rfl rfl (by decide) (fun vr wo hp => ?_)
            obtain ⟨zn2_52, rfl, rfl, f53, f54⟩ := hp
            refine z_re F (ws' := [oX6 o 0 se ea dk wt wh wc nw ru ed wa sq ar en sd wg tk cp co ki ke mn ak dg uk ud, aI K dk 20480 zd, aI K wt 32768 zw, aI K wh 64 zh, aI K nw 512 zn2_52, aI K ki 608 kz, aI K ke 608 yz, aI K mn 608 mz, aI K ak 3648 az, aL K dg 608 fg, aZ K uk 64 zv, aL K ud 64 fv]) (st' := []) ([7, 8, 9, 10, 11, 0, 1, 2, 3, 4, 5, 6] : List Nat) rfl rfl rfl ?_
            exact lp72 zn2_52 f53 (by first | omega | (have q9 := f54 (by omega) 8 (by decide); right; have q7 : 0 ≤ zd (512 * be + 8).toNat ∧ zd (512 * be + 8).toNat ≤ 1 := (by omega); exact ⟨(Int.le_trans q7.1 (Int.le_of_eq q9.symm)), (Int.le_trans (Int.le_of_eq q9) q7.2)⟩))
        · refine z_aload_n F 3 dX6_start_26 rfl ?_
          refine z_iload_n F 0 dX6_start_27 rfl ?_
          refine z_callV F lw_good (k_X6_isHead _ D K o 0 se ea dk wt wh wc nw ru ed wa sq ar en sd wg tk cp co ki ke mn ak dg uk ud zd zw zh zq i (by omega) h1 h2 h3 h4 g21_4 (by omega)) t3_162 t1_6 t3_159 t3_161 (q := (RX6, TX6, 26)) ts_20 ⟨rfl, rfl⟩ ndX6_isHead ⟨Nat.le_of_ble_eq_true rfl, Nat.le_of_ble_eq_true rfl⟩ 0 rfl rfl (rest := []) rfl (Nat.le_of_ble_eq_true rfl) dX6_start_28 ⟨(show 0 + 0 ≤ 0 by omega), (show 0 + 0 ≤ 0 by omega)⟩ (wr := [aI K ki 608 kz, aI K ke 608 yz, aI K mn 608 mz, aI K ak 3648 az, aL K dg 608 fg, aZ K uk 64 zv, aL K ud 64 fv]) ([0, 1, 2, 3, 4] : List Nat) ([5, 6, 7, 8, 9, 10, 11] : List Nat) rfl rfl rfl rfl (by decide) (fun vr wo hp => ?_)
          obtain ⟨r_55, zn2_56, rfl, rfl, f57, f58, f59, f60, f61, f62⟩ := hp
          refine z_re F (ws' := [oX6 o 0 se ea dk wt wh wc nw ru ed wa sq ar en sd wg tk cp co ki ke mn ak dg uk ud, aI K dk 20480 zd, aI K wt 32768 zw, aI K wh 64 zh, aI K nw 512 zn2_56, aI K ki 608 kz, aI K ke 608 yz, aI K mn 608 mz, aI K ak 3648 az, aL K dg 608 fg, aZ K uk 64 zv, aL K ud 64 fv]) (st' := [.int (iZ r_55)]) ([7, 8, 9, 10, 11, 0, 1, 2, 3, 4, 5, 6] : List Nat) rfl rfl rfl ?_
          have hh0 := f57; have hh2 := f59 (by omega); have hh3 := f60; have hh4 := f61; have hh5 := f62
          refine z_if_eq F 56 dX6_start_31 (by decide) (by omega) (fun c63 => ?_) (fun c63 => ?_)
          · refine z_iinc F (lv' := [(3, .int (iZ (i + 1))), (2, .int (iZ gr)), (1, .int (iZ be)), (0, .ref o)]) 0 dX6_start_56 rfl (by decide) rfl ?_
            refine z_goto F 21 dX6_start_59 (by decide) ?_
            exact ih21 be gr (i + 1) zn2_56 (by omega) g21_1 (by first | assumption | (right; have q8 := hh3 (by omega); have q9 := hh2 8 (by decide); rw [q9] at q8; exact ⟨by omega, q8.1, q8.2, by omega, by omega⟩) | omega) (by first | assumption | exact fun hz => absurd (hh5 hz (by omega)) (by omega)) f58 (by omega)
          · refine z_aload_n F 3 dX6_start_34 rfl ?_
            refine z_iconst F dX6_start_35 ?_
            refine z_iconst F dX6_start_36 ?_
            refine z_callV F lw_good (k_X6_number _ D K o 0 se ea dk wt wh wc nw ru ed wa sq ar en sd wg tk cp co ki ke mn ak dg uk ud zn2_56 4 4 (by omega)) t3_170 t1_6 t3_167 t3_169 (q := (RX6, TX6, 26)) ts_22 ⟨rfl, rfl⟩ ndX6_number ⟨Nat.le_of_ble_eq_true rfl, Nat.le_of_ble_eq_true rfl⟩ 0 rfl rfl (rest := []) rfl (Nat.le_of_ble_eq_true rfl) dX6_start_37 ⟨(show 0 + 0 ≤ 0 by omega), (show 0 + 0 ≤ 0 by omega)⟩ (wr := [aI K dk 20480 zd, aI K wt 32768 zw, aI K wh 64 zh, aI K ki 608 kz, aI K ke 608 yz, aI K mn 608 mz, aI K ak 3648 az, aL K dg 608 fg, aZ K uk 64 zv, aL K ud 64 fv]) ([0, 4] : List Nat) ([1, 2, 3, 5, 6, 7, 8, 9, 10, 11] : List Nat) rfl rfl rfl rfl (by decide) (fun vr wo hp => ?_)
            obtain ⟨r_64, rfl, rfl, f65, f66⟩ := hp
            refine z_re F (ws' := [oX6 o 0 se ea dk wt wh wc nw ru ed wa sq ar en sd wg tk cp co ki ke mn ak dg uk ud, aI K dk 20480 zd, aI K wt 32768 zw, aI K wh 64 zh, aI K nw 512 zn2_56, aI K ki 608 kz, aI K ke 608 yz, aI K mn 608 mz, aI K ak 3648 az, aL K dg 608 fg, aZ K uk 64 zv, aL K ud 64 fv]) (st' := [.int (iZ r_64)]) ([10, 0, 1, 2, 11, 3, 4, 5, 6, 7, 8, 9] : List Nat) rfl rfl rfl ?_
            have hn1 := f65; have hn2 := f66; have hq4 := hh4 (by omega) _ hn1 hn2
            refine z_iload_n F 1 dX6_start_40 rfl ?_
            refine z_icmp_gt F 47 dX6_start_41 (by decide) (by omega) (fun c67 => ?_) (fun c67 => ?_)
            · refine z_aload_n F 3 dX6_start_47 rfl ?_
              refine z_iconst F dX6_start_48 ?_
              refine z_iconst F dX6_start_49 ?_
              refine z_callV F lw_good (k_X6_number _ D K o 0 se ea dk wt wh wc nw ru ed wa sq ar en sd wg tk cp co ki ke mn ak dg uk ud zn2_56 4 4 (by omega)) t3_170 t1_6 t3_167 t3_169 (q := (RX6, TX6, 26)) ts_22 ⟨rfl, rfl⟩ ndX6_number ⟨Nat.le_of_ble_eq_true rfl, Nat.le_of_ble_eq_true rfl⟩ 0 rfl rfl (rest := []) rfl (Nat.le_of_ble_eq_true rfl) dX6_start_50 ⟨(show 0 + 0 ≤ 0 by omega), (show 0 + 0 ≤ 0 by omega)⟩ (wr := [aI K dk 20480 zd, aI K wt 32768 zw, aI K wh 64 zh, aI K ki 608 kz, aI K ke 608 yz, aI K mn 608 mz, aI K ak 3648 az, aL K dg 608 fg, aZ K uk 64 zv, aL K ud 64 fv]) ([0, 4] : List Nat) ([1, 2, 3, 5, 6, 7, 8, 9, 10, 11] : List Nat) rfl rfl rfl rfl (by decide) (fun vr wo hp => ?_)
              obtain ⟨r_68, rfl, rfl, f69, f70⟩ := hp
              refine z_re F (ws' := [oX6 o 0 se ea dk wt wh wc nw ru ed wa sq ar en sd wg tk cp co ki ke mn ak dg uk ud, aI K dk 20480 zd, aI K wt 32768 zw, aI K wh 64 zh, aI K nw 512 zn2_56, aI K ki 608 kz, aI K ke 608 yz, aI K mn 608 mz, aI K ak 3648 az, aL K dg 608 fg, aZ K uk 64 zv, aL K ud 64 fv]) (st' := [.int (iZ r_68)]) ([10, 0, 1, 2, 11, 3, 4, 5, 6, 7, 8, 9] : List Nat) rfl rfl rfl ?_
              have hn3 := f69; have hn4 := f70; have hq5 := hh4 (by omega) _ hn3 hn4
              refine z_istore_n F (lv' := [(2, .int (iZ r_68)), (3, .int (iZ i)), (1, .int (iZ be)), (0, .ref o)]) dX6_start_53 (by decide) rfl ?_
              refine z_iload_n F 1 dX6_start_54 rfl ?_
              refine z_istore_n F (lv' := [(1, .int (iZ i)), (2, .int (iZ r_68)), (3, .int (iZ i)), (0, .ref o)]) dX6_start_55 (by decide) rfl ?_
              refine z_iinc F (lv' := [(3, .int (iZ (i + 1))), (1, .int (iZ i)), (2, .int (iZ r_68)), (0, .ref o)]) 2 dX6_start_56 rfl (by decide) rfl ?_
              refine z_goto F 21 dX6_start_59 (by decide) ?_
              refine z_lv F (lv' := [(3, .int (iZ (i + 1))), (2, .int (iZ r_68)), (1, .int (iZ i)), (0, .ref o)]) [0, 2, 1, 3] rfl ?_
              exact ih21 i r_68 (i + 1) zn2_56 (by omega) (by omega) (by first | assumption | (right; have q8 := hh3 (by omega); have q9 := hh2 8 (by decide); rw [q9] at q8; exact ⟨by omega, q8.1, q8.2, by omega, by omega⟩) | omega) (by first | assumption | exact fun hz => absurd (hh5 hz (by omega)) (by omega)) f58 (by omega)
            · refine z_goto F 56 dX6_start_44 (by decide) ?_
              refine z_iinc F (lv' := [(3, .int (iZ (i + 1))), (2, .int (iZ gr)), (1, .int (iZ be)), (0, .ref o)]) 0 dX6_start_56 rfl (by decide) rfl ?_
              refine z_goto F 21 dX6_start_59 (by decide) ?_
              exact ih21 be gr (i + 1) zn2_56 (by omega) g21_1 (by first | assumption | (right; have q8 := hh3 (by omega); have q9 := hh2 8 (by decide); rw [q9] at q8; exact ⟨by omega, q8.1, q8.2, by omega, by omega⟩) | omega) (by first | assumption | exact fun hz => absurd (hh5 hz (by omega)) (by omega)) f58 (by omega)
    exact lp21 ((2 - 0 : Int).toNat + 1) (-1) (-1) 0 zn (by omega) (by omega) (by omega) (fun _ => rfl) h5 (Nat.lt_succ_self _)
  · refine z_bipush F dX6_start_12 (by decide) ?_
    exact z_iret F hr dX6_start_14 (by omega) ⟨(-3), ru, ed, sq, ar, en, sd, wg, wc, zd, zw, zh, zn, kz, yz, mz, az, fg, rfl, rfl, (by omega), (by first | (intro hz q; exact absurd q (by omega)) | (intro hz q; have z1 := g191_0 hz; omega) | (intro hz q; exact absurd (g21_3 hz) (by omega))), h14, h12, (by omega), (by omega), h11, h15, (by omega), h1, h2, h3, h4, h5, h6, h7, h8, h9, h10⟩
