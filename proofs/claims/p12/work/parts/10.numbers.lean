/-! lemmas on numbers for the contracts -/
theorem nar01 {r : Int} (h : r = 0 ∨ r = 1) : narrow .boolean (.int (iZ r)) = .int (iZ r) := by
  rcases h with h | h <;> subst h <;> rfl
def nmOk (zk zn : Nat → Int) : Prop := ∀ j, zk j = 1 → 0 ≤ zn j ∧ zn j ≤ 63
theorem xor2_sign {x b : Int} (hx : -2147483648 ≤ x ∧ x ≤ 2147483647) (hb : -2147483648 ≤ b ∧ b ≤ 2147483647) (e : iZ x ^^^ iZ 2 = iZ b) : 0 ≤ b ↔ 0 ≤ x := by
  have h1 : (iZ b).toBitVec.msb = (iZ x).toBitVec.msb := by
    rw [← e]
    show ((iZ x).toBitVec ^^^ (iZ 2).toBitVec).msb = _
    rw [BitVec.msb_xor, show (iZ 2).toBitVec.msb = false by decide]
    simp
  have h2 := iZ_toInt hb
  have h3 := iZ_toInt hx
  have t1 : (iZ b).toBitVec.toInt = b := h2
  have t2 : (iZ x).toBitVec.toInt = x := h3
  rw [BitVec.msb_eq_toInt, BitVec.msb_eq_toInt, t1, t2] at h1
  have h4 : b < 0 ↔ x < 0 := by simpa using h1
  omega
theorem tmod_neg2 (x : Int) : x ≤ 0 → x.tmod 2 ≤ 0 := by
  intro h
  have h1 : (-x).tmod 2 = -(x.tmod 2) := Int.neg_tmod x 2
  have h2 := Int.tmod_nonneg 2 (show 0 ≤ -x by omega)
  omega
theorem sum_rot {m : Int32} {b1 b2 b3 b4 : Int} (hm : ¬ m = 0) (e2 : m <<< (iZ 5 &&& 31) = iZ b2) (e3 : (m.toUInt32 >>> ((iZ 27).toUInt32 &&& Int32.toUInt32 31)).toInt32 = iZ b3) (e4 : iZ b2 ||| iZ b3 = iZ b4) : ¬ iZ b4 = 0 := by
  intro q
  rw [q, ← e2, ← e3] at e4
  have h1 := pk_shl m (iZ 5 &&& 31) 5 (by decide)
  have h2 := pk_ushr m (iZ 27) 27 (by decide)
  generalize m <<< (iZ 5 &&& 31) = u at e4 h1
  generalize (m.toUInt32 >>> ((iZ 27).toUInt32 &&& Int32.toUInt32 31)).toInt32 = w at e4 h2
  have h3 : u.toBitVec ||| w.toBitVec = 0#32 := congrArg Int32.toBitVec e4
  have h4 : u.toBitVec = 0#32 ∧ w.toBitVec = 0#32 := by
    constructor
    · ext i hi
      have := congrArg (fun v => v.getLsbD i) h3
      simp at this
      simp
      rw [← BitVec.getLsbD_eq_getElem]
      exact this.1
    · ext i hi
      have := congrArg (fun v => v.getLsbD i) h3
      simp at this
      simp
      rw [← BitVec.getLsbD_eq_getElem]
      exact this.2
  rw [h4.1] at h1
  rw [h4.2] at h2
  have h5 : m.toBitVec.toNat < 2 ^ 32 := m.toBitVec.isLt
  simp at h1 h2
  have h6 : m.toBitVec.toNat = 0 := by omega
  apply hm
  apply Int32.toBitVec.inj
  apply BitVec.eq_of_toNat_eq
  rw [h6]; rfl
theorem sum_nz {s b1 b2 b3 b4 v : Int} (rs : -2147483648 ≤ s ∧ s ≤ 2147483647) (hs : ¬ s = 0) (e1 : iZ s ^^^ iZ (0 % 256) = iZ b1) (e2 : iZ b1 <<< (iZ 5 &&& 31) = iZ b2) (e3 : ((iZ b1).toUInt32 >>> ((iZ 27).toUInt32 &&& Int32.toUInt32 31)).toInt32 = iZ b3) (e4 : iZ b2 ||| iZ b3 = iZ b4) (rv : -2147483648 ≤ v ∧ v ≤ 2147483647) (ev : iZ (b4 * (-2048144777)) = iZ v) : ¬ v = 0 := by
  intro q
  have h0 : iZ b1 = iZ s := by
    rw [← e1, show iZ (0 % 256) = (0 : Int32) from rfl]
    simp
  have hm : ¬ iZ b1 = 0 := fun z => hs ((iZ_eq (a := s) (b := 0) ⟨rs, by decide⟩).mp (by rw [← h0]; exact z))
  have h4 := sum_rot (b1 := 0) hm e2 e3 e4
  apply h4
  rw [q] at ev
  have h5 : iZ b4 * iZ (-2048144777) = 0 := by rw [iZ_mul]; exact ev
  have h6 : iZ (-2048144777) * iZ (-1228329145) = 1 := by decide
  calc iZ b4 = iZ b4 * (iZ (-2048144777) * iZ (-1228329145)) := by rw [h6, Int32.mul_one]
    _ = (iZ b4 * iZ (-2048144777)) * iZ (-1228329145) := by rw [Int32.mul_assoc]
    _ = 0 := by rw [h5, Int32.zero_mul]
set_option maxHeartbeats 4000000 in
set_option maxRecDepth 20000 in
theorem k_X2_read (l : Launch) (D : va_G) (K : KI) (a : Nat) (n : Nat) (z : Nat → Int) (pa : Int) (cnt : Int) (h0 : n < 2147483648 ∧ 0 ≤ pa ∧ 0 ≤ cnt ∧ pa + cnt ≤ n) : Ct lw_T l yX2_read cX2_read 6 (some .long) { frames := 0, cells := 0, slots := 0, locals := 0 } 0 0 D cls5 (TY K) [.ref a, .int (iZ pa), .int (iZ cnt)] [aB K a n z] (fun vr wo => ∃ (r : Int64), vr = some (.long r) ∧ wo = [aB K a n z] ∧ ((∀ j, z j = 0) → r = 0)) := by
  refine ct_of (own := RX2) (lv := [(0, .ref a), (1, .int (iZ pa)), (2, .int (iZ cnt))]) (by decide) rfl (Nat.le_of_ble_eq_true rfl) rfl (fun C F hr hnm hzl => ?_)
  subst hzl
  refine z_lconst F (v := 0) dX2_read_0 (by decide) ?_
  refine z_lstore_n F (lv' := [(3, .long 0), (0, .ref a), (1, .int (iZ pa)), (2, .int (iZ cnt))]) dX2_read_1 (by decide) rfl ?_
  refine z_iconst F dX2_read_2 ?_
  refine z_istore F (lv' := [(5, .int (iZ 0)), (3, .long 0), (0, .ref a), (1, .int (iZ pa)), (2, .int (iZ cnt))]) dX2_read_3 (by decide) rfl ?_
  have lp5 : ∀ (nn5 : Nat) (w : Int64) (i : Int), (0 ≤ i ∧ i ≤ cnt) → ((∀ j, z j = 0) → w = 0) → ((cnt - i : Int).toNat < nn5) → Go C { frames := 0, cells := 0, slots := 0, locals := 0 } D cls5 6 0 0 [aB K a n z] 5 [(5, .int (iZ i)), (3, .long w), (0, .ref a), (1, .int (iZ pa)), (2, .int (iZ cnt))] [] := by
    intro nn5
    induction nn5 with
    | zero => intro w i g5_0 g5_1 hmu5; exact absurd hmu5 (Nat.not_lt_zero _)
    | succ nn5 ih5 =>
      intro w i g5_0 g5_1 hmu5
      refine z_iload F 0 dX2_read_5 rfl ?_
      refine z_iload_n F 4 dX2_read_7 rfl ?_
      refine z_icmp_ge F 34 dX2_read_8 (by decide) (by omega) (fun c1 => ?_) (fun c1 => ?_)
      · refine z_lload_n F 1 dX2_read_34 rfl ?_
        exact z_lret F hr dX2_read_35 (by omega) ⟨w, rfl, rfl, g5_1⟩
      · refine z_lload_n F 1 dX2_read_11 rfl ?_
        refine z_bipush F dX2_read_12 (by decide) ?_
        refine z_lshl F dX2_read_14 ?_
        refine z_aload_n F 2 dX2_read_15 rfl ?_
        refine z_iload_n F 3 dX2_read_16 rfl ?_
        refine z_iload F 0 dX2_read_17 rfl ?_
        refine z_iadd F dX2_read_19 ?_
        refine z_bald F 0 rfl rfl dX2_read_20 (by omega) (by omega) ?_
        refine z_sipush F dX2_read_21 (by decide) ?_
        refine z_and255 F dX2_read_24 ?_
        refine z_i2l F dX2_read_25 ?_
        refine z_lor F dX2_read_26 ?_
        refine z_lstore_n F (lv' := [(3, .long ((w <<< ((iZ 8).toInt64 &&& 63)) ||| ((iZ ((z (pa + i).toNat) % 256)).toInt64))), (5, .int (iZ i)), (0, .ref a), (1, .int (iZ pa)), (2, .int (iZ cnt))]) dX2_read_27 (by decide) rfl ?_
        refine z_iinc F (lv' := [(5, .int (iZ (i + 1))), (3, .long ((w <<< ((iZ 8).toInt64 &&& 63)) ||| ((iZ ((z (pa + i).toNat) % 256)).toInt64))), (0, .ref a), (1, .int (iZ pa)), (2, .int (iZ cnt))]) 1 dX2_read_28 rfl (by decide) rfl ?_
        refine z_goto F 5 dX2_read_31 (by decide) ?_
        exact ih5 ((w <<< ((iZ 8).toInt64 &&& 63)) ||| ((iZ ((z (pa + i).toNat) % 256)).toInt64)) (i + 1) (by omega) (fun h => by rw [g5_1 h, h]; decide) (by omega)
  exact lp5 ((cnt - 0 : Int).toNat + 1) 0 0 (by omega) (fun _ => rfl) (Nat.lt_succ_self _)
set_option maxHeartbeats 4000000 in
set_option maxRecDepth 20000 in
theorem k_X2_sum (l : Launch) (D : va_G) (K : KI) (a : Nat) (n : Nat) (z : Nat → Int) (pa : Int) (cnt : Int) (by0 : Int) (h0 : n < 2147483648 ∧ 0 ≤ pa ∧ 0 ≤ cnt ∧ pa + cnt ≤ n) : Ct lw_T l yX2_sum cX2_sum 7 (some .int) { frames := 0, cells := 0, slots := 0, locals := 0 } 0 0 D cls5 (TY K) [.ref a, .int (iZ pa), .int (iZ cnt), .int (iZ by0)] [aB K a n z] (fun vr wo => ∃ (r : Int), vr = some (.int (iZ r)) ∧ wo = [aB K a n z] ∧ (-2147483648 ≤ r ∧ r ≤ 2147483647) ∧ ((∀ j, z j = 0) → by0 = 0 → ¬ r = 0)) := by
  refine ct_of (own := RX2) (lv := [(0, .ref a), (1, .int (iZ pa)), (2, .int (iZ cnt)), (3, .int (iZ by0))]) (by decide) rfl (Nat.le_of_ble_eq_true rfl) rfl (fun C F hr hnm hzl => ?_)
  subst hzl
  refine z_iload_n F 3 dX2_sum_0 rfl ?_
  refine z_iconst F dX2_sum_1 ?_
  refine z_iadd F dX2_sum_2 ?_
  refine z_norm F (fun y1 ry1 ey1 => ?_)
  have hsy1 : (∀ j, z j = 0) → by0 = 0 → ¬ y1 = 0 := fun _ hb q => by rw [hb, q] at ey1; exact absurd ey1 (by decide)
  refine z_istore F (lv' := [(4, .int (iZ y1)), (0, .ref a), (1, .int (iZ pa)), (2, .int (iZ cnt)), (3, .int (iZ by0))]) dX2_sum_3 (by decide) rfl ?_
  refine z_iconst F dX2_sum_5 ?_
  refine z_istore F (lv' := [(5, .int (iZ 0)), (4, .int (iZ y1)), (0, .ref a), (1, .int (iZ pa)), (2, .int (iZ cnt)), (3, .int (iZ by0))]) dX2_sum_6 (by decide) rfl ?_
  have lp8 : ∀ (nn8 : Nat) (s : Int) (i : Int), (0 ≤ i ∧ i ≤ cnt) → (-2147483648 ≤ s ∧ s ≤ 2147483647) → ((∀ j, z j = 0) → by0 = 0 → ¬ s = 0) → ((cnt - i : Int).toNat < nn8) → Go C { frames := 0, cells := 0, slots := 0, locals := 0 } D cls5 7 0 0 [aB K a n z] 8 [(5, .int (iZ i)), (4, .int (iZ s)), (0, .ref a), (1, .int (iZ pa)), (2, .int (iZ cnt)), (3, .int (iZ by0))] [] := by
    intro nn8
    induction nn8 with
    | zero => intro s i g8_0 g8_1 g8_2 hmu8; exact absurd hmu8 (Nat.not_lt_zero _)
    | succ nn8 ih8 =>
      intro s i g8_0 g8_1 g8_2 hmu8
      refine z_iload F 0 dX2_sum_8 rfl ?_
      refine z_iload_n F 4 dX2_sum_10 rfl ?_
      refine z_icmp_ge F 50 dX2_sum_11 (by decide) (by omega) (fun c2 => ?_) (fun c2 => ?_)
      · refine z_iload F 1 dX2_sum_50 rfl ?_
        exact z_iret F hr dX2_sum_52 (by omega) ⟨s, rfl, rfl, g8_1, g8_2⟩
      · refine z_iload F 1 dX2_sum_14 rfl ?_
        refine z_aload_n F 2 dX2_sum_16 rfl ?_
        refine z_iload_n F 3 dX2_sum_17 rfl ?_
        refine z_iload F 0 dX2_sum_18 rfl ?_
        refine z_iadd F dX2_sum_20 ?_
        refine z_bald F 0 rfl rfl dX2_sum_21 (by omega) (by omega) ?_
        refine z_sipush F dX2_sum_22 (by decide) ?_
        refine z_and255 F dX2_sum_25 ?_
        refine z_ixor F dX2_sum_26 (fun b3 rb3 eb3 => ?_)
        refine z_istore F (lv' := [(6, .int (iZ b3)), (5, .int (iZ i)), (4, .int (iZ s)), (0, .ref a), (1, .int (iZ pa)), (2, .int (iZ cnt)), (3, .int (iZ by0))]) dX2_sum_27 (by decide) rfl ?_
        refine z_iload F 0 dX2_sum_29 rfl ?_
        refine z_iconst F dX2_sum_31 ?_
        refine z_ishl F dX2_sum_32 (fun b4 rb4 eb4 => ?_)
        refine z_iload F 0 dX2_sum_33 rfl ?_
        refine z_bipush F dX2_sum_35 (by decide) ?_
        refine z_iushr F dX2_sum_37 (fun b5 rb5 eb5 => ?_)
        refine z_ior F dX2_sum_38 (fun b6 rb6 eb6 => ?_)
        refine z_ldc F t1_177 dX2_sum_39 (z := -2048144777) (by decide) ?_
        refine z_imul F dX2_sum_41 ?_
        refine z_norm F (fun y7 ry7 ey7 => ?_)
        have hsy7 : (∀ j, z j = 0) → by0 = 0 → ¬ y7 = 0 := fun hz hb => sum_nz g8_1 (g8_2 hz hb) (by have h9 := eb3; rw [hz] at h9; exact h9) eb4 eb5 eb6 ry7 ey7
        refine z_istore F (lv' := [(4, .int (iZ y7)), (6, .int (iZ b3)), (5, .int (iZ i)), (0, .ref a), (1, .int (iZ pa)), (2, .int (iZ cnt)), (3, .int (iZ by0))]) dX2_sum_42 (by decide) rfl ?_
        refine z_iinc F (lv' := [(5, .int (iZ (i + 1))), (4, .int (iZ y7)), (6, .int (iZ b3)), (0, .ref a), (1, .int (iZ pa)), (2, .int (iZ cnt)), (3, .int (iZ by0))]) 2 dX2_sum_44 rfl (by decide) rfl ?_
        refine z_goto F 8 dX2_sum_47 (by decide) ?_
        refine z_lv F (lv' := [(5, .int (iZ (i + 1))), (4, .int (iZ y7)), (0, .ref a), (1, .int (iZ pa)), (2, .int (iZ cnt)), (3, .int (iZ by0))]) [0, 1, 3, 4, 5, 6] rfl ?_
        exact ih8 y7 (i + 1) (by omega) ry7 hsy7 (by omega)
  exact lp8 ((cnt - 0 : Int).toNat + 1) y1 0 (by omega) ry1 hsy1 (Nat.lt_succ_self _)
set_option maxHeartbeats 4000000 in
set_option maxRecDepth 20000 in
theorem k_X2_hasSum (l : Launch) (D : va_G) (K : KI) (a : Nat) (n : Nat) (z : Nat → Int) (pa : Int) (cnt : Int) (by0 : Int) (h0 : n < 2147483648 ∧ 0 ≤ pa ∧ 0 ≤ cnt ∧ pa + cnt + 4 ≤ n) : Ct lw_T l yX2_hasSum cX2_hasSum 4 (some .boolean) { frames := 1, cells := 0, slots := 0, locals := 26 } 0 0 D cls5 (TY K) [.ref a, .int (iZ pa), .int (iZ cnt), .int (iZ by0)] [aB K a n z] (fun vr wo => ∃ (r : Int), vr = some (.int (iZ r)) ∧ wo = [aB K a n z] ∧ (r = 0 ∨ r = 1) ∧ ((∀ j, z j = 0) → by0 = 0 → r = 0)) := by
  refine ct_of (own := RX2) (lv := [(0, .ref a), (1, .int (iZ pa)), (2, .int (iZ cnt)), (3, .int (iZ by0))]) (by decide) rfl (Nat.le_of_ble_eq_true rfl) rfl (fun C F hr hnm hzl => ?_)
  subst hzl
  refine z_aload_n F 0 dX2_hasSum_0 rfl ?_
  refine z_iload_n F 1 dX2_hasSum_1 rfl ?_
  refine z_iload_n F 2 dX2_hasSum_2 rfl ?_
  refine z_iadd F dX2_hasSum_3 ?_
  refine z_iconst F dX2_hasSum_4 ?_
  refine z_callS F lw_good (k_X2_read _ D K a n z (pa + cnt) 4 (by omega)) t1_164 t1_8 t1_173 t1_163 ⟨rfl, rfl⟩ ndX2_read ⟨Nat.le_of_ble_eq_true rfl, Nat.le_of_ble_eq_true rfl⟩ (rest := []) rfl (Nat.le_of_ble_eq_true rfl) dX2_hasSum_5 ⟨(show 0 + 0 ≤ 0 by omega), (show 0 + 0 ≤ 0 by omega)⟩ (wr := []) ([0] : List Nat) ([] : List Nat) rfl rfl rfl rfl (by decide) (fun vr wo hp => ?_)
  obtain ⟨r_1, rfl, rfl, f2⟩ := hp
  refine z_re F (ws' := [aB K a n z]) (st' := [.long r_1]) ([0] : List Nat) rfl rfl rfl ?_
  refine z_l2i F dX2_hasSum_8 (fun b3 rb3 eb3 => ?_)
  refine z_aload_n F 0 dX2_hasSum_9 rfl ?_
  refine z_iload_n F 1 dX2_hasSum_10 rfl ?_
  refine z_iload_n F 2 dX2_hasSum_11 rfl ?_
  refine z_iload_n F 3 dX2_hasSum_12 rfl ?_
  refine z_callS F lw_good (k_X2_sum _ D K a n z pa cnt by0 (by omega)) t1_176 t1_8 t1_174 t1_175 ⟨rfl, rfl⟩ ndX2_sum ⟨Nat.le_of_ble_eq_true rfl, Nat.le_of_ble_eq_true rfl⟩ (rest := [.int (iZ b3)]) rfl (Nat.le_of_ble_eq_true rfl) dX2_hasSum_13 ⟨(show 0 + 0 ≤ 0 by omega), (show 0 + 0 ≤ 0 by omega)⟩ (wr := []) ([0] : List Nat) ([] : List Nat) rfl rfl rfl rfl (by decide) (fun vr wo hp => ?_)
  obtain ⟨r_4, rfl, rfl, f5, f6⟩ := hp
  refine z_re F (ws' := [aB K a n z]) (st' := [.int (iZ r_4), .int (iZ b3)]) ([0] : List Nat) rfl rfl rfl ?_
  have hfr := f2; have hfs := f6; have hfe := eb3
  refine z_icmp_ne F 23 dX2_hasSum_16 (by decide) (by omega) (fun c7 => ?_) (fun c7 => ?_)
  · refine z_iconst F dX2_hasSum_23 ?_
    exact z_zret F hr (by decide) dX2_hasSum_24 (by omega) ⟨0, rfl, rfl, (by omega), (by first | exact fun _ _ => rfl | (intro hz hb; exfalso; have q1 := hfr hz; have q2 := hfs hz hb; rw [q1] at hfe; have q3 := (iZ_eq (a := 0) ⟨by omega, by omega⟩).mp hfe; omega))⟩
  · refine z_iconst F dX2_hasSum_19 ?_
    refine z_goto F 24 dX2_hasSum_20 (by decide) ?_
    exact z_zret F hr (by decide) dX2_hasSum_24 (by omega) ⟨1, rfl, rfl, (by omega), (by first | exact fun _ _ => rfl | (intro hz hb; exfalso; have q1 := hfr hz; have q2 := hfs hz hb; rw [q1] at hfe; have q3 := (iZ_eq (a := 0) ⟨by omega, by omega⟩).mp hfe; omega))⟩
set_option maxHeartbeats 4000000 in
set_option maxRecDepth 20000 in
theorem k_X2_write (l : Launch) (D : va_G) (K : KI) (a : Nat) (n : Nat) (z : Nat → Int) (pa : Int) (cnt : Int) (num : Int64) (h0 : n < 2147483648 ∧ 0 ≤ pa ∧ 0 ≤ cnt ∧ pa + cnt ≤ n) (h1 : rng (-128) 127 z) : Ct lw_T l yX2_write cX2_write 6 none { frames := 0, cells := 0, slots := 0, locals := 0 } 0 0 D cls5 (TY K) [.ref a, .int (iZ pa), .int (iZ cnt), .long num] [aB K a n z] (fun vr wo => ∃ (z2 : Nat → Int), vr = none ∧ wo = [aB K a n z2] ∧ (rng (-128) 127 z2)) := by
  refine ct_of (own := RX2) (lv := [(0, .ref a), (1, .int (iZ pa)), (2, .int (iZ cnt)), (3, .long num)]) (by decide) rfl (Nat.le_of_ble_eq_true rfl) rfl (fun C F hr hnm hzl => ?_)
  subst hzl
  refine z_iconst F dX2_write_0 ?_
  refine z_istore F (lv' := [(5, .int (iZ 0)), (0, .ref a), (1, .int (iZ pa)), (2, .int (iZ cnt)), (3, .long num)]) dX2_write_1 (by decide) rfl ?_
  have lp3 : ∀ (nn3 : Nat) (i : Int) (w : Nat → Int), (0 ≤ i ∧ i ≤ cnt) → (rng (-128) 127 w) → ((cnt - i : Int).toNat < nn3) → Go C { frames := 0, cells := 0, slots := 0, locals := 0 } D cls5 6 0 0 [aB K a n w] 3 [(5, .int (iZ i)), (0, .ref a), (1, .int (iZ pa)), (2, .int (iZ cnt)), (3, .long num)] [] := by
    intro nn3
    induction nn3 with
    | zero => intro i w g3_0 g3_1 hmu3; exact absurd hmu3 (Nat.not_lt_zero _)
    | succ nn3 ih3 =>
      intro i w g3_0 g3_1 hmu3
      refine z_iload F 0 dX2_write_3 rfl ?_
      refine z_iload_n F 3 dX2_write_5 rfl ?_
      refine z_icmp_ge F 34 dX2_write_6 (by decide) (by omega) (fun c1 => ?_) (fun c1 => ?_)
      · exact z_vret F hr dX2_write_34 (by omega) ⟨w, rfl, rfl, g3_1⟩
      · refine z_aload_n F 1 dX2_write_9 rfl ?_
        refine z_iload_n F 2 dX2_write_10 rfl ?_
        refine z_iload F 0 dX2_write_11 rfl ?_
        refine z_iadd F dX2_write_13 ?_
        refine z_lload_n F 4 dX2_write_14 rfl ?_
        refine z_bipush F dX2_write_15 (by decide) ?_
        refine z_iload_n F 3 dX2_write_17 rfl ?_
        refine z_iconst F dX2_write_18 ?_
        refine z_isub F dX2_write_19 ?_
        refine z_iload F 0 dX2_write_20 rfl ?_
        refine z_isub F dX2_write_22 ?_
        refine z_imul F dX2_write_23 ?_
        refine z_lushr F dX2_write_24 ?_
        refine z_l2i F dX2_write_25 (fun b2 rb2 eb2 => ?_)
        refine z_i2b F dX2_write_26 ?_
        refine z_bast F (ws' := [aB K a n (zu w (pa + i).toNat ((b2.bmod 256).bmod 256))]) 0 rfl rfl dX2_write_27 (by omega) (by omega) rfl ?_
        have r3 : rng (-128) 127 (zu w (pa + i).toNat ((b2.bmod 256).bmod 256)) := rng_zu g3_1 (bm_r _)
        refine z_iinc F (lv' := [(5, .int (iZ (i + 1))), (0, .ref a), (1, .int (iZ pa)), (2, .int (iZ cnt)), (3, .long num)]) 0 dX2_write_28 rfl (by decide) rfl ?_
        refine z_goto F 3 dX2_write_31 (by decide) ?_
        exact ih3 (i + 1) (zu w (pa + i).toNat ((b2.bmod 256).bmod 256)) (by omega) r3 (by omega)
  exact lp3 ((cnt - 0 : Int).toNat + 1) 0 z (by omega) h1 (Nat.lt_succ_self _)
set_option maxHeartbeats 4000000 in
set_option maxRecDepth 20000 in
theorem k_X2_writeSum (l : Launch) (D : va_G) (K : KI) (a : Nat) (n : Nat) (z : Nat → Int) (pa : Int) (cnt : Int) (by0 : Int) (h0 : n < 2147483648 ∧ 0 ≤ pa ∧ 0 ≤ cnt ∧ pa + cnt + 4 ≤ n) (h1 : rng (-128) 127 z) : Ct lw_T l yX2_writeSum cX2_writeSum 4 none { frames := 1, cells := 0, slots := 0, locals := 26 } 0 0 D cls5 (TY K) [.ref a, .int (iZ pa), .int (iZ cnt), .int (iZ by0)] [aB K a n z] (fun vr wo => ∃ (z2 : Nat → Int), vr = none ∧ wo = [aB K a n z2] ∧ (rng (-128) 127 z2)) := by
  refine ct_of (own := RX2) (lv := [(0, .ref a), (1, .int (iZ pa)), (2, .int (iZ cnt)), (3, .int (iZ by0))]) (by decide) rfl (Nat.le_of_ble_eq_true rfl) rfl (fun C F hr hnm hzl => ?_)
  subst hzl
  refine z_aload_n F 0 dX2_writeSum_0 rfl ?_
  refine z_iload_n F 1 dX2_writeSum_1 rfl ?_
  refine z_iload_n F 2 dX2_writeSum_2 rfl ?_
  refine z_iadd F dX2_writeSum_3 ?_
  refine z_iconst F dX2_writeSum_4 ?_
  refine z_aload_n F 0 dX2_writeSum_5 rfl ?_
  refine z_iload_n F 1 dX2_writeSum_6 rfl ?_
  refine z_iload_n F 2 dX2_writeSum_7 rfl ?_
  refine z_iload_n F 3 dX2_writeSum_8 rfl ?_
  refine z_callS F lw_good (k_X2_sum _ D K a n z pa cnt by0 (by omega)) t1_176 t1_8 t1_174 t1_175 ⟨rfl, rfl⟩ ndX2_sum ⟨Nat.le_of_ble_eq_true rfl, Nat.le_of_ble_eq_true rfl⟩ (rest := [.int (iZ 4), .int (iZ (pa + cnt)), .ref a]) rfl (Nat.le_of_ble_eq_true rfl) dX2_writeSum_9 ⟨(show 0 + 0 ≤ 0 by omega), (show 0 + 0 ≤ 0 by omega)⟩ (wr := []) ([0] : List Nat) ([] : List Nat) rfl rfl rfl rfl (by decide) (fun vr wo hp => ?_)
  obtain ⟨r_1, rfl, rfl, f2, f3⟩ := hp
  refine z_re F (ws' := [aB K a n z]) (st' := [.int (iZ r_1), .int (iZ 4), .int (iZ (pa + cnt)), .ref a]) ([0] : List Nat) rfl rfl rfl ?_
  refine z_i2l F dX2_writeSum_12 ?_
  refine z_callS F lw_good (k_X2_write _ D K a n z (pa + cnt) 4 ((iZ r_1).toInt64) (by omega) h1) t2_36 t1_8 t2_40 t2_35 ⟨rfl, rfl⟩ ndX2_write ⟨Nat.le_of_ble_eq_true rfl, Nat.le_of_ble_eq_true rfl⟩ (rest := []) rfl (Nat.le_of_ble_eq_true rfl) dX2_writeSum_13 ⟨(show 0 + 0 ≤ 0 by omega), (show 0 + 0 ≤ 0 by omega)⟩ (wr := []) ([0] : List Nat) ([] : List Nat) rfl rfl rfl rfl (by decide) (fun vr wo hp => ?_)
  obtain ⟨z2_4, rfl, rfl, f5⟩ := hp
  refine z_re F (ws' := [aB K a n z2_4]) (st' := []) ([0] : List Nat) rfl rfl rfl ?_
  exact z_vret F hr dX2_writeSum_16 (by omega) ⟨z2_4, rfl, rfl, f5⟩
