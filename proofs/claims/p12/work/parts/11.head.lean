set_option maxHeartbeats 4000000 in
set_option maxRecDepth 20000 in
theorem k_X1_areaAt (l : Launch) (D : va_G) (K : KI) (a : Nat) (n : Nat) (z : Nat → Int) (h : Int) (h0 : 1024 ≤ n ∧ n < 2147483648 ∧ 0 ≤ h ∧ h ≤ 1) : Ct lw_T l yX1_areaAt cX1_areaAt 2 (some .int) { frames := 0, cells := 0, slots := 0, locals := 0 } 0 0 D cls5 (TY K) [.ref a, .int (iZ h)] [aB K a n z] (fun vr wo => ∃ (r : Int), vr = some (.int (iZ r)) ∧ wo = [aB K a n z] ∧ (r = z (h * 512 + 8).toNat % 256)) := by
  refine ct_of (own := RX1) (lv := [(0, .ref a), (1, .int (iZ h))]) (by decide) rfl (Nat.le_of_ble_eq_true rfl) rfl (fun C F hr hnm hzl => ?_)
  subst hzl
  refine z_aload_n F 0 dX1_areaAt_0 rfl ?_
  refine z_iload_n F 1 dX1_areaAt_1 rfl ?_
  refine z_sipush F dX1_areaAt_2 (by decide) ?_
  refine z_imul F dX1_areaAt_5 ?_
  refine z_bipush F dX1_areaAt_6 (by decide) ?_
  refine z_iadd F dX1_areaAt_8 ?_
  refine z_bald F 0 rfl rfl dX1_areaAt_9 (by omega) (by omega) ?_
  refine z_sipush F dX1_areaAt_10 (by decide) ?_
  refine z_and255 F dX1_areaAt_13 ?_
  exact z_iret F hr dX1_areaAt_14 (by omega) ⟨((z ((h * 512) + 8).toNat) % 256), rfl, rfl, (by omega)⟩
set_option maxHeartbeats 4000000 in
set_option maxRecDepth 20000 in
theorem k_X1_sequenceAt (l : Launch) (D : va_G) (K : KI) (a : Nat) (n : Nat) (z : Nat → Int) (h : Int) (h0 : 1024 ≤ n ∧ n < 2147483648 ∧ 0 ≤ h ∧ h ≤ 1) : Ct lw_T l yX1_sequenceAt cX1_sequenceAt 2 (some .int) { frames := 1, cells := 0, slots := 0, locals := 25 } 0 0 D cls5 (TY K) [.ref a, .int (iZ h)] [aB K a n z] (fun vr wo => ∃ (r : Int), vr = some (.int (iZ r)) ∧ wo = [aB K a n z] ∧ (-2147483648 ≤ r ∧ r ≤ 2147483647)) := by
  refine ct_of (own := RX1) (lv := [(0, .ref a), (1, .int (iZ h))]) (by decide) rfl (Nat.le_of_ble_eq_true rfl) rfl (fun C F hr hnm hzl => ?_)
  subst hzl
  refine z_aload_n F 0 dX1_sequenceAt_0 rfl ?_
  refine z_iload_n F 1 dX1_sequenceAt_1 rfl ?_
  refine z_sipush F dX1_sequenceAt_2 (by decide) ?_
  refine z_imul F dX1_sequenceAt_5 ?_
  refine z_iconst F dX1_sequenceAt_6 ?_
  refine z_iadd F dX1_sequenceAt_7 ?_
  refine z_iconst F dX1_sequenceAt_8 ?_
  refine z_callS F lw_good (k_X2_read _ D K a n z ((h * 512) + 4) 4 (by omega)) t1_164 t1_8 t1_162 t1_163 ⟨rfl, rfl⟩ ndX2_read ⟨Nat.le_of_ble_eq_true rfl, Nat.le_of_ble_eq_true rfl⟩ (rest := []) rfl (Nat.le_of_ble_eq_true rfl) dX1_sequenceAt_9 ⟨(show 0 + 0 ≤ 0 by omega), (show 0 + 0 ≤ 0 by omega)⟩ (wr := []) ([0] : List Nat) ([] : List Nat) rfl rfl rfl rfl (by decide) (fun vr wo hp => ?_)
  obtain ⟨r_1, rfl, rfl, f2⟩ := hp
  refine z_re F (ws' := [aB K a n z]) (st' := [.long r_1]) ([0] : List Nat) rfl rfl rfl ?_
  refine z_l2i F dX1_sequenceAt_12 (fun b3 rb3 eb3 => ?_)
  exact z_iret F hr dX1_sequenceAt_13 (by omega) ⟨b3, rfl, rfl, (by omega)⟩
set_option maxHeartbeats 4000000 in
set_option maxRecDepth 20000 in
theorem k_X1_isGood (l : Launch) (D : va_G) (K : KI) (a : Nat) (n : Nat) (z : Nat → Int) (h : Int) (h0 : 1024 ≤ n ∧ n < 2147483648 ∧ 0 ≤ h ∧ h ≤ 1) : Ct lw_T l yX1_isGood cX1_isGood 5 (some .boolean) { frames := 2, cells := 0, slots := 0, locals := 49 } 0 0 D cls5 (TY K) [.ref a, .int (iZ h)] [aB K a n z] (fun vr wo => ∃ (r : Int), vr = some (.int (iZ r)) ∧ wo = [aB K a n z] ∧ (r = 0 ∨ r = 1) ∧ (r = 1 → 0 ≤ z (h * 512 + 8).toNat % 256 ∧ z (h * 512 + 8).toNat % 256 ≤ 1) ∧ ((∀ j, z j = 0) → r = 0)) := by
  refine ct_of (own := RX1) (lv := [(0, .ref a), (1, .int (iZ h))]) (by decide) rfl (Nat.le_of_ble_eq_true rfl) rfl (fun C F hr hnm hzl => ?_)
  subst hzl
  refine z_iload_n F 1 dX1_isGood_0 rfl ?_
  refine z_sipush F dX1_isGood_1 (by decide) ?_
  refine z_imul F dX1_isGood_4 ?_
  refine z_istore_n F (lv' := [(2, .int (iZ (h * 512))), (0, .ref a), (1, .int (iZ h))]) dX1_isGood_5 (by decide) rfl ?_
  refine z_aload_n F 1 dX1_isGood_6 rfl ?_
  refine z_iload_n F 0 dX1_isGood_7 rfl ?_
  refine z_iconst F dX1_isGood_8 ?_
  refine z_iadd F dX1_isGood_9 ?_
  refine z_iconst F dX1_isGood_10 ?_
  refine z_callS F lw_good (k_X2_read _ D K a n z ((h * 512) + 4) 4 (by omega)) t1_164 t1_8 t1_162 t1_163 ⟨rfl, rfl⟩ ndX2_read ⟨Nat.le_of_ble_eq_true rfl, Nat.le_of_ble_eq_true rfl⟩ (rest := []) rfl (Nat.le_of_ble_eq_true rfl) dX1_isGood_11 ⟨(show 0 + 0 ≤ 0 by omega), (show 0 + 0 ≤ 0 by omega)⟩ (wr := []) ([0] : List Nat) ([] : List Nat) rfl rfl rfl rfl (by decide) (fun vr wo hp => ?_)
  obtain ⟨r_1, rfl, rfl, f2⟩ := hp
  refine z_re F (ws' := [aB K a n z]) (st' := [.long r_1]) ([0] : List Nat) rfl rfl rfl ?_
  have hq0 := f2
  refine z_lstore_n F (lv' := [(3, .long r_1), (2, .int (iZ (h * 512))), (0, .ref a), (1, .int (iZ h))]) dX1_isGood_14 (by decide) rfl ?_
  refine z_lload_n F 0 dX1_isGood_15 rfl ?_
  refine z_ldc2 F t1_165 dX1_isGood_16 ?_
  refine z_lcmp F dX1_isGood_19 (fun b3 rb3 eb3 => ?_)
  refine z_if_ge F 43 dX1_isGood_20 (by decide) (by omega) (fun c4 => ?_) (fun c4 => ?_)
  · refine z_iconst F dX1_isGood_43 ?_
    exact z_zret F hr (by decide) dX1_isGood_44 (by omega) ⟨0, rfl, rfl, (by omega), (by intro _; omega), (by first | exact fun _ => rfl | (intro hz; refine hgz hz ?_; have q := hq0 hz; rw [q] at hql; exact ((iZ_eq (a := 0) ⟨by omega, by omega⟩).mp hql).symm))⟩
  · refine z_lload_n F 0 dX1_isGood_23 rfl ?_
    refine z_ldc2 F t1_166 dX1_isGood_24 ?_
    refine z_lrem F dX1_isGood_27 (by decide) ?_
    refine z_iload_n F 3 dX1_isGood_28 rfl ?_
    refine z_i2l F dX1_isGood_29 ?_
    refine z_lcmp F dX1_isGood_30 (fun b5 rb5 eb5 => ?_)
    refine z_if_ne F 43 dX1_isGood_31 (by decide) (by omega) (fun c6 => ?_) (fun c6 => ?_)
    · refine z_iconst F dX1_isGood_43 ?_
      exact z_zret F hr (by decide) dX1_isGood_44 (by omega) ⟨0, rfl, rfl, (by omega), (by intro _; omega), (by first | exact fun _ => rfl | (intro hz; refine hgz hz ?_; have q := hq0 hz; rw [q] at hql; exact ((iZ_eq (a := 0) ⟨by omega, by omega⟩).mp hql).symm))⟩
    · refine z_aload_n F 2 dX1_isGood_34 rfl ?_
      refine z_iload_n F 3 dX1_isGood_35 rfl ?_
      refine z_callS F lw_good (k_X1_areaAt _ D K a n z h h0) t1_169 t1_7 t1_167 t1_168 ⟨rfl, rfl⟩ ndX1_areaAt ⟨Nat.le_of_ble_eq_true rfl, Nat.le_of_ble_eq_true rfl⟩ (rest := []) rfl (Nat.le_of_ble_eq_true rfl) dX1_isGood_36 ⟨(show 0 + 0 ≤ 0 by omega), (show 0 + 0 ≤ 0 by omega)⟩ (wr := []) ([0] : List Nat) ([] : List Nat) rfl rfl rfl rfl (by decide) (fun vr wo hp => ?_)
      obtain ⟨r_7, rfl, rfl, f8⟩ := hp
      refine z_re F (ws' := [aB K a n z]) (st' := [.int (iZ r_7)]) ([0] : List Nat) rfl rfl rfl ?_
      refine z_iconst F dX1_isGood_39 ?_
      refine z_icmp_le F 45 dX1_isGood_40 (by decide) (by omega) (fun c9 => ?_) (fun c9 => ?_)
      · refine z_aload_n F 2 dX1_isGood_45 rfl ?_
        refine z_iload_n F 1 dX1_isGood_46 rfl ?_
        refine z_sipush F dX1_isGood_47 (by decide) ?_
        refine z_lload_n F 0 dX1_isGood_50 rfl ?_
        refine z_l2i F dX1_isGood_51 (fun b10 rb10 eb10 => ?_)
        refine z_callS F lw_good (k_X2_hasSum _ D K a n z (h * 512) 508 b10 (by omega)) t1_172 t1_8 t1_170 t1_171 ⟨rfl, rfl⟩ ndX2_hasSum ⟨Nat.le_of_ble_eq_true rfl, Nat.le_of_ble_eq_true rfl⟩ (rest := []) rfl (Nat.le_of_ble_eq_true rfl) dX1_isGood_52 ⟨(show 0 + 0 ≤ 0 by omega), (show 0 + 0 ≤ 0 by omega)⟩ (wr := []) ([0] : List Nat) ([] : List Nat) rfl rfl rfl rfl (by decide) (fun vr wo hp => ?_)
        obtain ⟨r_11, rfl, rfl, f12, f13⟩ := hp
        refine z_re F (ws' := [aB K a n z]) (st' := [.int (iZ r_11)]) ([0] : List Nat) rfl rfl rfl ?_
        have hgr := f12; have hgz := f13; have hql := eb10
        exact z_zret F hr (nar01 hgr) dX1_isGood_55 (by omega) ⟨r_11, rfl, rfl, f12, (by intro _; omega), (by first | exact fun _ => rfl | (intro hz; refine hgz hz ?_; have q := hq0 hz; rw [q] at hql; exact ((iZ_eq (a := 0) ⟨by omega, by omega⟩).mp hql).symm))⟩
      · refine z_iconst F dX1_isGood_43 ?_
        exact z_zret F hr (by decide) dX1_isGood_44 (by omega) ⟨0, rfl, rfl, (by omega), (by intro _; omega), (by first | exact fun _ => rfl | (intro hz; refine hgz hz ?_; have q := hq0 hz; rw [q] at hql; exact ((iZ_eq (a := 0) ⟨by omega, by omega⟩).mp hql).symm))⟩
set_option maxHeartbeats 4000000 in
set_option maxRecDepth 20000 in
theorem k_X1_counting (l : Launch) (D : va_G) (K : KI) (a : Nat) (n : Nat) (z : Nat → Int) (h0 : 1024 ≤ n ∧ n < 2147483648) : Ct lw_T l yX1_counting cX1_counting 3 (some .int) { frames := 3, cells := 0, slots := 0, locals := 73 } 0 0 D cls5 (TY K) [.ref a] [aB K a n z] (fun vr wo => ∃ (r : Int), vr = some (.int (iZ r)) ∧ wo = [aB K a n z] ∧ (r = -1 ∨ ((r = 0 ∨ r = 1) ∧ 0 ≤ z (r * 512 + 8).toNat % 256 ∧ z (r * 512 + 8).toNat % 256 ≤ 1)) ∧ ((∀ j, z j = 0) → r = -1)) := by
  refine ct_of (own := RX1) (lv := [(0, .ref a)]) (by decide) rfl (Nat.le_of_ble_eq_true rfl) rfl (fun C F hr hnm hzl => ?_)
  subst hzl
  refine z_iconst F dX1_counting_0 ?_
  refine z_istore_n F (lv' := [(1, .int (iZ (-1))), (0, .ref a)]) dX1_counting_1 (by decide) rfl ?_
  refine z_iconst F dX1_counting_2 ?_
  refine z_istore_n F (lv' := [(2, .int (iZ 0)), (1, .int (iZ (-1))), (0, .ref a)]) dX1_counting_3 (by decide) rfl ?_
  have lp4 : ∀ (nn4 : Nat) (be : Int) (i : Int), (0 ≤ i ∧ i ≤ 2) → (be = -1 ∨ ((be = 0 ∨ be = 1) ∧ 0 ≤ z (be * 512 + 8).toNat % 256 ∧ z (be * 512 + 8).toNat % 256 ≤ 1)) → ((∀ j, z j = 0) → be = -1) → ((2 - i : Int).toNat < nn4) → Go C { frames := 3, cells := 0, slots := 0, locals := 73 } D cls5 3 0 0 [aB K a n z] 4 [(2, .int (iZ i)), (1, .int (iZ be)), (0, .ref a)] [] := by
    intro nn4
    induction nn4 with
    | zero => intro be i g4_0 g4_1 g4_2 hmu4; exact absurd hmu4 (Nat.not_lt_zero _)
    | succ nn4 ih4 =>
      intro be i g4_0 g4_1 g4_2 hmu4
      refine z_iload_n F 0 dX1_counting_4 rfl ?_
      refine z_iconst F dX1_counting_5 ?_
      refine z_icmp_ge F 43 dX1_counting_6 (by decide) (by omega) (fun c1 => ?_) (fun c1 => ?_)
      · refine z_iload_n F 1 dX1_counting_43 rfl ?_
        exact z_iret F hr dX1_counting_44 (by omega) ⟨be, rfl, rfl, g4_1, g4_2⟩
      · refine z_aload_n F 2 dX1_counting_9 rfl ?_
        refine z_iload_n F 0 dX1_counting_10 rfl ?_
        refine z_callS F lw_good (k_X1_isGood _ D K a n z i (by omega)) t1_161 t1_7 t1_159 t1_160 ⟨rfl, rfl⟩ ndX1_isGood ⟨Nat.le_of_ble_eq_true rfl, Nat.le_of_ble_eq_true rfl⟩ (rest := []) rfl (Nat.le_of_ble_eq_true rfl) dX1_counting_11 ⟨(show 0 + 0 ≤ 0 by omega), (show 0 + 0 ≤ 0 by omega)⟩ (wr := []) ([0] : List Nat) ([] : List Nat) rfl rfl rfl rfl (by decide) (fun vr wo hp => ?_)
        obtain ⟨r_2, rfl, rfl, f3, f4, f5⟩ := hp
        refine z_re F (ws' := [aB K a n z]) (st' := [.int (iZ r_2)]) ([0] : List Nat) rfl rfl rfl ?_
        have hgr := f3; have hg1 := f4; have hgz := f5
        refine z_if_eq F 37 dX1_counting_14 (by decide) (by omega) (fun c6 => ?_) (fun c6 => ?_)
        · refine z_iinc F (lv' := [(2, .int (iZ (i + 1))), (1, .int (iZ be)), (0, .ref a)]) 0 dX1_counting_37 rfl (by decide) rfl ?_
          refine z_goto F 4 dX1_counting_40 (by decide) ?_
          exact ih4 be (i + 1) (by omega) (by first | assumption | (right; refine ⟨by omega, hg1 (by omega)⟩)) (by first | assumption | exact fun hz => absurd (hgz hz) (by omega)) (by omega)
        · refine z_iload_n F 1 dX1_counting_17 rfl ?_
          refine z_iconst F dX1_counting_18 ?_
          refine z_icmp_eq F 35 dX1_counting_19 (by decide) (by omega) (fun c7 => ?_) (fun c7 => ?_)
          · refine z_iload_n F 0 dX1_counting_35 rfl ?_
            refine z_istore_n F (lv' := [(1, .int (iZ i)), (2, .int (iZ i)), (0, .ref a)]) dX1_counting_36 (by decide) rfl ?_
            refine z_iinc F (lv' := [(2, .int (iZ (i + 1))), (1, .int (iZ i)), (0, .ref a)]) 1 dX1_counting_37 rfl (by decide) rfl ?_
            refine z_goto F 4 dX1_counting_40 (by decide) ?_
            exact ih4 i (i + 1) (by omega) (by first | assumption | (right; refine ⟨by omega, hg1 (by omega)⟩)) (by first | assumption | exact fun hz => absurd (hgz hz) (by omega)) (by omega)
          · refine z_aload_n F 2 dX1_counting_22 rfl ?_
            refine z_iload_n F 0 dX1_counting_23 rfl ?_
            refine z_callS F lw_good (k_X1_sequenceAt _ D K a n z i (by omega)) t1_180 t1_7 t1_178 t1_179 ⟨rfl, rfl⟩ ndX1_sequenceAt ⟨Nat.le_of_ble_eq_true rfl, Nat.le_of_ble_eq_true rfl⟩ (rest := []) rfl (Nat.le_of_ble_eq_true rfl) dX1_counting_24 ⟨(show 0 + 0 ≤ 0 by omega), (show 0 + 0 ≤ 0 by omega)⟩ (wr := []) ([0] : List Nat) ([] : List Nat) rfl rfl rfl rfl (by decide) (fun vr wo hp => ?_)
            obtain ⟨r_8, rfl, rfl, f9⟩ := hp
            refine z_re F (ws' := [aB K a n z]) (st' := [.int (iZ r_8)]) ([0] : List Nat) rfl rfl rfl ?_
            refine z_aload_n F 2 dX1_counting_27 rfl ?_
            refine z_iload_n F 1 dX1_counting_28 rfl ?_
            refine z_callS F lw_good (k_X1_sequenceAt _ D K a n z be (by omega)) t1_180 t1_7 t1_178 t1_179 ⟨rfl, rfl⟩ ndX1_sequenceAt ⟨Nat.le_of_ble_eq_true rfl, Nat.le_of_ble_eq_true rfl⟩ (rest := [.int (iZ r_8)]) rfl (Nat.le_of_ble_eq_true rfl) dX1_counting_29 ⟨(show 0 + 0 ≤ 0 by omega), (show 0 + 0 ≤ 0 by omega)⟩ (wr := []) ([0] : List Nat) ([] : List Nat) rfl rfl rfl rfl (by decide) (fun vr wo hp => ?_)
            obtain ⟨r_10, rfl, rfl, f11⟩ := hp
            refine z_re F (ws' := [aB K a n z]) (st' := [.int (iZ r_10), .int (iZ r_8)]) ([0] : List Nat) rfl rfl rfl ?_
            refine z_icmp_le F 37 dX1_counting_32 (by decide) (by omega) (fun c12 => ?_) (fun c12 => ?_)
            · refine z_iinc F (lv' := [(2, .int (iZ (i + 1))), (1, .int (iZ be)), (0, .ref a)]) 0 dX1_counting_37 rfl (by decide) rfl ?_
              refine z_goto F 4 dX1_counting_40 (by decide) ?_
              exact ih4 be (i + 1) (by omega) (by first | assumption | (right; refine ⟨by omega, hg1 (by omega)⟩)) (by first | assumption | exact fun hz => absurd (hgz hz) (by omega)) (by omega)
            · refine z_iload_n F 0 dX1_counting_35 rfl ?_
              refine z_istore_n F (lv' := [(1, .int (iZ i)), (2, .int (iZ i)), (0, .ref a)]) dX1_counting_36 (by decide) rfl ?_
              refine z_iinc F (lv' := [(2, .int (iZ (i + 1))), (1, .int (iZ i)), (0, .ref a)]) 1 dX1_counting_37 rfl (by decide) rfl ?_
              refine z_goto F 4 dX1_counting_40 (by decide) ?_
              exact ih4 i (i + 1) (by omega) (by first | assumption | (right; refine ⟨by omega, hg1 (by omega)⟩)) (by first | assumption | exact fun hz => absurd (hgz hz) (by omega)) (by omega)
  exact lp4 ((2 - 0 : Int).toNat + 1) (-1) 0 (by omega) (by omega) (fun _ => rfl) (Nat.lt_succ_self _)
set_option maxHeartbeats 4000000 in
set_option maxRecDepth 20000 in
theorem k_X1_write (l : Launch) (D : va_G) (K : KI) (a : Nat) (n : Nat) (z : Nat → Int) (pa : Int) (ed : Int) (sq : Int) (ar : Int) (h0 : n < 2147483648 ∧ 0 ≤ pa ∧ pa + 512 ≤ n) (h1 : rng (-128) 127 z) : Ct lw_T l yX1_write cX1_write 5 none { frames := 2, cells := 0, slots := 0, locals := 49 } 0 0 D cls5 (TY K) [.ref a, .int (iZ pa), .int (iZ ed), .int (iZ sq), .int (iZ ar)] [aB K a n z] (fun vr wo => ∃ (z2 : Nat → Int), vr = none ∧ wo = [aB K a n z2] ∧ (rng (-128) 127 z2)) := by
  refine ct_of (own := RX1) (lv := [(0, .ref a), (1, .int (iZ pa)), (2, .int (iZ ed)), (3, .int (iZ sq)), (4, .int (iZ ar))]) (by decide) rfl (Nat.le_of_ble_eq_true rfl) rfl (fun C F hr hnm hzl => ?_)
  subst hzl
  refine z_aload_n F 0 dX1_write_0 rfl ?_
  refine z_iload_n F 1 dX1_write_1 rfl ?_
  refine z_iconst F dX1_write_2 ?_
  refine z_iload_n F 2 dX1_write_3 rfl ?_
  refine z_i2l F dX1_write_4 ?_
  refine z_callS F lw_good (k_X2_write _ D K a n z pa 4 ((iZ ed).toInt64) (by omega) h1) t2_36 t1_8 t2_34 t2_35 ⟨rfl, rfl⟩ ndX2_write ⟨Nat.le_of_ble_eq_true rfl, Nat.le_of_ble_eq_true rfl⟩ (rest := []) rfl (Nat.le_of_ble_eq_true rfl) dX1_write_5 ⟨(show 0 + 0 ≤ 0 by omega), (show 0 + 0 ≤ 0 by omega)⟩ (wr := []) ([0] : List Nat) ([] : List Nat) rfl rfl rfl rfl (by decide) (fun vr wo hp => ?_)
  obtain ⟨z2_1, rfl, rfl, f2⟩ := hp
  refine z_re F (ws' := [aB K a n z2_1]) (st' := []) ([0] : List Nat) rfl rfl rfl ?_
  refine z_aload_n F 0 dX1_write_8 rfl ?_
  refine z_iload_n F 1 dX1_write_9 rfl ?_
  refine z_iconst F dX1_write_10 ?_
  refine z_iadd F dX1_write_11 ?_
  refine z_iconst F dX1_write_12 ?_
  refine z_iload_n F 3 dX1_write_13 rfl ?_
  refine z_i2l F dX1_write_14 ?_
  refine z_callS F lw_good (k_X2_write _ D K a n z2_1 (pa + 4) 4 ((iZ sq).toInt64) (by omega) f2) t2_36 t1_8 t2_34 t2_35 ⟨rfl, rfl⟩ ndX2_write ⟨Nat.le_of_ble_eq_true rfl, Nat.le_of_ble_eq_true rfl⟩ (rest := []) rfl (Nat.le_of_ble_eq_true rfl) dX1_write_15 ⟨(show 0 + 0 ≤ 0 by omega), (show 0 + 0 ≤ 0 by omega)⟩ (wr := []) ([0] : List Nat) ([] : List Nat) rfl rfl rfl rfl (by decide) (fun vr wo hp => ?_)
  obtain ⟨z2_3, rfl, rfl, f4⟩ := hp
  refine z_re F (ws' := [aB K a n z2_3]) (st' := []) ([0] : List Nat) rfl rfl rfl ?_
  refine z_aload_n F 0 dX1_write_18 rfl ?_
  refine z_iload_n F 1 dX1_write_19 rfl ?_
  refine z_bipush F dX1_write_20 (by decide) ?_
  refine z_iadd F dX1_write_22 ?_
  refine z_iload F 4 dX1_write_23 rfl ?_
  refine z_i2b F dX1_write_25 ?_
  refine z_bast F (ws' := [aB K a n (zu z2_3 (pa + 8).toNat ((ar.bmod 256).bmod 256))]) 0 rfl rfl dX1_write_26 (by omega) (by omega) rfl ?_
  have r5 : rng (-128) 127 (zu z2_3 (pa + 8).toNat ((ar.bmod 256).bmod 256)) := rng_zu f4 (bm_r _)
  refine z_aload_n F 0 dX1_write_27 rfl ?_
  refine z_iload_n F 1 dX1_write_28 rfl ?_
  refine z_sipush F dX1_write_29 (by decide) ?_
  refine z_iload_n F 3 dX1_write_32 rfl ?_
  refine z_callS F lw_good (k_X2_writeSum _ D K a n (zu z2_3 (pa + 8).toNat ((ar.bmod 256).bmod 256)) pa 508 sq (by omega) r5) t2_39 t1_8 t2_37 t2_38 ⟨rfl, rfl⟩ ndX2_writeSum ⟨Nat.le_of_ble_eq_true rfl, Nat.le_of_ble_eq_true rfl⟩ (rest := []) rfl (Nat.le_of_ble_eq_true rfl) dX1_write_33 ⟨(show 0 + 0 ≤ 0 by omega), (show 0 + 0 ≤ 0 by omega)⟩ (wr := []) ([0] : List Nat) ([] : List Nat) rfl rfl rfl rfl (by decide) (fun vr wo hp => ?_)
  obtain ⟨z2_6, rfl, rfl, f7⟩ := hp
  refine z_re F (ws' := [aB K a n z2_6]) (st' := []) ([0] : List Nat) rfl rfl rfl ?_
  exact z_vret F hr dX1_write_36 (by omega) ⟨z2_6, rfl, rfl, f7⟩
