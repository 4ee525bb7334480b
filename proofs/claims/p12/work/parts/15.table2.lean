theorem nmOk_zu2 {zk zn : Nat → Int} {p : Nat} {k n : Int} (h : nmOk zk zn) (hk : k = 1 → 0 ≤ n ∧ n ≤ 63) : nmOk (zu zk p k) (zu zn p n) := fun j => by
  unfold zu
  by_cases q : j = p
  · rw [if_pos q, if_pos q]; exact hk
  · rw [if_neg q, if_neg q]; exact h j
theorem nmOk_0 {zk zn : Nat → Int} {p : Nat} (h : nmOk zk zn) : nmOk (zu zk p 0) zn := fun j => by
  unfold zu
  by_cases q : j = p
  · rw [if_pos q]; intro z; exact absurd z (by decide)
  · rw [if_neg q]; exact h j
theorem nmOk_z : nmOk (fun _ => 0) (fun _ => 0) := fun _ z => absurd (show (0 : Int) = 1 from z) (by decide)
theorem narB {r : Int} (h : -128 ≤ r ∧ r ≤ 127) : narrow .byte (.int (iZ r)) = .int (iZ r) := by
  have h1 := pk_nb (iZ r)
  rw [iZ_b, bm_id h] at h1
  exact h1
def akOk (zc za : Nat → Int) : Prop := ∀ p j : Nat, (j : Int) < zc p → 0 ≤ za (6 * p + j) ∧ za (6 * p + j) ≤ 63
theorem akOk_z {za : Nat → Int} : akOk (fun _ => 0) za := fun _ j h => absurd (show (j : Int) < 0 from h) (by omega)
theorem akOk_c0 {zc za : Nat → Int} {p : Nat} (h : akOk zc za) : akOk (zu zc p 0) za := fun q j hj => by
  unfold zu at hj
  by_cases e : q = p
  · rw [if_pos e] at hj; omega
  · rw [if_neg e] at hj; exact h q j hj
theorem akOk_at {zc za : Nat → Int} {p i : Int} (h : akOk zc za) (hp : 0 ≤ p) (hi : 0 ≤ i) (hl : i < zc p.toNat) : 0 ≤ za ((p * 6) + i).toNat ∧ za ((p * 6) + i).toNat ≤ 63 := by
  have h1 := h p.toNat i.toNat (by omega)
  rw [show ((p * 6) + i).toNat = 6 * p.toNat + i.toNat by omega]
  exact h1
theorem akOk_add {zc za : Nat → Int} {p k : Int} (h : akOk zc za) (hr : rng 0 6 zc) (hp : 0 ≤ p) (hk : 0 ≤ k ∧ k ≤ 63) (hc : zc p.toNat ≤ 5) : akOk (zu zc p.toNat (zc p.toNat + 1)) (zu za ((p * 6) + (zc p.toNat)).toNat k) := fun q j hj => by
  have h0 := hr p.toNat
  have h9 := hr q
  by_cases e : q = p.toNat
  · subst e
    rw [zu_s] at hj
    by_cases e2 : (j : Int) = zc p.toNat
    · rw [show 6 * p.toNat + j = ((p * 6) + (zc p.toNat)).toNat by omega, zu_s]; exact hk
    · rw [zu_n (by omega)]; exact h _ j (by omega)
  · rw [zu_n e] at hj
    rw [zu_n (by omega)]; exact h q j hj
def rowOk (z : Nat → Int) (pa : Int) : Prop := (1 ≤ z pa.toNat ∧ z pa.toNat ≤ 3) ∧ (z pa.toNat = 1 → 0 ≤ z (pa + 1).toNat ∧ z (pa + 1).toNat ≤ 63) ∧ (0 ≤ z (pa + 2).toNat ∧ z (pa + 2).toNat ≤ 6) ∧ ∀ j : Nat, (j : Int) < z (pa + 2).toNat → 0 ≤ z (pa + 3 + j).toNat ∧ z (pa + 3 + j).toNat ≤ 63
theorem akOk_row {zc za w z : Nat → Int} {pa p : Int} {c : Int} (hp : 0 ≤ p ∧ c ≤ 6 ∧ ∀ j, zc j ≤ 6) (h : akOk zc za) (hz : ∀ j : Nat, (j : Int) < c → 0 ≤ z (pa + 3 + j).toNat ∧ z (pa + 3 + j).toNat ≤ 63) (h1 : ∀ q j : Nat, j < 6 → ¬ (q : Int) = p → w (6 * q + j) = za (6 * q + j)) (h2 : ∀ j : Nat, j < 6 → w (6 * p.toNat + j) = z (pa + 3 + j).toNat) : akOk (zu zc p.toNat c) w := fun q j hj => by
  by_cases e : q = p.toNat
  · subst e
    rw [zu_s] at hj
    rw [h2 j (by omega)]; exact hz j hj
  · rw [zu_n e] at hj
    have := hp.2.2 q
    rw [h1 q j (by omega) (by omega)]; exact h q j hj
theorem akOk_mv {zc za w : Nat → Int} {f t : Int} (hf : 0 ≤ f) (ht : 0 ≤ t) (h : akOk zc za) (hr : rng 0 6 zc) (h1 : ∀ q j : Nat, j < 6 → ¬ (q : Int) = t → w (6 * q + j) = za (6 * q + j)) (h2 : ∀ j : Nat, j < 6 → w (6 * t.toNat + j) = za (6 * f.toNat + j)) : akOk (zu zc t.toNat (zc f.toNat)) w := fun q j hj => by
  have r1 := hr f.toNat
  have r2 := hr q
  by_cases e : q = t.toNat
  · subst e
    rw [zu_s] at hj
    rw [h2 j (by omega)]; exact h _ j hj
  · rw [zu_n e] at hj
    rw [h1 q j (by omega) (by omega)]; exact h q j hj
set_option maxHeartbeats 4000000 in
set_option maxRecDepth 20000 in
theorem k_X3_isKey (l : Launch) (D : va_G) (K : KI) (k : Int) (h0 : -2147483648 ≤ k ∧ k ≤ 2147483647) : Ct lw_T l yX3_isKey cX3_isKey 1 (some .boolean) { frames := 0, cells := 0, slots := 0, locals := 0 } 0 0 D cls5 (TY K) [.int (iZ k)] [] (fun vr wo => ∃ (r : Int), vr = some (.int (iZ r)) ∧ wo = [] ∧ ((r = 1 ∧ 0 ≤ k ∧ k ≤ 63) ∨ (r = 0 ∧ ¬ (0 ≤ k ∧ k ≤ 63)))) := by
  refine ct_of (own := RX3) (lv := [(0, .int (iZ k))]) (by decide) rfl (Nat.le_of_ble_eq_true rfl) rfl (fun C F hr hnm hzl => ?_)
  subst hzl
  refine z_iload_n F 0 dX3_isKey_0 rfl ?_
  refine z_if_lt F 14 dX3_isKey_1 (by decide) (by omega) (fun c1 => ?_) (fun c1 => ?_)
  · refine z_iconst F dX3_isKey_14 ?_
    exact z_zret F hr (by decide) dX3_isKey_15 (by omega) ⟨0, rfl, rfl, (by omega)⟩
  · refine z_iload_n F 0 dX3_isKey_4 rfl ?_
    refine z_bipush F dX3_isKey_5 (by decide) ?_
    refine z_icmp_ge F 14 dX3_isKey_7 (by decide) (by omega) (fun c2 => ?_) (fun c2 => ?_)
    · refine z_iconst F dX3_isKey_14 ?_
      exact z_zret F hr (by decide) dX3_isKey_15 (by omega) ⟨0, rfl, rfl, (by omega)⟩
    · refine z_iconst F dX3_isKey_10 ?_
      refine z_goto F 15 dX3_isKey_11 (by decide) ?_
      exact z_zret F hr (by decide) dX3_isKey_15 (by omega) ⟨1, rfl, rfl, (by omega)⟩
set_option maxHeartbeats 4000000 in
set_option maxRecDepth 20000 in
theorem k_X3_isUser (l : Launch) (D : va_G) (K : KI) (k : Int) (h0 : -2147483648 ≤ k ∧ k ≤ 2147483647) : Ct lw_T l yX3_isUser cX3_isUser 1 (some .boolean) { frames := 0, cells := 0, slots := 0, locals := 0 } 0 0 D cls5 (TY K) [.int (iZ k)] [] (fun vr wo => ∃ (r : Int), vr = some (.int (iZ r)) ∧ wo = [] ∧ ((r = 1 ∧ 0 ≤ k ∧ k ≤ 7) ∨ (r = 0 ∧ ¬ (0 ≤ k ∧ k ≤ 7)))) := by
  refine ct_of (own := RX3) (lv := [(0, .int (iZ k))]) (by decide) rfl (Nat.le_of_ble_eq_true rfl) rfl (fun C F hr hnm hzl => ?_)
  subst hzl
  refine z_iload_n F 0 dX3_isUser_0 rfl ?_
  refine z_if_lt F 14 dX3_isUser_1 (by decide) (by omega) (fun c1 => ?_) (fun c1 => ?_)
  · refine z_iconst F dX3_isUser_14 ?_
    exact z_zret F hr (by decide) dX3_isUser_15 (by omega) ⟨0, rfl, rfl, (by omega)⟩
  · refine z_iload_n F 0 dX3_isUser_4 rfl ?_
    refine z_bipush F dX3_isUser_5 (by decide) ?_
    refine z_icmp_ge F 14 dX3_isUser_7 (by decide) (by omega) (fun c2 => ?_) (fun c2 => ?_)
    · refine z_iconst F dX3_isUser_14 ?_
      exact z_zret F hr (by decide) dX3_isUser_15 (by omega) ⟨0, rfl, rfl, (by omega)⟩
    · refine z_iconst F dX3_isUser_10 ?_
      refine z_goto F 15 dX3_isUser_11 (by decide) ?_
      exact z_zret F hr (by decide) dX3_isUser_15 (by omega) ⟨1, rfl, rfl, (by omega)⟩
set_option maxHeartbeats 4000000 in
set_option maxRecDepth 20000 in
theorem k_X3_isFull (l : Launch) (D : va_G) (K : KI) (y : Nat) (yk : Nat) (yn : Nat) (yc : Nat) (ya : Nat) (yd : Nat) (yl : Nat) (lp : Int) (re : Int) (wp : Int) (lw : Int) (np : Nat) (zk : Nat → Int) (h0 : 1 ≤ np ∧ np ≤ 304) (h1 : 0 ≤ re ∧ re ≤ np) : Ct lw_T l yX3_isFull cX3_isFull 1 (some .boolean) { frames := 0, cells := 0, slots := 0, locals := 0 } 0 0 D cls5 (TY K) [.ref y] [oX3 y yk yn yc ya yd yl lp re wp lw, aI K yk np zk] (fun vr wo => ∃ (r : Int), vr = some (.int (iZ r)) ∧ wo = [oX3 y yk yn yc ya yd yl lp re wp lw, aI K yk np zk] ∧ ((r = 1 ∧ re = np) ∨ (r = 0 ∧ re ≤ np - 1))) := by
  refine ct_of (own := RX3) (lv := [(0, .ref y)]) (by decide) rfl (Nat.le_of_ble_eq_true rfl) rfl (fun C F hr hnm hzl => ?_)
  subst hzl
  refine z_aload_n F 0 dX3_isFull_0 rfl ?_
  refine z_get F 0 7 iX3 rfl rfl (by decide) t1_70 rfl dX3_isFull_1 ?_
  refine z_aload_n F 0 dX3_isFull_4 rfl ?_
  refine z_get F 0 0 iX3 rfl rfl (by decide) t1_63 rfl dX3_isFull_5 ?_
  refine z_alen F 1 0 rfl rfl dX3_isFull_8 ?_
  refine z_icmp_lt F 16 dX3_isFull_9 (by decide) (by omega) (fun c1 => ?_) (fun c1 => ?_)
  · refine z_iconst F dX3_isFull_16 ?_
    exact z_zret F hr (by decide) dX3_isFull_17 (by omega) ⟨0, rfl, rfl, (by omega)⟩
  · refine z_iconst F dX3_isFull_12 ?_
    refine z_goto F 17 dX3_isFull_13 (by decide) ?_
    exact z_zret F hr (by decide) dX3_isFull_17 (by omega) ⟨1, rfl, rfl, (by omega)⟩
set_option maxHeartbeats 4000000 in
set_option maxRecDepth 20000 in
theorem k_X3_kindAt (l : Launch) (D : va_G) (K : KI) (y : Nat) (yk : Nat) (yn : Nat) (yc : Nat) (ya : Nat) (yd : Nat) (yl : Nat) (lp : Int) (re : Int) (wp : Int) (lw : Int) (np : Nat) (zk : Nat → Int) (pl : Int) (h0 : 1 ≤ np ∧ np ≤ 304) (h1 : 0 ≤ re ∧ re ≤ np) (h2 : rng 0 3 zk) (h3 : -2147483648 ≤ pl ∧ pl ≤ 2147483647) : Ct lw_T l yX3_kindAt cX3_kindAt 2 (some .int) { frames := 0, cells := 0, slots := 0, locals := 0 } 0 0 D cls5 (TY K) [.ref y, .int (iZ pl)] [oX3 y yk yn yc ya yd yl lp re wp lw, aI K yk np zk] (fun vr wo => ∃ (r : Int), vr = some (.int (iZ r)) ∧ wo = [oX3 y yk yn yc ya yd yl lp re wp lw, aI K yk np zk] ∧ (0 ≤ r ∧ r ≤ 3) ∧ (¬ r = 0 → 0 ≤ pl ∧ pl ≤ re - 1)) := by
  refine ct_of (own := RX3) (lv := [(0, .ref y), (1, .int (iZ pl))]) (by decide) rfl (Nat.le_of_ble_eq_true rfl) rfl (fun C F hr hnm hzl => ?_)
  subst hzl
  refine z_iload_n F 1 dX3_kindAt_0 rfl ?_
  refine z_if_lt F 21 dX3_kindAt_1 (by decide) (by omega) (fun c1 => ?_) (fun c1 => ?_)
  · refine z_iconst F dX3_kindAt_21 ?_
    exact z_iret F hr dX3_kindAt_22 (by omega) ⟨0, rfl, rfl, (by omega), (by omega)⟩
  · refine z_iload_n F 1 dX3_kindAt_4 rfl ?_
    refine z_aload_n F 0 dX3_kindAt_5 rfl ?_
    refine z_get F 0 7 iX3 rfl rfl (by decide) t1_70 rfl dX3_kindAt_6 ?_
    refine z_icmp_ge F 21 dX3_kindAt_9 (by decide) (by omega) (fun c2 => ?_) (fun c2 => ?_)
    · refine z_iconst F dX3_kindAt_21 ?_
      exact z_iret F hr dX3_kindAt_22 (by omega) ⟨0, rfl, rfl, (by omega), (by omega)⟩
    · refine z_aload_n F 0 dX3_kindAt_12 rfl ?_
      refine z_get F 0 0 iX3 rfl rfl (by decide) t1_63 rfl dX3_kindAt_13 ?_
      refine z_iload_n F 1 dX3_kindAt_16 rfl ?_
      refine z_iald F 1 rfl rfl dX3_kindAt_17 (by omega) (by omega) ?_
      have r3 : 0 ≤ zk pl.toNat ∧ zk pl.toNat ≤ 3 := h2 _
      refine z_goto F 22 dX3_kindAt_18 (by decide) ?_
      exact z_iret F hr dX3_kindAt_22 (by omega) ⟨(zk pl.toNat), rfl, rfl, (by omega), (by omega)⟩
set_option maxHeartbeats 4000000 in
set_option maxRecDepth 20000 in
theorem k_X3_askCount (l : Launch) (D : va_G) (K : KI) (y : Nat) (yk : Nat) (yn : Nat) (yc : Nat) (ya : Nat) (yd : Nat) (yl : Nat) (lp : Int) (re : Int) (wp : Int) (lw : Int) (np : Nat) (zc : Nat → Int) (pl : Int) (h0 : np ≤ 304 ∧ 0 ≤ pl ∧ pl ≤ np - 1) : Ct lw_T l yX3_askCount cX3_askCount 2 (some .int) { frames := 0, cells := 0, slots := 0, locals := 0 } 0 0 D cls5 (TY K) [.ref y, .int (iZ pl)] [oX3 y yk yn yc ya yd yl lp re wp lw, aI K yc np zc] (fun vr wo => vr = some (.int (iZ (zc pl.toNat))) ∧ wo = [oX3 y yk yn yc ya yd yl lp re wp lw, aI K yc np zc]) := by
  refine ct_of (own := RX3) (lv := [(0, .ref y), (1, .int (iZ pl))]) (by decide) rfl (Nat.le_of_ble_eq_true rfl) rfl (fun C F hr hnm hzl => ?_)
  subst hzl
  refine z_aload_n F 0 dX3_askCount_0 rfl ?_
  refine z_get F 0 2 iX3 rfl rfl (by decide) t1_65 rfl dX3_askCount_1 ?_
  refine z_iload_n F 1 dX3_askCount_4 rfl ?_
  refine z_iald F 1 rfl rfl dX3_askCount_5 (by omega) (by omega) ?_
  exact z_iret F hr dX3_askCount_6 (by omega) ⟨rfl, rfl⟩
set_option maxHeartbeats 4000000 in
set_option maxRecDepth 20000 in
theorem k_X3_askAt (l : Launch) (D : va_G) (K : KI) (y : Nat) (yk : Nat) (yn : Nat) (yc : Nat) (ya : Nat) (yd : Nat) (yl : Nat) (lp : Int) (re : Int) (wp : Int) (lw : Int) (na : Nat) (za : Nat → Int) (pl : Int) (i : Int) (h0 : na ≤ 2000 ∧ 0 ≤ pl ∧ 0 ≤ i ∧ pl * 6 + i ≤ na - 1 ∧ pl ≤ 400) : Ct lw_T l yX3_askAt cX3_askAt 3 (some .int) { frames := 0, cells := 0, slots := 0, locals := 0 } 0 0 D cls5 (TY K) [.ref y, .int (iZ pl), .int (iZ i)] [oX3 y yk yn yc ya yd yl lp re wp lw, aI K ya na za] (fun vr wo => vr = some (.int (iZ (za ((pl * 6) + i).toNat))) ∧ wo = [oX3 y yk yn yc ya yd yl lp re wp lw, aI K ya na za]) := by
  refine ct_of (own := RX3) (lv := [(0, .ref y), (1, .int (iZ pl)), (2, .int (iZ i))]) (by decide) rfl (Nat.le_of_ble_eq_true rfl) rfl (fun C F hr hnm hzl => ?_)
  subst hzl
  refine z_aload_n F 0 dX3_askAt_0 rfl ?_
  refine z_get F 0 3 iX3 rfl rfl (by decide) t1_66 rfl dX3_askAt_1 ?_
  refine z_iload_n F 1 dX3_askAt_4 rfl ?_
  refine z_bipush F dX3_askAt_5 (by decide) ?_
  refine z_imul F dX3_askAt_7 ?_
  refine z_iload_n F 2 dX3_askAt_8 rfl ?_
  refine z_iadd F dX3_askAt_9 ?_
  refine z_iald F 1 rfl rfl dX3_askAt_10 (by omega) (by omega) ?_
  exact z_iret F hr dX3_askAt_11 (by omega) ⟨rfl, rfl⟩
set_option maxHeartbeats 4000000 in
set_option maxRecDepth 20000 in
theorem k_X3_digestAt (l : Launch) (D : va_G) (K : KI) (y : Nat) (yk : Nat) (yn : Nat) (yc : Nat) (ya : Nat) (yd : Nat) (yl : Nat) (lp : Int) (re : Int) (wp : Int) (lw : Int) (np : Nat) (fd : Nat → Int64) (pl : Int) (h0 : np ≤ 304 ∧ 0 ≤ pl ∧ pl ≤ np - 1) : Ct lw_T l yX3_digestAt cX3_digestAt 2 (some .long) { frames := 0, cells := 0, slots := 0, locals := 0 } 0 0 D cls5 (TY K) [.ref y, .int (iZ pl)] [oX3 y yk yn yc ya yd yl lp re wp lw, aL K yd np fd] (fun vr wo => vr = some (.long (fd pl.toNat)) ∧ wo = [oX3 y yk yn yc ya yd yl lp re wp lw, aL K yd np fd]) := by
  refine ct_of (own := RX3) (lv := [(0, .ref y), (1, .int (iZ pl))]) (by decide) rfl (Nat.le_of_ble_eq_true rfl) rfl (fun C F hr hnm hzl => ?_)
  subst hzl
  refine z_aload_n F 0 dX3_digestAt_0 rfl ?_
  refine z_get F 0 4 iX3 rfl rfl (by decide) t1_67 rfl dX3_digestAt_1 ?_
  refine z_iload_n F 1 dX3_digestAt_4 rfl ?_
  refine z_lald F 1 rfl rfl dX3_digestAt_5 (by omega) (by omega) ?_
  exact z_lret F hr dX3_digestAt_6 (by omega) ⟨rfl, rfl⟩
set_option maxHeartbeats 4000000 in
set_option maxRecDepth 20000 in
theorem k_X3_latest (l : Launch) (D : va_G) (K : KI) (y : Nat) (yk : Nat) (yn : Nat) (yc : Nat) (ya : Nat) (yd : Nat) (yl : Nat) (lp : Int) (re : Int) (wp : Int) (lw : Int) (zl : Nat → Int) (k : Int) (h0 : 0 ≤ k ∧ k ≤ 63) : Ct lw_T l yX3_latest cX3_latest 2 (some .int) { frames := 0, cells := 0, slots := 0, locals := 0 } 0 0 D cls5 (TY K) [.ref y, .int (iZ k)] [oX3 y yk yn yc ya yd yl lp re wp lw, aI K yl 64 zl] (fun vr wo => vr = some (.int (iZ (zl k.toNat))) ∧ wo = [oX3 y yk yn yc ya yd yl lp re wp lw, aI K yl 64 zl]) := by
  refine ct_of (own := RX3) (lv := [(0, .ref y), (1, .int (iZ k))]) (by decide) rfl (Nat.le_of_ble_eq_true rfl) rfl (fun C F hr hnm hzl => ?_)
  subst hzl
  refine z_aload_n F 0 dX3_latest_0 rfl ?_
  refine z_get F 0 5 iX3 rfl rfl (by decide) t1_68 rfl dX3_latest_1 ?_
  refine z_iload_n F 1 dX3_latest_4 rfl ?_
  refine z_iald F 1 rfl rfl dX3_latest_5 (by omega) (by omega) ?_
  exact z_iret F hr dX3_latest_6 (by omega) ⟨rfl, rfl⟩
set_option maxHeartbeats 4000000 in
set_option maxRecDepth 20000 in
theorem k_X3_isWrongBehind (l : Launch) (D : va_G) (K : KI) (y : Nat) (yk : Nat) (yn : Nat) (yc : Nat) (ya : Nat) (yd : Nat) (yl : Nat) (lp : Int) (re : Int) (wp : Int) (lw : Int) (pl : Int) (h0 : -1 ≤ lw ∧ lw ≤ 304 ∧ 0 ≤ pl ∧ pl ≤ 304) : Ct lw_T l yX3_isWrongBehind cX3_isWrongBehind 2 (some .boolean) { frames := 0, cells := 0, slots := 0, locals := 0 } 0 0 D cls5 (TY K) [.ref y, .int (iZ pl)] [oX3 y yk yn yc ya yd yl lp re wp lw] (fun vr wo => ∃ (r : Int), vr = some (.int (iZ r)) ∧ wo = [oX3 y yk yn yc ya yd yl lp re wp lw] ∧ (r = 0 ∨ r = 1)) := by
  refine ct_of (own := RX3) (lv := [(0, .ref y), (1, .int (iZ pl))]) (by decide) rfl (Nat.le_of_ble_eq_true rfl) rfl (fun C F hr hnm hzl => ?_)
  subst hzl
  refine z_aload_n F 0 dX3_isWrongBehind_0 rfl ?_
  refine z_get F 0 9 iX3 rfl rfl (by decide) t1_72 rfl dX3_isWrongBehind_1 ?_
  refine z_iload_n F 1 dX3_isWrongBehind_4 rfl ?_
  refine z_icmp_le F 12 dX3_isWrongBehind_5 (by decide) (by omega) (fun c1 => ?_) (fun c1 => ?_)
  · refine z_iconst F dX3_isWrongBehind_12 ?_
    exact z_zret F hr (by decide) dX3_isWrongBehind_13 (by omega) ⟨0, rfl, rfl, (by omega)⟩
  · refine z_iconst F dX3_isWrongBehind_8 ?_
    refine z_goto F 13 dX3_isWrongBehind_9 (by decide) ?_
    exact z_zret F hr (by decide) dX3_isWrongBehind_13 (by omega) ⟨1, rfl, rfl, (by omega)⟩
set_option maxHeartbeats 4000000 in
set_option maxRecDepth 20000 in
theorem k_X3_lockHolder (l : Launch) (D : va_G) (K : KI) (y : Nat) (yk : Nat) (yn : Nat) (yc : Nat) (ya : Nat) (yd : Nat) (yl : Nat) (lp : Int) (re : Int) (wp : Int) (lw : Int) (np : Nat) (zk : Nat → Int) (zn : Nat → Int) (h0 : 1 ≤ np ∧ np ≤ 304) (h1 : -1 ≤ lp ∧ lp ≤ np - 1) (h2 : rng 0 3 zk) (h3 : rng (-128) 127 zn) : Ct lw_T l yX3_lockHolder cX3_lockHolder 1 (some .int) { frames := 0, cells := 0, slots := 0, locals := 0 } 0 0 D cls5 (TY K) [.ref y] [oX3 y yk yn yc ya yd yl lp re wp lw, aI K yk np zk, aI K yn np zn] (fun vr wo => ∃ (r : Int), vr = some (.int (iZ r)) ∧ wo = [oX3 y yk yn yc ya yd yl lp re wp lw, aI K yk np zk, aI K yn np zn] ∧ (-128 ≤ r ∧ r ≤ 127)) := by
  refine ct_of (own := RX3) (lv := [(0, .ref y)]) (by decide) rfl (Nat.le_of_ble_eq_true rfl) rfl (fun C F hr hnm hzl => ?_)
  subst hzl
  refine z_aload_n F 0 dX3_lockHolder_0 rfl ?_
  refine z_get F 0 6 iX3 rfl rfl (by decide) t1_69 rfl dX3_lockHolder_1 ?_
  refine z_iconst F dX3_lockHolder_4 ?_
  refine z_icmp_eq F 33 dX3_lockHolder_5 (by decide) (by omega) (fun c1 => ?_) (fun c1 => ?_)
  · refine z_iconst F dX3_lockHolder_33 ?_
    exact z_iret F hr dX3_lockHolder_34 (by omega) ⟨(-1), rfl, rfl, (by omega)⟩
  · refine z_aload_n F 0 dX3_lockHolder_8 rfl ?_
    refine z_get F 0 0 iX3 rfl rfl (by decide) t1_63 rfl dX3_lockHolder_9 ?_
    refine z_aload_n F 0 dX3_lockHolder_12 rfl ?_
    refine z_get F 0 6 iX3 rfl rfl (by decide) t1_69 rfl dX3_lockHolder_13 ?_
    refine z_iald F 1 rfl rfl dX3_lockHolder_16 (by omega) (by omega) ?_
    have r2 : 0 ≤ zk lp.toNat ∧ zk lp.toNat ≤ 3 := h2 _
    refine z_iconst F dX3_lockHolder_17 ?_
    refine z_icmp_ne F 33 dX3_lockHolder_18 (by decide) (by omega) (fun c3 => ?_) (fun c3 => ?_)
    · refine z_iconst F dX3_lockHolder_33 ?_
      exact z_iret F hr dX3_lockHolder_34 (by omega) ⟨(-1), rfl, rfl, (by omega)⟩
    · refine z_aload_n F 0 dX3_lockHolder_21 rfl ?_
      refine z_get F 0 1 iX3 rfl rfl (by decide) t1_64 rfl dX3_lockHolder_22 ?_
      refine z_aload_n F 0 dX3_lockHolder_25 rfl ?_
      refine z_get F 0 6 iX3 rfl rfl (by decide) t1_69 rfl dX3_lockHolder_26 ?_
      refine z_iald F 2 rfl rfl dX3_lockHolder_29 (by omega) (by omega) ?_
      have r4 : (-128) ≤ zn lp.toNat ∧ zn lp.toNat ≤ 127 := h3 _
      refine z_goto F 34 dX3_lockHolder_30 (by decide) ?_
      exact z_iret F hr dX3_lockHolder_34 (by omega) ⟨(zn lp.toNat), rfl, rfl, (by omega)⟩
set_option maxHeartbeats 4000000 in
set_option maxRecDepth 20000 in
theorem k_X3_isToCopy (l : Launch) (D : va_G) (K : KI) (y : Nat) (yk : Nat) (yn : Nat) (yc : Nat) (ya : Nat) (yd : Nat) (yl : Nat) (lp : Int) (re : Int) (wp : Int) (lw : Int) (np : Nat) (zk : Nat → Int) (zn : Nat → Int) (zl : Nat → Int) (pl : Int) (h0 : np ≤ 304 ∧ 0 ≤ pl ∧ pl ≤ np - 1) (h1 : -1 ≤ lp ∧ lp ≤ np - 1 ∧ -1 ≤ lw ∧ lw ≤ np - 1) (h2 : rng 0 3 zk) (h3 : nmOk zk zn) (h4 : rng (-1) (np-1) zl) : Ct lw_T l yX3_isToCopy cX3_isToCopy 2 (some .boolean) { frames := 1, cells := 0, slots := 0, locals := 21 } 0 0 D cls5 (TY K) [.ref y, .int (iZ pl)] [oX3 y yk yn yc ya yd yl lp re wp lw, aI K yk np zk, aI K yn np zn, aI K yl 64 zl] (fun vr wo => ∃ (r : Int), vr = some (.int (iZ r)) ∧ wo = [oX3 y yk yn yc ya yd yl lp re wp lw, aI K yk np zk, aI K yn np zn, aI K yl 64 zl] ∧ (r = 0 ∨ r = 1)) := by
  refine ct_of (own := RX3) (lv := [(0, .ref y), (1, .int (iZ pl))]) (by decide) rfl (Nat.le_of_ble_eq_true rfl) rfl (fun C F hr hnm hzl => ?_)
  subst hzl
  refine z_aload_n F 0 dX3_isToCopy_0 rfl ?_
  refine z_get F 0 0 iX3 rfl rfl (by decide) t1_63 rfl dX3_isToCopy_1 ?_
  refine z_iload_n F 1 dX3_isToCopy_4 rfl ?_
  refine z_iald F 1 rfl rfl dX3_isToCopy_5 (by omega) (by omega) ?_
  have r1 : 0 ≤ zk pl.toNat ∧ zk pl.toNat ≤ 3 := h2 _
  refine z_iconst F dX3_isToCopy_6 ?_
  refine z_icmp_ne F 39 dX3_isToCopy_7 (by decide) (by omega) (fun c2 => ?_) (fun c2 => ?_)
  · refine z_iload_n F 1 dX3_isToCopy_39 rfl ?_
    refine z_aload_n F 0 dX3_isToCopy_40 rfl ?_
    refine z_get F 0 6 iX3 rfl rfl (by decide) t1_69 rfl dX3_isToCopy_41 ?_
    refine z_icmp_ne F 51 dX3_isToCopy_44 (by decide) (by omega) (fun c3 => ?_) (fun c3 => ?_)
    · refine z_iconst F dX3_isToCopy_51 ?_
      exact z_zret F hr (by decide) dX3_isToCopy_52 (by omega) ⟨0, rfl, rfl, (by omega)⟩
    · refine z_iconst F dX3_isToCopy_47 ?_
      refine z_goto F 52 dX3_isToCopy_48 (by decide) ?_
      exact z_zret F hr (by decide) dX3_isToCopy_52 (by omega) ⟨1, rfl, rfl, (by omega)⟩
  · have hnm1 := h3 pl.toNat (by omega)
    refine z_aload_n F 0 dX3_isToCopy_10 rfl ?_
    refine z_get F 0 5 iX3 rfl rfl (by decide) t1_68 rfl dX3_isToCopy_11 ?_
    refine z_aload_n F 0 dX3_isToCopy_14 rfl ?_
    refine z_get F 0 1 iX3 rfl rfl (by decide) t1_64 rfl dX3_isToCopy_15 ?_
    refine z_iload_n F 1 dX3_isToCopy_18 rfl ?_
    refine z_iald F 2 rfl rfl dX3_isToCopy_19 (by omega) (by omega) ?_
    refine z_iald F 3 rfl rfl dX3_isToCopy_20 (by omega) (by omega) ?_
    have r4 : (-1) ≤ zl (zn pl.toNat).toNat ∧ zl (zn pl.toNat).toNat ≤ (np-1) := h4 _
    refine z_iload_n F 1 dX3_isToCopy_21 rfl ?_
    refine z_icmp_ne F 37 dX3_isToCopy_22 (by decide) (by omega) (fun c5 => ?_) (fun c5 => ?_)
    · refine z_iconst F dX3_isToCopy_37 ?_
      exact z_zret F hr (by decide) dX3_isToCopy_38 (by omega) ⟨0, rfl, rfl, (by omega)⟩
    · refine z_aload_n F 0 dX3_isToCopy_25 rfl ?_
      refine z_iload_n F 1 dX3_isToCopy_26 rfl ?_
      refine z_callV F lw_good (k_X3_isWrongBehind _ D K y yk yn yc ya yd yl lp re wp lw pl (by omega)) t2_128 t1_4 t2_125 t2_126 (q := (RX3, TX3, 10)) t2_127 ⟨rfl, rfl⟩ ndX3_isWrongBehind ⟨Nat.le_of_ble_eq_true rfl, Nat.le_of_ble_eq_true rfl⟩ 0 rfl rfl (rest := []) rfl (Nat.le_of_ble_eq_true rfl) dX3_isToCopy_27 ⟨(show 0 + 0 ≤ 0 by omega), (show 0 + 0 ≤ 0 by omega)⟩ (wr := [aI K yk np zk, aI K yn np zn, aI K yl 64 zl]) ([0] : List Nat) ([1, 2, 3] : List Nat) rfl rfl rfl rfl (by decide) (fun vr wo hp => ?_)
      obtain ⟨r_6, rfl, rfl, f7⟩ := hp
      refine z_re F (ws' := [oX3 y yk yn yc ya yd yl lp re wp lw, aI K yk np zk, aI K yn np zn, aI K yl 64 zl]) (st' := [.int (iZ r_6)]) ([3, 0, 1, 2] : List Nat) rfl rfl rfl ?_
      refine z_if_ne F 37 dX3_isToCopy_30 (by decide) (by omega) (fun c8 => ?_) (fun c8 => ?_)
      · refine z_iconst F dX3_isToCopy_37 ?_
        exact z_zret F hr (by decide) dX3_isToCopy_38 (by omega) ⟨0, rfl, rfl, (by omega)⟩
      · refine z_iconst F dX3_isToCopy_33 ?_
        refine z_goto F 38 dX3_isToCopy_34 (by decide) ?_
        exact z_zret F hr (by decide) dX3_isToCopy_38 (by omega) ⟨1, rfl, rfl, (by omega)⟩
set_option maxHeartbeats 4000000 in
set_option maxRecDepth 20000 in
theorem k_X3_areKeys (l : Launch) (D : va_G) (K : KI) (a : Nat) (n : Nat) (z : Nat → Int) (pa : Int) (cnt : Int) (h0 : n < 2147483648 ∧ 0 ≤ pa ∧ pa + 6 ≤ n) (h1 : -2147483648 ≤ cnt ∧ cnt ≤ 2147483647) (h2 : rng (-128) 127 z) : Ct lw_T l yX3_areKeys cX3_areKeys 4 (some .boolean) { frames := 1, cells := 0, slots := 0, locals := 20 } 0 0 D cls5 (TY K) [.ref a, .int (iZ pa), .int (iZ cnt)] [aB K a n z] (fun vr wo => ∃ (r : Int), vr = some (.int (iZ r)) ∧ wo = [aB K a n z] ∧ (r = 0 ∨ r = 1) ∧ (r = 1 → 0 ≤ cnt ∧ cnt ≤ 6 ∧ ∀ j : Nat, (j : Int) < cnt → 0 ≤ z (pa + j).toNat ∧ z (pa + j).toNat ≤ 63)) := by
  refine ct_of (own := RX3) (lv := [(0, .ref a), (1, .int (iZ pa)), (2, .int (iZ cnt))]) (by decide) rfl (Nat.le_of_ble_eq_true rfl) rfl (fun C F hr hnm hzl => ?_)
  subst hzl
  refine z_iload_n F 2 dX3_areKeys_0 rfl ?_
  refine z_if_lt F 10 dX3_areKeys_1 (by decide) (by omega) (fun c1 => ?_) (fun c1 => ?_)
  · refine z_iconst F dX3_areKeys_10 ?_
    exact z_zret F hr (by decide) dX3_areKeys_11 (by omega) ⟨0, rfl, rfl, (by omega), (by first | (intro q; exact absurd q (by decide)) | exact fun _ => ⟨by omega, by omega, fun j hj => g14_1 j (by omega)⟩)⟩
  · refine z_iload_n F 2 dX3_areKeys_4 rfl ?_
    refine z_bipush F dX3_areKeys_5 (by decide) ?_
    refine z_icmp_le F 12 dX3_areKeys_7 (by decide) (by omega) (fun c2 => ?_) (fun c2 => ?_)
    · refine z_iconst F dX3_areKeys_12 ?_
      refine z_istore_n F (lv' := [(3, .int (iZ 0)), (0, .ref a), (1, .int (iZ pa)), (2, .int (iZ cnt))]) dX3_areKeys_13 (by decide) rfl ?_
      have lp14 : ∀ (nn14 : Nat) (i : Int), (0 ≤ i ∧ i ≤ cnt ∧ cnt ≤ 6) → (∀ j : Nat, (j : Int) < i → 0 ≤ z (pa + j).toNat ∧ z (pa + j).toNat ≤ 63) → ((cnt - i : Int).toNat < nn14) → Go C { frames := 1, cells := 0, slots := 0, locals := 20 } D cls5 4 0 0 [aB K a n z] 14 [(3, .int (iZ i)), (0, .ref a), (1, .int (iZ pa)), (2, .int (iZ cnt))] [] := by
        intro nn14
        induction nn14 with
        | zero => intro i g14_0 g14_1 hmu14; exact absurd hmu14 (Nat.not_lt_zero _)
        | succ nn14 ih14 =>
          intro i g14_0 g14_1 hmu14
          refine z_iload_n F 0 dX3_areKeys_14 rfl ?_
          refine z_iload_n F 3 dX3_areKeys_15 rfl ?_
          refine z_icmp_ge F 38 dX3_areKeys_16 (by decide) (by omega) (fun c3 => ?_) (fun c3 => ?_)
          · refine z_iconst F dX3_areKeys_38 ?_
            exact z_zret F hr (by decide) dX3_areKeys_39 (by omega) ⟨1, rfl, rfl, (by omega), (by first | (intro q; exact absurd q (by decide)) | exact fun _ => ⟨by omega, by omega, fun j hj => g14_1 j (by omega)⟩)⟩
          · refine z_aload_n F 1 dX3_areKeys_19 rfl ?_
            refine z_iload_n F 2 dX3_areKeys_20 rfl ?_
            refine z_iload_n F 0 dX3_areKeys_21 rfl ?_
            refine z_iadd F dX3_areKeys_22 ?_
            refine z_bald F 0 rfl rfl dX3_areKeys_23 (by omega) (by omega) ?_
            have r4 : (-128) ≤ z (pa + i).toNat ∧ z (pa + i).toNat ≤ 127 := h2 _
            refine z_callS F lw_good (k_X3_isKey _ D K (z (pa + i).toNat) (by omega)) t2_3 t1_4 t2_1 t2_2 ⟨rfl, rfl⟩ ndX3_isKey ⟨Nat.le_of_ble_eq_true rfl, Nat.le_of_ble_eq_true rfl⟩ (rest := []) rfl (Nat.le_of_ble_eq_true rfl) dX3_areKeys_24 ⟨(show 0 + 0 ≤ 0 by omega), (show 0 + 0 ≤ 0 by omega)⟩ (wr := [aB K a n z]) ([] : List Nat) ([0] : List Nat) rfl rfl rfl rfl (by decide) (fun vr wo hp => ?_)
            obtain ⟨r_5, rfl, rfl, f6⟩ := hp
            refine z_re F (ws' := [aB K a n z]) (st' := [.int (iZ r_5)]) ([0] : List Nat) rfl rfl rfl ?_
            refine z_if_ne F 32 dX3_areKeys_27 (by decide) (by omega) (fun c7 => ?_) (fun c7 => ?_)
            · refine z_iinc F (lv' := [(3, .int (iZ (i + 1))), (0, .ref a), (1, .int (iZ pa)), (2, .int (iZ cnt))]) 0 dX3_areKeys_32 rfl (by decide) rfl ?_
              refine z_goto F 14 dX3_areKeys_35 (by decide) ?_
              exact ih14 (i + 1) (by omega) (fun j hj => by rcases (show (j : Int) < i ∨ (j : Int) = i by omega) with q | q; exact g14_1 j q; rw [q]; omega) (by omega)
            · refine z_iconst F dX3_areKeys_30 ?_
              exact z_zret F hr (by decide) dX3_areKeys_31 (by omega) ⟨0, rfl, rfl, (by omega), (by first | (intro q; exact absurd q (by decide)) | exact fun _ => ⟨by omega, by omega, fun j hj => g14_1 j (by omega)⟩)⟩
      exact lp14 ((cnt - 0 : Int).toNat + 1) 0 (by omega) (fun j hj => absurd hj (by omega)) (Nat.lt_succ_self _)
    · refine z_iconst F dX3_areKeys_10 ?_
      exact z_zret F hr (by decide) dX3_areKeys_11 (by omega) ⟨0, rfl, rfl, (by omega), (by first | (intro q; exact absurd q (by decide)) | exact fun _ => ⟨by omega, by omega, fun j hj => g14_1 j (by omega)⟩)⟩
set_option maxHeartbeats 4000000 in
set_option maxRecDepth 20000 in
theorem k_X3_isRow (l : Launch) (D : va_G) (K : KI) (a : Nat) (n : Nat) (z : Nat → Int) (pa : Int) (pl : Int) (h0 : n < 2147483648 ∧ 0 ≤ pa ∧ pa + 32 ≤ n) (h1 : rng (-128) 127 z) : Ct lw_T l yX3_isRow cX3_isRow 6 (some .boolean) { frames := 2, cells := 0, slots := 0, locals := 49 } 0 0 D cls5 (TY K) [.ref a, .int (iZ pa), .int (iZ pl)] [aB K a n z] (fun vr wo => ∃ (r : Int), vr = some (.int (iZ r)) ∧ wo = [aB K a n z] ∧ (r = 0 ∨ r = 1) ∧ (r = 1 → rowOk z pa)) := by
  refine ct_of (own := RX3) (lv := [(0, .ref a), (1, .int (iZ pa)), (2, .int (iZ pl))]) (by decide) rfl (Nat.le_of_ble_eq_true rfl) rfl (fun C F hr hnm hzl => ?_)
  subst hzl
  refine z_aload_n F 0 dX3_isRow_0 rfl ?_
  refine z_iload_n F 1 dX3_isRow_1 rfl ?_
  refine z_bald F 0 rfl rfl dX3_isRow_2 (by omega) (by omega) ?_
  have r1 : (-128) ≤ z pa.toNat ∧ z pa.toNat ≤ 127 := h1 _
  refine z_istore_n F (lv' := [(3, .int (iZ (z pa.toNat))), (0, .ref a), (1, .int (iZ pa)), (2, .int (iZ pl))]) dX3_isRow_3 (by decide) rfl ?_
  refine z_aload_n F 1 dX3_isRow_4 rfl ?_
  refine z_iload_n F 2 dX3_isRow_5 rfl ?_
  refine z_iconst F dX3_isRow_6 ?_
  refine z_iadd F dX3_isRow_7 ?_
  refine z_bald F 0 rfl rfl dX3_isRow_8 (by omega) (by omega) ?_
  have r2 : (-128) ≤ z (pa + 1).toNat ∧ z (pa + 1).toNat ≤ 127 := h1 _
  refine z_istore F (lv' := [(4, .int (iZ (z (pa + 1).toNat))), (3, .int (iZ (z pa.toNat))), (0, .ref a), (1, .int (iZ pa)), (2, .int (iZ pl))]) dX3_isRow_9 (by decide) rfl ?_
  refine z_aload_n F 2 dX3_isRow_11 rfl ?_
  refine z_iload_n F 3 dX3_isRow_12 rfl ?_
  refine z_iconst F dX3_isRow_13 ?_
  refine z_iadd F dX3_isRow_14 ?_
  refine z_bald F 0 rfl rfl dX3_isRow_15 (by omega) (by omega) ?_
  have r3 : (-128) ≤ z (pa + 2).toNat ∧ z (pa + 2).toNat ≤ 127 := h1 _
  refine z_istore F (lv' := [(5, .int (iZ (z (pa + 2).toNat))), (4, .int (iZ (z (pa + 1).toNat))), (3, .int (iZ (z pa.toNat))), (0, .ref a), (1, .int (iZ pa)), (2, .int (iZ pl))]) dX3_isRow_16 (by decide) rfl ?_
  refine z_iload_n F 2 dX3_isRow_18 rfl ?_
  refine z_iconst F dX3_isRow_19 ?_
  refine z_icmp_ne F 45 dX3_isRow_20 (by decide) (by omega) (fun c4 => ?_) (fun c4 => ?_)
  · refine z_iload_n F 2 dX3_isRow_45 rfl ?_
    refine z_iconst F dX3_isRow_46 ?_
    refine z_icmp_eq F 55 dX3_isRow_47 (by decide) (by omega) (fun c5 => ?_) (fun c5 => ?_)
    · refine z_iload F 1 dX3_isRow_55 rfl ?_
      refine z_callS F lw_good (k_X3_isUser _ D K (z (pa + 1).toNat) (by omega)) t2_9 t1_4 t2_7 t2_8 ⟨rfl, rfl⟩ ndX3_isUser ⟨Nat.le_of_ble_eq_true rfl, Nat.le_of_ble_eq_true rfl⟩ (rest := []) rfl (Nat.le_of_ble_eq_true rfl) dX3_isRow_57 ⟨(show 0 + 0 ≤ 0 by omega), (show 0 + 0 ≤ 0 by omega)⟩ (wr := [aB K a n z]) ([] : List Nat) ([0] : List Nat) rfl rfl rfl rfl (by decide) (fun vr wo hp => ?_)
      obtain ⟨r_6, rfl, rfl, f7⟩ := hp
      refine z_re F (ws' := [aB K a n z]) (st' := [.int (iZ r_6)]) ([0] : List Nat) rfl rfl rfl ?_
      refine z_if_eq F 68 dX3_isRow_60 (by decide) (by omega) (fun c8 => ?_) (fun c8 => ?_)
      · refine z_iconst F dX3_isRow_68 ?_
        exact z_zret F hr (by decide) dX3_isRow_69 (by omega) ⟨0, rfl, rfl, (by omega), (by first | (intro q; exact absurd q (by decide)) | (intro _; have hak2 := hak (by omega); exact ⟨by omega, fun _ => by omega, by omega, fun j hj => by have q := hak2.2.2 j hj; rw [show pa + 3 + (j : Int) = pa + 3 + j from rfl]; exact q⟩) | exact fun _ => ⟨by omega, fun q => by omega, by omega, fun j hj => absurd hj (by omega)⟩)⟩
      · refine z_iload F 0 dX3_isRow_63 rfl ?_
        refine z_if_eq F 70 dX3_isRow_65 (by decide) (by omega) (fun c9 => ?_) (fun c9 => ?_)
        · refine z_aload_n F 3 dX3_isRow_70 rfl ?_
          refine z_iload_n F 4 dX3_isRow_71 rfl ?_
          refine z_bipush F dX3_isRow_72 (by decide) ?_
          refine z_iload_n F 5 dX3_isRow_74 rfl ?_
          refine z_callS F lw_good (k_X2_hasSum _ D K a n z pa 28 pl (by omega)) t1_172 t1_8 t2_10 t1_171 ⟨rfl, rfl⟩ ndX2_hasSum ⟨Nat.le_of_ble_eq_true rfl, Nat.le_of_ble_eq_true rfl⟩ (rest := []) rfl (Nat.le_of_ble_eq_true rfl) dX3_isRow_75 ⟨(show 0 + 0 ≤ 0 by omega), (show 0 + 0 ≤ 0 by omega)⟩ (wr := []) ([0] : List Nat) ([] : List Nat) rfl rfl rfl rfl (by decide) (fun vr wo hp => ?_)
          obtain ⟨r_10, rfl, rfl, f11, f12⟩ := hp
          refine z_re F (ws' := [aB K a n z]) (st' := [.int (iZ r_10)]) ([0] : List Nat) rfl rfl rfl ?_
          have hgr := f11
          exact z_zret F hr (nar01 hgr) dX3_isRow_78 (by omega) ⟨r_10, rfl, rfl, f11, (by first | (intro q; exact absurd q (by decide)) | (intro _; have hak2 := hak (by omega); exact ⟨by omega, fun _ => by omega, by omega, fun j hj => by have q := hak2.2.2 j hj; rw [show pa + 3 + (j : Int) = pa + 3 + j from rfl]; exact q⟩) | exact fun _ => ⟨by omega, fun q => by omega, by omega, fun j hj => absurd hj (by omega)⟩)⟩
        · refine z_iconst F dX3_isRow_68 ?_
          exact z_zret F hr (by decide) dX3_isRow_69 (by omega) ⟨0, rfl, rfl, (by omega), (by first | (intro q; exact absurd q (by decide)) | (intro _; have hak2 := hak (by omega); exact ⟨by omega, fun _ => by omega, by omega, fun j hj => by have q := hak2.2.2 j hj; rw [show pa + 3 + (j : Int) = pa + 3 + j from rfl]; exact q⟩) | exact fun _ => ⟨by omega, fun q => by omega, by omega, fun j hj => absurd hj (by omega)⟩)⟩
    · refine z_iload_n F 2 dX3_isRow_50 rfl ?_
      refine z_iconst F dX3_isRow_51 ?_
      refine z_icmp_ne F 68 dX3_isRow_52 (by decide) (by omega) (fun c13 => ?_) (fun c13 => ?_)
      · refine z_iconst F dX3_isRow_68 ?_
        exact z_zret F hr (by decide) dX3_isRow_69 (by omega) ⟨0, rfl, rfl, (by omega), (by first | (intro q; exact absurd q (by decide)) | (intro _; have hak2 := hak (by omega); exact ⟨by omega, fun _ => by omega, by omega, fun j hj => by have q := hak2.2.2 j hj; rw [show pa + 3 + (j : Int) = pa + 3 + j from rfl]; exact q⟩) | exact fun _ => ⟨by omega, fun q => by omega, by omega, fun j hj => absurd hj (by omega)⟩)⟩
      · refine z_iload F 1 dX3_isRow_55 rfl ?_
        refine z_callS F lw_good (k_X3_isUser _ D K (z (pa + 1).toNat) (by omega)) t2_9 t1_4 t2_7 t2_8 ⟨rfl, rfl⟩ ndX3_isUser ⟨Nat.le_of_ble_eq_true rfl, Nat.le_of_ble_eq_true rfl⟩ (rest := []) rfl (Nat.le_of_ble_eq_true rfl) dX3_isRow_57 ⟨(show 0 + 0 ≤ 0 by omega), (show 0 + 0 ≤ 0 by omega)⟩ (wr := [aB K a n z]) ([] : List Nat) ([0] : List Nat) rfl rfl rfl rfl (by decide) (fun vr wo hp => ?_)
        obtain ⟨r_14, rfl, rfl, f15⟩ := hp
        refine z_re F (ws' := [aB K a n z]) (st' := [.int (iZ r_14)]) ([0] : List Nat) rfl rfl rfl ?_
        refine z_if_eq F 68 dX3_isRow_60 (by decide) (by omega) (fun c16 => ?_) (fun c16 => ?_)
        · refine z_iconst F dX3_isRow_68 ?_
          exact z_zret F hr (by decide) dX3_isRow_69 (by omega) ⟨0, rfl, rfl, (by omega), (by first | (intro q; exact absurd q (by decide)) | (intro _; have hak2 := hak (by omega); exact ⟨by omega, fun _ => by omega, by omega, fun j hj => by have q := hak2.2.2 j hj; rw [show pa + 3 + (j : Int) = pa + 3 + j from rfl]; exact q⟩) | exact fun _ => ⟨by omega, fun q => by omega, by omega, fun j hj => absurd hj (by omega)⟩)⟩
        · refine z_iload F 0 dX3_isRow_63 rfl ?_
          refine z_if_eq F 70 dX3_isRow_65 (by decide) (by omega) (fun c17 => ?_) (fun c17 => ?_)
          · refine z_aload_n F 3 dX3_isRow_70 rfl ?_
            refine z_iload_n F 4 dX3_isRow_71 rfl ?_
            refine z_bipush F dX3_isRow_72 (by decide) ?_
            refine z_iload_n F 5 dX3_isRow_74 rfl ?_
            refine z_callS F lw_good (k_X2_hasSum _ D K a n z pa 28 pl (by omega)) t1_172 t1_8 t2_10 t1_171 ⟨rfl, rfl⟩ ndX2_hasSum ⟨Nat.le_of_ble_eq_true rfl, Nat.le_of_ble_eq_true rfl⟩ (rest := []) rfl (Nat.le_of_ble_eq_true rfl) dX3_isRow_75 ⟨(show 0 + 0 ≤ 0 by omega), (show 0 + 0 ≤ 0 by omega)⟩ (wr := []) ([0] : List Nat) ([] : List Nat) rfl rfl rfl rfl (by decide) (fun vr wo hp => ?_)
            obtain ⟨r_18, rfl, rfl, f19, f20⟩ := hp
            refine z_re F (ws' := [aB K a n z]) (st' := [.int (iZ r_18)]) ([0] : List Nat) rfl rfl rfl ?_
            have hgr := f19
            exact z_zret F hr (nar01 hgr) dX3_isRow_78 (by omega) ⟨r_18, rfl, rfl, f19, (by first | (intro q; exact absurd q (by decide)) | (intro _; have hak2 := hak (by omega); exact ⟨by omega, fun _ => by omega, by omega, fun j hj => by have q := hak2.2.2 j hj; rw [show pa + 3 + (j : Int) = pa + 3 + j from rfl]; exact q⟩) | exact fun _ => ⟨by omega, fun q => by omega, by omega, fun j hj => absurd hj (by omega)⟩)⟩
          · refine z_iconst F dX3_isRow_68 ?_
            exact z_zret F hr (by decide) dX3_isRow_69 (by omega) ⟨0, rfl, rfl, (by omega), (by first | (intro q; exact absurd q (by decide)) | (intro _; have hak2 := hak (by omega); exact ⟨by omega, fun _ => by omega, by omega, fun j hj => by have q := hak2.2.2 j hj; rw [show pa + 3 + (j : Int) = pa + 3 + j from rfl]; exact q⟩) | exact fun _ => ⟨by omega, fun q => by omega, by omega, fun j hj => absurd hj (by omega)⟩)⟩
  · refine z_iload F 1 dX3_isRow_23 rfl ?_
    refine z_callS F lw_good (k_X3_isKey _ D K (z (pa + 1).toNat) (by omega)) t2_3 t1_4 t2_1 t2_2 ⟨rfl, rfl⟩ ndX3_isKey ⟨Nat.le_of_ble_eq_true rfl, Nat.le_of_ble_eq_true rfl⟩ (rest := []) rfl (Nat.le_of_ble_eq_true rfl) dX3_isRow_25 ⟨(show 0 + 0 ≤ 0 by omega), (show 0 + 0 ≤ 0 by omega)⟩ (wr := [aB K a n z]) ([] : List Nat) ([0] : List Nat) rfl rfl rfl rfl (by decide) (fun vr wo hp => ?_)
    obtain ⟨r_21, rfl, rfl, f22⟩ := hp
    refine z_re F (ws' := [aB K a n z]) (st' := [.int (iZ r_21)]) ([0] : List Nat) rfl rfl rfl ?_
    refine z_if_eq F 43 dX3_isRow_28 (by decide) (by omega) (fun c23 => ?_) (fun c23 => ?_)
    · refine z_iconst F dX3_isRow_43 ?_
      exact z_zret F hr (by decide) dX3_isRow_44 (by omega) ⟨0, rfl, rfl, (by omega), (by first | (intro q; exact absurd q (by decide)) | (intro _; have hak2 := hak (by omega); exact ⟨by omega, fun _ => by omega, by omega, fun j hj => by have q := hak2.2.2 j hj; rw [show pa + 3 + (j : Int) = pa + 3 + j from rfl]; exact q⟩) | exact fun _ => ⟨by omega, fun q => by omega, by omega, fun j hj => absurd hj (by omega)⟩)⟩
    · refine z_aload_n F 3 dX3_isRow_31 rfl ?_
      refine z_iload_n F 4 dX3_isRow_32 rfl ?_
      refine z_iconst F dX3_isRow_33 ?_
      refine z_iadd F dX3_isRow_34 ?_
      refine z_iload F 0 dX3_isRow_35 rfl ?_
      refine z_callS F lw_good (k_X3_areKeys _ D K a n z (pa + 3) (z (pa + 2).toNat) (by omega) (by omega) h1) t2_6 t1_4 t2_4 t2_5 ⟨rfl, rfl⟩ ndX3_areKeys ⟨Nat.le_of_ble_eq_true rfl, Nat.le_of_ble_eq_true rfl⟩ (rest := []) rfl (Nat.le_of_ble_eq_true rfl) dX3_isRow_37 ⟨(show 0 + 0 ≤ 0 by omega), (show 0 + 0 ≤ 0 by omega)⟩ (wr := []) ([0] : List Nat) ([] : List Nat) rfl rfl rfl rfl (by decide) (fun vr wo hp => ?_)
      obtain ⟨r_24, rfl, rfl, f25, f26⟩ := hp
      refine z_re F (ws' := [aB K a n z]) (st' := [.int (iZ r_24)]) ([0] : List Nat) rfl rfl rfl ?_
      have hak := f26
      refine z_if_ne F 70 dX3_isRow_40 (by decide) (by omega) (fun c27 => ?_) (fun c27 => ?_)
      · refine z_aload_n F 3 dX3_isRow_70 rfl ?_
        refine z_iload_n F 4 dX3_isRow_71 rfl ?_
        refine z_bipush F dX3_isRow_72 (by decide) ?_
        refine z_iload_n F 5 dX3_isRow_74 rfl ?_
        refine z_callS F lw_good (k_X2_hasSum _ D K a n z pa 28 pl (by omega)) t1_172 t1_8 t2_10 t1_171 ⟨rfl, rfl⟩ ndX2_hasSum ⟨Nat.le_of_ble_eq_true rfl, Nat.le_of_ble_eq_true rfl⟩ (rest := []) rfl (Nat.le_of_ble_eq_true rfl) dX3_isRow_75 ⟨(show 0 + 0 ≤ 0 by omega), (show 0 + 0 ≤ 0 by omega)⟩ (wr := []) ([0] : List Nat) ([] : List Nat) rfl rfl rfl rfl (by decide) (fun vr wo hp => ?_)
        obtain ⟨r_28, rfl, rfl, f29, f30⟩ := hp
        refine z_re F (ws' := [aB K a n z]) (st' := [.int (iZ r_28)]) ([0] : List Nat) rfl rfl rfl ?_
        have hgr := f29
        exact z_zret F hr (nar01 hgr) dX3_isRow_78 (by omega) ⟨r_28, rfl, rfl, f29, (by first | (intro q; exact absurd q (by decide)) | (intro _; have hak2 := hak (by omega); exact ⟨by omega, fun _ => by omega, by omega, fun j hj => by have q := hak2.2.2 j hj; rw [show pa + 3 + (j : Int) = pa + 3 + j from rfl]; exact q⟩) | exact fun _ => ⟨by omega, fun q => by omega, by omega, fun j hj => absurd hj (by omega)⟩)⟩
      · refine z_iconst F dX3_isRow_43 ?_
        exact z_zret F hr (by decide) dX3_isRow_44 (by omega) ⟨0, rfl, rfl, (by omega), (by first | (intro q; exact absurd q (by decide)) | (intro _; have hak2 := hak (by omega); exact ⟨by omega, fun _ => by omega, by omega, fun j hj => by have q := hak2.2.2 j hj; rw [show pa + 3 + (j : Int) = pa + 3 + j from rfl]; exact q⟩) | exact fun _ => ⟨by omega, fun q => by omega, by omega, fun j hj => absurd hj (by omega)⟩)⟩
set_option maxHeartbeats 4000000 in
set_option maxRecDepth 20000 in
theorem k_X3_readRow (l : Launch) (D : va_G) (K : KI) (y : Nat) (yk : Nat) (yn : Nat) (yc : Nat) (ya : Nat) (yd : Nat) (yl : Nat) (lp : Int) (re : Int) (wp : Int) (lw : Int) (np : Nat) (na : Nat) (zk : Nat → Int) (zn : Nat → Int) (zc : Nat → Int) (za : Nat → Int) (fd : Nat → Int64) (a : Nat) (n : Nat) (z : Nat → Int) (pa : Int) (pl : Int) (h0 : 1 ≤ np ∧ np ≤ 304 ∧ (na : Int) = 6 * np) (h1 : 0 ≤ pl ∧ pl ≤ np - 1) (h2 : n < 2147483648 ∧ 0 ≤ pa ∧ pa + 32 ≤ n) (h3 : rowOk z pa) (h4 : rng (-128) 127 z) (h5 : rng 0 3 zk) (h6 : rng (-128) 127 zn) (h7 : nmOk zk zn) (h8 : rng 0 6 zc) (h9 : rng (-128) 127 za) (h10 : akOk zc za) : Ct lw_T l yX3_readRow cX3_readRow 5 none { frames := 1, cells := 0, slots := 0, locals := 25 } 0 0 D cls5 (TY K) [.ref y, .ref a, .int (iZ pa), .int (iZ pl)] [oX3 y yk yn yc ya yd yl lp re wp lw, aI K yk np zk, aI K yn np zn, aI K yc np zc, aI K ya na za, aL K yd np fd, aB K a n z] (fun vr wo => ∃ (zk2 : Nat → Int), ∃ (zn2 : Nat → Int), ∃ (zc2 : Nat → Int), ∃ (za2 : Nat → Int), ∃ (fd2 : Nat → Int64), vr = none ∧ wo = [oX3 y yk yn yc ya yd yl lp re wp lw, aI K yk np zk2, aI K yn np zn2, aI K yc np zc2, aI K ya na za2, aL K yd np fd2, aB K a n z] ∧ (rng 0 3 zk2) ∧ (rng (-128) 127 zn2) ∧ (nmOk zk2 zn2) ∧ (rng 0 6 zc2) ∧ (rng (-128) 127 za2) ∧ (akOk zc2 za2)) := by
  refine ct_of (own := RX3) (lv := [(0, .ref y), (1, .ref a), (2, .int (iZ pa)), (3, .int (iZ pl))]) (by decide) rfl (Nat.le_of_ble_eq_true rfl) rfl (fun C F hr hnm hzl => ?_)
  subst hzl
  obtain ⟨rk1, rk2, rk3, rk4⟩ := h3
  refine z_aload_n F 0 dX3_readRow_0 rfl ?_
  refine z_get F 0 0 iX3 rfl rfl (by decide) t1_63 rfl dX3_readRow_1 ?_
  refine z_iload_n F 3 dX3_readRow_4 rfl ?_
  refine z_aload_n F 1 dX3_readRow_5 rfl ?_
  refine z_iload_n F 2 dX3_readRow_6 rfl ?_
  refine z_bald F 6 rfl rfl dX3_readRow_7 (by omega) (by omega) ?_
  have r1 : (-128) ≤ z pa.toNat ∧ z pa.toNat ≤ 127 := h4 _
  refine z_iast F (ws' := [oX3 y yk yn yc ya yd yl lp re wp lw, aI K yk np (zu zk pl.toNat (z pa.toNat)), aI K yn np zn, aI K yc np zc, aI K ya na za, aL K yd np fd, aB K a n z]) 1 rfl rfl dX3_readRow_8 (by omega) (by omega) rfl ?_
  have r2 : rng 0 3 (zu zk pl.toNat (z pa.toNat)) := rng_zu h5 (by omega)
  refine z_aload_n F 0 dX3_readRow_9 rfl ?_
  refine z_get F 0 1 iX3 rfl rfl (by decide) t1_64 rfl dX3_readRow_10 ?_
  refine z_iload_n F 3 dX3_readRow_13 rfl ?_
  refine z_aload_n F 1 dX3_readRow_14 rfl ?_
  refine z_iload_n F 2 dX3_readRow_15 rfl ?_
  refine z_iconst F dX3_readRow_16 ?_
  refine z_iadd F dX3_readRow_17 ?_
  refine z_bald F 6 rfl rfl dX3_readRow_18 (by omega) (by omega) ?_
  have r3 : (-128) ≤ z (pa + 1).toNat ∧ z (pa + 1).toNat ≤ 127 := h4 _
  refine z_iast F (ws' := [oX3 y yk yn yc ya yd yl lp re wp lw, aI K yk np (zu zk pl.toNat (z pa.toNat)), aI K yn np (zu zn pl.toNat (z (pa + 1).toNat)), aI K yc np zc, aI K ya na za, aL K yd np fd, aB K a n z]) 2 rfl rfl dX3_readRow_19 (by omega) (by omega) rfl ?_
  have r4 : rng (-128) 127 (zu zn pl.toNat (z (pa + 1).toNat)) := rng_zu h6 (by omega)
  refine z_aload_n F 0 dX3_readRow_20 rfl ?_
  refine z_get F 0 2 iX3 rfl rfl (by decide) t1_65 rfl dX3_readRow_21 ?_
  refine z_iload_n F 3 dX3_readRow_24 rfl ?_
  refine z_aload_n F 1 dX3_readRow_25 rfl ?_
  refine z_iload_n F 2 dX3_readRow_26 rfl ?_
  refine z_iconst F dX3_readRow_27 ?_
  refine z_iadd F dX3_readRow_28 ?_
  refine z_bald F 6 rfl rfl dX3_readRow_29 (by omega) (by omega) ?_
  have r5 : (-128) ≤ z (pa + 2).toNat ∧ z (pa + 2).toNat ≤ 127 := h4 _
  refine z_iast F (ws' := [oX3 y yk yn yc ya yd yl lp re wp lw, aI K yk np (zu zk pl.toNat (z pa.toNat)), aI K yn np (zu zn pl.toNat (z (pa + 1).toNat)), aI K yc np (zu zc pl.toNat (z (pa + 2).toNat)), aI K ya na za, aL K yd np fd, aB K a n z]) 3 rfl rfl dX3_readRow_30 (by omega) (by omega) rfl ?_
  have r6 : rng 0 6 (zu zc pl.toNat (z (pa + 2).toNat)) := rng_zu h8 (by omega)
  refine z_iconst F dX3_readRow_31 ?_
  refine z_istore F (lv' := [(4, .int (iZ 0)), (0, .ref y), (1, .ref a), (2, .int (iZ pa)), (3, .int (iZ pl))]) dX3_readRow_32 (by decide) rfl ?_
  have lp34 : ∀ (nn34 : Nat) (i : Int) (w : Nat → Int), (0 ≤ i ∧ i ≤ 6) → (rng (-128) 127 w) → (∀ q j : Nat, j < 6 → ¬ (q : Int) = pl → w (6 * q + j) = za (6 * q + j)) → (∀ j : Nat, (j : Int) < i → w (6 * pl.toNat + j) = z (pa + 3 + j).toNat) → ((6 - i : Int).toNat < nn34) → Go C { frames := 1, cells := 0, slots := 0, locals := 25 } D cls5 5 0 0 [oX3 y yk yn yc ya yd yl lp re wp lw, aI K yk np (zu zk pl.toNat (z pa.toNat)), aI K yn np (zu zn pl.toNat (z (pa + 1).toNat)), aI K yc np (zu zc pl.toNat (z (pa + 2).toNat)), aI K ya na w, aL K yd np fd, aB K a n z] 34 [(4, .int (iZ i)), (0, .ref y), (1, .ref a), (2, .int (iZ pa)), (3, .int (iZ pl))] [] := by
    intro nn34
    induction nn34 with
    | zero => intro i w g34_0 g34_1 g34_2 g34_3 hmu34; exact absurd hmu34 (Nat.not_lt_zero _)
    | succ nn34 ih34 =>
      intro i w g34_0 g34_1 g34_2 g34_3 hmu34
      refine z_iload F 0 dX3_readRow_34 rfl ?_
      refine z_bipush F dX3_readRow_36 (by decide) ?_
      refine z_icmp_ge F 67 dX3_readRow_38 (by decide) (by omega) (fun c7 => ?_) (fun c7 => ?_)
      · refine z_aload_n F 1 dX3_readRow_67 rfl ?_
        refine z_get F 0 4 iX3 rfl rfl (by decide) t1_67 rfl dX3_readRow_68 ?_
        refine z_iload_n F 4 dX3_readRow_71 rfl ?_
        refine z_aload_n F 1 dX3_readRow_72 rfl ?_
        refine z_get F 0 0 iX3 rfl rfl (by decide) t1_63 rfl dX3_readRow_73 ?_
        refine z_iload_n F 4 dX3_readRow_76 rfl ?_
        refine z_iald F 1 rfl rfl dX3_readRow_77 (by omega) (by omega) ?_
        have r8 : 0 ≤ (zu zk pl.toNat (z pa.toNat)) pl.toNat ∧ (zu zk pl.toNat (z pa.toNat)) pl.toNat ≤ 3 := r2 _
        refine z_iconst F dX3_readRow_78 ?_
        refine z_icmp_ne F 95 dX3_readRow_79 (by decide) (by omega) (fun c9 => ?_) (fun c9 => ?_)
        · refine z_lconst F (v := 0) dX3_readRow_95 (by decide) ?_
          refine z_last F (ws' := [oX3 y yk yn yc ya yd yl lp re wp lw, aI K yk np (zu zk pl.toNat (z pa.toNat)), aI K yn np (zu zn pl.toNat (z (pa + 1).toNat)), aI K yc np (zu zc pl.toNat (z (pa + 2).toNat)), aI K ya na w, aL K yd np (vp_updL fd pl.toNat 0), aB K a n z]) 5 rfl rfl dX3_readRow_96 (by omega) (by omega) rfl ?_
          exact z_vret F hr dX3_readRow_97 (by omega) ⟨(zu zk pl.toNat (z pa.toNat)), (zu zn pl.toNat (z (pa + 1).toNat)), (zu zc pl.toNat (z (pa + 2).toNat)), w, (vp_updL fd pl.toNat 0), rfl, rfl, r2, r4, (by first | assumption | exact nmOk_zu2 (by assumption) (by omega) | exact nmOk_0 (by assumption) | exact nmOk_z | (exfalso; omega)), r6, g34_1, (akOk_row ⟨by omega, by omega, fun j => (h8 j).2⟩ h10 rk4 g34_2 (fun j hj => g34_3 j (by omega)))⟩
        · refine z_aload_n F 2 dX3_readRow_82 rfl ?_
          refine z_iload_n F 3 dX3_readRow_83 rfl ?_
          refine z_bipush F dX3_readRow_84 (by decide) ?_
          refine z_iadd F dX3_readRow_86 ?_
          refine z_bipush F dX3_readRow_87 (by decide) ?_
          refine z_callS F lw_good (k_X2_read _ D K a n z (pa + 16) 8 (by omega)) t1_164 t1_8 t2_15 t1_163 ⟨rfl, rfl⟩ ndX2_read ⟨Nat.le_of_ble_eq_true rfl, Nat.le_of_ble_eq_true rfl⟩ (rest := [.int (iZ pl), .ref yd]) rfl (Nat.le_of_ble_eq_true rfl) dX3_readRow_89 ⟨(show 0 + 0 ≤ 0 by omega), (show 0 + 0 ≤ 0 by omega)⟩ (wr := [oX3 y yk yn yc ya yd yl lp re wp lw, aI K yk np (zu zk pl.toNat (z pa.toNat)), aI K yn np (zu zn pl.toNat (z (pa + 1).toNat)), aI K yc np (zu zc pl.toNat (z (pa + 2).toNat)), aI K ya na w, aL K yd np fd]) ([6] : List Nat) ([0, 1, 2, 3, 4, 5] : List Nat) rfl rfl rfl rfl (by decide) (fun vr wo hp => ?_)
          obtain ⟨r_10, rfl, rfl, f11⟩ := hp
          refine z_re F (ws' := [oX3 y yk yn yc ya yd yl lp re wp lw, aI K yk np (zu zk pl.toNat (z pa.toNat)), aI K yn np (zu zn pl.toNat (z (pa + 1).toNat)), aI K yc np (zu zc pl.toNat (z (pa + 2).toNat)), aI K ya na w, aL K yd np fd, aB K a n z]) (st' := [.long r_10, .int (iZ pl), .ref yd]) ([0, 1, 2, 3, 4, 5, 6] : List Nat) rfl rfl rfl ?_
          refine z_goto F 96 dX3_readRow_92 (by decide) ?_
          refine z_last F (ws' := [oX3 y yk yn yc ya yd yl lp re wp lw, aI K yk np (zu zk pl.toNat (z pa.toNat)), aI K yn np (zu zn pl.toNat (z (pa + 1).toNat)), aI K yc np (zu zc pl.toNat (z (pa + 2).toNat)), aI K ya na w, aL K yd np (vp_updL fd pl.toNat r_10), aB K a n z]) 5 rfl rfl dX3_readRow_96 (by omega) (by omega) rfl ?_
          exact z_vret F hr dX3_readRow_97 (by omega) ⟨(zu zk pl.toNat (z pa.toNat)), (zu zn pl.toNat (z (pa + 1).toNat)), (zu zc pl.toNat (z (pa + 2).toNat)), w, (vp_updL fd pl.toNat r_10), rfl, rfl, r2, r4, (by first | assumption | exact nmOk_zu2 (by assumption) (by omega) | exact nmOk_0 (by assumption) | exact nmOk_z | (exfalso; omega)), r6, g34_1, (akOk_row ⟨by omega, by omega, fun j => (h8 j).2⟩ h10 rk4 g34_2 (fun j hj => g34_3 j (by omega)))⟩
      · refine z_aload_n F 1 dX3_readRow_41 rfl ?_
        refine z_get F 0 3 iX3 rfl rfl (by decide) t1_66 rfl dX3_readRow_42 ?_
        refine z_iload_n F 4 dX3_readRow_45 rfl ?_
        refine z_bipush F dX3_readRow_46 (by decide) ?_
        refine z_imul F dX3_readRow_48 ?_
        refine z_iload F 0 dX3_readRow_49 rfl ?_
        refine z_iadd F dX3_readRow_51 ?_
        refine z_aload_n F 2 dX3_readRow_52 rfl ?_
        refine z_iload_n F 3 dX3_readRow_53 rfl ?_
        refine z_iconst F dX3_readRow_54 ?_
        refine z_iadd F dX3_readRow_55 ?_
        refine z_iload F 0 dX3_readRow_56 rfl ?_
        refine z_iadd F dX3_readRow_58 ?_
        refine z_bald F 6 rfl rfl dX3_readRow_59 (by omega) (by omega) ?_
        have r12 : (-128) ≤ z ((pa + 3) + i).toNat ∧ z ((pa + 3) + i).toNat ≤ 127 := h4 _
        refine z_iast F (ws' := [oX3 y yk yn yc ya yd yl lp re wp lw, aI K yk np (zu zk pl.toNat (z pa.toNat)), aI K yn np (zu zn pl.toNat (z (pa + 1).toNat)), aI K yc np (zu zc pl.toNat (z (pa + 2).toNat)), aI K ya na (zu w ((pl * 6) + i).toNat (z ((pa + 3) + i).toNat)), aL K yd np fd, aB K a n z]) 4 rfl rfl dX3_readRow_60 (by omega) (by omega) rfl ?_
        have r13 : rng (-128) 127 (zu w ((pl * 6) + i).toNat (z ((pa + 3) + i).toNat)) := rng_zu g34_1 (by omega)
        refine z_iinc F (lv' := [(4, .int (iZ (i + 1))), (0, .ref y), (1, .ref a), (2, .int (iZ pa)), (3, .int (iZ pl))]) 0 dX3_readRow_61 rfl (by decide) rfl ?_
        refine z_goto F 34 dX3_readRow_64 (by decide) ?_
        exact ih34 (i + 1) (zu w ((pl * 6) + i).toNat (z ((pa + 3) + i).toNat)) (by omega) r13 (fun q j hj hq => by rw [zu_n (by omega)]; exact g34_2 q j hj hq) (fun j hj => by rcases (show (j : Int) < i ∨ (j : Int) = i by omega) with q | q; rw [zu_n (by omega)]; exact g34_3 j q; rw [show 6 * pl.toNat + j = ((pl * 6) + i).toNat by omega, zu_s, ← q]) (by omega)
  exact lp34 ((6 - 0 : Int).toNat + 1) 0 za (by omega) h9 (fun _ _ _ _ => rfl) (fun j hj => absurd hj (by omega)) (Nat.lt_succ_self _)
set_option maxHeartbeats 4000000 in
set_option maxRecDepth 20000 in
theorem k_X3_read (l : Launch) (D : va_G) (K : KI) (y : Nat) (yk : Nat) (yn : Nat) (yc : Nat) (ya : Nat) (yd : Nat) (yl : Nat) (lp : Int) (re : Int) (wp : Int) (lw : Int) (np : Nat) (na : Nat) (zk : Nat → Int) (zn : Nat → Int) (zc : Nat → Int) (za : Nat → Int) (fd : Nat → Int64) (zl : Nat → Int) (a : Nat) (n : Nat) (z : Nat → Int) (fr : Int) (h0 : 1 ≤ np ∧ np ≤ 304 ∧ (na : Int) = 6 * np) (h1 : n < 2147483648 ∧ 0 ≤ fr ∧ fr + 32 * np ≤ n) (h2 : rng (-128) 127 z) (h3 : rng 0 3 zk) (h4 : rng (-128) 127 zn) (h5 : nmOk zk zn) (h6 : rng 0 6 zc) (h7 : rng (-128) 127 za) (h8 : akOk zc za) (h9 : rng (-1) (np-1) zl) : Ct lw_T l yX3_read cX3_read 5 none { frames := 3, cells := 0, slots := 0, locals := 74 } 0 0 D cls5 (TY K) [.ref y, .ref a, .int (iZ fr)] [oX3 y yk yn yc ya yd yl lp re wp lw, aI K yk np zk, aI K yn np zn, aI K yc np zc, aI K ya na za, aL K yd np fd, aI K yl 64 zl, aB K a n z] (fun vr wo => ∃ (lp2 : Int), ∃ (re2 : Int), ∃ (wp2 : Int), ∃ (lw2 : Int), ∃ (zk2 : Nat → Int), ∃ (zn2 : Nat → Int), ∃ (zc2 : Nat → Int), ∃ (za2 : Nat → Int), ∃ (fd2 : Nat → Int64), ∃ (zl2 : Nat → Int), vr = none ∧ wo = [oX3 y yk yn yc ya yd yl lp2 re2 wp2 lw2, aI K yk np zk2, aI K yn np zn2, aI K yc np zc2, aI K ya na za2, aL K yd np fd2, aI K yl 64 zl2, aB K a n z] ∧ (0 ≤ re2 ∧ re2 ≤ np) ∧ (-1 ≤ lp2 ∧ lp2 ≤ np - 1 ∧ 0 ≤ wp2 ∧ wp2 ≤ re2 ∧ -1 ≤ lw2 ∧ lw2 ≤ np - 1) ∧ (rng 0 3 zk2) ∧ (rng (-128) 127 zn2) ∧ (nmOk zk2 zn2) ∧ (rng 0 6 zc2) ∧ (rng (-128) 127 za2) ∧ (akOk zc2 za2) ∧ (rng (-1) (np-1) zl2)) := by
  refine ct_of (own := RX3) (lv := [(0, .ref y), (1, .ref a), (2, .int (iZ fr))]) (by decide) rfl (Nat.le_of_ble_eq_true rfl) rfl (fun C F hr hnm hzl => ?_)
  subst hzl
  refine z_aload_n F 0 dX3_read_0 rfl ?_
  refine z_iconst F dX3_read_1 ?_
  refine z_put F (ws' := [oX3 y yk yn yc ya yd yl lp 0 wp lw, aI K yk np zk, aI K yn np zn, aI K yc np zc, aI K ya na za, aL K yd np fd, aI K yl 64 zl, aB K a n z]) 0 7 iX3 tyX3 tyX3_ok nmX3 rfl rfl (by decide) t1_70 rfl rfl rfl rfl (Nat.le_of_ble_eq_true rfl) dX3_read_2 rfl ?_
  refine z_iconst F dX3_read_5 ?_
  refine z_istore_n F (lv' := [(3, .int (iZ 0)), (0, .ref y), (1, .ref a), (2, .int (iZ fr))]) dX3_read_6 (by decide) rfl ?_
  have lp7 : ∀ (nn7 : Nat) (i : Int) (rev : Int) (zkv : Nat → Int) (znv : Nat → Int) (zcv : Nat → Int) (zav : Nat → Int) (fdv : Nat → Int64), (0 ≤ i ∧ i ≤ np) → (0 ≤ rev ∧ rev ≤ i) → (rng 0 3 zkv) → (rng (-128) 127 znv) → (nmOk zkv znv) → (rng 0 6 zcv) → (rng (-128) 127 zav) → (akOk zcv zav) → ((np - i : Int).toNat < nn7) → Go C { frames := 3, cells := 0, slots := 0, locals := 74 } D cls5 5 0 0 [oX3 y yk yn yc ya yd yl lp rev wp lw, aI K yk np zkv, aI K yn np znv, aI K yc np zcv, aI K ya na zav, aL K yd np fdv, aI K yl 64 zl, aB K a n z] 7 [(3, .int (iZ i)), (0, .ref y), (1, .ref a), (2, .int (iZ fr))] [] := by
    intro nn7
    induction nn7 with
    | zero => intro i rev zkv znv zcv zav fdv g7_0 g7_1 g7_2 g7_3 g7_4 g7_5 g7_6 g7_7 hmu7; exact absurd hmu7 (Nat.not_lt_zero _)
    | succ nn7 ih7 =>
      intro i rev zkv znv zcv zav fdv g7_0 g7_1 g7_2 g7_3 g7_4 g7_5 g7_6 g7_7 hmu7
      refine z_iload_n F 0 dX3_read_7 rfl ?_
      refine z_aload_n F 1 dX3_read_8 rfl ?_
      refine z_get F 0 0 iX3 rfl rfl (by decide) t1_63 rfl dX3_read_9 ?_
      refine z_alen F 1 0 rfl rfl dX3_read_12 ?_
      refine z_icmp_ge F 65 dX3_read_13 (by decide) (by omega) (fun c1 => ?_) (fun c1 => ?_)
      · refine z_aload_n F 1 dX3_read_65 rfl ?_
        refine z_callV F lw_good (k_X3_index _ D K y yk yn yc ya yd yl lp rev wp lw np zkv znv zl (by omega) (by omega) h9 g7_4 g7_2) t1_199 t1_4 t1_196 t1_198 (q := (RX3, TX3, 10)) ts_2 ⟨rfl, rfl⟩ ndX3_index ⟨Nat.le_of_ble_eq_true rfl, Nat.le_of_ble_eq_true rfl⟩ 0 rfl rfl (rest := []) rfl (Nat.le_of_ble_eq_true rfl) dX3_read_66 ⟨(show 0 + 0 ≤ 0 by omega), (show 0 + 0 ≤ 0 by omega)⟩ (wr := [aI K yc np zcv, aI K ya na zav, aL K yd np fdv, aB K a n z]) ([0, 1, 2, 6] : List Nat) ([3, 4, 5, 7] : List Nat) rfl rfl rfl rfl (by decide) (fun vr wo hp => ?_)
        obtain ⟨lp2_2, wp2_3, lw2_4, zl2_5, rfl, rfl, f6, f7⟩ := hp
        refine z_re F (ws' := [oX3 y yk yn yc ya yd yl lp2_2 rev wp2_3 lw2_4, aI K yk np zkv, aI K yn np znv, aI K yc np zcv, aI K ya na zav, aL K yd np fdv, aI K yl 64 zl2_5, aB K a n z]) (st' := []) ([4, 5, 6, 0, 1, 2, 7, 3] : List Nat) rfl rfl rfl ?_
        exact z_vret F hr dX3_read_69 (by omega) ⟨lp2_2, rev, wp2_3, lw2_4, zkv, znv, zcv, zav, fdv, zl2_5, rfl, rfl, (by omega), f6, g7_2, g7_3, g7_4, g7_5, g7_6, g7_7, f7⟩
      · refine z_iload_n F 3 dX3_read_16 rfl ?_
        refine z_iload_n F 0 dX3_read_17 rfl ?_
        refine z_bipush F dX3_read_18 (by decide) ?_
        refine z_imul F dX3_read_20 ?_
        refine z_iadd F dX3_read_21 ?_
        refine z_istore F (lv' := [(4, .int (iZ (fr + (i * 32)))), (3, .int (iZ i)), (0, .ref y), (1, .ref a), (2, .int (iZ fr))]) dX3_read_22 (by decide) rfl ?_
        refine z_aload_n F 3 dX3_read_24 rfl ?_
        refine z_iload F 0 dX3_read_25 rfl ?_
        refine z_iload_n F 1 dX3_read_27 rfl ?_
        refine z_callS F lw_good (k_X3_isRow _ D K a n z (fr + (i * 32)) i (by omega) h2) t2_0 t1_4 t1_238 t1_239 ⟨rfl, rfl⟩ ndX3_isRow ⟨Nat.le_of_ble_eq_true rfl, Nat.le_of_ble_eq_true rfl⟩ (rest := []) rfl (Nat.le_of_ble_eq_true rfl) dX3_read_28 ⟨(show 0 + 0 ≤ 0 by omega), (show 0 + 0 ≤ 0 by omega)⟩ (wr := [oX3 y yk yn yc ya yd yl lp rev wp lw, aI K yk np zkv, aI K yn np znv, aI K yc np zcv, aI K ya na zav, aL K yd np fdv, aI K yl 64 zl]) ([7] : List Nat) ([0, 1, 2, 3, 4, 5, 6] : List Nat) rfl rfl rfl rfl (by decide) (fun vr wo hp => ?_)
        obtain ⟨r_8, rfl, rfl, f9, f10⟩ := hp
        refine z_re F (ws' := [oX3 y yk yn yc ya yd yl lp rev wp lw, aI K yk np zkv, aI K yn np znv, aI K yc np zcv, aI K ya na zav, aL K yd np fdv, aI K yl 64 zl, aB K a n z]) (st' := [.int (iZ r_8)]) ([0, 1, 2, 3, 4, 5, 6, 7] : List Nat) rfl rfl rfl ?_
        refine z_if_eq F 52 dX3_read_31 (by decide) (by omega) (fun c11 => ?_) (fun c11 => ?_)
        · refine z_aload_n F 2 dX3_read_52 rfl ?_
          refine z_get F 0 0 iX3 rfl rfl (by decide) t1_63 rfl dX3_read_53 ?_
          refine z_iload_n F 1 dX3_read_56 rfl ?_
          refine z_iconst F dX3_read_57 ?_
          refine z_iast F (ws' := [oX3 y yk yn yc ya yd yl lp rev wp lw, aI K yk np (zu zkv i.toNat 0), aI K yn np znv, aI K yc np zcv, aI K ya na zav, aL K yd np fdv, aI K yl 64 zl, aB K a n z]) 1 rfl rfl dX3_read_58 (by omega) (by omega) rfl ?_
          have r12 : rng 0 3 (zu zkv i.toNat 0) := rng_zu g7_2 (by omega)
          refine z_iinc F (lv' := [(3, .int (iZ (i + 1))), (4, .int (iZ (fr + (i * 32)))), (0, .ref y), (1, .ref a), (2, .int (iZ fr))]) 1 dX3_read_59 rfl (by decide) rfl ?_
          refine z_goto F 7 dX3_read_62 (by decide) ?_
          refine z_lv F (lv' := [(3, .int (iZ (i + 1))), (0, .ref y), (1, .ref a), (2, .int (iZ fr))]) [0, 2, 3, 4] rfl ?_
          exact ih7 (i + 1) rev (zu zkv i.toNat 0) znv zcv zav fdv (by omega) (by omega) r12 g7_3 (by first | assumption | exact nmOk_zu2 (by assumption) (by omega) | exact nmOk_0 (by assumption) | exact nmOk_z | (exfalso; omega)) g7_5 g7_6 g7_7 (by omega)
        · have hro := f10 (by omega)
          refine z_aload_n F 2 dX3_read_34 rfl ?_
          refine z_aload_n F 3 dX3_read_35 rfl ?_
          refine z_iload F 0 dX3_read_36 rfl ?_
          refine z_iload_n F 1 dX3_read_38 rfl ?_
          refine z_callV F lw_good (k_X3_readRow _ D K y yk yn yc ya yd yl lp rev wp lw np na zkv znv zcv zav fdv a n z (fr + (i * 32)) i h0 (by omega) (by omega) (by assumption) h2 g7_2 g7_3 g7_4 g7_5 g7_6 g7_7) t2_14 t1_4 t2_11 t2_13 (q := (RX3, TX3, 10)) ts_8 ⟨rfl, rfl⟩ ndX3_readRow ⟨Nat.le_of_ble_eq_true rfl, Nat.le_of_ble_eq_true rfl⟩ 0 rfl rfl (rest := []) rfl (Nat.le_of_ble_eq_true rfl) dX3_read_39 ⟨(show 0 + 0 ≤ 0 by omega), (show 0 + 0 ≤ 0 by omega)⟩ (wr := [aI K yl 64 zl]) ([0, 1, 2, 3, 4, 5, 7] : List Nat) ([6] : List Nat) rfl rfl rfl rfl (by decide) (fun vr wo hp => ?_)
          obtain ⟨zk2_13, zn2_14, zc2_15, za2_16, fd2_17, rfl, rfl, f18, f19, f20, f21, f22, f23⟩ := hp
          refine z_re F (ws' := [oX3 y yk yn yc ya yd yl lp rev wp lw, aI K yk np zk2_13, aI K yn np zn2_14, aI K yc np zc2_15, aI K ya na za2_16, aL K yd np fd2_17, aI K yl 64 zl, aB K a n z]) (st' := []) ([1, 2, 3, 4, 5, 6, 0, 7] : List Nat) rfl rfl rfl ?_
          refine z_aload_n F 2 dX3_read_42 rfl ?_
          refine z_iload_n F 1 dX3_read_43 rfl ?_
          refine z_iconst F dX3_read_44 ?_
          refine z_iadd F dX3_read_45 ?_
          refine z_put F (ws' := [oX3 y yk yn yc ya yd yl lp (i + 1) wp lw, aI K yk np zk2_13, aI K yn np zn2_14, aI K yc np zc2_15, aI K ya na za2_16, aL K yd np fd2_17, aI K yl 64 zl, aB K a n z]) 0 7 iX3 tyX3 tyX3_ok nmX3 rfl rfl (by decide) t1_70 rfl rfl rfl rfl (Nat.le_of_ble_eq_true rfl) dX3_read_46 rfl ?_
          refine z_goto F 59 dX3_read_49 (by decide) ?_
          refine z_iinc F (lv' := [(3, .int (iZ (i + 1))), (4, .int (iZ (fr + (i * 32)))), (0, .ref y), (1, .ref a), (2, .int (iZ fr))]) 1 dX3_read_59 rfl (by decide) rfl ?_
          refine z_goto F 7 dX3_read_62 (by decide) ?_
          refine z_lv F (lv' := [(3, .int (iZ (i + 1))), (0, .ref y), (1, .ref a), (2, .int (iZ fr))]) [0, 2, 3, 4] rfl ?_
          exact ih7 (i + 1) (i + 1) zk2_13 zn2_14 zc2_15 za2_16 fd2_17 (by omega) (by omega) f18 f19 f20 f21 f22 f23 (by omega)
  exact lp7 ((np - 0 : Int).toNat + 1) 0 0 zk zn zc za fd (by omega) (by omega) h3 h4 h5 h6 h7 h8 (Nat.lt_succ_self _)
set_option maxHeartbeats 4000000 in
set_option maxRecDepth 20000 in
theorem k_X3_append (l : Launch) (D : va_G) (K : KI) (y : Nat) (yk : Nat) (yn : Nat) (yc : Nat) (ya : Nat) (yd : Nat) (yl : Nat) (lp : Int) (re : Int) (wp : Int) (lw : Int) (np : Nat) (na : Nat) (zk : Nat → Int) (zn : Nat → Int) (zc : Nat → Int) (za : Nat → Int) (fd : Nat → Int64) (zl : Nat → Int) (kd : Int) (nm : Int) (dg : Int64) (h0 : 1 ≤ np ∧ np ≤ 304 ∧ (na : Int) = 6 * np) (h1 : 0 ≤ re ∧ re ≤ np - 1) (h2 : -1 ≤ lp ∧ lp ≤ np - 1 ∧ 0 ≤ wp ∧ wp ≤ re ∧ -1 ≤ lw ∧ lw ≤ np - 1) (h3 : rng 0 3 zk) (h4 : rng (-128) 127 zn) (h5 : nmOk zk zn) (h6 : rng 0 6 zc) (h7 : rng (-128) 127 za) (h8 : akOk zc za) (h9 : rng (-1) (np-1) zl) (h10 : 1 ≤ kd ∧ kd ≤ 3 ∧ 0 ≤ nm ∧ nm ≤ 63) : Ct lw_T l yX3_append cX3_append 6 (some .int) { frames := 1, cells := 0, slots := 0, locals := 21 } 0 0 D cls5 (TY K) [.ref y, .int (iZ kd), .int (iZ nm), .long dg] [oX3 y yk yn yc ya yd yl lp re wp lw, aI K yk np zk, aI K yn np zn, aI K yc np zc, aI K ya na za, aL K yd np fd, aI K yl 64 zl] (fun vr wo => ∃ (lp2 : Int), ∃ (wp2 : Int), ∃ (lw2 : Int), ∃ (zk2 : Nat → Int), ∃ (zn2 : Nat → Int), ∃ (zc2 : Nat → Int), ∃ (fd2 : Nat → Int64), ∃ (zl2 : Nat → Int), vr = some (.int (iZ re)) ∧ wo = [oX3 y yk yn yc ya yd yl lp2 (re + 1) wp2 lw2, aI K yk np zk2, aI K yn np zn2, aI K yc np zc2, aI K ya na za, aL K yd np fd2, aI K yl 64 zl2] ∧ (-1 ≤ lp2 ∧ lp2 ≤ np - 1 ∧ 0 ≤ wp2 ∧ wp2 ≤ re + 1 ∧ -1 ≤ lw2 ∧ lw2 ≤ np - 1) ∧ (rng 0 3 zk2) ∧ (rng (-128) 127 zn2) ∧ (nmOk zk2 zn2) ∧ (rng 0 6 zc2) ∧ (akOk zc2 za) ∧ (rng (-1) (np-1) zl2)) := by
  refine ct_of (own := RX3) (lv := [(0, .ref y), (1, .int (iZ kd)), (2, .int (iZ nm)), (3, .long dg)]) (by decide) rfl (Nat.le_of_ble_eq_true rfl) rfl (fun C F hr hnm hzl => ?_)
  subst hzl
  refine z_aload_n F 0 dX3_append_0 rfl ?_
  refine z_get F 0 7 iX3 rfl rfl (by decide) t1_70 rfl dX3_append_1 ?_
  refine z_istore F (lv' := [(5, .int (iZ re)), (0, .ref y), (1, .int (iZ kd)), (2, .int (iZ nm)), (3, .long dg)]) dX3_append_4 (by decide) rfl ?_
  refine z_aload_n F 1 dX3_append_6 rfl ?_
  refine z_get F 0 0 iX3 rfl rfl (by decide) t1_63 rfl dX3_append_7 ?_
  refine z_iload F 0 dX3_append_10 rfl ?_
  refine z_iload_n F 2 dX3_append_12 rfl ?_
  refine z_iast F (ws' := [oX3 y yk yn yc ya yd yl lp re wp lw, aI K yk np (zu zk re.toNat kd), aI K yn np zn, aI K yc np zc, aI K ya na za, aL K yd np fd, aI K yl 64 zl]) 1 rfl rfl dX3_append_13 (by omega) (by omega) rfl ?_
  have r1 : rng 0 3 (zu zk re.toNat kd) := rng_zu h3 (by omega)
  refine z_aload_n F 1 dX3_append_14 rfl ?_
  refine z_get F 0 1 iX3 rfl rfl (by decide) t1_64 rfl dX3_append_15 ?_
  refine z_iload F 0 dX3_append_18 rfl ?_
  refine z_iload_n F 3 dX3_append_20 rfl ?_
  refine z_iast F (ws' := [oX3 y yk yn yc ya yd yl lp re wp lw, aI K yk np (zu zk re.toNat kd), aI K yn np (zu zn re.toNat nm), aI K yc np zc, aI K ya na za, aL K yd np fd, aI K yl 64 zl]) 2 rfl rfl dX3_append_21 (by omega) (by omega) rfl ?_
  have r2 : rng (-128) 127 (zu zn re.toNat nm) := rng_zu h4 (by omega)
  refine z_aload_n F 1 dX3_append_22 rfl ?_
  refine z_get F 0 2 iX3 rfl rfl (by decide) t1_65 rfl dX3_append_23 ?_
  refine z_iload F 0 dX3_append_26 rfl ?_
  refine z_iconst F dX3_append_28 ?_
  refine z_iast F (ws' := [oX3 y yk yn yc ya yd yl lp re wp lw, aI K yk np (zu zk re.toNat kd), aI K yn np (zu zn re.toNat nm), aI K yc np (zu zc re.toNat 0), aI K ya na za, aL K yd np fd, aI K yl 64 zl]) 3 rfl rfl dX3_append_29 (by omega) (by omega) rfl ?_
  have r3 : rng 0 6 (zu zc re.toNat 0) := rng_zu h6 (by omega)
  refine z_aload_n F 1 dX3_append_30 rfl ?_
  refine z_get F 0 4 iX3 rfl rfl (by decide) t1_67 rfl dX3_append_31 ?_
  refine z_iload F 0 dX3_append_34 rfl ?_
  refine z_lload_n F 4 dX3_append_36 rfl ?_
  refine z_last F (ws' := [oX3 y yk yn yc ya yd yl lp re wp lw, aI K yk np (zu zk re.toNat kd), aI K yn np (zu zn re.toNat nm), aI K yc np (zu zc re.toNat 0), aI K ya na za, aL K yd np (vp_updL fd re.toNat dg), aI K yl 64 zl]) 5 rfl rfl dX3_append_37 (by omega) (by omega) rfl ?_
  refine z_aload_n F 1 dX3_append_38 rfl ?_
  refine z_dup F dX3_append_39 rfl ?_
  refine z_get F 0 7 iX3 rfl rfl (by decide) t1_70 rfl dX3_append_40 ?_
  refine z_iconst F dX3_append_43 ?_
  refine z_iadd F dX3_append_44 ?_
  refine z_put F (ws' := [oX3 y yk yn yc ya yd yl lp (re + 1) wp lw, aI K yk np (zu zk re.toNat kd), aI K yn np (zu zn re.toNat nm), aI K yc np (zu zc re.toNat 0), aI K ya na za, aL K yd np (vp_updL fd re.toNat dg), aI K yl 64 zl]) 0 7 iX3 tyX3 tyX3_ok nmX3 rfl rfl (by decide) t1_70 rfl rfl rfl rfl (Nat.le_of_ble_eq_true rfl) dX3_append_45 rfl ?_
  refine z_aload_n F 1 dX3_append_48 rfl ?_
  refine z_iload F 0 dX3_append_49 rfl ?_
  refine z_callV F lw_good (k_X3_indexPlace _ D K y yk yn yc ya yd yl lp (re + 1) wp lw np (zu zk re.toNat kd) (zu zn re.toNat nm) zl re (by omega) (by omega) h9 (by first | assumption | exact nmOk_zu2 (by assumption) (by omega) | exact nmOk_0 (by assumption) | exact nmOk_z | (exfalso; omega)) h1 h2 r1) t1_203 t1_4 t1_200 t1_202 (q := (RX3, TX3, 10)) ts_3 ⟨rfl, rfl⟩ ndX3_indexPlace ⟨Nat.le_of_ble_eq_true rfl, Nat.le_of_ble_eq_true rfl⟩ 0 rfl rfl (rest := []) rfl (Nat.le_of_ble_eq_true rfl) dX3_append_51 ⟨(show 0 + 0 ≤ 0 by omega), (show 0 + 0 ≤ 0 by omega)⟩ (wr := [aI K yc np (zu zc re.toNat 0), aI K ya na za, aL K yd np (vp_updL fd re.toNat dg)]) ([0, 1, 2, 6] : List Nat) ([3, 4, 5] : List Nat) rfl rfl rfl rfl (by decide) (fun vr wo hp => ?_)
  obtain ⟨lp2_4, wp2_5, lw2_6, zl2_7, rfl, rfl, f8, f9⟩ := hp
  refine z_re F (ws' := [oX3 y yk yn yc ya yd yl lp2_4 (re + 1) wp2_5 lw2_6, aI K yk np (zu zk re.toNat kd), aI K yn np (zu zn re.toNat nm), aI K yc np (zu zc re.toNat 0), aI K ya na za, aL K yd np (vp_updL fd re.toNat dg), aI K yl 64 zl2_7]) (st' := []) ([3, 4, 5, 0, 1, 2, 6] : List Nat) rfl rfl rfl ?_
  refine z_iload F 0 dX3_append_54 rfl ?_
  exact z_iret F hr dX3_append_56 (by omega) ⟨lp2_4, wp2_5, lw2_6, (zu zk re.toNat kd), (zu zn re.toNat nm), (zu zc re.toNat 0), (vp_updL fd re.toNat dg), zl2_7, rfl, rfl, f8, r1, r2, (by first | assumption | exact nmOk_zu2 (by assumption) (by omega) | exact nmOk_0 (by assumption) | exact nmOk_z | (exfalso; omega)), r3, (by first | assumption | exact akOk_c0 (by assumption) | exact akOk_z | (exfalso; omega)), f9⟩
set_option maxHeartbeats 4000000 in
set_option maxRecDepth 20000 in
theorem k_X3_addAsk (l : Launch) (D : va_G) (K : KI) (y : Nat) (yk : Nat) (yn : Nat) (yc : Nat) (ya : Nat) (yd : Nat) (yl : Nat) (lp : Int) (re : Int) (wp : Int) (lw : Int) (np : Nat) (na : Nat) (zc : Nat → Int) (za : Nat → Int) (pl : Int) (k : Int) (h0 : 1 ≤ np ∧ np ≤ 304 ∧ (na : Int) = 6 * np) (h1 : 0 ≤ pl ∧ pl ≤ np - 1) (h2 : 0 ≤ k ∧ k ≤ 63) (h3 : zc pl.toNat ≤ 5) (h4 : rng 0 6 zc) (h5 : rng (-128) 127 za) (h6 : akOk zc za) : Ct lw_T l yX3_addAsk cX3_addAsk 3 none { frames := 0, cells := 0, slots := 0, locals := 0 } 0 0 D cls5 (TY K) [.ref y, .int (iZ pl), .int (iZ k)] [oX3 y yk yn yc ya yd yl lp re wp lw, aI K yc np zc, aI K ya na za] (fun vr wo => ∃ (zc2 : Nat → Int), ∃ (za2 : Nat → Int), vr = none ∧ wo = [oX3 y yk yn yc ya yd yl lp re wp lw, aI K yc np zc2, aI K ya na za2] ∧ (rng 0 6 zc2) ∧ (rng (-128) 127 za2) ∧ (akOk zc2 za2)) := by
  refine ct_of (own := RX3) (lv := [(0, .ref y), (1, .int (iZ pl)), (2, .int (iZ k))]) (by decide) rfl (Nat.le_of_ble_eq_true rfl) rfl (fun C F hr hnm hzl => ?_)
  subst hzl
  refine z_aload_n F 0 dX3_addAsk_0 rfl ?_
  refine z_get F 0 3 iX3 rfl rfl (by decide) t1_66 rfl dX3_addAsk_1 ?_
  refine z_iload_n F 1 dX3_addAsk_4 rfl ?_
  refine z_bipush F dX3_addAsk_5 (by decide) ?_
  refine z_imul F dX3_addAsk_7 ?_
  refine z_aload_n F 0 dX3_addAsk_8 rfl ?_
  refine z_get F 0 2 iX3 rfl rfl (by decide) t1_65 rfl dX3_addAsk_9 ?_
  refine z_iload_n F 1 dX3_addAsk_12 rfl ?_
  refine z_iald F 1 rfl rfl dX3_addAsk_13 (by omega) (by omega) ?_
  have r1 : 0 ≤ zc pl.toNat ∧ zc pl.toNat ≤ 6 := h4 _
  refine z_iadd F dX3_addAsk_14 ?_
  refine z_iload_n F 2 dX3_addAsk_15 rfl ?_
  refine z_iast F (ws' := [oX3 y yk yn yc ya yd yl lp re wp lw, aI K yc np zc, aI K ya na (zu za ((pl * 6) + (zc pl.toNat)).toNat k)]) 2 rfl rfl dX3_addAsk_16 (by omega) (by omega) rfl ?_
  have r2 : rng (-128) 127 (zu za ((pl * 6) + (zc pl.toNat)).toNat k) := rng_zu h5 (by omega)
  refine z_aload_n F 0 dX3_addAsk_17 rfl ?_
  refine z_get F 0 2 iX3 rfl rfl (by decide) t1_65 rfl dX3_addAsk_18 ?_
  refine z_iload_n F 1 dX3_addAsk_21 rfl ?_
  refine z_dup2 F dX3_addAsk_22 rfl rfl ?_
  refine z_iald F 1 rfl rfl dX3_addAsk_23 (by omega) (by omega) ?_
  have r3 : 0 ≤ zc pl.toNat ∧ zc pl.toNat ≤ 6 := h4 _
  refine z_iconst F dX3_addAsk_24 ?_
  refine z_iadd F dX3_addAsk_25 ?_
  refine z_iast F (ws' := [oX3 y yk yn yc ya yd yl lp re wp lw, aI K yc np (zu zc pl.toNat ((zc pl.toNat) + 1)), aI K ya na (zu za ((pl * 6) + (zc pl.toNat)).toNat k)]) 1 rfl rfl dX3_addAsk_26 (by omega) (by omega) rfl ?_
  have r4 : rng 0 6 (zu zc pl.toNat ((zc pl.toNat) + 1)) := rng_zu h4 (by omega)
  exact z_vret F hr dX3_addAsk_27 (by omega) ⟨(zu zc pl.toNat ((zc pl.toNat) + 1)), (zu za ((pl * 6) + (zc pl.toNat)).toNat k), rfl, rfl, r4, r2, (akOk_add h6 h4 (by omega) (by omega) (by omega))⟩
set_option maxHeartbeats 4000000 in
set_option maxRecDepth 20000 in
theorem k_X3_move (l : Launch) (D : va_G) (K : KI) (y : Nat) (yk : Nat) (yn : Nat) (yc : Nat) (ya : Nat) (yd : Nat) (yl : Nat) (lp : Int) (re : Int) (wp : Int) (lw : Int) (np : Nat) (na : Nat) (zk : Nat → Int) (zn : Nat → Int) (zc : Nat → Int) (za : Nat → Int) (fd : Nat → Int64) (fr : Int) (to : Int) (h0 : 1 ≤ np ∧ np ≤ 304 ∧ (na : Int) = 6 * np) (h1 : 0 ≤ fr ∧ fr ≤ np - 1 ∧ 0 ≤ to ∧ to ≤ np - 1) (h2 : rng 0 3 zk) (h3 : rng (-128) 127 zn) (h4 : nmOk zk zn) (h5 : rng 0 6 zc) (h6 : rng (-128) 127 za) (h7 : akOk zc za) : Ct lw_T l yX3_move cX3_move 4 none { frames := 0, cells := 0, slots := 0, locals := 0 } 0 0 D cls5 (TY K) [.ref y, .int (iZ fr), .int (iZ to)] [oX3 y yk yn yc ya yd yl lp re wp lw, aI K yk np zk, aI K yn np zn, aI K yc np zc, aI K ya na za, aL K yd np fd] (fun vr wo => ∃ (zk2 : Nat → Int), ∃ (zn2 : Nat → Int), ∃ (zc2 : Nat → Int), ∃ (za2 : Nat → Int), ∃ (fd2 : Nat → Int64), vr = none ∧ wo = [oX3 y yk yn yc ya yd yl lp re wp lw, aI K yk np zk2, aI K yn np zn2, aI K yc np zc2, aI K ya na za2, aL K yd np fd2] ∧ (rng 0 3 zk2) ∧ (rng (-128) 127 zn2) ∧ (nmOk zk2 zn2) ∧ (rng 0 6 zc2) ∧ (rng (-128) 127 za2) ∧ (akOk zc2 za2)) := by
  refine ct_of (own := RX3) (lv := [(0, .ref y), (1, .int (iZ fr)), (2, .int (iZ to))]) (by decide) rfl (Nat.le_of_ble_eq_true rfl) rfl (fun C F hr hnm hzl => ?_)
  subst hzl
  have hnq := h4 fr.toNat
  refine z_aload_n F 0 dX3_move_0 rfl ?_
  refine z_get F 0 0 iX3 rfl rfl (by decide) t1_63 rfl dX3_move_1 ?_
  refine z_iload_n F 2 dX3_move_4 rfl ?_
  refine z_aload_n F 0 dX3_move_5 rfl ?_
  refine z_get F 0 0 iX3 rfl rfl (by decide) t1_63 rfl dX3_move_6 ?_
  refine z_iload_n F 1 dX3_move_9 rfl ?_
  refine z_iald F 1 rfl rfl dX3_move_10 (by omega) (by omega) ?_
  have r1 : 0 ≤ zk fr.toNat ∧ zk fr.toNat ≤ 3 := h2 _
  refine z_iast F (ws' := [oX3 y yk yn yc ya yd yl lp re wp lw, aI K yk np (zu zk to.toNat (zk fr.toNat)), aI K yn np zn, aI K yc np zc, aI K ya na za, aL K yd np fd]) 1 rfl rfl dX3_move_11 (by omega) (by omega) rfl ?_
  have r2 : rng 0 3 (zu zk to.toNat (zk fr.toNat)) := rng_zu h2 (by omega)
  refine z_aload_n F 0 dX3_move_12 rfl ?_
  refine z_get F 0 1 iX3 rfl rfl (by decide) t1_64 rfl dX3_move_13 ?_
  refine z_iload_n F 2 dX3_move_16 rfl ?_
  refine z_aload_n F 0 dX3_move_17 rfl ?_
  refine z_get F 0 1 iX3 rfl rfl (by decide) t1_64 rfl dX3_move_18 ?_
  refine z_iload_n F 1 dX3_move_21 rfl ?_
  refine z_iald F 2 rfl rfl dX3_move_22 (by omega) (by omega) ?_
  have r3 : (-128) ≤ zn fr.toNat ∧ zn fr.toNat ≤ 127 := h3 _
  refine z_iast F (ws' := [oX3 y yk yn yc ya yd yl lp re wp lw, aI K yk np (zu zk to.toNat (zk fr.toNat)), aI K yn np (zu zn to.toNat (zn fr.toNat)), aI K yc np zc, aI K ya na za, aL K yd np fd]) 2 rfl rfl dX3_move_23 (by omega) (by omega) rfl ?_
  have r4 : rng (-128) 127 (zu zn to.toNat (zn fr.toNat)) := rng_zu h3 (by omega)
  refine z_aload_n F 0 dX3_move_24 rfl ?_
  refine z_get F 0 2 iX3 rfl rfl (by decide) t1_65 rfl dX3_move_25 ?_
  refine z_iload_n F 2 dX3_move_28 rfl ?_
  refine z_aload_n F 0 dX3_move_29 rfl ?_
  refine z_get F 0 2 iX3 rfl rfl (by decide) t1_65 rfl dX3_move_30 ?_
  refine z_iload_n F 1 dX3_move_33 rfl ?_
  refine z_iald F 3 rfl rfl dX3_move_34 (by omega) (by omega) ?_
  have r5 : 0 ≤ zc fr.toNat ∧ zc fr.toNat ≤ 6 := h5 _
  refine z_iast F (ws' := [oX3 y yk yn yc ya yd yl lp re wp lw, aI K yk np (zu zk to.toNat (zk fr.toNat)), aI K yn np (zu zn to.toNat (zn fr.toNat)), aI K yc np (zu zc to.toNat (zc fr.toNat)), aI K ya na za, aL K yd np fd]) 3 rfl rfl dX3_move_35 (by omega) (by omega) rfl ?_
  have r6 : rng 0 6 (zu zc to.toNat (zc fr.toNat)) := rng_zu h5 (by omega)
  refine z_iconst F dX3_move_36 ?_
  refine z_istore_n F (lv' := [(3, .int (iZ 0)), (0, .ref y), (1, .int (iZ fr)), (2, .int (iZ to))]) dX3_move_37 (by decide) rfl ?_
  have lp38 : ∀ (nn38 : Nat) (i : Int) (w : Nat → Int), (0 ≤ i ∧ i ≤ 6) → (rng (-128) 127 w) → (∀ q j : Nat, j < 6 → ¬ (q : Int) = to → w (6 * q + j) = za (6 * q + j)) → (∀ j : Nat, (j : Int) < i → w (6 * to.toNat + j) = za (6 * fr.toNat + j)) → (∀ j : Nat, i ≤ (j : Int) → j < 6 → w (6 * to.toNat + j) = za (6 * to.toNat + j)) → ((6 - i : Int).toNat < nn38) → Go C { frames := 0, cells := 0, slots := 0, locals := 0 } D cls5 4 0 0 [oX3 y yk yn yc ya yd yl lp re wp lw, aI K yk np (zu zk to.toNat (zk fr.toNat)), aI K yn np (zu zn to.toNat (zn fr.toNat)), aI K yc np (zu zc to.toNat (zc fr.toNat)), aI K ya na w, aL K yd np fd] 38 [(3, .int (iZ i)), (0, .ref y), (1, .int (iZ fr)), (2, .int (iZ to))] [] := by
    intro nn38
    induction nn38 with
    | zero => intro i w g38_0 g38_1 g38_2 g38_3 g38_4 hmu38; exact absurd hmu38 (Nat.not_lt_zero _)
    | succ nn38 ih38 =>
      intro i w g38_0 g38_1 g38_2 g38_3 g38_4 hmu38
      refine z_iload_n F 0 dX3_move_38 rfl ?_
      refine z_bipush F dX3_move_39 (by decide) ?_
      refine z_icmp_ge F 72 dX3_move_41 (by decide) (by omega) (fun c7 => ?_) (fun c7 => ?_)
      · refine z_aload_n F 1 dX3_move_72 rfl ?_
        refine z_get F 0 4 iX3 rfl rfl (by decide) t1_67 rfl dX3_move_73 ?_
        refine z_iload_n F 3 dX3_move_76 rfl ?_
        refine z_aload_n F 1 dX3_move_77 rfl ?_
        refine z_get F 0 4 iX3 rfl rfl (by decide) t1_67 rfl dX3_move_78 ?_
        refine z_iload_n F 2 dX3_move_81 rfl ?_
        refine z_lald F 5 rfl rfl dX3_move_82 (by omega) (by omega) ?_
        refine z_last F (ws' := [oX3 y yk yn yc ya yd yl lp re wp lw, aI K yk np (zu zk to.toNat (zk fr.toNat)), aI K yn np (zu zn to.toNat (zn fr.toNat)), aI K yc np (zu zc to.toNat (zc fr.toNat)), aI K ya na w, aL K yd np (vp_updL fd to.toNat (fd fr.toNat))]) 5 rfl rfl dX3_move_83 (by omega) (by omega) rfl ?_
        exact z_vret F hr dX3_move_84 (by omega) ⟨(zu zk to.toNat (zk fr.toNat)), (zu zn to.toNat (zn fr.toNat)), (zu zc to.toNat (zc fr.toNat)), w, (vp_updL fd to.toNat (fd fr.toNat)), rfl, rfl, r2, r4, (by first | assumption | exact nmOk_zu2 (by assumption) (by omega) | exact nmOk_0 (by assumption) | exact nmOk_z | (exfalso; omega)), r6, g38_1, (akOk_mv (by omega) (by omega) h7 h5 g38_2 (fun j hj => g38_3 j (by omega)))⟩
      · refine z_aload_n F 1 dX3_move_44 rfl ?_
        refine z_get F 0 3 iX3 rfl rfl (by decide) t1_66 rfl dX3_move_45 ?_
        refine z_iload_n F 3 dX3_move_48 rfl ?_
        refine z_bipush F dX3_move_49 (by decide) ?_
        refine z_imul F dX3_move_51 ?_
        refine z_iload_n F 0 dX3_move_52 rfl ?_
        refine z_iadd F dX3_move_53 ?_
        refine z_aload_n F 1 dX3_move_54 rfl ?_
        refine z_get F 0 3 iX3 rfl rfl (by decide) t1_66 rfl dX3_move_55 ?_
        refine z_iload_n F 2 dX3_move_58 rfl ?_
        refine z_bipush F dX3_move_59 (by decide) ?_
        refine z_imul F dX3_move_61 ?_
        refine z_iload_n F 0 dX3_move_62 rfl ?_
        refine z_iadd F dX3_move_63 ?_
        refine z_iald F 4 rfl rfl dX3_move_64 (by omega) (by omega) ?_
        have r8 : (-128) ≤ w ((fr * 6) + i).toNat ∧ w ((fr * 6) + i).toNat ≤ 127 := g38_1 _
        refine z_iast F (ws' := [oX3 y yk yn yc ya yd yl lp re wp lw, aI K yk np (zu zk to.toNat (zk fr.toNat)), aI K yn np (zu zn to.toNat (zn fr.toNat)), aI K yc np (zu zc to.toNat (zc fr.toNat)), aI K ya na (zu w ((to * 6) + i).toNat (w ((fr * 6) + i).toNat)), aL K yd np fd]) 4 rfl rfl dX3_move_65 (by omega) (by omega) rfl ?_
        have r9 : rng (-128) 127 (zu w ((to * 6) + i).toNat (w ((fr * 6) + i).toNat)) := rng_zu g38_1 (by omega)
        refine z_iinc F (lv' := [(3, .int (iZ (i + 1))), (0, .ref y), (1, .int (iZ fr)), (2, .int (iZ to))]) 0 dX3_move_66 rfl (by decide) rfl ?_
        refine z_goto F 38 dX3_move_69 (by decide) ?_
        exact ih38 (i + 1) (zu w ((to * 6) + i).toNat (w ((fr * 6) + i).toNat)) (by omega) r9 (fun q j hj hq => by rw [zu_n (by omega)]; exact g38_2 q j hj hq) (fun j hj => by rcases (show (j : Int) < i ∨ (j : Int) = i by omega) with q | q; rw [zu_n (by omega)]; exact g38_3 j q; rw [show 6 * to.toNat + j = ((to * 6) + i).toNat by omega, zu_s, show ((fr * 6) + i).toNat = 6 * fr.toNat + j by omega]; by_cases e : (fr : Int) = to; rw [e]; exact g38_4 j (by omega) (by omega); exact g38_2 fr.toNat j (by omega) (by omega)) (fun j h1 h2 => by rw [zu_n (by omega)]; exact g38_4 j (by omega) h2) (by omega)
  exact lp38 ((6 - 0 : Int).toNat + 1) 0 za (by omega) h6 (fun _ _ _ _ => rfl) (fun j hj => absurd hj (by omega)) (fun _ _ _ => rfl) (Nat.lt_succ_self _)
set_option maxHeartbeats 4000000 in
set_option maxRecDepth 20000 in
theorem k_X3_keepOnly (l : Launch) (D : va_G) (K : KI) (y : Nat) (yk : Nat) (yn : Nat) (yc : Nat) (ya : Nat) (yd : Nat) (yl : Nat) (lp : Int) (re : Int) (wp : Int) (lw : Int) (np : Nat) (na : Nat) (zk : Nat → Int) (zn : Nat → Int) (zc : Nat → Int) (za : Nat → Int) (fd : Nat → Int64) (zl : Nat → Int) (xc : Nat) (zx : Nat → Int) (cnt : Int) (h0 : 1 ≤ np ∧ np ≤ 304 ∧ (na : Int) = 6 * np) (h1 : 0 ≤ cnt ∧ cnt ≤ np) (h2 : rng 0 (np-1) zx) (h3 : rng 0 3 zk) (h4 : rng (-128) 127 zn) (h5 : nmOk zk zn) (h6 : rng 0 6 zc) (h7 : rng (-128) 127 za) (h8 : akOk zc za) (h9 : rng (-1) (np-1) zl) : Ct lw_T l yX3_keepOnly cX3_keepOnly 4 none { frames := 2, cells := 0, slots := 0, locals := 42 } 0 0 D cls5 (TY K) [.ref y, .ref xc, .int (iZ cnt)] [oX3 y yk yn yc ya yd yl lp re wp lw, aI K yk np zk, aI K yn np zn, aI K yc np zc, aI K ya na za, aL K yd np fd, aI K yl 64 zl, aI K xc np zx] (fun vr wo => ∃ (lp2 : Int), ∃ (wp2 : Int), ∃ (lw2 : Int), ∃ (zk2 : Nat → Int), ∃ (zn2 : Nat → Int), ∃ (zc2 : Nat → Int), ∃ (za2 : Nat → Int), ∃ (fd2 : Nat → Int64), ∃ (zl2 : Nat → Int), vr = none ∧ wo = [oX3 y yk yn yc ya yd yl lp2 cnt wp2 lw2, aI K yk np zk2, aI K yn np zn2, aI K yc np zc2, aI K ya na za2, aL K yd np fd2, aI K yl 64 zl2, aI K xc np zx] ∧ (-1 ≤ lp2 ∧ lp2 ≤ np - 1 ∧ 0 ≤ wp2 ∧ wp2 ≤ cnt ∧ -1 ≤ lw2 ∧ lw2 ≤ np - 1) ∧ (rng 0 3 zk2) ∧ (rng (-128) 127 zn2) ∧ (nmOk zk2 zn2) ∧ (rng 0 6 zc2) ∧ (rng (-128) 127 za2) ∧ (akOk zc2 za2) ∧ (rng (-1) (np-1) zl2)) := by
  refine ct_of (own := RX3) (lv := [(0, .ref y), (1, .ref xc), (2, .int (iZ cnt))]) (by decide) rfl (Nat.le_of_ble_eq_true rfl) rfl (fun C F hr hnm hzl => ?_)
  subst hzl
  refine z_iconst F dX3_keepOnly_0 ?_
  refine z_istore_n F (lv' := [(3, .int (iZ 0)), (0, .ref y), (1, .ref xc), (2, .int (iZ cnt))]) dX3_keepOnly_1 (by decide) rfl ?_
  have lp2 : ∀ (nn2 : Nat) (i : Int) (zkv : Nat → Int) (znv : Nat → Int) (zcv : Nat → Int) (zav : Nat → Int) (fdv : Nat → Int64), (0 ≤ i ∧ i ≤ cnt) → (rng 0 3 zkv) → (rng (-128) 127 znv) → (nmOk zkv znv) → (rng 0 6 zcv) → (rng (-128) 127 zav) → (akOk zcv zav) → ((cnt - i : Int).toNat < nn2) → Go C { frames := 2, cells := 0, slots := 0, locals := 42 } D cls5 4 0 0 [oX3 y yk yn yc ya yd yl lp re wp lw, aI K yk np zkv, aI K yn np znv, aI K yc np zcv, aI K ya na zav, aL K yd np fdv, aI K yl 64 zl, aI K xc np zx] 2 [(3, .int (iZ i)), (0, .ref y), (1, .ref xc), (2, .int (iZ cnt))] [] := by
    intro nn2
    induction nn2 with
    | zero => intro i zkv znv zcv zav fdv g2_0 g2_1 g2_2 g2_3 g2_4 g2_5 g2_6 hmu2; exact absurd hmu2 (Nat.not_lt_zero _)
    | succ nn2 ih2 =>
      intro i zkv znv zcv zav fdv g2_0 g2_1 g2_2 g2_3 g2_4 g2_5 g2_6 hmu2
      refine z_iload_n F 0 dX3_keepOnly_2 rfl ?_
      refine z_iload_n F 3 dX3_keepOnly_3 rfl ?_
      refine z_icmp_ge F 21 dX3_keepOnly_4 (by decide) (by omega) (fun c1 => ?_) (fun c1 => ?_)
      · refine z_aload_n F 1 dX3_keepOnly_21 rfl ?_
        refine z_iload_n F 3 dX3_keepOnly_22 rfl ?_
        refine z_put F (ws' := [oX3 y yk yn yc ya yd yl lp cnt wp lw, aI K yk np zkv, aI K yn np znv, aI K yc np zcv, aI K ya na zav, aL K yd np fdv, aI K yl 64 zl, aI K xc np zx]) 0 7 iX3 tyX3 tyX3_ok nmX3 rfl rfl (by decide) t1_70 rfl rfl rfl rfl (Nat.le_of_ble_eq_true rfl) dX3_keepOnly_23 rfl ?_
        refine z_aload_n F 1 dX3_keepOnly_26 rfl ?_
        refine z_callV F lw_good (k_X3_index _ D K y yk yn yc ya yd yl lp cnt wp lw np zkv znv zl (by omega) h1 h9 g2_3 g2_1) t1_199 t1_4 t1_196 t1_198 (q := (RX3, TX3, 10)) ts_2 ⟨rfl, rfl⟩ ndX3_index ⟨Nat.le_of_ble_eq_true rfl, Nat.le_of_ble_eq_true rfl⟩ 0 rfl rfl (rest := []) rfl (Nat.le_of_ble_eq_true rfl) dX3_keepOnly_27 ⟨(show 0 + 0 ≤ 0 by omega), (show 0 + 0 ≤ 0 by omega)⟩ (wr := [aI K yc np zcv, aI K ya na zav, aL K yd np fdv, aI K xc np zx]) ([0, 1, 2, 6] : List Nat) ([3, 4, 5, 7] : List Nat) rfl rfl rfl rfl (by decide) (fun vr wo hp => ?_)
        obtain ⟨lp2_2, wp2_3, lw2_4, zl2_5, rfl, rfl, f6, f7⟩ := hp
        refine z_re F (ws' := [oX3 y yk yn yc ya yd yl lp2_2 cnt wp2_3 lw2_4, aI K yk np zkv, aI K yn np znv, aI K yc np zcv, aI K ya na zav, aL K yd np fdv, aI K yl 64 zl2_5, aI K xc np zx]) (st' := []) ([4, 5, 6, 0, 1, 2, 7, 3] : List Nat) rfl rfl rfl ?_
        exact z_vret F hr dX3_keepOnly_30 (by omega) ⟨lp2_2, wp2_3, lw2_4, zkv, znv, zcv, zav, fdv, zl2_5, rfl, rfl, f6, g2_1, g2_2, g2_3, g2_4, g2_5, g2_6, f7⟩
      · refine z_aload_n F 1 dX3_keepOnly_7 rfl ?_
        refine z_aload_n F 2 dX3_keepOnly_8 rfl ?_
        refine z_iload_n F 0 dX3_keepOnly_9 rfl ?_
        refine z_iald F 7 rfl rfl dX3_keepOnly_10 (by omega) (by omega) ?_
        have r8 : 0 ≤ zx i.toNat ∧ zx i.toNat ≤ (np-1) := h2 _
        refine z_iload_n F 0 dX3_keepOnly_11 rfl ?_
        refine z_callV F lw_good (k_X3_move _ D K y yk yn yc ya yd yl lp re wp lw np na zkv znv zcv zav fdv (zx i.toNat) i h0 (by omega) g2_1 g2_2 g2_3 g2_4 g2_5 g2_6) t2_140 t1_4 t2_137 t2_139 (q := (RX3, TX3, 10)) ts_16 ⟨rfl, rfl⟩ ndX3_move ⟨Nat.le_of_ble_eq_true rfl, Nat.le_of_ble_eq_true rfl⟩ 0 rfl rfl (rest := []) rfl (Nat.le_of_ble_eq_true rfl) dX3_keepOnly_12 ⟨(show 0 + 0 ≤ 0 by omega), (show 0 + 0 ≤ 0 by omega)⟩ (wr := [aI K yl 64 zl, aI K xc np zx]) ([0, 1, 2, 3, 4, 5] : List Nat) ([6, 7] : List Nat) rfl rfl rfl rfl (by decide) (fun vr wo hp => ?_)
        obtain ⟨zk2_9, zn2_10, zc2_11, za2_12, fd2_13, rfl, rfl, f14, f15, f16, f17, f18, f19⟩ := hp
        refine z_re F (ws' := [oX3 y yk yn yc ya yd yl lp re wp lw, aI K yk np zk2_9, aI K yn np zn2_10, aI K yc np zc2_11, aI K ya na za2_12, aL K yd np fd2_13, aI K yl 64 zl, aI K xc np zx]) (st' := []) ([2, 3, 4, 5, 6, 7, 0, 1] : List Nat) rfl rfl rfl ?_
        refine z_iinc F (lv' := [(3, .int (iZ (i + 1))), (0, .ref y), (1, .ref xc), (2, .int (iZ cnt))]) 0 dX3_keepOnly_15 rfl (by decide) rfl ?_
        refine z_goto F 2 dX3_keepOnly_18 (by decide) ?_
        exact ih2 (i + 1) zk2_9 zn2_10 zc2_11 za2_12 fd2_13 (by omega) f14 f15 f16 f17 f18 f19 (by omega)
  exact lp2 ((cnt - 0 : Int).toNat + 1) 0 zk zn zc za fd (by omega) h3 h4 h5 h6 h7 h8 (Nat.lt_succ_self _)
set_option maxHeartbeats 4000000 in
set_option maxRecDepth 20000 in
theorem k_X3_write (l : Launch) (D : va_G) (K : KI) (y : Nat) (yk : Nat) (yn : Nat) (yc : Nat) (ya : Nat) (yd : Nat) (yl : Nat) (lp : Int) (re : Int) (wp : Int) (lw : Int) (np : Nat) (na : Nat) (zk : Nat → Int) (zn : Nat → Int) (zc : Nat → Int) (za : Nat → Int) (fd : Nat → Int64) (a : Nat) (n : Nat) (z : Nat → Int) (pl : Int) (pa : Int) (tp : Int) (h0 : 1 ≤ np ∧ np ≤ 304 ∧ (na : Int) = 6 * np) (h1 : 0 ≤ pl ∧ pl ≤ np - 1) (h2 : n < 2147483648 ∧ 0 ≤ pa ∧ pa + 32 ≤ n) (h3 : rng (-128) 127 z) (h4 : rng 0 6 zc) (h5 : rng (-128) 127 za) : Ct lw_T l yX3_write cX3_write 7 none { frames := 2, cells := 0, slots := 0, locals := 49 } 0 0 D cls5 (TY K) [.ref y, .int (iZ pl), .ref a, .int (iZ pa), .int (iZ tp)] [oX3 y yk yn yc ya yd yl lp re wp lw, aI K yk np zk, aI K yn np zn, aI K yc np zc, aI K ya na za, aL K yd np fd, aB K a n z] (fun vr wo => ∃ (z2 : Nat → Int), vr = none ∧ wo = [oX3 y yk yn yc ya yd yl lp re wp lw, aI K yk np zk, aI K yn np zn, aI K yc np zc, aI K ya na za, aL K yd np fd, aB K a n z2] ∧ (rng (-128) 127 z2)) := by
  refine ct_of (own := RX3) (lv := [(0, .ref y), (1, .int (iZ pl)), (2, .ref a), (3, .int (iZ pa)), (4, .int (iZ tp))]) (by decide) rfl (Nat.le_of_ble_eq_true rfl) rfl (fun C F hr hnm hzl => ?_)
  subst hzl
  refine z_aload_n F 0 dX3_write_0 rfl ?_
  refine z_get F 0 2 iX3 rfl rfl (by decide) t1_65 rfl dX3_write_1 ?_
  refine z_iload_n F 1 dX3_write_4 rfl ?_
  refine z_iald F 3 rfl rfl dX3_write_5 (by omega) (by omega) ?_
  have r1 : 0 ≤ zc pl.toNat ∧ zc pl.toNat ≤ 6 := h4 _
  refine z_istore F (lv' := [(5, .int (iZ (zc pl.toNat))), (0, .ref y), (1, .int (iZ pl)), (2, .ref a), (3, .int (iZ pa)), (4, .int (iZ tp))]) dX3_write_6 (by decide) rfl ?_
  refine z_iconst F dX3_write_8 ?_
  refine z_istore F (lv' := [(6, .int (iZ 0)), (5, .int (iZ (zc pl.toNat))), (0, .ref y), (1, .int (iZ pl)), (2, .ref a), (3, .int (iZ pa)), (4, .int (iZ tp))]) dX3_write_9 (by decide) rfl ?_
  have lp11 : ∀ (nn11 : Nat) (i : Int) (w : Nat → Int), (0 ≤ i ∧ i ≤ 32) → (rng (-128) 127 w) → ((32 - i : Int).toNat < nn11) → Go C { frames := 2, cells := 0, slots := 0, locals := 49 } D cls5 7 0 0 [oX3 y yk yn yc ya yd yl lp re wp lw, aI K yk np zk, aI K yn np zn, aI K yc np zc, aI K ya na za, aL K yd np fd, aB K a n w] 11 [(6, .int (iZ i)), (5, .int (iZ (zc pl.toNat))), (0, .ref y), (1, .int (iZ pl)), (2, .ref a), (3, .int (iZ pa)), (4, .int (iZ tp))] [] := by
    intro nn11
    induction nn11 with
    | zero => intro i w g11_0 g11_1 hmu11; exact absurd hmu11 (Nat.not_lt_zero _)
    | succ nn11 ih11 =>
      intro i w g11_0 g11_1 hmu11
      refine z_iload F 0 dX3_write_11 rfl ?_
      refine z_bipush F dX3_write_13 (by decide) ?_
      refine z_icmp_ge F 31 dX3_write_15 (by decide) (by omega) (fun c2 => ?_) (fun c2 => ?_)
      · refine z_aload_n F 4 dX3_write_31 rfl ?_
        refine z_iload_n F 5 dX3_write_32 rfl ?_
        refine z_aload_n F 2 dX3_write_33 rfl ?_
        refine z_get F 0 0 iX3 rfl rfl (by decide) t1_63 rfl dX3_write_34 ?_
        refine z_iload_n F 3 dX3_write_37 rfl ?_
        refine z_iald F 1 rfl rfl dX3_write_38 (by omega) (by omega) ?_
        refine z_i2b F dX3_write_39 ?_
        refine z_bast F (ws' := [oX3 y yk yn yc ya yd yl lp re wp lw, aI K yk np zk, aI K yn np zn, aI K yc np zc, aI K ya na za, aL K yd np fd, aB K a n (zu w pa.toNat (((zk pl.toNat).bmod 256).bmod 256))]) 6 rfl rfl dX3_write_40 (by omega) (by omega) rfl ?_
        have r3 : rng (-128) 127 (zu w pa.toNat (((zk pl.toNat).bmod 256).bmod 256)) := rng_zu g11_1 (bm_r _)
        refine z_aload_n F 4 dX3_write_41 rfl ?_
        refine z_iload_n F 5 dX3_write_42 rfl ?_
        refine z_iconst F dX3_write_43 ?_
        refine z_iadd F dX3_write_44 ?_
        refine z_aload_n F 2 dX3_write_45 rfl ?_
        refine z_get F 0 1 iX3 rfl rfl (by decide) t1_64 rfl dX3_write_46 ?_
        refine z_iload_n F 3 dX3_write_49 rfl ?_
        refine z_iald F 2 rfl rfl dX3_write_50 (by omega) (by omega) ?_
        refine z_i2b F dX3_write_51 ?_
        refine z_bast F (ws' := [oX3 y yk yn yc ya yd yl lp re wp lw, aI K yk np zk, aI K yn np zn, aI K yc np zc, aI K ya na za, aL K yd np fd, aB K a n (zu (zu w pa.toNat (((zk pl.toNat).bmod 256).bmod 256)) (pa + 1).toNat (((zn pl.toNat).bmod 256).bmod 256))]) 6 rfl rfl dX3_write_52 (by omega) (by omega) rfl ?_
        have r4 : rng (-128) 127 (zu (zu w pa.toNat (((zk pl.toNat).bmod 256).bmod 256)) (pa + 1).toNat (((zn pl.toNat).bmod 256).bmod 256)) := rng_zu r3 (bm_r _)
        refine z_aload_n F 4 dX3_write_53 rfl ?_
        refine z_iload_n F 5 dX3_write_54 rfl ?_
        refine z_iconst F dX3_write_55 ?_
        refine z_iadd F dX3_write_56 ?_
        refine z_iload F 1 dX3_write_57 rfl ?_
        refine z_i2b F dX3_write_59 ?_
        refine z_bast F (ws' := [oX3 y yk yn yc ya yd yl lp re wp lw, aI K yk np zk, aI K yn np zn, aI K yc np zc, aI K ya na za, aL K yd np fd, aB K a n (zu (zu (zu w pa.toNat (((zk pl.toNat).bmod 256).bmod 256)) (pa + 1).toNat (((zn pl.toNat).bmod 256).bmod 256)) (pa + 2).toNat (((zc pl.toNat).bmod 256).bmod 256))]) 6 rfl rfl dX3_write_60 (by omega) (by omega) rfl ?_
        have r5 : rng (-128) 127 (zu (zu (zu w pa.toNat (((zk pl.toNat).bmod 256).bmod 256)) (pa + 1).toNat (((zn pl.toNat).bmod 256).bmod 256)) (pa + 2).toNat (((zc pl.toNat).bmod 256).bmod 256)) := rng_zu r4 (bm_r _)
        refine z_iconst F dX3_write_61 ?_
        refine z_istore F (lv' := [(6, .int (iZ 0)), (5, .int (iZ (zc pl.toNat))), (0, .ref y), (1, .int (iZ pl)), (2, .ref a), (3, .int (iZ pa)), (4, .int (iZ tp))]) dX3_write_62 (by decide) rfl ?_
        have lp64 : ∀ (nn64 : Nat) (i : Int) (w : Nat → Int), (0 ≤ i ∧ i ≤ zc pl.toNat) → (rng (-128) 127 w) → ((zc pl.toNat - i : Int).toNat < nn64) → Go C { frames := 2, cells := 0, slots := 0, locals := 49 } D cls5 7 0 0 [oX3 y yk yn yc ya yd yl lp re wp lw, aI K yk np zk, aI K yn np zn, aI K yc np zc, aI K ya na za, aL K yd np fd, aB K a n w] 64 [(6, .int (iZ i)), (5, .int (iZ (zc pl.toNat))), (0, .ref y), (1, .int (iZ pl)), (2, .ref a), (3, .int (iZ pa)), (4, .int (iZ tp))] [] := by
          intro nn64
          induction nn64 with
          | zero => intro i w g64_0 g64_1 hmu64; exact absurd hmu64 (Nat.not_lt_zero _)
          | succ nn64 ih64 =>
            intro i w g64_0 g64_1 hmu64
            refine z_iload F 0 dX3_write_64 rfl ?_
            refine z_iload F 1 dX3_write_66 rfl ?_
            refine z_icmp_ge F 93 dX3_write_68 (by decide) (by omega) (fun c6 => ?_) (fun c6 => ?_)
            · refine z_aload_n F 4 dX3_write_93 rfl ?_
              refine z_iload_n F 5 dX3_write_94 rfl ?_
              refine z_bipush F dX3_write_95 (by decide) ?_
              refine z_iadd F dX3_write_97 ?_
              refine z_bipush F dX3_write_98 (by decide) ?_
              refine z_aload_n F 2 dX3_write_100 rfl ?_
              refine z_get F 0 4 iX3 rfl rfl (by decide) t1_67 rfl dX3_write_101 ?_
              refine z_iload_n F 3 dX3_write_104 rfl ?_
              refine z_lald F 5 rfl rfl dX3_write_105 (by omega) (by omega) ?_
              refine z_callS F lw_good (k_X2_write _ D K a n w (pa + 16) 8 (fd pl.toNat) (by omega) g64_1) t2_36 t1_8 t2_78 t2_35 ⟨rfl, rfl⟩ ndX2_write ⟨Nat.le_of_ble_eq_true rfl, Nat.le_of_ble_eq_true rfl⟩ (rest := []) rfl (Nat.le_of_ble_eq_true rfl) dX3_write_106 ⟨(show 0 + 0 ≤ 0 by omega), (show 0 + 0 ≤ 0 by omega)⟩ (wr := [oX3 y yk yn yc ya yd yl lp re wp lw, aI K yk np zk, aI K yn np zn, aI K yc np zc, aI K ya na za, aL K yd np fd]) ([6] : List Nat) ([0, 1, 2, 3, 4, 5] : List Nat) rfl rfl rfl rfl (by decide) (fun vr wo hp => ?_)
              obtain ⟨z2_7, rfl, rfl, f8⟩ := hp
              refine z_re F (ws' := [oX3 y yk yn yc ya yd yl lp re wp lw, aI K yk np zk, aI K yn np zn, aI K yc np zc, aI K ya na za, aL K yd np fd, aB K a n z2_7]) (st' := []) ([0, 1, 2, 3, 4, 5, 6] : List Nat) rfl rfl rfl ?_
              refine z_aload_n F 4 dX3_write_109 rfl ?_
              refine z_iload_n F 5 dX3_write_110 rfl ?_
              refine z_bipush F dX3_write_111 (by decide) ?_
              refine z_iload F 6 dX3_write_113 rfl ?_
              refine z_callS F lw_good (k_X2_writeSum _ D K a n z2_7 pa 28 tp (by omega) f8) t2_39 t1_8 t2_79 t2_38 ⟨rfl, rfl⟩ ndX2_writeSum ⟨Nat.le_of_ble_eq_true rfl, Nat.le_of_ble_eq_true rfl⟩ (rest := []) rfl (Nat.le_of_ble_eq_true rfl) dX3_write_115 ⟨(show 0 + 0 ≤ 0 by omega), (show 0 + 0 ≤ 0 by omega)⟩ (wr := [oX3 y yk yn yc ya yd yl lp re wp lw, aI K yk np zk, aI K yn np zn, aI K yc np zc, aI K ya na za, aL K yd np fd]) ([6] : List Nat) ([0, 1, 2, 3, 4, 5] : List Nat) rfl rfl rfl rfl (by decide) (fun vr wo hp => ?_)
              obtain ⟨z2_9, rfl, rfl, f10⟩ := hp
              refine z_re F (ws' := [oX3 y yk yn yc ya yd yl lp re wp lw, aI K yk np zk, aI K yn np zn, aI K yc np zc, aI K ya na za, aL K yd np fd, aB K a n z2_9]) (st' := []) ([0, 1, 2, 3, 4, 5, 6] : List Nat) rfl rfl rfl ?_
              exact z_vret F hr dX3_write_118 (by omega) ⟨z2_9, rfl, rfl, f10⟩
            · refine z_aload_n F 4 dX3_write_71 rfl ?_
              refine z_iload_n F 5 dX3_write_72 rfl ?_
              refine z_iconst F dX3_write_73 ?_
              refine z_iadd F dX3_write_74 ?_
              refine z_iload F 0 dX3_write_75 rfl ?_
              refine z_iadd F dX3_write_77 ?_
              refine z_aload_n F 2 dX3_write_78 rfl ?_
              refine z_iload_n F 3 dX3_write_79 rfl ?_
              refine z_iload F 0 dX3_write_80 rfl ?_
              refine z_callV F lw_good (k_X3_askAt _ D K y yk yn yc ya yd yl lp re wp lw na za pl i (by omega)) t2_77 t1_4 t2_74 t2_75 (q := (RX3, TX3, 10)) t2_76 ⟨rfl, rfl⟩ ndX3_askAt ⟨Nat.le_of_ble_eq_true rfl, Nat.le_of_ble_eq_true rfl⟩ 0 rfl rfl (rest := [.int (iZ ((pa + 3) + i)), .ref a]) rfl (Nat.le_of_ble_eq_true rfl) dX3_write_82 ⟨(show 0 + 0 ≤ 0 by omega), (show 0 + 0 ≤ 0 by omega)⟩ (wr := [aI K yk np zk, aI K yn np zn, aI K yc np zc, aL K yd np fd, aB K a n w]) ([0, 4] : List Nat) ([1, 2, 3, 5, 6] : List Nat) rfl rfl rfl rfl (by decide) (fun vr wo hp => ?_)
              obtain ⟨rfl, rfl⟩ := hp
              refine z_re F (ws' := [oX3 y yk yn yc ya yd yl lp re wp lw, aI K yk np zk, aI K yn np zn, aI K yc np zc, aI K ya na za, aL K yd np fd, aB K a n w]) (st' := [.int (iZ (za ((pl * 6) + i).toNat)), .int (iZ ((pa + 3) + i)), .ref a]) ([5, 0, 1, 2, 6, 3, 4] : List Nat) rfl rfl rfl ?_
              refine z_i2b F dX3_write_85 ?_
              refine z_bast F (ws' := [oX3 y yk yn yc ya yd yl lp re wp lw, aI K yk np zk, aI K yn np zn, aI K yc np zc, aI K ya na za, aL K yd np fd, aB K a n (zu w ((pa + 3) + i).toNat (((za ((pl * 6) + i).toNat).bmod 256).bmod 256))]) 6 rfl rfl dX3_write_86 (by omega) (by omega) rfl ?_
              have r11 : rng (-128) 127 (zu w ((pa + 3) + i).toNat (((za ((pl * 6) + i).toNat).bmod 256).bmod 256)) := rng_zu g64_1 (bm_r _)
              refine z_iinc F (lv' := [(6, .int (iZ (i + 1))), (5, .int (iZ (zc pl.toNat))), (0, .ref y), (1, .int (iZ pl)), (2, .ref a), (3, .int (iZ pa)), (4, .int (iZ tp))]) 0 dX3_write_87 rfl (by decide) rfl ?_
              refine z_goto F 64 dX3_write_90 (by decide) ?_
              exact ih64 (i + 1) (zu w ((pa + 3) + i).toNat (((za ((pl * 6) + i).toNat).bmod 256).bmod 256)) (by omega) r11 (by omega)
        exact lp64 ((zc pl.toNat - 0 : Int).toNat + 1) 0 (zu (zu (zu w pa.toNat (((zk pl.toNat).bmod 256).bmod 256)) (pa + 1).toNat (((zn pl.toNat).bmod 256).bmod 256)) (pa + 2).toNat (((zc pl.toNat).bmod 256).bmod 256)) (by omega) r5 (Nat.lt_succ_self _)
      · refine z_aload_n F 4 dX3_write_18 rfl ?_
        refine z_iload_n F 5 dX3_write_19 rfl ?_
        refine z_iload F 0 dX3_write_20 rfl ?_
        refine z_iadd F dX3_write_22 ?_
        refine z_iconst F dX3_write_23 ?_
        refine z_bast F (ws' := [oX3 y yk yn yc ya yd yl lp re wp lw, aI K yk np zk, aI K yn np zn, aI K yc np zc, aI K ya na za, aL K yd np fd, aB K a n (zu w (pa + i).toNat ((0 : Int).bmod 256))]) 6 rfl rfl dX3_write_24 (by omega) (by omega) rfl ?_
        have r12 : rng (-128) 127 (zu w (pa + i).toNat ((0 : Int).bmod 256)) := rng_zu g11_1 (bm_r _)
        refine z_iinc F (lv' := [(6, .int (iZ (i + 1))), (5, .int (iZ (zc pl.toNat))), (0, .ref y), (1, .int (iZ pl)), (2, .ref a), (3, .int (iZ pa)), (4, .int (iZ tp))]) 0 dX3_write_25 rfl (by decide) rfl ?_
        refine z_goto F 11 dX3_write_28 (by decide) ?_
        exact ih11 (i + 1) (zu w (pa + i).toNat ((0 : Int).bmod 256)) (by omega) r12 (by omega)
  exact lp11 ((32 - 0 : Int).toNat + 1) 0 z (by omega) h3 (Nat.lt_succ_self _)
