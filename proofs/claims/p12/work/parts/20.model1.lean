def numF (z : Nat → Int) (fr : Int) : Nat → Int32
  | 0 => iZ 0
  | k + 1 => (numF z fr k <<< (iZ 8 &&& 31)) ||| iZ (z (fr + (k : Int)).toNat)
theorem numF_0 {z : Nat → Int} {fr : Int} : ∀ {c : Nat}, (∀ j : Nat, j < 512 → z j = 0) → (0 ≤ fr ∧ fr + c ≤ 512) → numF z fr c = iZ 0 := by
  intro c hz
  induction c with
  | zero => intro _; rfl
  | succ k ih =>
    intro h
    show (numF z fr k <<< (iZ 8 &&& 31)) ||| iZ (z (fr + (k : Int)).toNat) = iZ 0
    rw [ih (by omega), hz _ (by omega)]
    decide
theorem l255 {x : Int64} {b : Int} (hb : -2147483648 ≤ b ∧ b ≤ 2147483647) (e : (x &&& 255).toInt32 = iZ b) : 0 ≤ b ∧ b ≤ 255 := by
  have h1 : (x &&& 255).toInt32.toInt = b := by rw [e]; exact iZ_toInt hb
  have h2 : (x &&& 255).toBitVec.toNat ≤ 255 := by
    show (x.toBitVec &&& (255 : Int64).toBitVec).toNat ≤ 255
    rw [BitVec.toNat_and]
    exact Nat.le_trans Nat.and_le_right (by decide)
  have h3 : (x &&& 255).toInt = ((x &&& 255).toBitVec.toNat : Int) := by
    show (x &&& 255).toBitVec.toInt = _
    rw [BitVec.toInt_eq_toNat_of_lt (by omega)]
  rw [Int64.toInt_toInt32, h3] at h1
  rw [Int.bmod_eq_of_le (by omega) (by omega)] at h1
  omega
theorem xor255 {a m b : Int} (ha : 0 ≤ a ∧ a ≤ 255) (hm : 0 ≤ m ∧ m ≤ 255) (hb : -2147483648 ≤ b ∧ b ≤ 2147483647) (e : iZ a ^^^ iZ m = iZ b) : 0 ≤ b ∧ b ≤ 255 := by
  obtain ⟨a', rfl⟩ := Int.eq_ofNat_of_zero_le ha.1
  obtain ⟨m', rfl⟩ := Int.eq_ofNat_of_zero_le hm.1
  have h1 : (iZ b).toBitVec = (iZ a').toBitVec ^^^ (iZ m').toBitVec := by rw [← e]; rfl
  have h2 : (iZ b).toBitVec.toNat = a' ^^^ m' := by
    rw [h1, BitVec.toNat_xor]
    have t1 : (iZ (a' : Int)).toBitVec.toNat = a' := by rw [← iZ_nat]; exact pk_tn (by omega)
    have t2 : (iZ (m' : Int)).toBitVec.toNat = m' := by rw [← iZ_nat]; exact pk_tn (by omega)
    rw [t1, t2]
  have h3 : a' ^^^ m' < 2 ^ 8 := Nat.xor_lt_two_pow (by omega) (by omega)
  have h4 : (iZ b).toBitVec.toInt = b := iZ_toInt hb
  rw [BitVec.toInt_eq_toNat_of_lt (by omega), h2] at h4
  omega
theorem xor0_z {s : Int} (rs : -2147483648 ≤ s ∧ s ≤ 2147483647) (e : iZ s ^^^ iZ 0 = iZ 0) : s = 0 := by
  have h : iZ s = iZ 0 := by rw [← e, show iZ 0 = (0 : Int32) from rfl]; simp
  exact (iZ_eq ⟨rs, by decide⟩).mp h
theorem mul_nz {r v : Int} (hr : ¬ r = 0) (rr : -2147483648 ≤ r ∧ r ≤ 2147483647) (rv : -2147483648 ≤ v ∧ v ≤ 2147483647) (ev : iZ (r * (-2048144777)) = iZ v) : ¬ v = 0 := by
  intro q
  apply hr
  rw [q] at ev
  have h5 : iZ r * iZ (-2048144777) = 0 := by rw [iZ_mul]; exact ev
  have h6 : iZ (-2048144777) * iZ (-1228329145) = 1 := by decide
  have h7 : iZ r = 0 := by
    calc iZ r = iZ r * (iZ (-2048144777) * iZ (-1228329145)) := by rw [h6, Int32.mul_one]
      _ = (iZ r * iZ (-2048144777)) * iZ (-1228329145) := by rw [Int32.mul_assoc]
      _ = 0 := by rw [h5, Int32.zero_mul]
  exact (iZ_eq (a := r) (b := 0) ⟨rr, by decide⟩).mp h7
def rowN (z : Nat → Int) (q : Int) : Prop := (1 ≤ z q.toNat ∧ z q.toNat ≤ 3) ∧ (0 ≤ z (q + 2).toNat ∧ z (q + 2).toNat ≤ 6) ∧ ∀ j : Nat, (j : Int) < z (q + 2).toNat → 0 ≤ z (q + 3 + j).toNat ∧ z (q + 3 + j).toNat ≤ 63
theorem akOk_at6 {zc za : Nat → Int} {p i : Int} (h : akOk zc za) (hp : 0 ≤ p) (hi : 0 ≤ i) (hl : i < zc p.toNat) : 0 ≤ za ((6 * p) + i).toNat ∧ za ((6 * p) + i).toNat ≤ 63 := by
  rw [show (6 * p) + i = (p * 6) + i by omega]
  exact akOk_at h hp hi hl
theorem akOk_add6 {zc za : Nat → Int} {p k : Int} (h : akOk zc za) (hr : rng 0 6 zc) (hp : 0 ≤ p) (hk : 0 ≤ k ∧ k ≤ 63) (hc : zc p.toNat ≤ 5) : akOk (zu zc p.toNat (zc p.toNat + 1)) (zu za ((6 * p) + (zc p.toNat)).toNat k) := by
  rw [show (6 * p) + (zc p.toNat) = (p * 6) + (zc p.toNat) by omega]
  exact akOk_add h hr hp hk hc
theorem akOk_read {mz az mv av z : Nat → Int} {q p : Int} (hp : 0 ≤ p) (h : akOk mz az) (hr : rng 0 6 mz) (h1 : ∀ j : Nat, ¬ (j : Int) = p → mv j = mz j) (h2 : ∀ j : Nat, (j : Int) < mv p.toNat → 0 ≤ z (q + 3 + j).toNat ∧ z (q + 3 + j).toNat ≤ 63) (h3 : ∀ r j : Nat, j < 6 → ¬ (r : Int) = p → av (6 * r + j) = az (6 * r + j)) (h4 : ∀ j : Nat, (j : Int) < mv p.toNat → av (6 * p.toNat + j) = z (q + 3 + j).toNat) (_ : mv p.toNat ≤ 6) : akOk mv av := fun r j hj => by
  by_cases e : r = p.toNat
  · subst e
    rw [h4 j hj]; exact h2 j hj
  · have e1 : ¬ (r : Int) = p := by omega
    rw [h1 r e1] at hj
    have := hr r
    rw [h3 r j (by omega) e1]; exact h r j hj
set_option maxHeartbeats 4000000 in
set_option maxRecDepth 20000 in
theorem k_X6_isKey (l : Launch) (D : va_G) (K : KI) (k : Int) (h0 : -2147483648 ≤ k ∧ k ≤ 2147483647) : Ct lw_T l yX6_isKey cX6_isKey 1 (some .boolean) { frames := 0, cells := 0, slots := 0, locals := 0 } 0 0 D cls5 (TY K) [.int (iZ k)] [] (fun vr wo => ∃ (r : Int), vr = some (.int (iZ r)) ∧ wo = [] ∧ ((r = 1 ∧ 0 ≤ k ∧ k ≤ 63) ∨ (r = 0 ∧ ¬ (0 ≤ k ∧ k ≤ 63)))) := by
  refine ct_of (own := RX6) (lv := [(0, .int (iZ k))]) (by decide) rfl (Nat.le_of_ble_eq_true rfl) rfl (fun C F hr hnm hzl => ?_)
  subst hzl
  refine z_iload_n F 0 dX6_isKey_0 rfl ?_
  refine z_if_lt F 14 dX6_isKey_1 (by decide) (by omega) (fun c1 => ?_) (fun c1 => ?_)
  · refine z_iconst F dX6_isKey_14 ?_
    exact z_zret F hr (by decide) dX6_isKey_15 (by omega) ⟨0, rfl, rfl, (by omega)⟩
  · refine z_iload_n F 0 dX6_isKey_4 rfl ?_
    refine z_bipush F dX6_isKey_5 (by decide) ?_
    refine z_icmp_ge F 14 dX6_isKey_7 (by decide) (by omega) (fun c2 => ?_) (fun c2 => ?_)
    · refine z_iconst F dX6_isKey_14 ?_
      exact z_zret F hr (by decide) dX6_isKey_15 (by omega) ⟨0, rfl, rfl, (by omega)⟩
    · refine z_iconst F dX6_isKey_10 ?_
      refine z_goto F 15 dX6_isKey_11 (by decide) ?_
      exact z_zret F hr (by decide) dX6_isKey_15 (by omega) ⟨1, rfl, rfl, (by omega)⟩
set_option maxHeartbeats 4000000 in
set_option maxRecDepth 20000 in
theorem k_X6_isUser (l : Launch) (D : va_G) (K : KI) (k : Int) (h0 : -2147483648 ≤ k ∧ k ≤ 2147483647) : Ct lw_T l yX6_isUser cX6_isUser 1 (some .boolean) { frames := 0, cells := 0, slots := 0, locals := 0 } 0 0 D cls5 (TY K) [.int (iZ k)] [] (fun vr wo => ∃ (r : Int), vr = some (.int (iZ r)) ∧ wo = [] ∧ ((r = 1 ∧ 0 ≤ k ∧ k ≤ 7) ∨ (r = 0 ∧ ¬ (0 ≤ k ∧ k ≤ 7)))) := by
  refine ct_of (own := RX6) (lv := [(0, .int (iZ k))]) (by decide) rfl (Nat.le_of_ble_eq_true rfl) rfl (fun C F hr hnm hzl => ?_)
  subst hzl
  refine z_iload_n F 0 dX6_isUser_0 rfl ?_
  refine z_if_lt F 14 dX6_isUser_1 (by decide) (by omega) (fun c1 => ?_) (fun c1 => ?_)
  · refine z_iconst F dX6_isUser_14 ?_
    exact z_zret F hr (by decide) dX6_isUser_15 (by omega) ⟨0, rfl, rfl, (by omega)⟩
  · refine z_iload_n F 0 dX6_isUser_4 rfl ?_
    refine z_bipush F dX6_isUser_5 (by decide) ?_
    refine z_icmp_ge F 14 dX6_isUser_7 (by decide) (by omega) (fun c2 => ?_) (fun c2 => ?_)
    · refine z_iconst F dX6_isUser_14 ?_
      exact z_zret F hr (by decide) dX6_isUser_15 (by omega) ⟨0, rfl, rfl, (by omega)⟩
    · refine z_iconst F dX6_isUser_10 ?_
      refine z_goto F 15 dX6_isUser_11 (by decide) ?_
      exact z_zret F hr (by decide) dX6_isUser_15 (by omega) ⟨1, rfl, rfl, (by omega)⟩
set_option maxHeartbeats 4000000 in
set_option maxRecDepth 20000 in
theorem k_X6_bring (l : Launch) (D : va_G) (K : KI) (o : Nat) (th : Int) (se : Int) (ea : Int) (dk : Nat) (wt : Nat) (wh : Nat) (wc : Int) (nw : Nat) (ru : Int) (ed : Int) (wa : Int) (sq : Int) (ar : Int) (en : Int) (sd : Int) (wg : Int) (tk : Int) (cp : Int) (co : Int) (ki : Nat) (ke : Nat) (mn : Nat) (ak : Nat) (dg : Nat) (uk : Nat) (ud : Nat) (zd : Nat → Int) (zw : Nat → Int) (zh : Nat → Int) (k : Int) (n : Int) (h0 : 4 ≤ se ∧ se ≤ 40) (h1 : 0 ≤ k ∧ k ≤ 63 ∧ 0 ≤ n ∧ n ≤ 512) (h2 : rng 0 255 zd) (h3 : rng 0 255 zw) (h4 : rng 0 (se-1) zh) : Ct lw_T l yX6_bring cX6_bring 4 none { frames := 0, cells := 0, slots := 0, locals := 0 } 0 0 D cls5 (TY K) [.ref o, .int (iZ k), .int (iZ n)] [oX6 o th se ea dk wt wh wc nw ru ed wa sq ar en sd wg tk cp co ki ke mn ak dg uk ud, aI K dk 20480 zd, aI K wt 32768 zw, aI K wh 64 zh] (fun vr wo => ∃ (zd2 : Nat → Int), vr = none ∧ wo = [oX6 o th se ea dk wt wh wc nw ru ed wa sq ar en sd wg tk cp co ki ke mn ak dg uk ud, aI K dk 20480 zd2, aI K wt 32768 zw, aI K wh 64 zh] ∧ (rng 0 255 zd2)) := by
  refine ct_of (own := RX6) (lv := [(0, .ref o), (1, .int (iZ k)), (2, .int (iZ n))]) (by decide) rfl (Nat.le_of_ble_eq_true rfl) rfl (fun C F hr hnm hzl => ?_)
  subst hzl
  refine z_iconst F dX6_bring_0 ?_
  refine z_istore_n F (lv' := [(3, .int (iZ 0)), (0, .ref o), (1, .int (iZ k)), (2, .int (iZ n))]) dX6_bring_1 (by decide) rfl ?_
  have lp2 : ∀ (nn2 : Nat) (i : Int) (w : Nat → Int), (0 ≤ i ∧ i ≤ n) → (rng 0 255 w) → ((n - i : Int).toNat < nn2) → Go C { frames := 0, cells := 0, slots := 0, locals := 0 } D cls5 4 0 0 [oX6 o th se ea dk wt wh wc nw ru ed wa sq ar en sd wg tk cp co ki ke mn ak dg uk ud, aI K dk 20480 w, aI K wt 32768 zw, aI K wh 64 zh] 2 [(3, .int (iZ i)), (0, .ref o), (1, .int (iZ k)), (2, .int (iZ n))] [] := by
    intro nn2
    induction nn2 with
    | zero => intro i w g2_0 g2_1 hmu2; exact absurd hmu2 (Nat.not_lt_zero _)
    | succ nn2 ih2 =>
      intro i w g2_0 g2_1 hmu2
      refine z_iload_n F 0 dX6_bring_2 rfl ?_
      refine z_iload_n F 3 dX6_bring_3 rfl ?_
      refine z_icmp_ge F 42 dX6_bring_4 (by decide) (by omega) (fun c1 => ?_) (fun c1 => ?_)
      · exact z_vret F hr dX6_bring_42 (by omega) ⟨w, rfl, rfl, g2_1⟩
      · refine z_aload_n F 1 dX6_bring_7 rfl ?_
        refine z_get F 0 3 iX6 rfl rfl (by decide) t3_79 rfl dX6_bring_8 ?_
        refine z_sipush F dX6_bring_11 (by decide) ?_
        refine z_aload_n F 1 dX6_bring_14 rfl ?_
        refine z_get F 0 5 iX6 rfl rfl (by decide) t3_81 rfl dX6_bring_15 ?_
        refine z_iload_n F 2 dX6_bring_18 rfl ?_
        refine z_iald F 3 rfl rfl dX6_bring_19 (by omega) (by omega) ?_
        have r2 : 0 ≤ zh k.toNat ∧ zh k.toNat ≤ (se-1) := h4 _
        refine z_imul F dX6_bring_20 ?_
        refine z_iload_n F 0 dX6_bring_21 rfl ?_
        refine z_iadd F dX6_bring_22 ?_
        refine z_aload_n F 1 dX6_bring_23 rfl ?_
        refine z_get F 0 4 iX6 rfl rfl (by decide) t3_80 rfl dX6_bring_24 ?_
        refine z_sipush F dX6_bring_27 (by decide) ?_
        refine z_iload_n F 2 dX6_bring_30 rfl ?_
        refine z_imul F dX6_bring_31 ?_
        refine z_iload_n F 0 dX6_bring_32 rfl ?_
        refine z_iadd F dX6_bring_33 ?_
        refine z_iald F 2 rfl rfl dX6_bring_34 (by omega) (by omega) ?_
        have r3 : 0 ≤ zw ((512 * k) + i).toNat ∧ zw ((512 * k) + i).toNat ≤ 255 := h3 _
        refine z_iast F (ws' := [oX6 o th se ea dk wt wh wc nw ru ed wa sq ar en sd wg tk cp co ki ke mn ak dg uk ud, aI K dk 20480 (zu w ((512 * (zh k.toNat)) + i).toNat (zw ((512 * k) + i).toNat)), aI K wt 32768 zw, aI K wh 64 zh]) 1 rfl rfl dX6_bring_35 (by omega) (by omega) rfl ?_
        have r4 : rng 0 255 (zu w ((512 * (zh k.toNat)) + i).toNat (zw ((512 * k) + i).toNat)) := rng_zu g2_1 (by omega)
        refine z_iinc F (lv' := [(3, .int (iZ (i + 1))), (0, .ref o), (1, .int (iZ k)), (2, .int (iZ n))]) 0 dX6_bring_36 rfl (by decide) rfl ?_
        refine z_goto F 2 dX6_bring_39 (by decide) ?_
        exact ih2 (i + 1) (zu w ((512 * (zh k.toNat)) + i).toNat (zw ((512 * k) + i).toNat)) (by omega) r4 (by omega)
  exact lp2 ((n - 0 : Int).toNat + 1) 0 zd (by omega) h2 (Nat.lt_succ_self _)
set_option maxHeartbeats 4000000 in
set_option maxRecDepth 20000 in
theorem k_X6_bringAll (l : Launch) (D : va_G) (K : KI) (o : Nat) (th : Int) (se : Int) (ea : Int) (dk : Nat) (wt : Nat) (wh : Nat) (wc : Int) (nw : Nat) (ru : Int) (ed : Int) (wa : Int) (sq : Int) (ar : Int) (en : Int) (sd : Int) (wg : Int) (tk : Int) (cp : Int) (co : Int) (ki : Nat) (ke : Nat) (mn : Nat) (ak : Nat) (dg : Nat) (uk : Nat) (ud : Nat) (zd : Nat → Int) (zw : Nat → Int) (zh : Nat → Int) (h0 : 4 ≤ se ∧ se ≤ 40) (h1 : 0 ≤ wc ∧ wc ≤ 64) (h2 : rng 0 255 zd) (h3 : rng 0 255 zw) (h4 : rng 0 (se-1) zh) : Ct lw_T l yX6_bringAll cX6_bringAll 2 none { frames := 1, cells := 0, slots := 0, locals := 23 } 0 0 D cls5 (TY K) [.ref o] [oX6 o th se ea dk wt wh wc nw ru ed wa sq ar en sd wg tk cp co ki ke mn ak dg uk ud, aI K dk 20480 zd, aI K wt 32768 zw, aI K wh 64 zh] (fun vr wo => ∃ (zd2 : Nat → Int), vr = none ∧ wo = [oX6 o th se ea dk wt wh 0 nw ru ed wa sq ar en sd wg tk cp co ki ke mn ak dg uk ud, aI K dk 20480 zd2, aI K wt 32768 zw, aI K wh 64 zh] ∧ (rng 0 255 zd2)) := by
  refine ct_of (own := RX6) (lv := [(0, .ref o)]) (by decide) rfl (Nat.le_of_ble_eq_true rfl) rfl (fun C F hr hnm hzl => ?_)
  subst hzl
  refine z_iconst F dX6_bringAll_0 ?_
  refine z_istore_n F (lv' := [(1, .int (iZ 0)), (0, .ref o)]) dX6_bringAll_1 (by decide) rfl ?_
  have lp2 : ∀ (nn2 : Nat) (i : Int) (w : Nat → Int), (0 ≤ i ∧ i ≤ wc) → (rng 0 255 w) → ((wc - i : Int).toNat < nn2) → Go C { frames := 1, cells := 0, slots := 0, locals := 23 } D cls5 2 0 0 [oX6 o th se ea dk wt wh wc nw ru ed wa sq ar en sd wg tk cp co ki ke mn ak dg uk ud, aI K dk 20480 w, aI K wt 32768 zw, aI K wh 64 zh] 2 [(1, .int (iZ i)), (0, .ref o)] [] := by
    intro nn2
    induction nn2 with
    | zero => intro i w g2_0 g2_1 hmu2; exact absurd hmu2 (Nat.not_lt_zero _)
    | succ nn2 ih2 =>
      intro i w g2_0 g2_1 hmu2
      refine z_iload_n F 0 dX6_bringAll_2 rfl ?_
      refine z_aload_n F 1 dX6_bringAll_3 rfl ?_
      refine z_get F 0 6 iX6 rfl rfl (by decide) t3_82 rfl dX6_bringAll_4 ?_
      refine z_icmp_ge F 24 dX6_bringAll_7 (by decide) (by omega) (fun c1 => ?_) (fun c1 => ?_)
      · refine z_aload_n F 1 dX6_bringAll_24 rfl ?_
        refine z_iconst F dX6_bringAll_25 ?_
        refine z_put F (ws' := [oX6 o th se ea dk wt wh 0 nw ru ed wa sq ar en sd wg tk cp co ki ke mn ak dg uk ud, aI K dk 20480 w, aI K wt 32768 zw, aI K wh 64 zh]) 0 6 iX6 tyX6 tyX6_ok nmX6 rfl rfl (by decide) t3_82 rfl rfl rfl rfl (Nat.le_of_ble_eq_true rfl) dX6_bringAll_26 rfl ?_
        exact z_vret F hr dX6_bringAll_29 (by omega) ⟨w, rfl, rfl, g2_1⟩
      · refine z_aload_n F 1 dX6_bringAll_10 rfl ?_
        refine z_iload_n F 0 dX6_bringAll_11 rfl ?_
        refine z_sipush F dX6_bringAll_12 (by decide) ?_
        refine z_callV F lw_good (k_X6_bring _ D K o th se ea dk wt wh wc nw ru ed wa sq ar en sd wg tk cp co ki ke mn ak dg uk ud w zw zh i 512 h0 (by omega) g2_1 h3 h4) t3_199 t1_6 t3_196 t3_198 (q := (RX6, TX6, 26)) ts_28 ⟨rfl, rfl⟩ ndX6_bring ⟨Nat.le_of_ble_eq_true rfl, Nat.le_of_ble_eq_true rfl⟩ 0 rfl rfl (rest := []) rfl (Nat.le_of_ble_eq_true rfl) dX6_bringAll_15 ⟨(show 0 + 0 ≤ 0 by omega), (show 0 + 0 ≤ 0 by omega)⟩ (wr := []) ([0, 1, 2, 3] : List Nat) ([] : List Nat) rfl rfl rfl rfl (by decide) (fun vr wo hp => ?_)
        obtain ⟨zd2_2, rfl, rfl, f3⟩ := hp
        refine z_re F (ws' := [oX6 o th se ea dk wt wh wc nw ru ed wa sq ar en sd wg tk cp co ki ke mn ak dg uk ud, aI K dk 20480 zd2_2, aI K wt 32768 zw, aI K wh 64 zh]) (st' := []) ([0, 1, 2, 3] : List Nat) rfl rfl rfl ?_
        refine z_iinc F (lv' := [(1, .int (iZ (i + 1))), (0, .ref o)]) 0 dX6_bringAll_18 rfl (by decide) rfl ?_
        refine z_goto F 2 dX6_bringAll_21 (by decide) ?_
        exact ih2 (i + 1) zd2_2 (by omega) f3 (by omega)
  exact lp2 ((wc - 0 : Int).toNat + 1) 0 zd (by omega) h2 (Nat.lt_succ_self _)
set_option maxHeartbeats 4000000 in
set_option maxRecDepth 20000 in
theorem k_X6_load (l : Launch) (D : va_G) (K : KI) (o : Nat) (th : Int) (se : Int) (ea : Int) (dk : Nat) (wt : Nat) (wh : Nat) (wc : Int) (nw : Nat) (ru : Int) (ed : Int) (wa : Int) (sq : Int) (ar : Int) (en : Int) (sd : Int) (wg : Int) (tk : Int) (cp : Int) (co : Int) (ki : Nat) (ke : Nat) (mn : Nat) (ak : Nat) (dg : Nat) (uk : Nat) (ud : Nat) (zd : Nat → Int) (zw : Nat → Int) (zh : Nat → Int) (zn : Nat → Int) (n : Int) (h0 : 4 ≤ se ∧ se ≤ 40) (h1 : 0 ≤ wc ∧ wc ≤ 64) (h2 : rng 0 255 zd) (h3 : rng 0 255 zw) (h4 : rng 0 (se-1) zh) (h5 : rng 0 255 zn) (h6 : 0 ≤ n ∧ n ≤ se - 1) : Ct lw_T l yX6_load cX6_load 4 none { frames := 0, cells := 0, slots := 0, locals := 0 } 0 0 D cls5 (TY K) [.ref o, .int (iZ n)] [oX6 o th se ea dk wt wh wc nw ru ed wa sq ar en sd wg tk cp co ki ke mn ak dg uk ud, aI K dk 20480 zd, aI K wt 32768 zw, aI K wh 64 zh, aI K nw 512 zn] (fun vr wo => ∃ (zn2 : Nat → Int), vr = none ∧ wo = [oX6 o th se ea dk wt wh wc nw ru ed wa sq ar en sd wg tk cp co ki ke mn ak dg uk ud, aI K dk 20480 zd, aI K wt 32768 zw, aI K wh 64 zh, aI K nw 512 zn2] ∧ (rng 0 255 zn2) ∧ (wc = 0 → ∀ j : Nat, j < 512 → zn2 j = zd (512 * n + j).toNat)) := by
  refine ct_of (own := RX6) (lv := [(0, .ref o), (1, .int (iZ n))]) (by decide) rfl (Nat.le_of_ble_eq_true rfl) rfl (fun C F hr hnm hzl => ?_)
  subst hzl
  refine z_iconst F dX6_load_0 ?_
  refine z_istore_n F (lv' := [(2, .int (iZ 0)), (0, .ref o), (1, .int (iZ n))]) dX6_load_1 (by decide) rfl ?_
  have lp2 : ∀ (nn2 : Nat) (i : Int) (w : Nat → Int), (0 ≤ i ∧ i ≤ 512) → (rng 0 255 w) → (∀ j : Nat, (j : Int) < i → w j = zd (512 * n + j).toNat) → ((512 - i : Int).toNat < nn2) → Go C { frames := 0, cells := 0, slots := 0, locals := 0 } D cls5 4 0 0 [oX6 o th se ea dk wt wh wc nw ru ed wa sq ar en sd wg tk cp co ki ke mn ak dg uk ud, aI K dk 20480 zd, aI K wt 32768 zw, aI K wh 64 zh, aI K nw 512 w] 2 [(2, .int (iZ i)), (0, .ref o), (1, .int (iZ n))] [] := by
    intro nn2
    induction nn2 with
    | zero => intro i w g2_0 g2_1 g2_2 hmu2; exact absurd hmu2 (Nat.not_lt_zero _)
    | succ nn2 ih2 =>
      intro i w g2_0 g2_1 g2_2 hmu2
      refine z_iload_n F 0 dX6_load_2 rfl ?_
      refine z_sipush F dX6_load_3 (by decide) ?_
      refine z_icmp_ge F 33 dX6_load_6 (by decide) (by omega) (fun c1 => ?_) (fun c1 => ?_)
      · refine z_iconst F dX6_load_33 ?_
        refine z_istore_n F (lv' := [(2, .int (iZ 0)), (0, .ref o), (1, .int (iZ n))]) dX6_load_34 (by decide) rfl ?_
        have lp35 : ∀ (nn35 : Nat) (i : Int) (w : Nat → Int), (0 ≤ i ∧ i ≤ wc) → (rng 0 255 w) → (wc = 0 → ∀ j : Nat, j < 512 → w j = zd (512 * n + j).toNat) → ((wc - i : Int).toNat < nn35) → Go C { frames := 0, cells := 0, slots := 0, locals := 0 } D cls5 4 0 0 [oX6 o th se ea dk wt wh wc nw ru ed wa sq ar en sd wg tk cp co ki ke mn ak dg uk ud, aI K dk 20480 zd, aI K wt 32768 zw, aI K wh 64 zh, aI K nw 512 w] 35 [(2, .int (iZ i)), (0, .ref o), (1, .int (iZ n))] [] := by
          intro nn35
          induction nn35 with
          | zero => intro i w g35_0 g35_1 g35_2 hmu35; exact absurd hmu35 (Nat.not_lt_zero _)
          | succ nn35 ih35 =>
            intro i w g35_0 g35_1 g35_2 hmu35
            refine z_iload_n F 0 dX6_load_35 rfl ?_
            refine z_aload_n F 1 dX6_load_36 rfl ?_
            refine z_get F 0 6 iX6 rfl rfl (by decide) t3_82 rfl dX6_load_37 ?_
            refine z_icmp_ge F 92 dX6_load_40 (by decide) (by omega) (fun c2 => ?_) (fun c2 => ?_)
            · exact z_vret F hr dX6_load_92 (by omega) ⟨w, rfl, rfl, g35_1, g35_2⟩
            · refine z_aload_n F 1 dX6_load_43 rfl ?_
              refine z_get F 0 5 iX6 rfl rfl (by decide) t3_81 rfl dX6_load_44 ?_
              refine z_iload_n F 0 dX6_load_47 rfl ?_
              refine z_iald F 3 rfl rfl dX6_load_48 (by omega) (by omega) ?_
              have r3 : 0 ≤ zh i.toNat ∧ zh i.toNat ≤ (se-1) := h4 _
              refine z_iload_n F 2 dX6_load_49 rfl ?_
              refine z_icmp_ne F 86 dX6_load_50 (by decide) (by omega) (fun c4 => ?_) (fun c4 => ?_)
              · refine z_iinc F (lv' := [(2, .int (iZ (i + 1))), (0, .ref o), (1, .int (iZ n))]) 0 dX6_load_86 rfl (by decide) rfl ?_
                refine z_goto F 35 dX6_load_89 (by decide) ?_
                exact ih35 (i + 1) w (by omega) g35_1 (by first | assumption | exact fun q => absurd q (by omega)) (by omega)
              · refine z_iconst F dX6_load_53 ?_
                refine z_istore_n F (lv' := [(3, .int (iZ 0)), (2, .int (iZ i)), (0, .ref o), (1, .int (iZ n))]) dX6_load_54 (by decide) rfl ?_
                have lp55 : ∀ (nn55 : Nat) (i3 : Int) (w3 : Nat → Int), (0 ≤ i3 ∧ i3 ≤ 512) → (rng 0 255 w3) → ((512 - i3 : Int).toNat < nn55) → Go C { frames := 0, cells := 0, slots := 0, locals := 0 } D cls5 4 0 0 [oX6 o th se ea dk wt wh wc nw ru ed wa sq ar en sd wg tk cp co ki ke mn ak dg uk ud, aI K dk 20480 zd, aI K wt 32768 zw, aI K wh 64 zh, aI K nw 512 w3] 55 [(3, .int (iZ i3)), (2, .int (iZ i)), (0, .ref o), (1, .int (iZ n))] [] := by
                  intro nn55
                  induction nn55 with
                  | zero => intro i3 w3 g55_0 g55_1 hmu55; exact absurd hmu55 (Nat.not_lt_zero _)
                  | succ nn55 ih55 =>
                    intro i3 w3 g55_0 g55_1 hmu55
                    refine z_iload_n F 0 dX6_load_55 rfl ?_
                    refine z_sipush F dX6_load_56 (by decide) ?_
                    refine z_icmp_ge F 86 dX6_load_59 (by decide) (by omega) (fun c5 => ?_) (fun c5 => ?_)
                    · refine z_iinc F (lv' := [(2, .int (iZ (i + 1))), (3, .int (iZ i3)), (0, .ref o), (1, .int (iZ n))]) 1 dX6_load_86 rfl (by decide) rfl ?_
                      refine z_goto F 35 dX6_load_89 (by decide) ?_
                      refine z_lv F (lv' := [(2, .int (iZ (i + 1))), (0, .ref o), (1, .int (iZ n))]) [0, 2, 3] rfl ?_
                      exact ih35 (i + 1) w3 (by omega) g55_1 (by first | assumption | exact fun q => absurd q (by omega)) (by omega)
                    · refine z_aload_n F 2 dX6_load_62 rfl ?_
                      refine z_get F 0 7 iX6 rfl rfl (by decide) t3_83 rfl dX6_load_63 ?_
                      refine z_iload_n F 0 dX6_load_66 rfl ?_
                      refine z_aload_n F 2 dX6_load_67 rfl ?_
                      refine z_get F 0 4 iX6 rfl rfl (by decide) t3_80 rfl dX6_load_68 ?_
                      refine z_sipush F dX6_load_71 (by decide) ?_
                      refine z_iload_n F 1 dX6_load_74 rfl ?_
                      refine z_imul F dX6_load_75 ?_
                      refine z_iload_n F 0 dX6_load_76 rfl ?_
                      refine z_iadd F dX6_load_77 ?_
                      refine z_iald F 2 rfl rfl dX6_load_78 (by omega) (by omega) ?_
                      have r6 : 0 ≤ zw ((512 * i) + i3).toNat ∧ zw ((512 * i) + i3).toNat ≤ 255 := h3 _
                      refine z_iast F (ws' := [oX6 o th se ea dk wt wh wc nw ru ed wa sq ar en sd wg tk cp co ki ke mn ak dg uk ud, aI K dk 20480 zd, aI K wt 32768 zw, aI K wh 64 zh, aI K nw 512 (zu w3 i3.toNat (zw ((512 * i) + i3).toNat))]) 4 rfl rfl dX6_load_79 (by omega) (by omega) rfl ?_
                      have r7 : rng 0 255 (zu w3 i3.toNat (zw ((512 * i) + i3).toNat)) := rng_zu g55_1 (by omega)
                      refine z_iinc F (lv' := [(3, .int (iZ (i3 + 1))), (2, .int (iZ i)), (0, .ref o), (1, .int (iZ n))]) 0 dX6_load_80 rfl (by decide) rfl ?_
                      refine z_goto F 55 dX6_load_83 (by decide) ?_
                      exact ih55 (i3 + 1) (zu w3 i3.toNat (zw ((512 * i) + i3).toNat)) (by omega) r7 (by omega)
                exact lp55 ((512 - 0 : Int).toNat + 1) 0 w (by omega) g35_1 (Nat.lt_succ_self _)
        exact lp35 ((wc - 0 : Int).toNat + 1) 0 w (by omega) g2_1 (fun _ j hj => g2_2 j (by omega)) (Nat.lt_succ_self _)
      · refine z_aload_n F 1 dX6_load_9 rfl ?_
        refine z_get F 0 7 iX6 rfl rfl (by decide) t3_83 rfl dX6_load_10 ?_
        refine z_iload_n F 0 dX6_load_13 rfl ?_
        refine z_aload_n F 1 dX6_load_14 rfl ?_
        refine z_get F 0 3 iX6 rfl rfl (by decide) t3_79 rfl dX6_load_15 ?_
        refine z_sipush F dX6_load_18 (by decide) ?_
        refine z_iload_n F 2 dX6_load_21 rfl ?_
        refine z_imul F dX6_load_22 ?_
        refine z_iload_n F 0 dX6_load_23 rfl ?_
        refine z_iadd F dX6_load_24 ?_
        refine z_iald F 1 rfl rfl dX6_load_25 (by omega) (by omega) ?_
        have r8 : 0 ≤ zd ((512 * n) + i).toNat ∧ zd ((512 * n) + i).toNat ≤ 255 := h2 _
        refine z_iast F (ws' := [oX6 o th se ea dk wt wh wc nw ru ed wa sq ar en sd wg tk cp co ki ke mn ak dg uk ud, aI K dk 20480 zd, aI K wt 32768 zw, aI K wh 64 zh, aI K nw 512 (zu w i.toNat (zd ((512 * n) + i).toNat))]) 4 rfl rfl dX6_load_26 (by omega) (by omega) rfl ?_
        have r9 : rng 0 255 (zu w i.toNat (zd ((512 * n) + i).toNat)) := rng_zu g2_1 (by omega)
        refine z_iinc F (lv' := [(2, .int (iZ (i + 1))), (0, .ref o), (1, .int (iZ n))]) 0 dX6_load_27 rfl (by decide) rfl ?_
        refine z_goto F 2 dX6_load_30 (by decide) ?_
        exact ih2 (i + 1) (zu w i.toNat (zd ((512 * n) + i).toNat)) (by omega) r9 (fun j hj => by rcases (show (j : Int) < i ∨ (j : Int) = i by omega) with q | q; rw [zu_n (by omega)]; exact g2_2 j q; obtain rfl : j = i.toNat := (by omega); rw [zu_s, show ((i.toNat : Nat) : Int) = i by omega]) (by omega)
  exact lp2 ((512 - 0 : Int).toNat + 1) 0 zn (by omega) h5 (fun j hj => absurd hj (by omega)) (Nat.lt_succ_self _)
set_option maxHeartbeats 4000000 in
set_option maxRecDepth 20000 in
theorem k_X6_clear (l : Launch) (D : va_G) (K : KI) (o : Nat) (th : Int) (se : Int) (ea : Int) (dk : Nat) (wt : Nat) (wh : Nat) (wc : Int) (nw : Nat) (ru : Int) (ed : Int) (wa : Int) (sq : Int) (ar : Int) (en : Int) (sd : Int) (wg : Int) (tk : Int) (cp : Int) (co : Int) (ki : Nat) (ke : Nat) (mn : Nat) (ak : Nat) (dg : Nat) (uk : Nat) (ud : Nat) (zn : Nat → Int) (h0 : rng 0 255 zn) : Ct lw_T l yX6_clear cX6_clear 2 none { frames := 0, cells := 0, slots := 0, locals := 0 } 0 0 D cls5 (TY K) [.ref o] [oX6 o th se ea dk wt wh wc nw ru ed wa sq ar en sd wg tk cp co ki ke mn ak dg uk ud, aI K nw 512 zn] (fun vr wo => ∃ (zn2 : Nat → Int), vr = none ∧ wo = [oX6 o th se ea dk wt wh wc nw ru ed wa sq ar en sd wg tk cp co ki ke mn ak dg uk ud, aI K nw 512 zn2] ∧ (rng 0 255 zn2)) := by
  refine ct_of (own := RX6) (lv := [(0, .ref o)]) (by decide) rfl (Nat.le_of_ble_eq_true rfl) rfl (fun C F hr hnm hzl => ?_)
  subst hzl
  refine z_iconst F dX6_clear_0 ?_
  refine z_istore_n F (lv' := [(1, .int (iZ 0)), (0, .ref o)]) dX6_clear_1 (by decide) rfl ?_
  have lp2 : ∀ (nn2 : Nat) (i : Int) (w : Nat → Int), (0 ≤ i ∧ i ≤ 512) → (rng 0 255 w) → ((512 - i : Int).toNat < nn2) → Go C { frames := 0, cells := 0, slots := 0, locals := 0 } D cls5 2 0 0 [oX6 o th se ea dk wt wh wc nw ru ed wa sq ar en sd wg tk cp co ki ke mn ak dg uk ud, aI K nw 512 w] 2 [(1, .int (iZ i)), (0, .ref o)] [] := by
    intro nn2
    induction nn2 with
    | zero => intro i w g2_0 g2_1 hmu2; exact absurd hmu2 (Nat.not_lt_zero _)
    | succ nn2 ih2 =>
      intro i w g2_0 g2_1 hmu2
      refine z_iload_n F 0 dX6_clear_2 rfl ?_
      refine z_sipush F dX6_clear_3 (by decide) ?_
      refine z_icmp_ge F 22 dX6_clear_6 (by decide) (by omega) (fun c1 => ?_) (fun c1 => ?_)
      · exact z_vret F hr dX6_clear_22 (by omega) ⟨w, rfl, rfl, g2_1⟩
      · refine z_aload_n F 1 dX6_clear_9 rfl ?_
        refine z_get F 0 7 iX6 rfl rfl (by decide) t3_83 rfl dX6_clear_10 ?_
        refine z_iload_n F 0 dX6_clear_13 rfl ?_
        refine z_iconst F dX6_clear_14 ?_
        refine z_iast F (ws' := [oX6 o th se ea dk wt wh wc nw ru ed wa sq ar en sd wg tk cp co ki ke mn ak dg uk ud, aI K nw 512 (zu w i.toNat 0)]) 1 rfl rfl dX6_clear_15 (by omega) (by omega) rfl ?_
        have r2 : rng 0 255 (zu w i.toNat 0) := rng_zu g2_1 (by omega)
        refine z_iinc F (lv' := [(1, .int (iZ (i + 1))), (0, .ref o)]) 0 dX6_clear_16 rfl (by decide) rfl ?_
        refine z_goto F 2 dX6_clear_19 (by decide) ?_
        exact ih2 (i + 1) (zu w i.toNat 0) (by omega) r2 (by omega)
  exact lp2 ((512 - 0 : Int).toNat + 1) 0 zn (by omega) h0 (Nat.lt_succ_self _)
set_option maxHeartbeats 4000000 in
set_option maxRecDepth 20000 in
theorem k_X6_send (l : Launch) (D : va_G) (K : KI) (o : Nat) (th : Int) (se : Int) (ea : Int) (dk : Nat) (wt : Nat) (wh : Nat) (wc : Int) (nw : Nat) (ru : Int) (ed : Int) (wa : Int) (sq : Int) (ar : Int) (en : Int) (sd : Int) (wg : Int) (tk : Int) (cp : Int) (co : Int) (ki : Nat) (ke : Nat) (mn : Nat) (ak : Nat) (dg : Nat) (uk : Nat) (ud : Nat) (zd : Nat → Int) (zw : Nat → Int) (zh : Nat → Int) (zn : Nat → Int) (n : Int) (h0 : 4 ≤ se ∧ se ≤ 40) (h1 : 0 ≤ wc ∧ wc ≤ 64) (h2 : rng 0 255 zd) (h3 : rng 0 255 zw) (h4 : rng 0 (se-1) zh) (h5 : rng 0 255 zn) (h6 : 0 ≤ n ∧ n ≤ se - 1) : Ct lw_T l yX6_send cX6_send 3 none { frames := 2, cells := 0, slots := 0, locals := 44 } 0 0 D cls5 (TY K) [.ref o, .int (iZ n)] [oX6 o th se ea dk wt wh wc nw ru ed wa sq ar en sd wg tk cp co ki ke mn ak dg uk ud, aI K dk 20480 zd, aI K wt 32768 zw, aI K wh 64 zh, aI K nw 512 zn] (fun vr wo => ∃ (wc2 : Int), ∃ (zd2 : Nat → Int), ∃ (zw2 : Nat → Int), ∃ (zh2 : Nat → Int), vr = none ∧ wo = [oX6 o th se ea dk wt wh wc2 nw ru ed wa sq ar en sd wg tk cp co ki ke mn ak dg uk ud, aI K dk 20480 zd2, aI K wt 32768 zw2, aI K wh 64 zh2, aI K nw 512 zn] ∧ (0 ≤ wc2 ∧ wc2 ≤ 64) ∧ (rng 0 255 zd2) ∧ (rng 0 255 zw2) ∧ (rng 0 (se-1) zh2)) := by
  refine ct_of (own := RX6) (lv := [(0, .ref o), (1, .int (iZ n))]) (by decide) rfl (Nat.le_of_ble_eq_true rfl) rfl (fun C F hr hnm hzl => ?_)
  subst hzl
  refine z_aload_n F 0 dX6_send_0 rfl ?_
  refine z_get F 0 6 iX6 rfl rfl (by decide) t3_82 rfl dX6_send_1 ?_
  refine z_bipush F dX6_send_4 (by decide) ?_
  have lp13 : ∀ (w1 : Int) (d1 : Nat → Int), (0 ≤ w1 ∧ w1 ≤ 63) → (rng 0 255 d1) → Go C { frames := 2, cells := 0, slots := 0, locals := 44 } D cls5 3 0 0 [oX6 o th se ea dk wt wh w1 nw ru ed wa sq ar en sd wg tk cp co ki ke mn ak dg uk ud, aI K dk 20480 d1, aI K wt 32768 zw, aI K wh 64 zh, aI K nw 512 zn] 13 [(0, .ref o), (1, .int (iZ n))] [] := by
    intro w1 d1 g13_0 g13_1
    refine z_aload_n F 0 dX6_send_13 rfl ?_
    refine z_get F 0 5 iX6 rfl rfl (by decide) t3_81 rfl dX6_send_14 ?_
    refine z_aload_n F 0 dX6_send_17 rfl ?_
    refine z_get F 0 6 iX6 rfl rfl (by decide) t3_82 rfl dX6_send_18 ?_
    refine z_iload_n F 1 dX6_send_21 rfl ?_
    refine z_iast F (ws' := [oX6 o th se ea dk wt wh w1 nw ru ed wa sq ar en sd wg tk cp co ki ke mn ak dg uk ud, aI K dk 20480 d1, aI K wt 32768 zw, aI K wh 64 (zu zh w1.toNat n), aI K nw 512 zn]) 3 rfl rfl dX6_send_22 (by omega) (by omega) rfl ?_
    have r1 : rng 0 (se-1) (zu zh w1.toNat n) := rng_zu h4 (by omega)
    refine z_iconst F dX6_send_23 ?_
    refine z_istore_n F (lv' := [(2, .int (iZ 0)), (0, .ref o), (1, .int (iZ n))]) dX6_send_24 (by decide) rfl ?_
    have lp25 : ∀ (nn25 : Nat) (i : Int) (q1 : Nat → Int), (0 ≤ i ∧ i ≤ 512) → (rng 0 255 q1) → ((512 - i : Int).toNat < nn25) → Go C { frames := 2, cells := 0, slots := 0, locals := 44 } D cls5 3 0 0 [oX6 o th se ea dk wt wh w1 nw ru ed wa sq ar en sd wg tk cp co ki ke mn ak dg uk ud, aI K dk 20480 d1, aI K wt 32768 q1, aI K wh 64 (zu zh w1.toNat n), aI K nw 512 zn] 25 [(2, .int (iZ i)), (0, .ref o), (1, .int (iZ n))] [] := by
      intro nn25
      induction nn25 with
      | zero => intro i q1 g25_0 g25_1 hmu25; exact absurd hmu25 (Nat.not_lt_zero _)
      | succ nn25 ih25 =>
        intro i q1 g25_0 g25_1 hmu25
        refine z_iload_n F 0 dX6_send_25 rfl ?_
        refine z_sipush F dX6_send_26 (by decide) ?_
        refine z_icmp_ge F 59 dX6_send_29 (by decide) (by omega) (fun c2 => ?_) (fun c2 => ?_)
        · refine z_aload_n F 1 dX6_send_59 rfl ?_
          refine z_dup F dX6_send_60 rfl ?_
          refine z_get F 0 6 iX6 rfl rfl (by decide) t3_82 rfl dX6_send_61 ?_
          refine z_iconst F dX6_send_64 ?_
          refine z_iadd F dX6_send_65 ?_
          refine z_put F (ws' := [oX6 o th se ea dk wt wh (w1 + 1) nw ru ed wa sq ar en sd wg tk cp co ki ke mn ak dg uk ud, aI K dk 20480 d1, aI K wt 32768 q1, aI K wh 64 (zu zh w1.toNat n), aI K nw 512 zn]) 0 6 iX6 tyX6 tyX6_ok nmX6 rfl rfl (by decide) t3_82 rfl rfl rfl rfl (Nat.le_of_ble_eq_true rfl) dX6_send_66 rfl ?_
          exact z_vret F hr dX6_send_69 (by omega) ⟨(w1 + 1), d1, q1, (zu zh w1.toNat n), rfl, rfl, (by omega), g13_1, g25_1, r1⟩
        · refine z_aload_n F 1 dX6_send_32 rfl ?_
          refine z_get F 0 4 iX6 rfl rfl (by decide) t3_80 rfl dX6_send_33 ?_
          refine z_sipush F dX6_send_36 (by decide) ?_
          refine z_aload_n F 1 dX6_send_39 rfl ?_
          refine z_get F 0 6 iX6 rfl rfl (by decide) t3_82 rfl dX6_send_40 ?_
          refine z_imul F dX6_send_43 ?_
          refine z_iload_n F 0 dX6_send_44 rfl ?_
          refine z_iadd F dX6_send_45 ?_
          refine z_aload_n F 1 dX6_send_46 rfl ?_
          refine z_get F 0 7 iX6 rfl rfl (by decide) t3_83 rfl dX6_send_47 ?_
          refine z_iload_n F 0 dX6_send_50 rfl ?_
          refine z_iald F 4 rfl rfl dX6_send_51 (by omega) (by omega) ?_
          have r3 : 0 ≤ zn i.toNat ∧ zn i.toNat ≤ 255 := h5 _
          refine z_iast F (ws' := [oX6 o th se ea dk wt wh w1 nw ru ed wa sq ar en sd wg tk cp co ki ke mn ak dg uk ud, aI K dk 20480 d1, aI K wt 32768 (zu q1 ((512 * w1) + i).toNat (zn i.toNat)), aI K wh 64 (zu zh w1.toNat n), aI K nw 512 zn]) 2 rfl rfl dX6_send_52 (by omega) (by omega) rfl ?_
          have r4 : rng 0 255 (zu q1 ((512 * w1) + i).toNat (zn i.toNat)) := rng_zu g25_1 (by omega)
          refine z_iinc F (lv' := [(2, .int (iZ (i + 1))), (0, .ref o), (1, .int (iZ n))]) 0 dX6_send_53 rfl (by decide) rfl ?_
          refine z_goto F 25 dX6_send_56 (by decide) ?_
          exact ih25 (i + 1) (zu q1 ((512 * w1) + i).toNat (zn i.toNat)) (by omega) r4 (by omega)
    exact lp25 ((512 - 0 : Int).toNat + 1) 0 zw (by omega) h3 (Nat.lt_succ_self _)
  refine z_icmp_ne F 13 dX6_send_6 (by decide) (by omega) (fun c5 => ?_) (fun c5 => ?_)
  · exact lp13 wc zd (by omega) h2
  · refine z_aload_n F 0 dX6_send_9 rfl ?_
    refine z_callV F lw_good (k_X6_bringAll _ D K o th se ea dk wt wh wc nw ru ed wa sq ar en sd wg tk cp co ki ke mn ak dg uk ud zd zw zh h0 h1 h2 h3 h4) t3_195 t1_6 t3_192 t3_194 (q := (RX6, TX6, 26)) ts_27 ⟨rfl, rfl⟩ ndX6_bringAll ⟨Nat.le_of_ble_eq_true rfl, Nat.le_of_ble_eq_true rfl⟩ 0 rfl rfl (rest := []) rfl (Nat.le_of_ble_eq_true rfl) dX6_send_10 ⟨(show 0 + 0 ≤ 0 by omega), (show 0 + 0 ≤ 0 by omega)⟩ (wr := [aI K nw 512 zn]) ([0, 1, 2, 3] : List Nat) ([4] : List Nat) rfl rfl rfl rfl (by decide) (fun vr wo hp => ?_)
    obtain ⟨zd2_6, rfl, rfl, f7⟩ := hp
    refine z_re F (ws' := [oX6 o th se ea dk wt wh 0 nw ru ed wa sq ar en sd wg tk cp co ki ke mn ak dg uk ud, aI K dk 20480 zd2_6, aI K wt 32768 zw, aI K wh 64 zh, aI K nw 512 zn]) (st' := []) ([1, 2, 3, 4, 0] : List Nat) rfl rfl rfl ?_
    exact lp13 0 zd2_6 (by omega) f7
set_option maxHeartbeats 4000000 in
set_option maxRecDepth 20000 in
theorem k_X6_put (l : Launch) (D : va_G) (K : KI) (o : Nat) (th : Int) (se : Int) (ea : Int) (dk : Nat) (wt : Nat) (wh : Nat) (wc : Int) (nw : Nat) (ru : Int) (ed : Int) (wa : Int) (sq : Int) (ar : Int) (en : Int) (sd : Int) (wg : Int) (tk : Int) (cp : Int) (co : Int) (ki : Nat) (ke : Nat) (mn : Nat) (ak : Nat) (dg : Nat) (uk : Nat) (ud : Nat) (zn : Nat → Int) (pa : Int) (num : Int64) (cnt : Int) (h0 : 0 ≤ pa ∧ 0 ≤ cnt ∧ pa + cnt ≤ 512) (h1 : rng 0 255 zn) : Ct lw_T l yX6_put cX6_put 6 none { frames := 0, cells := 0, slots := 0, locals := 0 } 0 0 D cls5 (TY K) [.ref o, .int (iZ pa), .long num, .int (iZ cnt)] [oX6 o th se ea dk wt wh wc nw ru ed wa sq ar en sd wg tk cp co ki ke mn ak dg uk ud, aI K nw 512 zn] (fun vr wo => ∃ (zn2 : Nat → Int), vr = none ∧ wo = [oX6 o th se ea dk wt wh wc nw ru ed wa sq ar en sd wg tk cp co ki ke mn ak dg uk ud, aI K nw 512 zn2] ∧ (rng 0 255 zn2)) := by
  refine ct_of (own := RX6) (lv := [(0, .ref o), (1, .int (iZ pa)), (2, .long num), (4, .int (iZ cnt))]) (by decide) rfl (Nat.le_of_ble_eq_true rfl) rfl (fun C F hr hnm hzl => ?_)
  subst hzl
  refine z_iconst F dX6_put_0 ?_
  refine z_istore F (lv' := [(5, .int (iZ 0)), (0, .ref o), (1, .int (iZ pa)), (2, .long num), (4, .int (iZ cnt))]) dX6_put_1 (by decide) rfl ?_
  have lp3 : ∀ (nn3 : Nat) (i : Int) (w : Nat → Int), (0 ≤ i ∧ i ≤ cnt) → (rng 0 255 w) → ((cnt - i : Int).toNat < nn3) → Go C { frames := 0, cells := 0, slots := 0, locals := 0 } D cls5 6 0 0 [oX6 o th se ea dk wt wh wc nw ru ed wa sq ar en sd wg tk cp co ki ke mn ak dg uk ud, aI K nw 512 w] 3 [(5, .int (iZ i)), (0, .ref o), (1, .int (iZ pa)), (2, .long num), (4, .int (iZ cnt))] [] := by
    intro nn3
    induction nn3 with
    | zero => intro i w g3_0 g3_1 hmu3; exact absurd hmu3 (Nat.not_lt_zero _)
    | succ nn3 ih3 =>
      intro i w g3_0 g3_1 hmu3
      refine z_iload F 0 dX6_put_3 rfl ?_
      refine z_iload F 4 dX6_put_5 rfl ?_
      refine z_icmp_ge F 42 dX6_put_7 (by decide) (by omega) (fun c1 => ?_) (fun c1 => ?_)
      · exact z_vret F hr dX6_put_42 (by omega) ⟨w, rfl, rfl, g3_1⟩
      · refine z_aload_n F 1 dX6_put_10 rfl ?_
        refine z_get F 0 7 iX6 rfl rfl (by decide) t3_83 rfl dX6_put_11 ?_
        refine z_iload_n F 2 dX6_put_14 rfl ?_
        refine z_iload F 0 dX6_put_15 rfl ?_
        refine z_iadd F dX6_put_17 ?_
        refine z_lload_n F 3 dX6_put_18 rfl ?_
        refine z_bipush F dX6_put_19 (by decide) ?_
        refine z_iload F 4 dX6_put_21 rfl ?_
        refine z_iconst F dX6_put_23 ?_
        refine z_isub F dX6_put_24 ?_
        refine z_iload F 0 dX6_put_25 rfl ?_
        refine z_isub F dX6_put_27 ?_
        refine z_imul F dX6_put_28 ?_
        refine z_lshr F dX6_put_29 ?_
        refine z_ldc2 F t3_231 dX6_put_30 ?_
        refine z_land F dX6_put_33 ?_
        refine z_l2i F dX6_put_34 (fun b2 rb2 eb2 => ?_)
        have hb5 := l255 rb2 eb2
        refine z_iast F (ws' := [oX6 o th se ea dk wt wh wc nw ru ed wa sq ar en sd wg tk cp co ki ke mn ak dg uk ud, aI K nw 512 (zu w (pa + i).toNat b2)]) 1 rfl rfl dX6_put_35 (by omega) (by omega) rfl ?_
        have r3 : rng 0 255 (zu w (pa + i).toNat b2) := rng_zu g3_1 (by omega)
        refine z_iinc F (lv' := [(5, .int (iZ (i + 1))), (0, .ref o), (1, .int (iZ pa)), (2, .long num), (4, .int (iZ cnt))]) 0 dX6_put_36 rfl (by decide) rfl ?_
        refine z_goto F 3 dX6_put_39 (by decide) ?_
        exact ih3 (i + 1) (zu w (pa + i).toNat b2) (by omega) r3 (by omega)
  exact lp3 ((cnt - 0 : Int).toNat + 1) 0 zn (by omega) h1 (Nat.lt_succ_self _)
set_option maxHeartbeats 4000000 in
set_option maxRecDepth 20000 in
theorem k_X6_turned (l : Launch) (D : va_G) (K : KI) (v : Int) (h0 : -2147483648 ≤ v ∧ v ≤ 2147483647) : Ct lw_T l yX6_turned cX6_turned 2 (some .int) { frames := 0, cells := 0, slots := 0, locals := 0 } 0 0 D cls5 (TY K) [.int (iZ v), .int (iZ 5)] [] (fun vr wo => ∃ (r : Int), vr = some (.int (iZ r)) ∧ wo = [] ∧ (-2147483648 ≤ r ∧ r ≤ 2147483647) ∧ (¬ v = 0 → ¬ r = 0)) := by
  refine ct_of (own := RX6) (lv := [(0, .int (iZ v)), (1, .int (iZ 5))]) (by decide) rfl (Nat.le_of_ble_eq_true rfl) rfl (fun C F hr hnm hzl => ?_)
  subst hzl
  refine z_iload_n F 0 dX6_turned_0 rfl ?_
  refine z_iload_n F 1 dX6_turned_1 rfl ?_
  refine z_ishl F dX6_turned_2 (fun b1 rb1 eb1 => ?_)
  refine z_iload_n F 0 dX6_turned_3 rfl ?_
  refine z_bipush F dX6_turned_4 (by decide) ?_
  refine z_iload_n F 1 dX6_turned_6 rfl ?_
  refine z_isub F dX6_turned_7 ?_
  refine z_iushr F dX6_turned_8 (fun b2 rb2 eb2 => ?_)
  refine z_ior F dX6_turned_9 (fun b3 rb3 eb3 => ?_)
  have htz : ¬ v = 0 → ¬ b3 = 0 := fun hv q => by have q1 := sum_rot (b1 := 0) (m := iZ v) (fun z => hv ((iZ_eq (a := v) (b := 0) ⟨h0, by decide⟩).mp z)) eb1 (by have h9 := eb2; rw [show (32 : Int) - 5 = 27 by decide] at h9; exact h9) eb3; rw [q] at q1; exact q1 rfl
  exact z_iret F hr dX6_turned_10 (by omega) ⟨b3, rfl, rfl, rb3, htz⟩
set_option maxHeartbeats 4000000 in
set_option maxRecDepth 20000 in
theorem k_X6_sum (l : Launch) (D : va_G) (K : KI) (o : Nat) (th : Int) (se : Int) (ea : Int) (dk : Nat) (wt : Nat) (wh : Nat) (wc : Int) (nw : Nat) (ru : Int) (ed : Int) (wa : Int) (sq : Int) (ar : Int) (en : Int) (sd : Int) (wg : Int) (tk : Int) (cp : Int) (co : Int) (ki : Nat) (ke : Nat) (mn : Nat) (ak : Nat) (dg : Nat) (uk : Nat) (ud : Nat) (zn : Nat → Int) (fr : Int) (n : Int) (by0 : Int) (h0 : 0 ≤ fr ∧ 0 ≤ n ∧ fr + n ≤ 512) : Ct lw_T l yX6_sum cX6_sum 6 (some .int) { frames := 1, cells := 0, slots := 0, locals := 21 } 0 0 D cls5 (TY K) [.ref o, .int (iZ fr), .int (iZ n), .int (iZ by0)] [oX6 o th se ea dk wt wh wc nw ru ed wa sq ar en sd wg tk cp co ki ke mn ak dg uk ud, aI K nw 512 zn] (fun vr wo => ∃ (r : Int), vr = some (.int (iZ r)) ∧ wo = [oX6 o th se ea dk wt wh wc nw ru ed wa sq ar en sd wg tk cp co ki ke mn ak dg uk ud, aI K nw 512 zn] ∧ (-2147483648 ≤ r ∧ r ≤ 2147483647) ∧ ((∀ j : Nat, j < 512 → zn j = 0) → by0 = 0 → ¬ r = 0)) := by
  refine ct_of (own := RX6) (lv := [(0, .ref o), (1, .int (iZ fr)), (2, .int (iZ n)), (3, .int (iZ by0))]) (by decide) rfl (Nat.le_of_ble_eq_true rfl) rfl (fun C F hr hnm hzl => ?_)
  subst hzl
  refine z_iload_n F 3 dX6_sum_0 rfl ?_
  refine z_iconst F dX6_sum_1 ?_
  refine z_iadd F dX6_sum_2 ?_
  refine z_norm F (fun y1 ry1 ey1 => ?_)
  have hsy1 : (∀ j : Nat, j < 512 → zn j = 0) → by0 = 0 → ¬ y1 = 0 := fun _ hb q => by rw [hb, q] at ey1; exact absurd ey1 (by decide)
  refine z_istore F (lv' := [(4, .int (iZ y1)), (0, .ref o), (1, .int (iZ fr)), (2, .int (iZ n)), (3, .int (iZ by0))]) dX6_sum_3 (by decide) rfl ?_
  refine z_iload_n F 2 dX6_sum_5 rfl ?_
  refine z_istore F (lv' := [(5, .int (iZ fr)), (4, .int (iZ y1)), (0, .ref o), (1, .int (iZ fr)), (2, .int (iZ n)), (3, .int (iZ by0))]) dX6_sum_6 (by decide) rfl ?_
  have lp8 : ∀ (nn8 : Nat) (s : Int) (i : Int), (fr ≤ i ∧ i ≤ fr + n) → (-2147483648 ≤ s ∧ s ≤ 2147483647) → ((∀ j : Nat, j < 512 → zn j = 0) → by0 = 0 → ¬ s = 0) → ((fr + n - i : Int).toNat < nn8) → Go C { frames := 1, cells := 0, slots := 0, locals := 21 } D cls5 6 0 0 [oX6 o th se ea dk wt wh wc nw ru ed wa sq ar en sd wg tk cp co ki ke mn ak dg uk ud, aI K nw 512 zn] 8 [(5, .int (iZ i)), (4, .int (iZ s)), (0, .ref o), (1, .int (iZ fr)), (2, .int (iZ n)), (3, .int (iZ by0))] [] := by
    intro nn8
    induction nn8 with
    | zero => intro s i g8_0 g8_1 g8_2 hmu8; exact absurd hmu8 (Nat.not_lt_zero _)
    | succ nn8 ih8 =>
      intro s i g8_0 g8_1 g8_2 hmu8
      refine z_iload F 0 dX6_sum_8 rfl ?_
      refine z_iload_n F 3 dX6_sum_10 rfl ?_
      refine z_iload_n F 4 dX6_sum_11 rfl ?_
      refine z_iadd F dX6_sum_12 ?_
      refine z_icmp_ge F 41 dX6_sum_13 (by decide) (by omega) (fun c2 => ?_) (fun c2 => ?_)
      · refine z_iload F 1 dX6_sum_41 rfl ?_
        exact z_iret F hr dX6_sum_43 (by omega) ⟨s, rfl, rfl, g8_1, g8_2⟩
      · refine z_iload F 1 dX6_sum_16 rfl ?_
        refine z_aload_n F 2 dX6_sum_18 rfl ?_
        refine z_get F 0 7 iX6 rfl rfl (by decide) t3_83 rfl dX6_sum_19 ?_
        refine z_iload F 0 dX6_sum_22 rfl ?_
        refine z_iald F 1 rfl rfl dX6_sum_24 (by omega) (by omega) ?_
        refine z_ixor F dX6_sum_25 (fun b3 rb3 eb3 => ?_)
        refine z_iconst F dX6_sum_26 ?_
        refine z_callS F lw_good (k_X6_turned _ D K b3 (by omega)) t3_178 t1_6 t3_176 t3_177 ⟨rfl, rfl⟩ ndX6_turned ⟨Nat.le_of_ble_eq_true rfl, Nat.le_of_ble_eq_true rfl⟩ (rest := []) rfl (Nat.le_of_ble_eq_true rfl) dX6_sum_27 ⟨(show 0 + 0 ≤ 0 by omega), (show 0 + 0 ≤ 0 by omega)⟩ (wr := [oX6 o th se ea dk wt wh wc nw ru ed wa sq ar en sd wg tk cp co ki ke mn ak dg uk ud, aI K nw 512 zn]) ([] : List Nat) ([0, 1] : List Nat) rfl rfl rfl rfl (by decide) (fun vr wo hp => ?_)
        obtain ⟨r_4, rfl, rfl, f5, f6⟩ := hp
        refine z_re F (ws' := [oX6 o th se ea dk wt wh wc nw ru ed wa sq ar en sd wg tk cp co ki ke mn ak dg uk ud, aI K nw 512 zn]) (st' := [.int (iZ r_4)]) ([0, 1] : List Nat) rfl rfl rfl ?_
        refine z_ldc F t3_179 dX6_sum_30 (z := -2048144777) (by decide) ?_
        refine z_imul F dX6_sum_32 ?_
        refine z_norm F (fun y7 ry7 ey7 => ?_)
        have hsy7 : (∀ j : Nat, j < 512 → zn j = 0) → by0 = 0 → ¬ y7 = 0 := fun hz hb => mul_nz (f6 (fun q => g8_2 hz hb (by have h9 := eb3; rw [hz i.toNat (by omega), q] at h9; exact xor0_z g8_1 h9))) f5 ry7 ey7
        refine z_istore F (lv' := [(4, .int (iZ y7)), (5, .int (iZ i)), (0, .ref o), (1, .int (iZ fr)), (2, .int (iZ n)), (3, .int (iZ by0))]) dX6_sum_33 (by decide) rfl ?_
        refine z_iinc F (lv' := [(5, .int (iZ (i + 1))), (4, .int (iZ y7)), (0, .ref o), (1, .int (iZ fr)), (2, .int (iZ n)), (3, .int (iZ by0))]) 1 dX6_sum_35 rfl (by decide) rfl ?_
        refine z_goto F 8 dX6_sum_38 (by decide) ?_
        exact ih8 y7 (i + 1) (by omega) ry7 hsy7 (by omega)
  exact lp8 ((fr + n - fr : Int).toNat + 1) y1 fr (by omega) ry1 hsy1 (Nat.lt_succ_self _)
set_option maxHeartbeats 4000000 in
set_option maxRecDepth 20000 in
theorem k_X6_number (l : Launch) (D : va_G) (K : KI) (o : Nat) (th : Int) (se : Int) (ea : Int) (dk : Nat) (wt : Nat) (wh : Nat) (wc : Int) (nw : Nat) (ru : Int) (ed : Int) (wa : Int) (sq : Int) (ar : Int) (en : Int) (sd : Int) (wg : Int) (tk : Int) (cp : Int) (co : Int) (ki : Nat) (ke : Nat) (mn : Nat) (ak : Nat) (dg : Nat) (uk : Nat) (ud : Nat) (zn : Nat → Int) (fr : Int) (cnt : Int) (h0 : 0 ≤ fr ∧ 0 ≤ cnt ∧ fr + cnt ≤ 512) : Ct lw_T l yX6_number cX6_number 5 (some .int) { frames := 0, cells := 0, slots := 0, locals := 0 } 0 0 D cls5 (TY K) [.ref o, .int (iZ fr), .int (iZ cnt)] [oX6 o th se ea dk wt wh wc nw ru ed wa sq ar en sd wg tk cp co ki ke mn ak dg uk ud, aI K nw 512 zn] (fun vr wo => ∃ (r : Int), vr = some (.int (iZ r)) ∧ wo = [oX6 o th se ea dk wt wh wc nw ru ed wa sq ar en sd wg tk cp co ki ke mn ak dg uk ud, aI K nw 512 zn] ∧ (-2147483648 ≤ r ∧ r ≤ 2147483647) ∧ (iZ r = numF zn fr cnt.toNat)) := by
  refine ct_of (own := RX6) (lv := [(0, .ref o), (1, .int (iZ fr)), (2, .int (iZ cnt))]) (by decide) rfl (Nat.le_of_ble_eq_true rfl) rfl (fun C F hr hnm hzl => ?_)
  subst hzl
  refine z_iconst F dX6_number_0 ?_
  refine z_istore_n F (lv' := [(3, .int (iZ 0)), (0, .ref o), (1, .int (iZ fr)), (2, .int (iZ cnt))]) dX6_number_1 (by decide) rfl ?_
  refine z_iconst F dX6_number_2 ?_
  refine z_istore F (lv' := [(4, .int (iZ 0)), (3, .int (iZ 0)), (0, .ref o), (1, .int (iZ fr)), (2, .int (iZ cnt))]) dX6_number_3 (by decide) rfl ?_
  have lp5 : ∀ (nn5 : Nat) (v : Int) (i : Int), (0 ≤ i ∧ i ≤ cnt) → (-2147483648 ≤ v ∧ v ≤ 2147483647) → (iZ v = numF zn fr i.toNat) → ((cnt - i : Int).toNat < nn5) → Go C { frames := 0, cells := 0, slots := 0, locals := 0 } D cls5 5 0 0 [oX6 o th se ea dk wt wh wc nw ru ed wa sq ar en sd wg tk cp co ki ke mn ak dg uk ud, aI K nw 512 zn] 5 [(4, .int (iZ i)), (3, .int (iZ v)), (0, .ref o), (1, .int (iZ fr)), (2, .int (iZ cnt))] [] := by
    intro nn5
    induction nn5 with
    | zero => intro v i g5_0 g5_1 g5_2 hmu5; exact absurd hmu5 (Nat.not_lt_zero _)
    | succ nn5 ih5 =>
      intro v i g5_0 g5_1 g5_2 hmu5
      refine z_iload F 0 dX6_number_5 rfl ?_
      refine z_iload_n F 4 dX6_number_7 rfl ?_
      refine z_icmp_ge F 32 dX6_number_8 (by decide) (by omega) (fun c1 => ?_) (fun c1 => ?_)
      · refine z_iload_n F 1 dX6_number_32 rfl ?_
        exact z_iret F hr dX6_number_33 (by omega) ⟨v, rfl, rfl, g5_1, (by rw [show cnt = i by omega]; exact g5_2)⟩
      · refine z_iload_n F 1 dX6_number_11 rfl ?_
        refine z_bipush F dX6_number_12 (by decide) ?_
        refine z_ishl F dX6_number_14 (fun b2 rb2 eb2 => ?_)
        refine z_aload_n F 2 dX6_number_15 rfl ?_
        refine z_get F 0 7 iX6 rfl rfl (by decide) t3_83 rfl dX6_number_16 ?_
        refine z_iload_n F 3 dX6_number_19 rfl ?_
        refine z_iload F 0 dX6_number_20 rfl ?_
        refine z_iadd F dX6_number_22 ?_
        refine z_iald F 1 rfl rfl dX6_number_23 (by omega) (by omega) ?_
        refine z_ior F dX6_number_24 (fun b3 rb3 eb3 => ?_)
        have eB := eb2; have eA := eb3
        refine z_istore_n F (lv' := [(3, .int (iZ b3)), (4, .int (iZ i)), (0, .ref o), (1, .int (iZ fr)), (2, .int (iZ cnt))]) dX6_number_25 (by decide) rfl ?_
        refine z_iinc F (lv' := [(4, .int (iZ (i + 1))), (3, .int (iZ b3)), (0, .ref o), (1, .int (iZ fr)), (2, .int (iZ cnt))]) 1 dX6_number_26 rfl (by decide) rfl ?_
        refine z_goto F 5 dX6_number_29 (by decide) ?_
        exact ih5 b3 (i + 1) (by omega) (by omega) (by rw [show (i + 1).toNat = i.toNat + 1 by omega]; show _ = (numF zn fr i.toNat <<< (iZ 8 &&& 31)) ||| iZ (zn (fr + (i.toNat : Int)).toNat); rw [← g5_2, eB, show fr + (i.toNat : Int) = fr + i by omega]; exact eA.symm) (by omega)
  exact lp5 ((cnt - 0 : Int).toNat + 1) 0 0 (by omega) (by omega) (rfl) (Nat.lt_succ_self _)
set_option maxHeartbeats 4000000 in
set_option maxRecDepth 20000 in
theorem k_X6_sectorOf (l : Launch) (D : va_G) (K : KI) (o : Nat) (th : Int) (se : Int) (ea : Int) (dk : Nat) (wt : Nat) (wh : Nat) (wc : Int) (nw : Nat) (ru : Int) (ed : Int) (wa : Int) (sq : Int) (ar : Int) (en : Int) (sd : Int) (wg : Int) (tk : Int) (cp : Int) (co : Int) (ki : Nat) (ke : Nat) (mn : Nat) (ak : Nat) (dg : Nat) (uk : Nat) (ud : Nat) (wh0 : Int) (pl : Int) (h0 : 1 ≤ ea ∧ ea ≤ 19) (h1 : wh0 = 0 ∨ wh0 = 1) (h2 : 0 ≤ pl ∧ pl ≤ 16 * ea - 1) : Ct lw_T l yX6_sectorOf cX6_sectorOf 3 (some .int) { frames := 0, cells := 0, slots := 0, locals := 0 } 0 0 D cls5 (TY K) [.ref o, .int (iZ wh0), .int (iZ pl)] [oX6 o th se ea dk wt wh wc nw ru ed wa sq ar en sd wg tk cp co ki ke mn ak dg uk ud] (fun vr wo => ∃ (r : Int), vr = some (.int (iZ r)) ∧ wo = [oX6 o th se ea dk wt wh wc nw ru ed wa sq ar en sd wg tk cp co ki ke mn ak dg uk ud] ∧ (2 ≤ r ∧ r ≤ 2 * ea + 1)) := by
  refine ct_of (own := RX6) (lv := [(0, .ref o), (1, .int (iZ wh0)), (2, .int (iZ pl))]) (by decide) rfl (Nat.le_of_ble_eq_true rfl) rfl (fun C F hr hnm hzl => ?_)
  subst hzl
  refine z_iconst F dX6_sectorOf_0 ?_
  refine z_iload_n F 1 dX6_sectorOf_1 rfl ?_
  refine z_aload_n F 0 dX6_sectorOf_2 rfl ?_
  refine z_get F 0 2 iX6 rfl rfl (by decide) t3_78 rfl dX6_sectorOf_3 ?_
  refine z_imul F dX6_sectorOf_6 ?_
  refine z_iadd F dX6_sectorOf_7 ?_
  refine z_iload_n F 2 dX6_sectorOf_8 rfl ?_
  refine z_bipush F dX6_sectorOf_9 (by decide) ?_
  refine z_idiv F dX6_sectorOf_11 (by omega) (by omega) ?_
  refine z_nm F (fun q1 eq1 => ?_)
  have hq1 := dv_spec pl 16 (by omega)
  rw [← eq1] at hq1
  refine z_iadd F dX6_sectorOf_12 ?_
  exact z_iret F hr dX6_sectorOf_13 (by omega) ⟨((2 + (wh0 * ea)) + q1), rfl, rfl, (by rcases h1 with q | q <;> rw [q] <;> omega)⟩
set_option maxHeartbeats 4000000 in
set_option maxRecDepth 20000 in
theorem k_X6_zeros (l : Launch) (D : va_G) (K : KI) (o : Nat) (th : Int) (se : Int) (ea : Int) (dk : Nat) (wt : Nat) (wh : Nat) (wc : Int) (nw : Nat) (ru : Int) (ed : Int) (wa : Int) (sq : Int) (ar : Int) (en : Int) (sd : Int) (wg : Int) (tk : Int) (cp : Int) (co : Int) (ki : Nat) (ke : Nat) (mn : Nat) (ak : Nat) (dg : Nat) (uk : Nat) (ud : Nat) (zd : Nat → Int) (zw : Nat → Int) (zh : Nat → Int) (zn : Nat → Int) (wh0 : Int) (h0 : 4 ≤ se ∧ se ≤ 40 ∧ 1 ≤ ea ∧ 2 * ea ≤ se - 2 ∧ se - 2 ≤ 2 * ea + 1) (h1 : 0 ≤ wc ∧ wc ≤ 64) (h2 : rng 0 255 zd) (h3 : rng 0 255 zw) (h4 : rng 0 (se-1) zh) (h5 : rng 0 255 zn) (h6 : wh0 = 0 ∨ wh0 = 1) : Ct lw_T l yX6_zeros cX6_zeros 3 none { frames := 3, cells := 0, slots := 0, locals := 66 } 0 0 D cls5 (TY K) [.ref o, .int (iZ wh0)] [oX6 o th se ea dk wt wh wc nw ru ed wa sq ar en sd wg tk cp co ki ke mn ak dg uk ud, aI K dk 20480 zd, aI K wt 32768 zw, aI K wh 64 zh, aI K nw 512 zn] (fun vr wo => ∃ (wc2 : Int), ∃ (zd2 : Nat → Int), ∃ (zw2 : Nat → Int), ∃ (zh2 : Nat → Int), ∃ (zn2 : Nat → Int), vr = none ∧ wo = [oX6 o th se ea dk wt wh wc2 nw ru ed wa sq ar en sd wg tk cp co ki ke mn ak dg uk ud, aI K dk 20480 zd2, aI K wt 32768 zw2, aI K wh 64 zh2, aI K nw 512 zn2] ∧ (0 ≤ wc2 ∧ wc2 ≤ 64) ∧ (rng 0 255 zd2) ∧ (rng 0 255 zw2) ∧ (rng 0 (se-1) zh2) ∧ (rng 0 255 zn2)) := by
  refine ct_of (own := RX6) (lv := [(0, .ref o), (1, .int (iZ wh0))]) (by decide) rfl (Nat.le_of_ble_eq_true rfl) rfl (fun C F hr hnm hzl => ?_)
  subst hzl
  refine z_aload_n F 0 dX6_zeros_0 rfl ?_
  refine z_callV F lw_good (k_X6_clear _ D K o th se ea dk wt wh wc nw ru ed wa sq ar en sd wg tk cp co ki ke mn ak dg uk ud zn h5) t3_187 t1_6 t3_184 t3_186 (q := (RX6, TX6, 26)) ts_25 ⟨rfl, rfl⟩ ndX6_clear ⟨Nat.le_of_ble_eq_true rfl, Nat.le_of_ble_eq_true rfl⟩ 0 rfl rfl (rest := []) rfl (Nat.le_of_ble_eq_true rfl) dX6_zeros_1 ⟨(show 0 + 0 ≤ 0 by omega), (show 0 + 0 ≤ 0 by omega)⟩ (wr := [aI K dk 20480 zd, aI K wt 32768 zw, aI K wh 64 zh]) ([0, 4] : List Nat) ([1, 2, 3] : List Nat) rfl rfl rfl rfl (by decide) (fun vr wo hp => ?_)
  obtain ⟨zn2_1, rfl, rfl, f2⟩ := hp
  refine z_re F (ws' := [oX6 o th se ea dk wt wh wc nw ru ed wa sq ar en sd wg tk cp co ki ke mn ak dg uk ud, aI K dk 20480 zd, aI K wt 32768 zw, aI K wh 64 zh, aI K nw 512 zn2_1]) (st' := []) ([3, 0, 1, 2, 4] : List Nat) rfl rfl rfl ?_
  refine z_iconst F dX6_zeros_4 ?_
  refine z_istore_n F (lv' := [(2, .int (iZ 0)), (0, .ref o), (1, .int (iZ wh0))]) dX6_zeros_5 (by decide) rfl ?_
  have lp6 : ∀ (nn6 : Nat) (i : Int) (w1 : Int) (d1 : Nat → Int) (q1 : Nat → Int) (h1 : Nat → Int), (0 ≤ i ∧ i ≤ ea) → (0 ≤ w1 ∧ w1 ≤ 64) → (rng 0 255 d1) → (rng 0 255 q1) → (rng 0 (se-1) h1) → ((ea - i : Int).toNat < nn6) → Go C { frames := 3, cells := 0, slots := 0, locals := 66 } D cls5 3 0 0 [oX6 o th se ea dk wt wh w1 nw ru ed wa sq ar en sd wg tk cp co ki ke mn ak dg uk ud, aI K dk 20480 d1, aI K wt 32768 q1, aI K wh 64 h1, aI K nw 512 zn2_1] 6 [(2, .int (iZ i)), (0, .ref o), (1, .int (iZ wh0))] [] := by
    intro nn6
    induction nn6 with
    | zero => intro i w1 d1 q1 h1 g6_0 g6_1 g6_2 g6_3 g6_4 hmu6; exact absurd hmu6 (Nat.not_lt_zero _)
    | succ nn6 ih6 =>
      intro i w1 d1 q1 h1 g6_0 g6_1 g6_2 g6_3 g6_4 hmu6
      refine z_iload_n F 0 dX6_zeros_6 rfl ?_
      refine z_aload_n F 1 dX6_zeros_7 rfl ?_
      refine z_get F 0 2 iX6 rfl rfl (by decide) t3_78 rfl dX6_zeros_8 ?_
      refine z_icmp_ge F 34 dX6_zeros_11 (by decide) (by omega) (fun c3 => ?_) (fun c3 => ?_)
      · exact z_vret F hr dX6_zeros_34 (by omega) ⟨w1, d1, q1, h1, zn2_1, rfl, rfl, g6_1, g6_2, g6_3, g6_4, f2⟩
      · refine z_aload_n F 1 dX6_zeros_14 rfl ?_
        refine z_iconst F dX6_zeros_15 ?_
        refine z_iload_n F 2 dX6_zeros_16 rfl ?_
        refine z_aload_n F 1 dX6_zeros_17 rfl ?_
        refine z_get F 0 2 iX6 rfl rfl (by decide) t3_78 rfl dX6_zeros_18 ?_
        refine z_imul F dX6_zeros_21 ?_
        refine z_iadd F dX6_zeros_22 ?_
        refine z_iload_n F 0 dX6_zeros_23 rfl ?_
        refine z_iadd F dX6_zeros_24 ?_
        have hwz : 2 ≤ ((2 + (wh0 * ea)) + i) ∧ ((2 + (wh0 * ea)) + i) ≤ se - 1 := by rcases h6 with q | q <;> rw [q] <;> omega
        refine z_callV F lw_good (k_X6_send _ D K o th se ea dk wt wh w1 nw ru ed wa sq ar en sd wg tk cp co ki ke mn ak dg uk ud d1 q1 h1 zn2_1 ((2 + (wh0 * ea)) + i) (by omega) g6_1 g6_2 g6_3 g6_4 f2 (by omega)) t3_191 t1_6 t3_188 t3_190 (q := (RX6, TX6, 26)) ts_26 ⟨rfl, rfl⟩ ndX6_send ⟨Nat.le_of_ble_eq_true rfl, Nat.le_of_ble_eq_true rfl⟩ 0 rfl rfl (rest := []) rfl (Nat.le_of_ble_eq_true rfl) dX6_zeros_25 ⟨(show 0 + 0 ≤ 0 by omega), (show 0 + 0 ≤ 0 by omega)⟩ (wr := []) ([0, 1, 2, 3, 4] : List Nat) ([] : List Nat) rfl rfl rfl rfl (by decide) (fun vr wo hp => ?_)
        obtain ⟨wc2_4, zd2_5, zw2_6, zh2_7, rfl, rfl, f8, f9, f10, f11⟩ := hp
        refine z_re F (ws' := [oX6 o th se ea dk wt wh wc2_4 nw ru ed wa sq ar en sd wg tk cp co ki ke mn ak dg uk ud, aI K dk 20480 zd2_5, aI K wt 32768 zw2_6, aI K wh 64 zh2_7, aI K nw 512 zn2_1]) (st' := []) ([0, 1, 2, 3, 4] : List Nat) rfl rfl rfl ?_
        refine z_iinc F (lv' := [(2, .int (iZ (i + 1))), (0, .ref o), (1, .int (iZ wh0))]) 0 dX6_zeros_28 rfl (by decide) rfl ?_
        refine z_goto F 6 dX6_zeros_31 (by decide) ?_
        exact ih6 (i + 1) wc2_4 zd2_5 zw2_6 zh2_7 (by omega) f8 f9 f10 f11 (by omega)
  exact lp6 ((ea - 0 : Int).toNat + 1) 0 wc zd zw zh (by omega) h1 h2 h3 h4 (Nat.lt_succ_self _)
set_option maxHeartbeats 4000000 in
set_option maxRecDepth 20000 in
theorem k_X6_head (l : Launch) (D : va_G) (K : KI) (o : Nat) (th : Int) (se : Int) (ea : Int) (dk : Nat) (wt : Nat) (wh : Nat) (wc : Int) (nw : Nat) (ru : Int) (ed : Int) (wa : Int) (sq : Int) (ar : Int) (en : Int) (sd : Int) (wg : Int) (tk : Int) (cp : Int) (co : Int) (ki : Nat) (ke : Nat) (mn : Nat) (ak : Nat) (dg : Nat) (uk : Nat) (ud : Nat) (zd : Nat → Int) (zw : Nat → Int) (zh : Nat → Int) (zn : Nat → Int) (h0 : 4 ≤ se ∧ se ≤ 40 ∧ 1 ≤ ea ∧ 2 * ea ≤ se - 2 ∧ se - 2 ≤ 2 * ea + 1) (h1 : 0 ≤ wc ∧ wc ≤ 64) (h2 : rng 0 255 zd) (h3 : rng 0 255 zw) (h4 : rng 0 (se-1) zh) (h5 : rng 0 255 zn) (h6 : 0 ≤ ar ∧ ar ≤ 1) (h7 : 0 ≤ sq ∧ sq ≤ 2100000100) : Ct lw_T l yX6_head cX6_head 1 none { frames := 3, cells := 0, slots := 0, locals := 66 } 0 0 D cls5 (TY K) [.ref o] [oX6 o th se ea dk wt wh wc nw ru ed wa sq ar en sd wg tk cp co ki ke mn ak dg uk ud, aI K dk 20480 zd, aI K wt 32768 zw, aI K wh 64 zh, aI K nw 512 zn] (fun vr wo => ∃ (wc2 : Int), ∃ (zd2 : Nat → Int), ∃ (zw2 : Nat → Int), ∃ (zh2 : Nat → Int), ∃ (zn2 : Nat → Int), vr = none ∧ wo = [oX6 o th se ea dk wt wh wc2 nw ru ed wa (sq + 1) ar en sd wg tk cp co ki ke mn ak dg uk ud, aI K dk 20480 zd2, aI K wt 32768 zw2, aI K wh 64 zh2, aI K nw 512 zn2] ∧ (0 ≤ wc2 ∧ wc2 ≤ 64) ∧ (rng 0 255 zd2) ∧ (rng 0 255 zw2) ∧ (rng 0 (se-1) zh2) ∧ (rng 0 255 zn2)) := by
  refine ct_of (own := RX6) (lv := [(0, .ref o)]) (by decide) rfl (Nat.le_of_ble_eq_true rfl) rfl (fun C F hr hnm hzl => ?_)
  subst hzl
  refine z_aload_n F 0 dX6_head_0 rfl ?_
  refine z_dup F dX6_head_1 rfl ?_
  refine z_get F 0 11 iX6 rfl rfl (by decide) t3_87 rfl dX6_head_2 ?_
  refine z_iconst F dX6_head_5 ?_
  refine z_iadd F dX6_head_6 ?_
  refine z_put F (ws' := [oX6 o th se ea dk wt wh wc nw ru ed wa (sq + 1) ar en sd wg tk cp co ki ke mn ak dg uk ud, aI K dk 20480 zd, aI K wt 32768 zw, aI K wh 64 zh, aI K nw 512 zn]) 0 11 iX6 tyX6 tyX6_ok nmX6 rfl rfl (by decide) t3_87 rfl rfl rfl rfl (Nat.le_of_ble_eq_true rfl) dX6_head_7 rfl ?_
  refine z_aload_n F 0 dX6_head_10 rfl ?_
  refine z_callV F lw_good (k_X6_clear _ D K o th se ea dk wt wh wc nw ru ed wa (sq + 1) ar en sd wg tk cp co ki ke mn ak dg uk ud zn h5) t3_187 t1_6 t3_184 t3_186 (q := (RX6, TX6, 26)) ts_25 ⟨rfl, rfl⟩ ndX6_clear ⟨Nat.le_of_ble_eq_true rfl, Nat.le_of_ble_eq_true rfl⟩ 0 rfl rfl (rest := []) rfl (Nat.le_of_ble_eq_true rfl) dX6_head_11 ⟨(show 0 + 0 ≤ 0 by omega), (show 0 + 0 ≤ 0 by omega)⟩ (wr := [aI K dk 20480 zd, aI K wt 32768 zw, aI K wh 64 zh]) ([0, 4] : List Nat) ([1, 2, 3] : List Nat) rfl rfl rfl rfl (by decide) (fun vr wo hp => ?_)
  obtain ⟨zn2_1, rfl, rfl, f2⟩ := hp
  refine z_re F (ws' := [oX6 o th se ea dk wt wh wc nw ru ed wa (sq + 1) ar en sd wg tk cp co ki ke mn ak dg uk ud, aI K dk 20480 zd, aI K wt 32768 zw, aI K wh 64 zh, aI K nw 512 zn2_1]) (st' := []) ([3, 0, 1, 2, 4] : List Nat) rfl rfl rfl ?_
  refine z_aload_n F 0 dX6_head_14 rfl ?_
  refine z_iconst F dX6_head_15 ?_
  refine z_aload_n F 0 dX6_head_16 rfl ?_
  refine z_get F 0 9 iX6 rfl rfl (by decide) t3_85 rfl dX6_head_17 ?_
  refine z_i2l F dX6_head_20 ?_
  refine z_iconst F dX6_head_21 ?_
  refine z_callV F lw_good (k_X6_put _ D K o th se ea dk wt wh wc nw ru ed wa (sq + 1) ar en sd wg tk cp co ki ke mn ak dg uk ud zn2_1 0 ((iZ ed).toInt64) 4 (by omega) f2) t3_230 t1_6 t3_227 t3_229 (q := (RX6, TX6, 26)) ts_34 ⟨rfl, rfl⟩ ndX6_put ⟨Nat.le_of_ble_eq_true rfl, Nat.le_of_ble_eq_true rfl⟩ 0 rfl rfl (rest := []) rfl (Nat.le_of_ble_eq_true rfl) dX6_head_22 ⟨(show 0 + 0 ≤ 0 by omega), (show 0 + 0 ≤ 0 by omega)⟩ (wr := [aI K dk 20480 zd, aI K wt 32768 zw, aI K wh 64 zh]) ([0, 4] : List Nat) ([1, 2, 3] : List Nat) rfl rfl rfl rfl (by decide) (fun vr wo hp => ?_)
  obtain ⟨zn2_3, rfl, rfl, f4⟩ := hp
  refine z_re F (ws' := [oX6 o th se ea dk wt wh wc nw ru ed wa (sq + 1) ar en sd wg tk cp co ki ke mn ak dg uk ud, aI K dk 20480 zd, aI K wt 32768 zw, aI K wh 64 zh, aI K nw 512 zn2_3]) (st' := []) ([3, 0, 1, 2, 4] : List Nat) rfl rfl rfl ?_
  refine z_aload_n F 0 dX6_head_25 rfl ?_
  refine z_iconst F dX6_head_26 ?_
  refine z_aload_n F 0 dX6_head_27 rfl ?_
  refine z_get F 0 11 iX6 rfl rfl (by decide) t3_87 rfl dX6_head_28 ?_
  refine z_i2l F dX6_head_31 ?_
  refine z_iconst F dX6_head_32 ?_
  refine z_callV F lw_good (k_X6_put _ D K o th se ea dk wt wh wc nw ru ed wa (sq + 1) ar en sd wg tk cp co ki ke mn ak dg uk ud zn2_3 4 ((iZ (sq + 1)).toInt64) 4 (by omega) f4) t3_230 t1_6 t3_227 t3_229 (q := (RX6, TX6, 26)) ts_34 ⟨rfl, rfl⟩ ndX6_put ⟨Nat.le_of_ble_eq_true rfl, Nat.le_of_ble_eq_true rfl⟩ 0 rfl rfl (rest := []) rfl (Nat.le_of_ble_eq_true rfl) dX6_head_33 ⟨(show 0 + 0 ≤ 0 by omega), (show 0 + 0 ≤ 0 by omega)⟩ (wr := [aI K dk 20480 zd, aI K wt 32768 zw, aI K wh 64 zh]) ([0, 4] : List Nat) ([1, 2, 3] : List Nat) rfl rfl rfl rfl (by decide) (fun vr wo hp => ?_)
  obtain ⟨zn2_5, rfl, rfl, f6⟩ := hp
  refine z_re F (ws' := [oX6 o th se ea dk wt wh wc nw ru ed wa (sq + 1) ar en sd wg tk cp co ki ke mn ak dg uk ud, aI K dk 20480 zd, aI K wt 32768 zw, aI K wh 64 zh, aI K nw 512 zn2_5]) (st' := []) ([3, 0, 1, 2, 4] : List Nat) rfl rfl rfl ?_
  refine z_aload_n F 0 dX6_head_36 rfl ?_
  refine z_get F 0 7 iX6 rfl rfl (by decide) t3_83 rfl dX6_head_37 ?_
  refine z_bipush F dX6_head_40 (by decide) ?_
  refine z_aload_n F 0 dX6_head_42 rfl ?_
  refine z_get F 0 12 iX6 rfl rfl (by decide) t3_88 rfl dX6_head_43 ?_
  refine z_iast F (ws' := [oX6 o th se ea dk wt wh wc nw ru ed wa (sq + 1) ar en sd wg tk cp co ki ke mn ak dg uk ud, aI K dk 20480 zd, aI K wt 32768 zw, aI K wh 64 zh, aI K nw 512 (zu zn2_5 (8 : Int).toNat ar)]) 4 rfl rfl dX6_head_46 (by omega) (by omega) rfl ?_
  have r7 : rng 0 255 (zu zn2_5 (8 : Int).toNat ar) := rng_zu f6 (by omega)
  refine z_aload_n F 0 dX6_head_47 rfl ?_
  refine z_sipush F dX6_head_48 (by decide) ?_
  refine z_aload_n F 0 dX6_head_51 rfl ?_
  refine z_iconst F dX6_head_52 ?_
  refine z_sipush F dX6_head_53 (by decide) ?_
  refine z_aload_n F 0 dX6_head_56 rfl ?_
  refine z_get F 0 11 iX6 rfl rfl (by decide) t3_87 rfl dX6_head_57 ?_
  refine z_callV F lw_good (k_X6_sum _ D K o th se ea dk wt wh wc nw ru ed wa (sq + 1) ar en sd wg tk cp co ki ke mn ak dg uk ud (zu zn2_5 (8 : Int).toNat ar) 0 508 (sq + 1) (by omega)) t3_175 t1_6 t3_172 t3_174 (q := (RX6, TX6, 26)) ts_23 ⟨rfl, rfl⟩ ndX6_sum ⟨Nat.le_of_ble_eq_true rfl, Nat.le_of_ble_eq_true rfl⟩ 0 rfl rfl (rest := [.int (iZ 508), .ref o]) rfl (Nat.le_of_ble_eq_true rfl) dX6_head_60 ⟨(show 0 + 0 ≤ 0 by omega), (show 0 + 0 ≤ 0 by omega)⟩ (wr := [aI K dk 20480 zd, aI K wt 32768 zw, aI K wh 64 zh]) ([0, 4] : List Nat) ([1, 2, 3] : List Nat) rfl rfl rfl rfl (by decide) (fun vr wo hp => ?_)
  obtain ⟨r_8, rfl, rfl, f9, f10⟩ := hp
  refine z_re F (ws' := [oX6 o th se ea dk wt wh wc nw ru ed wa (sq + 1) ar en sd wg tk cp co ki ke mn ak dg uk ud, aI K dk 20480 zd, aI K wt 32768 zw, aI K wh 64 zh, aI K nw 512 (zu zn2_5 (8 : Int).toNat ar)]) (st' := [.int (iZ r_8), .int (iZ 508), .ref o]) ([3, 0, 1, 2, 4] : List Nat) rfl rfl rfl ?_
  refine z_i2l F dX6_head_63 ?_
  refine z_iconst F dX6_head_64 ?_
  refine z_callV F lw_good (k_X6_put _ D K o th se ea dk wt wh wc nw ru ed wa (sq + 1) ar en sd wg tk cp co ki ke mn ak dg uk ud (zu zn2_5 (8 : Int).toNat ar) 508 ((iZ r_8).toInt64) 4 (by omega) r7) t3_230 t1_6 t3_227 t3_229 (q := (RX6, TX6, 26)) ts_34 ⟨rfl, rfl⟩ ndX6_put ⟨Nat.le_of_ble_eq_true rfl, Nat.le_of_ble_eq_true rfl⟩ 0 rfl rfl (rest := []) rfl (Nat.le_of_ble_eq_true rfl) dX6_head_65 ⟨(show 0 + 0 ≤ 0 by omega), (show 0 + 0 ≤ 0 by omega)⟩ (wr := [aI K dk 20480 zd, aI K wt 32768 zw, aI K wh 64 zh]) ([0, 4] : List Nat) ([1, 2, 3] : List Nat) rfl rfl rfl rfl (by decide) (fun vr wo hp => ?_)
  obtain ⟨zn2_11, rfl, rfl, f12⟩ := hp
  refine z_re F (ws' := [oX6 o th se ea dk wt wh wc nw ru ed wa (sq + 1) ar en sd wg tk cp co ki ke mn ak dg uk ud, aI K dk 20480 zd, aI K wt 32768 zw, aI K wh 64 zh, aI K nw 512 zn2_11]) (st' := []) ([3, 0, 1, 2, 4] : List Nat) rfl rfl rfl ?_
  refine z_aload_n F 0 dX6_head_68 rfl ?_
  refine z_aload_n F 0 dX6_head_69 rfl ?_
  refine z_get F 0 11 iX6 rfl rfl (by decide) t3_87 rfl dX6_head_70 ?_
  refine z_iconst F dX6_head_73 ?_
  refine z_irem F dX6_head_74 (by omega) (by omega) ?_
  refine z_nm F (fun q13 eq13 => ?_)
  have hq13 := md_spec (sq + 1) 2 (by omega)
  rw [← eq13] at hq13
  refine z_callV F lw_good (k_X6_send _ D K o th se ea dk wt wh wc nw ru ed wa (sq + 1) ar en sd wg tk cp co ki ke mn ak dg uk ud zd zw zh zn2_11 q13 (by omega) h1 h2 h3 h4 f12 (by omega)) t3_191 t1_6 t3_188 t3_190 (q := (RX6, TX6, 26)) ts_26 ⟨rfl, rfl⟩ ndX6_send ⟨Nat.le_of_ble_eq_true rfl, Nat.le_of_ble_eq_true rfl⟩ 0 rfl rfl (rest := []) rfl (Nat.le_of_ble_eq_true rfl) dX6_head_75 ⟨(show 0 + 0 ≤ 0 by omega), (show 0 + 0 ≤ 0 by omega)⟩ (wr := []) ([0, 1, 2, 3, 4] : List Nat) ([] : List Nat) rfl rfl rfl rfl (by decide) (fun vr wo hp => ?_)
  obtain ⟨wc2_14, zd2_15, zw2_16, zh2_17, rfl, rfl, f18, f19, f20, f21⟩ := hp
  refine z_re F (ws' := [oX6 o th se ea dk wt wh wc2_14 nw ru ed wa (sq + 1) ar en sd wg tk cp co ki ke mn ak dg uk ud, aI K dk 20480 zd2_15, aI K wt 32768 zw2_16, aI K wh 64 zh2_17, aI K nw 512 zn2_11]) (st' := []) ([0, 1, 2, 3, 4] : List Nat) rfl rfl rfl ?_
  exact z_vret F hr dX6_head_78 (by omega) ⟨wc2_14, zd2_15, zw2_16, zh2_17, zn2_11, rfl, rfl, f18, f19, f20, f21, f12⟩
set_option maxHeartbeats 4000000 in
set_option maxRecDepth 20000 in
theorem k_X6_changeHeads (l : Launch) (D : va_G) (K : KI) (o : Nat) (th : Int) (se : Int) (ea : Int) (dk : Nat) (wt : Nat) (wh : Nat) (wc : Int) (nw : Nat) (ru : Int) (ed : Int) (wa : Int) (sq : Int) (ar : Int) (en : Int) (sd : Int) (wg : Int) (tk : Int) (cp : Int) (co : Int) (ki : Nat) (ke : Nat) (mn : Nat) (ak : Nat) (dg : Nat) (uk : Nat) (ud : Nat) (zd : Nat → Int) (zw : Nat → Int) (zh : Nat → Int) (zn : Nat → Int) (h0 : 4 ≤ se ∧ se ≤ 40 ∧ 1 ≤ ea ∧ 2 * ea ≤ se - 2 ∧ se - 2 ≤ 2 * ea + 1) (h1 : 0 ≤ wc ∧ wc ≤ 64) (h2 : rng 0 255 zd) (h3 : rng 0 255 zw) (h4 : rng 0 (se-1) zh) (h5 : rng 0 255 zn) (h6 : 0 ≤ ar ∧ ar ≤ 1) (h7 : 0 ≤ sq ∧ sq ≤ 2100000000) : Ct lw_T l yX6_changeHeads cX6_changeHeads 1 none { frames := 4, cells := 0, slots := 0, locals := 86 } 0 0 D cls5 (TY K) [.ref o] [oX6 o th se ea dk wt wh wc nw ru ed wa sq ar en sd wg tk cp co ki ke mn ak dg uk ud, aI K dk 20480 zd, aI K wt 32768 zw, aI K wh 64 zh, aI K nw 512 zn] (fun vr wo => ∃ (wc2 : Int), ∃ (zd2 : Nat → Int), ∃ (zw2 : Nat → Int), ∃ (zh2 : Nat → Int), ∃ (zn2 : Nat → Int), vr = none ∧ wo = [oX6 o th se ea dk wt wh wc2 nw ru ed wa ((sq + 1) + 1) ar en sd wg tk cp co ki ke mn ak dg uk ud, aI K dk 20480 zd2, aI K wt 32768 zw2, aI K wh 64 zh2, aI K nw 512 zn2] ∧ (0 ≤ wc2 ∧ wc2 ≤ 64) ∧ (rng 0 255 zd2) ∧ (rng 0 255 zw2) ∧ (rng 0 (se-1) zh2) ∧ (rng 0 255 zn2)) := by
  refine ct_of (own := RX6) (lv := [(0, .ref o)]) (by decide) rfl (Nat.le_of_ble_eq_true rfl) rfl (fun C F hr hnm hzl => ?_)
  subst hzl
  refine z_aload_n F 0 dX6_changeHeads_0 rfl ?_
  refine z_callV F lw_good (k_X6_head _ D K o th se ea dk wt wh wc nw ru ed wa sq ar en sd wg tk cp co ki ke mn ak dg uk ud zd zw zh zn h0 h1 h2 h3 h4 h5 h6 (by omega)) t3_226 t1_6 t3_223 t3_225 (q := (RX6, TX6, 26)) ts_33 ⟨rfl, rfl⟩ ndX6_head ⟨Nat.le_of_ble_eq_true rfl, Nat.le_of_ble_eq_true rfl⟩ 0 rfl rfl (rest := []) rfl (Nat.le_of_ble_eq_true rfl) dX6_changeHeads_1 ⟨(show 0 + 0 ≤ 0 by omega), (show 0 + 0 ≤ 0 by omega)⟩ (wr := []) ([0, 1, 2, 3, 4] : List Nat) ([] : List Nat) rfl rfl rfl rfl (by decide) (fun vr wo hp => ?_)
  obtain ⟨wc2_1, zd2_2, zw2_3, zh2_4, zn2_5, rfl, rfl, f6, f7, f8, f9, f10⟩ := hp
  refine z_re F (ws' := [oX6 o th se ea dk wt wh wc2_1 nw ru ed wa (sq + 1) ar en sd wg tk cp co ki ke mn ak dg uk ud, aI K dk 20480 zd2_2, aI K wt 32768 zw2_3, aI K wh 64 zh2_4, aI K nw 512 zn2_5]) (st' := []) ([0, 1, 2, 3, 4] : List Nat) rfl rfl rfl ?_
  refine z_aload_n F 0 dX6_changeHeads_4 rfl ?_
  refine z_callV F lw_good (k_X6_head _ D K o th se ea dk wt wh wc2_1 nw ru ed wa (sq + 1) ar en sd wg tk cp co ki ke mn ak dg uk ud zd2_2 zw2_3 zh2_4 zn2_5 h0 f6 f7 f8 f9 f10 h6 (by omega)) t3_226 t1_6 t3_223 t3_225 (q := (RX6, TX6, 26)) ts_33 ⟨rfl, rfl⟩ ndX6_head ⟨Nat.le_of_ble_eq_true rfl, Nat.le_of_ble_eq_true rfl⟩ 0 rfl rfl (rest := []) rfl (Nat.le_of_ble_eq_true rfl) dX6_changeHeads_5 ⟨(show 0 + 0 ≤ 0 by omega), (show 0 + 0 ≤ 0 by omega)⟩ (wr := []) ([0, 1, 2, 3, 4] : List Nat) ([] : List Nat) rfl rfl rfl rfl (by decide) (fun vr wo hp => ?_)
  obtain ⟨wc2_11, zd2_12, zw2_13, zh2_14, zn2_15, rfl, rfl, f16, f17, f18, f19, f20⟩ := hp
  refine z_re F (ws' := [oX6 o th se ea dk wt wh wc2_11 nw ru ed wa ((sq + 1) + 1) ar en sd wg tk cp co ki ke mn ak dg uk ud, aI K dk 20480 zd2_12, aI K wt 32768 zw2_13, aI K wh 64 zh2_14, aI K nw 512 zn2_15]) (st' := []) ([0, 1, 2, 3, 4] : List Nat) rfl rfl rfl ?_
  exact z_vret F hr dX6_changeHeads_8 (by omega) ⟨wc2_11, zd2_12, zw2_13, zh2_14, zn2_15, rfl, rfl, f16, f17, f18, f19, f20⟩
set_option maxHeartbeats 4000000 in
set_option maxRecDepth 20000 in
theorem k_X6_isHead (l : Launch) (D : va_G) (K : KI) (o : Nat) (th : Int) (se : Int) (ea : Int) (dk : Nat) (wt : Nat) (wh : Nat) (wc : Int) (nw : Nat) (ru : Int) (ed : Int) (wa : Int) (sq : Int) (ar : Int) (en : Int) (sd : Int) (wg : Int) (tk : Int) (cp : Int) (co : Int) (ki : Nat) (ke : Nat) (mn : Nat) (ak : Nat) (dg : Nat) (uk : Nat) (ud : Nat) (zd : Nat → Int) (zw : Nat → Int) (zh : Nat → Int) (zn : Nat → Int) (n : Int) (h0 : 4 ≤ se ∧ se ≤ 40) (h1 : 0 ≤ wc ∧ wc ≤ 64) (h2 : rng 0 255 zd) (h3 : rng 0 255 zw) (h4 : rng 0 (se-1) zh) (h5 : rng 0 255 zn) (h6 : 0 ≤ n ∧ n ≤ 1) : Ct lw_T l yX6_isHead cX6_isHead 3 (some .boolean) { frames := 2, cells := 0, slots := 0, locals := 46 } 0 0 D cls5 (TY K) [.ref o, .int (iZ n)] [oX6 o th se ea dk wt wh wc nw ru ed wa sq ar en sd wg tk cp co ki ke mn ak dg uk ud, aI K dk 20480 zd, aI K wt 32768 zw, aI K wh 64 zh, aI K nw 512 zn] (fun vr wo => ∃ (r : Int), ∃ (zn2 : Nat → Int), vr = some (.int (iZ r)) ∧ wo = [oX6 o th se ea dk wt wh wc nw ru ed wa sq ar en sd wg tk cp co ki ke mn ak dg uk ud, aI K dk 20480 zd, aI K wt 32768 zw, aI K wh 64 zh, aI K nw 512 zn2] ∧ (r = 0 ∨ r = 1) ∧ (rng 0 255 zn2) ∧ (wc = 0 → ∀ j : Nat, j < 512 → zn2 j = zd (512 * n + j).toNat) ∧ (r = 1 → 0 ≤ zn2 8 ∧ zn2 8 ≤ 1) ∧ (r = 1 → ∀ q : Int, (-2147483648 ≤ q ∧ q ≤ 2147483647) → iZ q = numF zn2 4 4 → 0 ≤ q ∧ q ≤ 1999999999) ∧ ((∀ j, zd j = 0) → wc = 0 → r = 0)) := by
  refine ct_of (own := RX6) (lv := [(0, .ref o), (1, .int (iZ n))]) (by decide) rfl (Nat.le_of_ble_eq_true rfl) rfl (fun C F hr hnm hzl => ?_)
  subst hzl
  refine z_aload_n F 0 dX6_isHead_0 rfl ?_
  refine z_iload_n F 1 dX6_isHead_1 rfl ?_
  refine z_callV F lw_good (k_X6_load _ D K o th se ea dk wt wh wc nw ru ed wa sq ar en sd wg tk cp co ki ke mn ak dg uk ud zd zw zh zn n h0 h1 h2 h3 h4 h5 (by omega)) t3_166 t1_6 t3_163 t3_165 (q := (RX6, TX6, 26)) ts_21 ⟨rfl, rfl⟩ ndX6_load ⟨Nat.le_of_ble_eq_true rfl, Nat.le_of_ble_eq_true rfl⟩ 0 rfl rfl (rest := []) rfl (Nat.le_of_ble_eq_true rfl) dX6_isHead_2 ⟨(show 0 + 0 ≤ 0 by omega), (show 0 + 0 ≤ 0 by omega)⟩ (wr := []) ([0, 1, 2, 3, 4] : List Nat) ([] : List Nat) rfl rfl rfl rfl (by decide) (fun vr wo hp => ?_)
  obtain ⟨zn2_1, rfl, rfl, f2, f3⟩ := hp
  refine z_re F (ws' := [oX6 o th se ea dk wt wh wc nw ru ed wa sq ar en sd wg tk cp co ki ke mn ak dg uk ud, aI K dk 20480 zd, aI K wt 32768 zw, aI K wh 64 zh, aI K nw 512 zn2_1]) (st' := []) ([0, 1, 2, 3, 4] : List Nat) rfl rfl rfl ?_
  have hlf := f3
  refine z_aload_n F 0 dX6_isHead_5 rfl ?_
  refine z_iconst F dX6_isHead_6 ?_
  refine z_iconst F dX6_isHead_7 ?_
  refine z_callV F lw_good (k_X6_number _ D K o th se ea dk wt wh wc nw ru ed wa sq ar en sd wg tk cp co ki ke mn ak dg uk ud zn2_1 4 4 (by omega)) t3_170 t1_6 t3_167 t3_169 (q := (RX6, TX6, 26)) ts_22 ⟨rfl, rfl⟩ ndX6_number ⟨Nat.le_of_ble_eq_true rfl, Nat.le_of_ble_eq_true rfl⟩ 0 rfl rfl (rest := []) rfl (Nat.le_of_ble_eq_true rfl) dX6_isHead_8 ⟨(show 0 + 0 ≤ 0 by omega), (show 0 + 0 ≤ 0 by omega)⟩ (wr := [aI K dk 20480 zd, aI K wt 32768 zw, aI K wh 64 zh]) ([0, 4] : List Nat) ([1, 2, 3] : List Nat) rfl rfl rfl rfl (by decide) (fun vr wo hp => ?_)
  obtain ⟨r_4, rfl, rfl, f5, f6⟩ := hp
  refine z_re F (ws' := [oX6 o th se ea dk wt wh wc nw ru ed wa sq ar en sd wg tk cp co ki ke mn ak dg uk ud, aI K dk 20480 zd, aI K wt 32768 zw, aI K wh 64 zh, aI K nw 512 zn2_1]) (st' := [.int (iZ r_4)]) ([3, 0, 1, 2, 4] : List Nat) rfl rfl rfl ?_
  have hnr := f5; have hnf := f6
  refine z_istore_n F (lv' := [(2, .int (iZ r_4)), (0, .ref o), (1, .int (iZ n))]) dX6_isHead_11 (by decide) rfl ?_
  refine z_iload_n F 0 dX6_isHead_12 rfl ?_
  refine z_if_lt F 64 dX6_isHead_13 (by decide) (by omega) (fun c7 => ?_) (fun c7 => ?_)
  · refine z_iconst F dX6_isHead_64 ?_
    exact z_zret F hr (by decide) dX6_isHead_65 (by omega) ⟨0, zn2_1, rfl, rfl, (by omega), f2, (hlf), (by first | (intro q; exact absurd q (by decide)) | exact fun _ => (by omega : 0 ≤ zn2_1 (8 : Int).toNat ∧ zn2_1 (8 : Int).toNat ≤ 1)), (by first | (intro q; exact absurd q (by decide)) | (intro _ q hq e; have e2 := (iZ_eq ⟨hq, hnr⟩).mp (e.trans hnf.symm); omega)), (by first | exact fun _ _ => rfl | (intro hz hw; exfalso; have z1 := fun j hj => (hlf hw j hj).trans (hz _); have z2 := numF_0 (fr := 4) (c := 4) z1 (by decide); have z3 := numF_0 (fr := 508) (c := 4) z1 (by decide); have z4 := (iZ_eq (b := 0) ⟨hnr, by decide⟩).mp (hnf.trans z2); have z5 := (iZ_eq (b := 0) ⟨hmr, by decide⟩).mp (hmf.trans z3); have z6 := hsf z1 z4; omega))⟩
  · refine z_iload_n F 0 dX6_isHead_16 rfl ?_
    refine z_ldc F t3_171 dX6_isHead_17 (z := 2000000000) (by decide) ?_
    refine z_icmp_ge F 64 dX6_isHead_19 (by decide) (by omega) (fun c8 => ?_) (fun c8 => ?_)
    · refine z_iconst F dX6_isHead_64 ?_
      exact z_zret F hr (by decide) dX6_isHead_65 (by omega) ⟨0, zn2_1, rfl, rfl, (by omega), f2, (hlf), (by first | (intro q; exact absurd q (by decide)) | exact fun _ => (by omega : 0 ≤ zn2_1 (8 : Int).toNat ∧ zn2_1 (8 : Int).toNat ≤ 1)), (by first | (intro q; exact absurd q (by decide)) | (intro _ q hq e; have e2 := (iZ_eq ⟨hq, hnr⟩).mp (e.trans hnf.symm); omega)), (by first | exact fun _ _ => rfl | (intro hz hw; exfalso; have z1 := fun j hj => (hlf hw j hj).trans (hz _); have z2 := numF_0 (fr := 4) (c := 4) z1 (by decide); have z3 := numF_0 (fr := 508) (c := 4) z1 (by decide); have z4 := (iZ_eq (b := 0) ⟨hnr, by decide⟩).mp (hnf.trans z2); have z5 := (iZ_eq (b := 0) ⟨hmr, by decide⟩).mp (hmf.trans z3); have z6 := hsf z1 z4; omega))⟩
    · refine z_iload_n F 0 dX6_isHead_22 rfl ?_
      refine z_iconst F dX6_isHead_23 ?_
      refine z_irem F dX6_isHead_24 (by omega) (by omega) ?_
      refine z_nm F (fun q9 eq9 => ?_)
      have hq9 := md_spec r_4 2 (by omega)
      rw [← eq9] at hq9
      refine z_iload_n F 2 dX6_isHead_25 rfl ?_
      refine z_icmp_ne F 64 dX6_isHead_26 (by decide) (by omega) (fun c10 => ?_) (fun c10 => ?_)
      · refine z_iconst F dX6_isHead_64 ?_
        exact z_zret F hr (by decide) dX6_isHead_65 (by omega) ⟨0, zn2_1, rfl, rfl, (by omega), f2, (hlf), (by first | (intro q; exact absurd q (by decide)) | exact fun _ => (by omega : 0 ≤ zn2_1 (8 : Int).toNat ∧ zn2_1 (8 : Int).toNat ≤ 1)), (by first | (intro q; exact absurd q (by decide)) | (intro _ q hq e; have e2 := (iZ_eq ⟨hq, hnr⟩).mp (e.trans hnf.symm); omega)), (by first | exact fun _ _ => rfl | (intro hz hw; exfalso; have z1 := fun j hj => (hlf hw j hj).trans (hz _); have z2 := numF_0 (fr := 4) (c := 4) z1 (by decide); have z3 := numF_0 (fr := 508) (c := 4) z1 (by decide); have z4 := (iZ_eq (b := 0) ⟨hnr, by decide⟩).mp (hnf.trans z2); have z5 := (iZ_eq (b := 0) ⟨hmr, by decide⟩).mp (hmf.trans z3); have z6 := hsf z1 z4; omega))⟩
      · have h8 := f2 8
        refine z_aload_n F 1 dX6_isHead_29 rfl ?_
        refine z_get F 0 7 iX6 rfl rfl (by decide) t3_83 rfl dX6_isHead_30 ?_
        refine z_bipush F dX6_isHead_33 (by decide) ?_
        refine z_iald F 4 rfl rfl dX6_isHead_35 (by omega) (by omega) ?_
        have r11 : 0 ≤ zn2_1 (8 : Int).toNat ∧ zn2_1 (8 : Int).toNat ≤ 255 := f2 _
        refine z_iconst F dX6_isHead_36 ?_
        refine z_icmp_ge F 64 dX6_isHead_37 (by decide) (by omega) (fun c12 => ?_) (fun c12 => ?_)
        · refine z_iconst F dX6_isHead_64 ?_
          exact z_zret F hr (by decide) dX6_isHead_65 (by omega) ⟨0, zn2_1, rfl, rfl, (by omega), f2, (hlf), (by first | (intro q; exact absurd q (by decide)) | exact fun _ => (by omega : 0 ≤ zn2_1 (8 : Int).toNat ∧ zn2_1 (8 : Int).toNat ≤ 1)), (by first | (intro q; exact absurd q (by decide)) | (intro _ q hq e; have e2 := (iZ_eq ⟨hq, hnr⟩).mp (e.trans hnf.symm); omega)), (by first | exact fun _ _ => rfl | (intro hz hw; exfalso; have z1 := fun j hj => (hlf hw j hj).trans (hz _); have z2 := numF_0 (fr := 4) (c := 4) z1 (by decide); have z3 := numF_0 (fr := 508) (c := 4) z1 (by decide); have z4 := (iZ_eq (b := 0) ⟨hnr, by decide⟩).mp (hnf.trans z2); have z5 := (iZ_eq (b := 0) ⟨hmr, by decide⟩).mp (hmf.trans z3); have z6 := hsf z1 z4; omega))⟩
        · refine z_aload_n F 1 dX6_isHead_40 rfl ?_
          refine z_sipush F dX6_isHead_41 (by decide) ?_
          refine z_iconst F dX6_isHead_44 ?_
          refine z_callV F lw_good (k_X6_number _ D K o th se ea dk wt wh wc nw ru ed wa sq ar en sd wg tk cp co ki ke mn ak dg uk ud zn2_1 508 4 (by omega)) t3_170 t1_6 t3_167 t3_169 (q := (RX6, TX6, 26)) ts_22 ⟨rfl, rfl⟩ ndX6_number ⟨Nat.le_of_ble_eq_true rfl, Nat.le_of_ble_eq_true rfl⟩ 0 rfl rfl (rest := []) rfl (Nat.le_of_ble_eq_true rfl) dX6_isHead_45 ⟨(show 0 + 0 ≤ 0 by omega), (show 0 + 0 ≤ 0 by omega)⟩ (wr := [aI K dk 20480 zd, aI K wt 32768 zw, aI K wh 64 zh]) ([0, 4] : List Nat) ([1, 2, 3] : List Nat) rfl rfl rfl rfl (by decide) (fun vr wo hp => ?_)
          obtain ⟨r_13, rfl, rfl, f14, f15⟩ := hp
          refine z_re F (ws' := [oX6 o th se ea dk wt wh wc nw ru ed wa sq ar en sd wg tk cp co ki ke mn ak dg uk ud, aI K dk 20480 zd, aI K wt 32768 zw, aI K wh 64 zh, aI K nw 512 zn2_1]) (st' := [.int (iZ r_13)]) ([3, 0, 1, 2, 4] : List Nat) rfl rfl rfl ?_
          have hmr := f14; have hmf := f15
          refine z_aload_n F 1 dX6_isHead_48 rfl ?_
          refine z_iconst F dX6_isHead_49 ?_
          refine z_sipush F dX6_isHead_50 (by decide) ?_
          refine z_iload_n F 0 dX6_isHead_53 rfl ?_
          refine z_callV F lw_good (k_X6_sum _ D K o th se ea dk wt wh wc nw ru ed wa sq ar en sd wg tk cp co ki ke mn ak dg uk ud zn2_1 0 508 r_4 (by omega)) t3_175 t1_6 t3_172 t3_174 (q := (RX6, TX6, 26)) ts_23 ⟨rfl, rfl⟩ ndX6_sum ⟨Nat.le_of_ble_eq_true rfl, Nat.le_of_ble_eq_true rfl⟩ 0 rfl rfl (rest := [.int (iZ r_13)]) rfl (Nat.le_of_ble_eq_true rfl) dX6_isHead_54 ⟨(show 0 + 0 ≤ 0 by omega), (show 0 + 0 ≤ 0 by omega)⟩ (wr := [aI K dk 20480 zd, aI K wt 32768 zw, aI K wh 64 zh]) ([0, 4] : List Nat) ([1, 2, 3] : List Nat) rfl rfl rfl rfl (by decide) (fun vr wo hp => ?_)
          obtain ⟨r_16, rfl, rfl, f17, f18⟩ := hp
          refine z_re F (ws' := [oX6 o th se ea dk wt wh wc nw ru ed wa sq ar en sd wg tk cp co ki ke mn ak dg uk ud, aI K dk 20480 zd, aI K wt 32768 zw, aI K wh 64 zh, aI K nw 512 zn2_1]) (st' := [.int (iZ r_16), .int (iZ r_13)]) ([3, 0, 1, 2, 4] : List Nat) rfl rfl rfl ?_
          have hsf := f18
          refine z_icmp_ne F 64 dX6_isHead_57 (by decide) (by omega) (fun c19 => ?_) (fun c19 => ?_)
          · refine z_iconst F dX6_isHead_64 ?_
            exact z_zret F hr (by decide) dX6_isHead_65 (by omega) ⟨0, zn2_1, rfl, rfl, (by omega), f2, (hlf), (by first | (intro q; exact absurd q (by decide)) | exact fun _ => (by omega : 0 ≤ zn2_1 (8 : Int).toNat ∧ zn2_1 (8 : Int).toNat ≤ 1)), (by first | (intro q; exact absurd q (by decide)) | (intro _ q hq e; have e2 := (iZ_eq ⟨hq, hnr⟩).mp (e.trans hnf.symm); omega)), (by first | exact fun _ _ => rfl | (intro hz hw; exfalso; have z1 := fun j hj => (hlf hw j hj).trans (hz _); have z2 := numF_0 (fr := 4) (c := 4) z1 (by decide); have z3 := numF_0 (fr := 508) (c := 4) z1 (by decide); have z4 := (iZ_eq (b := 0) ⟨hnr, by decide⟩).mp (hnf.trans z2); have z5 := (iZ_eq (b := 0) ⟨hmr, by decide⟩).mp (hmf.trans z3); have z6 := hsf z1 z4; omega))⟩
          · refine z_iconst F dX6_isHead_60 ?_
            refine z_goto F 65 dX6_isHead_61 (by decide) ?_
            exact z_zret F hr (by decide) dX6_isHead_65 (by omega) ⟨1, zn2_1, rfl, rfl, (by omega), f2, (hlf), (by first | (intro q; exact absurd q (by decide)) | exact fun _ => (by omega : 0 ≤ zn2_1 (8 : Int).toNat ∧ zn2_1 (8 : Int).toNat ≤ 1)), (by first | (intro q; exact absurd q (by decide)) | (intro _ q hq e; have e2 := (iZ_eq ⟨hq, hnr⟩).mp (e.trans hnf.symm); omega)), (by first | exact fun _ _ => rfl | (intro hz hw; exfalso; have z1 := fun j hj => (hlf hw j hj).trans (hz _); have z2 := numF_0 (fr := 4) (c := 4) z1 (by decide); have z3 := numF_0 (fr := 508) (c := 4) z1 (by decide); have z4 := (iZ_eq (b := 0) ⟨hnr, by decide⟩).mp (hnf.trans z2); have z5 := (iZ_eq (b := 0) ⟨hmr, by decide⟩).mp (hmf.trans z3); have z6 := hsf z1 z4; omega))⟩
