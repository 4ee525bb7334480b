set_option maxHeartbeats 4000000 in
set_option maxRecDepth 20000 in
theorem k_X3_wrongCount (l : Launch) (D : va_G) (K : KI) (y : Nat) (yk : Nat) (yn : Nat) (yc : Nat) (ya : Nat) (yd : Nat) (yl : Nat) (lp : Int) (re : Int) (wp : Int) (lw : Int)  : Ct lw_T l yX3_wrongCount cX3_wrongCount 1 (some .int) { frames := 0, cells := 0, slots := 0, locals := 0 } 0 0 D cls5 (TY K) [.ref y] [oX3 y yk yn yc ya yd yl lp re wp lw] (fun vr wo => vr = some (.int (iZ wp)) ∧ wo = [oX3 y yk yn yc ya yd yl lp re wp lw]) := by
  refine ct_of (own := RX3) (lv := [(0, .ref y)]) (by decide) rfl (Nat.le_of_ble_eq_true rfl) rfl (fun C F hr hnm hzl => ?_)
  subst hzl
  refine z_aload_n F 0 dX3_wrongCount_0 rfl ?_
  refine z_get F 0 8 iX3 rfl rfl (by decide) t1_71 rfl dX3_wrongCount_1 ?_
  exact z_iret F hr dX3_wrongCount_4 (by omega) ⟨rfl, rfl⟩
set_option maxHeartbeats 4000000 in
set_option maxRecDepth 20000 in
theorem k_X3_end (l : Launch) (D : va_G) (K : KI) (y : Nat) (yk : Nat) (yn : Nat) (yc : Nat) (ya : Nat) (yd : Nat) (yl : Nat) (lp : Int) (re : Int) (wp : Int) (lw : Int)  : Ct lw_T l yX3_end cX3_end 1 (some .int) { frames := 0, cells := 0, slots := 0, locals := 0 } 0 0 D cls5 (TY K) [.ref y] [oX3 y yk yn yc ya yd yl lp re wp lw] (fun vr wo => vr = some (.int (iZ re)) ∧ wo = [oX3 y yk yn yc ya yd yl lp re wp lw]) := by
  refine ct_of (own := RX3) (lv := [(0, .ref y)]) (by decide) rfl (Nat.le_of_ble_eq_true rfl) rfl (fun C F hr hnm hzl => ?_)
  subst hzl
  refine z_aload_n F 0 dX3_end_0 rfl ?_
  refine z_get F 0 7 iX3 rfl rfl (by decide) t1_70 rfl dX3_end_1 ?_
  exact z_iret F hr dX3_end_4 (by omega) ⟨rfl, rfl⟩
set_option maxHeartbeats 4000000 in
set_option maxRecDepth 20000 in
theorem k_X3_places (l : Launch) (D : va_G) (K : KI) (y : Nat) (yk : Nat) (yn : Nat) (yc : Nat) (ya : Nat) (yd : Nat) (yl : Nat) (lp : Int) (re : Int) (wp : Int) (lw : Int) (np : Nat) (zk : Nat → Int) (h0 : np ≤ 304) : Ct lw_T l yX3_places cX3_places 1 (some .int) { frames := 0, cells := 0, slots := 0, locals := 0 } 0 0 D cls5 (TY K) [.ref y] [oX3 y yk yn yc ya yd yl lp re wp lw, aI K yk np zk] (fun vr wo => vr = some (.int (iZ (np : Int))) ∧ wo = [oX3 y yk yn yc ya yd yl lp re wp lw, aI K yk np zk]) := by
  refine ct_of (own := RX3) (lv := [(0, .ref y)]) (by decide) rfl (Nat.le_of_ble_eq_true rfl) rfl (fun C F hr hnm hzl => ?_)
  subst hzl
  refine z_aload_n F 0 dX3_places_0 rfl ?_
  refine z_get F 0 0 iX3 rfl rfl (by decide) t1_63 rfl dX3_places_1 ?_
  refine z_alen F 1 0 rfl rfl dX3_places_4 ?_
  exact z_iret F hr dX3_places_5 (by omega) ⟨rfl, rfl⟩
set_option maxHeartbeats 4000000 in
set_option maxRecDepth 20000 in
theorem k_X3_indexPlace (l : Launch) (D : va_G) (K : KI) (y : Nat) (yk : Nat) (yn : Nat) (yc : Nat) (ya : Nat) (yd : Nat) (yl : Nat) (lp : Int) (re : Int) (wp : Int) (lw : Int) (np : Nat) (zk : Nat → Int) (zn : Nat → Int) (zl : Nat → Int) (pl : Int) (h0 : 1 ≤ np ∧ np ≤ 304) (h1 : 0 ≤ re ∧ re ≤ np) (h2 : rng (-1) (np-1) zl) (h3 : nmOk zk zn) (h4 : 0 ≤ pl ∧ pl ≤ np - 1) (h5 : -1 ≤ lp ∧ lp ≤ np - 1 ∧ 0 ≤ wp ∧ wp ≤ pl ∧ -1 ≤ lw ∧ lw ≤ np - 1) (h6 : rng 0 3 zk) : Ct lw_T l yX3_indexPlace cX3_indexPlace 2 none { frames := 0, cells := 0, slots := 0, locals := 0 } 0 0 D cls5 (TY K) [.ref y, .int (iZ pl)] [oX3 y yk yn yc ya yd yl lp re wp lw, aI K yk np zk, aI K yn np zn, aI K yl 64 zl] (fun vr wo => ∃ (lp2 : Int), ∃ (wp2 : Int), ∃ (lw2 : Int), ∃ (zl2 : Nat → Int), vr = none ∧ wo = [oX3 y yk yn yc ya yd yl lp2 re wp2 lw2, aI K yk np zk, aI K yn np zn, aI K yl 64 zl2] ∧ (-1 ≤ lp2 ∧ lp2 ≤ np - 1 ∧ 0 ≤ wp2 ∧ wp2 ≤ pl + 1 ∧ -1 ≤ lw2 ∧ lw2 ≤ np - 1) ∧ (rng (-1) (np-1) zl2)) := by
  refine ct_of (own := RX3) (lv := [(0, .ref y), (1, .int (iZ pl))]) (by decide) rfl (Nat.le_of_ble_eq_true rfl) rfl (fun C F hr hnm hzl => ?_)
  subst hzl
  refine z_aload_n F 0 dX3_indexPlace_0 rfl ?_
  refine z_get F 0 0 iX3 rfl rfl (by decide) t1_63 rfl dX3_indexPlace_1 ?_
  refine z_iload_n F 1 dX3_indexPlace_4 rfl ?_
  refine z_iald F 1 rfl rfl dX3_indexPlace_5 (by omega) (by omega) ?_
  have r1 : 0 ≤ zk pl.toNat ∧ zk pl.toNat ≤ 3 := h6 _
  refine z_if_ne F 27 dX3_indexPlace_6 (by decide) (by omega) (fun c2 => ?_) (fun c2 => ?_)
  · refine z_aload_n F 0 dX3_indexPlace_27 rfl ?_
    refine z_get F 0 0 iX3 rfl rfl (by decide) t1_63 rfl dX3_indexPlace_28 ?_
    refine z_iload_n F 1 dX3_indexPlace_31 rfl ?_
    refine z_iald F 1 rfl rfl dX3_indexPlace_32 (by omega) (by omega) ?_
    have r3 : 0 ≤ zk pl.toNat ∧ zk pl.toNat ≤ 3 := h6 _
    refine z_iconst F dX3_indexPlace_33 ?_
    refine z_icmp_ne F 52 dX3_indexPlace_34 (by decide) (by omega) (fun c4 => ?_) (fun c4 => ?_)
    · refine z_aload_n F 0 dX3_indexPlace_52 rfl ?_
      refine z_iload_n F 1 dX3_indexPlace_53 rfl ?_
      refine z_put F (ws' := [oX3 y yk yn yc ya yd yl pl re wp lw, aI K yk np zk, aI K yn np zn, aI K yl 64 zl]) 0 6 iX3 tyX3 tyX3_ok nmX3 rfl rfl (by decide) t1_69 rfl rfl rfl rfl (Nat.le_of_ble_eq_true rfl) dX3_indexPlace_54 rfl ?_
      exact z_vret F hr dX3_indexPlace_57 (by omega) ⟨pl, wp, lw, zl, rfl, rfl, (by omega), h2⟩
    · have hnm1 := h3 pl.toNat (by omega)
      refine z_aload_n F 0 dX3_indexPlace_37 rfl ?_
      refine z_get F 0 5 iX3 rfl rfl (by decide) t1_68 rfl dX3_indexPlace_38 ?_
      refine z_aload_n F 0 dX3_indexPlace_41 rfl ?_
      refine z_get F 0 1 iX3 rfl rfl (by decide) t1_64 rfl dX3_indexPlace_42 ?_
      refine z_iload_n F 1 dX3_indexPlace_45 rfl ?_
      refine z_iald F 2 rfl rfl dX3_indexPlace_46 (by omega) (by omega) ?_
      refine z_iload_n F 1 dX3_indexPlace_47 rfl ?_
      refine z_iast F (ws' := [oX3 y yk yn yc ya yd yl lp re wp lw, aI K yk np zk, aI K yn np zn, aI K yl 64 (zu zl (zn pl.toNat).toNat pl)]) 3 rfl rfl dX3_indexPlace_48 (by omega) (by omega) rfl ?_
      have r5 : rng (-1) (np-1) (zu zl (zn pl.toNat).toNat pl) := rng_zu h2 (by omega)
      refine z_goto F 57 dX3_indexPlace_49 (by decide) ?_
      exact z_vret F hr dX3_indexPlace_57 (by omega) ⟨lp, wp, lw, (zu zl (zn pl.toNat).toNat pl), rfl, rfl, (by omega), r5⟩
  · refine z_aload_n F 0 dX3_indexPlace_9 rfl ?_
    refine z_dup F dX3_indexPlace_10 rfl ?_
    refine z_get F 0 8 iX3 rfl rfl (by decide) t1_71 rfl dX3_indexPlace_11 ?_
    refine z_iconst F dX3_indexPlace_14 ?_
    refine z_iadd F dX3_indexPlace_15 ?_
    refine z_put F (ws' := [oX3 y yk yn yc ya yd yl lp re (wp + 1) lw, aI K yk np zk, aI K yn np zn, aI K yl 64 zl]) 0 8 iX3 tyX3 tyX3_ok nmX3 rfl rfl (by decide) t1_71 rfl rfl rfl rfl (Nat.le_of_ble_eq_true rfl) dX3_indexPlace_16 rfl ?_
    refine z_aload_n F 0 dX3_indexPlace_19 rfl ?_
    refine z_iload_n F 1 dX3_indexPlace_20 rfl ?_
    refine z_put F (ws' := [oX3 y yk yn yc ya yd yl lp re (wp + 1) pl, aI K yk np zk, aI K yn np zn, aI K yl 64 zl]) 0 9 iX3 tyX3 tyX3_ok nmX3 rfl rfl (by decide) t1_72 rfl rfl rfl rfl (Nat.le_of_ble_eq_true rfl) dX3_indexPlace_21 rfl ?_
    refine z_goto F 57 dX3_indexPlace_24 (by decide) ?_
    exact z_vret F hr dX3_indexPlace_57 (by omega) ⟨lp, (wp + 1), pl, zl, rfl, rfl, (by omega), h2⟩
set_option maxHeartbeats 4000000 in
set_option maxRecDepth 20000 in
theorem k_X3_index (l : Launch) (D : va_G) (K : KI) (y : Nat) (yk : Nat) (yn : Nat) (yc : Nat) (ya : Nat) (yd : Nat) (yl : Nat) (lp : Int) (re : Int) (wp : Int) (lw : Int) (np : Nat) (zk : Nat → Int) (zn : Nat → Int) (zl : Nat → Int) (h0 : 1 ≤ np ∧ np ≤ 304) (h1 : 0 ≤ re ∧ re ≤ np) (h2 : rng (-1) (np-1) zl) (h3 : nmOk zk zn) (h4 : rng 0 3 zk) : Ct lw_T l yX3_index cX3_index 2 none { frames := 1, cells := 0, slots := 0, locals := 21 } 0 0 D cls5 (TY K) [.ref y] [oX3 y yk yn yc ya yd yl lp re wp lw, aI K yk np zk, aI K yn np zn, aI K yl 64 zl] (fun vr wo => ∃ (lp2 : Int), ∃ (wp2 : Int), ∃ (lw2 : Int), ∃ (zl2 : Nat → Int), vr = none ∧ wo = [oX3 y yk yn yc ya yd yl lp2 re wp2 lw2, aI K yk np zk, aI K yn np zn, aI K yl 64 zl2] ∧ (-1 ≤ lp2 ∧ lp2 ≤ np - 1 ∧ 0 ≤ wp2 ∧ wp2 ≤ re ∧ -1 ≤ lw2 ∧ lw2 ≤ np - 1) ∧ (rng (-1) (np-1) zl2)) := by
  refine ct_of (own := RX3) (lv := [(0, .ref y)]) (by decide) rfl (Nat.le_of_ble_eq_true rfl) rfl (fun C F hr hnm hzl => ?_)
  subst hzl
  refine z_iconst F dX3_index_0 ?_
  refine z_istore_n F (lv' := [(1, .int (iZ 0)), (0, .ref y)]) dX3_index_1 (by decide) rfl ?_
  have lp2 : ∀ (nn2 : Nat) (i : Int) (w : Nat → Int), (0 ≤ i ∧ i ≤ 64) → (rng (-1) (np-1) w) → ((64 - i : Int).toNat < nn2) → Go C { frames := 1, cells := 0, slots := 0, locals := 21 } D cls5 2 0 0 [oX3 y yk yn yc ya yd yl lp re wp lw, aI K yk np zk, aI K yn np zn, aI K yl 64 w] 2 [(1, .int (iZ i)), (0, .ref y)] [] := by
    intro nn2
    induction nn2 with
    | zero => intro i w g2_0 g2_1 hmu2; exact absurd hmu2 (Nat.not_lt_zero _)
    | succ nn2 ih2 =>
      intro i w g2_0 g2_1 hmu2
      refine z_iload_n F 0 dX3_index_2 rfl ?_
      refine z_bipush F dX3_index_3 (by decide) ?_
      refine z_icmp_ge F 21 dX3_index_5 (by decide) (by omega) (fun c1 => ?_) (fun c1 => ?_)
      · refine z_aload_n F 1 dX3_index_21 rfl ?_
        refine z_iconst F dX3_index_22 ?_
        refine z_put F (ws' := [oX3 y yk yn yc ya yd yl (-1) re wp lw, aI K yk np zk, aI K yn np zn, aI K yl 64 w]) 0 6 iX3 tyX3 tyX3_ok nmX3 rfl rfl (by decide) t1_69 rfl rfl rfl rfl (Nat.le_of_ble_eq_true rfl) dX3_index_23 rfl ?_
        refine z_aload_n F 1 dX3_index_26 rfl ?_
        refine z_iconst F dX3_index_27 ?_
        refine z_put F (ws' := [oX3 y yk yn yc ya yd yl (-1) re 0 lw, aI K yk np zk, aI K yn np zn, aI K yl 64 w]) 0 8 iX3 tyX3 tyX3_ok nmX3 rfl rfl (by decide) t1_71 rfl rfl rfl rfl (Nat.le_of_ble_eq_true rfl) dX3_index_28 rfl ?_
        refine z_aload_n F 1 dX3_index_31 rfl ?_
        refine z_iconst F dX3_index_32 ?_
        refine z_put F (ws' := [oX3 y yk yn yc ya yd yl (-1) re 0 (-1), aI K yk np zk, aI K yn np zn, aI K yl 64 w]) 0 9 iX3 tyX3 tyX3_ok nmX3 rfl rfl (by decide) t1_72 rfl rfl rfl rfl (Nat.le_of_ble_eq_true rfl) dX3_index_33 rfl ?_
        refine z_iconst F dX3_index_36 ?_
        refine z_istore_n F (lv' := [(1, .int (iZ 0)), (0, .ref y)]) dX3_index_37 (by decide) rfl ?_
        have lp38 : ∀ (nn38 : Nat) (i : Int) (a6 : Int) (a8 : Int) (a9 : Int) (w : Nat → Int), (0 ≤ i ∧ i ≤ re) → (-1 ≤ a6 ∧ a6 ≤ np - 1 ∧ 0 ≤ a8 ∧ a8 ≤ i ∧ -1 ≤ a9 ∧ a9 ≤ np - 1) → (rng (-1) (np-1) w) → ((re - i : Int).toNat < nn38) → Go C { frames := 1, cells := 0, slots := 0, locals := 21 } D cls5 2 0 0 [oX3 y yk yn yc ya yd yl a6 re a8 a9, aI K yk np zk, aI K yn np zn, aI K yl 64 w] 38 [(1, .int (iZ i)), (0, .ref y)] [] := by
          intro nn38
          induction nn38 with
          | zero => intro i a6 a8 a9 w g38_0 g38_1 g38_2 hmu38; exact absurd hmu38 (Nat.not_lt_zero _)
          | succ nn38 ih38 =>
            intro i a6 a8 a9 w g38_0 g38_1 g38_2 hmu38
            refine z_iload_n F 0 dX3_index_38 rfl ?_
            refine z_aload_n F 1 dX3_index_39 rfl ?_
            refine z_get F 0 7 iX3 rfl rfl (by decide) t1_70 rfl dX3_index_40 ?_
            refine z_icmp_ge F 57 dX3_index_43 (by decide) (by omega) (fun c2 => ?_) (fun c2 => ?_)
            · exact z_vret F hr dX3_index_57 (by omega) ⟨a6, a8, a9, w, rfl, rfl, (by omega), g38_2⟩
            · refine z_aload_n F 1 dX3_index_46 rfl ?_
              refine z_iload_n F 0 dX3_index_47 rfl ?_
              refine z_callV F lw_good (k_X3_indexPlace _ D K y yk yn yc ya yd yl a6 re a8 a9 np zk zn w i h0 h1 g38_2 h3 (by omega) g38_1 h4) t1_203 t1_4 t1_200 t1_202 (q := (RX3, TX3, 10)) ts_3 ⟨rfl, rfl⟩ ndX3_indexPlace ⟨Nat.le_of_ble_eq_true rfl, Nat.le_of_ble_eq_true rfl⟩ 0 rfl rfl (rest := []) rfl (Nat.le_of_ble_eq_true rfl) dX3_index_48 ⟨(show 0 + 0 ≤ 0 by omega), (show 0 + 0 ≤ 0 by omega)⟩ (wr := []) ([0, 1, 2, 3] : List Nat) ([] : List Nat) rfl rfl rfl rfl (by decide) (fun vr wo hp => ?_)
              obtain ⟨lp2_3, wp2_4, lw2_5, zl2_6, rfl, rfl, f7, f8⟩ := hp
              refine z_re F (ws' := [oX3 y yk yn yc ya yd yl lp2_3 re wp2_4 lw2_5, aI K yk np zk, aI K yn np zn, aI K yl 64 zl2_6]) (st' := []) ([0, 1, 2, 3] : List Nat) rfl rfl rfl ?_
              refine z_iinc F (lv' := [(1, .int (iZ (i + 1))), (0, .ref y)]) 0 dX3_index_51 rfl (by decide) rfl ?_
              refine z_goto F 38 dX3_index_54 (by decide) ?_
              exact ih38 (i + 1) lp2_3 wp2_4 lw2_5 zl2_6 (by omega) (by omega) f8 (by omega)
        exact lp38 ((re - 0 : Int).toNat + 1) 0 (-1) 0 (-1) w (by omega) (by omega) g2_1 (Nat.lt_succ_self _)
      · refine z_aload_n F 1 dX3_index_8 rfl ?_
        refine z_get F 0 5 iX3 rfl rfl (by decide) t1_68 rfl dX3_index_9 ?_
        refine z_iload_n F 0 dX3_index_12 rfl ?_
        refine z_iconst F dX3_index_13 ?_
        refine z_iast F (ws' := [oX3 y yk yn yc ya yd yl lp re wp lw, aI K yk np zk, aI K yn np zn, aI K yl 64 (zu w i.toNat (-1))]) 3 rfl rfl dX3_index_14 (by omega) (by omega) rfl ?_
        have r9 : rng (-1) (np-1) (zu w i.toNat (-1)) := rng_zu g2_1 (by omega)
        refine z_iinc F (lv' := [(1, .int (iZ (i + 1))), (0, .ref y)]) 0 dX3_index_15 rfl (by decide) rfl ?_
        refine z_goto F 2 dX3_index_18 (by decide) ?_
        exact ih2 (i + 1) (zu w i.toNat (-1)) (by omega) r9 (by omega)
  exact lp2 ((64 - 0 : Int).toNat + 1) 0 zl (by omega) h2 (Nat.lt_succ_self _)
set_option maxHeartbeats 4000000 in
set_option maxRecDepth 20000 in
theorem k_X3_clear (l : Launch) (D : va_G) (K : KI) (y : Nat) (yk : Nat) (yn : Nat) (yc : Nat) (ya : Nat) (yd : Nat) (yl : Nat) (lp : Int) (re : Int) (wp : Int) (lw : Int) (np : Nat) (zk : Nat → Int) (zn : Nat → Int) (zl : Nat → Int) (h0 : 1 ≤ np ∧ np ≤ 304) (h1 : rng (-1) (np-1) zl) (h2 : nmOk zk zn) (h3 : rng 0 3 zk) : Ct lw_T l yX3_clear cX3_clear 1 none { frames := 2, cells := 0, slots := 0, locals := 42 } 0 0 D cls5 (TY K) [.ref y] [oX3 y yk yn yc ya yd yl lp re wp lw, aI K yk np zk, aI K yn np zn, aI K yl 64 zl] (fun vr wo => ∃ (lp2 : Int), ∃ (lw2 : Int), ∃ (zl2 : Nat → Int), vr = none ∧ wo = [oX3 y yk yn yc ya yd yl lp2 0 0 lw2, aI K yk np zk, aI K yn np zn, aI K yl 64 zl2] ∧ (-1 ≤ lp2 ∧ lp2 ≤ np - 1 ∧ -1 ≤ lw2 ∧ lw2 ≤ np - 1) ∧ (rng (-1) (np-1) zl2)) := by
  refine ct_of (own := RX3) (lv := [(0, .ref y)]) (by decide) rfl (Nat.le_of_ble_eq_true rfl) rfl (fun C F hr hnm hzl => ?_)
  subst hzl
  refine z_aload_n F 0 dX3_clear_0 rfl ?_
  refine z_iconst F dX3_clear_1 ?_
  refine z_put F (ws' := [oX3 y yk yn yc ya yd yl lp 0 wp lw, aI K yk np zk, aI K yn np zn, aI K yl 64 zl]) 0 7 iX3 tyX3 tyX3_ok nmX3 rfl rfl (by decide) t1_70 rfl rfl rfl rfl (Nat.le_of_ble_eq_true rfl) dX3_clear_2 rfl ?_
  refine z_aload_n F 0 dX3_clear_5 rfl ?_
  refine z_callV F lw_good (k_X3_index _ D K y yk yn yc ya yd yl lp 0 wp lw np zk zn zl h0 (by omega) h1 h2 h3) t1_199 t1_4 t1_196 t1_198 (q := (RX3, TX3, 10)) ts_2 ⟨rfl, rfl⟩ ndX3_index ⟨Nat.le_of_ble_eq_true rfl, Nat.le_of_ble_eq_true rfl⟩ 0 rfl rfl (rest := []) rfl (Nat.le_of_ble_eq_true rfl) dX3_clear_6 ⟨(show 0 + 0 ≤ 0 by omega), (show 0 + 0 ≤ 0 by omega)⟩ (wr := []) ([0, 1, 2, 3] : List Nat) ([] : List Nat) rfl rfl rfl rfl (by decide) (fun vr wo hp => ?_)
  obtain ⟨lp2_1, wp2_2, lw2_3, zl2_4, rfl, rfl, f5, f6⟩ := hp
  refine z_re F (ws' := [oX3 y yk yn yc ya yd yl lp2_1 0 wp2_2 lw2_3, aI K yk np zk, aI K yn np zn, aI K yl 64 zl2_4]) (st' := []) ([0, 1, 2, 3] : List Nat) rfl rfl rfl ?_
  obtain rfl : wp2_2 = 0 := by omega
  exact z_vret F hr dX3_clear_9 (by omega) ⟨lp2_1, lw2_3, zl2_4, rfl, rfl, (by omega), f6⟩
