theorem va_ns {D : va_G} {cl : List vw_C} {ws : va_W} {H : Heap} (hP : va_P D cl ws H) {k a : Nat} {e : va_E} (hk : ws[k]? = some (a, e)) {cell : Cell} (hc : H[a]? = some cell) : cell.vm.isStatics = false := by
  have h := hP k _ hk
  cases e with
  | inl w =>
    have h1 : H[a]? = some (vp_cell w.1 w.2) := h
    rw [hc] at h1
    cases h1
    obtain ⟨cA, n, f | f | f | f | f⟩ := w <;> rfl
  | inr o =>
    obtain ⟨r, -, cell', g1, -, g3, -⟩ := h
    cases hc.symm.trans g1
    rw [g3]; rfl
theorem ct_ofW {l : Launch} {y : MethodName} {bytes : ByteArray} {maxL q : Nat} {ret : Option FieldType} {rm : Room} {mc ms : Nat} {D : va_G} {cl : List vw_C} {tys : List (ClassId × FieldType)} {av : List Value} {wi : va_W} {post : Option Value → va_W → Prop} {own : String} {lv : List (Nat × Value)} {hh : Nat × Nat × Nat × Nat}
    (hy : plainName y.cls = true) (ho : y.cls = own) (hn : (lg_sl av).length ≤ maxL) (hlv : lv_args 0 av = lv)
    (body : ∀ (C : ZC) (x : ExceptionTableEntry), Fx C D cl tys bytes maxL lw_T own → Rt C ret mc ms D cl tys post → zl C = l → zT C q → zX1 C x → (x.startPc, x.endPc, x.handlerPc, x.catchType) = hh → Go C rm D cl maxL 0 0 wi 0 lv []) (sz : Nat) : Met l y (Cond.codeWith y bytes maxL ret [hh] :: lw_T) rm (va_Pc av (PTh D cl tys sz q wi)) (Qo D cl tys (va_A wi sz) post) mc ms (va_A wi sz) := by
  refine va_MetW (cc := bytes) (maxL := maxL) (ret := ret) (hh := [hh]) hy rfl ?_
  intro p e s m args below meth c s₁ B hml hv
  obtain ⟨rfl, ⟨hsz, hP, hK, hD0⟩, hth, hvk⟩ := hv
  have hts := atoms_spec (ws := Cond.codeWith y bytes maxL ret [hh] :: lw_T) B.pre
  have hown : s.vm.findClass own = some m.cls := by rw [← ho]; exact findClass_of_methodNamed B.named
  obtain ⟨m9, meth9, c9, hn9, hm9, hc9, -, -, ht9, -⟩ := Cond.codeWith_spec (hts _ List.mem_cons_self)
  cases B.named.symm.trans hn9
  cases B.method.symm.trans hm9
  cases (Stand.of_body B).code.symm.trans hc9
  obtain ⟨x, hx1, hx2⟩ : ∃ x, c.exceptionTable.toList = [x] ∧ (x.startPc, x.endPc, x.handlerPc, x.catchType) = hh := by
    cases ht : c.exceptionTable.toList with
    | nil => rw [ht] at ht9; cases ht9
    | cons x r =>
      rw [ht] at ht9
      simp only [List.map_cons, List.cons.injEq, List.map_eq_nil_iff] at ht9
      rw [ht9.2]
      exact ⟨x, rfl, ht9.1⟩
  subst hsz
  have hD := hD0.self (sz := s.heap.size)
  have hl := lv_entry av (n := maxL) hn
  rw [lg_entry_eq]
  rw [hlv] at hl
  exact body (p, l, e, s, m, av.toArray, below, meth, c, MQ below (Qo D cl tys (va_A wi s.heap.size) post) av.toArray s mc ms (va_A wi s.heap.size), va_A wi s.heap.size, s.heap) x
    ⟨⟨B.exec, B.bytes, hml, hown, fun w hw => hts w (List.mem_cons_of_mem _ hw)⟩, hK, fun q h => Or.inr h, B.notSynchronized⟩ ⟨B.returns, rfl, rfl⟩ rfl
    ⟨hth, hvk, rfl, fun a cell h1 h2 h3 => by
      rcases h3 with ⟨k, e, h3⟩ | h3
      · rw [va_ns hP h3 h1] at h2; cases h2
      · have := (Array.getElem?_eq_some_iff.mp h1).1; omega⟩ hx1 hx2 s.heap [] _ hP hD va_S.rf hl
set_option maxHeartbeats 4000000 in
set_option maxRecDepth 20000 in
theorem k_L_sector (l : Launch) (hfl : l.flags = flags0) (D : va_G) (K : KI) (x d db dq dt y u xc nb oa q : Nat) (sc wc sa ru ar sq ge ne wa fe tk cp : Int) (zb : Nat → Int) (fo : Nat → Int64) (n i : Int) (hsc : 4 ≤ sc ∧ sc ≤ 40 ∧ (nb : Int) = 512 * sc) (hzb : rng (-128) 127 zb) (hn : -2147483648 ≤ n ∧ n ≤ 2147483647) (hi : -2147483648 ≤ i ∧ i ≤ 2147483647) (sz : Nat) :
    Met l yL_sector (Cond.codeWith yL_sector cL_sector 5 (some .int) [(0, 10, 13, 13)] :: lw_T) { frames := 8, cells := 1, slots := 6, locals := 120 } (va_Pc [.ref x, .int (iZ n), .int (iZ i), .ref oa] (PTh D cls5 (TY K) sz q [oX5 x d y u sa ru ar sq ge ne wa fe tk cp xc, oX0 d sc db dq dt wc, aB K db nb zb, aL K oa 1 fo]))
      (Qo D cls5 (TY K) (va_A [oX5 x d y u sa ru ar sq ge ne wa fe tk cp xc, oX0 d sc db dq dt wc, aB K db nb zb, aL K oa 1 fo] sz) (fun vr wo => ∃ (r : Int) (fo2 : Nat → Int64), vr = some (.int (iZ r)) ∧ wo = [oX5 x d y u sa ru ar sq ge ne wa fe tk cp xc, oX0 d sc db dq dt wc, aB K db nb zb, aL K oa 1 fo2] ∧ (((0 ≤ n ∧ n ≤ sc - 1 ∧ 0 ≤ i ∧ i ≤ 511) ∧ r = 0) ∨ (¬ (0 ≤ n ∧ n ≤ sc - 1 ∧ 0 ≤ i ∧ i ≤ 511) ∧ r = 1)) ∧ (r = 0 → fo2 0 = (iZ (zb ((n * 512) + i).toNat)).toInt64))) 1 6 (va_A [oX5 x d y u sa ru ar sq ge ne wa fe tk cp xc, oX0 d sc db dq dt wc, aB K db nb zb, aL K oa 1 fo] sz) := by
  refine ct_ofW (own := RL) (q := q) (lv := [(0, .ref x), (1, .int (iZ n)), (2, .int (iZ i)), (3, .ref oa)]) (by decide) rfl (Nat.le_of_ble_eq_true rfl) rfl ?_ sz
  intro C ex F hr hzl hzt hzx hex
  subst hzl
  refine z_aload_n F 3 dL_sector_0 rfl ?_
  refine z_iconst F dL_sector_1 ?_
  refine z_aload_n F 0 dL_sector_2 rfl ?_
  refine z_iload_n F 1 dL_sector_3 rfl ?_
  refine z_iload_n F 2 dL_sector_4 rfl ?_
  by_cases hok : 0 ≤ n ∧ n ≤ sc - 1 ∧ 0 ≤ i ∧ i ≤ 511
  · refine z_callV F lw_good (k_X5_sector _ D K x d y u sa ru ar sq ge ne wa fe tk cp xc sc db dq dt wc nb zb n i hsc hzb hok) t2_238 t1_1 t2_235 t2_236 (q := (RX5, TX5, 14)) t2_237 ⟨rfl, rfl⟩ ndX5_sector ⟨Nat.le_of_ble_eq_true rfl, Nat.le_of_ble_eq_true rfl⟩ 0 rfl rfl (rest := [.int (iZ 0), .ref oa]) rfl (Nat.le_of_ble_eq_true rfl) dL_sector_5 ⟨Nat.le_of_ble_eq_true rfl, Nat.le_of_ble_eq_true rfl⟩ (wr := [aL K oa 1 fo]) [0, 1, 2] [3] rfl rfl rfl rfl (by decide) (fun vr wo hp => ?_)
    obtain ⟨rfl, rfl⟩ := hp
    refine z_re F (ws' := [oX5 x d y u sa ru ar sq ge ne wa fe tk cp xc, oX0 d sc db dq dt wc, aB K db nb zb, aL K oa 1 fo]) (st' := [.int (iZ (zb ((n * 512) + i).toNat)), .int (iZ 0), .ref oa]) [1, 2, 3, 0] rfl rfl rfl ?_
    refine z_i2l F dL_sector_8 ?_
    refine z_last F (ws' := [oX5 x d y u sa ru ar sq ge ne wa fe tk cp xc, oX0 d sc db dq dt wc, aB K db nb zb, aL K oa 1 (vp_updL fo (0 : Int).toNat (iZ (zb ((n * 512) + i).toNat)).toInt64)]) 3 rfl rfl dL_sector_9 (by decide) (by decide) rfl ?_
    refine z_goto F 17 dL_sector_10 (by decide) ?_
    refine z_iconst F dL_sector_17 ?_
    exact z_iret F hr dL_sector_18 (by decide) ⟨0, _, rfl, rfl, Or.inl ⟨hok, rfl⟩, fun _ => rfl⟩
  · obtain ⟨sp, ep, hp, ct⟩ := ex
    simp only [Prod.mk.injEq] at hex
    obtain ⟨rfl, rfl, rfl, rfl⟩ := hex
    refine z_thrown F hzt hzx (fun sz => k_throws _ hfl D K x d db dq dt y u xc nb sc wc sa ru ar sq ge ne wa fe tk cp zb n i sz q ⟨hsc.1, hsc.2.1⟩ hn hi hok) t2_238 t1_1 t2_235 t2_236 (vc := (RX5, TX5, 14)) t2_237 ndX5_sector ⟨Nat.le_of_ble_eq_true rfl, Nat.le_of_ble_eq_true rfl⟩ 0 rfl rfl (rest := [.int (iZ 0), .ref oa]) rfl (Nat.le_of_ble_eq_true rfl) dL_sector_5 ⟨Nat.le_of_ble_eq_true rfl, Nat.le_of_ble_eq_true rfl⟩ [0, 1, 2] rfl rfl (by decide) (by decide) t2_234 (fun a => ?_)
    refine z_astore F (lv' := [(4, .ref a), (0, .ref x), (1, .int (iZ n)), (2, .int (iZ i)), (3, .ref oa)]) dL_sector_13 (by decide) rfl ?_
    refine z_iconst F dL_sector_15 ?_
    exact z_iret F hr dL_sector_16 (by decide) ⟨1, fo, rfl, rfl, Or.inr ⟨hok, rfl⟩, fun q => absurd q (by decide)⟩
/-! the law's own calls and reads -/
theorem z_callSW {C : ZC} {R : Room} {D : va_G} {cl : List vw_C} {tys : List (ClassId × FieldType)} {cc bytes : ByteArray} {nL maxL index q : Nat} {own : String} {kc ns mc ms : Nat} {ws wc wr : va_W} {pc : Nat} {lv : List (Nat × Value)} {st : List Value} {post : Option Value → va_W → Prop} {y : MethodName} {ret : Option FieldType} {rm : Room} {As rest : List Value} {hh : List (Nat × Nat × Nat × Nat)}
    (F : Fx C D cl tys cc nL lw_T own) (hzt : zT C q) (hct : ∀ sz, Met (zl C) y (Cond.codeWith y bytes maxL ret hh :: lw_T) rm (va_Pc As (PTh D cl tys sz q wc)) (Qo D cl tys (va_A wc sz) post) mc ms (va_A wc sz)) (hcode : Cond.codeWith y bytes maxL ret hh ∈ lw_T) (hini : Cond.initialized y.cls ∈ lw_T) (hlk : Cond.methodLink own index y ∈ lw_T) (hst0 : Cond.static y ∈ lw_T)
    (hrc : rm.cells = mc ∧ rm.slots = ms) (hd : y.cls ≠ "java/lang/invoke/MethodHandle" ∧ y.cls ≠ "java/lang/invoke/VarHandle" ∧ (parseMethodDescriptor y.desc).map (fun d => d.parameters.length) = some As.length) (hR : rm.frames + 1 ≤ R.frames ∧ 8 + (maxL + 11) + rm.locals ≤ R.locals)
    (hst : st = As.reverse ++ rest) (hroom : (rest.map fun v => v.category).sum ≤ 8) (hdg : decode cc pc = .ok (.invokestatic index, 3)) (hf : kc + mc ≤ R.cells ∧ ns + ms ≤ R.slots)
    (isC isR : List Nat) (hC : isC.map (fun i => ws[i]?) = wc.map some) (hCn : va_nd isC = true) (hRr : isR.map (fun i => ws[i]?) = wr.map some) (hRn : va_nd isR = true) (hdis : ∀ i ∈ isR, i ∉ isC)
    (kk : ∀ (v : Option Value) (wo : va_W), post v wo → Go C R D cl nL (kc + mc) (ns + ms) (wr ++ wo) (pc + 3) lv (v.toList ++ rest)) : Go C R D cl nL kc ns ws pc lv st := by
  obtain ⟨p, l, e, s, m, args, below, meth, c, Q, A, H0⟩ := C
  obtain ⟨⟨hx, hb, hml, hown, hts⟩, hK, hA, hlk0⟩ := F
  obtain ⟨hth, hvk, rfl, hst1⟩ := hzt
  intro H locs ls hP hD hS hl
  have hPc := hP.sub isC (sub_map hC)
  have hDc := hD.sub isC hCn hC
  have hrun : va_Run p l e R s m args below meth c H locs kc ns mc ms (F0 m pc ls st) rest (Qo D cl tys (va_A wc H.size) post As.toArray) (va_A wc H.size) := by
    intro T hT X
    have hK2 : Back l R p e below s args y 3 8 (PreOf R mc ms (va_Pc As (PTh D cl tys H.size q wc))) (PostOf (Qo D cl tys (va_A wc H.size) post) mc ms (va_A wc H.size)) :=
      va_backW (hh := hh) (bytes := bytes) (maxL := maxL) (ret := ret) (hct H.size) PTh.blind hrc.1 hrc.2 hR.1 hR.2 (fun w hw a' U hW => by
        rcases List.mem_cons.mp hw with rfl | hw
        · exact word_at hW (lw_good _ hcode) (hts _ hcode)
        · exact word_at hW (lw_good _ hw) (hts _ hw)) List.mem_cons_self (fun a' U hW => word_at hW (lw_good _ hini) (hts _ hini))
    obtain ⟨mk, methM, cM, hnamed, hmethM, -, -, -, -, -, -, hsigM⟩ := Cond.codeWith_spec (hts _ hcode)
    have hstatic : methM.isStatic = true := Cond.static_spec hnamed hmethM (hts _ hst0)
    obtain ⟨kP, hkP, -⟩ := className_of_methodNamed hnamed
    have hinitP : kP.init = .initialized := Cond.initialized_spec (findClass_of_methodNamed hnamed) hkP (hts _ hini)
    have hlen : As.length = methM.sig.parameters.length := by
      have h2 := hd.2.2
      rw [hsigM] at h2
      exact (Option.some.inj h2).symm
    obtain ⟨vm₁, X₁, hstep₁⟩ := X.invokestatic hx hown (hts _ hlk) hnamed hmethM hstatic hkP hinitP ⟨hd.1, hd.2.1⟩ (g := F0 m pc ls st) rfl (argsL := As) (rest := rest) hlen hst (by rw [hb]; exact hdg)
    obtain ⟨v, ⟨U', l2, c2, s2⟩, X', ⟨g', mk', t, L, e1, e2, hq, h1, hL, h2, h3⟩, hsteps⟩ := hK2 m meth c ⟨T.setVm vm₁, locs, kc, ns⟩ (F0 m pc ls rest) (.invokestatic index) mk As.toArray X₁ rfl (by rw [hml]; exact hl.1) (by rw [hb]; exact hdg) (lv_room hroom) (X₁.named hnamed) ⟨hf.1, hf.2, rfl, ⟨by show T.heap.size = _; rw [hT], by show va_P D cl wc T.heap; rw [hT]; exact hPc, va_K.moved X₁.warmed.alike hK, hDc.weaken (fun _ _ _ _ => trivial)⟩, hth.kept X₁.warmed (fun a cell w1 w2 => by
        show T.heap[a]? = _
        rw [hT, hS.2.1 a (Array.getElem?_eq_some_iff.mp w1).1 (hst1 a cell w1 w2)]
        exact w1), hvk.warm X₁.warmed⟩
    dsimp only [Pt.U, Pt.locs, Pt.cells, Pt.slots] at X' e1 e2 h1 h2 h3 hsteps
    subst h1; subst h2; subst h3
    exact ⟨v, (T.setVm vm₁).calling g' mk' As.toArray, t, U', L, hT, X', hL, e1, e2, hq, fun target h => hstep₁ _ fun acts => by rw [doInvoke_state]; exact hsteps.trans h⟩
  exact z_run hA hP hD hS hl hrun isC isR hC hRr hRn hdis kk
def zX (C : ZC) (b L : Nat) (xs : Nat → Int32) : Prop := match C with
  | (p, l, e, s, m, args, below, meth, c, Q, A, H0) => va_X b L xs s H0 ∧ b < H0.size ∧ ¬ A b ∧ H0 = s.heap
section ZLAW
variable {C : ZC} {R : Room} {D : va_G} {cl : List vw_C} {tys : List (ClassId × FieldType)} {cc : ByteArray} {nL b L : Nat} {zx : Nat → Int} {Ts : List Cond} {own : String} {kc ns : Nat} {ws : va_W} {pc : Nat} {lv : List (Nat × Value)} {st : List Value}
theorem z_sld (F : Fx C D cl tys cc nL Ts own) (hX : zX C b L (zf zx)) {i : Int} (hL : L < 2147483648) (hi : 0 ≤ i ∧ i < L) (hd : decode cc pc = .ok (.iaload, 1)) (k : Go C R D cl nL kc ns ws (pc + 1) lv (.int (iZ (zx i.toNat)) :: st)) : Go C R D cl nL kc ns ws pc lv (.int (iZ i) :: .ref b :: st) := by
  obtain ⟨p, l, e, s, m, args, below, meth, c, Q, A, H0⟩ := C
  obtain ⟨⟨hx, hb, hml, hown, hts⟩, hK, hA, hlk0⟩ := F
  obtain ⟨hX, hbl, hbA, -⟩ := hX
  intro H locs ls hP hD hS hl
  refine va_sld hx hb hX hbl hbA hS (iZ_in hi hL) hd ?_
  rw [iZ_cl ⟨hi.1, by omega⟩]
  exact k H locs ls hP hD hS hl
theorem z_slen (F : Fx C D cl tys cc nL Ts own) (hX : zX C b L (zf zx)) (hd : decode cc pc = .ok (.arraylength, 1)) (k : Go C R D cl nL kc ns ws (pc + 1) lv (.int (iZ (L : Int)) :: st)) : Go C R D cl nL kc ns ws pc lv (.ref b :: st) := by
  obtain ⟨p, l, e, s, m, args, below, meth, c, Q, A, H0⟩ := C
  obtain ⟨⟨hx, hb, hml, hown, hts⟩, hK, hA, hlk0⟩ := F
  obtain ⟨hX, hbl, hbA, -⟩ := hX
  intro H locs ls hP hD hS hl
  refine va_slen hx hb hX hbl hbA hS hd ?_
  rw [iZ_nat]
  exact k H locs ls hP hD hS hl
end ZLAW
def cellV (L : Nat) (zx : Nat → Int) : Int := if 0 < L then zx 0 else 0
set_option maxHeartbeats 4000000 in
theorem k_L_cell (l : Launch) (b L sz : Nat) (zx : Nat → Int) (hL : L < 2147483648) : Met l yL_cell (Cond.code yL_cell cL_cell 2 (some .int) :: lw_T) { frames := 0, cells := 0, slots := 0, locals := 0 } (va_Pc [.ref b, .int (iZ 0)] (fun U => va_X b L (zf zx) U U.heap)) (fun _ st oc t => oc = .returned (some (.int (iZ (cellV L zx)))) ∧ t.heap = st.heap) 0 0 (fun _ => False) := by
  refine Met.ofW (cc := cL_cell) (maxL := 2) (ret := some .int) (by decide) rfl ?_
  intro p e s m args below meth c s₁ B hml hv
  obtain ⟨rfl, hX⟩ := hv
  have hx := B.exec
  have hb := B.bytes
  have hr := B.returns
  have hlk := B.notSynchronized
  have hbl : b < s.heap.size := by
    obtain ⟨scr, h1, -⟩ := hX
    exact (Array.getElem?_eq_some_iff.mp h1).1
  have hl := lv_entry [.ref b, .int (iZ 0)] (n := 2) (Nat.le_of_ble_eq_true rfl)
  rw [lg_entry_eq]
  generalize (lg_sl [.ref b, .int (iZ 0)] ++ List.replicate (2 - (lg_sl [.ref b, .int (iZ 0)]).length) Slot.unset).toArray = ls at hl ⊢
  have hl : lv_has ls 2 [(0, .ref b), (1, .int (iZ 0))] := hl
  have hS : va_S (fun _ => False) s.heap s.heap [] := va_S.rf
  have fin : ∀ (pc : Nat) (v : Int32), v = iZ (cellV L zx) → decode cL_cell pc = .ok (.ireturn, 1) → W p l e (headSpec (Cond.code yL_cell cL_cell 2 (some .int) :: lw_T) { frames := 0, cells := 0, slots := 0, locals := 0 }).room s m ([.ref b, .int (iZ 0)] : List Value).toArray below meth c s.heap [] 0 0 (MQ below (fun _ st oc t => oc = .returned (some (.int (iZ (cellV L zx)))) ∧ t.heap = st.heap) ([.ref b, .int (iZ 0)] : List Value).toArray s 0 0 (fun _ => False)) (F0 m pc ls [.int v]) := by
    intro pc v hv hd
    subst hv
    exact W.iret hx hb hr (fun t ht _ => ⟨rfl, ht⟩) (fun q hq => by cases hq) hd hlk
  refine lv_iload_n hx hb dL_cell_0 rfl (lv_at hl 1 rfl) ?_
  refine lv_aload_n hx hb dL_cell_1 rfl (lv_at hl 0 rfl) ?_
  refine va_slen hx hb hX hbl (fun h => h) hS dL_cell_2 ?_
  rw [iZ_nat]
  refine lv_icmp_ge (tgt := 12) hx hb dL_cell_3 (by decide) (fun c1 => ?_) (fun c1 => ?_)
  · have c1 := (iZ_le (a := (L : Int)) (b := 0) ⟨⟨by omega, by omega⟩, by decide⟩).mp c1
    refine lv_iconst (v := iZ 0) hx hb dL_cell_12 rfl ?_
    exact fin _ _ (by unfold cellV; rw [if_neg (by omega)]) dL_cell_13
  · have c1 : ¬ (L : Int) ≤ 0 := fun z => c1 ((iZ_le (a := (L : Int)) (b := 0) ⟨⟨by omega, by omega⟩, by decide⟩).mpr z)
    refine lv_aload_n hx hb dL_cell_6 rfl (lv_at hl 0 rfl) ?_
    refine lv_iload_n hx hb dL_cell_7 rfl (lv_at hl 1 rfl) ?_
    refine va_sld hx hb hX hbl (fun h => h) hS (iZ_in (n := L) ⟨by omega, by omega⟩ hL) dL_cell_8 ?_
    refine lv_goto (tgt := 13) hx hb dL_cell_9 (by decide) ?_
    exact fin _ _ (by unfold cellV; rw [if_pos (by omega)]; rfl) dL_cell_13
theorem z_cell {C : ZC} {R : Room} {D : va_G} {cl : List vw_C} {tys : List (ClassId × FieldType)} {cc : ByteArray} {nL b L index : Nat} {zx : Nat → Int} {own : String} {kc ns : Nat} {ws : va_W} {pc : Nat} {lv : List (Nat × Value)} {st : List Value} (F : Fx C D cl tys cc nL lw_T own) (hX : zX C b L (zf zx)) (hL : L < 2147483648) (hlk : Cond.methodLink own index yL_cell ∈ lw_T) (hR : 1 ≤ R.frames ∧ 21 ≤ R.locals) (hroom : (st.map fun v => v.category).sum ≤ 8) (hd : decode cc pc = .ok (.invokestatic index, 3)) (hf : kc + 0 ≤ R.cells ∧ ns + 0 ≤ R.slots)
    (k : Go C R D cl nL kc ns ws (pc + 3) lv (.int (iZ (cellV L zx)) :: st)) : Go C R D cl nL kc ns ws pc lv (.int (iZ 0) :: .ref b :: st) := by
  obtain ⟨p, l, e, s, m, args, below, meth, c, Q, A, H0⟩ := C
  obtain ⟨⟨hx, hb, hml, hown, hts⟩, hK, hA, hlk0⟩ := F
  obtain ⟨hX, hbl, hbA, rfl⟩ := hX
  intro H locs ls hP hD hS hl
  have hr := va_runS (p := p) (l := l) (e := e) (R := R) (below := below) (meth := meth) (H := H) (locs := locs) (cells := kc) (slots := ns) (As := [.ref b, .int (iZ 0)]) (rest := st) (n := 2) (g := F0 m pc ls (.int (iZ 0) :: .ref b :: st)) ⟨hx, hb, hml, hown, hts⟩ (k_L_cell l b L 0 zx hL) ⟨callB_ofT (mc := 0) (ms := 0) _ hts lw_good t2_230 rfl rfl t1_0 hlk ndL_cell ⟨hR.1, hR.2⟩, hts _ t2_229⟩ ⟨fun a U g mk q => ⟨q.1, va_X.moved (u := U) (U := U.calling g mk a) (Vm.Alike.refl U.vm) q.2⟩, fun U hU hW => ⟨rfl, (va_X.moved hW.alike hX).kept (by rw [hU]; exact hS.2.1 b hbl hbA)⟩⟩ rfl rfl hl.1 rfl (lv_room hroom) hd hf
  intro T hT X
  obtain ⟨v, st₀, t, T', L', h0, X', hL', e1, e2, ⟨hv, hh⟩, stp⟩ := hr T hT X
  cases hv
  have hTh : T'.heap = H := by rw [e1, hh, h0]
  have X'' : Stand p l e R s m args below meth c T' (locs ++ L') kc ns := X'
  obtain ⟨t2, a1, b1⟩ := k H (locs ++ L') ls hP hD ⟨hS.1, hS.2.1, fun q hq => by
    rcases List.mem_append.mp hq with h | h
    · exact hS.2.2 q h
    · exact (hL' q h).elim⟩ hl T' hTh X''
  exact ⟨t2, stp t2 a1, b1⟩
