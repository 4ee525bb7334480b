/-! a throw of the class's own: what it needs of the state, and that this stays -/
def exN : String := "java/lang/ArrayIndexOutOfBoundsException"
def exUp : List String := ["java/lang/IndexOutOfBoundsException", "java/lang/RuntimeException", "java/lang/Exception"]
def thW : List Cond := Bundle.ownAtoms RX5 174 exN exUp
def thR : Cond → Bool
  | .isRef (.static _ _ _) => true
  | _ => false
def thS : Cond → Bool
  | .laysStatic _ _ _ => true
  | _ => false
def thF (w : Cond) : Bool := w.onTables && w.keepsFace
theorem thW_k : thW.all (fun w => thR w || (thS w || (goodWord w || thF w))) = true := by decide +kernel
theorem th_face {args args' : Array Value} {s U : State} {w : Cond} (hW : s.WarmedH U.vm) (hf : thF w = true) (h : w.before args s = true) : w.before args' U = true := by
  simp only [thF, Bool.and_eq_true] at hf
  have h1 : w.before args (s.setVm U.vm) = true := Cond.before_shiftedFace (State.Shifted.of_warmed hW) w hf.2 h
  exact va_tabs hf.1 (rfl : (s.setVm U.vm).vm = U.vm) h1
theorem thW_in : thW.all (fun w => thR w || decide (w ∈ lw_tbl)) = true := by decide +kernel
theorem thW_ref : thW.all (fun w => !(thR w) || (decide (w = .isRef (.static "java/lang/Throwable" "UNASSIGNED_STACK" "[Ljava/lang/StackTraceElement;")) || decide (w = .isRef (.static "java/lang/Throwable" "SUPPRESSED_SENTINEL" "Ljava/util/List;")))) = true := by decide +kernel
theorem th_isRef {args args' : Array Value} {s U : State} {C n d : String} (hal : s.vm.Alike U.vm) (hk : ∀ (q : Nat) (cell : Cell), s.heap[q]? = some cell → cell.vm.isStatics = true → U.heap[q]? = some cell) (h : (Cond.isRef (.static C n d)).before args s = true) : (Cond.isRef (.static C n d)).before args' U = true := by
  cases hf : s.fieldFound? C n d with
  | none => simp [Cond.before, Cond.holds, Cond.value, Term.eval, State.fieldNamed?, hf] at h
  | some x =>
    obtain ⟨c, k, i, f⟩ := x
    obtain ⟨k', hi', he⟩ := State.fieldFound?_setVm hal hf
    have hi' : U.fieldFound? C n d = some (c, k', i, f) := hi'
    cases hv : (Term.static C n d).eval args s none [] s with
    | none => simp [Cond.before, Cond.holds, Cond.value, hv] at h
    | some v =>
      obtain ⟨hst, a, cell, ha, hcell, -, hslot⟩ := Term.static_spec hf hv
      have ha' : k'.statics = some a := by rw [he]; exact ha
      have hiss : cell.vm.isStatics = true := by
        cases hq : cell.vm.isStatics with
        | true => rfl
        | false => simp [Term.eval, State.fieldNamed?, hf, hst, ha, hcell, hq] at hv
      have hU : U.heap[a]? = some cell := hk a cell hcell hiss
      have e2 : (Term.static C n d).eval args' U none [] U = (Term.static C n d).eval args s none [] s := by
        simp [Term.eval, State.fieldNamed?, hf, hi', hst, ha, ha', hcell, hU]
      simp only [Cond.before, Cond.holds, Cond.value, hv] at h
      simp only [Cond.before, Cond.holds, Cond.value, e2, hv]
      exact h
theorem th_lays {args args' : Array Value} {s U : State} {C n d : String} (hal : s.vm.Alike U.vm) (hk : ∀ (q : Nat) (cell : Cell), s.heap[q]? = some cell → cell.vm.isStatics = true → U.heap[q]? = some cell) (h : (Cond.laysStatic C n d).before args s = true) : (Cond.laysStatic C n d).before args' U = true := by
  obtain ⟨c, k, i, f, a, cell, h1, h2, h3, h4, h5, h6, h7, h8, h9⟩ := Cond.laysStatic_spec h
  obtain ⟨k', hi', he⟩ := State.fieldFound?_setVm hal h2
  have hi' : U.fieldFound? C n d = some (c, k', i, f) := hi'
  have hU : U.heap[a]? = some cell := hk a cell h5 h6
  have e4 : k'.statics = some a := by rw [he]; exact h4
  have e9 : k'.staticTypes[f.slot]? = some f.type := by rw [he]; exact h9
  have e1 : U.vm.findClass C = some c := by rw [hal.findClass]; exact h1
  simp [Cond.before, Cond.holds, Cond.value, e1, hi', e4, hU, h3, h6, h7, h8, e9]
def ThrowOk (U : State) : Prop := ∀ (args : Array Value), ∀ w ∈ thW, w.before args U = true
theorem thr_of {args0 : Array Value} {s U : State} (h : ∀ w ∈ thW, w.before args0 s = true) (hW : s.WarmedH U.vm) (hk : ∀ (q : Nat) (cell : Cell), s.heap[q]? = some cell → cell.vm.isStatics = true → U.heap[q]? = some cell) : ThrowOk U := by
  intro args w hw
  have h1 := List.all_eq_true.mp thW_k w hw
  have h2 := h w hw
  simp only [Bool.or_eq_true] at h1
  rcases h1 with h1 | h1 | h1 | h1
  · unfold thR at h1
    split at h1
    · exact th_isRef hW.alike hk h2
    · cases h1
  · unfold thS at h1
    split at h1
    · exact th_lays hW.alike hk h2
    · cases h1
  · exact word_at hW (good_of_word h1) h2
  · exact th_face hW h1 h2
theorem ThrowOk.kept {s U : State} (h : ThrowOk s) (hW : s.WarmedH U.vm) (hk : ∀ (q : Nat) (cell : Cell), s.heap[q]? = some cell → cell.vm.isStatics = true → U.heap[q]? = some cell) : ThrowOk U := thr_of (h #[]) hW hk
def txN : String := "no such byte of a sector"
/-- what a method leaves that throws: one new cell of six slots, of the exception's class; nothing old has changed -/
def ThQ : Array Value → State → Outcome → State → Prop := fun _ st oc t => ∃ (x : Addr) (ce : Cell), oc = .threw x ∧ t.heap[x]? = some ce ∧ ce.vm.isStatics = false ∧ st.vm.findClass exN = some ce.cls ∧ st.vm.assignable ce.cls ce.cls = true ∧ st.WarmedH t.vm ∧ st.sameButNew ({ t with vm := st.vm } : State) [] 1 6
abbrev rmT : Room := { frames := 7, cells := 1, slots := 6, locals := 95 }
set_option maxHeartbeats 4000000 in
set_option maxRecDepth 20000 in
theorem k_throws (l : Launch) (hfl : l.flags = flags0) (D : va_G) (K : KI) (x d db dq dt y u xc nb : Nat) (sc wc sa ru ar sq ge ne wa fe tk cp : Int) (zb : Nat → Int) (n i : Int) (sz q : Nat) (hsc : 4 ≤ sc ∧ sc ≤ 40) (hn : -2147483648 ≤ n ∧ n ≤ 2147483647) (hi : -2147483648 ≤ i ∧ i ≤ 2147483647) (hno : ¬ (0 ≤ n ∧ n ≤ sc - 1 ∧ 0 ≤ i ∧ i ≤ 511)) :
    MetFree l yX5_sector (headSpec (Cond.code yX5_sector cX5_sector 3 (some .byte) :: lw_T) rmT) (va_Pc [.ref x, .int (iZ n), .int (iZ i)] (fun U => Pi D cls5 (TY K) sz [oX5 x d y u sa ru ar sq ge ne wa fe tk cp xc, oX0 d sc db dq dt wc, aB K db nb zb] U ∧ ThrowOk U ∧ vk_R RX5 172 txN q U)) (fun _ _ _ _ _ => True) ThQ := by
  refine MetFree.of_bodyS (code := cX5_sector) (maxLocals := 3) (ret := some .byte) (by decide) ?_ ?_
  · intro args s m h hnm
    obtain ⟨meth, c, h1, h2, h3, h4, h5, h6, -, -⟩ := Cond.code_spec hnm (atoms_spec (ws := Cond.code yX5_sector cX5_sector 3 (some .byte) :: lw_T) h _ List.mem_cons_self)
    exact ⟨meth, c, h1, h2, h3, h4, h5, h6⟩
  · intro p e s m args below meth c s₁ B hml hP _
    obtain ⟨rfl, ⟨hsz, hP, hK, hD0⟩, hth, hvk⟩ := hP
    have hh0 : s₁.heap = s.heap := by rw [B.state]; rfl
    have hx := B.exec
    have hb := B.bytes
    have hts0 := atoms_spec (ws := Cond.code yX5_sector cX5_sector 3 (some .byte) :: lw_T) B.pre
    have hts : ∀ w ∈ lw_T, w.before ([.ref x, .int (iZ n), .int (iZ i)] : List Value).toArray s = true := fun w hw => hts0 w (List.mem_cons_of_mem _ hw)
    have hown : s.vm.findClass RX5 = some m.cls := findClass_of_methodNamed B.named
    have hlk := B.notSynchronized
    have hemp := B.noHandlers (hts0 _ List.mem_cons_self)
    have hout : ∀ z ∈ c.exceptionTable.toList, covers z (32 + 3) = false := by
      intro z hz
      have : c.exceptionTable = #[] := Array.isEmpty_iff.mp hemp
      rw [this] at hz
      cases hz
    have hl := lv_entry [.ref x, .int (iZ n), .int (iZ i)] (n := 3) (Nat.le_of_ble_eq_true rfl)
    have X₀ : Stand p l e rmT s m ([.ref x, .int (iZ n), .int (iZ i)] : List Value).toArray below meth c s₁ [] 0 0 := Stand.of_body B
    have htr : e.platform.stackTraces = false := Launch.traces_off hfl X₀.admits
    have thr : ∀ ls : Array Slot, ls.size = 3 → W p l e rmT s m ([.ref x, .int (iZ n), .int (iZ i)] : List Value).toArray below meth c s.heap [] 0 0 (fun t => ∃ o, t.status = .running ∧ Ended t below o ∧ ThQ ([.ref x, .int (iZ n), .int (iZ i)] : List Value).toArray s o t) (F0 m 26 ls []) := by
      intro ls hls
      refine W.newc hx hb (C := exN) hown (hts _ t2_239) (hts _ t3_0) (hts _ t1_14) rfl dX5_sector_26 (Nat.le_of_ble_eq_true rfl) (Nat.le_of_ble_eq_true rfl) (fun cC kC hcC hkC hord hn6 => ?_)
      refine W.eq (g2 := F0 m 29 ls [.ref s.heap.size]) rfl ?_
      refine lv_dup hx hb dX5_sector_29 rfl ?_
      refine va_ldcS hx hb hown hvk dX5_sector_30 ?_
      intro T hT X
      obtain ⟨U, hst, hrun, hend, hWm, hsame, ce, hce, hoc⟩ := X.ctorThrowS hx htr (own := RX5) (cls := exN) (names := exUp) (ic := 174) hown (by decide) (by decide) (fun a ha => hth _ a ha) (fun z hz => by cases hz) (a := s.heap.size) hcC hkC (by rw [hT]; simp [freshCell]) (Nat.le_refl _) (msg := .ref q) rfl (g := F0 m 32 ls [.ref q, .ref s.heap.size, .ref s.heap.size]) rfl (by rw [hml]; exact hls) rfl rfl (rest := []) rfl (by rw [hb]; exact dX5_sector_32) (by rw [hb]; exact dX5_sector_35) hout (Nat.le_of_ble_eq_true rfl) (Nat.le_of_ble_eq_true rfl) hlk
      refine ⟨U, hst, .threw s.heap.size, hrun, hend, s.heap.size, ce, rfl, hce, by rw [hoc.vm]; rfl, hoc.cls, hoc.self, hWm, ?_⟩
      exact hsame
    have walk : W p l e rmT s m ([.ref x, .int (iZ n), .int (iZ i)] : List Value).toArray below meth c s.heap [] 0 0 (fun t => ∃ o, t.status = .running ∧ Ended t below o ∧ ThQ ([.ref x, .int (iZ n), .int (iZ i)] : List Value).toArray s o t) (entryFrame m ([.ref x, .int (iZ n), .int (iZ i)] : List Value).toArray 3) := by
      rw [lg_entry_eq]
      generalize (lg_sl [.ref x, .int (iZ n), .int (iZ i)] ++ List.replicate (3 - (lg_sl [.ref x, .int (iZ n), .int (iZ i)]).length) Slot.unset).toArray = ls at hl ⊢
      have hl : lv_has ls 3 [(0, .ref x), (1, .int (iZ n)), (2, .int (iZ i))] := hl
      refine lv_iload_n hx hb dX5_sector_0 rfl (lv_at hl 1 rfl) ?_
      refine lv_if_lt (tgt := 26) hx hb dX5_sector_1 (by decide) (fun _ => thr ls hl.1) (fun c1 => ?_)
      have c1' : ¬ n < 0 := fun z => c1 ((iZ_lt (a := n) (b := 0) ⟨hn, by decide⟩).mpr z)
      refine lv_iload_n hx hb dX5_sector_4 rfl (lv_at hl 1 rfl) ?_
      refine lv_aload_n hx hb dX5_sector_5 rfl (lv_at hl 0 rfl) ?_
      refine va_get (D := D) (ci := 3) (v := .ref d) (C := RX5) (T := TX5) (N := 14) hx hb hts iX5 hown hK hP 0 rfl rfl 0 (by decide) (hts _ t1_109) (fun _ h => h) rfl dX5_sector_6 ?_
      refine va_get (D := D) (ci := 0) (v := .int (iZ sc)) (C := RX0) (T := TX0) (N := 5) hx hb hts iX0 hown hK hP 1 rfl rfl 0 (by decide) (hts _ t1_37) (fun _ h => h) rfl dX5_sector_9 ?_
      refine lv_icmp_ge (tgt := 26) hx hb dX5_sector_12 (by decide) (fun _ => thr ls hl.1) (fun c2 => ?_)
      have c2' : ¬ sc ≤ n := fun z => c2 ((iZ_le (a := sc) (b := n) ⟨⟨by omega, by omega⟩, hn⟩).mpr z)
      refine lv_iload_n hx hb dX5_sector_15 rfl (lv_at hl 2 rfl) ?_
      refine lv_if_lt (tgt := 26) hx hb dX5_sector_16 (by decide) (fun _ => thr ls hl.1) (fun c3 => ?_)
      have c3' : ¬ i < 0 := fun z => c3 ((iZ_lt (a := i) (b := 0) ⟨hi, by decide⟩).mpr z)
      refine lv_iload_n hx hb dX5_sector_19 rfl (lv_at hl 2 rfl) ?_
      refine lv_sipush (v := iZ 512) hx hb dX5_sector_20 (by decide) ?_
      refine lv_icmp_lt (tgt := 36) hx hb dX5_sector_23 (by decide) (fun c4 => ?_) (fun _ => thr ls hl.1)
      have c4' : i < 512 := (iZ_lt (a := i) (b := 512) ⟨hi, by decide⟩).mp c4
      exact absurd ⟨by omega, by omega, by omega, by omega⟩ hno
    obtain ⟨t, a1, o, b1, b2, b3⟩ := walk s₁ hh0 X₀
    exact ⟨t, o, a1, b1, b2, b3⟩
/-! a thrown exception, caught by the caller's own table of one entry, whose class may be looked up for the first time -/
theorem caught1 {p : Program} {l : Launch} {e : Env} {R : Room} {s : State} {m : MethodId} {args : Array Value} {below : List Frame} {meth : Method} {c : Code} {T : State} {locs : List Loc} {cells slots : Nat} (X : Stand p l e R s m args below meth c T locs cells slots) (a : Addr) {g : JFrame} (hg : g.method = m) {own name : String} (hown : s.vm.findClass own = some m.cls) {x : ExceptionTableEntry} (ht : c.exceptionTable.toList = [x]) (hx : covers x g.pc = true) (h0 : x.catchType ≠ 0)
    (hlink : (Cond.classLink own x.catchType name).before args s = true) {cell : Cell} (hcT : s.vm.findClass name = some cell.cls) (hcell : T.heap[a]? = some cell) (hobj : cell.vm.isStatics = false) (hfit : s.vm.assignable cell.cls cell.cls = true) :
    ∃ vm', s.WarmedH vm' ∧ ∀ target, Steps p.tables e below ((T.setVm vm').setTop { g with pc := x.handlerPc, stack := [.ref a] }) target → Steps p.tables e below ((T.setTop g).pushFrame (.throwing a)) target := by
  have hpl : e.platform.magicAccessors = ({} : Platform).magicAccessors := by rw [X.admits.platform]
  obtain ⟨cT, hc', hcl⟩ := Cond.classLink_spec hown hlink e.platform hpl
  cases hcT.symm.trans hc'
  obtain ⟨dk, _, _, kt, hd, _, _, _, _, hkt, _, hopen⟩ := hcl.here
  have hW' : s.WarmedH (T.vm.noted m.cls x.catchType (.cls cell.cls)) := X.warmed.noted hd hopen (State.rightAt_cls hcl)
  refine ⟨_, hW', fun target hrest => ?_⟩
  subst hg
  have hclT := X.warmed.classLinks hcl
  have hal := X.warmed.alike
  have hfT : T.vm.assignable cell.cls cell.cls = true := by rw [hal.assignable]; exact hfit
  obtain ⟨k1, hk1, -⟩ := hal.2.2 _ _ hkt
  have hal2 : T.vm.Alike (T.vm.noted g.method.cls x.catchType (.cls cell.cls)) := (Vm.Alike.refl T.vm).noted _ _ _
  obtain ⟨k2, hk2, -⟩ := hal2.2.2 _ _ hk1
  have hf2 : (T.vm.noted g.method.cls x.catchType (.cls cell.cls)).assignable cell.cls cell.cls = true := by rw [hal2.assignable]; exact hfT
  have hvm : ((T.setTop g).pushFrame (.throwing a)).vm = T.vm := Stand.throwing_vm T g a
  have hhp : ((T.setTop g).pushFrame (.throwing a)).heap = T.heap := Stand.throwing_heap T g a
  obtain ⟨ga, gt⟩ := (resolveClass_links (vm := ((T.setTop g).pushFrame (.throwing a)).vm) e.toSetting (by rw [hvm]; exact hclT)).op (op := VmOp.resolveClass g.method.cls x.catchType) rfl
  have hne : ∀ k, cell.vm ≠ .statics k := VmData.ne_statics_of hobj
  have find : ∀ (Q : Handler → Pre) (E : CtlPost) (d : Bool) (acts : List Action), wp (findHandler g a) Q E e d acts ((T.setTop g).pushFrame (.throwing a)) ↔ Q (.found x.handlerPc) d acts (((T.setTop g).pushFrame (.throwing a)).setVm (T.vm.noted g.method.cls x.catchType (.cls cell.cls))) := by
    intro Q E d acts
    rw [W.findHandler_eq (meth := meth) (code := c) (by rw [hvm]; exact X.method') X.code, ht]
    simp only [covers] at hx
    rw [hvm] at ga gt
    simp [findHandler.go, hx, h0, hvm, ga, gt, hhp, hcell, hne, hk2, hf2, VmOp.dirties, VmOp.acts]
  have hAt := X.here
  obtain ⟨hgo, hw⟩ := hAt.throwing a
  refine Steps.head hgo hw ?_
  rw [stepThread_throwing (frames_entered hAt.top _)]
  have hstep : (stepThrowing e ((T.setTop g).pushFrame (.throwing a)) a (.java g :: T.frames.tail)).Is ((((T.setTop g).pushFrame (.throwing a)).setVm (T.vm.noted g.method.cls x.catchType (.cls cell.cls))).setFrames (.java { g with pc := x.handlerPc, stack := [.ref a] } :: T.frames.tail)) [] := by
    simp only [stepThrowing, searchFrame, vmDo]
    generalize hr : Sem.go _ e false [] ((T.setTop g).pushFrame (.throwing a)) = res
    obtain ⟨as, rfl, ha⟩ := Sem.eq_ok_of hr (a := Handler.found x.handlerPc) (s' := ((T.setTop g).pushFrame (.throwing a)).setVm (T.vm.noted g.method.cls x.catchType (.cls cell.cls))) (acts' := []) (by simp [find])
    exact ⟨rfl, ha⟩
  rw [hstep.1]
  obtain ⟨g₀, hg0⟩ := Option.isSome_iff_exists.mp hAt.top
  obtain ⟨r, hr⟩ := State.topJava?_eq_some.mp hg0
  have hr' : (T.setVm (T.vm.noted g.method.cls x.catchType (.cls cell.cls))).frames = .java g₀ :: r := hr
  rw [State.setTop_of_frames _ hr'] at hrest
  rw [hr, List.tail_cons, State.pushFrame, State.setTop_of_frames _ hr]
  have sw : ∀ (u : State) (v : Vm) (F G : List Frame), ((u.setFrames F).setVm v).setFrames G = (u.setVm v).setFrames G := fun u v F G => by
    have h1 : (u.setFrames F).setVm v = (u.setVm v).setFrames F := rfl
    rw [h1, State.setFrames_setFrames]
  rw [State.setFrames_setFrames, sw]
  exact hrest
