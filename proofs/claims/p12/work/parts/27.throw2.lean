/-- what the walk's own start says of a throw -/
def zT (C : ZC) (q : Nat) : Prop := match C with
  | (p, l, e, s, m, args, below, meth, c, Q, A, H0) => ThrowOk s ∧ vk_R RX5 172 txN q s ∧ H0 = s.heap ∧ ∀ (a : Nat) (cell : Cell), s.heap[a]? = some cell → cell.vm.isStatics = true → ¬ A a
def zX1 (C : ZC) (x : ExceptionTableEntry) : Prop := match C with
  | (p, l, e, s, m, args, below, meth, c, Q, A, H0) => c.exceptionTable.toList = [x]
abbrev PTh (D : va_G) (cl : List vw_C) (tys : List (ClassId × FieldType)) (sz q : Nat) (wi : va_W) : State → Prop := fun U => Pi D cl tys sz wi U ∧ ThrowOk U ∧ vk_R RX5 172 txN q U
theorem PTh.blind {D : va_G} {cl : List vw_C} {tys : List (ClassId × FieldType)} {sz q : Nat} {wi : va_W} {av : List Value} : FrameBlind (va_Pc av (PTh D cl tys sz q wi)) := fun a U g mk h => by
  obtain ⟨h0, ⟨h1, h2, h3, h4⟩, h5, h6⟩ := h
  have hvm : (U.calling g mk a).vm = U.vm := rfl
  exact ⟨h0, ⟨h1, h2, va_K.moved (u := U) (U := U.calling g mk a) (Vm.Alike.refl U.vm) h3, h4⟩, h5.kept (U := U.calling g mk a) (State.WarmedH.refl U) (fun _ _ hc _ => hc), vk_R.same (u := U) hvm h6⟩
set_option maxHeartbeats 4000000 in
theorem z_thrown {C : ZC} {R : Room} {D : va_G} {cl : List vw_C} {tys : List (ClassId × FieldType)} {cc bytes : ByteArray} {nL maxL index : Nat} {own : String} {kc ns : Nat} {ws wc : va_W} {pc : Nat} {lv : List (Nat × Value)} {st : List Value} {y : MethodName} {ret : Option FieldType} {As rest : List Value} {b ci q : Nat} {vc : vw_C} {fs : List Value} {x : ExceptionTableEntry}
    (F : Fx C D cl tys cc nL lw_T own) (hzt : zT C q) (hzx : zX1 C x) (hM : ∀ sz, MetFree (zl C) y (headSpec (Cond.code y bytes maxL ret :: lw_T) rmT) (va_Pc (.ref b :: As) (PTh D cl tys sz q wc)) (fun _ _ _ _ _ => True) ThQ) (hcode : Cond.code y bytes maxL ret ∈ lw_T) (hini : Cond.initialized y.cls ∈ lw_T) (hlk : Cond.methodLink own index y ∈ lw_T) (him : Cond.instanceMethod y ∈ lw_T) (hse : Cond.selects vc.1 y y ∈ lw_T)
    (hd : y.cls ≠ "java/lang/invoke/MethodHandle" ∧ y.cls ≠ "java/lang/invoke/VarHandle" ∧ (parseMethodDescriptor y.desc).map (fun d => d.parameters.length) = some As.length) (hR : 7 + 1 ≤ R.frames ∧ 8 + (maxL + 11) + 95 ≤ R.locals)
    (q0 : Nat) (he : wc[q0]? = some (b, .inr (ci, fs))) (hc : cl[ci]? = some vc) (hst : st = As.reverse ++ .ref b :: rest) (hroom : (rest.map fun v => v.category).sum ≤ 8) (hdg : decode cc pc = .ok (.invokevirtual index, 3)) (hf : kc + 1 ≤ R.cells ∧ ns + 6 ≤ R.slots)
    (isC : List Nat) (hC : isC.map (fun i => ws[i]?) = wc.map some) (hCn : va_nd isC = true) (hcv : covers x pc = true) (h0 : x.catchType ≠ 0) (hcl : Cond.classLink own x.catchType exN ∈ lw_T)
    (kk : ∀ a : Nat, Go C R D cl nL (kc + 1) (ns + 6) ws x.handlerPc lv [.ref a]) : Go C R D cl nL kc ns ws pc lv st := by
  obtain ⟨p, l, e, s, m, args, below, meth, c, Q, A, H0⟩ := C
  obtain ⟨⟨hx, hb, hml, hown, hts⟩, hK, hA, hlk0⟩ := F
  obtain ⟨hth, hvk, rfl, hst0⟩ := hzt
  have hzx : c.exceptionTable.toList = [x] := hzx
  intro H locs ls hP hD hS hl T hT X
  have hPc := hP.sub isC (sub_map hC)
  have hDc := hD.sub isC hCn hC
  obtain ⟨cellB, hcB, hoB, hclB⟩ := va_recv hK hPc hc he
  have hy : y.cls ≠ "java/lang/invoke/MethodHandle" ∧ y.cls ≠ "java/lang/invoke/VarHandle" := ⟨hd.1, hd.2.1⟩
  obtain ⟨mk, methM, hnamed, hmethM, hstM, habM⟩ := Cond.instanceMethod_spec (hts _ him)
  obtain ⟨methM', cM, hmethM', hcM, -, hlM, -, -, -, hsigM⟩ := Cond.code_spec hnamed (hts _ hcode)
  cases hmethM.symm.trans hmethM'
  obtain ⟨c2, r2, m2, q1, q2, q3, q4, kP, hkP, hkPi⟩ := Cond.selects_spec (hts _ hse)
  cases hclB.symm.trans q1
  cases (State.methodFound?_of_named hnamed hy).symm.trans q2
  cases hnamed.symm.trans q3
  have hselP : selectMethod e.platform s.vm cellB.cls mk = .method mk := by rw [Launch.admits_selectMethod X.admits]; exact q4
  have hlen : As.length = methM.sig.parameters.length := by
    have h2 := hd.2.2
    rw [hsigM] at h2
    exact (Option.some.inj h2).symm
  obtain ⟨vm₁, X₁, hstep₁⟩ := X.invokevirtual hx hown (hts _ hlk) hnamed hmethM hstM hkP hkPi hy (a := b) (cell := cellB) (by rw [hT]; exact hcB) (fun z h => by rw [h] at hoB; cases hoB) hselP hmethM habM hkP hkPi (g := F0 m pc ls st) rfl (argsL := As) (rest := rest) hlen hst (by rw [hb]; exact hdg)
  have X₁ : Stand p l e R s m args below meth c (T.setVm vm₁) locs kc ns := X₁
  obtain ⟨U, hU⟩ : ∃ U, U = T.setVm vm₁ := ⟨_, rfl⟩
  rw [← hU] at X₁
  have hUh : U.heap = H := by rw [hU]; exact hT
  have hat : At U m c below := X₁.here
  have hnU : U.methodNamed? y = some mk := X₁.named hnamed
  have hword : ∀ w ∈ lw_T, ∀ a', w.before a' U = true := fun w hw a' => word_at X₁.warmed (lw_good w hw) (hts w hw)
  obtain ⟨methY, cY, hmY, hcY, -, hlY, -, -, -, -⟩ := Cond.code_spec hnU (hword _ hcode #[])
  obtain ⟨kY, hkY, -⟩ := className_of_methodNamed hnU
  have hinitY : kY.init = .initialized := Cond.initialized_spec (findClass_of_methodNamed hnU) hkY (hword _ hini #[])
  have hPU : va_Pc (.ref b :: As) (PTh D cl tys H.size q wc) (Value.ref b :: As).toArray U := by
    refine ⟨rfl, ⟨by rw [hUh], by rw [hUh]; exact hPc, va_K.moved X₁.warmed.alike hK, hDc.weaken (fun _ _ _ _ => trivial)⟩, hth.kept X₁.warmed (fun a cell h1 h2 => ?_), hvk.warm X₁.warmed⟩
    rw [hUh, hS.2.1 a (Array.getElem?_eq_some_iff.mp h1).1 (hst0 a cell h1 h2)]
    exact h1
  have hW0 : 2 * (F0 m pc ls rest).monitorRoom + ((F0 m pc ls rest).stack.map fun v => v.category).sum ≤ 8 := lv_room hroom
  have happ : (headSpec (Cond.code y bytes maxL ret :: lw_T) rmT).appliesLoose y e.platform (U.calling (F0 m pc ls rest) mk (Value.ref b :: As).toArray) = true :=
    Spec.appliesLoose_calling (g := F0 m pc ls rest) (c := c) hat (show decode c.code (F0 m pc ls rest).pc = .ok (.invokevirtual index, 3) by rw [hb]; exact hdg) hnU hkY hinitY
      (X₁.room_calling (g := F0 m pc ls rest) (R' := rmT) (by rw [hml]; exact hl.1) hmY hcY hR.1 (by rw [hlY]; have := hR.2; show _ + _ + 95 ≤ _; omega) hf.1 hf.2) (atoms_intro fun w hw => by
        rcases List.mem_cons.mp hw with rfl | hw
        · exact hword _ hcode _
        · exact hword _ hw _)
  obtain ⟨mid, hmid⟩ := hat.above
  have hfr : (U.setTop (F0 m pc ls rest)).frames = (.java (F0 m pc ls rest) :: mid) ++ below := by rw [State.frames_setTop' _ hat.top, hmid]; rfl
  obtain ⟨o, s₂, hsteps, -, hend, hq⟩ := Steps.callFree (hM H.size) p X₁.admits X₁.cas X₁.clock (acts := []) hfr happ (PTh.blind _ _ _ _ hPU) trivial
  have hq : ThQ (Value.ref b :: As).toArray (U.calling (F0 m pc ls rest) mk (Value.ref b :: As).toArray) o s₂ := hq
  obtain ⟨xa, ce, rfl, hce, hobj, hcls, hself, hW₂, e2, r2, r3, r4, r5, r6⟩ := hq
  rw [State.frames_setTop' _ hat.top] at hend
  have hf₂ : s₂.frames = .throwing xa :: .java (F0 m pc ls rest) :: U.frames.tail := hend
  have hW' : U.WarmedH s₂.vm := hW₂
  have e3 : s₂ = ({ (U.calling (F0 m pc ls rest) mk (Value.ref b :: As).toArray).setFrames s₂.frames with heap := s₂.heap, slotsUsed := s₂.slotsUsed } : State).setVm s₂.vm := by
    have h9 : s₂ = ({ s₂ with vm := (U.calling (F0 m pc ls rest) mk (Value.ref b :: As).toArray).vm } : State).setVm s₂.vm := rfl
    rw [e2] at h9
    exact h9
  obtain ⟨g₀, hg0⟩ := Option.isSome_iff_exists.mp hat.top
  obtain ⟨r, hr⟩ := State.topJava?_eq_some.mp hg0
  obtain ⟨V, hV⟩ : ∃ V : State, V = ({ U with heap := s₂.heap, slotsUsed := s₂.slotsUsed } : State).setVm s₂.vm := ⟨_, rfl⟩
  have hrV : V.frames = .java g₀ :: r := by rw [hV]; exact hr
  have hs₂ : s₂ = (V.setTop (F0 m pc ls rest)).pushFrame (.throwing xa) := by
    have h9 : s₂ = V.setFrames s₂.frames := by
      rw [hV]
      refine e3.trans ?_
      rw [State.calling_eq hat.top, State.setFrames_setFrames]
      rfl
    rw [hf₂, hr] at h9
    rw [h9, State.pushFrame, State.frames_setTop _ hrV, State.setTop_of_frames _ hrV, State.setFrames_setFrames]
    rfl
  have hsame : U.sameButNew ({ U with heap := s₂.heap, slotsUsed := s₂.slotsUsed } : State) [] 1 6 := by
    refine ⟨?_, r2, r3, r4, r5, r6⟩
    obtain ⟨t, ht, -⟩ := State.frames_cons hr
    show ({ U with heap := s₂.heap, slotsUsed := s₂.slotsUsed } : State) = { U.setFrames U.frames with heap := s₂.heap, slotsUsed := s₂.slotsUsed }
    rw [State.setFrames_self ht]
  have X₂ : Stand p l e R s m args below meth c V (locs ++ []) (kc + 1) (ns + 6) := by
    rw [hV]
    exact ⟨X₁.admits, X₁.cas, X₁.clock, X₁.frames, X₁.room, X₁.hears, X₁.method, X₁.code, (X₁.here.setHeapUsed s₂.heap s₂.slotsUsed).setVm hW'.alike, X₁.tail, State.WarmedH.trans X₁.warmed hW', X₁.limits, X₁.bytes, X₁.same.trans (hsame.setVm s.vm)⟩
  rw [List.append_nil] at X₂
  have hVh : V.heap = s₂.heap := by rw [hV]; rfl
  have hold : ∀ (a : Nat) (cell : Cell), H[a]? = some cell → s₂.heap[a]? = some cell := by
    intro a cell h1
    obtain ⟨c', w1, w2, w3, w4⟩ := r6 a cell (by show U.heap[a]? = _; rw [hUh]; exact h1)
    have w1 : s₂.heap[a]? = some c' := w1
    have w5 : c'.slots = cell.slots := Array.ext_getElem? (fun i => w4 i (by simp))
    rw [w1, w2, w5]
  obtain ⟨vm', hWn, hcat⟩ := caught1 X₂ xa (g := F0 m pc ls rest) rfl hown hzx hcv h0 (hts _ hcl) (cell := ce) (by
      have : U.vm.findClass exN = some ce.cls := hcls
      rw [X₁.warmed.alike.findClass] at this
      exact this) (by rw [hVh]; exact hce) hobj (by
      have : U.vm.assignable ce.cls ce.cls = true := hself
      rw [X₁.warmed.alike.assignable] at this
      exact this)
  have X₃ := X₂.noted hWn
  have hP' : va_P D cl ws s₂.heap := hP.kept (fun k w hk => by
    obtain ⟨cell, h1⟩ : ∃ cell, H[w.1]? = some cell := ⟨_, Array.getElem?_eq_getElem (hP k w hk).lt⟩
    rw [h1, hold _ _ h1])
  have hz : H.size ≤ s₂.heap.size := by
    have r2 : U.heap.size ≤ s₂.heap.size := r2
    rw [hUh] at r2
    exact r2
  obtain ⟨t, a1, b1⟩ := kk xa s₂.heap locs ls hP' hD ⟨Nat.le_trans hS.1 hz, fun z h1 h2 => by
    have h3 := hS.2.1 z h1 h2
    obtain ⟨cell, h4⟩ : ∃ cell, H[z]? = some cell := ⟨_, Array.getElem?_eq_getElem (Nat.lt_of_lt_of_le h1 hS.1)⟩
    rw [← h3, h4, hold _ _ h4], hS.2.2⟩ hl (V.setVm vm') hVh X₃
  refine ⟨t, hstep₁ _ fun acts => ?_, b1⟩
  rw [doInvoke_state]
  show Steps p.tables e below (doInvoke e (((T.setVm vm₁)).setTop (F0 m pc ls rest)) [] mk (Value.ref b :: As).toArray).1 t
  rw [← hU]
  refine hsteps.trans ?_
  rw [hs₂]
  exact hcat t a1
