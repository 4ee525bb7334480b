/-! contracts: a method over the cells wi alone, in words of its own; all methods share one list of words Ts -/
def Qo (D : va_G) (cl : List vw_C) (tys : List (ClassId × FieldType)) (A : Nat → Prop) (post : Option Value → va_W → Prop) : Array Value → State → Outcome → State → Prop :=
  fun _ st oc t => (∃ (v : Option Value) (wo : va_W), oc = .returned v ∧ post v wo ∧ va_P D cl wo t.heap ∧ va_K D cl tys t ∧ va_D A wo) ∧ va_F A st t
def Pi (D : va_G) (cl : List vw_C) (tys : List (ClassId × FieldType)) (sz : Nat) (wi : va_W) : State → Prop :=
  fun U => U.heap.size = sz ∧ va_P D cl wi U.heap ∧ va_K D cl tys U ∧ va_D (fun _ => True) wi
theorem Pi.blind {D : va_G} {cl : List vw_C} {tys : List (ClassId × FieldType)} {sz : Nat} {wi : va_W} {av : List Value} : FrameBlind (va_Pc av (Pi D cl tys sz wi)) := fun a U g mk q => by
  obtain ⟨q0, q1, qP, qK, qD⟩ := q
  exact ⟨q0, q1, qP, va_K.moved (u := U) (U := U.calling g mk a) (Vm.Alike.refl U.vm) qK, qD⟩
def Ct (Ts : List Cond) (l : Launch) (y : MethodName) (bytes : ByteArray) (maxL : Nat) (ret : Option FieldType) (rm : Room) (mc ms : Nat) (D : va_G) (cl : List vw_C) (tys : List (ClassId × FieldType)) (av : List Value) (wi : va_W) (post : Option Value → va_W → Prop) : Prop :=
  ∀ sz : Nat, Met l y (Cond.code y bytes maxL ret :: Ts) rm (va_Pc av (Pi D cl tys sz wi)) (Qo D cl tys (va_A wi sz) post) mc ms (va_A wi sz)
def Rt (C : ZC) (ret : Option FieldType) (mc ms : Nat) (D : va_G) (cl : List vw_C) (tys : List (ClassId × FieldType)) (post : Option Value → va_W → Prop) : Prop := match C with
  | (p, l, e, s, m, args, below, meth, c, Q, A, H0) => meth.sig.returnType = ret ∧ H0 = s.heap ∧ Q = MQ below (Qo D cl tys A post) args s mc ms A
theorem ct_of {Ts : List Cond} {l : Launch} {y : MethodName} {bytes : ByteArray} {maxL : Nat} {ret : Option FieldType} {rm : Room} {mc ms : Nat} {D : va_G} {cl : List vw_C} {tys : List (ClassId × FieldType)} {av : List Value} {wi : va_W} {post : Option Value → va_W → Prop} {own : String} {lv : List (Nat × Value)}
    (hy : plainFor y = true) (ho : y.cls = own) (hn : (lg_sl av).length ≤ maxL) (hlv : lv_args 0 av = lv)
    (body : ∀ C : ZC, Fx C D cl tys bytes maxL Ts own → Rt C ret mc ms D cl tys post → zNm C = y.name → zl C = l → Go C rm D cl maxL 0 0 wi 0 lv []) : Ct Ts l y bytes maxL ret rm mc ms D cl tys av wi post := by
  intro sz
  refine va_MetF (cc := bytes) (maxL := maxL) (ret := ret) hy rfl ?_
  intro p e s m args below meth c s₁ B hml hv
  obtain ⟨rfl, hsz, hP, hK, hD0⟩ := hv
  have hts := atoms_spec (ws := Cond.code y bytes maxL ret :: Ts) B.pre
  have hown : s.vm.findClass own = some m.cls := by rw [← ho]; exact findClass_of_methodNamed B.named
  have hin : meth.name = y.name := (name_of_methodNamed B.named B.method).1
  subst hsz
  have hD := hD0.self (sz := s.heap.size)
  have hl := lv_entry av (n := maxL) hn
  rw [lg_entry_eq]
  rw [hlv] at hl
  exact body (p, l, e, s, m, av.toArray, below, meth, c, MQ below (Qo D cl tys (va_A wi s.heap.size) post) av.toArray s mc ms (va_A wi s.heap.size), va_A wi s.heap.size, s.heap)
    ⟨⟨B.exec, B.bytes, hml, hown, fun w hw => hts w (List.mem_cons_of_mem _ hw)⟩, hK, fun q h => Or.inr h, B.notSynchronized⟩ ⟨B.returns, rfl, rfl⟩ hin rfl s.heap [] _ hP hD va_S.rf hl
section ZRET
variable {C : ZC} {R : Room} {D : va_G} {cl : List vw_C} {tys : List (ClassId × FieldType)} {cc : ByteArray} {nL : Nat} {Ts : List Cond} {own : String} {kc ns mc ms : Nat} {ws : va_W} {pc : Nat} {lv : List (Nat × Value)} {st : List Value} {post : Option Value → va_W → Prop}
theorem z_iret (F : Fx C D cl tys cc nL Ts own) (hr : Rt C (some .int) mc ms D cl tys post) {v : Int32} (hd : decode cc pc = .ok (.ireturn, 1)) (hk : kc ≤ mc ∧ ns ≤ ms) (hp : post (some (.int v)) ws) : Go C R D cl nL kc ns ws pc lv [.int v] := by
  obtain ⟨p, l, e, s, m, args, below, meth, c, Q, A, H0⟩ := C
  obtain ⟨⟨hx, hb, hml, hown, hts⟩, hK, hA, hlk⟩ := F
  obtain ⟨hrt, rfl, rfl⟩ := hr
  intro H locs ls hP hD hS hl
  refine W.widen hk.1 hk.2 ?_
  exact W.iret hx hb hrt (fun t ht hW => ⟨⟨_, ws, rfl, hp, by rw [ht]; exact hP, va_K.moved hW.alike hK, hD⟩, hS.F ht⟩) hS.2.2 hd hlk
theorem z_zret (F : Fx C D cl tys cc nL Ts own) {ty : FieldType} (hr : Rt C (some ty) mc ms D cl tys post) {v : Int32} (hnr : narrow ty (.int v) = .int v) (hd : decode cc pc = .ok (.ireturn, 1)) (hk : kc ≤ mc ∧ ns ≤ ms) (hp : post (some (.int v)) ws) : Go C R D cl nL kc ns ws pc lv [.int v] := by
  obtain ⟨p, l, e, s, m, args, below, meth, c, Q, A, H0⟩ := C
  obtain ⟨⟨hx, hb, hml, hown, hts⟩, hK, hA, hlk⟩ := F
  obtain ⟨hrt, rfl, rfl⟩ := hr
  intro H locs ls hP hD hS hl
  refine W.widen hk.1 hk.2 ?_
  exact W.zret hx hb hrt hnr (fun t ht hW => ⟨⟨_, ws, rfl, hp, by rw [ht]; exact hP, va_K.moved hW.alike hK, hD⟩, hS.F ht⟩) hS.2.2 hd hlk
theorem z_lret (F : Fx C D cl tys cc nL Ts own) (hr : Rt C (some .long) mc ms D cl tys post) {v : Int64} (hd : decode cc pc = .ok (.lreturn, 1)) (hk : kc ≤ mc ∧ ns ≤ ms) (hp : post (some (.long v)) ws) : Go C R D cl nL kc ns ws pc lv [.long v] := by
  obtain ⟨p, l, e, s, m, args, below, meth, c, Q, A, H0⟩ := C
  obtain ⟨⟨hx, hb, hml, hown, hts⟩, hK, hA, hlk⟩ := F
  obtain ⟨hrt, rfl, rfl⟩ := hr
  intro H locs ls hP hD hS hl
  refine W.widen hk.1 hk.2 ?_
  exact W.lret hx hb hrt (fun t ht hW => ⟨⟨_, ws, rfl, hp, by rw [ht]; exact hP, va_K.moved hW.alike hK, hD⟩, hS.F ht⟩) hS.2.2 hd hlk
theorem z_vret (F : Fx C D cl tys cc nL Ts own) (hr : Rt C none mc ms D cl tys post) (hd : decode cc pc = .ok (.return_, 1)) (hk : kc ≤ mc ∧ ns ≤ ms) (hp : post none ws) : Go C R D cl nL kc ns ws pc lv [] := by
  obtain ⟨p, l, e, s, m, args, below, meth, c, Q, A, H0⟩ := C
  obtain ⟨⟨hx, hb, hml, hown, hts⟩, hK, hA, hlk⟩ := F
  obtain ⟨hrt, rfl, rfl⟩ := hr
  intro H locs ls hP hD hS hl
  refine W.widen hk.1 hk.2 ?_
  exact W.vret hx hb hrt (fun t ht hW => ⟨⟨_, ws, rfl, hp, by rw [ht]; exact hP, va_K.moved hW.alike hK, hD⟩, hS.F ht⟩) hS.2.2 hd hlk
end ZRET
theorem z_run {p : Program} {l : Launch} {e : Env} {R : Room} {s : State} {m : MethodId} {args : Array Value} {below : List Frame} {meth : Method} {c : Code} {Q : State → Prop} {A : Nat → Prop} {H0 H : Heap} {D : va_G} {cl : List vw_C} {tys : List (ClassId × FieldType)} {nL kc ns mc ms pc : Nat} {lv : List (Nat × Value)} {st rest : List Value} {ws wc wr : va_W} {locs : List Loc} {ls : Array Slot} {post : Option Value → va_W → Prop} {av : Array Value}
    (hA : ∀ q, H0.size ≤ q → A q) (hP : va_P D cl ws H) (hD : va_D A ws) (hS : va_S A H0 H locs) (hl : lv_has ls nL lv)
    (hr : va_Run p l e R s m args below meth c H locs kc ns mc ms (F0 m pc ls st) rest (Qo D cl tys (va_A wc H.size) post av) (va_A wc H.size))
    (isC isR : List Nat) (hC : isC.map (fun i => ws[i]?) = wc.map some) (hR : isR.map (fun i => ws[i]?) = wr.map some) (hRn : va_nd isR = true) (hdis : ∀ i ∈ isR, i ∉ isC)
    (kk : ∀ (v : Option Value) (wo : va_W), post v wo → Go (p, l, e, s, m, args, below, meth, c, Q, A, H0) R D cl nL (kc + mc) (ns + ms) (wr ++ wo) (pc + 3) lv (v.toList ++ rest)) :
    W p l e R s m args below meth c H locs kc ns Q (F0 m pc ls st) := by
  have hF := va_free (wc := wc) hD hS hA isC hC
  intro T hT X
  obtain ⟨v, st₀, t, T', L, h0, X', hL, e1, e2, ⟨⟨v', wo, hv, hp, hP1, hK1, hD1⟩, hz, hk⟩, stp⟩ := hr T hT X
  cases hv
  rw [h0] at hz hk
  have hP1' : va_P D cl wo T'.heap := by rw [e1]; exact hP1
  obtain ⟨hPj, hDj⟩ := va_join (wr := wr) (w1 := wo) (H1 := T'.heap) hP hD isC isR hC hR hRn hdis (fun q h1 h2 => by rw [e1]; exact hk q h1 h2) hF hP1' hD1
  obtain ⟨t2, a1, b1⟩ := kk v wo hp T'.heap (locs ++ L) ls hPj hDj ⟨Nat.le_trans hS.1 (by rw [e1]; exact hz), fun q h1 h2 => by rw [e1, hk q (Nat.lt_of_lt_of_le h1 hS.1) (fun z => h2 (hF q z))]; exact hS.2.1 q h1 h2, fun q hq => by
      rcases List.mem_append.mp hq with h | h
      · exact hS.2.2 q h
      · exact hF _ (hL q h)⟩ hl T' rfl X'
  exact ⟨t2, stp t2 a1, b1⟩
abbrev Wg (Ts : List Cond) : Prop := ∀ w ∈ Ts, (w.onTables && w.keeps) = true ∨ ∃ ty, w = .arrayClass ty
theorem callB_ofT {Ts : List Cond} {R : Room} {s : State} {args : Array Value} {own : String} {index maxL mc ms : Nat} {y : MethodName} {bytes : ByteArray} {ret : Option FieldType} {rm : Room} (n : Nat) (ht : ∀ w ∈ Ts, w.before args s = true) (hg : Wg Ts) (hcode : Cond.code y bytes maxL ret ∈ Ts) (hrc : rm.cells = mc) (hrs : rm.slots = ms) (hini : Cond.initialized y.cls ∈ Ts) (hl : Cond.methodLink own index y ∈ Ts)
    (hd : y.cls ≠ "java/lang/invoke/MethodHandle" ∧ y.cls ≠ "java/lang/invoke/VarHandle" ∧ (parseMethodDescriptor y.desc).map (fun d => d.parameters.length) = some n) (hR : rm.frames + 1 ≤ R.frames ∧ 8 + (maxL + 11) + rm.locals ≤ R.locals) :
    CallB R s args own index y bytes maxL ret (Cond.code y bytes maxL ret :: Ts) rm mc ms n :=
  callB_of n ht (fun w h => by
    rcases List.mem_cons.mp h with rfl | h
    · exact ⟨hcode, hg _ hcode⟩
    · exact ⟨h, hg w h⟩) rfl hrc hrs (ht _ hini) (ht _ hl) hd hR
theorem sub_map {is : List Nat} {ws wc : va_W} (h : is.map (fun i => ws[i]?) = wc.map some) : is.filterMap (fun i => ws[i]?) = wc := by
  induction is generalizing wc with
  | nil => cases wc with
    | nil => rfl
    | cons a t => simp at h
  | cons a t ih => cases wc with
    | nil => simp at h
    | cons b u =>
      simp only [List.map_cons, List.cons.injEq] at h
      rw [List.filterMap_cons, h.1, ih h.2]
section ZCALL
variable {C : ZC} {R : Room} {D : va_G} {cl : List vw_C} {tys : List (ClassId × FieldType)} {cc bytes : ByteArray} {nL maxL index : Nat} {Ts : List Cond} {own : String} {kc ns mc ms : Nat} {ws wc wr : va_W} {pc : Nat} {lv : List (Nat × Value)} {st : List Value} {post : Option Value → va_W → Prop} {y : MethodName} {ret : Option FieldType} {rm : Room} {As rest : List Value} {b ci : Nat} {q : vw_C} {fs : List Value}
theorem z_callV (F : Fx C D cl tys cc nL Ts own) (hg : Wg Ts) (hct : Ct Ts (zl C) y bytes maxL ret rm mc ms D cl tys (.ref b :: As) wc post) (hcode : Cond.code y bytes maxL ret ∈ Ts) (hini : Cond.initialized y.cls ∈ Ts) (hlk : Cond.methodLink own index y ∈ Ts) (him : Cond.instanceMethod y ∈ Ts) (hse : Cond.selects q.1 y y ∈ Ts)
    (hrc : rm.cells = mc ∧ rm.slots = ms) (hd : y.cls ≠ "java/lang/invoke/MethodHandle" ∧ y.cls ≠ "java/lang/invoke/VarHandle" ∧ (parseMethodDescriptor y.desc).map (fun d => d.parameters.length) = some As.length) (hR : rm.frames + 1 ≤ R.frames ∧ 8 + (maxL + 11) + rm.locals ≤ R.locals)
    (q0 : Nat) (he : wc[q0]? = some (b, .inr (ci, fs))) (hc : cl[ci]? = some q) (hst : st = As.reverse ++ .ref b :: rest) (hroom : (rest.map fun v => v.category).sum ≤ 8) (hdg : decode cc pc = .ok (.invokevirtual index, 3)) (hf : kc + mc ≤ R.cells ∧ ns + ms ≤ R.slots)
    (isC isR : List Nat) (hC : isC.map (fun i => ws[i]?) = wc.map some) (hCn : va_nd isC = true) (hRr : isR.map (fun i => ws[i]?) = wr.map some) (hRn : va_nd isR = true) (hdis : ∀ i ∈ isR, i ∉ isC)
    (kk : ∀ (v : Option Value) (wo : va_W), post v wo → Go C R D cl nL (kc + mc) (ns + ms) (wr ++ wo) (pc + 3) lv (v.toList ++ rest)) : Go C R D cl nL kc ns ws pc lv st := by
  obtain ⟨p, l, e, s, m, args, below, meth, c, Q, A, H0⟩ := C
  obtain ⟨⟨hx, hb, hml, hown, hts⟩, hK, hA, hlk0⟩ := F
  intro H locs ls hP hD hS hl
  have hPc := hP.sub isC (sub_map hC)
  have hDc := hD.sub isC hCn hC
  refine z_run hA hP hD hS hl (va_runV (As := As) (rest := rest) (n := As.length) ⟨hx, hb, hml, hown, hts⟩ (hct H.size) ⟨callB_ofT _ hts hg hcode hrc.1 hrc.2 hini hlk hd hR, hts _ him, hts _ hse⟩ ⟨Pi.blind, va_recv hK hPc hc he, fun U hU hW => ⟨rfl, by rw [hU], by rw [hU]; exact hPc, va_K.moved hW.alike hK, hDc.weaken (fun _ _ _ _ => trivial)⟩⟩ rfl rfl hl.1 hst (lv_room hroom) hdg hf) isC isR hC hRr hRn hdis kk
theorem z_callS (F : Fx C D cl tys cc nL Ts own) (hg : Wg Ts) (hct : Ct Ts (zl C) y bytes maxL ret rm mc ms D cl tys As wc post) (hcode : Cond.code y bytes maxL ret ∈ Ts) (hini : Cond.initialized y.cls ∈ Ts) (hlk : Cond.methodLink own index y ∈ Ts) (hst0 : Cond.static y ∈ Ts)
    (hrc : rm.cells = mc ∧ rm.slots = ms) (hd : y.cls ≠ "java/lang/invoke/MethodHandle" ∧ y.cls ≠ "java/lang/invoke/VarHandle" ∧ (parseMethodDescriptor y.desc).map (fun d => d.parameters.length) = some As.length) (hR : rm.frames + 1 ≤ R.frames ∧ 8 + (maxL + 11) + rm.locals ≤ R.locals)
    (hst : st = As.reverse ++ rest) (hroom : (rest.map fun v => v.category).sum ≤ 8) (hdg : decode cc pc = .ok (.invokestatic index, 3)) (hf : kc + mc ≤ R.cells ∧ ns + ms ≤ R.slots)
    (isC isR : List Nat) (hC : isC.map (fun i => ws[i]?) = wc.map some) (hCn : va_nd isC = true) (hRr : isR.map (fun i => ws[i]?) = wr.map some) (hRn : va_nd isR = true) (hdis : ∀ i ∈ isR, i ∉ isC)
    (kk : ∀ (v : Option Value) (wo : va_W), post v wo → Go C R D cl nL (kc + mc) (ns + ms) (wr ++ wo) (pc + 3) lv (v.toList ++ rest)) : Go C R D cl nL kc ns ws pc lv st := by
  obtain ⟨p, l, e, s, m, args, below, meth, c, Q, A, H0⟩ := C
  obtain ⟨⟨hx, hb, hml, hown, hts⟩, hK, hA, hlk0⟩ := F
  intro H locs ls hP hD hS hl
  have hPc := hP.sub isC (sub_map hC)
  have hDc := hD.sub isC hCn hC
  refine z_run hA hP hD hS hl (va_runS (As := As) (rest := rest) (n := As.length) ⟨hx, hb, hml, hown, hts⟩ (hct H.size) ⟨callB_ofT _ hts hg hcode hrc.1 hrc.2 hini hlk hd hR, hts _ hst0⟩ ⟨Pi.blind, fun U hU hW => ⟨rfl, by rw [hU], by rw [hU]; exact hPc, va_K.moved hW.alike hK, hDc.weaken (fun _ _ _ _ => trivial)⟩⟩ rfl rfl hl.1 hst (lv_room hroom) hdg hf) isC isR hC hRr hRn hdis kk
theorem z_callI (F : Fx C D cl tys cc nL Ts own) (hg : Wg Ts) (hct : Ct Ts (zl C) y bytes maxL none rm mc ms D cl tys (.ref b :: As) wc post) (hcode : Cond.code y bytes maxL none ∈ Ts) (hini : Cond.initialized y.cls ∈ Ts) (hlk : Cond.methodLink own index y ∈ Ts) (him : Cond.instanceMethod y ∈ Ts) (hnm : y.name = "<init>")
    (hrc : rm.cells = mc ∧ rm.slots = ms) (hd : y.cls ≠ "java/lang/invoke/MethodHandle" ∧ y.cls ≠ "java/lang/invoke/VarHandle" ∧ (parseMethodDescriptor y.desc).map (fun d => d.parameters.length) = some As.length) (hR : rm.frames + 1 ≤ R.frames ∧ 8 + (maxL + 11) + rm.locals ≤ R.locals)
    (hst : st = As.reverse ++ .ref b :: rest) (hroom : (rest.map fun v => v.category).sum ≤ 8) (hdg : decode cc pc = .ok (.invokespecial index, 3)) (hf : kc + mc ≤ R.cells ∧ ns + ms ≤ R.slots)
    (isC isR : List Nat) (hC : isC.map (fun i => ws[i]?) = wc.map some) (hCn : va_nd isC = true) (hRr : isR.map (fun i => ws[i]?) = wr.map some) (hRn : va_nd isR = true) (hdis : ∀ i ∈ isR, i ∉ isC)
    (kk : ∀ (v : Option Value) (wo : va_W), post v wo → Go C R D cl nL (kc + mc) (ns + ms) (wr ++ wo) (pc + 3) lv (v.toList ++ rest)) : Go C R D cl nL kc ns ws pc lv st := by
  obtain ⟨p, l, e, s, m, args, below, meth, c, Q, A, H0⟩ := C
  obtain ⟨⟨hx, hb, hml, hown, hts⟩, hK, hA, hlk0⟩ := F
  intro H locs ls hP hD hS hl
  have hPc := hP.sub isC (sub_map hC)
  have hDc := hD.sub isC hCn hC
  refine z_run hA hP hD hS hl (va_runI (As := As) (rest := rest) (n := As.length) ⟨hx, hb, hml, hown, hts⟩ (hct H.size) ⟨callB_ofT _ hts hg hcode hrc.1 hrc.2 hini hlk hd hR, hnm, hts _ him⟩ ⟨Pi.blind, fun U hU hW => ⟨rfl, by rw [hU], by rw [hU]; exact hPc, va_K.moved hW.alike hK, hDc.weaken (fun _ _ _ _ => trivial)⟩⟩ rfl rfl hl.1 hst (lv_room hroom) hdg hf) isC isR hC hRr hRn hdis kk
theorem z_objInit (F : Fx C D cl tys cc nL Ts own) {a : Nat} (hlk : Cond.methodLink own index Lib.objectInit ∈ Ts) (him : Cond.instanceMethod Lib.objectInit ∈ Ts) (hcode : Cond.code Lib.objectInit ⟨#[0xb1]⟩ 1 none ∈ Ts) (hdg : decode cc pc = .ok (.invokespecial index, 3)) (hfr : 1 ≤ R.frames) (hlo : (st.map fun v => v.category).sum + 12 ≤ R.locals)
    (kk : Go C R D cl nL kc ns ws (pc + 3) lv st) : Go C R D cl nL kc ns ws pc lv (.ref a :: st) := by
  obtain ⟨p, l, e, s, m, args, below, meth, c, Q, A, H0⟩ := C
  obtain ⟨⟨hx, hb, hml, hown, hts⟩, hK, hA, hlk0⟩ := F
  intro H locs ls hP hD hS hl
  exact W.objInit hx hb hown (hts _ hlk) (hts _ him) (hts _ hcode) rfl (by rw [hml]; exact hl.1) rfl hdg hfr (by show 2 * 0 + _ + 12 ≤ _; omega) (kk H locs ls hP hD hS hl)
theorem z_new (F : Fx C D cl tys cc nL Ts own) {Cn : String} {T : u_T} {N : Nat} (hin : ∀ w ∈ u_ws Cn T N, w ∈ Ts) (ty : Nat → FieldType) (hty : ∀ k, k < N → parseFieldDescriptor (T k).2.2.1 = some (ty k)) (hcl : Cond.classLink own index Cn ∈ Ts) (hins : Cond.instantiable Cn N ∈ Ts) (hini : Cond.initialized Cn ∈ Ts) (hc : cl[ci]? = some (Cn, T, N)) (hfs : ∀ j, j < N → defaultValue (ty j) = vp_V fs j) (hf : kc + 1 ≤ R.cells ∧ ns + N ≤ R.slots) (hdg : decode cc pc = .ok (.new index, 3))
    (kk : ∀ a : Nat, Go C R D cl nL (kc + 1) (ns + N) (ws ++ [(a, .inr (ci, fs))]) (pc + 3) lv (.ref a :: st)) : Go C R D cl nL kc ns ws pc lv st := by
  obtain ⟨p, l, e, s, m, args, below, meth, c, Q, A, H0⟩ := C
  obtain ⟨⟨hx, hb, hml, hown, hts⟩, hK, hA, hlk0⟩ := F
  intro H locs ls hP hD hS hl
  exact va_new hx hb hts hin ty hty hown (hts _ hcl) (hts _ hins) (hts _ hini) hK hP hD hS hA hc hfs hf.1 hf.2 hdg (fun q H hP hD hS => kk q H locs ls hP hD hS hl)
theorem z_newa (F : Fx C D cl tys cc nL Ts own) {atype : ArrayType} {ty : FieldType} {cA : ClassId} (t0 : Nat) (harr : Cond.arrayClass ty ∈ Ts) (hty : newarray.typeOf atype = ty) (ht : tys[t0]? = some (cA, ty)) (hpr : ∀ (U : State) (c : ClassId), va_RA U c ty = (U.vm.findClass ("[" ++ ty.toString) = some c)) {i : Int} {N : Nat} {a0 : (Nat → Int32) ⊕ (Nat → Int64) ⊕ (Nat → UInt32) ⊕ (Nat → UInt64) ⊕ (Nat → Option Nat)} (ha : ∀ cA : ClassId, vp_cell cA (N, a0) = arrV cA N (fun _ => defaultValue ty)) (hi : 0 ≤ i ∧ i ≤ 2147483647) (hN : i.toNat = N) (hby : N * componentBytes ty ≤ 536870912) (hf : kc + 1 ≤ R.cells ∧ ns + N ≤ R.slots) (hdg : decode cc pc = .ok (.newarray atype, 2))
    (kk : ∀ a : Nat, Go C R D cl nL (kc + 1) (ns + N) (ws ++ [(a, .inl (cA, N, a0))]) (pc + 2) lv (.ref a :: st)) : Go C R D cl nL kc ns ws pc lv (.int (iZ i) :: st) := by
  obtain ⟨p, l, e, s, m, args, below, meth, c, Q, A, H0⟩ := C
  obtain ⟨⟨hx, hb, hml, hown, hts⟩, hK, hA, hlk0⟩ := F
  intro H locs ls hP hD hS hl
  subst hty
  refine va_newa hx hb (hts _ harr) rfl hK hP hD hS hA (N' := N) (a0 := (N, a0)) ha (fun q => ?_) (by rw [iZ_cl hi]; exact hN) hby hf.1 hf.2 hdg (fun q cA2 H hK2 hP hD hS => ?_)
  · have := (iZ_lt (a := i) (b := 0) ⟨⟨by omega, by omega⟩, by decide⟩).mp q
    omega
  · have h1 := (hK.2 t0 _ ht).2
    have h2 := (hK2.2 tys.length (cA2, newarray.typeOf atype) (by simp)).2
    dsimp only at h1 h2
    rw [hpr] at h1 h2
    have h3 : cA = cA2 := Option.some.inj (h1.symm.trans h2)
    subst h3
    exact kk q H locs ls hP hD hS hl
end ZCALL
section ZMATH
variable {C : ZC} {R : Room} {D : va_G} {cl : List vw_C} {tys : List (ClassId × FieldType)} {cc bytes : ByteArray} {nL maxL index : Nat} {Ts : List Cond} {own : String} {kc ns : Nat} {ws : va_W} {pc : Nat} {lv : List (Nat × Value)} {st : List Value}
theorem z_max (F : Fx C D cl tys cc nL Ts own) {a b : Int} (hlk : Cond.methodLink own index Lib.Math.max.name ∈ Ts) (hst : Cond.static Lib.Math.max.name ∈ Ts) (hini : Cond.initialized "java/lang/Math" ∈ Ts) (hcode : Cond.code Lib.Math.max.name Lib.Math.max.code 2 (some .int) ∈ Ts) (hfr : 1 ≤ R.frames) (hlo : (st.map fun v => v.category).sum + 13 ≤ R.locals) (hf : kc + 0 ≤ R.cells ∧ ns + 0 ≤ R.slots) (h : (-2147483648 ≤ a ∧ a ≤ 2147483647) ∧ (-2147483648 ≤ b ∧ b ≤ 2147483647)) (hdg : decode cc pc = .ok (.invokestatic index, 3))
    (k : Go C R D cl nL kc ns ws (pc + 3) lv (.int (iZ (max a b)) :: st)) : Go C R D cl nL kc ns ws pc lv (.int (iZ b) :: .int (iZ a) :: st) := by
  obtain ⟨p, l, e, s, m, args, below, meth, c, Q, A, H0⟩ := C
  obtain ⟨⟨hx, hb, hml, hown, hts⟩, hK, hA, hlk0⟩ := F
  intro H locs ls hP hD hS hl
  refine va_mmax hx hb (by rw [hml]; exact hl.1.symm) hown (hts _ hlk) (hts _ hst) (hts _ hini) (hts _ hcode) hfr hlo hf.1 hf.2 hdg ?_
  rw [iZ_max a b h]
  exact k H locs ls hP hD hS hl
theorem z_min (F : Fx C D cl tys cc nL Ts own) {a b : Int} (hlk : Cond.methodLink own index Lib.Math.min.name ∈ Ts) (hst : Cond.static Lib.Math.min.name ∈ Ts) (hini : Cond.initialized "java/lang/Math" ∈ Ts) (hcode : Cond.code Lib.Math.min.name Lib.Math.min.code 2 (some .int) ∈ Ts) (hfr : 1 ≤ R.frames) (hlo : (st.map fun v => v.category).sum + 13 ≤ R.locals) (hf : kc + 0 ≤ R.cells ∧ ns + 0 ≤ R.slots) (h : (-2147483648 ≤ a ∧ a ≤ 2147483647) ∧ (-2147483648 ≤ b ∧ b ≤ 2147483647)) (hdg : decode cc pc = .ok (.invokestatic index, 3))
    (k : Go C R D cl nL kc ns ws (pc + 3) lv (.int (iZ (min a b)) :: st)) : Go C R D cl nL kc ns ws pc lv (.int (iZ b) :: .int (iZ a) :: st) := by
  obtain ⟨p, l, e, s, m, args, below, meth, c, Q, A, H0⟩ := C
  obtain ⟨⟨hx, hb, hml, hown, hts⟩, hK, hA, hlk0⟩ := F
  intro H locs ls hP hD hS hl
  refine va_mmin hx hb (by rw [hml]; exact hl.1.symm) hown (hts _ hlk) (hts _ hst) (hts _ hini) (hts _ hcode) hfr hlo hf.1 hf.2 hdg ?_
  rw [iZ_min a b h]
  exact k H locs ls hP hD hS hl
theorem z_copy (F : Fx C D cl tys cc nL Ts own) {ws' : va_W} {a0 a1 n0 n1 : Nat} {c0 : ClassId} {ty : FieldType} {z w : Nat → Int} {sp dp n : Int} (q0 q1 t0 : Nat) (ha0 : ws[q0]? = some (a0, .inl (c0, n0, .inl (zf z)))) (ha1 : ws[q1]? = some (a1, .inl (c0, n1, .inl (zf w)))) (ht0 : tys[t0]? = some (c0, ty)) (hprim : refKind ty = false) (hlk : Cond.methodLink own index arraycopyName ∈ Ts) (hnat : Cond.native arraycopyName ∈ Ts) (hst : Cond.static arraycopyName ∈ Ts) (hini : Cond.initialized "java/lang/System" ∈ Ts)
    (h1 : 0 ≤ sp ∧ 0 ≤ dp ∧ 0 ≤ n ∧ sp + n ≤ n0 ∧ dp + n ≤ n1 ∧ n0 < 2147483648 ∧ n1 < 2147483648) (hfit : ∀ i : Nat, i < n.toNat → fits ty (.int (iZ (z (sp.toNat + i)))) = true) (hfr : 1 ≤ R.frames) (hlo : (st.map fun v => v.category).sum + (nativeFrameWords "java/lang/System" "arraycopy" 5 + 11) ≤ R.locals) (hdg : decode cc pc = .ok (.invokestatic index, 3))
    (hw : ws.set q1 (a1, .inl (c0, n1, .inl (zf (va_cpy z w sp.toNat dp.toNat n.toNat)))) = ws')
    (k : Go C R D cl nL kc ns ws' (pc + 3) lv st) : Go C R D cl nL kc ns ws pc lv (.int (iZ n) :: .int (iZ dp) :: .ref a1 :: .int (iZ sp) :: .ref a0 :: st) := by
  obtain ⟨p, l, e, s, m, args, below, meth, c, Q, A, H0⟩ := C
  obtain ⟨⟨hx, hb, hml, hown, hts⟩, hK, hA, hlk0⟩ := F
  intro H locs ls hP hD hS hl
  have e1 : (iZ sp).toNatClampNeg = sp.toNat := iZ_cl ⟨by omega, by omega⟩
  have e2 : (iZ dp).toNatClampNeg = dp.toNat := iZ_cl ⟨by omega, by omega⟩
  have e3 : (iZ n).toNatClampNeg = n.toNat := iZ_cl ⟨by omega, by omega⟩
  have ng : ∀ x : Int, 0 ≤ x → x ≤ 2147483647 → ¬ iZ x < 0 := fun x g1 g2 q => by
    have := (iZ_lt (a := x) (b := 0) ⟨⟨by omega, by omega⟩, by decide⟩).mp q
    omega
  refine va_copyi hx hb (by rw [hml]; exact hl.1.symm) hown (hts _ hlk) (hts _ hnat) (hts _ hst) (hts _ hini) hK hP hD hS q0 q1 t0 t0 ha0 ha1 ht0 ht0 hprim (ng sp (by omega) (by omega)) (ng dp (by omega) (by omega)) (ng n (by omega) (by omega)) (by rw [e1, e3]; omega) (by rw [e2, e3]; omega) (fun i hi => by rw [e1]; rw [e3] at hi; exact hfit i hi) hfr hlo hdg (fun H locs hP hD hS => ?_)
  rw [e1, e2, e3, zf_cpy, hw] at hP hD
  exact k H locs ls hP hD hS hl
end ZMATH
