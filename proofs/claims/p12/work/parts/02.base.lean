/-! numbers: every int of a walk is iZ z, z an Int -/
def iZ (z : Int) : Int32 := Int32.ofInt z
theorem iZ_toInt {z : Int} (h : -2147483648 ≤ z ∧ z ≤ 2147483647) : (iZ z).toInt = z := Int32.toInt_ofInt_of_le (by omega) (by omega)
theorem iZ_of (x : Int32) : iZ x.toInt = x := Int32.ofInt_toInt x
theorem iZ_ex (x : Int32) : ∃ z : Int, (-2147483648 ≤ z ∧ z ≤ 2147483647) ∧ x = iZ z := ⟨x.toInt, ⟨by have := x.le_toInt; omega, by have := x.toInt_lt; omega⟩, (iZ_of x).symm⟩
theorem iZ_add (a b : Int) : iZ a + iZ b = iZ (a + b) := (Int32.ofInt_add a b).symm
theorem iZ_sub (a b : Int) : iZ a - iZ b = iZ (a - b) := (Int32.ofInt_sub a b).symm
theorem iZ_mul (a b : Int) : iZ a * iZ b = iZ (a * b) := (Int32.ofInt_mul a b).symm
theorem iZ_neg (a : Int) : -iZ a = iZ (-a) := (Int32.ofInt_neg a).symm
theorem iZ_lt {a b : Int} (h : (-2147483648 ≤ a ∧ a ≤ 2147483647) ∧ (-2147483648 ≤ b ∧ b ≤ 2147483647)) : iZ a < iZ b ↔ a < b := by rw [Int32.lt_iff_toInt_lt, iZ_toInt h.1, iZ_toInt h.2]
theorem iZ_le {a b : Int} (h : (-2147483648 ≤ a ∧ a ≤ 2147483647) ∧ (-2147483648 ≤ b ∧ b ≤ 2147483647)) : iZ a ≤ iZ b ↔ a ≤ b := by rw [Int32.le_iff_toInt_le, iZ_toInt h.1, iZ_toInt h.2]
theorem iZ_eq {a b : Int} (h : (-2147483648 ≤ a ∧ a ≤ 2147483647) ∧ (-2147483648 ≤ b ∧ b ≤ 2147483647)) : iZ a = iZ b ↔ a = b := ⟨fun q => by rw [← iZ_toInt h.1, ← iZ_toInt h.2, q], fun q => by rw [q]⟩
theorem iZ_0 : iZ 0 = 0 := rfl
theorem iZ_cl {a : Int} (h : 0 ≤ a ∧ a ≤ 2147483647) : (iZ a).toNatClampNeg = a.toNat := Int32.toNatClampNeg_ofInt_of_le (by omega) (by omega)
theorem iZ_in {a : Int} {n : Nat} (h : 0 ≤ a ∧ a < n) (hn : n < 2147483648) : vp_in (iZ a) n := by
  rw [vp_in_iff, iZ_toInt ⟨by omega, by omega⟩]
  exact h
theorem iZ_nat (n : Nat) : Int32.ofNat n = iZ (n : Int) := (Int32.ofInt_eq_ofNat).symm
theorem iZ_and255 (a : Int) : iZ a &&& 255 = iZ (a % 256) := by
  have h : (255 : Int32).toBitVec.toNat = 2 ^ 8 - 1 := by decide
  rw [pk_and (iZ a) 8 h]
  have e1 : (iZ a).toBitVec = BitVec.ofInt 32 a := rfl
  rw [e1, BitVec.toNat_ofInt]
  show Int32.ofNat _ = _
  rw [iZ_nat]
  congr 1
  omega
theorem iZ_and1 (a : Int) : iZ a &&& 1 = iZ (a % 2) := by
  have h : (1 : Int32).toBitVec.toNat = 2 ^ 1 - 1 := by decide
  rw [pk_and (iZ a) 1 h]
  have e1 : (iZ a).toBitVec = BitVec.ofInt 32 a := rfl
  rw [e1, BitVec.toNat_ofInt]
  show Int32.ofNat _ = _
  rw [iZ_nat]
  congr 1
  omega
theorem iZ_and15 (a : Int) : iZ a &&& 15 = iZ (a % 16) := by
  have h : (15 : Int32).toBitVec.toNat = 2 ^ 4 - 1 := by decide
  rw [pk_and (iZ a) 4 h]
  have e1 : (iZ a).toBitVec = BitVec.ofInt 32 a := rfl
  rw [e1, BitVec.toNat_ofInt]
  show Int32.ofNat _ = _
  rw [iZ_nat]
  congr 1
  omega
theorem iZ_b (a : Int) : (iZ a).toInt8.toInt32 = iZ (a.bmod 256) := by
  show (Int32.ofInt a).toInt8.toInt32 = _
  rw [Int32.toInt8_ofInt]
  show (Int8.ofInt a).toInt32 = Int32.ofInt _
  rw [← Int32.ofInt_int8ToInt, Int8.toInt_ofInt]
theorem iZ_div {a b : Int} (ha : (-2147483648 ≤ a ∧ a ≤ 2147483647)) (hb : 0 < b ∧ b ≤ 2147483647) : iZ a / iZ b = iZ (a.tdiv b) := by
  apply Int32.toInt.inj
  rw [Int32.toInt_div_of_ne_right _ _ (fun q => by
    have : (iZ b).toInt = -1 := by rw [q]; rfl
    rw [iZ_toInt ⟨by omega, by omega⟩] at this; omega), iZ_toInt ha, iZ_toInt ⟨by omega, by omega⟩, iZ_toInt]
  have h1 : a.tdiv b ≤ 2147483647 ∧ -2147483648 ≤ a.tdiv b := by
    rcases Int.le_total 0 a with h | h
    · have h2 := Int.tdiv_nonneg h (Int.le_of_lt hb.1)
      have h3 : a.tdiv b ≤ a := Int.tdiv_le_self b h
      omega
    · have h2 : (-a).tdiv b = -(a.tdiv b) := Int.neg_tdiv a b
      have h4 := Int.tdiv_nonneg (show 0 ≤ -a by omega) (Int.le_of_lt hb.1)
      have h3 : (-a).tdiv b ≤ -a := Int.tdiv_le_self b (by omega)
      omega
  exact ⟨h1.2, h1.1⟩
theorem iZ_rem {a b : Int} (ha : (-2147483648 ≤ a ∧ a ≤ 2147483647)) (hb : 0 < b ∧ b ≤ 2147483647) : iZ a - iZ a / iZ b * iZ b = iZ (a.tmod b) := by
  rw [iZ_div ha hb, iZ_mul, iZ_sub]
  congr 1
  have := Int.mul_tdiv_add_tmod a b
  have h2 : a.tdiv b * b = b * a.tdiv b := Int.mul_comm _ _
  omega
theorem iZ_max (a b : Int) (h : (-2147483648 ≤ a ∧ a ≤ 2147483647) ∧ (-2147483648 ≤ b ∧ b ≤ 2147483647)) : (if iZ a < iZ b then iZ b else iZ a) = iZ (max a b) := by
  by_cases q : a < b
  · rw [if_pos ((iZ_lt h).mpr q), show max a b = b by omega]
  · rw [if_neg (fun z => q ((iZ_lt h).mp z)), show max a b = a by omega]
theorem iZ_min (a b : Int) (h : (-2147483648 ≤ a ∧ a ≤ 2147483647) ∧ (-2147483648 ≤ b ∧ b ≤ 2147483647)) : (if iZ b < iZ a then iZ b else iZ a) = iZ (min a b) := by
  by_cases q : b < a
  · rw [if_pos ((iZ_lt ⟨h.2, h.1⟩).mpr q), show min a b = b by omega]
  · rw [if_neg (fun z => q ((iZ_lt ⟨h.2, h.1⟩).mp z)), show min a b = a by omega]
/-! contents of an array of ints -/
def zf (z : Nat → Int) : Nat → Int32 := fun j => iZ (z j)
def zu (z : Nat → Int) (k : Nat) (v : Int) : Nat → Int := fun j => if j = k then v else z j
theorem zu_s {z : Nat → Int} {k : Nat} {v : Int} : zu z k v k = v := if_pos rfl
theorem zu_n {z : Nat → Int} {k j : Nat} {v : Int} (h : j ≠ k) : zu z k v j = z j := if_neg h
theorem zf_upd (z : Nat → Int) (k : Nat) (v : Int) : upd (zf z) k (iZ v) = zf (zu z k v) := by
  funext j
  unfold upd zf zu
  by_cases h : j = k <;> simp [h]
theorem zf_0 : (fun _ => (0 : Int32)) = zf (fun _ => 0) := rfl
theorem zf_cpy (z w : Nat → Int) (sp dp n : Nat) : va_cpy (zf z) (zf w) sp dp n = zf (va_cpy z w sp dp n) := by
  funext j
  unfold va_cpy zf
  by_cases h : dp ≤ j ∧ j < dp + n <;> simp [h]
def rng (lo hi : Int) (z : Nat → Int) : Prop := ∀ j, lo ≤ z j ∧ z j ≤ hi
theorem rng_0 {lo hi : Int} (h : lo ≤ 0 ∧ 0 ≤ hi) : rng lo hi (fun _ => 0) := fun _ => h
theorem rng_zu {lo hi : Int} {z : Nat → Int} {k : Nat} {v : Int} (h : rng lo hi z) (hv : lo ≤ v ∧ v ≤ hi) : rng lo hi (zu z k v) := fun j => by
  unfold zu
  by_cases q : j = k
  · rw [if_pos q]; exact hv
  · rw [if_neg q]; exact h j
theorem rng_cpy {lo hi : Int} {z w : Nat → Int} {sp dp n : Nat} (h : rng lo hi z) (h2 : rng lo hi w) : rng lo hi (va_cpy z w sp dp n) := fun j => by
  unfold va_cpy
  by_cases q : dp ≤ j ∧ j < dp + n
  · rw [if_pos q]; exact h _
  · rw [if_neg q]; exact h2 j
theorem bm_r (v : Int) : -128 ≤ v.bmod 256 ∧ v.bmod 256 ≤ 127 := by
  have h1 := Int.bmod_lt (x := v) (m := 256) (by decide)
  have h2 := Int.le_bmod (x := v) (m := 256) (by decide)
  omega
theorem bm_id {v : Int} (h : -128 ≤ v ∧ v ≤ 127) : v.bmod 256 = v := Int.bmod_eq_of_le (by omega) (by omega)
theorem fitB {x : Int} (h : -128 ≤ x ∧ x ≤ 127) : fits .byte (.int (iZ x)) = true := by
  have h1 := pk_fb (iZ x)
  rw [iZ_b, bm_id h] at h1
  exact h1
theorem dv_spec (a b : Int) (_ : 0 < b) : 0 ≤ a → a.tdiv b = a / b := fun h => Int.tdiv_eq_ediv_of_nonneg h
theorem md_spec (a b : Int) (hb : 0 < b) : (0 ≤ a → a.tmod b = a % b) ∧ -b < a.tmod b ∧ a.tmod b < b := ⟨fun h => Int.tmod_eq_emod_of_nonneg h, (tmod_bounds hb).1, (tmod_bounds hb).2⟩
/-! cells -/
abbrev KI : Type := ClassId × ClassId × ClassId × ClassId
abbrev TY (K : KI) : List (ClassId × FieldType) := [(K.1, .int), (K.2.1, .byte), (K.2.2.1, .boolean), (K.2.2.2, .long)]
abbrev aI (K : KI) (a n : Nat) (z : Nat → Int) : Nat × va_E := (a, .inl (K.1, n, .inl (zf z)))
abbrev aB (K : KI) (a n : Nat) (z : Nat → Int) : Nat × va_E := (a, .inl (K.2.1, n, .inl (zf z)))
abbrev aZ (K : KI) (a n : Nat) (z : Nat → Int) : Nat × va_E := (a, .inl (K.2.2.1, n, .inl (zf z)))
abbrev aL (K : KI) (a n : Nat) (f : Nat → Int64) : Nat × va_E := (a, .inl (K.2.2.2, n, .inr (.inl f)))
/-! the context of a walk -/
abbrev ZC : Type := Program × Launch × Env × State × MethodId × Array Value × List Frame × Method × Code × (State → Prop) × (Nat → Prop) × Heap
abbrev zl (C : ZC) : Launch := C.2.1
abbrev zNm (C : ZC) : String := C.2.2.2.2.2.2.2.1.name
def Go (C : ZC) (R : Room) (D : va_G) (cl : List vw_C) (nL : Nat) (k n : Nat) (ws : va_W) (pc : Nat) (lv : List (Nat × Value)) (st : List Value) : Prop := match C with
  | (p, l, e, s, m, args, below, meth, c, Q, A, H0) => ∀ (H : Heap) (locs : List Loc) (ls : Array Slot), va_P D cl ws H → va_D A ws → va_S A H0 H locs → lv_has ls nL lv → W p l e R s m args below meth c H locs k n Q (F0 m pc ls st)
def Fx (C : ZC) (D : va_G) (cl : List vw_C) (tys : List (ClassId × FieldType)) (cc : ByteArray) (nL : Nat) (Ts : List Cond) (own : String) : Prop := match C with
  | (p, l, e, s, m, args, below, meth, c, Q, A, H0) => CallFix p m c cc nL s args Ts own ∧ va_K D cl tys s ∧ (∀ q, H0.size ≤ q → A q) ∧ meth.locks = false
section ZROW
variable {C : ZC} {R : Room} {D : va_G} {cl : List vw_C} {tys : List (ClassId × FieldType)} {cc : ByteArray} {nL : Nat} {Ts : List Cond} {own : String} {kc ns : Nat} {ws : va_W} {pc : Nat} {lv : List (Nat × Value)} {st : List Value}
theorem z_iconst (F : Fx C D cl tys cc nL Ts own) {n : Int} (hd : decode cc pc = .ok (.iconst n, 1)) (k : Go C R D cl nL kc ns (ws) (pc + 1) (lv) (.int (iZ n) :: st)) : Go C R D cl nL kc ns (ws) (pc) (lv) (st) := by
  obtain ⟨p, l, e, s, m, args, below, meth, c, Q, A, H0⟩ := C
  obtain ⟨⟨hx, hb, hml, hown, hts⟩, hK, hA, hlk0⟩ := F
  intro H locs ls hP hD hS hl
  exact lv_iconst hx hb hd rfl (k H locs ls hP hD hS hl)
theorem z_bipush (F : Fx C D cl tys cc nL Ts own) {n : Int} (hd : decode cc pc = .ok (.bipush n, 2)) (hv : (Int8.ofInt n).toInt32 = iZ n) (k : Go C R D cl nL kc ns (ws) (pc + 2) (lv) (.int (iZ n) :: st)) : Go C R D cl nL kc ns (ws) (pc) (lv) (st) := by
  obtain ⟨p, l, e, s, m, args, below, meth, c, Q, A, H0⟩ := C
  obtain ⟨⟨hx, hb, hml, hown, hts⟩, hK, hA, hlk0⟩ := F
  intro H locs ls hP hD hS hl
  exact lv_bipush hx hb hd hv (k H locs ls hP hD hS hl)
theorem z_sipush (F : Fx C D cl tys cc nL Ts own) {n : Int} (hd : decode cc pc = .ok (.sipush n, 3)) (hv : (Int16.ofInt n).toInt32 = iZ n) (k : Go C R D cl nL kc ns (ws) (pc + 3) (lv) (.int (iZ n) :: st)) : Go C R D cl nL kc ns (ws) (pc) (lv) (st) := by
  obtain ⟨p, l, e, s, m, args, below, meth, c, Q, A, H0⟩ := C
  obtain ⟨⟨hx, hb, hml, hown, hts⟩, hK, hA, hlk0⟩ := F
  intro H locs ls hP hD hS hl
  exact lv_sipush hx hb hd hv (k H locs ls hP hD hS hl)
theorem z_lconst (F : Fx C D cl tys cc nL Ts own) {n : Fin 2} {v : Int64} (hd : decode cc pc = .ok (.lconst n, 1)) (hv : Int64.ofNat (n : Nat) = v) (k : Go C R D cl nL kc ns (ws) (pc + 1) (lv) (.long v :: st)) : Go C R D cl nL kc ns (ws) (pc) (lv) (st) := by
  obtain ⟨p, l, e, s, m, args, below, meth, c, Q, A, H0⟩ := C
  obtain ⟨⟨hx, hb, hml, hown, hts⟩, hK, hA, hlk0⟩ := F
  intro H locs ls hP hD hS hl
  exact lv_lconst hx hb hd hv (k H locs ls hP hD hS hl)
theorem z_ldc (F : Fx C D cl tys cc nL Ts own) {index : Nat} {v : Int32} {z : Int} (hc : Cond.constant own index v ∈ Ts) (hd : decode cc pc = .ok (.ldc index, 2)) (hv : v = iZ z) (k : Go C R D cl nL kc ns (ws) (pc + 2) (lv) (.int (iZ z) :: st)) : Go C R D cl nL kc ns (ws) (pc) (lv) (st) := by
  obtain ⟨p, l, e, s, m, args, below, meth, c, Q, A, H0⟩ := C
  obtain ⟨⟨hx, hb, hml, hown, hts⟩, hK, hA, hlk0⟩ := F
  intro H locs ls hP hD hS hl
  subst hv
  exact lv_ldc hx hb hown (hts _ hc) hd (k H locs ls hP hD hS hl)
theorem z_ldc2 (F : Fx C D cl tys cc nL Ts own) {index : Nat} {v : Int64} (hc : Cond.constantLong own index v ∈ Ts) (hd : decode cc pc = .ok (.ldc2_w index, 3)) (k : Go C R D cl nL kc ns (ws) (pc + 3) (lv) (.long v :: st)) : Go C R D cl nL kc ns (ws) (pc) (lv) (st) := by
  obtain ⟨p, l, e, s, m, args, below, meth, c, Q, A, H0⟩ := C
  obtain ⟨⟨hx, hb, hml, hown, hts⟩, hK, hA, hlk0⟩ := F
  intro H locs ls hP hD hS hl
  exact lv_ldc2 hx hb hown (hts _ hc) hd (k H locs ls hP hD hS hl)
theorem z_iload_n (F : Fx C D cl tys cc nL Ts own) {i : Fin 4} {x : Int32} (j : Nat) (hd : decode cc pc = .ok (.iload_n i, 1)) (hl0 : lv[j]? = some ((i : Nat), .int x)) (k : Go C R D cl nL kc ns (ws) (pc + 1) (lv) (.int x :: st)) : Go C R D cl nL kc ns (ws) (pc) (lv) (st) := by
  obtain ⟨p, l, e, s, m, args, below, meth, c, Q, A, H0⟩ := C
  obtain ⟨⟨hx, hb, hml, hown, hts⟩, hK, hA, hlk0⟩ := F
  intro H locs ls hP hD hS hl
  exact lv_iload_n hx hb hd rfl (lv_at hl j hl0) (k H locs ls hP hD hS hl)
theorem z_iload (F : Fx C D cl tys cc nL Ts own) {i : Nat} {x : Int32} (j : Nat) (hd : decode cc pc = .ok (.iload i, 2)) (hl0 : lv[j]? = some (i, .int x)) (k : Go C R D cl nL kc ns (ws) (pc + 2) (lv) (.int x :: st)) : Go C R D cl nL kc ns (ws) (pc) (lv) (st) := by
  obtain ⟨p, l, e, s, m, args, below, meth, c, Q, A, H0⟩ := C
  obtain ⟨⟨hx, hb, hml, hown, hts⟩, hK, hA, hlk0⟩ := F
  intro H locs ls hP hD hS hl
  exact lv_iload hx hb hd (lv_at hl j hl0) (k H locs ls hP hD hS hl)
theorem z_lload_n (F : Fx C D cl tys cc nL Ts own) {i : Fin 4} {x : Int64} (j : Nat) (hd : decode cc pc = .ok (.lload_n i, 1)) (hl0 : lv[j]? = some ((i : Nat), .long x)) (k : Go C R D cl nL kc ns (ws) (pc + 1) (lv) (.long x :: st)) : Go C R D cl nL kc ns (ws) (pc) (lv) (st) := by
  obtain ⟨p, l, e, s, m, args, below, meth, c, Q, A, H0⟩ := C
  obtain ⟨⟨hx, hb, hml, hown, hts⟩, hK, hA, hlk0⟩ := F
  intro H locs ls hP hD hS hl
  exact lv_lload_n hx hb hd rfl (lv_at hl j hl0) (k H locs ls hP hD hS hl)
theorem z_lload (F : Fx C D cl tys cc nL Ts own) {i : Nat} {x : Int64} (j : Nat) (hd : decode cc pc = .ok (.lload i, 2)) (hl0 : lv[j]? = some (i, .long x)) (k : Go C R D cl nL kc ns (ws) (pc + 2) (lv) (.long x :: st)) : Go C R D cl nL kc ns (ws) (pc) (lv) (st) := by
  obtain ⟨p, l, e, s, m, args, below, meth, c, Q, A, H0⟩ := C
  obtain ⟨⟨hx, hb, hml, hown, hts⟩, hK, hA, hlk0⟩ := F
  intro H locs ls hP hD hS hl
  exact lv_lload hx hb hd (lv_at hl j hl0) (k H locs ls hP hD hS hl)
theorem z_aload_n (F : Fx C D cl tys cc nL Ts own) {i : Fin 4} {x : Nat} (j : Nat) (hd : decode cc pc = .ok (.aload_n i, 1)) (hl0 : lv[j]? = some ((i : Nat), .ref x)) (k : Go C R D cl nL kc ns (ws) (pc + 1) (lv) (.ref x :: st)) : Go C R D cl nL kc ns (ws) (pc) (lv) (st) := by
  obtain ⟨p, l, e, s, m, args, below, meth, c, Q, A, H0⟩ := C
  obtain ⟨⟨hx, hb, hml, hown, hts⟩, hK, hA, hlk0⟩ := F
  intro H locs ls hP hD hS hl
  exact lv_aload_n hx hb hd rfl (lv_at hl j hl0) (k H locs ls hP hD hS hl)
theorem z_aload (F : Fx C D cl tys cc nL Ts own) {i : Nat} {x : Nat} (j : Nat) (hd : decode cc pc = .ok (.aload i, 2)) (hl0 : lv[j]? = some (i, .ref x)) (k : Go C R D cl nL kc ns (ws) (pc + 2) (lv) (.ref x :: st)) : Go C R D cl nL kc ns (ws) (pc) (lv) (st) := by
  obtain ⟨p, l, e, s, m, args, below, meth, c, Q, A, H0⟩ := C
  obtain ⟨⟨hx, hb, hml, hown, hts⟩, hK, hA, hlk0⟩ := F
  intro H locs ls hP hD hS hl
  exact lv_aload hx hb hd (lv_at hl j hl0) (k H locs ls hP hD hS hl)
theorem z_istore_n (F : Fx C D cl tys cc nL Ts own) {i : Fin 4} {x : Int32} {lv' : List (Nat × Value)} (hd : decode cc pc = .ok (.istore_n i, 1)) (hn : (i : Nat) < nL) (hl0 : ((i : Nat), Value.int x) :: lv.filter (fun q => !(q.1 == (i : Nat)) && !(q.1 + 1 == (i : Nat) && q.2.category == 2)) = lv') (k : Go C R D cl nL kc ns (ws) (pc + 1) (lv') (st)) : Go C R D cl nL kc ns (ws) (pc) (lv) (.int x :: st) := by
  obtain ⟨p, l, e, s, m, args, below, meth, c, Q, A, H0⟩ := C
  obtain ⟨⟨hx, hb, hml, hown, hts⟩, hK, hA, hlk0⟩ := F
  intro H locs ls hP hD hS hl
  exact lv_istore_n hx hb hd rfl hl hn hl0 (fun ls hl => k H locs ls hP hD hS hl)
theorem z_istore (F : Fx C D cl tys cc nL Ts own) {i : Nat} {x : Int32} {lv' : List (Nat × Value)} (hd : decode cc pc = .ok (.istore i, 2)) (hn : i < nL) (hl0 : (i, Value.int x) :: lv.filter (fun q => !(q.1 == i) && !(q.1 + 1 == i && q.2.category == 2)) = lv') (k : Go C R D cl nL kc ns (ws) (pc + 2) (lv') (st)) : Go C R D cl nL kc ns (ws) (pc) (lv) (.int x :: st) := by
  obtain ⟨p, l, e, s, m, args, below, meth, c, Q, A, H0⟩ := C
  obtain ⟨⟨hx, hb, hml, hown, hts⟩, hK, hA, hlk0⟩ := F
  intro H locs ls hP hD hS hl
  exact lv_istore hx hb hd hl hn hl0 (fun ls hl => k H locs ls hP hD hS hl)
theorem z_astore_n (F : Fx C D cl tys cc nL Ts own) {i : Fin 4} {x : Nat} {lv' : List (Nat × Value)} (hd : decode cc pc = .ok (.astore_n i, 1)) (hn : (i : Nat) < nL) (hl0 : ((i : Nat), Value.ref x) :: lv.filter (fun q => !(q.1 == (i : Nat)) && !(q.1 + 1 == (i : Nat) && q.2.category == 2)) = lv') (k : Go C R D cl nL kc ns (ws) (pc + 1) (lv') (st)) : Go C R D cl nL kc ns (ws) (pc) (lv) (.ref x :: st) := by
  obtain ⟨p, l, e, s, m, args, below, meth, c, Q, A, H0⟩ := C
  obtain ⟨⟨hx, hb, hml, hown, hts⟩, hK, hA, hlk0⟩ := F
  intro H locs ls hP hD hS hl
  exact lv_astore_n hx hb hd rfl hl hn hl0 (fun ls hl => k H locs ls hP hD hS hl)
theorem z_astore (F : Fx C D cl tys cc nL Ts own) {i : Nat} {x : Nat} {lv' : List (Nat × Value)} (hd : decode cc pc = .ok (.astore i, 2)) (hn : i < nL) (hl0 : (i, Value.ref x) :: lv.filter (fun q => !(q.1 == i) && !(q.1 + 1 == i && q.2.category == 2)) = lv') (k : Go C R D cl nL kc ns (ws) (pc + 2) (lv') (st)) : Go C R D cl nL kc ns (ws) (pc) (lv) (.ref x :: st) := by
  obtain ⟨p, l, e, s, m, args, below, meth, c, Q, A, H0⟩ := C
  obtain ⟨⟨hx, hb, hml, hown, hts⟩, hK, hA, hlk0⟩ := F
  intro H locs ls hP hD hS hl
  exact lv_astore hx hb hd hl hn hl0 (fun ls hl => k H locs ls hP hD hS hl)
theorem z_iinc (F : Fx C D cl tys cc nL Ts own) {i : Nat} {n z : Int} {lv' : List (Nat × Value)} (j : Nat) (hd : decode cc pc = .ok (.iinc i n, 3)) (hj : lv[j]? = some (i, .int (iZ z))) (hn : i < nL) (hl0 : (i, Value.int (iZ (z + n))) :: lv.filter (fun q => !(q.1 == i) && !(q.1 + 1 == i && q.2.category == 2)) = lv') (k : Go C R D cl nL kc ns (ws) (pc + 3) (lv') (st)) : Go C R D cl nL kc ns (ws) (pc) (lv) (st) := by
  obtain ⟨p, l, e, s, m, args, below, meth, c, Q, A, H0⟩ := C
  obtain ⟨⟨hx, hb, hml, hown, hts⟩, hK, hA, hlk0⟩ := F
  intro H locs ls hP hD hS hl
  exact lv_iinc (v := iZ (z + n)) hx hb hd hl hj (iZ_add z n) hn hl0 (fun ls hl => k H locs ls hP hD hS hl)
theorem z_iadd (F : Fx C D cl tys cc nL Ts own) {a b : Int} (hd : decode cc pc = .ok (.iadd, 1)) (k : Go C R D cl nL kc ns (ws) (pc + 1) (lv) (.int (iZ (a + b)) :: st)) : Go C R D cl nL kc ns (ws) (pc) (lv) (.int (iZ b) :: .int (iZ a) :: st) := by
  obtain ⟨p, l, e, s, m, args, below, meth, c, Q, A, H0⟩ := C
  obtain ⟨⟨hx, hb, hml, hown, hts⟩, hK, hA, hlk0⟩ := F
  intro H locs ls hP hD hS hl
  refine lv_iadd hx hb hd ?_
  rw [iZ_add]
  exact k H locs ls hP hD hS hl
theorem z_isub (F : Fx C D cl tys cc nL Ts own) {a b : Int} (hd : decode cc pc = .ok (.isub, 1)) (k : Go C R D cl nL kc ns (ws) (pc + 1) (lv) (.int (iZ (a - b)) :: st)) : Go C R D cl nL kc ns (ws) (pc) (lv) (.int (iZ b) :: .int (iZ a) :: st) := by
  obtain ⟨p, l, e, s, m, args, below, meth, c, Q, A, H0⟩ := C
  obtain ⟨⟨hx, hb, hml, hown, hts⟩, hK, hA, hlk0⟩ := F
  intro H locs ls hP hD hS hl
  refine lv_isub hx hb hd ?_
  rw [iZ_sub]
  exact k H locs ls hP hD hS hl
theorem z_imul (F : Fx C D cl tys cc nL Ts own) {a b : Int} (hd : decode cc pc = .ok (.imul, 1)) (k : Go C R D cl nL kc ns (ws) (pc + 1) (lv) (.int (iZ (a * b)) :: st)) : Go C R D cl nL kc ns (ws) (pc) (lv) (.int (iZ b) :: .int (iZ a) :: st) := by
  obtain ⟨p, l, e, s, m, args, below, meth, c, Q, A, H0⟩ := C
  obtain ⟨⟨hx, hb, hml, hown, hts⟩, hK, hA, hlk0⟩ := F
  intro H locs ls hP hD hS hl
  refine lv_imul hx hb hd ?_
  rw [iZ_mul]
  exact k H locs ls hP hD hS hl
theorem z_ineg (F : Fx C D cl tys cc nL Ts own) {a : Int} (hd : decode cc pc = .ok (.ineg, 1)) (k : Go C R D cl nL kc ns (ws) (pc + 1) (lv) (.int (iZ (-a)) :: st)) : Go C R D cl nL kc ns (ws) (pc) (lv) (.int (iZ a) :: st) := by
  obtain ⟨p, l, e, s, m, args, below, meth, c, Q, A, H0⟩ := C
  obtain ⟨⟨hx, hb, hml, hown, hts⟩, hK, hA, hlk0⟩ := F
  intro H locs ls hP hD hS hl
  refine lv_ineg hx hb hd ?_
  rw [iZ_neg]
  exact k H locs ls hP hD hS hl
theorem z_idiv (F : Fx C D cl tys cc nL Ts own) {a b : Int} (hd : decode cc pc = .ok (.idiv, 1)) (ha : (-2147483648 ≤ a ∧ a ≤ 2147483647)) (hb0 : 0 < b ∧ b ≤ 2147483647) (k : Go C R D cl nL kc ns (ws) (pc + 1) (lv) (.int (iZ (a.tdiv b)) :: st)) : Go C R D cl nL kc ns (ws) (pc) (lv) (.int (iZ b) :: .int (iZ a) :: st) := by
  obtain ⟨p, l, e, s, m, args, below, meth, c, Q, A, H0⟩ := C
  obtain ⟨⟨hx, hb, hml, hown, hts⟩, hK, hA, hlk0⟩ := F
  intro H locs ls hP hD hS hl
  refine lv_idiv hx hb hd (fun q => ?_) ?_
  · have := (iZ_eq (a := b) (b := 0) ⟨⟨by omega, by omega⟩, by decide⟩).mp q
    omega
  · rw [iZ_div ha hb0]
    exact k H locs ls hP hD hS hl
theorem z_irem (F : Fx C D cl tys cc nL Ts own) {a b : Int} (hd : decode cc pc = .ok (.irem, 1)) (ha : (-2147483648 ≤ a ∧ a ≤ 2147483647)) (hb0 : 0 < b ∧ b ≤ 2147483647) (k : Go C R D cl nL kc ns (ws) (pc + 1) (lv) (.int (iZ (a.tmod b)) :: st)) : Go C R D cl nL kc ns (ws) (pc) (lv) (.int (iZ b) :: .int (iZ a) :: st) := by
  obtain ⟨p, l, e, s, m, args, below, meth, c, Q, A, H0⟩ := C
  obtain ⟨⟨hx, hb, hml, hown, hts⟩, hK, hA, hlk0⟩ := F
  intro H locs ls hP hD hS hl
  refine lv_irem hx hb hd (fun q => ?_) ?_
  · have := (iZ_eq (a := b) (b := 0) ⟨⟨by omega, by omega⟩, by decide⟩).mp q
    omega
  · rw [iZ_rem ha hb0]
    exact k H locs ls hP hD hS hl
theorem z_and255 (F : Fx C D cl tys cc nL Ts own) {a : Int} (hd : decode cc pc = .ok (.iand, 1)) (k : Go C R D cl nL kc ns (ws) (pc + 1) (lv) (.int (iZ (a % 256)) :: st)) : Go C R D cl nL kc ns (ws) (pc) (lv) (.int (iZ 255) :: .int (iZ a) :: st) := by
  obtain ⟨p, l, e, s, m, args, below, meth, c, Q, A, H0⟩ := C
  obtain ⟨⟨hx, hb, hml, hown, hts⟩, hK, hA, hlk0⟩ := F
  intro H locs ls hP hD hS hl
  refine lv_iand hx hb hd ?_
  rw [show iZ 255 = (255 : Int32) from rfl, iZ_and255]
  exact k H locs ls hP hD hS hl
theorem z_and15 (F : Fx C D cl tys cc nL Ts own) {a : Int} (hd : decode cc pc = .ok (.iand, 1)) (k : Go C R D cl nL kc ns (ws) (pc + 1) (lv) (.int (iZ (a % 16)) :: st)) : Go C R D cl nL kc ns (ws) (pc) (lv) (.int (iZ 15) :: .int (iZ a) :: st) := by
  obtain ⟨p, l, e, s, m, args, below, meth, c, Q, A, H0⟩ := C
  obtain ⟨⟨hx, hb, hml, hown, hts⟩, hK, hA, hlk0⟩ := F
  intro H locs ls hP hD hS hl
  refine lv_iand hx hb hd ?_
  rw [show iZ 15 = (15 : Int32) from rfl, iZ_and15]
  exact k H locs ls hP hD hS hl
theorem z_and1 (F : Fx C D cl tys cc nL Ts own) {a : Int} (hd : decode cc pc = .ok (.iand, 1)) (k : Go C R D cl nL kc ns (ws) (pc + 1) (lv) (.int (iZ (a % 2)) :: st)) : Go C R D cl nL kc ns (ws) (pc) (lv) (.int (iZ 1) :: .int (iZ a) :: st) := by
  obtain ⟨p, l, e, s, m, args, below, meth, c, Q, A, H0⟩ := C
  obtain ⟨⟨hx, hb, hml, hown, hts⟩, hK, hA, hlk0⟩ := F
  intro H locs ls hP hD hS hl
  refine lv_iand hx hb hd ?_
  rw [show iZ 1 = (1 : Int32) from rfl, iZ_and1]
  exact k H locs ls hP hD hS hl
theorem z_iand (F : Fx C D cl tys cc nL Ts own) {x y : Int32} (hd : decode cc pc = .ok (.iand, 1)) (k : ∀ z : Int, (-2147483648 ≤ z ∧ z ≤ 2147483647) → x &&& y = iZ z → Go C R D cl nL kc ns (ws) (pc + 1) (lv) (.int (iZ z) :: st)) : Go C R D cl nL kc ns (ws) (pc) (lv) (.int y :: .int x :: st) := by
  obtain ⟨p, l, e, s, m, args, below, meth, c, Q, A, H0⟩ := C
  obtain ⟨⟨hx, hb, hml, hown, hts⟩, hK, hA, hlk0⟩ := F
  intro H locs ls hP hD hS hl
  obtain ⟨z, h1, h2⟩ := iZ_ex (x &&& y)
  refine lv_iand hx hb hd ?_
  rw [h2]
  exact k z h1 h2 H locs ls hP hD hS hl
theorem z_ior (F : Fx C D cl tys cc nL Ts own) {x y : Int32} (hd : decode cc pc = .ok (.ior, 1)) (k : ∀ z : Int, (-2147483648 ≤ z ∧ z ≤ 2147483647) → x ||| y = iZ z → Go C R D cl nL kc ns (ws) (pc + 1) (lv) (.int (iZ z) :: st)) : Go C R D cl nL kc ns (ws) (pc) (lv) (.int y :: .int x :: st) := by
  obtain ⟨p, l, e, s, m, args, below, meth, c, Q, A, H0⟩ := C
  obtain ⟨⟨hx, hb, hml, hown, hts⟩, hK, hA, hlk0⟩ := F
  intro H locs ls hP hD hS hl
  obtain ⟨z, h1, h2⟩ := iZ_ex (x ||| y)
  refine lv_ior hx hb hd ?_
  rw [h2]
  exact k z h1 h2 H locs ls hP hD hS hl
theorem z_ixor (F : Fx C D cl tys cc nL Ts own) {x y : Int32} (hd : decode cc pc = .ok (.ixor, 1)) (k : ∀ z : Int, (-2147483648 ≤ z ∧ z ≤ 2147483647) → x ^^^ y = iZ z → Go C R D cl nL kc ns (ws) (pc + 1) (lv) (.int (iZ z) :: st)) : Go C R D cl nL kc ns (ws) (pc) (lv) (.int y :: .int x :: st) := by
  obtain ⟨p, l, e, s, m, args, below, meth, c, Q, A, H0⟩ := C
  obtain ⟨⟨hx, hb, hml, hown, hts⟩, hK, hA, hlk0⟩ := F
  intro H locs ls hP hD hS hl
  obtain ⟨z, h1, h2⟩ := iZ_ex (x ^^^ y)
  refine lv_ixor hx hb hd ?_
  rw [h2]
  exact k z h1 h2 H locs ls hP hD hS hl
theorem z_ishl (F : Fx C D cl tys cc nL Ts own) {x y : Int32} (hd : decode cc pc = .ok (.ishl, 1)) (k : ∀ z : Int, (-2147483648 ≤ z ∧ z ≤ 2147483647) → x <<< (y &&& 31) = iZ z → Go C R D cl nL kc ns (ws) (pc + 1) (lv) (.int (iZ z) :: st)) : Go C R D cl nL kc ns (ws) (pc) (lv) (.int y :: .int x :: st) := by
  obtain ⟨p, l, e, s, m, args, below, meth, c, Q, A, H0⟩ := C
  obtain ⟨⟨hx, hb, hml, hown, hts⟩, hK, hA, hlk0⟩ := F
  intro H locs ls hP hD hS hl
  obtain ⟨z, h1, h2⟩ := iZ_ex (x <<< (y &&& 31))
  refine lv_ishl hx hb hd ?_
  rw [h2]
  exact k z h1 h2 H locs ls hP hD hS hl
theorem z_ishr (F : Fx C D cl tys cc nL Ts own) {x y : Int32} (hd : decode cc pc = .ok (.ishr, 1)) (k : ∀ z : Int, (-2147483648 ≤ z ∧ z ≤ 2147483647) → x >>> (y &&& 31) = iZ z → Go C R D cl nL kc ns (ws) (pc + 1) (lv) (.int (iZ z) :: st)) : Go C R D cl nL kc ns (ws) (pc) (lv) (.int y :: .int x :: st) := by
  obtain ⟨p, l, e, s, m, args, below, meth, c, Q, A, H0⟩ := C
  obtain ⟨⟨hx, hb, hml, hown, hts⟩, hK, hA, hlk0⟩ := F
  intro H locs ls hP hD hS hl
  obtain ⟨z, h1, h2⟩ := iZ_ex (x >>> (y &&& 31))
  refine lv_ishr hx hb hd ?_
  rw [h2]
  exact k z h1 h2 H locs ls hP hD hS hl
theorem z_iushr (F : Fx C D cl tys cc nL Ts own) {x y : Int32} (hd : decode cc pc = .ok (.iushr, 1)) (k : ∀ z : Int, (-2147483648 ≤ z ∧ z ≤ 2147483647) → (x.toUInt32 >>> (y.toUInt32 &&& Int32.toUInt32 31)).toInt32 = iZ z → Go C R D cl nL kc ns (ws) (pc + 1) (lv) (.int (iZ z) :: st)) : Go C R D cl nL kc ns (ws) (pc) (lv) (.int y :: .int x :: st) := by
  obtain ⟨p, l, e, s, m, args, below, meth, c, Q, A, H0⟩ := C
  obtain ⟨⟨hx, hb, hml, hown, hts⟩, hK, hA, hlk0⟩ := F
  intro H locs ls hP hD hS hl
  obtain ⟨z, h1, h2⟩ := iZ_ex ((x.toUInt32 >>> (y.toUInt32 &&& Int32.toUInt32 31)).toInt32)
  exact lv_iushr hx hb hd h2 (k z h1 h2 H locs ls hP hD hS hl)
theorem z_l2i (F : Fx C D cl tys cc nL Ts own) {x : Int64} (hd : decode cc pc = .ok (.l2i, 1)) (k : ∀ z : Int, (-2147483648 ≤ z ∧ z ≤ 2147483647) → x.toInt32 = iZ z → Go C R D cl nL kc ns (ws) (pc + 1) (lv) (.int (iZ z) :: st)) : Go C R D cl nL kc ns (ws) (pc) (lv) (.long x :: st) := by
  obtain ⟨p, l, e, s, m, args, below, meth, c, Q, A, H0⟩ := C
  obtain ⟨⟨hx, hb, hml, hown, hts⟩, hK, hA, hlk0⟩ := F
  intro H locs ls hP hD hS hl
  obtain ⟨z, h1, h2⟩ := iZ_ex (x.toInt32)
  exact lv_l2i hx hb hd h2 (k z h1 h2 H locs ls hP hD hS hl)
theorem z_lcmp (F : Fx C D cl tys cc nL Ts own) {x y : Int64} (hd : decode cc pc = .ok (.lcmp, 1)) (k : ∀ z : Int, (-2147483648 ≤ z ∧ z ≤ 2147483647) → lg_cmp x y = iZ z → Go C R D cl nL kc ns (ws) (pc + 1) (lv) (.int (iZ z) :: st)) : Go C R D cl nL kc ns (ws) (pc) (lv) (.long y :: .long x :: st) := by
  obtain ⟨p, l, e, s, m, args, below, meth, c, Q, A, H0⟩ := C
  obtain ⟨⟨hx, hb, hml, hown, hts⟩, hK, hA, hlk0⟩ := F
  intro H locs ls hP hD hS hl
  obtain ⟨z, h1, h2⟩ := iZ_ex (lg_cmp x y)
  refine W.lcmp hx hb hd ?_
  rw [h2]
  exact k z h1 h2 H locs ls hP hD hS hl
theorem z_i2b (F : Fx C D cl tys cc nL Ts own) {a : Int} (hd : decode cc pc = .ok (.i2b, 1)) (k : Go C R D cl nL kc ns (ws) (pc + 1) (lv) (.int (iZ (a.bmod 256)) :: st)) : Go C R D cl nL kc ns (ws) (pc) (lv) (.int (iZ a) :: st) := by
  obtain ⟨p, l, e, s, m, args, below, meth, c, Q, A, H0⟩ := C
  obtain ⟨⟨hx, hb, hml, hown, hts⟩, hK, hA, hlk0⟩ := F
  intro H locs ls hP hD hS hl
  exact lv_i2b hx hb hd (iZ_b a) (k H locs ls hP hD hS hl)
theorem z_i2l (F : Fx C D cl tys cc nL Ts own) {x : Int32} (hd : decode cc pc = .ok (.i2l, 1)) (k : Go C R D cl nL kc ns (ws) (pc + 1) (lv) (.long x.toInt64 :: st)) : Go C R D cl nL kc ns (ws) (pc) (lv) (.int x :: st) := by
  obtain ⟨p, l, e, s, m, args, below, meth, c, Q, A, H0⟩ := C
  obtain ⟨⟨hx, hb, hml, hown, hts⟩, hK, hA, hlk0⟩ := F
  intro H locs ls hP hD hS hl
  exact lv_i2l hx hb hd rfl (k H locs ls hP hD hS hl)
theorem z_ladd (F : Fx C D cl tys cc nL Ts own) {x y : Int64} (hd : decode cc pc = .ok (.ladd, 1)) (k : Go C R D cl nL kc ns (ws) (pc + 1) (lv) (.long (x + y) :: st)) : Go C R D cl nL kc ns (ws) (pc) (lv) (.long y :: .long x :: st) := by
  obtain ⟨p, l, e, s, m, args, below, meth, c, Q, A, H0⟩ := C
  obtain ⟨⟨hx, hb, hml, hown, hts⟩, hK, hA, hlk0⟩ := F
  intro H locs ls hP hD hS hl
  exact lv_ladd hx hb hd (k H locs ls hP hD hS hl)
theorem z_lsub (F : Fx C D cl tys cc nL Ts own) {x y : Int64} (hd : decode cc pc = .ok (.lsub, 1)) (k : Go C R D cl nL kc ns (ws) (pc + 1) (lv) (.long (x - y) :: st)) : Go C R D cl nL kc ns (ws) (pc) (lv) (.long y :: .long x :: st) := by
  obtain ⟨p, l, e, s, m, args, below, meth, c, Q, A, H0⟩ := C
  obtain ⟨⟨hx, hb, hml, hown, hts⟩, hK, hA, hlk0⟩ := F
  intro H locs ls hP hD hS hl
  exact lv_lsub hx hb hd (k H locs ls hP hD hS hl)
theorem z_lmul (F : Fx C D cl tys cc nL Ts own) {x y : Int64} (hd : decode cc pc = .ok (.lmul, 1)) (k : Go C R D cl nL kc ns (ws) (pc + 1) (lv) (.long (x * y) :: st)) : Go C R D cl nL kc ns (ws) (pc) (lv) (.long y :: .long x :: st) := by
  obtain ⟨p, l, e, s, m, args, below, meth, c, Q, A, H0⟩ := C
  obtain ⟨⟨hx, hb, hml, hown, hts⟩, hK, hA, hlk0⟩ := F
  intro H locs ls hP hD hS hl
  exact lv_lmul hx hb hd (k H locs ls hP hD hS hl)
theorem z_land (F : Fx C D cl tys cc nL Ts own) {x y : Int64} (hd : decode cc pc = .ok (.land, 1)) (k : Go C R D cl nL kc ns (ws) (pc + 1) (lv) (.long (x &&& y) :: st)) : Go C R D cl nL kc ns (ws) (pc) (lv) (.long y :: .long x :: st) := by
  obtain ⟨p, l, e, s, m, args, below, meth, c, Q, A, H0⟩ := C
  obtain ⟨⟨hx, hb, hml, hown, hts⟩, hK, hA, hlk0⟩ := F
  intro H locs ls hP hD hS hl
  exact lv_land hx hb hd (k H locs ls hP hD hS hl)
theorem z_lor (F : Fx C D cl tys cc nL Ts own) {x y : Int64} (hd : decode cc pc = .ok (.lor, 1)) (k : Go C R D cl nL kc ns (ws) (pc + 1) (lv) (.long (x ||| y) :: st)) : Go C R D cl nL kc ns (ws) (pc) (lv) (.long y :: .long x :: st) := by
  obtain ⟨p, l, e, s, m, args, below, meth, c, Q, A, H0⟩ := C
  obtain ⟨⟨hx, hb, hml, hown, hts⟩, hK, hA, hlk0⟩ := F
  intro H locs ls hP hD hS hl
  exact lv_lor hx hb hd (k H locs ls hP hD hS hl)
theorem z_lxor (F : Fx C D cl tys cc nL Ts own) {x y : Int64} (hd : decode cc pc = .ok (.lxor, 1)) (k : Go C R D cl nL kc ns (ws) (pc + 1) (lv) (.long (x ^^^ y) :: st)) : Go C R D cl nL kc ns (ws) (pc) (lv) (.long y :: .long x :: st) := by
  obtain ⟨p, l, e, s, m, args, below, meth, c, Q, A, H0⟩ := C
  obtain ⟨⟨hx, hb, hml, hown, hts⟩, hK, hA, hlk0⟩ := F
  intro H locs ls hP hD hS hl
  exact lv_lxor hx hb hd (k H locs ls hP hD hS hl)
theorem z_lrem (F : Fx C D cl tys cc nL Ts own) {x y : Int64} (hd : decode cc pc = .ok (.lrem, 1)) (hne : ¬ y = 0) (k : Go C R D cl nL kc ns (ws) (pc + 1) (lv) (.long (x - x / y * y) :: st)) : Go C R D cl nL kc ns (ws) (pc) (lv) (.long y :: .long x :: st) := by
  obtain ⟨p, l, e, s, m, args, below, meth, c, Q, A, H0⟩ := C
  obtain ⟨⟨hx, hb, hml, hown, hts⟩, hK, hA, hlk0⟩ := F
  intro H locs ls hP hD hS hl
  exact lv_lrem hx hb hd hne (k H locs ls hP hD hS hl)
theorem z_lushr (F : Fx C D cl tys cc nL Ts own) {x : Int64} {y : Int32} (hd : decode cc pc = .ok (.lushr, 1)) (k : Go C R D cl nL kc ns (ws) (pc + 1) (lv) (.long ((x.toUInt64 >>> (y.toInt64.toUInt64 &&& Int64.toUInt64 63)).toInt64) :: st)) : Go C R D cl nL kc ns (ws) (pc) (lv) (.int y :: .long x :: st) := by
  obtain ⟨p, l, e, s, m, args, below, meth, c, Q, A, H0⟩ := C
  obtain ⟨⟨hx, hb, hml, hown, hts⟩, hK, hA, hlk0⟩ := F
  intro H locs ls hP hD hS hl
  exact lv_lushr hx hb hd rfl (k H locs ls hP hD hS hl)
theorem z_lshl (F : Fx C D cl tys cc nL Ts own) {x : Int64} {y : Int32} (hd : decode cc pc = .ok (.lshl, 1)) (k : Go C R D cl nL kc ns (ws) (pc + 1) (lv) (.long (x <<< (y.toInt64 &&& 63)) :: st)) : Go C R D cl nL kc ns (ws) (pc) (lv) (.int y :: .long x :: st) := by
  obtain ⟨p, l, e, s, m, args, below, meth, c, Q, A, H0⟩ := C
  obtain ⟨⟨hx, hb, hml, hown, hts⟩, hK, hA, hlk0⟩ := F
  intro H locs ls hP hD hS hl
  exact lv_lshl hx hb hd rfl (k H locs ls hP hD hS hl)
theorem z_lshr (F : Fx C D cl tys cc nL Ts own) {x : Int64} {y : Int32} (hd : decode cc pc = .ok (.lshr, 1)) (k : Go C R D cl nL kc ns (ws) (pc + 1) (lv) (.long (x >>> (y.toInt64 &&& 63)) :: st)) : Go C R D cl nL kc ns (ws) (pc) (lv) (.int y :: .long x :: st) := by
  obtain ⟨p, l, e, s, m, args, below, meth, c, Q, A, H0⟩ := C
  obtain ⟨⟨hx, hb, hml, hown, hts⟩, hK, hA, hlk0⟩ := F
  intro H locs ls hP hD hS hl
  exact lv_lshr hx hb hd rfl (k H locs ls hP hD hS hl)
theorem z_lstore_n (F : Fx C D cl tys cc nL Ts own) {i : Fin 4} {x : Int64} {lv' : List (Nat × Value)} (hd : decode cc pc = .ok (.lstore_n i, 1)) (hn : (i : Nat) + 1 < nL) (hl0 : ((i : Nat), Value.long x) :: lv.filter (fun q => !(q.1 == (i : Nat)) && (!(q.1 == (i : Nat) + 1) && !(q.1 + 1 == (i : Nat) && q.2.category == 2))) = lv') (k : Go C R D cl nL kc ns (ws) (pc + 1) (lv') (st)) : Go C R D cl nL kc ns (ws) (pc) (lv) (.long x :: st) := by
  obtain ⟨p, l, e, s, m, args, below, meth, c, Q, A, H0⟩ := C
  obtain ⟨⟨hx, hb, hml, hown, hts⟩, hK, hA, hlk0⟩ := F
  intro H locs ls hP hD hS hl
  exact lv_lstore_n hx hb hd rfl hl hn hl0 (fun ls hl => k H locs ls hP hD hS hl)
theorem z_lstore (F : Fx C D cl tys cc nL Ts own) {i : Nat} {x : Int64} {lv' : List (Nat × Value)} (hd : decode cc pc = .ok (.lstore i, 2)) (hn : i + 1 < nL) (hl0 : (i, Value.long x) :: lv.filter (fun q => !(q.1 == i) && (!(q.1 == i + 1) && !(q.1 + 1 == i && q.2.category == 2))) = lv') (k : Go C R D cl nL kc ns (ws) (pc + 2) (lv') (st)) : Go C R D cl nL kc ns (ws) (pc) (lv) (.long x :: st) := by
  obtain ⟨p, l, e, s, m, args, below, meth, c, Q, A, H0⟩ := C
  obtain ⟨⟨hx, hb, hml, hown, hts⟩, hK, hA, hlk0⟩ := F
  intro H locs ls hP hD hS hl
  exact lv_lstore hx hb hd hl hn hl0 (fun ls hl => k H locs ls hP hD hS hl)
theorem z_dup (F : Fx C D cl tys cc nL Ts own) {v : Value} (hd : decode cc pc = .ok (.dup, 1)) (hv : v.category = 1) (k : Go C R D cl nL kc ns (ws) (pc + 1) (lv) (v :: v :: st)) : Go C R D cl nL kc ns (ws) (pc) (lv) (v :: st) := by
  obtain ⟨p, l, e, s, m, args, below, meth, c, Q, A, H0⟩ := C
  obtain ⟨⟨hx, hb, hml, hown, hts⟩, hK, hA, hlk0⟩ := F
  intro H locs ls hP hD hS hl
  exact lv_dup hx hb hd hv (k H locs ls hP hD hS hl)
theorem z_pop (F : Fx C D cl tys cc nL Ts own) {v : Value} (hd : decode cc pc = .ok (.pop, 1)) (hv : v.category = 1) (k : Go C R D cl nL kc ns (ws) (pc + 1) (lv) (st)) : Go C R D cl nL kc ns (ws) (pc) (lv) (v :: st) := by
  obtain ⟨p, l, e, s, m, args, below, meth, c, Q, A, H0⟩ := C
  obtain ⟨⟨hx, hb, hml, hown, hts⟩, hK, hA, hlk0⟩ := F
  intro H locs ls hP hD hS hl
  exact lv_pop hx hb hd hv (k H locs ls hP hD hS hl)
theorem z_dup2 (F : Fx C D cl tys cc nL Ts own) {v w : Value} (hd : decode cc pc = .ok (.dup2, 1)) (hv : v.category = 1) (hw : w.category = 1) (k : Go C R D cl nL kc ns (ws) (pc + 1) (lv) (v :: w :: v :: w :: st)) : Go C R D cl nL kc ns (ws) (pc) (lv) (v :: w :: st) := by
  obtain ⟨p, l, e, s, m, args, below, meth, c, Q, A, H0⟩ := C
  obtain ⟨⟨hx, hb, hml, hown, hts⟩, hK, hA, hlk0⟩ := F
  intro H locs ls hP hD hS hl
  exact lv_dup2_11 hx hb hd hv hw (k H locs ls hP hD hS hl)
theorem z_dup2l (F : Fx C D cl tys cc nL Ts own) {v : Value} (hd : decode cc pc = .ok (.dup2, 1)) (hv : v.category = 2) (k : Go C R D cl nL kc ns (ws) (pc + 1) (lv) (v :: v :: st)) : Go C R D cl nL kc ns (ws) (pc) (lv) (v :: st) := by
  obtain ⟨p, l, e, s, m, args, below, meth, c, Q, A, H0⟩ := C
  obtain ⟨⟨hx, hb, hml, hown, hts⟩, hK, hA, hlk0⟩ := F
  intro H locs ls hP hD hS hl
  exact lv_dup2_2 hx hb hd hv (k H locs ls hP hD hS hl)
theorem z_pop2l (F : Fx C D cl tys cc nL Ts own) {v : Value} (hd : decode cc pc = .ok (.pop2, 1)) (hv : v.category = 2) (k : Go C R D cl nL kc ns (ws) (pc + 1) (lv) (st)) : Go C R D cl nL kc ns (ws) (pc) (lv) (v :: st) := by
  obtain ⟨p, l, e, s, m, args, below, meth, c, Q, A, H0⟩ := C
  obtain ⟨⟨hx, hb, hml, hown, hts⟩, hK, hA, hlk0⟩ := F
  intro H locs ls hP hD hS hl
  exact lv_pop2_2 hx hb hd hv (k H locs ls hP hD hS hl)
theorem z_dup_x1 (F : Fx C D cl tys cc nL Ts own) {v w : Value} (hd : decode cc pc = .ok (.dup_x1, 1)) (hv : v.category = 1) (hw : w.category = 1) (k : Go C R D cl nL kc ns (ws) (pc + 1) (lv) (v :: w :: v :: st)) : Go C R D cl nL kc ns (ws) (pc) (lv) (v :: w :: st) := by
  obtain ⟨p, l, e, s, m, args, below, meth, c, Q, A, H0⟩ := C
  obtain ⟨⟨hx, hb, hml, hown, hts⟩, hK, hA, hlk0⟩ := F
  intro H locs ls hP hD hS hl
  exact lv_dup_x1 hx hb hd hv hw (k H locs ls hP hD hS hl)
theorem z_icmp_eq (F : Fx C D cl tys cc nL Ts own) {a b off : Int} (tgt : Nat) (hd : decode cc pc = .ok (.if_icmp .eq off, 3)) (ht : (pc : Int) + off = (tgt : Int)) (h : (-2147483648 ≤ a ∧ a ≤ 2147483647) ∧ (-2147483648 ≤ b ∧ b ≤ 2147483647)) (kt : a = b → Go C R D cl nL kc ns (ws) (tgt) (lv) (st)) (kf : ¬ a = b → Go C R D cl nL kc ns (ws) (pc + 3) (lv) (st)) : Go C R D cl nL kc ns (ws) (pc) (lv) (.int (iZ b) :: .int (iZ a) :: st) := by
  obtain ⟨p, l, e, s, m, args, below, meth, c, Q, A, H0⟩ := C
  obtain ⟨⟨hx, hb, hml, hown, hts⟩, hK, hA, hlk0⟩ := F
  intro H locs ls hP hD hS hl
  exact lv_icmp_eq hx hb hd ht (fun q => kt ((iZ_eq h).mp q) H locs ls hP hD hS hl) (fun q => kf (fun z => q ((iZ_eq h).mpr z)) H locs ls hP hD hS hl)
theorem z_if_eq (F : Fx C D cl tys cc nL Ts own) {a off : Int} (tgt : Nat) (hd : decode cc pc = .ok (.ifCond .eq off, 3)) (ht : (pc : Int) + off = (tgt : Int)) (h : (-2147483648 ≤ a ∧ a ≤ 2147483647)) (kt : a = 0 → Go C R D cl nL kc ns (ws) (tgt) (lv) (st)) (kf : ¬ a = 0 → Go C R D cl nL kc ns (ws) (pc + 3) (lv) (st)) : Go C R D cl nL kc ns (ws) (pc) (lv) (.int (iZ a) :: st) := by
  obtain ⟨p, l, e, s, m, args, below, meth, c, Q, A, H0⟩ := C
  obtain ⟨⟨hx, hb, hml, hown, hts⟩, hK, hA, hlk0⟩ := F
  intro H locs ls hP hD hS hl
  exact lv_if_eq hx hb hd ht (fun q => kt ((iZ_eq (b := 0) ⟨h, by decide⟩).mp q) H locs ls hP hD hS hl) (fun q => kf (fun z => q ((iZ_eq (b := 0) ⟨h, by decide⟩).mpr z)) H locs ls hP hD hS hl)
theorem z_icmp_ne (F : Fx C D cl tys cc nL Ts own) {a b off : Int} (tgt : Nat) (hd : decode cc pc = .ok (.if_icmp .ne off, 3)) (ht : (pc : Int) + off = (tgt : Int)) (h : (-2147483648 ≤ a ∧ a ≤ 2147483647) ∧ (-2147483648 ≤ b ∧ b ≤ 2147483647)) (kt : ¬ a = b → Go C R D cl nL kc ns (ws) (tgt) (lv) (st)) (kf : a = b → Go C R D cl nL kc ns (ws) (pc + 3) (lv) (st)) : Go C R D cl nL kc ns (ws) (pc) (lv) (.int (iZ b) :: .int (iZ a) :: st) := by
  obtain ⟨p, l, e, s, m, args, below, meth, c, Q, A, H0⟩ := C
  obtain ⟨⟨hx, hb, hml, hown, hts⟩, hK, hA, hlk0⟩ := F
  intro H locs ls hP hD hS hl
  exact lv_icmp_ne hx hb hd ht (fun q => kt (fun z => q ((iZ_eq h).mpr z)) H locs ls hP hD hS hl) (fun q => kf ((iZ_eq h).mp q) H locs ls hP hD hS hl)
theorem z_if_ne (F : Fx C D cl tys cc nL Ts own) {a off : Int} (tgt : Nat) (hd : decode cc pc = .ok (.ifCond .ne off, 3)) (ht : (pc : Int) + off = (tgt : Int)) (h : (-2147483648 ≤ a ∧ a ≤ 2147483647)) (kt : ¬ a = 0 → Go C R D cl nL kc ns (ws) (tgt) (lv) (st)) (kf : a = 0 → Go C R D cl nL kc ns (ws) (pc + 3) (lv) (st)) : Go C R D cl nL kc ns (ws) (pc) (lv) (.int (iZ a) :: st) := by
  obtain ⟨p, l, e, s, m, args, below, meth, c, Q, A, H0⟩ := C
  obtain ⟨⟨hx, hb, hml, hown, hts⟩, hK, hA, hlk0⟩ := F
  intro H locs ls hP hD hS hl
  exact lv_if_ne hx hb hd ht (fun q => kt (fun z => q ((iZ_eq (b := 0) ⟨h, by decide⟩).mpr z)) H locs ls hP hD hS hl) (fun q => kf ((iZ_eq (b := 0) ⟨h, by decide⟩).mp q) H locs ls hP hD hS hl)
theorem z_icmp_lt (F : Fx C D cl tys cc nL Ts own) {a b off : Int} (tgt : Nat) (hd : decode cc pc = .ok (.if_icmp .lt off, 3)) (ht : (pc : Int) + off = (tgt : Int)) (h : (-2147483648 ≤ a ∧ a ≤ 2147483647) ∧ (-2147483648 ≤ b ∧ b ≤ 2147483647)) (kt : a < b → Go C R D cl nL kc ns (ws) (tgt) (lv) (st)) (kf : ¬ a < b → Go C R D cl nL kc ns (ws) (pc + 3) (lv) (st)) : Go C R D cl nL kc ns (ws) (pc) (lv) (.int (iZ b) :: .int (iZ a) :: st) := by
  obtain ⟨p, l, e, s, m, args, below, meth, c, Q, A, H0⟩ := C
  obtain ⟨⟨hx, hb, hml, hown, hts⟩, hK, hA, hlk0⟩ := F
  intro H locs ls hP hD hS hl
  exact lv_icmp_lt hx hb hd ht (fun q => kt ((iZ_lt h).mp q) H locs ls hP hD hS hl) (fun q => kf (fun z => q ((iZ_lt h).mpr z)) H locs ls hP hD hS hl)
theorem z_if_lt (F : Fx C D cl tys cc nL Ts own) {a off : Int} (tgt : Nat) (hd : decode cc pc = .ok (.ifCond .lt off, 3)) (ht : (pc : Int) + off = (tgt : Int)) (h : (-2147483648 ≤ a ∧ a ≤ 2147483647)) (kt : a < 0 → Go C R D cl nL kc ns (ws) (tgt) (lv) (st)) (kf : ¬ a < 0 → Go C R D cl nL kc ns (ws) (pc + 3) (lv) (st)) : Go C R D cl nL kc ns (ws) (pc) (lv) (.int (iZ a) :: st) := by
  obtain ⟨p, l, e, s, m, args, below, meth, c, Q, A, H0⟩ := C
  obtain ⟨⟨hx, hb, hml, hown, hts⟩, hK, hA, hlk0⟩ := F
  intro H locs ls hP hD hS hl
  exact lv_if_lt hx hb hd ht (fun q => kt ((iZ_lt (b := 0) ⟨h, by decide⟩).mp q) H locs ls hP hD hS hl) (fun q => kf (fun z => q ((iZ_lt (b := 0) ⟨h, by decide⟩).mpr z)) H locs ls hP hD hS hl)
theorem z_icmp_ge (F : Fx C D cl tys cc nL Ts own) {a b off : Int} (tgt : Nat) (hd : decode cc pc = .ok (.if_icmp .ge off, 3)) (ht : (pc : Int) + off = (tgt : Int)) (h : (-2147483648 ≤ a ∧ a ≤ 2147483647) ∧ (-2147483648 ≤ b ∧ b ≤ 2147483647)) (kt : b ≤ a → Go C R D cl nL kc ns (ws) (tgt) (lv) (st)) (kf : ¬ b ≤ a → Go C R D cl nL kc ns (ws) (pc + 3) (lv) (st)) : Go C R D cl nL kc ns (ws) (pc) (lv) (.int (iZ b) :: .int (iZ a) :: st) := by
  obtain ⟨p, l, e, s, m, args, below, meth, c, Q, A, H0⟩ := C
  obtain ⟨⟨hx, hb, hml, hown, hts⟩, hK, hA, hlk0⟩ := F
  intro H locs ls hP hD hS hl
  exact lv_icmp_ge hx hb hd ht (fun q => kt ((iZ_le ⟨h.2, h.1⟩).mp q) H locs ls hP hD hS hl) (fun q => kf (fun z => q ((iZ_le ⟨h.2, h.1⟩).mpr z)) H locs ls hP hD hS hl)
theorem z_if_ge (F : Fx C D cl tys cc nL Ts own) {a off : Int} (tgt : Nat) (hd : decode cc pc = .ok (.ifCond .ge off, 3)) (ht : (pc : Int) + off = (tgt : Int)) (h : (-2147483648 ≤ a ∧ a ≤ 2147483647)) (kt : 0 ≤ a → Go C R D cl nL kc ns (ws) (tgt) (lv) (st)) (kf : ¬ 0 ≤ a → Go C R D cl nL kc ns (ws) (pc + 3) (lv) (st)) : Go C R D cl nL kc ns (ws) (pc) (lv) (.int (iZ a) :: st) := by
  obtain ⟨p, l, e, s, m, args, below, meth, c, Q, A, H0⟩ := C
  obtain ⟨⟨hx, hb, hml, hown, hts⟩, hK, hA, hlk0⟩ := F
  intro H locs ls hP hD hS hl
  exact lv_if_ge hx hb hd ht (fun q => kt ((iZ_le (a := 0) ⟨by decide, h⟩).mp q) H locs ls hP hD hS hl) (fun q => kf (fun z => q ((iZ_le (a := 0) ⟨by decide, h⟩).mpr z)) H locs ls hP hD hS hl)
theorem z_icmp_gt (F : Fx C D cl tys cc nL Ts own) {a b off : Int} (tgt : Nat) (hd : decode cc pc = .ok (.if_icmp .gt off, 3)) (ht : (pc : Int) + off = (tgt : Int)) (h : (-2147483648 ≤ a ∧ a ≤ 2147483647) ∧ (-2147483648 ≤ b ∧ b ≤ 2147483647)) (kt : b < a → Go C R D cl nL kc ns (ws) (tgt) (lv) (st)) (kf : ¬ b < a → Go C R D cl nL kc ns (ws) (pc + 3) (lv) (st)) : Go C R D cl nL kc ns (ws) (pc) (lv) (.int (iZ b) :: .int (iZ a) :: st) := by
  obtain ⟨p, l, e, s, m, args, below, meth, c, Q, A, H0⟩ := C
  obtain ⟨⟨hx, hb, hml, hown, hts⟩, hK, hA, hlk0⟩ := F
  intro H locs ls hP hD hS hl
  exact lv_icmp_gt hx hb hd ht (fun q => kt ((iZ_lt ⟨h.2, h.1⟩).mp q) H locs ls hP hD hS hl) (fun q => kf (fun z => q ((iZ_lt ⟨h.2, h.1⟩).mpr z)) H locs ls hP hD hS hl)
theorem z_if_gt (F : Fx C D cl tys cc nL Ts own) {a off : Int} (tgt : Nat) (hd : decode cc pc = .ok (.ifCond .gt off, 3)) (ht : (pc : Int) + off = (tgt : Int)) (h : (-2147483648 ≤ a ∧ a ≤ 2147483647)) (kt : 0 < a → Go C R D cl nL kc ns (ws) (tgt) (lv) (st)) (kf : ¬ 0 < a → Go C R D cl nL kc ns (ws) (pc + 3) (lv) (st)) : Go C R D cl nL kc ns (ws) (pc) (lv) (.int (iZ a) :: st) := by
  obtain ⟨p, l, e, s, m, args, below, meth, c, Q, A, H0⟩ := C
  obtain ⟨⟨hx, hb, hml, hown, hts⟩, hK, hA, hlk0⟩ := F
  intro H locs ls hP hD hS hl
  exact lv_if_gt hx hb hd ht (fun q => kt ((iZ_lt (a := 0) ⟨by decide, h⟩).mp q) H locs ls hP hD hS hl) (fun q => kf (fun z => q ((iZ_lt (a := 0) ⟨by decide, h⟩).mpr z)) H locs ls hP hD hS hl)
theorem z_icmp_le (F : Fx C D cl tys cc nL Ts own) {a b off : Int} (tgt : Nat) (hd : decode cc pc = .ok (.if_icmp .le off, 3)) (ht : (pc : Int) + off = (tgt : Int)) (h : (-2147483648 ≤ a ∧ a ≤ 2147483647) ∧ (-2147483648 ≤ b ∧ b ≤ 2147483647)) (kt : a ≤ b → Go C R D cl nL kc ns (ws) (tgt) (lv) (st)) (kf : ¬ a ≤ b → Go C R D cl nL kc ns (ws) (pc + 3) (lv) (st)) : Go C R D cl nL kc ns (ws) (pc) (lv) (.int (iZ b) :: .int (iZ a) :: st) := by
  obtain ⟨p, l, e, s, m, args, below, meth, c, Q, A, H0⟩ := C
  obtain ⟨⟨hx, hb, hml, hown, hts⟩, hK, hA, hlk0⟩ := F
  intro H locs ls hP hD hS hl
  exact lv_icmp_le hx hb hd ht (fun q => kt ((iZ_le h).mp q) H locs ls hP hD hS hl) (fun q => kf (fun z => q ((iZ_le h).mpr z)) H locs ls hP hD hS hl)
theorem z_if_le (F : Fx C D cl tys cc nL Ts own) {a off : Int} (tgt : Nat) (hd : decode cc pc = .ok (.ifCond .le off, 3)) (ht : (pc : Int) + off = (tgt : Int)) (h : (-2147483648 ≤ a ∧ a ≤ 2147483647)) (kt : a ≤ 0 → Go C R D cl nL kc ns (ws) (tgt) (lv) (st)) (kf : ¬ a ≤ 0 → Go C R D cl nL kc ns (ws) (pc + 3) (lv) (st)) : Go C R D cl nL kc ns (ws) (pc) (lv) (.int (iZ a) :: st) := by
  obtain ⟨p, l, e, s, m, args, below, meth, c, Q, A, H0⟩ := C
  obtain ⟨⟨hx, hb, hml, hown, hts⟩, hK, hA, hlk0⟩ := F
  intro H locs ls hP hD hS hl
  exact lv_if_le hx hb hd ht (fun q => kt ((iZ_le (b := 0) ⟨h, by decide⟩).mp q) H locs ls hP hD hS hl) (fun q => kf (fun z => q ((iZ_le (b := 0) ⟨h, by decide⟩).mpr z)) H locs ls hP hD hS hl)
theorem z_goto (F : Fx C D cl tys cc nL Ts own) {off : Int} (tgt : Nat) (hd : decode cc pc = .ok (.goto off, 3)) (ht : (pc : Int) + off = (tgt : Int)) (k : Go C R D cl nL kc ns (ws) (tgt) (lv) (st)) : Go C R D cl nL kc ns (ws) (pc) (lv) (st) := by
  obtain ⟨p, l, e, s, m, args, below, meth, c, Q, A, H0⟩ := C
  obtain ⟨⟨hx, hb, hml, hown, hts⟩, hK, hA, hlk0⟩ := F
  intro H locs ls hP hD hS hl
  exact lv_goto hx hb hd ht (k H locs ls hP hD hS hl)
theorem z_tableOut (F : Fx C D cl tys cc nL Ts own) {dflt lo hi a : Int} {offs : Array Int} {len : Nat} (tgt : Nat) (hd : decode cc pc = .ok (.tableswitch dflt lo hi offs, len)) (hr : (-2147483648 ≤ a ∧ a ≤ 2147483647)) (h : a < lo ∨ hi < a) (ht : (pc : Int) + dflt = (tgt : Int)) (k : Go C R D cl nL kc ns (ws) (tgt) (lv) (st)) : Go C R D cl nL kc ns (ws) (pc) (lv) (.int (iZ a) :: st) := by
  obtain ⟨p, l, e, s, m, args, below, meth, c, Q, A, H0⟩ := C
  obtain ⟨⟨hx, hb, hml, hown, hts⟩, hK, hA, hlk0⟩ := F
  intro H locs ls hP hD hS hl
  exact lv_tableOut hx hb hd (by rw [iZ_toInt hr]; exact h) ht (k H locs ls hP hD hS hl)
theorem z_tableIn (F : Fx C D cl tys cc nL Ts own) {dflt lo hi off : Int} (a : Int) {offs : Array Int} {len : Nat} (tgt : Nat) (hd : decode cc pc = .ok (.tableswitch dflt lo hi offs, len)) (hr : (-2147483648 ≤ a ∧ a ≤ 2147483647)) (h1 : ¬ a < lo) (h2 : ¬ hi < a) (ho : offs[(a - lo).toNat]? = some off) (ht : (pc : Int) + off = (tgt : Int)) (k : Go C R D cl nL kc ns (ws) (tgt) (lv) (st)) : Go C R D cl nL kc ns (ws) (pc) (lv) (.int (iZ a) :: st) := by
  obtain ⟨p, l, e, s, m, args, below, meth, c, Q, A, H0⟩ := C
  obtain ⟨⟨hx, hb, hml, hown, hts⟩, hK, hA, hlk0⟩ := F
  intro H locs ls hP hD hS hl
  exact lv_tableIn hx hb hd (by rw [iZ_toInt hr]; exact h1) (by rw [iZ_toInt hr]; exact h2) (by rw [iZ_toInt hr]; exact ho) ht (k H locs ls hP hD hS hl)
theorem z_perm (F : Fx C D cl tys cc nL Ts own) {ws' : va_W} (is : List Nat) (hn : va_nd is = true) (hs : is.map (fun i => ws[i]?) = ws'.map some) (k : Go C R D cl nL kc ns (ws') (pc) (lv) (st)) : Go C R D cl nL kc ns (ws) (pc) (lv) (st) := by
  obtain ⟨p, l, e, s, m, args, below, meth, c, Q, A, H0⟩ := C
  obtain ⟨⟨hx, hb, hml, hown, hts⟩, hK, hA, hlk0⟩ := F
  intro H locs ls hP hD hS hl
  exact k H locs ls (fun i q hq => by
      have h1 : (is.map (fun i => ws[i]?))[i]? = some (some q) := by rw [hs, List.getElem?_map, hq]; rfl
      rw [List.getElem?_map] at h1
      cases hi : is[i]? with
      | none => rw [hi] at h1; cases h1
      | some i2 => rw [hi] at h1; exact hP i2 q (Option.some.inj h1)) (hD.sub is hn hs) hS hl
theorem z_lv (F : Fx C D cl tys cc nL Ts own) {lv' : List (Nat × Value)} (is : List Nat) (hs : lv_pick lv is = lv') (k : Go C R D cl nL kc ns (ws) (pc) (lv') (st)) : Go C R D cl nL kc ns (ws) (pc) (lv) (st) := by
  obtain ⟨p, l, e, s, m, args, below, meth, c, Q, A, H0⟩ := C
  obtain ⟨⟨hx, hb, hml, hown, hts⟩, hK, hA, hlk0⟩ := F
  intro H locs ls hP hD hS hl
  exact k H locs ls hP hD hS (lv_sub hl is hs)
theorem z_widen (F : Fx C D cl tys cc nL Ts own) {k2 n2 : Nat} (h1 : kc ≤ k2) (h2 : ns ≤ n2) (k : Go C R D cl nL k2 n2 ws pc lv st) : Go C R D cl nL kc ns (ws) (pc) (lv) (st) := by
  obtain ⟨p, l, e, s, m, args, below, meth, c, Q, A, H0⟩ := C
  obtain ⟨⟨hx, hb, hml, hown, hts⟩, hK, hA, hlk0⟩ := F
  intro H locs ls hP hD hS hl
  exact W.widen h1 h2 (k H locs ls hP hD hS hl)
theorem z_iald (F : Fx C D cl tys cc nL Ts own) {a : Nat} {cA : ClassId} {n : Nat} {z : Nat → Int} {i : Int} (q0 : Nat) (ha : ws[q0]? = some (a, .inl (cA, n, .inl (zf z)))) (ht : tys[0]? = some (cA, .int)) (hd : decode cc pc = .ok (.iaload, 1)) (hn : n < 2147483648) (hi : 0 ≤ i ∧ i < n) (k : Go C R D cl nL kc ns (ws) (pc + 1) (lv) (.int (iZ (z i.toNat)) :: st)) : Go C R D cl nL kc ns (ws) (pc) (lv) (.int (iZ i) :: .ref a :: st) := by
  obtain ⟨p, l, e, s, m, args, below, meth, c, Q, A, H0⟩ := C
  obtain ⟨⟨hx, hb, hml, hown, hts⟩, hK, hA, hlk0⟩ := F
  intro H locs ls hP hD hS hl
  refine va_iald hx hb hK hP q0 0 ha ht (iZ_in hi hn) hd ?_
  rw [iZ_cl ⟨hi.1, by omega⟩]
  exact k H locs ls hP hD hS hl
theorem z_iast (F : Fx C D cl tys cc nL Ts own) {ws' : va_W} {a : Nat} {cA : ClassId} {n : Nat} {z : Nat → Int} {i v : Int} (q0 : Nat) (ha : ws[q0]? = some (a, .inl (cA, n, .inl (zf z)))) (ht : tys[0]? = some (cA, .int)) (hd : decode cc pc = .ok (.iastore, 1)) (hn : n < 2147483648) (hi : 0 ≤ i ∧ i < n) (hw : ws.set q0 (a, .inl (cA, n, .inl (zf (zu z i.toNat (v))))) = ws') (k : Go C R D cl nL kc ns (ws') (pc + 1) (lv) (st)) : Go C R D cl nL kc ns (ws) (pc) (lv) (.int (iZ v) :: .int (iZ i) :: .ref a :: st) := by
  obtain ⟨p, l, e, s, m, args, below, meth, c, Q, A, H0⟩ := C
  obtain ⟨⟨hx, hb, hml, hown, hts⟩, hK, hA, hlk0⟩ := F
  intro H locs ls hP hD hS hl
  refine va_iast hx hb hK hP hD hS q0 0 ha ht (iZ_in hi hn) hd (fun H locs hP hD hS => ?_)
  rw [iZ_cl ⟨hi.1, by omega⟩, zf_upd] at hP hD
  rw [hw] at hP hD
  exact k H locs ls hP hD hS hl
theorem z_bald (F : Fx C D cl tys cc nL Ts own) {a : Nat} {cA : ClassId} {n : Nat} {z : Nat → Int} {i : Int} (q0 : Nat) (ha : ws[q0]? = some (a, .inl (cA, n, .inl (zf z)))) (ht : tys[1]? = some (cA, .byte)) (hd : decode cc pc = .ok (.baload, 1)) (hn : n < 2147483648) (hi : 0 ≤ i ∧ i < n) (k : Go C R D cl nL kc ns (ws) (pc + 1) (lv) (.int (iZ (z i.toNat)) :: st)) : Go C R D cl nL kc ns (ws) (pc) (lv) (.int (iZ i) :: .ref a :: st) := by
  obtain ⟨p, l, e, s, m, args, below, meth, c, Q, A, H0⟩ := C
  obtain ⟨⟨hx, hb, hml, hown, hts⟩, hK, hA, hlk0⟩ := F
  intro H locs ls hP hD hS hl
  refine va_bald hx hb hK hP q0 1 ha ht (iZ_in hi hn) hd ?_
  rw [iZ_cl ⟨hi.1, by omega⟩]
  exact k H locs ls hP hD hS hl
theorem z_bast (F : Fx C D cl tys cc nL Ts own) {ws' : va_W} {a : Nat} {cA : ClassId} {n : Nat} {z : Nat → Int} {i v : Int} (q0 : Nat) (ha : ws[q0]? = some (a, .inl (cA, n, .inl (zf z)))) (ht : tys[1]? = some (cA, .byte)) (hd : decode cc pc = .ok (.bastore, 1)) (hn : n < 2147483648) (hi : 0 ≤ i ∧ i < n) (hw : ws.set q0 (a, .inl (cA, n, .inl (zf (zu z i.toNat (v.bmod 256))))) = ws') (k : Go C R D cl nL kc ns (ws') (pc + 1) (lv) (st)) : Go C R D cl nL kc ns (ws) (pc) (lv) (.int (iZ v) :: .int (iZ i) :: .ref a :: st) := by
  obtain ⟨p, l, e, s, m, args, below, meth, c, Q, A, H0⟩ := C
  obtain ⟨⟨hx, hb, hml, hown, hts⟩, hK, hA, hlk0⟩ := F
  intro H locs ls hP hD hS hl
  refine va_bast hx hb hK hP hD hS q0 1 ha ht (iZ_in hi hn) hd (fun H locs hP hD hS => ?_)
  rw [iZ_cl ⟨hi.1, by omega⟩, vp_nar_byte, iZ_b, zf_upd] at hP hD
  rw [hw] at hP hD
  exact k H locs ls hP hD hS hl
theorem z_zald (F : Fx C D cl tys cc nL Ts own) {a : Nat} {cA : ClassId} {n : Nat} {z : Nat → Int} {i : Int} (q0 : Nat) (ha : ws[q0]? = some (a, .inl (cA, n, .inl (zf z)))) (ht : tys[2]? = some (cA, .boolean)) (hd : decode cc pc = .ok (.baload, 1)) (hn : n < 2147483648) (hi : 0 ≤ i ∧ i < n) (k : Go C R D cl nL kc ns (ws) (pc + 1) (lv) (.int (iZ (z i.toNat)) :: st)) : Go C R D cl nL kc ns (ws) (pc) (lv) (.int (iZ i) :: .ref a :: st) := by
  obtain ⟨p, l, e, s, m, args, below, meth, c, Q, A, H0⟩ := C
  obtain ⟨⟨hx, hb, hml, hown, hts⟩, hK, hA, hlk0⟩ := F
  intro H locs ls hP hD hS hl
  refine va_zald hx hb hK hP q0 2 ha ht (iZ_in hi hn) hd ?_
  rw [iZ_cl ⟨hi.1, by omega⟩]
  exact k H locs ls hP hD hS hl
theorem z_zast (F : Fx C D cl tys cc nL Ts own) {ws' : va_W} {a : Nat} {cA : ClassId} {n : Nat} {z : Nat → Int} {i v : Int} (q0 : Nat) (ha : ws[q0]? = some (a, .inl (cA, n, .inl (zf z)))) (ht : tys[2]? = some (cA, .boolean)) (hd : decode cc pc = .ok (.bastore, 1)) (hn : n < 2147483648) (hi : 0 ≤ i ∧ i < n) (hw : ws.set q0 (a, .inl (cA, n, .inl (zf (zu z i.toNat (v % 2))))) = ws') (k : Go C R D cl nL kc ns (ws') (pc + 1) (lv) (st)) : Go C R D cl nL kc ns (ws) (pc) (lv) (.int (iZ v) :: .int (iZ i) :: .ref a :: st) := by
  obtain ⟨p, l, e, s, m, args, below, meth, c, Q, A, H0⟩ := C
  obtain ⟨⟨hx, hb, hml, hown, hts⟩, hK, hA, hlk0⟩ := F
  intro H locs ls hP hD hS hl
  refine va_zast hx hb hK hP hD hS q0 2 ha ht (iZ_in hi hn) hd (fun H locs hP hD hS => ?_)
  rw [iZ_cl ⟨hi.1, by omega⟩, show vp_nar .boolean (iZ v) = iZ v &&& 1 from rfl, iZ_and1, zf_upd] at hP hD
  rw [hw] at hP hD
  exact k H locs ls hP hD hS hl
theorem z_lald (F : Fx C D cl tys cc nL Ts own) {a : Nat} {cA : ClassId} {n : Nat} {f : Nat → Int64} {i : Int} (q0 : Nat) (ha : ws[q0]? = some (a, .inl (cA, n, .inr (.inl f)))) (ht : tys[3]? = some (cA, .long)) (hd : decode cc pc = .ok (.laload, 1)) (hn : n < 2147483648) (hi : 0 ≤ i ∧ i < n) (k : Go C R D cl nL kc ns (ws) (pc + 1) (lv) (.long (f i.toNat) :: st)) : Go C R D cl nL kc ns (ws) (pc) (lv) (.int (iZ i) :: .ref a :: st) := by
  obtain ⟨p, l, e, s, m, args, below, meth, c, Q, A, H0⟩ := C
  obtain ⟨⟨hx, hb, hml, hown, hts⟩, hK, hA, hlk0⟩ := F
  intro H locs ls hP hD hS hl
  refine va_lald hx hb hK hP q0 3 ha ht (iZ_in hi hn) hd ?_
  rw [iZ_cl ⟨hi.1, by omega⟩]
  exact k H locs ls hP hD hS hl
theorem z_last (F : Fx C D cl tys cc nL Ts own) {ws' : va_W} {a : Nat} {cA : ClassId} {n : Nat} {f : Nat → Int64} {i : Int} {v : Int64} (q0 : Nat) (ha : ws[q0]? = some (a, .inl (cA, n, .inr (.inl f)))) (ht : tys[3]? = some (cA, .long)) (hd : decode cc pc = .ok (.lastore, 1)) (hn : n < 2147483648) (hi : 0 ≤ i ∧ i < n) (hw : ws.set q0 (a, .inl (cA, n, .inr (.inl (vp_updL f i.toNat v)))) = ws') (k : Go C R D cl nL kc ns (ws') (pc + 1) (lv) (st)) : Go C R D cl nL kc ns (ws) (pc) (lv) (.long v :: .int (iZ i) :: .ref a :: st) := by
  obtain ⟨p, l, e, s, m, args, below, meth, c, Q, A, H0⟩ := C
  obtain ⟨⟨hx, hb, hml, hown, hts⟩, hK, hA, hlk0⟩ := F
  intro H locs ls hP hD hS hl
  refine va_last hx hb hK hP hD hS q0 3 ha ht (iZ_in hi hn) hd (fun H locs hP hD hS => ?_)
  rw [iZ_cl ⟨hi.1, by omega⟩, hw] at hP hD
  exact k H locs ls hP hD hS hl
theorem z_alen (F : Fx C D cl tys cc nL Ts own) {a : Nat} {cA : ClassId} {x : vp_A} {ty : FieldType} (q0 t0 : Nat) (ha : ws[q0]? = some (a, .inl (cA, x))) (ht : tys[t0]? = some (cA, ty)) (hd : decode cc pc = .ok (.arraylength, 1)) (k : Go C R D cl nL kc ns (ws) (pc + 1) (lv) (.int (iZ (x.1 : Int)) :: st)) : Go C R D cl nL kc ns (ws) (pc) (lv) (.ref a :: st) := by
  obtain ⟨p, l, e, s, m, args, below, meth, c, Q, A, H0⟩ := C
  obtain ⟨⟨hx, hb, hml, hown, hts⟩, hK, hA, hlk0⟩ := F
  intro H locs ls hP hD hS hl
  exact va_alen hx hb hK hP q0 t0 ha ht (iZ_nat x.1) hd (k H locs ls hP hD hS hl)
theorem z_get (F : Fx C D cl tys cc nL Ts own) {a ci N index : Nat} {Cn : String} {T : u_T} {fs : List Value} {v : Value} (q0 k : Nat) (hin : ∀ w ∈ u_ws Cn T N, w ∈ Ts) (he : ws[q0]? = some (a, .inr (ci, fs))) (hc : cl[ci]? = some (Cn, T, N)) (hk : k < N) (hlk : Cond.fieldLink own index (T k).1 (T k).2.1 (T k).2.2.1 ∈ Ts) (hv : fs[k]? = some v) (hd : decode cc pc = .ok (.getfield index, 3)) (kk : Go C R D cl nL kc ns (ws) (pc + 3) (lv) (v :: st)) : Go C R D cl nL kc ns (ws) (pc) (lv) (.ref a :: st) := by
  obtain ⟨p, l, e, s, m, args, below, meth, c, Q, A, H0⟩ := C
  obtain ⟨⟨hx, hb, hml, hown, hts⟩, hK, hA, hlk0⟩ := F
  intro H locs ls hP hD hS hl
  exact va_get hx hb hts hin hown hK hP q0 he hc k hk (hts _ hlk) (fun _ h => h) hv hd (kk H locs ls hP hD hS hl)
theorem z_put (F : Fx C D cl tys cc nL Ts own) {ws' : va_W} {a ci N index : Nat} {Cn : String} {T : u_T} {fs : List Value} {v : Value} {ty : FieldType} (q0 k : Nat) (hin : ∀ w ∈ u_ws Cn T N, w ∈ Ts) (ty0 : Nat → FieldType) (hty : ∀ k, k < N → parseFieldDescriptor (T k).2.2.1 = some (ty0 k)) (hnm : ∀ a, a < N → ∀ b, b < N → a ≠ b → (T a).2.1 ≠ (T b).2.1) (he : ws[q0]? = some (a, .inr (ci, fs))) (hc : cl[ci]? = some (Cn, T, N)) (hk : k < N) (hlk : Cond.fieldLink own index (T k).1 (T k).2.1 (T k).2.2.1 ∈ Ts) (hfin : (T k).2.2.2 = false) (hte : ty0 k = ty) (hn : narrow ty v = v) (hfit : fits ty v = true) (hl0 : k < fs.length) (hd : decode cc pc = .ok (.putfield index, 3)) (hw : ws.set q0 (a, .inr (ci, fs.set k v)) = ws') (kk : Go C R D cl nL kc ns (ws') (pc + 3) (lv) (st)) : Go C R D cl nL kc ns (ws) (pc) (lv) (v :: .ref a :: st) := by
  obtain ⟨p, l, e, s, m, args, below, meth, c, Q, A, H0⟩ := C
  obtain ⟨⟨hx, hb, hml, hown, hts⟩, hK, hA, hlk0⟩ := F
  intro H locs ls hP hD hS hl
  refine va_put hx hb hts hin ty0 hty hnm hown hK hP hD hS q0 he hc k hk (hts _ hlk) (fun _ h => h) hfin (by rw [hty k hk, hte]) hn hfit hl0 hd (fun H locs hP hD hS => ?_)
  rw [hw] at hP hD
  exact kk H locs ls hP hD hS hl
theorem z_putF (F : Fx C D cl tys cc nL Ts own) {ws' : va_W} {a ci N index : Nat} {Cn : String} {T : u_T} {fs : List Value} {v : Value} {ty : FieldType} (q0 k : Nat) (hnmI : zNm C = "<init>") (hin : ∀ w ∈ u_ws Cn T N, w ∈ Ts) (ty0 : Nat → FieldType) (hty : ∀ k, k < N → parseFieldDescriptor (T k).2.2.1 = some (ty0 k)) (hnm : ∀ a, a < N → ∀ b, b < N → a ≠ b → (T a).2.1 ≠ (T b).2.1) (he : ws[q0]? = some (a, .inr (ci, fs))) (hc : cl[ci]? = some (Cn, T, N)) (hk : k < N) (hlk : Cond.fieldLink own index (T k).1 (T k).2.1 (T k).2.2.1 ∈ Ts) (hfin : (T k).2.2.2 = true) (hdecl : (T k).1 = own) (hte : ty0 k = ty) (hn : narrow ty v = v) (hfit : fits ty v = true) (hl0 : k < fs.length) (hd : decode cc pc = .ok (.putfield index, 3)) (hw : ws.set q0 (a, .inr (ci, fs.set k v)) = ws') (kk : Go C R D cl nL kc ns (ws') (pc + 3) (lv) (st)) : Go C R D cl nL kc ns (ws) (pc) (lv) (v :: .ref a :: st) := by
  obtain ⟨p, l, e, s, m, args, below, meth, c, Q, A, H0⟩ := C
  obtain ⟨⟨hx, hb, hml, hown, hts⟩, hK, hA, hlk0⟩ := F
  intro H locs ls hP hD hS hl
  refine va_putF hx hb hts hin ty0 hty hnm hown hK hP hD hS q0 he hc k hk (hts _ hlk) (fun _ h => h) hfin hnmI hdecl (by rw [hty k hk, hte]) hn hfit hl0 hd (fun H locs hP hD hS => ?_)
  rw [hw] at hP hD
  exact kk H locs ls hP hD hS hl
theorem z_nm (F : Fx C D cl tys cc nL Ts own) {x : Int} (k : ∀ y : Int, y = x → Go C R D cl nL kc ns (ws) (pc) (lv) (.int (iZ y) :: st)) : Go C R D cl nL kc ns (ws) (pc) (lv) (.int (iZ x) :: st) := k x rfl
theorem z_norm (F : Fx C D cl tys cc nL Ts own) {x : Int} (k : ∀ y : Int, (-2147483648 ≤ y ∧ y ≤ 2147483647) → iZ x = iZ y → Go C R D cl nL kc ns (ws) (pc) (lv) (.int (iZ y) :: st)) : Go C R D cl nL kc ns (ws) (pc) (lv) (.int (iZ x) :: st) := by
  obtain ⟨y, h1, h2⟩ := iZ_ex (iZ x)
  rw [h2]
  exact k y h1 h2
theorem z_re (F : Fx C D cl tys cc nL Ts own) {ws' : va_W} {st' : List Value} (is : List Nat) (hn : va_nd is = true) (hs : is.map (fun i => ws[i]?) = ws'.map some) (hst : st = st') (k : Go C R D cl nL kc ns ws' pc lv st') : Go C R D cl nL kc ns (ws) (pc) (lv) (st) := by
  subst hst
  exact z_perm F is hn hs k
end ZROW
