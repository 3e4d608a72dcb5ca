section
/-! THE LAYER: a world of numbered cells. Every cell of the system has a number ('name') k < G.1; G.2.1 k says what it is ((0, ci): an object of class ci; (a + 1, n): an array of n of the a-th array type), G.2.2 k j is the name in a reference slot, M k j the number in any other slot. Values are unbounded ints. -/
abbrev sx_V : Type := Int ⊕ Int ⊕ Option Nat ⊕ Nat
abbrev sx_I (x : Int) : sx_V := .inl x
abbrev sx_J (x : Int) : sx_V := .inr (.inl x)
abbrev sx_A (k : Nat) : sx_V := .inr (.inr (.inl (some k)))
abbrev sx_N : sx_V := .inr (.inr (.inl none))
/-- a cell outside the world, by its address -/
abbrev sx_B (a : Nat) : sx_V := .inr (.inr (.inr a))
abbrev sx_G : Type := Nat × (Nat → Nat × Nat) × (Nat → Nat → Option Nat)
abbrev sx_M0 : Type := Nat → Nat → Int
abbrev sx_S : Type := List vw_C × (Nat → List Nat) × List FieldType
def sx_cv (ad : Nat → Nat) (v : sx_V) : Value := match v with
  | .inl x => .int (Int32.ofInt x)
  | .inr (.inl x) => .long (Int64.ofInt x)
  | .inr (.inr (.inl r)) => va_rf (r.map ad)
  | .inr (.inr (.inr a)) => .ref a
def sx_wide (v : sx_V) : Bool := match v with
  | .inr (.inl _) => true
  | _ => false
theorem sx_cat (ad : Nat → Nat) (v : sx_V) : ((sx_cv ad v).category == 2) = sx_wide v := by
  rcases v with x | x | r | a
  · rfl
  · rfl
  · cases r <;> rfl
  · rfl
theorem sx_cat1 (ad : Nat → Nat) (v : sx_V) (h : sx_wide v = false) : (sx_cv ad v).category = 1 := by
  rcases v with x | x | r | a
  · rfl
  · cases h
  · cases r <;> rfl
  · rfl
theorem sx_cat2 (ad : Nat → Nat) (v : sx_V) (h : sx_wide v = true) : (sx_cv ad v).category = 2 := by
  rcases v with x | x | r | a
  · cases h
  · rfl
  · cases h
  · cases h
/-- what a field of type t (0: int, 1: long, 2: boolean, 3 and more: a reference) holds -/
def sx_av (t : Nat) (x : Int) (r : Option Nat) : sx_V := match t with
  | 0 => .inl x
  | 1 => .inr (.inl x)
  | 2 => .inl x
  | _ => .inr (.inr (.inl r))
def sx_arr (t : Option FieldType) (n : Nat) (ad : Nat → Nat) (m : Nat → Int) (r : Nat → Option Nat) : vp_A := match t with
  | some .long => (n, .inr (.inl (fun j => Int64.ofInt (m j))))
  | some (.object _) => (n, .inr (.inr (.inr (.inr (fun j => (r j).map ad)))))
  | some (.array _) => (n, .inr (.inr (.inr (.inr (fun j => (r j).map ad)))))
  | _ => (n, .inl (fun j => Int32.ofInt (m j)))
def sx_fs (ft : List Nat) (ad : Nat → Nat) (m : Nat → Int) (r : Nat → Option Nat) : List Value := ft.mapIdx (fun j t => sx_cv ad (sx_av t (m j) (r j)))
def sx_cell (S : sx_S) (tc : Nat → ClassId) (ad : Nat → Nat) (sh : Nat × Nat) (m : Nat → Int) (r : Nat → Option Nat) : va_E := match sh.1 with
  | 0 => .inr (sh.2, sx_fs (S.2.1 sh.2) ad m r)
  | a + 1 => .inl (tc a, sx_arr S.2.2[a]? sh.2 ad m r)
def sx_w (S : sx_S) (tc : Nat → ClassId) (ad : Nat → Nat) (G : sx_G) (M : sx_M0) : va_W := (List.range G.1).map fun k => (ad k, sx_cell S tc ad (G.2.1 k) (M k) (G.2.2 k))
def sx_ty (S : sx_S) (tc : Nat → ClassId) : List (ClassId × FieldType) := S.2.2.mapIdx fun i t => (tc i, t)
/-- one slot changed -/
def sx_up (M : sx_M0) (k j : Nat) (x : Int) : sx_M0 := fun a b => if a = k ∧ b = j then x else M a b
def sx_upR (R : Nat → Nat → Option Nat) (k j : Nat) (x : Option Nat) : Nat → Nat → Option Nat := fun a b => if a = k ∧ b = j then x else R a b
theorem sx_up_ne {M : sx_M0} {k j : Nat} {x : Int} {a : Nat} (h : a ≠ k) : sx_up M k j x a = M a := by
  funext b
  simp [sx_up, h]
theorem sx_up_at {M : sx_M0} {k j : Nat} {x : Int} : sx_up M k j x k j = x := by simp [sx_up]
theorem sx_up_slot {M : sx_M0} {k j : Nat} {x : Int} {b : Nat} (h : b ≠ j) : sx_up M k j x k b = M k b := by simp [sx_up, h]
theorem sx_upR_ne {M : Nat → Nat → Option Nat} {k j : Nat} {x : Option Nat} {a : Nat} (h : a ≠ k) : sx_upR M k j x a = M a := by
  funext b
  simp [sx_upR, h]
theorem sx_upR_at {M : Nat → Nat → Option Nat} {k j : Nat} {x : Option Nat} : sx_upR M k j x k j = x := by simp [sx_upR]
theorem sx_upR_slot {M : Nat → Nat → Option Nat} {k j : Nat} {x : Option Nat} {b : Nat} (h : b ≠ j) : sx_upR M k j x k b = M k b := by simp [sx_upR, h]
theorem sx_w_get {S : sx_S} {tc : Nat → ClassId} {ad : Nat → Nat} {G : sx_G} {M : sx_M0} {k : Nat} (hk : k < G.1) : (sx_w S tc ad G M)[k]? = some (ad k, sx_cell S tc ad (G.2.1 k) (M k) (G.2.2 k)) := by
  simp [sx_w, hk]
theorem sx_w_in {S : sx_S} {tc : Nat → ClassId} {ad : Nat → Nat} {G : sx_G} {M : sx_M0} {k : Nat} {q : Nat × va_E} (h : (sx_w S tc ad G M)[k]? = some q) : k < G.1 ∧ q = (ad k, sx_cell S tc ad (G.2.1 k) (M k) (G.2.2 k)) := by
  have hk : k < G.1 := by
    have := (List.getElem?_eq_some_iff.mp h).1
    simpa [sx_w] using this
  rw [sx_w_get hk] at h
  exact ⟨hk, (Option.some.inj h).symm⟩
theorem sx_w_set {S : sx_S} {tc : Nat → ClassId} {ad : Nat → Nat} {G G' : sx_G} {M M' : sx_M0} {k : Nat} {e : va_E} (hk : k < G.1) (h1 : G'.1 = G.1) (h2 : G'.2.1 = G.2.1) (hR : ∀ a, a ≠ k → G'.2.2 a = G.2.2 a) (hM : ∀ a, a ≠ k → M' a = M a) (he : e = sx_cell S tc ad (G.2.1 k) (M' k) (G'.2.2 k)) : (sx_w S tc ad G M).set k (ad k, e) = sx_w S tc ad G' M' := by
  subst he
  apply List.ext_getElem?
  intro j
  by_cases hj : j = k
  · subst hj
    rw [List.getElem?_set_self (by simpa [sx_w] using hk), sx_w_get (by rw [h1]; exact hk), h2]
  · rw [List.getElem?_set_ne (Ne.symm hj)]
    by_cases hl : j < G.1
    · rw [sx_w_get hl, sx_w_get (by rw [h1]; exact hl), h2, hM j hj, hR j hj]
    · have e1 : (sx_w S tc ad G M)[j]? = none := by simp [sx_w]; omega
      have e2 : (sx_w S tc ad G' M')[j]? = none := by simp [sx_w]; omega
      rw [e1, e2]
theorem sx_fs_get {ft : List Nat} {ad : Nat → Nat} {m : Nat → Int} {r : Nat → Option Nat} {j t : Nat} (h : ft[j]? = some t) : (sx_fs ft ad m r)[j]? = some (sx_cv ad (sx_av t (m j) (r j))) := by
  simp [sx_fs, List.getElem?_mapIdx, h]
theorem sx_fs_set {ft : List Nat} {ad : Nat → Nat} {m m' : Nat → Int} {r r' : Nat → Option Nat} {j t : Nat} {v : Value} (h : ft[j]? = some t) (hm : ∀ i, i ≠ j → m' i = m i) (hr : ∀ i, i ≠ j → r' i = r i) (hv : v = sx_cv ad (sx_av t (m' j) (r' j))) : (sx_fs ft ad m r).set j v = sx_fs ft ad m' r' := by
  subst hv
  apply List.ext_getElem?
  intro i
  by_cases hi : i = j
  · subst hi
    have hl : i < (sx_fs ft ad m r).length := by
      have := (List.getElem?_eq_some_iff.mp h).1
      simpa [sx_fs] using this
    rw [List.getElem?_set_self hl, sx_fs_get h]
  · rw [List.getElem?_set_ne (Ne.symm hi)]
    simp only [sx_fs, List.getElem?_mapIdx]
    rw [hm i hi, hr i hi]
theorem sx_ty_get {S : sx_S} {tc : Nat → ClassId} {a : Nat} {t : FieldType} (h : S.2.2[a]? = some t) : (sx_ty S tc)[a]? = some (tc a, t) := by
  simp [sx_ty, List.getElem?_mapIdx, h]
/-- a method's (or the law's) own surroundings -/
abbrev sx_E : Type := (Program × Launch × Env × Room × State × MethodId × Array Value × List Frame × Method × Code) × ((Nat → Prop) × va_G × (Nat → ClassId) × (Nat → Nat) × Nat × Nat × (State → Prop))
abbrev sx_p (E : sx_E) : Program := E.1.1
abbrev sx_l (E : sx_E) : Launch := E.1.2.1
abbrev sx_e (E : sx_E) : Env := E.1.2.2.1
abbrev sx_R (E : sx_E) : Room := E.1.2.2.2.1
abbrev sx_s (E : sx_E) : State := E.1.2.2.2.2.1
abbrev sx_m (E : sx_E) : MethodId := E.1.2.2.2.2.2.1
abbrev sx_a (E : sx_E) : Array Value := E.1.2.2.2.2.2.2.1
abbrev sx_b (E : sx_E) : List Frame := E.1.2.2.2.2.2.2.2.1
abbrev sx_me (E : sx_E) : Method := E.1.2.2.2.2.2.2.2.2.1
abbrev sx_c (E : sx_E) : Code := E.1.2.2.2.2.2.2.2.2.2
abbrev sx_AA (E : sx_E) : Nat → Prop := E.2.1
abbrev sx_D (E : sx_E) : va_G := E.2.2.1
abbrev sx_tc (E : sx_E) : Nat → ClassId := E.2.2.2.1
abbrev sx_ad (E : sx_E) : Nat → Nat := E.2.2.2.2.1
abbrev sx_sz (E : sx_E) : Nat := E.2.2.2.2.2.1
abbrev sx_nL (E : sx_E) : Nat := E.2.2.2.2.2.2.1
abbrev sx_Q (E : sx_E) : State → Prop := E.2.2.2.2.2.2.2
abbrev sx_W (E : sx_E) (H : Heap) (locs : List Loc) (cells slots : Nat) (g : JFrame) : Prop := W (sx_p E) (sx_l E) (sx_e E) (sx_R E) (sx_s E) (sx_m E) (sx_a E) (sx_b E) (sx_me E) (sx_c E) H locs cells slots (sx_Q E) g
abbrev sx_lv (ad : Nat → Nat) (lv : List (Nat × sx_V)) : List (Nat × Value) := lv.map fun q => (q.1, sx_cv ad q.2)
/-- THE JUDGEMENT: at pc, with these locals and this stack, over this world, the machine comes to an end that E's Q allows -/
def sx_X (S : sx_S) (E : sx_E) (cs : Nat × Nat) (G : sx_G) (M : sx_M0) (pc : Nat) (lv : List (Nat × sx_V)) (st : List sx_V) : Prop :=
  ∀ (H : Heap) (locs : List Loc) (ls : Array Slot) (ad : Nat → Nat), va_P (sx_D E) S.1 (sx_w S (sx_tc E) ad G M) H → va_D (sx_AA E) (sx_w S (sx_tc E) ad G M) → va_S (sx_AA E) (sx_s E).heap H locs → sx_sz E ≤ G.1 → (∀ k, k < sx_sz E → ad k = sx_ad E k) → lv_has ls (sx_nL E) (sx_lv ad lv) →
    sx_W E H locs cs.1 cs.2 (F0 (sx_m E) pc ls (st.map (sx_cv ad)))
/-- long[][] has been created -/
def sx_O (U : State) : Prop := (Cond.arrayOver (.array .long)).before #[] U = true
theorem sx_O.moved {u U : State} (hvm : u.vm.Alike U.vm) (h : sx_O u) : sx_O U := by
  have hb : ∀ comp : ClassId, (U.vm.classes.findIdx? fun (x : Class) => match x.kind with | .array component _ => component == comp | _ => false) = (u.vm.classes.findIdx? fun (x : Class) => match x.kind with | .array component _ => component == comp | _ => false) := by
    intro comp
    have e1 := va_idx_bare U.vm comp
    have e2 := va_idx_bare u.vm comp
    have e3 : U.vm.bare = u.vm.bare := by first | exact hvm.bare_eq | exact hvm.bare_eq.symm
    rw [e3] at e1
    exact e1.symm.trans e2
  unfold sx_O Cond.before Cond.holds at h ⊢
  simp only [Cond.value, hvm.findClass, beq_iff_eq, Option.bind_eq_some_iff, Option.map_eq_some_iff] at h ⊢
  obtain ⟨comp, h1, c, h2, k, h3, h4⟩ := h
  obtain ⟨k', hk', he⟩ := hvm.2.2 _ _ h3
  exact ⟨comp, h1, c, (hb comp).trans h2, k', hk', by rw [he]; exact h4⟩
/-- what the surroundings give -/
def sx_C (S : sx_S) (Ts : List Cond) (own : String) (cc : ByteArray) (E : sx_E) : Prop :=
  (sx_p E).tables.exec = Jvm.exec ∧ (sx_c E).code = cc ∧ (sx_c E).maxLocals = sx_nL E ∧ (sx_s E).vm.findClass own = some (sx_m E).cls ∧ (∀ w ∈ Ts, w.before (sx_a E) (sx_s E) = true) ∧ ((sx_me E).locks = false ∧ sx_O (sx_s E)) ∧ va_K (sx_D E) S.1 (sx_ty S (sx_tc E)) (sx_s E) ∧ (∀ q, (sx_s E).heap.size ≤ q → sx_AA E q)
section SXR
variable {S : sx_S} {E : sx_E} {cs : Nat × Nat} {G : sx_G} {M : sx_M0} {pc : Nat} {lv : List (Nat × sx_V)} {st : List sx_V} {Ts : List Cond} {own : String} {cc : ByteArray}
-- constants
theorem sx_iconst (C : sx_C S Ts own cc E) {n : Int} (hd : decode cc pc = .ok (.iconst n, 1)) (k : sx_X S E cs G M (pc + 1) lv (sx_I n :: st)) : sx_X S E cs G M pc lv st :=
  fun H locs ls ad hP hD hS hz ha hl => lv_iconst C.1 C.2.1 hd rfl (k H locs ls ad hP hD hS hz ha hl)
theorem sx_bipush (C : sx_C S Ts own cc E) {n : Int} (hd : decode cc pc = .ok (.bipush n, 2)) (hv : (Int8.ofInt n).toInt32 = Int32.ofInt n) (k : sx_X S E cs G M (pc + 2) lv (sx_I n :: st)) : sx_X S E cs G M pc lv st :=
  fun H locs ls ad hP hD hS hz ha hl => lv_bipush C.1 C.2.1 hd hv (k H locs ls ad hP hD hS hz ha hl)
theorem sx_sipush (C : sx_C S Ts own cc E) {n : Int} (hd : decode cc pc = .ok (.sipush n, 3)) (hv : (Int16.ofInt n).toInt32 = Int32.ofInt n) (k : sx_X S E cs G M (pc + 3) lv (sx_I n :: st)) : sx_X S E cs G M pc lv st :=
  fun H locs ls ad hP hD hS hz ha hl => lv_sipush C.1 C.2.1 hd hv (k H locs ls ad hP hD hS hz ha hl)
theorem sx_lconst (C : sx_C S Ts own cc E) {n : Fin 2} (x : Int) (hv : x = (n.val : Int)) (hd : decode cc pc = .ok (.lconst n, 1)) (k : sx_X S E cs G M (pc + 1) lv (sx_J x :: st)) : sx_X S E cs G M pc lv st := by
  subst hv
  exact fun H locs ls ad hP hD hS hz ha hl => lv_lconst C.1 C.2.1 hd (Int64.ofInt_eq_ofNat).symm (k H locs ls ad hP hD hS hz ha hl)
theorem sx_ldc (C : sx_C S Ts own cc E) {idx : Nat} {v : Int32} (x : Int) (hw : Cond.constant own idx v ∈ Ts) (hv : Int32.ofInt x = v) (hd : decode cc pc = .ok (.ldc idx, 2)) (k : sx_X S E cs G M (pc + 2) lv (sx_I x :: st)) : sx_X S E cs G M pc lv st := by
  subst hv
  exact fun H locs ls ad hP hD hS hz ha hl => lv_ldc C.1 C.2.1 C.2.2.2.1 (C.2.2.2.2.1 _ hw) hd (k H locs ls ad hP hD hS hz ha hl)
theorem sx_ldc2 (C : sx_C S Ts own cc E) {idx : Nat} {v : Int64} (x : Int) (hw : Cond.constantLong own idx v ∈ Ts) (hv : Int64.ofInt x = v) (hd : decode cc pc = .ok (.ldc2_w idx, 3)) (k : sx_X S E cs G M (pc + 3) lv (sx_J x :: st)) : sx_X S E cs G M pc lv st := by
  subst hv
  exact fun H locs ls ad hP hD hS hz ha hl => lv_ldc2 C.1 C.2.1 C.2.2.2.1 (C.2.2.2.2.1 _ hw) hd (k H locs ls ad hP hD hS hz ha hl)
theorem sx_null (C : sx_C S Ts own cc E) (hd : decode cc pc = .ok (.aconst_null, 1)) (k : sx_X S E cs G M (pc + 1) lv (sx_N :: st)) : sx_X S E cs G M pc lv st :=
  fun H locs ls ad hP hD hS hz ha hl => lv_null C.1 C.2.1 hd (k H locs ls ad hP hD hS hz ha hl)
-- locals
theorem sx_lv_at {ad : Nat → Nat} {ls : Array Slot} {nL : Nat} (h : lv_has ls nL (sx_lv ad lv)) (j : Nat) {i : Nat} {v : sx_V} (hj : lv[j]? = some (i, v)) : ls[i]? = some (.val (sx_cv ad v)) := by
  refine lv_at h j ?_
  simp [sx_lv, hj]
theorem sx_iload_n (C : sx_C S Ts own cc E) (j : Nat) {n : Fin 4} {i : Nat} {x : Int} (hd : decode cc pc = .ok (.iload_n n, 1)) (hi : (n : Nat) = i) (hj : lv[j]? = some (i, sx_I x)) (k : sx_X S E cs G M (pc + 1) lv (sx_I x :: st)) : sx_X S E cs G M pc lv st :=
  fun H locs ls ad hP hD hS hz ha hl => lv_iload_n C.1 C.2.1 hd hi (sx_lv_at hl j hj) (k H locs ls ad hP hD hS hz ha hl)
theorem sx_iload (C : sx_C S Ts own cc E) (j : Nat) {i : Nat} {x : Int} (hd : decode cc pc = .ok (.iload i, 2)) (hj : lv[j]? = some (i, sx_I x)) (k : sx_X S E cs G M (pc + 2) lv (sx_I x :: st)) : sx_X S E cs G M pc lv st :=
  fun H locs ls ad hP hD hS hz ha hl => lv_iload C.1 C.2.1 hd (sx_lv_at hl j hj) (k H locs ls ad hP hD hS hz ha hl)
theorem sx_lload_n (C : sx_C S Ts own cc E) (j : Nat) {n : Fin 4} {i : Nat} {x : Int} (hd : decode cc pc = .ok (.lload_n n, 1)) (hi : (n : Nat) = i) (hj : lv[j]? = some (i, sx_J x)) (k : sx_X S E cs G M (pc + 1) lv (sx_J x :: st)) : sx_X S E cs G M pc lv st :=
  fun H locs ls ad hP hD hS hz ha hl => lv_lload_n C.1 C.2.1 hd hi (sx_lv_at hl j hj) (k H locs ls ad hP hD hS hz ha hl)
theorem sx_lload (C : sx_C S Ts own cc E) (j : Nat) {i : Nat} {x : Int} (hd : decode cc pc = .ok (.lload i, 2)) (hj : lv[j]? = some (i, sx_J x)) (k : sx_X S E cs G M (pc + 2) lv (sx_J x :: st)) : sx_X S E cs G M pc lv st :=
  fun H locs ls ad hP hD hS hz ha hl => lv_lload C.1 C.2.1 hd (sx_lv_at hl j hj) (k H locs ls ad hP hD hS hz ha hl)
theorem sx_aload_n (C : sx_C S Ts own cc E) (j : Nat) {n : Fin 4} {i x : Nat} (hd : decode cc pc = .ok (.aload_n n, 1)) (hi : (n : Nat) = i) (hj : lv[j]? = some (i, sx_A x)) (k : sx_X S E cs G M (pc + 1) lv (sx_A x :: st)) : sx_X S E cs G M pc lv st :=
  fun H locs ls ad hP hD hS hz ha hl => lv_aload_n C.1 C.2.1 hd hi (sx_lv_at hl j hj) (k H locs ls ad hP hD hS hz ha hl)
theorem sx_aload (C : sx_C S Ts own cc E) (j : Nat) {i x : Nat} (hd : decode cc pc = .ok (.aload i, 2)) (hj : lv[j]? = some (i, sx_A x)) (k : sx_X S E cs G M (pc + 2) lv (sx_A x :: st)) : sx_X S E cs G M pc lv st :=
  fun H locs ls ad hP hD hS hz ha hl => lv_aload C.1 C.2.1 hd (sx_lv_at hl j hj) (k H locs ls ad hP hD hS hz ha hl)
theorem sx_bload_n (C : sx_C S Ts own cc E) (j : Nat) {n : Fin 4} {i x : Nat} (hd : decode cc pc = .ok (.aload_n n, 1)) (hi : (n : Nat) = i) (hj : lv[j]? = some (i, sx_B x)) (k : sx_X S E cs G M (pc + 1) lv (sx_B x :: st)) : sx_X S E cs G M pc lv st :=
  fun H locs ls ad hP hD hS hz ha hl => lv_aload_n C.1 C.2.1 hd hi (sx_lv_at hl j hj) (k H locs ls ad hP hD hS hz ha hl)
def sx_st1 (i : Nat) (v : sx_V) (lv : List (Nat × sx_V)) : List (Nat × sx_V) := (i, v) :: lv.filter (fun q => !(q.1 == i) && !(q.1 + 1 == i && sx_wide q.2))
def sx_st2 (i : Nat) (v : sx_V) (lv : List (Nat × sx_V)) : List (Nat × sx_V) := (i, v) :: lv.filter (fun q => !(q.1 == i) && (!(q.1 == i + 1) && !(q.1 + 1 == i && sx_wide q.2)))
theorem sx_st1_eq (ad : Nat → Nat) (i : Nat) (v : sx_V) (lv : List (Nat × sx_V)) : (i, sx_cv ad v) :: (sx_lv ad lv).filter (fun q => !(q.1 == i) && !(q.1 + 1 == i && q.2.category == 2)) = sx_lv ad (sx_st1 i v lv) := by
  simp only [sx_lv, sx_st1, List.map_cons, List.filter_map]
  congr 3
  funext q
  simp only [Function.comp, sx_cat]
theorem sx_st2_eq (ad : Nat → Nat) (i : Nat) (v : sx_V) (lv : List (Nat × sx_V)) : (i, sx_cv ad v) :: (sx_lv ad lv).filter (fun q => !(q.1 == i) && (!(q.1 == i + 1) && !(q.1 + 1 == i && q.2.category == 2))) = sx_lv ad (sx_st2 i v lv) := by
  simp only [sx_lv, sx_st2, List.map_cons, List.filter_map]
  congr 3
  funext q
  simp only [Function.comp, sx_cat]
theorem sx_istore_n (C : sx_C S Ts own cc E) {n : Fin 4} {i : Nat} {x : Int} {lv' : List (Nat × sx_V)} (hd : decode cc pc = .ok (.istore_n n, 1)) (hi : (n : Nat) = i) (hn : i < sx_nL E) (hv : sx_st1 i (sx_I x) lv = lv') (k : sx_X S E cs G M (pc + 1) lv' st) : sx_X S E cs G M pc lv (sx_I x :: st) := by
  subst hv
  exact fun H locs ls ad hP hD hS hz ha hl => lv_istore_n C.1 C.2.1 hd hi hl hn (sx_st1_eq ad i (sx_I x) lv) (fun ls' hl' => k H locs ls' ad hP hD hS hz ha hl')
theorem sx_istore (C : sx_C S Ts own cc E) {i : Nat} {x : Int} {lv' : List (Nat × sx_V)} (hd : decode cc pc = .ok (.istore i, 2)) (hn : i < sx_nL E) (hv : sx_st1 i (sx_I x) lv = lv') (k : sx_X S E cs G M (pc + 2) lv' st) : sx_X S E cs G M pc lv (sx_I x :: st) := by
  subst hv
  exact fun H locs ls ad hP hD hS hz ha hl => lv_istore C.1 C.2.1 hd hl hn (sx_st1_eq ad i (sx_I x) lv) (fun ls' hl' => k H locs ls' ad hP hD hS hz ha hl')
theorem sx_lstore_n (C : sx_C S Ts own cc E) {n : Fin 4} {i : Nat} {x : Int} {lv' : List (Nat × sx_V)} (hd : decode cc pc = .ok (.lstore_n n, 1)) (hi : (n : Nat) = i) (hn : i + 1 < sx_nL E) (hv : sx_st2 i (sx_J x) lv = lv') (k : sx_X S E cs G M (pc + 1) lv' st) : sx_X S E cs G M pc lv (sx_J x :: st) := by
  subst hv
  exact fun H locs ls ad hP hD hS hz ha hl => lv_lstore_n C.1 C.2.1 hd hi hl hn (sx_st2_eq ad i (sx_J x) lv) (fun ls' hl' => k H locs ls' ad hP hD hS hz ha hl')
theorem sx_lstore (C : sx_C S Ts own cc E) {i : Nat} {x : Int} {lv' : List (Nat × sx_V)} (hd : decode cc pc = .ok (.lstore i, 2)) (hn : i + 1 < sx_nL E) (hv : sx_st2 i (sx_J x) lv = lv') (k : sx_X S E cs G M (pc + 2) lv' st) : sx_X S E cs G M pc lv (sx_J x :: st) := by
  subst hv
  exact fun H locs ls ad hP hD hS hz ha hl => lv_lstore C.1 C.2.1 hd hl hn (sx_st2_eq ad i (sx_J x) lv) (fun ls' hl' => k H locs ls' ad hP hD hS hz ha hl')
theorem sx_astore_n (C : sx_C S Ts own cc E) {n : Fin 4} {i x : Nat} {lv' : List (Nat × sx_V)} (hd : decode cc pc = .ok (.astore_n n, 1)) (hi : (n : Nat) = i) (hn : i < sx_nL E) (hv : sx_st1 i (sx_A x) lv = lv') (k : sx_X S E cs G M (pc + 1) lv' st) : sx_X S E cs G M pc lv (sx_A x :: st) := by
  subst hv
  exact fun H locs ls ad hP hD hS hz ha hl => lv_astore_n C.1 C.2.1 hd hi hl hn (sx_st1_eq ad i (sx_A x) lv) (fun ls' hl' => k H locs ls' ad hP hD hS hz ha hl')
theorem sx_astore (C : sx_C S Ts own cc E) {i x : Nat} {lv' : List (Nat × sx_V)} (hd : decode cc pc = .ok (.astore i, 2)) (hn : i < sx_nL E) (hv : sx_st1 i (sx_A x) lv = lv') (k : sx_X S E cs G M (pc + 2) lv' st) : sx_X S E cs G M pc lv (sx_A x :: st) := by
  subst hv
  exact fun H locs ls ad hP hD hS hz ha hl => lv_astore C.1 C.2.1 hd hl hn (sx_st1_eq ad i (sx_A x) lv) (fun ls' hl' => k H locs ls' ad hP hD hS hz ha hl')
theorem sx_iinc (C : sx_C S Ts own cc E) (j : Nat) {i : Nat} {n x : Int} {lv' : List (Nat × sx_V)} (hd : decode cc pc = .ok (.iinc i n, 3)) (hj : lv[j]? = some (i, sx_I x)) (hn : i < sx_nL E) (hv : sx_st1 i (sx_I (x + n)) lv = lv') (k : sx_X S E cs G M (pc + 3) lv' st) : sx_X S E cs G M pc lv st := by
  subst hv
  exact fun H locs ls ad hP hD hS hz ha hl => lv_iinc C.1 C.2.1 hd hl (k := j) (x := Int32.ofInt x) (by simp [sx_lv, hj, sx_cv]) (Int32.ofInt_add x n).symm hn (sx_st1_eq ad i (sx_I (x + n)) lv) (fun ls' hl' => k H locs ls' ad hP hD hS hz ha hl')
/-- fewer locals, in any order -/
theorem sx_sub (ks : List Nat) {lv' : List (Nat × sx_V)} (h : ks.filterMap (fun k => lv[k]?) = lv') (k : sx_X S E cs G M pc lv' st) : sx_X S E cs G M pc lv st := by
  subst h
  refine fun H locs ls ad hP hD hS hz ha hl => k H locs ls ad hP hD hS hz ha ⟨hl.1, hl.2.1, fun q hq => ?_⟩
  obtain ⟨q0, h0, rfl⟩ := List.mem_map.mp hq
  obtain ⟨i, -, hi⟩ := List.mem_filterMap.mp h0
  exact hl.2.2 _ (List.mem_map.mpr ⟨q0, List.mem_of_getElem? hi, rfl⟩)
end SXR
end
section
section SXA
variable {S : sx_S} {E : sx_E} {cs : Nat × Nat} {G : sx_G} {M : sx_M0} {pc : Nat} {lv : List (Nat × sx_V)} {st : List sx_V} {Ts : List Cond} {own : String} {cc : ByteArray} {x y : Int}
abbrev sx_r32 (x : Int) : Prop := -2147483648 ≤ x ∧ x ≤ 2147483647
abbrev sx_r64 (x : Int) : Prop := -9223372036854775808 ≤ x ∧ x ≤ 9223372036854775807
theorem sx_t32 {x : Int} (h : sx_r32 x) : (Int32.ofInt x).toInt = x := Int32.toInt_ofInt_of_le (by have := h.1; omega) (by have := h.2; omega)
theorem sx_t64 {x : Int} (h : sx_r64 x) : (Int64.ofInt x).toInt = x := Int64.toInt_ofInt_of_le (by have := h.1; omega) (by have := h.2; omega)
theorem sx_lt32 {x y : Int} (hx : sx_r32 x) (hy : sx_r32 y) : Int32.ofInt x < Int32.ofInt y ↔ x < y := by rw [Int32.lt_iff_toInt_lt, sx_t32 hx, sx_t32 hy]
theorem sx_le32 {x y : Int} (hx : sx_r32 x) (hy : sx_r32 y) : Int32.ofInt x ≤ Int32.ofInt y ↔ x ≤ y := by rw [Int32.le_iff_toInt_le, sx_t32 hx, sx_t32 hy]
theorem sx_eq32 {x y : Int} (hx : sx_r32 x) (hy : sx_r32 y) : Int32.ofInt x = Int32.ofInt y ↔ x = y := by rw [← Int32.toInt_inj, sx_t32 hx, sx_t32 hy]
theorem sx_lt64 {x y : Int} (hx : sx_r64 x) (hy : sx_r64 y) : Int64.ofInt x < Int64.ofInt y ↔ x < y := by rw [Int64.lt_iff_toInt_lt, sx_t64 hx, sx_t64 hy]
theorem sx_le64 {x y : Int} (hx : sx_r64 x) (hy : sx_r64 y) : Int64.ofInt x ≤ Int64.ofInt y ↔ x ≤ y := by rw [Int64.le_iff_toInt_le, sx_t64 hx, sx_t64 hy]
theorem sx_eq64 {x y : Int} (hx : sx_r64 x) (hy : sx_r64 y) : Int64.ofInt x = Int64.ofInt y ↔ x = y := by rw [← Int64.toInt_inj, sx_t64 hx, sx_t64 hy]
theorem sx_z32 : Int32.ofInt 0 = 0 := by decide
theorem sx_r0 : sx_r32 0 := by constructor <;> decide
-- arithmetic
theorem sx_iadd (C : sx_C S Ts own cc E) (hd : decode cc pc = .ok (.iadd, 1)) (k : sx_X S E cs G M (pc + 1) lv (sx_I (x + y) :: st)) : sx_X S E cs G M pc lv (sx_I y :: sx_I x :: st) :=
  fun H locs ls ad hP hD hS hz ha hl => lv_iadd C.1 C.2.1 hd (by have h := k H locs ls ad hP hD hS hz ha hl; rw [← Int32.ofInt_add]; exact h)
theorem sx_isub (C : sx_C S Ts own cc E) (hd : decode cc pc = .ok (.isub, 1)) (k : sx_X S E cs G M (pc + 1) lv (sx_I (x - y) :: st)) : sx_X S E cs G M pc lv (sx_I y :: sx_I x :: st) :=
  fun H locs ls ad hP hD hS hz ha hl => lv_isub C.1 C.2.1 hd (by have h := k H locs ls ad hP hD hS hz ha hl; rw [← Int32.ofInt_sub]; exact h)
theorem sx_imul (C : sx_C S Ts own cc E) (hd : decode cc pc = .ok (.imul, 1)) (k : sx_X S E cs G M (pc + 1) lv (sx_I (x * y) :: st)) : sx_X S E cs G M pc lv (sx_I y :: sx_I x :: st) :=
  fun H locs ls ad hP hD hS hz ha hl => lv_imul C.1 C.2.1 hd (by have h := k H locs ls ad hP hD hS hz ha hl; rw [← Int32.ofInt_mul]; exact h)
theorem sx_ladd (C : sx_C S Ts own cc E) (hd : decode cc pc = .ok (.ladd, 1)) (k : sx_X S E cs G M (pc + 1) lv (sx_J (x + y) :: st)) : sx_X S E cs G M pc lv (sx_J y :: sx_J x :: st) :=
  fun H locs ls ad hP hD hS hz ha hl => lv_ladd C.1 C.2.1 hd (by have h := k H locs ls ad hP hD hS hz ha hl; rw [← Int64.ofInt_add]; exact h)
theorem sx_lsub (C : sx_C S Ts own cc E) (hd : decode cc pc = .ok (.lsub, 1)) (k : sx_X S E cs G M (pc + 1) lv (sx_J (x - y) :: st)) : sx_X S E cs G M pc lv (sx_J y :: sx_J x :: st) :=
  fun H locs ls ad hP hD hS hz ha hl => lv_lsub C.1 C.2.1 hd (by have h := k H locs ls ad hP hD hS hz ha hl; rw [← Int64.ofInt_sub]; exact h)
theorem sx_lmul (C : sx_C S Ts own cc E) (hd : decode cc pc = .ok (.lmul, 1)) (k : sx_X S E cs G M (pc + 1) lv (sx_J (x * y) :: st)) : sx_X S E cs G M pc lv (sx_J y :: sx_J x :: st) :=
  fun H locs ls ad hP hD hS hz ha hl => lv_lmul C.1 C.2.1 hd (by have h := k H locs ls ad hP hD hS hz ha hl; rw [← Int64.ofInt_mul]; exact h)
theorem sx_div64 {x y : Int} (hx : 0 ≤ x) (hx2 : sx_r64 x) (hy : 0 < y) (hy2 : sx_r64 y) : Int64.ofInt x / Int64.ofInt y = Int64.ofInt (x / y) := by
  have h1 : 0 ≤ x / y := Int.ediv_nonneg hx (Int.le_of_lt hy)
  have h2 : x / y ≤ x := Int.ediv_le_self y hx
  apply Int64.toInt_inj.mp
  rw [sx_t64 ⟨by omega, Int.le_trans h2 hx2.2⟩, Int64.toInt_div, sx_t64 hx2, sx_t64 hy2, Int.tdiv_eq_ediv_of_nonneg hx]
  apply Int.bmod_eq_of_le <;> have := hx2.2 <;> omega
theorem sx_div32 {x y : Int} (hx : 0 ≤ x) (hx2 : sx_r32 x) (hy : 0 < y) (hy2 : sx_r32 y) : Int32.ofInt x / Int32.ofInt y = Int32.ofInt (x / y) := by
  have h1 : 0 ≤ x / y := Int.ediv_nonneg hx (Int.le_of_lt hy)
  have h2 : x / y ≤ x := Int.ediv_le_self y hx
  apply Int32.toInt_inj.mp
  rw [sx_t32 ⟨by omega, Int.le_trans h2 hx2.2⟩, Int32.toInt_div, sx_t32 hx2, sx_t32 hy2, Int.tdiv_eq_ediv_of_nonneg hx]
  apply Int.bmod_eq_of_le <;> have := hx2.2 <;> omega
theorem sx_ldiv (C : sx_C S Ts own cc E) (hx : 0 ≤ x) (hx2 : sx_r64 x) (hy : 0 < y) (hy2 : sx_r64 y) (hd : decode cc pc = .ok (.ldiv, 1)) (k : sx_X S E cs G M (pc + 1) lv (sx_J (x / y) :: st)) : sx_X S E cs G M pc lv (sx_J y :: sx_J x :: st) :=
  fun H locs ls ad hP hD hS hz ha hl => lv_ldiv C.1 C.2.1 hd (fun h => by have h3 := (sx_eq64 hy2 (show sx_r64 0 by constructor <;> decide)).mp h; omega) (by have h := k H locs ls ad hP hD hS hz ha hl; rw [sx_div64 hx hx2 hy hy2]; exact h)
theorem sx_idiv (C : sx_C S Ts own cc E) (hx : 0 ≤ x) (hx2 : sx_r32 x) (hy : 0 < y) (hy2 : sx_r32 y) (hd : decode cc pc = .ok (.idiv, 1)) (k : sx_X S E cs G M (pc + 1) lv (sx_I (x / y) :: st)) : sx_X S E cs G M pc lv (sx_I y :: sx_I x :: st) :=
  fun H locs ls ad hP hD hS hz ha hl => lv_idiv C.1 C.2.1 hd (fun h => by have h3 := (sx_eq32 hy2 sx_r0).mp h; omega) (by have h := k H locs ls ad hP hD hS hz ha hl; rw [sx_div32 hx hx2 hy hy2]; exact h)
def sx_and (x y : Int) : Int := (Int32.ofInt x &&& Int32.ofInt y).toInt
def sx_or (x y : Int) : Int := (Int32.ofInt x ||| Int32.ofInt y).toInt
def sx_xor (x y : Int) : Int := (Int32.ofInt x ^^^ Int32.ofInt y).toInt
def sx_shl (x y : Int) : Int := (Int32.ofInt x <<< (Int32.ofInt y &&& 31)).toInt
def sx_shr (x y : Int) : Int := (Int32.ofInt x >>> (Int32.ofInt y &&& 31)).toInt
def sx_ushr (x y : Int) : Int := (((Int32.ofInt x).toUInt32 >>> ((Int32.ofInt y).toUInt32 &&& Int32.toUInt32 31)).toInt32).toInt
theorem sx_iand (C : sx_C S Ts own cc E) (hd : decode cc pc = .ok (.iand, 1)) (k : sx_X S E cs G M (pc + 1) lv (sx_I (sx_and x y) :: st)) : sx_X S E cs G M pc lv (sx_I y :: sx_I x :: st) :=
  fun H locs ls ad hP hD hS hz ha hl => lv_iand C.1 C.2.1 hd (by have h := k H locs ls ad hP hD hS hz ha hl; simp only [List.map_cons, sx_cv, sx_and, Int32.ofInt_toInt] at h; exact h)
theorem sx_ior (C : sx_C S Ts own cc E) (hd : decode cc pc = .ok (.ior, 1)) (k : sx_X S E cs G M (pc + 1) lv (sx_I (sx_or x y) :: st)) : sx_X S E cs G M pc lv (sx_I y :: sx_I x :: st) :=
  fun H locs ls ad hP hD hS hz ha hl => lv_ior C.1 C.2.1 hd (by have h := k H locs ls ad hP hD hS hz ha hl; simp only [List.map_cons, sx_cv, sx_or, Int32.ofInt_toInt] at h; exact h)
theorem sx_ixor (C : sx_C S Ts own cc E) (hd : decode cc pc = .ok (.ixor, 1)) (k : sx_X S E cs G M (pc + 1) lv (sx_I (sx_xor x y) :: st)) : sx_X S E cs G M pc lv (sx_I y :: sx_I x :: st) :=
  fun H locs ls ad hP hD hS hz ha hl => lv_ixor C.1 C.2.1 hd (by have h := k H locs ls ad hP hD hS hz ha hl; simp only [List.map_cons, sx_cv, sx_xor, Int32.ofInt_toInt] at h; exact h)
theorem sx_ishl (C : sx_C S Ts own cc E) (hd : decode cc pc = .ok (.ishl, 1)) (k : sx_X S E cs G M (pc + 1) lv (sx_I (sx_shl x y) :: st)) : sx_X S E cs G M pc lv (sx_I y :: sx_I x :: st) :=
  fun H locs ls ad hP hD hS hz ha hl => lv_ishl C.1 C.2.1 hd (by have h := k H locs ls ad hP hD hS hz ha hl; simp only [List.map_cons, sx_cv, sx_shl, Int32.ofInt_toInt] at h; exact h)
theorem sx_ishr (C : sx_C S Ts own cc E) (hd : decode cc pc = .ok (.ishr, 1)) (k : sx_X S E cs G M (pc + 1) lv (sx_I (sx_shr x y) :: st)) : sx_X S E cs G M pc lv (sx_I y :: sx_I x :: st) :=
  fun H locs ls ad hP hD hS hz ha hl => lv_ishr C.1 C.2.1 hd (by have h := k H locs ls ad hP hD hS hz ha hl; simp only [List.map_cons, sx_cv, sx_shr, Int32.ofInt_toInt] at h; exact h)
theorem sx_iushr (C : sx_C S Ts own cc E) (hd : decode cc pc = .ok (.iushr, 1)) (k : sx_X S E cs G M (pc + 1) lv (sx_I (sx_ushr x y) :: st)) : sx_X S E cs G M pc lv (sx_I y :: sx_I x :: st) :=
  fun H locs ls ad hP hD hS hz ha hl => lv_iushr C.1 C.2.1 hd rfl (by have h := k H locs ls ad hP hD hS hz ha hl; simp only [List.map_cons, sx_cv, sx_ushr, Int32.ofInt_toInt] at h; exact h)
theorem sx_i2l (C : sx_C S Ts own cc E) (h32 : sx_r32 x) (hd : decode cc pc = .ok (.i2l, 1)) (k : sx_X S E cs G M (pc + 1) lv (sx_J x :: st)) : sx_X S E cs G M pc lv (sx_I x :: st) :=
  fun H locs ls ad hP hD hS hz ha hl => lv_i2l C.1 C.2.1 hd (v := Int64.ofInt x) (by
    apply Int64.toInt_inj.mp
    rw [Int32.toInt_toInt64, sx_t32 h32, sx_t64 ⟨by have := h32.1; omega, by have := h32.2; omega⟩]) (k H locs ls ad hP hD hS hz ha hl)
theorem sx_l2i (C : sx_C S Ts own cc E) (hd : decode cc pc = .ok (.l2i, 1)) (k : sx_X S E cs G M (pc + 1) lv (sx_I x :: st)) : sx_X S E cs G M pc lv (sx_J x :: st) :=
  fun H locs ls ad hP hD hS hz ha hl => lv_l2i C.1 C.2.1 hd (v := Int32.ofInt x) Int64.toInt32_ofInt (k H locs ls ad hP hD hS hz ha hl)
-- the stack
theorem sx_dup (C : sx_C S Ts own cc E) {v : sx_V} (hd : decode cc pc = .ok (.dup, 1)) (hv : sx_wide v = false) (k : sx_X S E cs G M (pc + 1) lv (v :: v :: st)) : sx_X S E cs G M pc lv (v :: st) :=
  fun H locs ls ad hP hD hS hz ha hl => lv_dup C.1 C.2.1 hd (sx_cat1 ad v hv) (k H locs ls ad hP hD hS hz ha hl)
theorem sx_pop (C : sx_C S Ts own cc E) {v : sx_V} (hd : decode cc pc = .ok (.pop, 1)) (hv : sx_wide v = false) (k : sx_X S E cs G M (pc + 1) lv st) : sx_X S E cs G M pc lv (v :: st) :=
  fun H locs ls ad hP hD hS hz ha hl => lv_pop C.1 C.2.1 hd (sx_cat1 ad v hv) (k H locs ls ad hP hD hS hz ha hl)
theorem sx_pop2 (C : sx_C S Ts own cc E) {v : sx_V} (hd : decode cc pc = .ok (.pop2, 1)) (hv : sx_wide v = true) (k : sx_X S E cs G M (pc + 1) lv st) : sx_X S E cs G M pc lv (v :: st) :=
  fun H locs ls ad hP hD hS hz ha hl => lv_pop2_2 C.1 C.2.1 hd (sx_cat2 ad v hv) (k H locs ls ad hP hD hS hz ha hl)
theorem sx_dup2_11 (C : sx_C S Ts own cc E) {v w : sx_V} (hd : decode cc pc = .ok (.dup2, 1)) (hv : sx_wide v = false) (hw : sx_wide w = false) (k : sx_X S E cs G M (pc + 1) lv (v :: w :: v :: w :: st)) : sx_X S E cs G M pc lv (v :: w :: st) :=
  fun H locs ls ad hP hD hS hz ha hl => lv_dup2_11 C.1 C.2.1 hd (sx_cat1 ad v hv) (sx_cat1 ad w hw) (k H locs ls ad hP hD hS hz ha hl)
theorem sx_dup2_2 (C : sx_C S Ts own cc E) {v : sx_V} (hd : decode cc pc = .ok (.dup2, 1)) (hv : sx_wide v = true) (k : sx_X S E cs G M (pc + 1) lv (v :: v :: st)) : sx_X S E cs G M pc lv (v :: st) :=
  fun H locs ls ad hP hD hS hz ha hl => lv_dup2_2 C.1 C.2.1 hd (sx_cat2 ad v hv) (k H locs ls ad hP hD hS hz ha hl)
theorem sx_dup_x1 (C : sx_C S Ts own cc E) {v w : sx_V} (hd : decode cc pc = .ok (.dup_x1, 1)) (hv : sx_wide v = false) (hw : sx_wide w = false) (k : sx_X S E cs G M (pc + 1) lv (v :: w :: v :: st)) : sx_X S E cs G M pc lv (v :: w :: st) :=
  fun H locs ls ad hP hD hS hz ha hl => lv_dup_x1 C.1 C.2.1 hd (sx_cat1 ad v hv) (sx_cat1 ad w hw) (k H locs ls ad hP hD hS hz ha hl)
theorem sx_dup_x2 (C : sx_C S Ts own cc E) {v w u : sx_V} (hd : decode cc pc = .ok (.dup_x2, 1)) (hv : sx_wide v = false) (hw : sx_wide w = false) (hu : sx_wide u = false) (k : sx_X S E cs G M (pc + 1) lv (v :: w :: u :: v :: st)) : sx_X S E cs G M pc lv (v :: w :: u :: st) :=
  fun H locs ls ad hP hD hS hz ha hl => lv_dup_x2 C.1 C.2.1 hd (sx_cat1 ad v hv) (sx_cat1 ad w hw) (sx_cat1 ad u hu) (k H locs ls ad hP hD hS hz ha hl)
theorem sx_dup2_x1 (C : sx_C S Ts own cc E) {v w : sx_V} (hd : decode cc pc = .ok (.dup2_x1, 1)) (hv : sx_wide v = true) (hw : sx_wide w = false) (k : sx_X S E cs G M (pc + 1) lv (v :: w :: v :: st)) : sx_X S E cs G M pc lv (v :: w :: st) :=
  fun H locs ls ad hP hD hS hz ha hl => lv_dup2_x1_2 C.1 C.2.1 hd (sx_cat2 ad v hv) (sx_cat1 ad w hw) (k H locs ls ad hP hD hS hz ha hl)
theorem sx_dup2_x2 (C : sx_C S Ts own cc E) {v w u : sx_V} (hd : decode cc pc = .ok (.dup2_x2, 1)) (hv : sx_wide v = true) (hw : sx_wide w = false) (hu : sx_wide u = false) (k : sx_X S E cs G M (pc + 1) lv (v :: w :: u :: v :: st)) : sx_X S E cs G M pc lv (v :: w :: u :: st) :=
  fun H locs ls ad hP hD hS hz ha hl => lv_dup2_x2_2 C.1 C.2.1 hd (sx_cat2 ad v hv) (sx_cat1 ad w hw) (sx_cat1 ad u hu) (k H locs ls ad hP hD hS hz ha hl)
-- branches
theorem sx_goto (C : sx_C S Ts own cc E) {off : Int} (tgt : Nat) (hd : decode cc pc = .ok (.goto off, 3)) (ht : (pc : Int) + off = (tgt : Int)) (k : sx_X S E cs G M tgt lv st) : sx_X S E cs G M pc lv st :=
  fun H locs ls ad hP hD hS hz ha hl => lv_goto C.1 C.2.1 hd ht (k H locs ls ad hP hD hS hz ha hl)
theorem sx_icmp_eq (C : sx_C S Ts own cc E) {off : Int} (tgt : Nat) (hx : sx_r32 x) (hy : sx_r32 y) (hd : decode cc pc = .ok (.if_icmp .eq off, 3)) (ht : (pc : Int) + off = (tgt : Int)) (kt : x = y → sx_X S E cs G M tgt lv st) (kf : ¬ x = y → sx_X S E cs G M (pc + 3) lv st) : sx_X S E cs G M pc lv (sx_I y :: sx_I x :: st) :=
  fun H locs ls ad hP hD hS hz ha hl => lv_icmp_eq C.1 C.2.1 hd ht (fun h => (fun h => kt ((sx_eq32 hx hy).mp h)) h H locs ls ad hP hD hS hz ha hl) (fun h => (fun h => kf (fun q => h ((sx_eq32 hx hy).mpr q))) h H locs ls ad hP hD hS hz ha hl)
theorem sx_icmp_ne (C : sx_C S Ts own cc E) {off : Int} (tgt : Nat) (hx : sx_r32 x) (hy : sx_r32 y) (hd : decode cc pc = .ok (.if_icmp .ne off, 3)) (ht : (pc : Int) + off = (tgt : Int)) (kt : ¬ x = y → sx_X S E cs G M tgt lv st) (kf : x = y → sx_X S E cs G M (pc + 3) lv st) : sx_X S E cs G M pc lv (sx_I y :: sx_I x :: st) :=
  fun H locs ls ad hP hD hS hz ha hl => lv_icmp_ne C.1 C.2.1 hd ht (fun h => (fun h => kt (fun q => h ((sx_eq32 hx hy).mpr q))) h H locs ls ad hP hD hS hz ha hl) (fun h => (fun h => kf ((sx_eq32 hx hy).mp h)) h H locs ls ad hP hD hS hz ha hl)
theorem sx_icmp_lt (C : sx_C S Ts own cc E) {off : Int} (tgt : Nat) (hx : sx_r32 x) (hy : sx_r32 y) (hd : decode cc pc = .ok (.if_icmp .lt off, 3)) (ht : (pc : Int) + off = (tgt : Int)) (kt : x < y → sx_X S E cs G M tgt lv st) (kf : ¬ x < y → sx_X S E cs G M (pc + 3) lv st) : sx_X S E cs G M pc lv (sx_I y :: sx_I x :: st) :=
  fun H locs ls ad hP hD hS hz ha hl => lv_icmp_lt C.1 C.2.1 hd ht (fun h => (fun h => kt ((sx_lt32 hx hy).mp h)) h H locs ls ad hP hD hS hz ha hl) (fun h => (fun h => kf (fun q => h ((sx_lt32 hx hy).mpr q))) h H locs ls ad hP hD hS hz ha hl)
theorem sx_icmp_ge (C : sx_C S Ts own cc E) {off : Int} (tgt : Nat) (hx : sx_r32 x) (hy : sx_r32 y) (hd : decode cc pc = .ok (.if_icmp .ge off, 3)) (ht : (pc : Int) + off = (tgt : Int)) (kt : y ≤ x → sx_X S E cs G M tgt lv st) (kf : ¬ y ≤ x → sx_X S E cs G M (pc + 3) lv st) : sx_X S E cs G M pc lv (sx_I y :: sx_I x :: st) :=
  fun H locs ls ad hP hD hS hz ha hl => lv_icmp_ge C.1 C.2.1 hd ht (fun h => (fun h => kt ((sx_le32 hy hx).mp h)) h H locs ls ad hP hD hS hz ha hl) (fun h => (fun h => kf (fun q => h ((sx_le32 hy hx).mpr q))) h H locs ls ad hP hD hS hz ha hl)
theorem sx_icmp_gt (C : sx_C S Ts own cc E) {off : Int} (tgt : Nat) (hx : sx_r32 x) (hy : sx_r32 y) (hd : decode cc pc = .ok (.if_icmp .gt off, 3)) (ht : (pc : Int) + off = (tgt : Int)) (kt : y < x → sx_X S E cs G M tgt lv st) (kf : ¬ y < x → sx_X S E cs G M (pc + 3) lv st) : sx_X S E cs G M pc lv (sx_I y :: sx_I x :: st) :=
  fun H locs ls ad hP hD hS hz ha hl => lv_icmp_gt C.1 C.2.1 hd ht (fun h => (fun h => kt ((sx_lt32 hy hx).mp h)) h H locs ls ad hP hD hS hz ha hl) (fun h => (fun h => kf (fun q => h ((sx_lt32 hy hx).mpr q))) h H locs ls ad hP hD hS hz ha hl)
theorem sx_icmp_le (C : sx_C S Ts own cc E) {off : Int} (tgt : Nat) (hx : sx_r32 x) (hy : sx_r32 y) (hd : decode cc pc = .ok (.if_icmp .le off, 3)) (ht : (pc : Int) + off = (tgt : Int)) (kt : x ≤ y → sx_X S E cs G M tgt lv st) (kf : ¬ x ≤ y → sx_X S E cs G M (pc + 3) lv st) : sx_X S E cs G M pc lv (sx_I y :: sx_I x :: st) :=
  fun H locs ls ad hP hD hS hz ha hl => lv_icmp_le C.1 C.2.1 hd ht (fun h => (fun h => kt ((sx_le32 hx hy).mp h)) h H locs ls ad hP hD hS hz ha hl) (fun h => (fun h => kf (fun q => h ((sx_le32 hx hy).mpr q))) h H locs ls ad hP hD hS hz ha hl)
theorem sx_if_eq (C : sx_C S Ts own cc E) {off : Int} (tgt : Nat) (hx : sx_r32 x) (hd : decode cc pc = .ok (.ifCond .eq off, 3)) (ht : (pc : Int) + off = (tgt : Int)) (kt : x = 0 → sx_X S E cs G M tgt lv st) (kf : ¬ x = 0 → sx_X S E cs G M (pc + 3) lv st) : sx_X S E cs G M pc lv (sx_I x :: st) :=
  fun H locs ls ad hP hD hS hz ha hl => lv_if_eq C.1 C.2.1 hd ht (fun h => (fun h => kt ((sx_eq32 hx sx_r0).mp h)) h H locs ls ad hP hD hS hz ha hl) (fun h => (fun h => kf (fun q => h ((sx_eq32 hx sx_r0).mpr q))) h H locs ls ad hP hD hS hz ha hl)
theorem sx_if_ne (C : sx_C S Ts own cc E) {off : Int} (tgt : Nat) (hx : sx_r32 x) (hd : decode cc pc = .ok (.ifCond .ne off, 3)) (ht : (pc : Int) + off = (tgt : Int)) (kt : ¬ x = 0 → sx_X S E cs G M tgt lv st) (kf : x = 0 → sx_X S E cs G M (pc + 3) lv st) : sx_X S E cs G M pc lv (sx_I x :: st) :=
  fun H locs ls ad hP hD hS hz ha hl => lv_if_ne C.1 C.2.1 hd ht (fun h => (fun h => kt (fun q => h ((sx_eq32 hx sx_r0).mpr q))) h H locs ls ad hP hD hS hz ha hl) (fun h => (fun h => kf ((sx_eq32 hx sx_r0).mp h)) h H locs ls ad hP hD hS hz ha hl)
theorem sx_if_lt (C : sx_C S Ts own cc E) {off : Int} (tgt : Nat) (hx : sx_r32 x) (hd : decode cc pc = .ok (.ifCond .lt off, 3)) (ht : (pc : Int) + off = (tgt : Int)) (kt : x < 0 → sx_X S E cs G M tgt lv st) (kf : ¬ x < 0 → sx_X S E cs G M (pc + 3) lv st) : sx_X S E cs G M pc lv (sx_I x :: st) :=
  fun H locs ls ad hP hD hS hz ha hl => lv_if_lt C.1 C.2.1 hd ht (fun h => (fun h => kt ((sx_lt32 hx sx_r0).mp h)) h H locs ls ad hP hD hS hz ha hl) (fun h => (fun h => kf (fun q => h ((sx_lt32 hx sx_r0).mpr q))) h H locs ls ad hP hD hS hz ha hl)
theorem sx_if_ge (C : sx_C S Ts own cc E) {off : Int} (tgt : Nat) (hx : sx_r32 x) (hd : decode cc pc = .ok (.ifCond .ge off, 3)) (ht : (pc : Int) + off = (tgt : Int)) (kt : 0 ≤ x → sx_X S E cs G M tgt lv st) (kf : ¬ 0 ≤ x → sx_X S E cs G M (pc + 3) lv st) : sx_X S E cs G M pc lv (sx_I x :: st) :=
  fun H locs ls ad hP hD hS hz ha hl => lv_if_ge C.1 C.2.1 hd ht (fun h => (fun h => kt ((sx_le32 sx_r0 hx).mp h)) h H locs ls ad hP hD hS hz ha hl) (fun h => (fun h => kf (fun q => h ((sx_le32 sx_r0 hx).mpr q))) h H locs ls ad hP hD hS hz ha hl)
theorem sx_if_gt (C : sx_C S Ts own cc E) {off : Int} (tgt : Nat) (hx : sx_r32 x) (hd : decode cc pc = .ok (.ifCond .gt off, 3)) (ht : (pc : Int) + off = (tgt : Int)) (kt : 0 < x → sx_X S E cs G M tgt lv st) (kf : ¬ 0 < x → sx_X S E cs G M (pc + 3) lv st) : sx_X S E cs G M pc lv (sx_I x :: st) :=
  fun H locs ls ad hP hD hS hz ha hl => lv_if_gt C.1 C.2.1 hd ht (fun h => (fun h => kt ((sx_lt32 sx_r0 hx).mp h)) h H locs ls ad hP hD hS hz ha hl) (fun h => (fun h => kf (fun q => h ((sx_lt32 sx_r0 hx).mpr q))) h H locs ls ad hP hD hS hz ha hl)
theorem sx_if_le (C : sx_C S Ts own cc E) {off : Int} (tgt : Nat) (hx : sx_r32 x) (hd : decode cc pc = .ok (.ifCond .le off, 3)) (ht : (pc : Int) + off = (tgt : Int)) (kt : x ≤ 0 → sx_X S E cs G M tgt lv st) (kf : ¬ x ≤ 0 → sx_X S E cs G M (pc + 3) lv st) : sx_X S E cs G M pc lv (sx_I x :: st) :=
  fun H locs ls ad hP hD hS hz ha hl => lv_if_le C.1 C.2.1 hd ht (fun h => (fun h => kt ((sx_le32 hx sx_r0).mp h)) h H locs ls ad hP hD hS hz ha hl) (fun h => (fun h => kf (fun q => h ((sx_le32 hx sx_r0).mpr q))) h H locs ls ad hP hD hS hz ha hl)
theorem sx_lcmp_eq (C : sx_C S Ts own cc E) {off : Int} (tgt : Nat) (hx : sx_r64 x) (hy : sx_r64 y) (hd : decode cc pc = .ok (.lcmp, 1)) (hd2 : decode cc (pc + 1) = .ok (.ifCond .eq off, 3)) (ht : ((pc + 1 : Nat) : Int) + off = (tgt : Int)) (kt : x = y → sx_X S E cs G M tgt lv st) (kf : ¬ x = y → sx_X S E cs G M (pc + 4) lv st) : sx_X S E cs G M pc lv (sx_J y :: sx_J x :: st) :=
  fun H locs ls ad hP hD hS hz ha hl => W.lcmp C.1 C.2.1 hd (lv_if_eq C.1 C.2.1 hd2 ht (fun h => (fun h => kt ((sx_eq64 hx hy).mp ((lg_cmp_eq _ _).mp h))) h H locs ls ad hP hD hS hz ha hl) (fun h => (fun h => kf (fun q => h ((lg_cmp_eq _ _).mpr ((sx_eq64 hx hy).mpr q)))) h H locs ls ad hP hD hS hz ha hl))
theorem sx_lcmp_ne (C : sx_C S Ts own cc E) {off : Int} (tgt : Nat) (hx : sx_r64 x) (hy : sx_r64 y) (hd : decode cc pc = .ok (.lcmp, 1)) (hd2 : decode cc (pc + 1) = .ok (.ifCond .ne off, 3)) (ht : ((pc + 1 : Nat) : Int) + off = (tgt : Int)) (kt : ¬ x = y → sx_X S E cs G M tgt lv st) (kf : x = y → sx_X S E cs G M (pc + 4) lv st) : sx_X S E cs G M pc lv (sx_J y :: sx_J x :: st) :=
  fun H locs ls ad hP hD hS hz ha hl => W.lcmp C.1 C.2.1 hd (lv_if_ne C.1 C.2.1 hd2 ht (fun h => (fun h => kt (fun q => h ((lg_cmp_eq _ _).mpr ((sx_eq64 hx hy).mpr q)))) h H locs ls ad hP hD hS hz ha hl) (fun h => (fun h => kf ((sx_eq64 hx hy).mp ((lg_cmp_eq _ _).mp h))) h H locs ls ad hP hD hS hz ha hl))
theorem sx_lcmp_lt (C : sx_C S Ts own cc E) {off : Int} (tgt : Nat) (hx : sx_r64 x) (hy : sx_r64 y) (hd : decode cc pc = .ok (.lcmp, 1)) (hd2 : decode cc (pc + 1) = .ok (.ifCond .lt off, 3)) (ht : ((pc + 1 : Nat) : Int) + off = (tgt : Int)) (kt : x < y → sx_X S E cs G M tgt lv st) (kf : ¬ x < y → sx_X S E cs G M (pc + 4) lv st) : sx_X S E cs G M pc lv (sx_J y :: sx_J x :: st) :=
  fun H locs ls ad hP hD hS hz ha hl => W.lcmp C.1 C.2.1 hd (lv_if_lt C.1 C.2.1 hd2 ht (fun h => (fun h => kt ((sx_lt64 hx hy).mp ((lg_cmp_lt _ _).mp h))) h H locs ls ad hP hD hS hz ha hl) (fun h => (fun h => kf (fun q => h ((lg_cmp_lt _ _).mpr ((sx_lt64 hx hy).mpr q)))) h H locs ls ad hP hD hS hz ha hl))
theorem sx_lcmp_ge (C : sx_C S Ts own cc E) {off : Int} (tgt : Nat) (hx : sx_r64 x) (hy : sx_r64 y) (hd : decode cc pc = .ok (.lcmp, 1)) (hd2 : decode cc (pc + 1) = .ok (.ifCond .ge off, 3)) (ht : ((pc + 1 : Nat) : Int) + off = (tgt : Int)) (kt : y ≤ x → sx_X S E cs G M tgt lv st) (kf : ¬ y ≤ x → sx_X S E cs G M (pc + 4) lv st) : sx_X S E cs G M pc lv (sx_J y :: sx_J x :: st) :=
  fun H locs ls ad hP hD hS hz ha hl => W.lcmp C.1 C.2.1 hd (lv_if_ge C.1 C.2.1 hd2 ht (fun h => (fun h => kt ((sx_le64 hy hx).mp ((lg_cmp_ge _ _).mp h))) h H locs ls ad hP hD hS hz ha hl) (fun h => (fun h => kf (fun q => h ((lg_cmp_ge _ _).mpr ((sx_le64 hy hx).mpr q)))) h H locs ls ad hP hD hS hz ha hl))
theorem sx_lcmp_gt (C : sx_C S Ts own cc E) {off : Int} (tgt : Nat) (hx : sx_r64 x) (hy : sx_r64 y) (hd : decode cc pc = .ok (.lcmp, 1)) (hd2 : decode cc (pc + 1) = .ok (.ifCond .gt off, 3)) (ht : ((pc + 1 : Nat) : Int) + off = (tgt : Int)) (kt : y < x → sx_X S E cs G M tgt lv st) (kf : ¬ y < x → sx_X S E cs G M (pc + 4) lv st) : sx_X S E cs G M pc lv (sx_J y :: sx_J x :: st) :=
  fun H locs ls ad hP hD hS hz ha hl => W.lcmp C.1 C.2.1 hd (lv_if_gt C.1 C.2.1 hd2 ht (fun h => (fun h => kt ((sx_lt64 hy hx).mp ((lg_cmp_gt _ _).mp h))) h H locs ls ad hP hD hS hz ha hl) (fun h => (fun h => kf (fun q => h ((lg_cmp_gt _ _).mpr ((sx_lt64 hy hx).mpr q)))) h H locs ls ad hP hD hS hz ha hl))
theorem sx_lcmp_le (C : sx_C S Ts own cc E) {off : Int} (tgt : Nat) (hx : sx_r64 x) (hy : sx_r64 y) (hd : decode cc pc = .ok (.lcmp, 1)) (hd2 : decode cc (pc + 1) = .ok (.ifCond .le off, 3)) (ht : ((pc + 1 : Nat) : Int) + off = (tgt : Int)) (kt : x ≤ y → sx_X S E cs G M tgt lv st) (kf : ¬ x ≤ y → sx_X S E cs G M (pc + 4) lv st) : sx_X S E cs G M pc lv (sx_J y :: sx_J x :: st) :=
  fun H locs ls ad hP hD hS hz ha hl => W.lcmp C.1 C.2.1 hd (lv_if_le C.1 C.2.1 hd2 ht (fun h => (fun h => kt ((sx_le64 hx hy).mp ((lg_cmp_le _ _).mp h))) h H locs ls ad hP hD hS hz ha hl) (fun h => (fun h => kf (fun q => h ((lg_cmp_le _ _).mpr ((sx_le64 hx hy).mpr q)))) h H locs ls ad hP hD hS hz ha hl))
end SXA
end
section
/-- a field reference: in a method of 'own', constant 'idx' is slot j, of type t, of class ci -/
def sx_F (S : sx_S) (Ts : List Cond) (own : String) (idx ci j t : Nat) : Prop :=
  ∃ (Cn : String) (T : u_T) (N : Nat), S.1[ci]? = some (Cn, T, N) ∧ (∀ w ∈ u_ws Cn T N, w ∈ Ts) ∧ j < N ∧ (S.2.1 ci)[j]? = some t ∧ Cond.fieldLink own idx (T j).1 (T j).2.1 (T j).2.2.1 ∈ Ts
def sx_Pf (S : sx_S) (Ts : List Cond) (own : String) (idx ci j t : Nat) (fin : Bool) (ty : FieldType) : Prop :=
  ∃ (Cn : String) (T : u_T) (N : Nat) (ty0 : Nat → FieldType), S.1[ci]? = some (Cn, T, N) ∧ (∀ w ∈ u_ws Cn T N, w ∈ Ts) ∧ (∀ k, k < N → parseFieldDescriptor (T k).2.2.1 = some (ty0 k)) ∧ (∀ a, a < N → ∀ b, b < N → a ≠ b → (T a).2.1 ≠ (T b).2.1) ∧ j < N ∧ (S.2.1 ci)[j]? = some t ∧ Cond.fieldLink own idx (T j).1 (T j).2.1 (T j).2.2.1 ∈ Ts ∧ (T j).2.2.2 = fin ∧ (fin = true → (T j).1 = own) ∧ parseFieldDescriptor (T j).2.2.1 = some ty
section SXM
variable {S : sx_S} {E : sx_E} {cs : Nat × Nat} {G : sx_G} {M : sx_M0} {pc : Nat} {lv : List (Nat × sx_V)} {st : List sx_V} {Ts : List Cond} {own : String} {cc : ByteArray} {idx ci j t : Nat} {k : Nat}
theorem sx_obj {tc : Nat → ClassId} {ad : Nat → Nat} (hk : k < G.1) (hs : G.2.1 k = (0, ci)) : (sx_w S tc ad G M)[k]? = some (ad k, .inr (ci, sx_fs (S.2.1 ci) ad (M k) (G.2.2 k))) := by
  rw [sx_w_get hk, hs]
  rfl
theorem sx_get (C : sx_C S Ts own cc E) (F : sx_F S Ts own idx ci j t) (hk : k < G.1) (hs : G.2.1 k = (0, ci)) (hd : decode cc pc = .ok (.getfield idx, 3)) (kk : sx_X S E cs G M (pc + 3) lv (sx_av t (M k j) (G.2.2 k j) :: st)) : sx_X S E cs G M pc lv (sx_A k :: st) := by
  obtain ⟨Cn, T, N, hc, hin, hj, hft, hlink⟩ := F
  intro H locs ls ad hP hD hS hz ha hl
  exact va_get (D := sx_D E) C.1 C.2.1 C.2.2.2.2.1 hin C.2.2.2.1 C.2.2.2.2.2.2.1 hP k (sx_obj hk hs) hc j hj (C.2.2.2.2.1 _ hlink) (fun _ h => h) (sx_fs_get hft) hd (kk H locs ls ad hP hD hS hz ha hl)
theorem sx_geti (C : sx_C S Ts own cc E) (F : sx_F S Ts own idx ci j 0) (hk : k < G.1) (hs : G.2.1 k = (0, ci)) (hd : decode cc pc = .ok (.getfield idx, 3)) (kk : sx_X S E cs G M (pc + 3) lv (sx_I (M k j) :: st)) : sx_X S E cs G M pc lv (sx_A k :: st) := sx_get C F hk hs hd kk
theorem sx_getz (C : sx_C S Ts own cc E) (F : sx_F S Ts own idx ci j 2) (hk : k < G.1) (hs : G.2.1 k = (0, ci)) (hd : decode cc pc = .ok (.getfield idx, 3)) (kk : sx_X S E cs G M (pc + 3) lv (sx_I (M k j) :: st)) : sx_X S E cs G M pc lv (sx_A k :: st) := sx_get C F hk hs hd kk
theorem sx_getl (C : sx_C S Ts own cc E) (F : sx_F S Ts own idx ci j 1) (hk : k < G.1) (hs : G.2.1 k = (0, ci)) (hd : decode cc pc = .ok (.getfield idx, 3)) (kk : sx_X S E cs G M (pc + 3) lv (sx_J (M k j) :: st)) : sx_X S E cs G M pc lv (sx_A k :: st) := sx_get C F hk hs hd kk
theorem sx_getr (C : sx_C S Ts own cc E) (F : sx_F S Ts own idx ci j 3) (r : Nat) (hk : k < G.1) (hs : G.2.1 k = (0, ci)) (hr : G.2.2 k j = some r) (hd : decode cc pc = .ok (.getfield idx, 3)) (kk : sx_X S E cs G M (pc + 3) lv (sx_A r :: st)) : sx_X S E cs G M pc lv (sx_A k :: st) := by
  refine sx_get C F hk hs hd ?_
  rw [hr]
  exact kk
theorem sx_put0 (C : sx_C S Ts own cc E) {ty : FieldType} (F : sx_Pf S Ts own idx ci j t false ty) (hk : k < G.1) (hs : G.2.1 k = (0, ci)) (hd : decode cc pc = .ok (.putfield idx, 3)) {v : sx_V} {G' : sx_G} {M' : sx_M0} (hG1 : G'.1 = G.1) (hG2 : G'.2.1 = G.2.1) (hM : ∀ a, a ≠ k → M' a = M a) (hR : ∀ a, a ≠ k → G'.2.2 a = G.2.2 a) (hm : ∀ i, i ≠ j → M' k i = M k i) (hr : ∀ i, i ≠ j → G'.2.2 k i = G.2.2 k i) (hv : v = sx_av t (M' k j) (G'.2.2 k j)) (hn : ∀ ad, narrow ty (sx_cv ad v) = sx_cv ad v) (hf : ∀ ad, fits ty (sx_cv ad v) = true)
    (kk : sx_X S E cs G' M' (pc + 3) lv st) : sx_X S E cs G M pc lv (v :: sx_A k :: st) := by
  obtain ⟨Cn, T, N, ty0, hc, hin, hty, hnm, hj, hft, hlink, hfin, -, hpd⟩ := F
  intro H locs ls ad hP hD hS hz ha hl
  have hlen : j < (sx_fs (S.2.1 ci) ad (M k) (G.2.2 k)).length := by
    have := (List.getElem?_eq_some_iff.mp hft).1
    simpa [sx_fs] using this
  refine va_put (D := sx_D E) C.1 C.2.1 C.2.2.2.2.1 hin ty0 hty hnm C.2.2.2.1 C.2.2.2.2.2.2.1 hP hD hS k (sx_obj hk hs) hc j hj (C.2.2.2.2.1 _ hlink) (fun _ h => h) hfin hpd (hn ad) (hf ad) hlen hd (fun H1 locs1 hP1 hD1 hS1 => ?_)
  have e : (sx_w S (sx_tc E) ad G M).set k (ad k, .inr (ci, (sx_fs (S.2.1 ci) ad (M k) (G.2.2 k)).set j (sx_cv ad v))) = sx_w S (sx_tc E) ad G' M' :=
    sx_w_set hk hG1 hG2 hR hM (by rw [hs, sx_fs_set (m' := M' k) (r' := G'.2.2 k) hft hm hr (by rw [hv])]; rfl)
  rw [e] at hP1 hD1
  exact kk H1 locs1 ls ad hP1 hD1 hS1 (by rw [hG1]; exact hz) ha hl
theorem sx_putF0 (C : sx_C S Ts own cc E) (hini : (sx_me E).name = "<init>") {ty : FieldType} (F : sx_Pf S Ts own idx ci j t true ty) (hk : k < G.1) (hs : G.2.1 k = (0, ci)) (hd : decode cc pc = .ok (.putfield idx, 3)) {v : sx_V} {G' : sx_G} {M' : sx_M0} (hG1 : G'.1 = G.1) (hG2 : G'.2.1 = G.2.1) (hM : ∀ a, a ≠ k → M' a = M a) (hR : ∀ a, a ≠ k → G'.2.2 a = G.2.2 a) (hm : ∀ i, i ≠ j → M' k i = M k i) (hr : ∀ i, i ≠ j → G'.2.2 k i = G.2.2 k i) (hv : v = sx_av t (M' k j) (G'.2.2 k j)) (hn : ∀ ad, narrow ty (sx_cv ad v) = sx_cv ad v) (hf : ∀ ad, fits ty (sx_cv ad v) = true)
    (kk : sx_X S E cs G' M' (pc + 3) lv st) : sx_X S E cs G M pc lv (v :: sx_A k :: st) := by
  obtain ⟨Cn, T, N, ty0, hc, hin, hty, hnm, hj, hft, hlink, hfin, hdecl, hpd⟩ := F
  intro H locs ls ad hP hD hS hz ha hl
  have hlen : j < (sx_fs (S.2.1 ci) ad (M k) (G.2.2 k)).length := by
    have := (List.getElem?_eq_some_iff.mp hft).1
    simpa [sx_fs] using this
  refine va_putF (D := sx_D E) C.1 C.2.1 C.2.2.2.2.1 hin ty0 hty hnm C.2.2.2.1 C.2.2.2.2.2.2.1 hP hD hS k (sx_obj hk hs) hc j hj (C.2.2.2.2.1 _ hlink) (fun _ h => h) hfin hini (hdecl rfl) hpd (hn ad) (hf ad) hlen hd (fun H1 locs1 hP1 hD1 hS1 => ?_)
  have e : (sx_w S (sx_tc E) ad G M).set k (ad k, .inr (ci, (sx_fs (S.2.1 ci) ad (M k) (G.2.2 k)).set j (sx_cv ad v))) = sx_w S (sx_tc E) ad G' M' :=
    sx_w_set hk hG1 hG2 hR hM (by rw [hs, sx_fs_set (m' := M' k) (r' := G'.2.2 k) hft hm hr (by rw [hv])]; rfl)
  rw [e] at hP1 hD1
  exact kk H1 locs1 ls ad hP1 hD1 hS1 (by rw [hG1]; exact hz) ha hl
theorem sx_puti (C : sx_C S Ts own cc E) (F : sx_Pf S Ts own idx ci j 0 false .int) {x : Int} (hk : k < G.1) (hs : G.2.1 k = (0, ci)) (hd : decode cc pc = .ok (.putfield idx, 3)) (kk : sx_X S E cs G (sx_up M k j x) (pc + 3) lv st) : sx_X S E cs G M pc lv (sx_I x :: sx_A k :: st) :=
  sx_put0 C F hk hs hd (M' := sx_up M k j x) rfl rfl (fun _ h => sx_up_ne h) (fun _ _ => rfl) (fun _ h => sx_up_slot h) (fun _ _ => rfl) (by rw [sx_up_at]; rfl) (fun _ => rfl) (fun _ => rfl) kk
theorem sx_putl (C : sx_C S Ts own cc E) (F : sx_Pf S Ts own idx ci j 1 false .long) {x : Int} (hk : k < G.1) (hs : G.2.1 k = (0, ci)) (hd : decode cc pc = .ok (.putfield idx, 3)) (kk : sx_X S E cs G (sx_up M k j x) (pc + 3) lv st) : sx_X S E cs G M pc lv (sx_J x :: sx_A k :: st) :=
  sx_put0 C F hk hs hd (M' := sx_up M k j x) rfl rfl (fun _ h => sx_up_ne h) (fun _ _ => rfl) (fun _ h => sx_up_slot h) (fun _ _ => rfl) (by rw [sx_up_at]; rfl) (fun _ => rfl) (fun _ => rfl) kk
theorem sx_bit {x : Int} (h : x = 0 ∨ x = 1) : narrow .boolean (.int (Int32.ofInt x)) = .int (Int32.ofInt x) ∧ fits .boolean (.int (Int32.ofInt x)) = true := by
  rcases h with rfl | rfl <;> decide
theorem sx_putz (C : sx_C S Ts own cc E) (F : sx_Pf S Ts own idx ci j 2 false .boolean) {x : Int} (hx : x = 0 ∨ x = 1) (hk : k < G.1) (hs : G.2.1 k = (0, ci)) (hd : decode cc pc = .ok (.putfield idx, 3)) (kk : sx_X S E cs G (sx_up M k j x) (pc + 3) lv st) : sx_X S E cs G M pc lv (sx_I x :: sx_A k :: st) :=
  sx_put0 C F hk hs hd (M' := sx_up M k j x) rfl rfl (fun _ h => sx_up_ne h) (fun _ _ => rfl) (fun _ h => sx_up_slot h) (fun _ _ => rfl) (by rw [sx_up_at]; rfl) (fun _ => (sx_bit hx).1) (fun _ => (sx_bit hx).2) kk
theorem sx_putFr (C : sx_C S Ts own cc E) (hini : (sx_me E).name = "<init>") {ty : FieldType} (F : sx_Pf S Ts own idx ci j 3 true ty) {x : Nat} (hty : (∃ n, ty = .object n) ∨ ∃ n, ty = .array n) (hk : k < G.1) (hs : G.2.1 k = (0, ci)) (hd : decode cc pc = .ok (.putfield idx, 3)) (kk : sx_X S E cs (G.1, G.2.1, sx_upR G.2.2 k j (some x)) M (pc + 3) lv st) : sx_X S E cs G M pc lv (sx_A x :: sx_A k :: st) :=
  sx_putF0 C hini F hk hs hd (G' := (G.1, G.2.1, sx_upR G.2.2 k j (some x))) (M' := M) rfl rfl (fun _ _ => rfl) (fun _ h => sx_upR_ne h) (fun _ _ => rfl) (fun _ h => sx_upR_slot h) (by show _ = sx_av 3 _ (sx_upR G.2.2 k j (some x) k j); rw [sx_upR_at]; rfl) (fun _ => by rcases hty with ⟨n, rfl⟩ | ⟨n, rfl⟩ <;> rfl) (fun _ => by rcases hty with ⟨n, rfl⟩ | ⟨n, rfl⟩ <;> rfl) kk
-- arrays
theorem sx_nI (j : Nat) : Int32.ofInt (j : Int) = nI j := Int32.ofInt_eq_ofNat
theorem sx_idx {j n : Nat} (hj : j < n) (hn : n < 2147483648) : vp_in (Int32.ofInt (j : Int)) n := by rw [sx_nI]; exact vp_in_nI hj (by omega)
theorem sx_clamp {j : Nat} (hn : j < 2147483648) : (Int32.ofInt (j : Int)).toNatClampNeg = j := by rw [sx_nI]; exact nI_clamp (by omega)
theorem sx_arrL {tc : Nat → ClassId} {ad : Nat → Nat} {a n : Nat} (hk : k < G.1) (hs : G.2.1 k = (a + 1, n)) (ht : S.2.2[a]? = some .long) : (sx_w S tc ad G M)[k]? = some (ad k, .inl (tc a, n, .inr (.inl (fun j => Int64.ofInt (M k j))))) := by
  rw [sx_w_get hk, hs]
  simp only [sx_cell, ht, sx_arr]
theorem sx_arrI {tc : Nat → ClassId} {ad : Nat → Nat} {a n : Nat} (hk : k < G.1) (hs : G.2.1 k = (a + 1, n)) (ht : S.2.2[a]? = some .int) : (sx_w S tc ad G M)[k]? = some (ad k, .inl (tc a, n, .inl (fun j => Int32.ofInt (M k j)))) := by
  rw [sx_w_get hk, hs]
  simp only [sx_cell, ht, sx_arr]
theorem sx_arrZ {tc : Nat → ClassId} {ad : Nat → Nat} {a n : Nat} (hk : k < G.1) (hs : G.2.1 k = (a + 1, n)) (ht : S.2.2[a]? = some .boolean) : (sx_w S tc ad G M)[k]? = some (ad k, .inl (tc a, n, .inl (fun j => Int32.ofInt (M k j)))) := by
  rw [sx_w_get hk, hs]
  simp only [sx_cell, ht, sx_arr]
theorem sx_arrR {tc : Nat → ClassId} {ad : Nat → Nat} {a n : Nat} {t : FieldType} (hk : k < G.1) (hs : G.2.1 k = (a + 1, n)) (ht : S.2.2[a]? = some (.array t)) : (sx_w S tc ad G M)[k]? = some (ad k, .inl (tc a, n, .inr (.inr (.inr (.inr (fun j => (G.2.2 k j).map ad)))))) := by
  rw [sx_w_get hk, hs]
  simp only [sx_cell, ht, sx_arr]
theorem sx_laload (C : sx_C S Ts own cc E) {a n : Nat} {i : Int} (j : Nat) (hk : k < G.1) (hs : G.2.1 k = (a + 1, n)) (ht : S.2.2[a]? = some .long) (hi : i = (j : Int)) (hj : j < n) (hn : n < 2147483648) (hd : decode cc pc = .ok (.laload, 1)) (kk : sx_X S E cs G M (pc + 1) lv (sx_J (M k j) :: st)) : sx_X S E cs G M pc lv (sx_I i :: sx_A k :: st) := by
  subst hi
  intro H locs ls ad hP hD hS hz ha hl
  refine va_lald (D := sx_D E) C.1 C.2.1 C.2.2.2.2.2.2.1 hP k a (sx_arrL hk hs ht) (sx_ty_get ht) (sx_idx hj hn) hd ?_
  rw [sx_clamp (by omega)]
  exact kk H locs ls ad hP hD hS hz ha hl
theorem sx_iaload (C : sx_C S Ts own cc E) {a n : Nat} {i : Int} (j : Nat) (hk : k < G.1) (hs : G.2.1 k = (a + 1, n)) (ht : S.2.2[a]? = some .int) (hi : i = (j : Int)) (hj : j < n) (hn : n < 2147483648) (hd : decode cc pc = .ok (.iaload, 1)) (kk : sx_X S E cs G M (pc + 1) lv (sx_I (M k j) :: st)) : sx_X S E cs G M pc lv (sx_I i :: sx_A k :: st) := by
  subst hi
  intro H locs ls ad hP hD hS hz ha hl
  refine va_iald (D := sx_D E) C.1 C.2.1 C.2.2.2.2.2.2.1 hP k a (sx_arrI hk hs ht) (sx_ty_get ht) (sx_idx hj hn) hd ?_
  rw [sx_clamp (by omega)]
  exact kk H locs ls ad hP hD hS hz ha hl
theorem sx_zaload (C : sx_C S Ts own cc E) {a n : Nat} {i : Int} (j : Nat) (hk : k < G.1) (hs : G.2.1 k = (a + 1, n)) (ht : S.2.2[a]? = some .boolean) (hi : i = (j : Int)) (hj : j < n) (hn : n < 2147483648) (hd : decode cc pc = .ok (.baload, 1)) (kk : sx_X S E cs G M (pc + 1) lv (sx_I (M k j) :: st)) : sx_X S E cs G M pc lv (sx_I i :: sx_A k :: st) := by
  subst hi
  intro H locs ls ad hP hD hS hz ha hl
  refine va_zald (D := sx_D E) C.1 C.2.1 C.2.2.2.2.2.2.1 hP k a (sx_arrZ hk hs ht) (sx_ty_get ht) (sx_idx hj hn) hd ?_
  rw [sx_clamp (by omega)]
  exact kk H locs ls ad hP hD hS hz ha hl
theorem sx_aaload (C : sx_C S Ts own cc E) {a n : Nat} {i : Int} {t : FieldType} (j r : Nat) (hk : k < G.1) (hs : G.2.1 k = (a + 1, n)) (ht : S.2.2[a]? = some (.array t)) (hi : i = (j : Int)) (hj : j < n) (hn : n < 2147483648) (hr : G.2.2 k j = some r) (hd : decode cc pc = .ok (.aaload, 1)) (kk : sx_X S E cs G M (pc + 1) lv (sx_A r :: st)) : sx_X S E cs G M pc lv (sx_I i :: sx_A k :: st) := by
  subst hi
  intro H locs ls ad hP hD hS hz ha hl
  have hin := sx_idx hj hn
  refine W.aald (v := va_rf ((G.2.2 k j).map ad)) (ty := .array t) C.1 C.2.1 (hP k _ (sx_arrR hk hs ht)) ((C.2.2.2.2.2.2.1.2 a _ (sx_ty_get ht)).1 n (fun j => va_rf ((G.2.2 k j).map ad))) rfl (fun q => by cases q) (by show ¬ (_ < 0 ∨ (arrV _ _ _).slots.size ≤ _); rw [arrV_size]; exact hin) (by show (arrV _ _ _).slots[_]? = _; rw [sx_clamp (by omega), arrV_read _ _ hj]) rfl rfl hd ?_
  rw [hr]
  exact kk H locs ls ad hP hD hS hz ha hl
theorem sx_alen {C0 : sx_C S Ts own cc E} {a n : Nat} {t : FieldType} (hk : k < G.1) (hs : G.2.1 k = (a + 1, n)) (ht : S.2.2[a]? = some t) (hd : decode cc pc = .ok (.arraylength, 1)) (kk : sx_X S E cs G M (pc + 1) lv (sx_I (n : Int) :: st)) : sx_X S E cs G M pc lv (sx_A k :: st) := by
  intro H locs ls ad hP hD hS hz ha hl
  have he : (sx_w S (sx_tc E) ad G M)[k]? = some (ad k, .inl (sx_tc E a, sx_arr (some t) n ad (M k) (G.2.2 k))) := by
    rw [sx_w_get hk, hs]
    simp only [sx_cell, ht]
  refine va_alen (D := sx_D E) C0.1 C0.2.1 C0.2.2.2.2.2.2.1 hP k a he (sx_ty_get ht) (v := Int32.ofInt (n : Int)) ?_ hd (kk H locs ls ad hP hD hS hz ha hl)
  rw [Int32.ofInt_eq_ofNat]
  unfold sx_arr
  split <;> rfl
theorem sx_lastore (C : sx_C S Ts own cc E) {a n : Nat} {i x : Int} (j : Nat) (hk : k < G.1) (hs : G.2.1 k = (a + 1, n)) (ht : S.2.2[a]? = some .long) (hi : i = (j : Int)) (hj : j < n) (hn : n < 2147483648) (hd : decode cc pc = .ok (.lastore, 1)) (kk : sx_X S E cs G (sx_up M k j x) (pc + 1) lv st) : sx_X S E cs G M pc lv (sx_J x :: sx_I i :: sx_A k :: st) := by
  subst hi
  intro H locs ls ad hP hD hS hz ha hl
  refine va_last (D := sx_D E) C.1 C.2.1 C.2.2.2.2.2.2.1 hP hD hS k a (sx_arrL hk hs ht) (sx_ty_get ht) (sx_idx hj hn) hd (fun H1 locs1 hP1 hD1 hS1 => ?_)
  rw [sx_clamp (by omega)] at hP1 hD1
  have e : (sx_w S (sx_tc E) ad G M).set k (ad k, .inl (sx_tc E a, n, .inr (.inl (vp_updL (fun b => Int64.ofInt (M k b)) j (Int64.ofInt x))))) = sx_w S (sx_tc E) ad G (sx_up M k j x) :=
    sx_w_set hk rfl rfl (fun _ _ => rfl) (fun _ h => sx_up_ne h) (by
      rw [hs]
      simp only [sx_cell, ht, sx_arr]
      congr 5
      funext b
      by_cases hb : b = j
      · subst hb; rw [sx_up_at]; simp [vp_updL]
      · rw [sx_up_slot hb]; simp [vp_updL, hb])
  rw [e] at hP1 hD1
  exact kk H1 locs1 ls ad hP1 hD1 hS1 hz ha hl
theorem sx_iastore (C : sx_C S Ts own cc E) {a n : Nat} {i x : Int} (j : Nat) (hk : k < G.1) (hs : G.2.1 k = (a + 1, n)) (ht : S.2.2[a]? = some .int) (hi : i = (j : Int)) (hj : j < n) (hn : n < 2147483648) (hd : decode cc pc = .ok (.iastore, 1)) (kk : sx_X S E cs G (sx_up M k j x) (pc + 1) lv st) : sx_X S E cs G M pc lv (sx_I x :: sx_I i :: sx_A k :: st) := by
  subst hi
  intro H locs ls ad hP hD hS hz ha hl
  refine va_iast (D := sx_D E) C.1 C.2.1 C.2.2.2.2.2.2.1 hP hD hS k a (sx_arrI hk hs ht) (sx_ty_get ht) (sx_idx hj hn) hd (fun H1 locs1 hP1 hD1 hS1 => ?_)
  rw [sx_clamp (by omega)] at hP1 hD1
  have e : (sx_w S (sx_tc E) ad G M).set k (ad k, .inl (sx_tc E a, n, .inl (upd (fun b => Int32.ofInt (M k b)) j (Int32.ofInt x)))) = sx_w S (sx_tc E) ad G (sx_up M k j x) :=
    sx_w_set hk rfl rfl (fun _ _ => rfl) (fun _ h => sx_up_ne h) (by
      rw [hs]
      simp only [sx_cell, ht, sx_arr]
      congr 4
      funext b
      by_cases hb : b = j
      · subst hb; rw [sx_up_at]; simp [upd]
      · rw [sx_up_slot hb]; simp [upd, hb])
  rw [e] at hP1 hD1
  exact kk H1 locs1 ls ad hP1 hD1 hS1 hz ha hl
theorem sx_narZ {x : Int} (h : x = 0 ∨ x = 1) : vp_nar .boolean (Int32.ofInt x) = Int32.ofInt x := by
  rcases h with rfl | rfl <;> decide
theorem sx_zastore (C : sx_C S Ts own cc E) {a n : Nat} {i x : Int} (j : Nat) (hx : x = 0 ∨ x = 1) (hk : k < G.1) (hs : G.2.1 k = (a + 1, n)) (ht : S.2.2[a]? = some .boolean) (hi : i = (j : Int)) (hj : j < n) (hn : n < 2147483648) (hd : decode cc pc = .ok (.bastore, 1)) (kk : sx_X S E cs G (sx_up M k j x) (pc + 1) lv st) : sx_X S E cs G M pc lv (sx_I x :: sx_I i :: sx_A k :: st) := by
  subst hi
  intro H locs ls ad hP hD hS hz ha hl
  refine va_zast (D := sx_D E) C.1 C.2.1 C.2.2.2.2.2.2.1 hP hD hS k a (sx_arrZ hk hs ht) (sx_ty_get ht) (sx_idx hj hn) hd (fun H1 locs1 hP1 hD1 hS1 => ?_)
  rw [sx_clamp (by omega), sx_narZ hx] at hP1 hD1
  have e : (sx_w S (sx_tc E) ad G M).set k (ad k, .inl (sx_tc E a, n, .inl (upd (fun b => Int32.ofInt (M k b)) j (Int32.ofInt x)))) = sx_w S (sx_tc E) ad G (sx_up M k j x) :=
    sx_w_set hk rfl rfl (fun _ _ => rfl) (fun _ h => sx_up_ne h) (by
      rw [hs]
      simp only [sx_cell, ht, sx_arr]
      congr 4
      funext b
      by_cases hb : b = j
      · subst hb; rw [sx_up_at]; simp [upd]
      · rw [sx_up_slot hb]; simp [upd, hb])
  rw [e] at hP1 hD1
  exact kk H1 locs1 ls ad hP1 hD1 hS1 hz ha hl
end SXM
end
section
def sx_wd (v : sx_V) : Nat := if sx_wide v = true then 2 else 1
theorem sx_wd_cat (ad : Nat → Nat) (v : sx_V) : (sx_cv ad v).category = sx_wd v := by
  rcases v with x | x | r | a
  · rfl
  · rfl
  · cases r <;> rfl
  · rfl
theorem sx_wds (ad : Nat → Nat) (st : List sx_V) : ((st.map (sx_cv ad)).map fun v => v.category) = st.map sx_wd := by
  rw [List.map_map]
  exact List.map_congr_left (fun v _ => sx_wd_cat ad v)
def sx_args : Nat → List sx_V → List (Nat × sx_V)
  | _, [] => []
  | i, v :: vs => (i, v) :: sx_args (if sx_wide v = true then i + 2 else i + 1) vs
theorem sx_args_eq (ad : Nat → Nat) : ∀ (vs : List sx_V) (i : Nat), lv_args i (vs.map (sx_cv ad)) = sx_lv ad (sx_args i vs)
  | [], _ => rfl
  | v :: vs, i => by
    have h : (if (sx_cv ad v).category = 2 then i + 2 else i + 1) = (if sx_wide v = true then i + 2 else i + 1) := by
      rw [sx_wd_cat]
      unfold sx_wd
      cases sx_wide v <;> rfl
    show (i, sx_cv ad v) :: lv_args (if (sx_cv ad v).category = 2 then i + 2 else i + 1) (vs.map (sx_cv ad)) = _
    rw [h, sx_args_eq ad vs]
    rfl
theorem sx_slots (ad : Nat → Nat) : ∀ (vs : List sx_V), (lg_sl (vs.map (sx_cv ad))).length = (vs.map sx_wd).sum
  | [] => rfl
  | v :: vs => by
    have h := sx_slots ad vs
    have hc := sx_wd_cat ad v
    show (List.flatMap _ (sx_cv ad v :: vs.map (sx_cv ad))).length = _
    rw [List.flatMap_cons, List.length_append]
    have h2 : (List.flatMap (fun v => if v.category = 2 then [Slot.val v, Slot.second] else [Slot.val v]) (vs.map (sx_cv ad))).length = (vs.map sx_wd).sum := h
    rw [h2, List.map_cons, List.sum_cons]
    congr 1
    rw [hc]
    unfold sx_wd
    cases sx_wide v <;> rfl
/-- a contract's end, and its start -/
def sx_Qc (S : sx_S) (D : va_G) (tc : Nat → ClassId) (ad0 : Nat → Nat) (sz0 : Nat) (A : Nat → Prop) (Po : Option sx_V → sx_G → sx_M0 → Prop) : Array Value → State → Outcome → State → Prop := fun _ st oc t =>
  (∃ (r : Option sx_V) (G : sx_G) (M : sx_M0) (ad : Nat → Nat), oc = .returned (r.map (sx_cv ad)) ∧ Po r G M ∧ sz0 ≤ G.1 ∧ (∀ k, k < sz0 → ad k = ad0 k) ∧ va_P D S.1 (sx_w S tc ad G M) t.heap ∧ (va_K D S.1 (sx_ty S tc) t ∧ sx_O t) ∧ va_D A (sx_w S tc ad G M)) ∧ va_F A st t
def sx_Pc (S : sx_S) (D : va_G) (tc : Nat → ClassId) (ad : Nat → Nat) (hs : Nat) (args : List sx_V) (G : sx_G) (M : sx_M0) : Array Value → State → Prop :=
  va_Pc (args.map (sx_cv ad)) (fun U => U.heap.size = hs ∧ va_P D S.1 (sx_w S tc ad G M) U.heap ∧ (va_K D S.1 (sx_ty S tc) U ∧ sx_O U) ∧ va_D (fun _ => True) (sx_w S tc ad G M))
/-- THE CONTRACT: called with these arguments over this world, method y answers r and leaves the world G', M', with Po r G' M' -/
def sx_Met (S : sx_S) (l : Launch) (D : va_G) (tc : Nat → ClassId) (y : MethodName) (ws : List Cond) (rm : Room) (args : List sx_V) (G : sx_G) (M : sx_M0) (Po : Option sx_V → sx_G → sx_M0 → Prop) : Prop :=
  ∀ (ad : Nat → Nat) (hs : Nat), Met l y ws rm (sx_Pc S D tc ad hs args G M) (sx_Qc S D tc ad G.1 (va_A (sx_w S tc ad G M) hs) Po) rm.cells rm.slots (va_A (sx_w S tc ad G M) hs)
def sx_Ret (S : sx_S) (ret : Option FieldType) (rm : Room) (Po : Option sx_V → sx_G → sx_M0 → Prop) (E : sx_E) : Prop :=
  (sx_me E).sig.returnType = ret ∧ sx_Q E = MQ (sx_b E) (sx_Qc S (sx_D E) (sx_tc E) (sx_ad E) (sx_sz E) (sx_AA E) Po) (sx_a E) (sx_s E) rm.cells rm.slots (sx_AA E) ∧ sx_R E = rm
theorem sx_enter {S : sx_S} {l : Launch} {D : va_G} {tc : Nat → ClassId} {y : MethodName} {ws ws' : List Cond} {rm : Room} {cc : ByteArray} {maxL : Nat} {ret : Option FieldType} {args : List sx_V} {G : sx_G} {M : sx_M0} {Po : Option sx_V → sx_G → sx_M0 → Prop} (hy : plainName y.cls = true) (hw : ws = Cond.code y cc maxL ret :: ws') (hn : (args.map sx_wd).sum ≤ maxL) {Ts : List Cond} (hsb : ∀ w ∈ Ts, w ∈ ws)
    (body : ∀ E : sx_E, sx_C S Ts y.cls cc E → sx_Ret S ret rm Po E → (sx_me E).name = y.name → sx_nL E = maxL → sx_X S E (0, 0) G M 0 (sx_args 0 args) []) : sx_Met S l D tc y ws rm args G M Po := by
  intro ad hs
  refine Met.ofW (cc := cc) (maxL := maxL) (ret := ret) hy hw ?_
  intro p e s m args' below meth c s₁ B hml hv
  obtain ⟨rfl, hsz, hP, hK, hD0⟩ := hv
  have hl := lv_entry (args.map (sx_cv ad)) (n := maxL) (by rw [sx_slots]; exact hn)
  rw [sx_args_eq] at hl
  rw [lg_entry_eq]
  exact body ((p, l, e, rm, s, m, (args.map (sx_cv ad)).toArray, below, meth, c), (va_A (sx_w S tc ad G M) hs, D, tc, ad, G.1, maxL, MQ below (sx_Qc S D tc ad G.1 (va_A (sx_w S tc ad G M) hs) Po) (args.map (sx_cv ad)).toArray s rm.cells rm.slots (va_A (sx_w S tc ad G M) hs)))
    ⟨B.exec, B.bytes, hml, findClass_of_methodNamed B.named, (fun w hw => atoms_spec (ws := ws) B.pre w (hsb w hw)), ⟨B.notSynchronized, hK.2⟩, hK.1, fun q h => Or.inr (by rw [← hsz]; exact h)⟩ ⟨B.returns, rfl, rfl⟩ (name_of_methodNamed B.named B.method).1 rfl s.heap [] _ ad hP hD0.self va_S.rf (Nat.le_refl _) (fun _ _ => rfl) hl
def sx_ok (n : Nat) (v : sx_V) : Bool := match v with
  | .inr (.inr (.inl (some k))) => decide (k < n)
  | _ => true
theorem sx_ok_cv {n n' : Nat} {ad ad' : Nat → Nat} (h : ∀ k, k < n → ad' k = ad k) (hn : n' ≤ n) {v : sx_V} (hv : sx_ok n' v = true) : sx_cv ad' v = sx_cv ad v := by
  rcases v with x | x | r | a
  · rfl
  · rfl
  · cases r with
    | none => rfl
    | some k =>
      have hk : k < n' := of_decide_eq_true hv
      show va_rf (some (ad' k)) = va_rf (some (ad k))
      rw [h k (Nat.lt_of_lt_of_le hk hn)]
  · rfl
section SXC
variable {S : sx_S} {E : sx_E} {cs : Nat × Nat} {G : sx_G} {M : sx_M0} {pc : Nat} {lv : List (Nat × sx_V)} {st : List sx_V} {Ts : List Cond} {own : String} {cc : ByteArray} {rm rm0 : Room} {Po Po0 : Option sx_V → sx_G → sx_M0 → Prop}
theorem sx_widen {c2 : Nat × Nat} (h1 : cs.1 ≤ c2.1) (h2 : cs.2 ≤ c2.2) (k : sx_X S E c2 G M pc lv st) : sx_X S E cs G M pc lv st :=
  fun H locs ls ad hP hD hS hz ha hl => W.widen h1 h2 (k H locs ls ad hP hD hS hz ha hl)
-- returns
theorem sx_post (C : sx_C S Ts own cc E) {H : Heap} {locs : List Loc} {ad : Nat → Nat} (hP : va_P (sx_D E) S.1 (sx_w S (sx_tc E) ad G M) H) (hD : va_D (sx_AA E) (sx_w S (sx_tc E) ad G M)) (hS : va_S (sx_AA E) (sx_s E).heap H locs) (hz : sx_sz E ≤ G.1) (ha : ∀ k, k < sx_sz E → ad k = sx_ad E k) (r : Option sx_V) (hpo : Po r G M) : ∀ t : State, t.heap = H → (sx_s E).WarmedH t.vm → sx_Qc S (sx_D E) (sx_tc E) (sx_ad E) (sx_sz E) (sx_AA E) Po (sx_a E) (sx_s E) (.returned (r.map (sx_cv ad))) t :=
  fun t ht hW => ⟨⟨r, G, M, ad, rfl, hpo, hz, ha, by rw [ht]; exact hP, ⟨va_K.moved hW.alike C.2.2.2.2.2.2.1, sx_O.moved hW.alike C.2.2.2.2.2.1.2⟩, hD⟩, hS.F ht⟩
theorem sx_ireturn (C : sx_C S Ts own cc E) (Rr : sx_Ret S (some .int) rm Po E) {x : Int} (hcs : cs = (rm.cells, rm.slots)) (hd : decode cc pc = .ok (.ireturn, 1)) (hpo : Po (some (sx_I x)) G M) : sx_X S E cs G M pc lv [sx_I x] := by
  subst hcs
  intro H locs ls ad hP hD hS hz ha hl
  delta sx_W
  rw [Rr.2.1]
  exact W.iret (v := Int32.ofInt x) C.1 C.2.1 Rr.1 (sx_post C hP hD hS hz ha (some (sx_I x)) hpo) hS.2.2 hd C.2.2.2.2.2.1.1
theorem sx_zreturn (C : sx_C S Ts own cc E) (Rr : sx_Ret S (some .boolean) rm Po E) {x : Int} (hx : x = 0 ∨ x = 1) (hcs : cs = (rm.cells, rm.slots)) (hd : decode cc pc = .ok (.ireturn, 1)) (hpo : Po (some (sx_I x)) G M) : sx_X S E cs G M pc lv [sx_I x] := by
  subst hcs
  intro H locs ls ad hP hD hS hz ha hl
  delta sx_W
  rw [Rr.2.1]
  exact W.zret (v := Int32.ofInt x) (ty := .boolean) C.1 C.2.1 Rr.1 (sx_bit hx).1 (sx_post C hP hD hS hz ha (some (sx_I x)) hpo) hS.2.2 hd C.2.2.2.2.2.1.1
theorem sx_lreturn (C : sx_C S Ts own cc E) (Rr : sx_Ret S (some .long) rm Po E) {x : Int} (hcs : cs = (rm.cells, rm.slots)) (hd : decode cc pc = .ok (.lreturn, 1)) (hpo : Po (some (sx_J x)) G M) : sx_X S E cs G M pc lv [sx_J x] := by
  subst hcs
  intro H locs ls ad hP hD hS hz ha hl
  delta sx_W
  rw [Rr.2.1]
  exact W.lret (v := Int64.ofInt x) C.1 C.2.1 Rr.1 (sx_post C hP hD hS hz ha (some (sx_J x)) hpo) hS.2.2 hd C.2.2.2.2.2.1.1
theorem sx_return (C : sx_C S Ts own cc E) (Rr : sx_Ret S none rm Po E) (hcs : cs = (rm.cells, rm.slots)) (hd : decode cc pc = .ok (.return_, 1)) (hpo : Po none G M) : sx_X S E cs G M pc lv [] := by
  subst hcs
  intro H locs ls ad hP hD hS hz ha hl
  delta sx_W
  rw [Rr.2.1]
  exact W.vret C.1 C.2.1 Rr.1 (sx_post C hP hD hS hz ha none hpo) hS.2.2 hd C.2.2.2.2.2.1.1
-- calls
theorem sx_blind {D : va_G} {tc : Nat → ClassId} {ad : Nat → Nat} {hs : Nat} {args : List sx_V} : FrameBlind (sx_Pc S D tc ad hs args G M) := fun a U g mk q => by
  obtain ⟨q0, q1, qP, qK, qD⟩ := q
  exact ⟨q0, q1, qP, ⟨va_K.moved (u := U) (U := U.calling g mk a) (Vm.Alike.refl U.vm) qK.1, sx_O.moved (u := U) (U := U.calling g mk a) (Vm.Alike.refl U.vm) qK.2⟩, qD⟩
theorem sx_go (C : sx_C S Ts own cc E) {H : Heap} {locs : List Loc} {ls : Array Slot} {ad : Nat → Nat} {st0 : List Value} {a : Array Value} (hD : va_D (sx_AA E) (sx_w S (sx_tc E) ad G M)) (hS : va_S (sx_AA E) (sx_s E).heap H locs) (hz : sx_sz E ≤ G.1) (ha : ∀ k, k < sx_sz E → ad k = sx_ad E k) (hl : lv_has ls (sx_nL E) (sx_lv ad lv))
    (hrun : va_Run (sx_p E) (sx_l E) (sx_e E) (sx_R E) (sx_s E) (sx_m E) (sx_a E) (sx_b E) (sx_me E) (sx_c E) H locs cs.1 cs.2 rm.cells rm.slots (F0 (sx_m E) pc ls st0) (st.map (sx_cv ad)) (sx_Qc S (sx_D E) (sx_tc E) ad G.1 (va_A (sx_w S (sx_tc E) ad G M) H.size) Po a) (va_A (sx_w S (sx_tc E) ad G M) H.size))
    {n : Nat} (hn : n ≤ G.1) (hlo : lv.all (fun q => sx_ok n q.2) = true) (hso : st.all (sx_ok n) = true)
    (kk : ∀ (r : Option sx_V) (G' : sx_G) (M' : sx_M0), Po r G' M' → G.1 ≤ G'.1 → sx_X S E (cs.1 + rm.cells, cs.2 + rm.slots) G' M' (pc + 3) lv (r.toList ++ st)) : sx_W E H locs cs.1 cs.2 (F0 (sx_m E) pc ls st0) := by
  intro T hT X
  obtain ⟨v, st₀, t, T', L, h0, X', hL, e1, e2, ⟨⟨r, G', M', ad', hv, hpo, hsz, hext, hP1, hK1, hD1⟩, hz1, hk1⟩, stp⟩ := hrun T hT X
  have hfree : ∀ q, va_A (sx_w S (sx_tc E) ad G M) H.size q → sx_AA E q := fun q h => by
    rcases h with ⟨k, e, h⟩ | h
    · exact hD.2 k (q, e) h
    · exact C.2.2.2.2.2.2.2 q (Nat.le_trans hS.1 h)
  rw [h0] at hz1 hk1
  have hv' : v = r.map (sx_cv ad') := by injection hv
  subst hv'
  have hS' : va_S (sx_AA E) (sx_s E).heap T'.heap (locs ++ L) := ⟨Nat.le_trans hS.1 (by rw [e1]; exact hz1), fun q h1 h2 => by rw [e1, hk1 q (Nat.lt_of_lt_of_le h1 hS.1) (fun z => h2 (hfree q z))]; exact hS.2.1 q h1 h2, fun q hq => by
      rcases List.mem_append.mp hq with h | h
      · exact hS.2.2 q h
      · exact hfree _ (hL q h)⟩
  have hlv : sx_lv ad' lv = sx_lv ad lv := List.map_congr_left (fun q hq => by
    rw [sx_ok_cv hext hn (List.all_eq_true.mp hlo q hq)])
  have hst : st.map (sx_cv ad') = st.map (sx_cv ad) := List.map_congr_left (fun q hq => sx_ok_cv hext hn (List.all_eq_true.mp hso q hq))
  obtain ⟨t2, a1, b1⟩ := kk r G' M' hpo hsz T'.heap (locs ++ L) ls ad' (by rw [e1]; exact hP1) (hD1.weaken (fun _ q _ h => hfree q.1 h)) hS' (Nat.le_trans hz hsz) (fun k hk => (hext k (Nat.lt_of_lt_of_le hk hz)).trans (ha k hk)) (by rw [hlv]; exact hl) T' rfl X'
  refine ⟨t2, stp t2 ?_, b1⟩
  have e3 : (r.toList).map (sx_cv ad') = (r.map (sx_cv ad')).toList := by cases r <;> rfl
  rw [List.map_append, hst, e3] at a1
  exact a1
variable {y : MethodName} {ws : List Cond} {As : List sx_V} {idx maxL : Nat} {bytes : ByteArray} {ret : Option FieldType}
theorem sx_callV (C : sx_C S Ts own cc E) {b ci N : Nat} {Cn : String} {T : u_T} (hM : sx_Met S (sx_l E) (sx_D E) (sx_tc E) y ws rm (sx_A b :: As) G M Po) (hc : S.1[ci]? = some (Cn, T, N)) (hb : b < G.1) (hs : G.2.1 b = (0, ci))
    (cw : CallW (sx_R E) (sx_s E) (sx_a E) own Cn idx y bytes maxL ret ws rm rm.cells rm.slots As.length) (hw : (st.map sx_wd).sum ≤ 8) (hd : decode cc pc = .ok (.invokevirtual idx, 3)) (hf : cs.1 + rm.cells ≤ (sx_R E).cells ∧ cs.2 + rm.slots ≤ (sx_R E).slots)
    {n : Nat} (hn : n ≤ G.1) (hlo : lv.all (fun q => sx_ok n q.2) = true) (hso : st.all (sx_ok n) = true) {st0 : List sx_V} (h0 : st0 = As.reverse ++ sx_A b :: st)
    (kk : ∀ (r : Option sx_V) (G' : sx_G) (M' : sx_M0), Po r G' M' → G.1 ≤ G'.1 → sx_X S E (cs.1 + rm.cells, cs.2 + rm.slots) G' M' (pc + 3) lv (r.toList ++ st)) : sx_X S E cs G M pc lv st0 := by
  subst h0
  intro H locs ls ad hP hD hS hz ha hl
  refine sx_go C hD hS hz ha hl (va_runV (As := As.map (sx_cv ad)) (rest := st.map (sx_cv ad)) (b := ad b) (nL := sx_nL E) ⟨C.1, C.2.1, C.2.2.1, C.2.2.2.1, C.2.2.2.2.1⟩ (hM ad H.size) cw ⟨sx_blind, va_recv C.2.2.2.2.2.2.1 hP hc (sx_obj hb hs), fun U hU hW => ⟨rfl, by rw [hU], by rw [hU]; exact hP, ⟨va_K.moved hW.alike C.2.2.2.2.2.2.1, sx_O.moved hW.alike C.2.2.2.2.2.1.2⟩, hD.weaken (fun _ _ _ _ => trivial)⟩⟩ rfl (by simp) hl.1 ?_ ?_ hd hf) hn hlo hso kk
  · show List.map (sx_cv ad) (As.reverse ++ sx_A b :: st) = _
    rw [List.map_append, List.map_reverse]
    rfl
  · exact lv_room (by rw [sx_wds]; exact hw)
theorem sx_callS (C : sx_C S Ts own cc E) (hM : sx_Met S (sx_l E) (sx_D E) (sx_tc E) y ws rm As G M Po)
    (cw : CallB (sx_R E) (sx_s E) (sx_a E) own idx y bytes maxL ret ws rm rm.cells rm.slots As.length ∧ (Cond.static y).before (sx_a E) (sx_s E) = true) (hw : (st.map sx_wd).sum ≤ 8) (hd : decode cc pc = .ok (.invokestatic idx, 3)) (hf : cs.1 + rm.cells ≤ (sx_R E).cells ∧ cs.2 + rm.slots ≤ (sx_R E).slots)
    {n : Nat} (hn : n ≤ G.1) (hlo : lv.all (fun q => sx_ok n q.2) = true) (hso : st.all (sx_ok n) = true) {st0 : List sx_V} (h0 : st0 = As.reverse ++ st)
    (kk : ∀ (r : Option sx_V) (G' : sx_G) (M' : sx_M0), Po r G' M' → G.1 ≤ G'.1 → sx_X S E (cs.1 + rm.cells, cs.2 + rm.slots) G' M' (pc + 3) lv (r.toList ++ st)) : sx_X S E cs G M pc lv st0 := by
  subst h0
  intro H locs ls ad hP hD hS hz ha hl
  refine sx_go C hD hS hz ha hl (va_runS (As := As.map (sx_cv ad)) (rest := st.map (sx_cv ad)) (nL := sx_nL E) ⟨C.1, C.2.1, C.2.2.1, C.2.2.2.1, C.2.2.2.2.1⟩ (hM ad H.size) cw ⟨sx_blind, fun U hU hW => ⟨rfl, by rw [hU], by rw [hU]; exact hP, ⟨va_K.moved hW.alike C.2.2.2.2.2.2.1, sx_O.moved hW.alike C.2.2.2.2.2.1.2⟩, hD.weaken (fun _ _ _ _ => trivial)⟩⟩ rfl (by simp) hl.1 ?_ ?_ hd hf) hn hlo hso kk
  · show List.map (sx_cv ad) (As.reverse ++ st) = _
    rw [List.map_append, List.map_reverse]
  · exact lv_room (by rw [sx_wds]; exact hw)
theorem sx_callI (C : sx_C S Ts own cc E) {b : Nat} (hM : sx_Met S (sx_l E) (sx_D E) (sx_tc E) y ws rm (sx_A b :: As) G M Po)
    (cw : CallB (sx_R E) (sx_s E) (sx_a E) own idx y bytes maxL none ws rm rm.cells rm.slots As.length ∧ y.name = "<init>" ∧ (Cond.instanceMethod y).before (sx_a E) (sx_s E) = true) (hw : (st.map sx_wd).sum ≤ 8) (hd : decode cc pc = .ok (.invokespecial idx, 3)) (hf : cs.1 + rm.cells ≤ (sx_R E).cells ∧ cs.2 + rm.slots ≤ (sx_R E).slots)
    {n : Nat} (hn : n ≤ G.1) (hlo : lv.all (fun q => sx_ok n q.2) = true) (hso : st.all (sx_ok n) = true) {st0 : List sx_V} (h0 : st0 = As.reverse ++ sx_A b :: st)
    (kk : ∀ (r : Option sx_V) (G' : sx_G) (M' : sx_M0), Po r G' M' → G.1 ≤ G'.1 → sx_X S E (cs.1 + rm.cells, cs.2 + rm.slots) G' M' (pc + 3) lv (r.toList ++ st)) : sx_X S E cs G M pc lv st0 := by
  subst h0
  intro H locs ls ad hP hD hS hz ha hl
  refine sx_go C hD hS hz ha hl (va_runI (As := As.map (sx_cv ad)) (rest := st.map (sx_cv ad)) (b := ad b) (nL := sx_nL E) ⟨C.1, C.2.1, C.2.2.1, C.2.2.2.1, C.2.2.2.2.1⟩ (hM ad H.size) cw ⟨sx_blind, fun U hU hW => ⟨rfl, by rw [hU], by rw [hU]; exact hP, ⟨va_K.moved hW.alike C.2.2.2.2.2.2.1, sx_O.moved hW.alike C.2.2.2.2.2.1.2⟩, hD.weaken (fun _ _ _ _ => trivial)⟩⟩ rfl (by simp) hl.1 ?_ ?_ hd hf) hn hlo hso kk
  · show List.map (sx_cv ad) (As.reverse ++ sx_A b :: st) = _
    rw [List.map_append, List.map_reverse]
    rfl
  · exact lv_room (by rw [sx_wds]; exact hw)
theorem sx_objInit (C : sx_C S Ts own cc E) {b : Nat} (h1 : Cond.methodLink own idx Lib.objectInit ∈ Ts) (h2 : Cond.instanceMethod Lib.objectInit ∈ Ts) (h3 : Cond.code Lib.objectInit ⟨#[0xb1]⟩ 1 none ∈ Ts) (hd : decode cc pc = .ok (.invokespecial idx, 3)) (hf : 1 ≤ (sx_R E).frames) (hlo : (st.map sx_wd).sum + 12 ≤ (sx_R E).locals) (kk : sx_X S E cs G M (pc + 3) lv st) : sx_X S E cs G M pc lv (sx_A b :: st) := by
  intro H locs ls ad hP hD hS hz ha hl
  refine W.objInit C.1 C.2.1 C.2.2.2.1 (C.2.2.2.2.1 _ h1) (C.2.2.2.2.1 _ h2) (C.2.2.2.2.1 _ h3) (a := ad b) (rest := st.map (sx_cv ad)) rfl (by rw [C.2.2.1]; exact hl.1) rfl hd hf ?_ (kk H locs ls ad hP hD hS hz ha hl)
  show 2 * 0 + _ + 12 ≤ _
  rw [sx_wds]
  omega
end SXC
end
section
/-- the references in a world are to cells of it -/
def sx_cl (G : sx_G) : Prop := ∀ k j r, k < G.1 → G.2.2 k j = some r → r < G.1
def sx_gp (G : sx_G) (sh : Nat × Nat) : sx_G := (G.1 + 1, va_up G.2.1 G.1 sh, va_up G.2.2 G.1 (fun _ => none))
def sx_mp (G : sx_G) (M : sx_M0) : sx_M0 := va_up M G.1 (fun _ => 0)
theorem sx_cell_ad {S : sx_S} {tc : Nat → ClassId} {ad ad' : Nat → Nat} {sh : Nat × Nat} {m : Nat → Int} {R : Nat → Option Nat} (h : ∀ j r, R j = some r → ad' r = ad r) : sx_cell S tc ad' sh m R = sx_cell S tc ad sh m R := by
  have e : ∀ j, (R j).map ad' = (R j).map ad := by
    intro j
    cases hj : R j with
    | none => rfl
    | some r => simp [h j r hj]
  have e2 : ∀ (j t : Nat), sx_cv ad' (sx_av t (m j) (R j)) = sx_cv ad (sx_av t (m j) (R j)) := by
    intro j t
    unfold sx_av
    split
    · rfl
    · rfl
    · rfl
    · show va_rf ((R j).map ad') = va_rf ((R j).map ad)
      rw [e]
  obtain ⟨a, n⟩ := sh
  cases a with
  | zero =>
    show Sum.inr (n, sx_fs (S.2.1 n) ad' m R) = Sum.inr (n, sx_fs (S.2.1 n) ad m R)
    simp only [sx_fs, e2]
  | succ a =>
    show Sum.inl (tc a, sx_arr S.2.2[a]? n ad' m R) = Sum.inl (tc a, sx_arr S.2.2[a]? n ad m R)
    unfold sx_arr
    simp only [e]
theorem sx_w_push {S : sx_S} {tc : Nat → ClassId} {ad : Nat → Nat} {G : sx_G} {M : sx_M0} {q : Nat} {sh : Nat × Nat} {e : va_E} (hcl : sx_cl G) (he : e = sx_cell S tc ad sh (fun _ => 0) (fun _ => none)) : sx_w S tc ad G M ++ [(q, e)] = sx_w S tc (va_up ad G.1 q) (sx_gp G sh) (sx_mp G M) := by
  subst he
  unfold sx_w
  show _ = (List.range (G.1 + 1)).map _
  rw [List.range_succ, List.map_append, List.map_singleton]
  congr 1
  · apply List.map_congr_left
    intro k hk
    have hk' : k < G.1 := List.mem_range.mp hk
    have hne : k ≠ G.1 := Nat.ne_of_lt hk'
    show _ = (va_up ad G.1 q k, sx_cell S tc (va_up ad G.1 q) (va_up G.2.1 G.1 sh k) (va_up M G.1 (fun _ => 0) k) (va_up G.2.2 G.1 (fun _ => none) k))
    rw [va_up_ne _ _ hne, va_up_ne _ _ hne, va_up_ne _ _ hne, va_up_ne _ _ hne]
    rw [sx_cell_ad (fun j r hr => va_up_ne ad q (Nat.ne_of_lt (hcl k j r hk' hr)))]
  · show _ = [(va_up ad G.1 q G.1, sx_cell S tc (va_up ad G.1 q) (va_up G.2.1 G.1 sh G.1) (va_up M G.1 (fun _ => 0) G.1) (va_up G.2.2 G.1 (fun _ => none) G.1))]
    rw [va_up_self, va_up_self, va_up_self, va_up_self]
    rw [sx_cell_ad (ad := ad) (ad' := va_up ad G.1 q) (fun j r hr => by cases hr)]
theorem sx_cl_gp {G : sx_G} {sh : Nat × Nat} (h : sx_cl G) : sx_cl (sx_gp G sh) := by
  intro k j r hk hr
  show r < G.1 + 1
  by_cases hk' : k = G.1
  · subst hk'
    have : va_up G.2.2 G.1 (fun _ => none) G.1 j = some r := hr
    rw [va_up_self] at this
    cases this
  · have h2 : va_up G.2.2 G.1 (fun _ => none) k j = some r := hr
    rw [va_up_ne _ _ hk'] at h2
    have h3 : k < G.1 + 1 := hk
    have := h k j r (by omega) h2
    omega
theorem sx_cl_up {G : sx_G} {k j r : Nat} (h : sx_cl G) (hr : r < G.1) : sx_cl (G.1, G.2.1, sx_upR G.2.2 k j (some r)) := by
  intro a b c ha hc
  have hc' : (if a = k ∧ b = j then some r else G.2.2 a b) = some c := hc
  show c < G.1
  split at hc'
  · cases hc'; exact hr
  · exact h a b c ha hc'
section SXN
variable {S : sx_S} {E : sx_E} {cs : Nat × Nat} {G : sx_G} {M : sx_M0} {pc : Nat} {lv : List (Nat × sx_V)} {st : List sx_V} {Ts : List Cond} {own : String} {cc : ByteArray} {idx : Nat}
theorem sx_goN {H1 : Heap} {locs : List Loc} {ls : Array Slot} {ad : Nat → Nat} {q pc' : Nat} {sh : Nat × Nat} {e : va_E} {c2 : Nat × Nat} (hcl : sx_cl G) (he : e = sx_cell S (sx_tc E) ad sh (fun _ => 0) (fun _ => none)) (hP1 : va_P (sx_D E) S.1 (sx_w S (sx_tc E) ad G M ++ [(q, e)]) H1) (hD1 : va_D (sx_AA E) (sx_w S (sx_tc E) ad G M ++ [(q, e)])) (hS1 : va_S (sx_AA E) (sx_s E).heap H1 locs) (hz : sx_sz E ≤ G.1) (ha : ∀ k, k < sx_sz E → ad k = sx_ad E k) (hl : lv_has ls (sx_nL E) (sx_lv ad lv))
    {n : Nat} (hn : n ≤ G.1) (hlo : lv.all (fun q => sx_ok n q.2) = true) (hso : st.all (sx_ok n) = true)
    (kk : sx_X S E c2 (sx_gp G sh) (sx_mp G M) pc' lv (sx_A G.1 :: st)) : sx_W E H1 locs c2.1 c2.2 (F0 (sx_m E) pc' ls (.ref q :: st.map (sx_cv ad))) := by
  rw [sx_w_push hcl he] at hP1 hD1
  have hext : ∀ k, k < G.1 → va_up ad G.1 q k = ad k := fun k hk => va_up_ne _ _ (Nat.ne_of_lt hk)
  have hlv : sx_lv (va_up ad G.1 q) lv = sx_lv ad lv := List.map_congr_left (fun x hx => by
    rw [sx_ok_cv hext hn (List.all_eq_true.mp hlo x hx)])
  have hst : st.map (sx_cv (va_up ad G.1 q)) = st.map (sx_cv ad) := List.map_congr_left (fun x hx => sx_ok_cv hext hn (List.all_eq_true.mp hso x hx))
  have h := kk H1 locs ls (va_up ad G.1 q) hP1 hD1 hS1 (Nat.le_succ_of_le hz) (fun k hk => (hext k (Nat.lt_of_lt_of_le hk hz)).trans (ha k hk)) (by rw [hlv]; exact hl)
  have e3 : (sx_A G.1 :: st).map (sx_cv (va_up ad G.1 q)) = .ref q :: st.map (sx_cv ad) := by
    rw [List.map_cons, hst]
    show Value.ref (va_up ad G.1 q G.1) :: _ = _
    rw [va_up_self]
  rw [e3] at h
  exact h
theorem sx_new (C : sx_C S Ts own cc E) {ci N : Nat} {Cn : String} {T : u_T} (hc : S.1[ci]? = some (Cn, T, N)) (hin : ∀ w ∈ u_ws Cn T N, w ∈ Ts) (ty0 : Nat → FieldType) (hty : ∀ k, k < N → parseFieldDescriptor (T k).2.2.1 = some (ty0 k)) (h1 : Cond.classLink own idx Cn ∈ Ts) (h2 : Cond.instantiable Cn N ∈ Ts) (h3 : Cond.initialized Cn ∈ Ts) (hdef : ∀ j, j < N → ∃ t, (S.2.1 ci)[j]? = some t ∧ defaultValue (ty0 j) = sx_cv id (sx_av t 0 none)) (hcells : cs.1 + 1 ≤ (sx_R E).cells) (hslots : cs.2 + N ≤ (sx_R E).slots) (hd : decode cc pc = .ok (.new idx, 3))
    (hcl : sx_cl G) {n : Nat} (hn : n ≤ G.1) (hlo : lv.all (fun q => sx_ok n q.2) = true) (hso : st.all (sx_ok n) = true)
    (kk : sx_X S E (cs.1 + 1, cs.2 + N) (sx_gp G (0, ci)) (sx_mp G M) (pc + 3) lv (sx_A G.1 :: st)) : sx_X S E cs G M pc lv st := by
  intro H locs ls ad hP hD hS hz ha hl
  refine va_new (D := sx_D E) (ci := ci) (fs := sx_fs (S.2.1 ci) ad (fun _ => 0) (fun _ => none)) (C := Cn) (T := T) (N := N) C.1 C.2.1 C.2.2.2.2.1 hin ty0 hty C.2.2.2.1 (C.2.2.2.2.1 _ h1) (C.2.2.2.2.1 _ h2) (C.2.2.2.2.1 _ h3) C.2.2.2.2.2.2.1 hP hD hS C.2.2.2.2.2.2.2 hc (fun j hj => ?_) hcells hslots hd (fun q H1 hP1 hD1 hS1 => ?_)
  · obtain ⟨t, ht, hdv⟩ := hdef j hj
    unfold vp_V
    have e : sx_cv ad (sx_av t 0 none) = sx_cv id (sx_av t 0 none) := by
      unfold sx_av
      split <;> rfl
    rw [List.getD_eq_getElem?_getD, sx_fs_get ht, hdv]
    exact e.symm
  · exact sx_goN hcl rfl hP1 hD1 hS1 hz ha hl hn hlo hso kk
theorem sx_newa (C : sx_C S Ts own cc E) {a N : Nat} {x : Int} {atype : ArrayType} {ty : FieldType} (hty : newarray.typeOf atype = ty) (ht : S.2.2[a]? = some ty) (hprim : ty = .int ∨ ty = .long ∨ ty = .boolean) (h1 : Cond.arrayClass ty ∈ Ts) (hx : x = (N : Int)) (hN : N < 1048576) (hcells : cs.1 + 1 ≤ (sx_R E).cells) (hslots : cs.2 + N ≤ (sx_R E).slots) (hd : decode cc pc = .ok (.newarray atype, 2))
    (hcl : sx_cl G) {n : Nat} (hn : n ≤ G.1) (hlo : lv.all (fun q => sx_ok n q.2) = true) (hso : st.all (sx_ok n) = true)
    (kk : sx_X S E (cs.1 + 1, cs.2 + N) (sx_gp G (a + 1, N)) (sx_mp G M) (pc + 2) lv (sx_A G.1 :: st)) : sx_X S E cs G M pc lv (sx_I x :: st) := by
  subst hx
  intro H locs ls ad hP hD hS hz ha hl
  have hcb : componentBytes ty ≤ 8 := by rcases hprim with rfl | rfl | rfl <;> decide
  refine va_newa (D := sx_D E) (n := Int32.ofInt (N : Int)) (N' := N) (a0 := sx_arr (some ty) N ad (fun _ => 0) (fun _ => none)) C.1 C.2.1 (by rw [hty]; exact C.2.2.2.2.1 _ h1) hty C.2.2.2.2.2.2.1 hP hD hS C.2.2.2.2.2.2.2 (fun cA => ?_) ?_ (sx_clamp (by omega)) ?_ hcells hslots hd (fun q cA H1 hK1 hP1 hD1 hS1 => ?_)
  · rcases hprim with rfl | rfl | rfl <;> rfl
  · rw [sx_nI]; exact nI_pos (by omega)
  · have := Nat.mul_le_mul_left N hcb
    omega
  · have e1 := (hK1.2 (sx_ty S (sx_tc E)).length (cA, ty) (by simp)).2
    have e2 := (C.2.2.2.2.2.2.1.2 a _ (sx_ty_get ht)).2
    have e3 : cA = sx_tc E a := by
      rcases hprim with rfl | rfl | rfl <;> exact Option.some.inj (e1.symm.trans e2)
    subst e3
    refine sx_goN (sh := (a + 1, N)) hcl ?_ hP1 hD1 hS1 hz ha hl hn hlo hso kk
    show _ = Sum.inl (sx_tc E a, sx_arr S.2.2[a]? N ad (fun _ => 0) (fun _ => none))
    rw [ht]
-- the library's own
theorem sx_lmax (C : sx_C S Ts own cc E) {x y : Int} (hx : sx_r64 x) (hy : sx_r64 y) (h1 : Cond.methodLink own idx Lib.MathLoose.max_long.x ∈ Ts) (h2 : Cond.static Lib.MathLoose.max_long.x ∈ Ts) (h3 : Cond.initialized "java/lang/Math" ∈ Ts) (h4 : Cond.code Lib.MathLoose.max_long.x Lib.MathLoose.max_long.code 4 (some .long) ∈ Ts) (hf : 1 ≤ (sx_R E).frames) (hlo : (st.map sx_wd).sum + 15 ≤ (sx_R E).locals) (hc : cs.1 ≤ (sx_R E).cells) (hs : cs.2 ≤ (sx_R E).slots) (hd : decode cc pc = .ok (.invokestatic idx, 3))
    (kk : sx_X S E cs G M (pc + 3) lv (sx_J (if y < x then x else y) :: st)) : sx_X S E cs G M pc lv (sx_J y :: sx_J x :: st) := by
  intro H locs ls ad hP hD hS hz ha hl
  refine va_mmax_long C.1 C.2.1 (by rw [C.2.2.1]; exact hl.1.symm) C.2.2.2.1 (C.2.2.2.2.1 _ h1) (C.2.2.2.2.1 _ h2) (C.2.2.2.2.1 _ h3) (C.2.2.2.2.1 _ h4) hf (by rw [sx_wds]; exact hlo) hc hs hd ?_
  have e : (if Int64.ofInt y < Int64.ofInt x then Int64.ofInt x else Int64.ofInt y) = Int64.ofInt (if y < x then x else y) := by
    by_cases h : y < x
    · rw [if_pos h, if_pos ((sx_lt64 hy hx).mpr h)]
    · rw [if_neg h, if_neg (fun q => h ((sx_lt64 hy hx).mp q))]
  rw [e]
  exact kk H locs ls ad hP hD hS hz ha hl
theorem sx_imin (C : sx_C S Ts own cc E) {x y : Int} (hx : sx_r32 x) (hy : sx_r32 y) (h1 : Cond.methodLink own idx Lib.Math.min.name ∈ Ts) (h2 : Cond.static Lib.Math.min.name ∈ Ts) (h3 : Cond.initialized "java/lang/Math" ∈ Ts) (h4 : Cond.code Lib.Math.min.name Lib.Math.min.code 2 (some .int) ∈ Ts) (hf : 1 ≤ (sx_R E).frames) (hlo : (st.map sx_wd).sum + 13 ≤ (sx_R E).locals) (hc : cs.1 ≤ (sx_R E).cells) (hs : cs.2 ≤ (sx_R E).slots) (hd : decode cc pc = .ok (.invokestatic idx, 3))
    (kk : sx_X S E cs G M (pc + 3) lv (sx_I (if y < x then y else x) :: st)) : sx_X S E cs G M pc lv (sx_I y :: sx_I x :: st) := by
  intro H locs ls ad hP hD hS hz ha hl
  refine va_mmin C.1 C.2.1 (by rw [C.2.2.1]; exact hl.1.symm) C.2.2.2.1 (C.2.2.2.2.1 _ h1) (C.2.2.2.2.1 _ h2) (C.2.2.2.2.1 _ h3) (C.2.2.2.2.1 _ h4) hf (by rw [sx_wds]; exact hlo) hc hs hd ?_
  have e : (if Int32.ofInt y < Int32.ofInt x then Int32.ofInt y else Int32.ofInt x) = Int32.ofInt (if y < x then y else x) := by
    by_cases h : y < x
    · rw [if_pos h, if_pos ((sx_lt32 hy hx).mpr h)]
    · rw [if_neg h, if_neg (fun q => h ((sx_lt32 hy hx).mp q))]
  rw [e]
  exact kk H locs ls ad hP hD hS hz ha hl
/-- n slots of cell k0 from sp on laid into cell k1 from dp on -/
def sx_cpy (M : sx_M0) (k0 k1 sp dp n : Nat) : sx_M0 := fun a b => if a = k1 ∧ dp ≤ b ∧ b < dp + n then M k0 (sp + (b - dp)) else M a b
theorem sx_copyI (C : sx_C S Ts own cc E) {k0 k1 a n0 n1 : Nat} {sp dp n : Nat} {isp idp iN : Int} (hk0 : k0 < G.1) (hs0 : G.2.1 k0 = (a + 1, n0)) (hk1 : k1 < G.1) (hs1 : G.2.1 k1 = (a + 1, n1)) (ht : S.2.2[a]? = some .int) (hsp : isp = (sp : Int)) (hdp : idp = (dp : Int)) (hN : iN = (n : Int)) (h5 : sp + n ≤ n0) (h6 : dp + n ≤ n1) (h7 : n0 < 2147483648) (h8 : n1 < 2147483648)
    (h1 : Cond.methodLink own idx arraycopyName ∈ Ts) (h2 : Cond.native arraycopyName ∈ Ts) (h3 : Cond.static arraycopyName ∈ Ts) (h4 : Cond.initialized "java/lang/System" ∈ Ts) (hf : 1 ≤ (sx_R E).frames) (hlo : (st.map sx_wd).sum + (nativeFrameWords "java/lang/System" "arraycopy" 5 + 11) ≤ (sx_R E).locals) (hd : decode cc pc = .ok (.invokestatic idx, 3))
    (kk : sx_X S E cs G (sx_cpy M k0 k1 sp dp n) (pc + 3) lv st) : sx_X S E cs G M pc lv (sx_I iN :: sx_I idp :: sx_A k1 :: sx_I isp :: sx_A k0 :: st) := by
  subst hsp; subst hdp; subst hN
  intro H locs ls ad hP hD hS hz ha hl
  have c1 : (Int32.ofInt (sp : Int)).toNatClampNeg = sp := sx_clamp (by omega)
  have c2 : (Int32.ofInt (dp : Int)).toNatClampNeg = dp := sx_clamp (by omega)
  have c3 : (Int32.ofInt (n : Int)).toNatClampNeg = n := sx_clamp (by omega)
  refine va_copyi (D := sx_D E) C.1 C.2.1 (by rw [C.2.2.1]; exact hl.1.symm) C.2.2.2.1 (C.2.2.2.2.1 _ h1) (C.2.2.2.2.1 _ h2) (C.2.2.2.2.1 _ h3) (C.2.2.2.2.1 _ h4) C.2.2.2.2.2.2.1 hP hD hS k0 k1 a a (sx_arrI hk0 hs0 ht) (sx_arrI hk1 hs1 ht) (sx_ty_get ht) (sx_ty_get ht) rfl (by rw [sx_nI]; exact nI_pos (by omega)) (by rw [sx_nI]; exact nI_pos (by omega)) (by rw [sx_nI]; exact nI_pos (by omega)) (by rw [c1, c3]; exact h5) (by rw [c2, c3]; exact h6) (fun i _ => rfl) hf (by rw [sx_wds]; exact hlo) hd (fun H1 locs1 hP1 hD1 hS1 => ?_)
  rw [c1, c2, c3] at hP1 hD1
  have e : (sx_w S (sx_tc E) ad G M).set k1 (ad k1, .inl (sx_tc E a, n1, .inl (va_cpy (fun b => Int32.ofInt (M k0 b)) (fun b => Int32.ofInt (M k1 b)) sp dp n))) = sx_w S (sx_tc E) ad G (sx_cpy M k0 k1 sp dp n) :=
    sx_w_set hk1 rfl rfl (fun _ _ => rfl) (fun b hb => by funext x; simp [sx_cpy, hb]) (by
      rw [hs1]
      simp only [sx_cell, ht, sx_arr]
      congr 4
      funext b
      unfold va_cpy sx_cpy
      by_cases hb : dp ≤ b ∧ b < dp + n
      · rw [if_pos hb, if_pos ⟨rfl, hb⟩]
      · rw [if_neg hb, if_neg (fun q => hb q.2)])
  rw [e] at hP1 hD1
  exact kk H1 locs1 ls ad hP1 hD1 hS1 hz ha hl
theorem sx_copyL (C : sx_C S Ts own cc E) {k0 k1 a n0 n1 : Nat} {sp dp n : Nat} {isp idp iN : Int} (hk0 : k0 < G.1) (hs0 : G.2.1 k0 = (a + 1, n0)) (hk1 : k1 < G.1) (hs1 : G.2.1 k1 = (a + 1, n1)) (ht : S.2.2[a]? = some .long) (hsp : isp = (sp : Int)) (hdp : idp = (dp : Int)) (hN : iN = (n : Int)) (h5 : sp + n ≤ n0) (h6 : dp + n ≤ n1) (h7 : n0 < 2147483648) (h8 : n1 < 2147483648)
    (h1 : Cond.methodLink own idx arraycopyName ∈ Ts) (h2 : Cond.native arraycopyName ∈ Ts) (h3 : Cond.static arraycopyName ∈ Ts) (h4 : Cond.initialized "java/lang/System" ∈ Ts) (hf : 1 ≤ (sx_R E).frames) (hlo : (st.map sx_wd).sum + (nativeFrameWords "java/lang/System" "arraycopy" 5 + 11) ≤ (sx_R E).locals) (hd : decode cc pc = .ok (.invokestatic idx, 3))
    (kk : sx_X S E cs G (sx_cpy M k0 k1 sp dp n) (pc + 3) lv st) : sx_X S E cs G M pc lv (sx_I iN :: sx_I idp :: sx_A k1 :: sx_I isp :: sx_A k0 :: st) := by
  subst hsp; subst hdp; subst hN
  intro H locs ls ad hP hD hS hz ha hl
  have c1 : (Int32.ofInt (sp : Int)).toNatClampNeg = sp := sx_clamp (by omega)
  have c2 : (Int32.ofInt (dp : Int)).toNatClampNeg = dp := sx_clamp (by omega)
  have c3 : (Int32.ofInt (n : Int)).toNatClampNeg = n := sx_clamp (by omega)
  refine va_copyl (D := sx_D E) C.1 C.2.1 (by rw [C.2.2.1]; exact hl.1.symm) C.2.2.2.1 (C.2.2.2.2.1 _ h1) (C.2.2.2.2.1 _ h2) (C.2.2.2.2.1 _ h3) (C.2.2.2.2.1 _ h4) C.2.2.2.2.2.2.1 hP hD hS k0 k1 a a (sx_arrL hk0 hs0 ht) (sx_arrL hk1 hs1 ht) (sx_ty_get ht) (sx_ty_get ht) rfl (by rw [sx_nI]; exact nI_pos (by omega)) (by rw [sx_nI]; exact nI_pos (by omega)) (by rw [sx_nI]; exact nI_pos (by omega)) (by rw [c1, c3]; exact h5) (by rw [c2, c3]; exact h6) (fun i _ => rfl) hf (by rw [sx_wds]; exact hlo) hd (fun H1 locs1 hP1 hD1 hS1 => ?_)
  rw [c1, c2, c3] at hP1 hD1
  have e : (sx_w S (sx_tc E) ad G M).set k1 (ad k1, .inl (sx_tc E a, n1, .inr (.inl (va_cpy (fun b => Int64.ofInt (M k0 b)) (fun b => Int64.ofInt (M k1 b)) sp dp n)))) = sx_w S (sx_tc E) ad G (sx_cpy M k0 k1 sp dp n) :=
    sx_w_set hk1 rfl rfl (fun _ _ => rfl) (fun b hb => by funext x; simp [sx_cpy, hb]) (by
      rw [hs1]
      simp only [sx_cell, ht, sx_arr]
      congr 5
      funext b
      unfold va_cpy sx_cpy
      by_cases hb : dp ≤ b ∧ b < dp + n
      · rw [if_pos hb, if_pos ⟨rfl, hb⟩]
      · rw [if_neg hb, if_neg (fun q => hb q.2)])
  rw [e] at hP1 hD1
  exact kk H1 locs1 ls ad hP1 hD1 hS1 hz ha hl
end SXN
end
section
-- the rows down to END began as the text of claim/NAMES.whole.lean.txt (a starting text)
/-! ===== BEGIN new T[n][m]: the outer array a place, the inner ones among the pooled ===== -/
/-- f, but v at every address of l -/
def vr_up {α : Type} (f : Nat → α) (l : List Nat) (v : α) : Nat → α := fun a => if a ∈ l then v else f a
theorem vr_up_in {α : Type} {f : Nat → α} {l : List Nat} {v : α} {a : Nat} (h : a ∈ l) : vr_up f l v a = v := if_pos h
theorem vr_up_ne {α : Type} {f : Nat → α} {l : List Nat} {v : α} {a : Nat} (h : a ∉ l) : vr_up f l v a = f a := if_neg h
theorem vr_rows {L l : List Nat} {f : Nat → va_E} {e : va_E} (h : ∀ a, a ∈ l → a ∉ L) : va_pl L f ++ l.map (fun a => (a, e)) = va_pl (L ++ l) (vr_up f l e) := by
  unfold va_pl
  rw [List.map_append]
  congr 1
  · apply List.map_congr_left
    intro a ha
    rw [vr_up_ne (fun q => h a q ha)]
  · apply List.map_congr_left
    intro a ha
    rw [vr_up_in ha]
theorem vr_lay {X rows : va_W} {x : Nat × va_E} {pl : va_W} {D : va_G} {cl : List vw_C} {H : Heap} (hP : va_P D cl (((X ++ pl) ++ [x]) ++ rows) H) : va_P D cl ((X ++ [x]) ++ (pl ++ rows)) H := by
  rw [List.append_assoc (X ++ pl)] at hP
  have h := va_P.swap hP
  rw [← List.append_assoc X] at h
  have h2 := va_P.swap h
  rw [List.append_assoc (X ++ [x])] at h2
  exact h2
theorem vr_layD {X rows : va_W} {x : Nat × va_E} {pl : va_W} {A : Nat → Prop} (hD : va_D A (((X ++ pl) ++ [x]) ++ rows)) : va_D A ((X ++ [x]) ++ (pl ++ rows)) := by
  rw [List.append_assoc (X ++ pl)] at hD
  have h := va_D.swap hD
  rw [← List.append_assoc X] at h
  have h2 := va_D.swap h
  rw [List.append_assoc (X ++ [x])] at h2
  exact h2
theorem vr_outer (c : ClassId) (N h0 : Nat) : ∀ i : Nat, Jvm.Free.Multi.outerC c N h0 i = arrV c N (fun j => va_rf (if j < i then some (h0 + 1 + j) else none))
  | 0 => by
    show ({ cls := c, slots := Array.replicate N .null, vm := .none } : Cell) = _
    rw [arrV_new]
    refine congrArg (arrV c N) (funext fun j => ?_)
    simp [va_rf]
  | i + 1 => by
    show (Jvm.Free.Multi.outerC c N h0 i).setSlot i (.ref (h0 + 1 + i)) = _
    rw [vr_outer c N h0 i, arrV_store]
    refine congrArg (arrV c N) (funext fun j => ?_)
    by_cases e : j = i
    · subst e
      simp [updV, va_rf]
    · by_cases h : j < i
      · simp [updV, e, h, Nat.lt_succ_of_lt h]
      · simp [updV, e, h, show ¬ j < i + 1 by omega]
section VGM
variable {p : Program} {l : Launch} {e : Env} {R : Room} {s : State} {m : MethodId} {args : Array Value} {below : List Frame} {meth : Method} {c : Code} {H : Heap} {locs : List Loc} {cells slots : Nat} {Q : State → Prop}
variable {cc : ByteArray} {pc : Nat} {ls : Array Slot} {rest : List Value} {D : va_G} {cl : List vw_C} {A : Nat → Prop} {a : Nat} {tys : List (ClassId × FieldType)} {ws : va_W} {H0 : Heap}
theorem va_mna {X : va_W} {L : List Nat} {f : Nat → va_E} {cc : ByteArray} (hexec : p.tables.exec = Jvm.exec) (hb : c.code = cc) {own : String} {index : Nat} {ty : FieldType} {cy : ClassId} (hown : s.vm.findClass own = some m.cls) (hclink : (Cond.classLink own index ("[" ++ (FieldType.array ty).toString)).before args s = true) (hover : (Cond.arrayOver (.array ty)).before args s = true) (harr : (Cond.arrayClass ty).before args s = true) (hcy : s.vm.findClass (FieldType.array ty).toString = some cy)
    (hK : va_K D cl tys s) (hP : va_P D cl (X ++ va_pl L f) H) (hD : va_D A (X ++ va_pl L f)) (hS : va_S A H0 H locs) (hA : ∀ q, H0.size ≤ q → A q) {n k : Int32} {N' K' : Nat} {z : vp_A} (hn : ¬ n < 0) (hk : ¬ k < 0) (hN : n.toNatClampNeg = N') (hM : k.toNatClampNeg = K')
    (hb1 : N' * 4 ≤ 536870912) (hb2 : K' * componentBytes ty ≤ 536870912) (hb3 : K' ≤ 536870912) (hdf : fits ty (defaultValue ty) = true) (hdd : (defaultValue ty).isDefault = true) (hcells : cells + (1 + N') ≤ R.cells) (hslots : slots + (N' + N' * K') ≤ R.slots) (hz : ∀ c : ClassId, Jvm.Free.Multi.innerC c K' (defaultValue ty) = vp_cell c z) (hdg : decode cc pc = .ok (.multianewarray index 2, 4))
    (kk : ∀ (q : Nat) (r : Nat → Nat) (cA : ClassId) (H1 : Heap), (∀ i j : Nat, i < N' → j < N' → r i = r j → i = j) → (∀ i : Nat, i < N' → r i ∉ L) → va_K D cl (tys ++ [(cA, .array ty)]) s →
      va_P D cl ((X ++ [(q, .inl (cA, N', .inr (.inr (.inr (.inr (fun i => if i < N' then some (r i) else none))))))]) ++ va_pl (L ++ (List.range N').map r) (vr_up f ((List.range N').map r) (.inl (cy, z)))) H1 → va_D A ((X ++ [(q, .inl (cA, N', .inr (.inr (.inr (.inr (fun i => if i < N' then some (r i) else none))))))]) ++ va_pl (L ++ (List.range N').map r) (vr_up f ((List.range N').map r) (.inl (cy, z)))) → va_S A H0 H1 locs →
      W p l e R s m args below meth c H1 locs (cells + 1 + N') (slots + N' + N' * K') Q (F0 m (pc + 4) ls (.ref q :: rest))) : W p l e R s m args below meth c H locs cells slots Q (F0 m pc ls (.int k :: .int n :: rest)) := by
  subst hN
  subst hM
  intro T hT Xs
  obtain ⟨vm₁, cA, comp, -, fA, fC, hO, -, X', step⟩ := Xs.multianewarray2F hexec hown hclink hover harr (g := F0 m pc ls (.int k :: .int n :: rest)) rfl (by rw [hb]; exact hdg) rfl hn hk hb1 hb2 hb3 hdf hdd hcells hslots
  have ec : some cy = some comp := hcy.symm.trans fC
  cases ec
  generalize hF : Jvm.Free.Multi.fill (T.setVm vm₁) cA cy n.toNatClampNeg k.toNatClampNeg (defaultValue ty) n.toNatClampNeg = F at X' step
  have hTh : (T.setVm vm₁).heap = H := hT
  obtain ⟨f1, f2, -, -⟩ := Jvm.Free.Multi.fill_facts (T.setVm vm₁) cA cy n.toNatClampNeg k.toNatClampNeg (defaultValue ty) n.toNatClampNeg
  rw [hF, hTh] at f1 f2
  have hold : ∀ x : Nat, x < H.size → F.heap[x]? = H[x]? := fun x hx => by
    have := Jvm.Free.Multi.fill_old (T.setVm vm₁) cA cy n.toNatClampNeg k.toNatClampNeg (defaultValue ty) (a := x) (by rw [hTh]; exact hx) n.toNatClampNeg
    rw [hF, hTh] at this
    exact this
  have hrow : ∀ j : Nat, j < n.toNatClampNeg → F.heap[H.size + 1 + j]? = some (vp_cell cy z) := fun j hj => by
    have := Jvm.Free.Multi.fill_inner (T.setVm vm₁) cA cy n.toNatClampNeg k.toNatClampNeg (defaultValue ty) n.toNatClampNeg j hj
    rw [hF, hTh, hz] at this
    exact this
  have hout : Jvm.Free.Multi.outerC cA n.toNatClampNeg H.size n.toNatClampNeg = vp_cell cA (n.toNatClampNeg, .inr (.inr (.inr (.inr (fun i => if i < n.toNatClampNeg then some (H.size + 1 + i) else none))))) := by
    rw [vp_cell_q]
    exact vr_outer cA n.toNatClampNeg H.size n.toNatClampNeg
  rw [hout] at f2
  have hlt : ∀ a, a ∈ L → a < H.size := fun a ha => by
    obtain ⟨k9, hk9⟩ := va_pl_get (X := X) (f := f) ha
    exact (hP k9 _ hk9).lt
  have hnl : ∀ i : Nat, i < n.toNatClampNeg → H.size + 1 + i ∉ L := fun i _ h => by
    have := hlt _ h
    omega
  have hnm : ∀ a, a ∈ (List.range n.toNatClampNeg).map (fun i => H.size + 1 + i) → a ∉ L := fun a ha h => by
    obtain ⟨i, -, rfl⟩ := List.mem_map.mp ha
    have := hlt _ h
    omega
  have hP0 : va_P D cl (X ++ va_pl L f) F.heap := hP.kept (fun k9 x hx => hold x.1 ((hP k9 x hx).lt))
  have hP1 : va_P D cl ((X ++ va_pl L f) ++ [(H.size, .inl (cA, n.toNatClampNeg, .inr (.inr (.inr (.inr (fun i => if i < n.toNatClampNeg then some (H.size + 1 + i) else none))))))]) F.heap := hP0.app (fun k9 x hx => by
    have h0 : k9 < 1 := (List.getElem?_eq_some_iff.mp hx).1
    rw [show k9 = 0 by omega] at hx
    cases hx
    exact f2)
  have hP2 : va_P D cl (((X ++ va_pl L f) ++ [(H.size, .inl (cA, n.toNatClampNeg, .inr (.inr (.inr (.inr (fun i => if i < n.toNatClampNeg then some (H.size + 1 + i) else none))))))]) ++ ((List.range n.toNatClampNeg).map (fun i => H.size + 1 + i)).map (fun a => (a, .inl (cy, z)))) F.heap := hP1.app (fun k9 x hx => by
    obtain ⟨a, ha, rfl⟩ := List.mem_map.mp (List.mem_of_getElem? hx)
    obtain ⟨i, hi, rfl⟩ := List.mem_map.mp ha
    exact hrow i (List.mem_range.mp hi))
  have hD2 : va_D A (((X ++ va_pl L f) ++ [(H.size, .inl (cA, n.toNatClampNeg, .inr (.inr (.inr (.inr (fun i => if i < n.toNatClampNeg then some (H.size + 1 + i) else none))))))]) ++ ((List.range n.toNatClampNeg).map (fun i => H.size + 1 + i)).map (fun a => (a, .inl (cy, z)))) := by
    have hD1 := hD.push (e := .inl (cA, n.toNatClampNeg, .inr (.inr (.inr (.inr (fun i => if i < n.toNatClampNeg then some (H.size + 1 + i) else none)))))) hP rfl (hA _ hS.1)
    generalize hW1 : (X ++ va_pl L f) ++ [(H.size, .inl (cA, n.toNatClampNeg, .inr (.inr (.inr (.inr (fun i => if i < n.toNatClampNeg then some (H.size + 1 + i) else none))))))] = W1 at hD1 hP1 ⊢
    have hle : ∀ (k9 : Nat) (x : Nat × va_E), W1[k9]? = some x → x.1 ≤ H.size := fun k9 x hx => by
      rw [← hW1] at hx
      by_cases hl : k9 < (X ++ va_pl L f).length
      · rw [List.getElem?_append_left hl] at hx
        exact Nat.le_of_lt ((hP k9 x hx).lt)
      · rw [List.getElem?_append_right (by omega)] at hx
        have h0 : k9 - (X ++ va_pl L f).length < 1 := (List.getElem?_eq_some_iff.mp hx).1
        rw [show k9 - (X ++ va_pl L f).length = 0 by omega] at hx
        cases hx
        exact Nat.le_refl _
    have hr : ∀ (k9 : Nat) (x : Nat × va_E), (((List.range n.toNatClampNeg).map (fun i => H.size + 1 + i)).map (fun a => ((a, .inl (cy, z)) : Nat × va_E)))[k9]? = some x → x.1 = H.size + 1 + k9 := fun k9 x hx => by
      rw [List.getElem?_map, List.getElem?_map] at hx
      by_cases h9 : k9 < n.toNatClampNeg
      · rw [List.getElem?_range h9] at hx
        cases hx
        rfl
      · have hn0 : (List.range n.toNatClampNeg)[k9]? = none := List.getElem?_eq_none (by rw [List.length_range]; omega)
        rw [hn0] at hx
        cases hx
    refine ⟨fun i j x y hi hj hxy => ?_, fun k9 x hx => ?_⟩
    · by_cases h1 : i < W1.length <;> by_cases h2 : j < W1.length
      · rw [List.getElem?_append_left h1] at hi
        rw [List.getElem?_append_left h2] at hj
        exact hD1.1 i j x y hi hj hxy
      · rw [List.getElem?_append_left h1] at hi
        rw [List.getElem?_append_right (by omega)] at hj
        have := hle _ _ hi
        have := hr _ _ hj
        omega
      · rw [List.getElem?_append_right (by omega)] at hi
        rw [List.getElem?_append_left h2] at hj
        have := hle _ _ hj
        have := hr _ _ hi
        omega
      · rw [List.getElem?_append_right (by omega)] at hi hj
        have := hr _ _ hi
        have := hr _ _ hj
        omega
    · by_cases h1 : k9 < W1.length
      · rw [List.getElem?_append_left h1] at hx
        exact hD1.2 k9 x hx
      · rw [List.getElem?_append_right (by omega)] at hx
        have := hr _ _ hx
        exact hA _ (by have := hS.1; omega)
  have hAr : ArrOfT s cA (.array ty) := fun N9 z9 => by
    obtain ⟨-, k9, hk9, cm9, hkk9⟩ := (hO 0 0 0).1
    exact ⟨(fun q hq => by cases hq), k9, hk9, cm9, hkk9⟩
  have hK2 : va_K D cl (tys ++ [(cA, .array ty)]) s := ⟨hK.1, fun k9 x hx => by
    by_cases hl : k9 < tys.length
    · rw [List.getElem?_append_left hl] at hx
      exact hK.2 k9 x hx
    · rw [List.getElem?_append_right (by omega)] at hx
      have h0 : k9 - tys.length < 1 := (List.getElem?_eq_some_iff.mp hx).1
      rw [show k9 - tys.length = 0 by omega] at hx
      cases hx
      exact ⟨hAr, fA⟩⟩
  obtain ⟨t, a1, b1⟩ := kk H.size (fun i => H.size + 1 + i) cA F.heap (fun i j _ _ h => by have h9 : H.size + 1 + i = H.size + 1 + j := h; omega) hnl hK2 (by rw [← vr_rows hnm]; exact vr_lay hP2) (by rw [← vr_rows hnm]; exact vr_layD hD2) ⟨by rw [f1]; have := hS.1; omega, fun x h1 h2 => (hold x (Nat.lt_of_lt_of_le h1 hS.1)).trans (hS.2.1 x h1 h2), hS.2.2⟩ F rfl X'
  refine ⟨t, step t ?_, b1⟩
  have e : T.heap.size = H.size := by rw [hT]
  rw [e]
  exact a1
end VGM
/-! ===== END ===== -/
def sx_gm (G : sx_G) (a b N K : Nat) : sx_G := (G.1 + 1 + N, fun k => if k < G.1 then G.2.1 k else if k = G.1 then (a + 1, N) else (b + 1, K), fun k => if k < G.1 then G.2.2 k else if k = G.1 then (fun j => if j < N then some (G.1 + 1 + j) else none) else fun _ => none)
def sx_mm (G : sx_G) (M : sx_M0) : sx_M0 := fun k => if k < G.1 then M k else fun _ => 0
def sx_am (ad : Nat → Nat) (n q : Nat) (r : Nat → Nat) : Nat → Nat := fun k => if k < n then ad k else if k = n then q else r (k - n - 1)
theorem sx_am_lt {ad : Nat → Nat} {n q : Nat} {r : Nat → Nat} {k : Nat} (h : k < n) : sx_am ad n q r k = ad k := by simp [sx_am, h]
theorem sx_am_eq {ad : Nat → Nat} {n q : Nat} {r : Nat → Nat} : sx_am ad n q r n = q := by simp [sx_am]
theorem sx_am_gt {ad : Nat → Nat} {n q : Nat} {r : Nat → Nat} {i : Nat} : sx_am ad n q r (n + 1 + i) = r i := by
  unfold sx_am
  rw [if_neg (by omega), if_neg (by omega), show n + 1 + i - n - 1 = i by omega]
theorem sx_w_mna {S : sx_S} {tc : Nat → ClassId} {ad : Nat → Nat} {G : sx_G} {M : sx_M0} {q a b N K : Nat} {r : Nat → Nat} {g : Nat → va_E} (hcl : sx_cl G) (ha : S.2.2[a]? = some (.array .long)) (hb : S.2.2[b]? = some .long) (hg : ∀ i, i < N → g (r i) = .inl (tc b, K, .inr (.inl (fun _ => 0)))) :
    (sx_w S tc ad G M ++ [(q, .inl (tc a, N, .inr (.inr (.inr (.inr (fun i => if i < N then some (r i) else none))))))]) ++ va_pl ((List.range N).map r) g = sx_w S tc (sx_am ad G.1 q r) (sx_gm G a b N K) (sx_mm G M) := by
  unfold sx_w va_pl
  show _ = (List.range (G.1 + 1 + N)).map _
  rw [List.range_add, List.map_append, List.range_succ, List.map_append, List.map_singleton, List.map_map, List.map_map]
  congr 1
  · congr 1
    · apply List.map_congr_left
      intro k hk
      have hk' : k < G.1 := List.mem_range.mp hk
      simp only [sx_gm, sx_mm, if_pos hk', sx_am_lt hk']
      rw [sx_cell_ad (fun j x hx => sx_am_lt (hcl k j x hk' hx))]
    · simp only [sx_gm, sx_mm, Nat.lt_irrefl, if_false, if_true, sx_am_eq, sx_cell, ha, sx_arr]
      congr 9
      funext i
      by_cases hi : i < N
      · rw [if_pos hi, if_pos hi, Option.map_some, sx_am_gt]
      · rw [if_neg hi, if_neg hi]; rfl
  · apply List.map_congr_left
    intro i hi
    have hi' : i < N := List.mem_range.mp hi
    have h1 : ¬ G.1 + 1 + i < G.1 := by omega
    have h2 : ¬ G.1 + 1 + i = G.1 := by omega
    simp only [Function.comp, sx_gm, sx_mm, if_neg h1, if_neg h2, sx_am_gt, hg i hi', sx_cell, hb, sx_arr]
    rfl
theorem sx_cl_gm {G : sx_G} {a b N K : Nat} (h : sx_cl G) : sx_cl (sx_gm G a b N K) := by
  intro k j r hk hr
  show r < G.1 + 1 + N
  have hr' : (if k < G.1 then G.2.2 k else if k = G.1 then (fun j => if j < N then some (G.1 + 1 + j) else none) else fun _ => none) j = some r := hr
  by_cases h1 : k < G.1
  · rw [if_pos h1] at hr'
    have := h k j r h1 hr'
    omega
  · rw [if_neg h1] at hr'
    by_cases h2 : k = G.1
    · rw [if_pos h2] at hr'
      have hr2 : (if j < N then some (G.1 + 1 + j) else none) = some r := hr'
      split at hr2
      · cases hr2; omega
      · cases hr2
    · rw [if_neg h2] at hr'
      cases hr'
section SXG
variable {S : sx_S} {E : sx_E} {cs : Nat × Nat} {G : sx_G} {M : sx_M0} {pc : Nat} {lv : List (Nat × sx_V)} {st : List sx_V} {Ts : List Cond} {own : String} {cc : ByteArray} {idx : Nat}
theorem sx_mna (C : sx_C S Ts own cc E) {a b N K : Nat} {x y : Int} (ha : S.2.2[a]? = some (.array .long)) (hb : S.2.2[b]? = some .long) (h1 : Cond.classLink own idx "[[J" ∈ Ts) (h2 : Cond.arrayClass .long ∈ Ts) (hx : x = (N : Int)) (hy : y = (K : Int)) (hN : N < 1048576) (hK : K < 1048576) (hcells : cs.1 + (1 + N) ≤ (sx_R E).cells) (hslots : cs.2 + (N + N * K) ≤ (sx_R E).slots) (hd : decode cc pc = .ok (.multianewarray idx 2, 4))
    (hcl : sx_cl G) {n : Nat} (hn : n ≤ G.1) (hlo : lv.all (fun q => sx_ok n q.2) = true) (hso : st.all (sx_ok n) = true)
    (kk : sx_X S E (cs.1 + 1 + N, cs.2 + N + N * K) (sx_gm G a b N K) (sx_mm G M) (pc + 4) lv (sx_A G.1 :: st)) : sx_X S E cs G M pc lv (sx_I y :: sx_I x :: st) := by
  subst hx; subst hy
  intro H locs ls ad hP hD hS hz haa hl
  have e0 : sx_w S (sx_tc E) ad G M ++ va_pl [] (fun _ => .inr (0, [])) = sx_w S (sx_tc E) ad G M := List.append_nil _
  have eb := (C.2.2.2.2.2.2.1.2 b _ (sx_ty_get hb)).2
  have ea := (C.2.2.2.2.2.2.1.2 a _ (sx_ty_get ha)).2
  refine va_mna (D := sx_D E) (X := sx_w S (sx_tc E) ad G M) (L := []) (f := fun _ => .inr (0, [])) (ty := .long) (cy := sx_tc E b) (n := Int32.ofInt (N : Int)) (k := Int32.ofInt (K : Int)) (N' := N) (K' := K) (z := (K, .inr (.inl (fun _ => 0)))) C.1 C.2.1 C.2.2.2.1 (C.2.2.2.2.1 _ h1) C.2.2.2.2.2.1.2 (C.2.2.2.2.1 _ h2) eb C.2.2.2.2.2.2.1 (by rw [e0]; exact hP) (by rw [e0]; exact hD) hS C.2.2.2.2.2.2.2 (by rw [sx_nI]; exact nI_pos (by omega)) (by rw [sx_nI]; exact nI_pos (by omega)) (sx_clamp (by omega)) (sx_clamp (by omega)) (by omega) (by show K * 8 ≤ _; omega) (by omega) rfl rfl hcells hslots (fun c => by show ({ cls := c, slots := Array.replicate K (defaultValue .long), vm := .none } : Cell) = _; rw [arrV_new]; rfl) hd (fun q r cA H1 hri hrl hK1 hP1 hD1 hS1 => ?_)
  have e1 := (hK1.2 (sx_ty S (sx_tc E)).length (cA, .array .long) (by simp)).2
  have e3 : cA = sx_tc E a := Option.some.inj (e1.symm.trans ea)
  subst e3
  have hg : ∀ i, i < N → vr_up (fun _ => (.inr (0, []) : va_E)) ((List.range N).map r) (.inl (sx_tc E b, K, .inr (.inl (fun _ => 0)))) (r i) = .inl (sx_tc E b, K, .inr (.inl (fun _ => 0))) := fun i hi => vr_up_in (List.mem_map.mpr ⟨i, List.mem_range.mpr hi, rfl⟩)
  rw [List.nil_append, sx_w_mna hcl ha hb hg] at hP1 hD1
  have hext : ∀ k, k < G.1 → sx_am ad G.1 q r k = ad k := fun k hk => sx_am_lt hk
  have hlv : sx_lv (sx_am ad G.1 q r) lv = sx_lv ad lv := List.map_congr_left (fun x hx => by
    rw [sx_ok_cv hext hn (List.all_eq_true.mp hlo x hx)])
  have hst : st.map (sx_cv (sx_am ad G.1 q r)) = st.map (sx_cv ad) := List.map_congr_left (fun x hx => sx_ok_cv hext hn (List.all_eq_true.mp hso x hx))
  have h := kk H1 locs ls (sx_am ad G.1 q r) hP1 hD1 hS1 (by show _ ≤ G.1 + 1 + N; omega) (fun k hk => (hext k (Nat.lt_of_lt_of_le hk hz)).trans (haa k hk)) (by rw [hlv]; exact hl)
  have e4 : (sx_A G.1 :: st).map (sx_cv (sx_am ad G.1 q r)) = .ref q :: st.map (sx_cv ad) := by
    rw [List.map_cons, hst]
    show Value.ref (sx_am ad G.1 q r G.1) :: _ = _
    rw [sx_am_eq]
  rw [e4] at h
  exact h
end SXG
end
section
-- ===== PART A: goes FIRST, ahead of the names: the tables' words, and 'selects' of the private methods out of them =====
/-- a private method of a class that the tables say can be made, by its rows of tables_1 -/
def lw_okq (q : MethodName × Nat) : Prop := (q.1.cls ≠ "java/lang/invoke/MethodHandle" ∧ q.1.cls ≠ "java/lang/invoke/VarHandle") ∧ Cond.instantiable q.1.cls q.2 ∈ tables_1 ∧ Cond.privateMethod q.1 ∈ tables_1 ∧ Cond.instanceMethod q.1 ∈ tables_1
theorem lw_p0 : lw_okq (⟨"SiteChoice$Town", "countReached", "(I)J"⟩, 12) := ⟨⟨by decide +kernel, by decide +kernel⟩, List.mem_of_getElem? (i := 21) (by decide +kernel), List.mem_of_getElem? (i := 281) (by decide +kernel), List.mem_of_getElem? (i := 282) (by decide +kernel)⟩
theorem lw_p1 : lw_okq (⟨"SiteChoice$Search", "loadSets", "(LSiteChoice$Town;I)V"⟩, 14) := ⟨⟨by decide +kernel, by decide +kernel⟩, List.mem_of_getElem? (i := 89) (by decide +kernel), List.mem_of_getElem? (i := 314) (by decide +kernel), List.mem_of_getElem? (i := 315) (by decide +kernel)⟩
theorem lw_p2 : lw_okq (⟨"SiteChoice$Search", "reckonLeastRest", "()Z"⟩, 14) := ⟨⟨by decide +kernel, by decide +kernel⟩, List.mem_of_getElem? (i := 89) (by decide +kernel), List.mem_of_getElem? (i := 332) (by decide +kernel), List.mem_of_getElem? (i := 333) (by decide +kernel)⟩
theorem lw_p3 : lw_okq (⟨"SiteChoice$Search", "nearestUsable", "(I)J"⟩, 14) := ⟨⟨by decide +kernel, by decide +kernel⟩, List.mem_of_getElem? (i := 89) (by decide +kernel), List.mem_of_getElem? (i := 336) (by decide +kernel), List.mem_of_getElem? (i := 337) (by decide +kernel)⟩
theorem lw_p4 : lw_okq (⟨"SiteChoice$Search", "isUsable", "(I)Z"⟩, 14) := ⟨⟨by decide +kernel, by decide +kernel⟩, List.mem_of_getElem? (i := 89) (by decide +kernel), List.mem_of_getElem? (i := 340) (by decide +kernel), List.mem_of_getElem? (i := 341) (by decide +kernel)⟩
theorem lw_p5 : lw_okq (⟨"SiteChoice$Search", "give", "(IIJ)V"⟩, 14) := ⟨⟨by decide +kernel, by decide +kernel⟩, List.mem_of_getElem? (i := 89) (by decide +kernel), List.mem_of_getElem? (i := 350) (by decide +kernel), List.mem_of_getElem? (i := 351) (by decide +kernel)⟩
theorem lw_p6 : lw_okq (⟨"SiteChoice$Search", "nextWithNeed", "(I)I"⟩, 14) := ⟨⟨by decide +kernel, by decide +kernel⟩, List.mem_of_getElem? (i := 89) (by decide +kernel), List.mem_of_getElem? (i := 354) (by decide +kernel), List.mem_of_getElem? (i := 355) (by decide +kernel)⟩
theorem lw_p7 : lw_okq (⟨"SiteChoice$Search", "keepIfBetter", "(J)V"⟩, 14) := ⟨⟨by decide +kernel, by decide +kernel⟩, List.mem_of_getElem? (i := 89) (by decide +kernel), List.mem_of_getElem? (i := 358) (by decide +kernel), List.mem_of_getElem? (i := 359) (by decide +kernel)⟩
theorem lw_p8 : lw_okq (⟨"SiteChoice$Search", "isHopeless", "(J)Z"⟩, 14) := ⟨⟨by decide +kernel, by decide +kernel⟩, List.mem_of_getElem? (i := 89) (by decide +kernel), List.mem_of_getElem? (i := 362) (by decide +kernel), List.mem_of_getElem? (i := 363) (by decide +kernel)⟩
theorem lw_p9 : lw_okq (⟨"SiteChoice$Search", "giveEachPlace", "(IIJ)V"⟩, 14) := ⟨⟨by decide +kernel, by decide +kernel⟩, List.mem_of_getElem? (i := 89) (by decide +kernel), List.mem_of_getElem? (i := 366) (by decide +kernel), List.mem_of_getElem? (i := 367) (by decide +kernel)⟩
theorem lw_p10 : lw_okq (⟨"SiteChoice$Search", "canTake", "(II)Z"⟩, 14) := ⟨⟨by decide +kernel, by decide +kernel⟩, List.mem_of_getElem? (i := 89) (by decide +kernel), List.mem_of_getElem? (i := 370) (by decide +kernel), List.mem_of_getElem? (i := 371) (by decide +kernel)⟩
theorem lw_p11 : lw_okq (⟨"SiteChoice$Unserved", "list", "(II)V"⟩, 2) := ⟨⟨by decide +kernel, by decide +kernel⟩, List.mem_of_getElem? (i := 162) (by decide +kernel), List.mem_of_getElem? (i := 397) (by decide +kernel), List.mem_of_getElem? (i := 398) (by decide +kernel)⟩
theorem lw_p12 : lw_okq (⟨"SiteChoice$HeldPlan", "exchange", "(IILSiteChoice$Town;LSiteChoice$Search;)Z"⟩, 3) := ⟨⟨by decide +kernel, by decide +kernel⟩, List.mem_of_getElem? (i := 144) (by decide +kernel), List.mem_of_getElem? (i := 463) (by decide +kernel), List.mem_of_getElem? (i := 464) (by decide +kernel)⟩
theorem lw_p13 : lw_okq (⟨"SiteChoice$Calendar", "reckonSums", "(IILSiteChoice$Town;LSiteChoice$Search;)V"⟩, 4) := ⟨⟨by decide +kernel, by decide +kernel⟩, List.mem_of_getElem? (i := 175) (by decide +kernel), List.mem_of_getElem? (i := 488) (by decide +kernel), List.mem_of_getElem? (i := 489) (by decide +kernel)⟩
theorem lw_p14 : lw_okq (⟨"SiteChoice$Calendar", "reckonOnward", "(IILSiteChoice$Search;)V"⟩, 4) := ⟨⟨by decide +kernel, by decide +kernel⟩, List.mem_of_getElem? (i := 175) (by decide +kernel), List.mem_of_getElem? (i := 495) (by decide +kernel), List.mem_of_getElem? (i := 496) (by decide +kernel)⟩
theorem lw_p15 : lw_okq (⟨"SiteChoice$Calendar", "withNext", "(IIILSiteChoice$Search;)J"⟩, 4) := ⟨⟨by decide +kernel, by decide +kernel⟩, List.mem_of_getElem? (i := 175) (by decide +kernel), List.mem_of_getElem? (i := 499) (by decide +kernel), List.mem_of_getElem? (i := 500) (by decide +kernel)⟩
def lw_privs_1 : List (MethodName × Nat) := [(⟨"SiteChoice$Town", "countReached", "(I)J"⟩, 12), (⟨"SiteChoice$Search", "loadSets", "(LSiteChoice$Town;I)V"⟩, 14), (⟨"SiteChoice$Search", "reckonLeastRest", "()Z"⟩, 14), (⟨"SiteChoice$Search", "nearestUsable", "(I)J"⟩, 14), (⟨"SiteChoice$Search", "isUsable", "(I)Z"⟩, 14), (⟨"SiteChoice$Search", "give", "(IIJ)V"⟩, 14), (⟨"SiteChoice$Search", "nextWithNeed", "(I)I"⟩, 14), (⟨"SiteChoice$Search", "keepIfBetter", "(J)V"⟩, 14), (⟨"SiteChoice$Search", "isHopeless", "(J)Z"⟩, 14), (⟨"SiteChoice$Search", "giveEachPlace", "(IIJ)V"⟩, 14), (⟨"SiteChoice$Search", "canTake", "(II)Z"⟩, 14), (⟨"SiteChoice$Unserved", "list", "(II)V"⟩, 2), (⟨"SiteChoice$HeldPlan", "exchange", "(IILSiteChoice$Town;LSiteChoice$Search;)Z"⟩, 3), (⟨"SiteChoice$Calendar", "reckonSums", "(IILSiteChoice$Town;LSiteChoice$Search;)V"⟩, 4), (⟨"SiteChoice$Calendar", "reckonOnward", "(IILSiteChoice$Search;)V"⟩, 4), (⟨"SiteChoice$Calendar", "withNext", "(IIILSiteChoice$Search;)J"⟩, 4)]
theorem lw_r1 : ∀ q ∈ lw_privs_1, lw_okq q := List.forall_mem_cons.mpr ⟨lw_p0, List.forall_mem_cons.mpr ⟨lw_p1, List.forall_mem_cons.mpr ⟨lw_p2, List.forall_mem_cons.mpr ⟨lw_p3, List.forall_mem_cons.mpr ⟨lw_p4, List.forall_mem_cons.mpr ⟨lw_p5, List.forall_mem_cons.mpr ⟨lw_p6, List.forall_mem_cons.mpr ⟨lw_p7, List.forall_mem_cons.mpr ⟨lw_p8, List.forall_mem_cons.mpr ⟨lw_p9, List.forall_mem_cons.mpr ⟨lw_p10, List.forall_mem_cons.mpr ⟨lw_p11, List.forall_mem_cons.mpr ⟨lw_p12, List.forall_mem_cons.mpr ⟨lw_p13, List.forall_mem_cons.mpr ⟨lw_p14, List.forall_mem_cons.mpr ⟨lw_p15, fun _ h => absurd h List.not_mem_nil⟩⟩⟩⟩⟩⟩⟩⟩⟩⟩⟩⟩⟩⟩⟩⟩
theorem lw_p16 : lw_okq (⟨"SiteChoice$Calendar", "cheapestNext", "(IIILSiteChoice$Search;)I"⟩, 4) := ⟨⟨by decide +kernel, by decide +kernel⟩, List.mem_of_getElem? (i := 175) (by decide +kernel), List.mem_of_getElem? (i := 503) (by decide +kernel), List.mem_of_getElem? (i := 504) (by decide +kernel)⟩
theorem lw_p17 : lw_okq (⟨"SiteChoice$Calendar", "hold", "(IILSiteChoice$Search;)V"⟩, 4) := ⟨⟨by decide +kernel, by decide +kernel⟩, List.mem_of_getElem? (i := 175) (by decide +kernel), List.mem_of_getElem? (i := 507) (by decide +kernel), List.mem_of_getElem? (i := 508) (by decide +kernel)⟩
theorem lw_p18 : lw_okq (⟨"SiteChoiceModel", "isDistrict", "(I)Z"⟩, 25) := ⟨⟨by decide +kernel, by decide +kernel⟩, List.mem_of_getElem? (i := 519) (by decide +kernel), List.mem_of_getElem? (i := 623) (by decide +kernel), List.mem_of_getElem? (i := 624) (by decide +kernel)⟩
theorem lw_p19 : lw_okq (⟨"SiteChoiceModel", "isPlace", "(I)Z"⟩, 25) := ⟨⟨by decide +kernel, by decide +kernel⟩, List.mem_of_getElem? (i := 519) (by decide +kernel), List.mem_of_getElem? (i := 627) (by decide +kernel), List.mem_of_getElem? (i := 628) (by decide +kernel)⟩
theorem lw_p20 : lw_okq (⟨"SiteChoiceModel", "canGo", "(II)Z"⟩, 25) := ⟨⟨by decide +kernel, by decide +kernel⟩, List.mem_of_getElem? (i := 519) (by decide +kernel), List.mem_of_getElem? (i := 652) (by decide +kernel), List.mem_of_getElem? (i := 653) (by decide +kernel)⟩
theorem lw_p21 : lw_okq (⟨"SiteChoiceModel", "all", "()I"⟩, 25) := ⟨⟨by decide +kernel, by decide +kernel⟩, List.mem_of_getElem? (i := 519) (by decide +kernel), List.mem_of_getElem? (i := 661) (by decide +kernel), List.mem_of_getElem? (i := 662) (by decide +kernel)⟩
theorem lw_p22 : lw_okq (⟨"SiteChoiceModel", "askFor", "(II)V"⟩, 25) := ⟨⟨by decide +kernel, by decide +kernel⟩, List.mem_of_getElem? (i := 519) (by decide +kernel), List.mem_of_getElem? (i := 665) (by decide +kernel), List.mem_of_getElem? (i := 666) (by decide +kernel)⟩
theorem lw_p23 : lw_okq (⟨"SiteChoiceModel", "search", "(IZ)J"⟩, 25) := ⟨⟨by decide +kernel, by decide +kernel⟩, List.mem_of_getElem? (i := 519) (by decide +kernel), List.mem_of_getElem? (i := 673) (by decide +kernel), List.mem_of_getElem? (i := 674) (by decide +kernel)⟩
theorem lw_p24 : lw_okq (⟨"SiteChoiceModel", "count", "()I"⟩, 25) := ⟨⟨by decide +kernel, by decide +kernel⟩, List.mem_of_getElem? (i := 519) (by decide +kernel), List.mem_of_getElem? (i := 677) (by decide +kernel), List.mem_of_getElem? (i := 678) (by decide +kernel)⟩
theorem lw_p25 : lw_okq (⟨"SiteChoiceModel", "isPlan", "([II)Z"⟩, 25) := ⟨⟨by decide +kernel, by decide +kernel⟩, List.mem_of_getElem? (i := 519) (by decide +kernel), List.mem_of_getElem? (i := 681) (by decide +kernel), List.mem_of_getElem? (i := 682) (by decide +kernel)⟩
theorem lw_p26 : lw_okq (⟨"SiteChoiceModel", "fits", "([II)Z"⟩, 25) := ⟨⟨by decide +kernel, by decide +kernel⟩, List.mem_of_getElem? (i := 519) (by decide +kernel), List.mem_of_getElem? (i := 685) (by decide +kernel), List.mem_of_getElem? (i := 686) (by decide +kernel)⟩
theorem lw_p27 : lw_okq (⟨"SiteChoiceModel", "placesOf", "([I)I"⟩, 25) := ⟨⟨by decide +kernel, by decide +kernel⟩, List.mem_of_getElem? (i := 519) (by decide +kernel), List.mem_of_getElem? (i := 689) (by decide +kernel), List.mem_of_getElem? (i := 690) (by decide +kernel)⟩
theorem lw_p28 : lw_okq (⟨"SiteChoiceModel", "mayBeOpen", "(II)Z"⟩, 25) := ⟨⟨by decide +kernel, by decide +kernel⟩, List.mem_of_getElem? (i := 519) (by decide +kernel), List.mem_of_getElem? (i := 693) (by decide +kernel), List.mem_of_getElem? (i := 694) (by decide +kernel)⟩
theorem lw_p29 : lw_okq (⟨"SiteChoiceModel", "sumOf", "([I)J"⟩, 25) := ⟨⟨by decide +kernel, by decide +kernel⟩, List.mem_of_getElem? (i := 519) (by decide +kernel), List.mem_of_getElem? (i := 697) (by decide +kernel), List.mem_of_getElem? (i := 698) (by decide +kernel)⟩
theorem lw_p30 : lw_okq (⟨"SiteChoiceModel", "next", "()Z"⟩, 25) := ⟨⟨by decide +kernel, by decide +kernel⟩, List.mem_of_getElem? (i := 519) (by decide +kernel), List.mem_of_getElem? (i := 701) (by decide +kernel), List.mem_of_getElem? (i := 702) (by decide +kernel)⟩
theorem lw_p31 : lw_okq (⟨"SiteChoiceModel", "findClash", "()V"⟩, 25) := ⟨⟨by decide +kernel, by decide +kernel⟩, List.mem_of_getElem? (i := 519) (by decide +kernel), List.mem_of_getElem? (i := 705) (by decide +kernel), List.mem_of_getElem? (i := 706) (by decide +kernel)⟩
def lw_privs_2 : List (MethodName × Nat) := [(⟨"SiteChoice$Calendar", "cheapestNext", "(IIILSiteChoice$Search;)I"⟩, 4), (⟨"SiteChoice$Calendar", "hold", "(IILSiteChoice$Search;)V"⟩, 4), (⟨"SiteChoiceModel", "isDistrict", "(I)Z"⟩, 25), (⟨"SiteChoiceModel", "isPlace", "(I)Z"⟩, 25), (⟨"SiteChoiceModel", "canGo", "(II)Z"⟩, 25), (⟨"SiteChoiceModel", "all", "()I"⟩, 25), (⟨"SiteChoiceModel", "askFor", "(II)V"⟩, 25), (⟨"SiteChoiceModel", "search", "(IZ)J"⟩, 25), (⟨"SiteChoiceModel", "count", "()I"⟩, 25), (⟨"SiteChoiceModel", "isPlan", "([II)Z"⟩, 25), (⟨"SiteChoiceModel", "fits", "([II)Z"⟩, 25), (⟨"SiteChoiceModel", "placesOf", "([I)I"⟩, 25), (⟨"SiteChoiceModel", "mayBeOpen", "(II)Z"⟩, 25), (⟨"SiteChoiceModel", "sumOf", "([I)J"⟩, 25), (⟨"SiteChoiceModel", "next", "()Z"⟩, 25), (⟨"SiteChoiceModel", "findClash", "()V"⟩, 25)]
theorem lw_r2 : ∀ q ∈ lw_privs_2, lw_okq q := List.forall_mem_cons.mpr ⟨lw_p16, List.forall_mem_cons.mpr ⟨lw_p17, List.forall_mem_cons.mpr ⟨lw_p18, List.forall_mem_cons.mpr ⟨lw_p19, List.forall_mem_cons.mpr ⟨lw_p20, List.forall_mem_cons.mpr ⟨lw_p21, List.forall_mem_cons.mpr ⟨lw_p22, List.forall_mem_cons.mpr ⟨lw_p23, List.forall_mem_cons.mpr ⟨lw_p24, List.forall_mem_cons.mpr ⟨lw_p25, List.forall_mem_cons.mpr ⟨lw_p26, List.forall_mem_cons.mpr ⟨lw_p27, List.forall_mem_cons.mpr ⟨lw_p28, List.forall_mem_cons.mpr ⟨lw_p29, List.forall_mem_cons.mpr ⟨lw_p30, List.forall_mem_cons.mpr ⟨lw_p31, fun _ h => absurd h List.not_mem_nil⟩⟩⟩⟩⟩⟩⟩⟩⟩⟩⟩⟩⟩⟩⟩⟩
theorem lw_p32 : lw_okq (⟨"SiteChoiceModel", "exchange", "()Z"⟩, 25) := ⟨⟨by decide +kernel, by decide +kernel⟩, List.mem_of_getElem? (i := 519) (by decide +kernel), List.mem_of_getElem? (i := 747) (by decide +kernel), List.mem_of_getElem? (i := 748) (by decide +kernel)⟩
theorem lw_p33 : lw_okq (⟨"SiteChoiceModel", "reckon", "(I)V"⟩, 25) := ⟨⟨by decide +kernel, by decide +kernel⟩, List.mem_of_getElem? (i := 519) (by decide +kernel), List.mem_of_getElem? (i := 755) (by decide +kernel), List.mem_of_getElem? (i := 756) (by decide +kernel)⟩
theorem lw_p34 : lw_okq (⟨"SiteChoiceModel", "yearCost", "(III)J"⟩, 25) := ⟨⟨by decide +kernel, by decide +kernel⟩, List.mem_of_getElem? (i := 519) (by decide +kernel), List.mem_of_getElem? (i := 760) (by decide +kernel), List.mem_of_getElem? (i := 761) (by decide +kernel)⟩
def lw_privs_3 : List (MethodName × Nat) := [(⟨"SiteChoiceModel", "exchange", "()Z"⟩, 25), (⟨"SiteChoiceModel", "reckon", "(I)V"⟩, 25), (⟨"SiteChoiceModel", "yearCost", "(III)J"⟩, 25)]
theorem lw_r3 : ∀ q ∈ lw_privs_3, lw_okq q := List.forall_mem_cons.mpr ⟨lw_p32, List.forall_mem_cons.mpr ⟨lw_p33, List.forall_mem_cons.mpr ⟨lw_p34, fun _ h => absurd h List.not_mem_nil⟩⟩⟩
def lw_privs : List (MethodName × Nat) := lw_privs_1 ++ (lw_privs_2 ++ (lw_privs_3))
def lw_tbl : List Cond := k2_sels lw_privs ++ tables_1
theorem lw_privs_ok : ∀ q ∈ lw_privs, lw_okq q := by
  show ∀ q ∈ lw_privs_1 ++ (lw_privs_2 ++ (lw_privs_3)), lw_okq q
  exact List.forall_mem_append.mpr ⟨lw_r1, List.forall_mem_append.mpr ⟨lw_r2, lw_r3⟩⟩
end
section
/-! NAMES, printed by my program out of JAVAP.txt, JDK.txt and the tables of the Statement -/
/-- the words that a call may carry on -/
def g_tbl : List Cond := lw_tbl.filter goodWord
set_option maxRecDepth 100000 in
theorem tb_ (k : Nat) {w : Cond} (h : tables_1[k]? = some w) (hg : goodWord w = true) : w ∈ g_tbl := List.mem_filter.mpr ⟨List.mem_append_right _ (List.mem_of_getElem? h), hg⟩
def T_To : u_T := fun k => match k with
  | 0 => ("SiteChoice$Town", "districts", "I", false)
  | 1 => ("SiteChoice$Town", "places", "I", false)
  | 2 => ("SiteChoice$Town", "cents", "J", false)
  | 3 => ("SiteChoice$Town", "needs", "[J", true)
  | 4 => ("SiteChoice$Town", "most", "[J", true)
  | 5 => ("SiteChoice$Town", "metres", "[[J", true)
  | 6 => ("SiteChoice$Town", "x", "[J", true)
  | 7 => ("SiteChoice$Town", "y", "[J", true)
  | 8 => ("SiteChoice$Town", "costs", "[J", true)
  | 9 => ("SiteChoice$Town", "rooms", "[J", true)
  | 10 => ("SiteChoice$Town", "loudness", "[J", true)
  | _ => ("SiteChoice$Town", "isBarred", "[Z", true)
def t_To : Nat → FieldType := fun k => match k with
  | 0 => .int
  | 1 => .int
  | 2 => .long
  | 3 => .array .long
  | 4 => .array .long
  | 5 => .array (.array .long)
  | 6 => .array .long
  | 7 => .array .long
  | 8 => .array .long
  | 9 => .array .long
  | 10 => .array .long
  | _ => .array .boolean
set_option maxRecDepth 100000 in
theorem nm_To : ∀ a, a < 12 → ∀ b, b < 12 → a ≠ b → (T_To a).2.1 ≠ (T_To b).2.1 := by decide +kernel
set_option maxRecDepth 100000 in
theorem ty_To : ∀ k, k < 12 → parseFieldDescriptor (T_To k).2.2.1 = some (t_To k) := by decide +kernel
set_option maxRecDepth 100000 in
theorem la_To : ∀ w ∈ u_ws "SiteChoice$Town" T_To 12, w ∈ g_tbl := by decide +kernel
def T_Se : u_T := fun k => match k with
  | 0 => ("SiteChoice$Search", "districts", "I", false)
  | 1 => ("SiteChoice$Search", "places", "I", false)
  | 2 => ("SiteChoice$Search", "needs", "[J", true)
  | 3 => ("SiteChoice$Search", "rooms", "[J", true)
  | 4 => ("SiteChoice$Search", "reaches", "[[J", true)
  | 5 => ("SiteChoice$Search", "mayBeOpen", "[Z", true)
  | 6 => ("SiteChoice$Search", "setCosts", "[J", true)
  | 7 => ("SiteChoice$Search", "leastRest", "[J", true)
  | 8 => ("SiteChoice$Search", "roomLeft", "[J", true)
  | 9 => ("SiteChoice$Search", "given", "[I", true)
  | 10 => ("SiteChoice$Search", "bestGiven", "[I", true)
  | 11 => ("SiteChoice$Search", "bestSum", "J", false)
  | 12 => ("SiteChoice$Search", "usable", "I", false)
  | _ => ("SiteChoice$Search", "firstWillDo", "Z", false)
def t_Se : Nat → FieldType := fun k => match k with
  | 0 => .int
  | 1 => .int
  | 2 => .array .long
  | 3 => .array .long
  | 4 => .array (.array .long)
  | 5 => .array .boolean
  | 6 => .array .long
  | 7 => .array .long
  | 8 => .array .long
  | 9 => .array .int
  | 10 => .array .int
  | 11 => .long
  | 12 => .int
  | _ => .boolean
set_option maxRecDepth 100000 in
theorem nm_Se : ∀ a, a < 14 → ∀ b, b < 14 → a ≠ b → (T_Se a).2.1 ≠ (T_Se b).2.1 := by decide +kernel
set_option maxRecDepth 100000 in
theorem ty_Se : ∀ k, k < 14 → parseFieldDescriptor (T_Se k).2.2.1 = some (t_Se k) := by decide +kernel
set_option maxRecDepth 100000 in
theorem la_Se : ∀ w ∈ u_ws "SiteChoice$Search" T_Se 14, w ∈ g_tbl := by decide +kernel
def T_He : u_T := fun k => match k with
  | 0 => ("SiteChoice$HeldPlan", "isThere", "Z", false)
  | 1 => ("SiteChoice$HeldPlan", "total", "J", false)
  | _ => ("SiteChoice$HeldPlan", "given", "[I", true)
def t_He : Nat → FieldType := fun k => match k with
  | 0 => .boolean
  | 1 => .long
  | _ => .array .int
set_option maxRecDepth 100000 in
theorem nm_He : ∀ a, a < 3 → ∀ b, b < 3 → a ≠ b → (T_He a).2.1 ≠ (T_He b).2.1 := by decide +kernel
set_option maxRecDepth 100000 in
theorem ty_He : ∀ k, k < 3 → parseFieldDescriptor (T_He k).2.2.1 = some (t_He k) := by decide +kernel
set_option maxRecDepth 100000 in
theorem la_He : ∀ w ∈ u_ws "SiteChoice$HeldPlan" T_He 3, w ∈ g_tbl := by decide +kernel
def T_Un : u_T := fun k => match k with
  | 0 => ("SiteChoice$Unserved", "count", "I", false)
  | _ => ("SiteChoice$Unserved", "members", "[I", true)
def t_Un : Nat → FieldType := fun k => match k with
  | 0 => .int
  | _ => .array .int
set_option maxRecDepth 100000 in
theorem nm_Un : ∀ a, a < 2 → ∀ b, b < 2 → a ≠ b → (T_Un a).2.1 ≠ (T_Un b).2.1 := by decide +kernel
set_option maxRecDepth 100000 in
theorem ty_Un : ∀ k, k < 2 → parseFieldDescriptor (T_Un k).2.2.1 = some (t_Un k) := by decide +kernel
set_option maxRecDepth 100000 in
theorem la_Un : ∀ w ∈ u_ws "SiteChoice$Unserved" T_Un 2, w ∈ g_tbl := by decide +kernel
def T_Ca : u_T := fun k => match k with
  | 0 => ("SiteChoice$Calendar", "heldYears", "I", false)
  | 1 => ("SiteChoice$Calendar", "heldSets", "[I", true)
  | 2 => ("SiteChoice$Calendar", "sums", "[[J", true)
  | _ => ("SiteChoice$Calendar", "onward", "[[J", true)
def t_Ca : Nat → FieldType := fun k => match k with
  | 0 => .int
  | 1 => .array .int
  | 2 => .array (.array .long)
  | _ => .array (.array .long)
set_option maxRecDepth 100000 in
theorem nm_Ca : ∀ a, a < 4 → ∀ b, b < 4 → a ≠ b → (T_Ca a).2.1 ≠ (T_Ca b).2.1 := by decide +kernel
set_option maxRecDepth 100000 in
theorem ty_Ca : ∀ k, k < 4 → parseFieldDescriptor (T_Ca k).2.2.1 = some (t_Ca k) := by decide +kernel
set_option maxRecDepth 100000 in
theorem la_Ca : ∀ w ∈ u_ws "SiteChoice$Calendar" T_Ca 4, w ∈ g_tbl := by decide +kernel
def T_Si : u_T := fun k => match k with
  | 0 => ("SiteChoice", "town", "LSiteChoice$Town;", true)
  | 1 => ("SiteChoice", "search", "LSiteChoice$Search;", true)
  | 2 => ("SiteChoice", "held", "LSiteChoice$HeldPlan;", true)
  | 3 => ("SiteChoice", "unserved", "LSiteChoice$Unserved;", true)
  | 4 => ("SiteChoice", "calendar", "LSiteChoice$Calendar;", true)
  | _ => ("SiteChoice", "isProven", "Z", false)
def t_Si : Nat → FieldType := fun k => match k with
  | 0 => .object "SiteChoice$Town"
  | 1 => .object "SiteChoice$Search"
  | 2 => .object "SiteChoice$HeldPlan"
  | 3 => .object "SiteChoice$Unserved"
  | 4 => .object "SiteChoice$Calendar"
  | _ => .boolean
set_option maxRecDepth 100000 in
theorem nm_Si : ∀ a, a < 6 → ∀ b, b < 6 → a ≠ b → (T_Si a).2.1 ≠ (T_Si b).2.1 := by decide +kernel
set_option maxRecDepth 100000 in
theorem ty_Si : ∀ k, k < 6 → parseFieldDescriptor (T_Si k).2.2.1 = some (t_Si k) := by decide +kernel
set_option maxRecDepth 100000 in
theorem la_Si : ∀ w ∈ u_ws "SiteChoice" T_Si 6, w ∈ g_tbl := by decide +kernel
def T_Mo : u_T := fun k => match k with
  | 0 => ("SiteChoiceModel", "districts", "I", false)
  | 1 => ("SiteChoiceModel", "places", "I", false)
  | 2 => ("SiteChoiceModel", "needs", "[J", true)
  | 3 => ("SiteChoiceModel", "mosts", "[J", true)
  | 4 => ("SiteChoiceModel", "xs", "[J", true)
  | 5 => ("SiteChoiceModel", "ys", "[J", true)
  | 6 => ("SiteChoiceModel", "costs", "[J", true)
  | 7 => ("SiteChoiceModel", "rooms", "[J", true)
  | 8 => ("SiteChoiceModel", "noises", "[J", true)
  | 9 => ("SiteChoiceModel", "barred", "[Z", true)
  | 10 => ("SiteChoiceModel", "walks", "[J", true)
  | 11 => ("SiteChoiceModel", "budget", "J", false)
  | 12 => ("SiteChoiceModel", "isHeld", "Z", false)
  | 13 => ("SiteChoiceModel", "held", "[I", true)
  | 14 => ("SiteChoiceModel", "heldSum", "J", false)
  | 15 => ("SiteChoiceModel", "isProved", "Z", false)
  | 16 => ("SiteChoiceModel", "clashSet", "I", false)
  | 17 => ("SiteChoiceModel", "yearCount", "I", false)
  | 18 => ("SiteChoiceModel", "yearSets", "[I", true)
  | 19 => ("SiteChoiceModel", "trial", "[I", true)
  | 20 => ("SiteChoiceModel", "asked", "[J", true)
  | 21 => ("SiteChoiceModel", "best", "[I", true)
  | 22 => ("SiteChoiceModel", "given", "[J", true)
  | 23 => ("SiteChoiceModel", "served", "[J", true)
  | _ => ("SiteChoiceModel", "rest", "[J", true)
def t_Mo : Nat → FieldType := fun k => match k with
  | 0 => .int
  | 1 => .int
  | 2 => .array .long
  | 3 => .array .long
  | 4 => .array .long
  | 5 => .array .long
  | 6 => .array .long
  | 7 => .array .long
  | 8 => .array .long
  | 9 => .array .boolean
  | 10 => .array .long
  | 11 => .long
  | 12 => .boolean
  | 13 => .array .int
  | 14 => .long
  | 15 => .boolean
  | 16 => .int
  | 17 => .int
  | 18 => .array .int
  | 19 => .array .int
  | 20 => .array .long
  | 21 => .array .int
  | 22 => .array .long
  | 23 => .array .long
  | _ => .array .long
set_option maxRecDepth 100000 in
theorem nm_Mo : ∀ a, a < 25 → ∀ b, b < 25 → a ≠ b → (T_Mo a).2.1 ≠ (T_Mo b).2.1 := by decide +kernel
set_option maxRecDepth 100000 in
theorem ty_Mo : ∀ k, k < 25 → parseFieldDescriptor (T_Mo k).2.2.1 = some (t_Mo k) := by decide +kernel
set_option maxRecDepth 100000 in
theorem la_Mo : ∀ w ∈ u_ws "SiteChoiceModel" T_Mo 25, w ∈ g_tbl := by decide +kernel
abbrev SC : sx_S := ([("SiteChoice$Town", T_To, 12), ("SiteChoice$Search", T_Se, 14), ("SiteChoice$HeldPlan", T_He, 3), ("SiteChoice$Unserved", T_Un, 2), ("SiteChoice$Calendar", T_Ca, 4), ("SiteChoice", T_Si, 6), ("SiteChoiceModel", T_Mo, 25)], fun c => match c with
  | 0 => [0, 0, 1, 3, 3, 3, 3, 3, 3, 3, 3, 3]
  | 1 => [0, 0, 3, 3, 3, 3, 3, 3, 3, 3, 3, 1, 0, 2]
  | 2 => [2, 1, 3]
  | 3 => [0, 3]
  | 4 => [0, 3, 3, 3]
  | 5 => [3, 3, 3, 3, 3, 2]
  | _ => [0, 0, 3, 3, 3, 3, 3, 3, 3, 3, 3, 1, 2, 3, 1, 2, 0, 0, 3, 3, 3, 3, 3, 3, 3], [.int, .boolean, .long, .array .long])
abbrev c_Si_init : ByteArray := prog_1_method_1_code
def y_Si_init : MethodName := ⟨"SiteChoice", "<init>", "()V"⟩
def w_Si_init : List Cond := .code y_Si_init c_Si_init 1 none :: g_tbl
abbrev c_Si_district : ByteArray := prog_1_method_2_code
def y_Si_district : MethodName := ⟨"SiteChoice", "district", "(J)I"⟩
def w_Si_district : List Cond := .code y_Si_district c_Si_district 3 (some .int) :: g_tbl
abbrev c_Si_place : ByteArray := prog_1_method_3_code
def y_Si_place : MethodName := ⟨"SiteChoice", "place", "(JJJJ)I"⟩
def w_Si_place : List Cond := .code y_Si_place c_Si_place 9 (some .int) :: g_tbl
abbrev c_Si_walk : ByteArray := prog_1_method_4_code
def y_Si_walk : MethodName := ⟨"SiteChoice", "walk", "(IIJ)Z"⟩
def w_Si_walk : List Cond := .code y_Si_walk c_Si_walk 5 (some .boolean) :: g_tbl
abbrev c_Si_bar : ByteArray := prog_1_method_5_code
def y_Si_bar : MethodName := ⟨"SiteChoice", "bar", "(I)Z"⟩
def w_Si_bar : List Cond := .code y_Si_bar c_Si_bar 2 (some .boolean) :: g_tbl
abbrev c_Si_noise : ByteArray := prog_1_method_6_code
def y_Si_noise : MethodName := ⟨"SiteChoice", "noise", "(IJ)Z"⟩
def w_Si_noise : List Cond := .code y_Si_noise c_Si_noise 4 (some .boolean) :: g_tbl
abbrev c_Si_budget : ByteArray := prog_1_method_7_code
def y_Si_budget : MethodName := ⟨"SiteChoice", "budget", "(J)Z"⟩
def w_Si_budget : List Cond := .code y_Si_budget c_Si_budget 3 (some .boolean) :: g_tbl
abbrev c_Si_fair : ByteArray := prog_1_method_8_code
def y_Si_fair : MethodName := ⟨"SiteChoice", "fair", "(IJ)Z"⟩
def w_Si_fair : List Cond := .code y_Si_fair c_Si_fair 4 (some .boolean) :: g_tbl
abbrev c_Si_ways : ByteArray := prog_1_method_9_code
def y_Si_ways : MethodName := ⟨"SiteChoice", "ways", "()J"⟩
def w_Si_ways : List Cond := .code y_Si_ways c_Si_ways 1 (some .long) :: g_tbl
abbrev c_Si_run : ByteArray := prog_1_method_10_code
def y_Si_run : MethodName := ⟨"SiteChoice", "run", "(J)I"⟩
def w_Si_run : List Cond := .code y_Si_run c_Si_run 5 (some .int) :: g_tbl
abbrev c_Si_chosen : ByteArray := prog_1_method_11_code
def y_Si_chosen : MethodName := ⟨"SiteChoice", "chosen", "(I)Z"⟩
def w_Si_chosen : List Cond := .code y_Si_chosen c_Si_chosen 2 (some .boolean) :: g_tbl
abbrev c_Si_of : ByteArray := prog_1_method_12_code
def y_Si_of : MethodName := ⟨"SiteChoice", "of", "(I)I"⟩
def w_Si_of : List Cond := .code y_Si_of c_Si_of 2 (some .int) :: g_tbl
abbrev c_Si_sum : ByteArray := prog_1_method_13_code
def y_Si_sum : MethodName := ⟨"SiteChoice", "sum", "()J"⟩
def w_Si_sum : List Cond := .code y_Si_sum c_Si_sum 1 (some .long) :: g_tbl
abbrev c_Si_bound : ByteArray := prog_1_method_14_code
def y_Si_bound : MethodName := ⟨"SiteChoice", "bound", "()J"⟩
def w_Si_bound : List Cond := .code y_Si_bound c_Si_bound 1 (some .long) :: g_tbl
abbrev c_Si_proved : ByteArray := prog_1_method_15_code
def y_Si_proved : MethodName := ⟨"SiteChoice", "proved", "()Z"⟩
def w_Si_proved : List Cond := .code y_Si_proved c_Si_proved 1 (some .boolean) :: g_tbl
abbrev c_Si_clash : ByteArray := prog_1_method_16_code
def y_Si_clash : MethodName := ⟨"SiteChoice", "clash", "(I)I"⟩
def w_Si_clash : List Cond := .code y_Si_clash c_Si_clash 2 (some .int) :: g_tbl
abbrev c_Si_gain : ByteArray := prog_1_method_17_code
def y_Si_gain : MethodName := ⟨"SiteChoice", "gain", "(I)J"⟩
def w_Si_gain : List Cond := .code y_Si_gain c_Si_gain 4 (some .long) :: g_tbl
abbrev c_Si_improve : ByteArray := prog_1_method_18_code
def y_Si_improve : MethodName := ⟨"SiteChoice", "improve", "(I)I"⟩
def w_Si_improve : List Cond := .code y_Si_improve c_Si_improve 4 (some .int) :: g_tbl
abbrev c_Si_years : ByteArray := prog_1_method_19_code
def y_Si_years : MethodName := ⟨"SiteChoice", "years", "(I)I"⟩
def w_Si_years : List Cond := .code y_Si_years c_Si_years 2 (some .int) :: g_tbl
abbrev c_Si_open : ByteArray := prog_1_method_20_code
def y_Si_open : MethodName := ⟨"SiteChoice", "open", "(II)I"⟩
def w_Si_open : List Cond := .code y_Si_open c_Si_open 3 (some .int) :: g_tbl
abbrev c_Si_isWithin : ByteArray := prog_1_method_21_code
def y_Si_isWithin : MethodName := ⟨"SiteChoice", "isWithin", "(JJJ)Z"⟩
def w_Si_isWithin : List Cond := .code y_Si_isWithin c_Si_isWithin 6 (some .boolean) :: g_tbl
abbrev c_Mo_init : ByteArray := prog_8_method_1_code
def y_Mo_init : MethodName := ⟨"SiteChoiceModel", "<init>", "()V"⟩
def w_Mo_init : List Cond := .code y_Mo_init c_Mo_init 2 none :: g_tbl
abbrev c_Mo_isDistrict : ByteArray := prog_8_method_3_code
def y_Mo_isDistrict : MethodName := ⟨"SiteChoiceModel", "isDistrict", "(I)Z"⟩
def w_Mo_isDistrict : List Cond := .code y_Mo_isDistrict c_Mo_isDistrict 2 (some .boolean) :: g_tbl
abbrev c_Mo_isPlace : ByteArray := prog_8_method_4_code
def y_Mo_isPlace : MethodName := ⟨"SiteChoiceModel", "isPlace", "(I)Z"⟩
def w_Mo_isPlace : List Cond := .code y_Mo_isPlace c_Mo_isPlace 2 (some .boolean) :: g_tbl
abbrev c_Mo_isIn : ByteArray := prog_8_method_5_code
def y_Mo_isIn : MethodName := ⟨"SiteChoiceModel", "isIn", "(JJJ)Z"⟩
def w_Mo_isIn : List Cond := .code y_Mo_isIn c_Mo_isIn 6 (some .boolean) :: g_tbl
abbrev c_Mo_district : ByteArray := prog_8_method_6_code
def y_Mo_district : MethodName := ⟨"SiteChoiceModel", "district", "(J)I"⟩
def w_Mo_district : List Cond := .code y_Mo_district c_Mo_district 3 (some .int) :: g_tbl
abbrev c_Mo_place : ByteArray := prog_8_method_7_code
def y_Mo_place : MethodName := ⟨"SiteChoiceModel", "place", "(JJJJ)I"⟩
def w_Mo_place : List Cond := .code y_Mo_place c_Mo_place 9 (some .int) :: g_tbl
abbrev c_Mo_walk : ByteArray := prog_8_method_8_code
def y_Mo_walk : MethodName := ⟨"SiteChoiceModel", "walk", "(IIJ)Z"⟩
def w_Mo_walk : List Cond := .code y_Mo_walk c_Mo_walk 5 (some .boolean) :: g_tbl
abbrev c_Mo_bar : ByteArray := prog_8_method_9_code
def y_Mo_bar : MethodName := ⟨"SiteChoiceModel", "bar", "(I)Z"⟩
def w_Mo_bar : List Cond := .code y_Mo_bar c_Mo_bar 2 (some .boolean) :: g_tbl
abbrev c_Mo_noise : ByteArray := prog_8_method_10_code
def y_Mo_noise : MethodName := ⟨"SiteChoiceModel", "noise", "(IJ)Z"⟩
def w_Mo_noise : List Cond := .code y_Mo_noise c_Mo_noise 4 (some .boolean) :: g_tbl
abbrev c_Mo_budget : ByteArray := prog_8_method_11_code
def y_Mo_budget : MethodName := ⟨"SiteChoiceModel", "budget", "(J)Z"⟩
def w_Mo_budget : List Cond := .code y_Mo_budget c_Mo_budget 3 (some .boolean) :: g_tbl
abbrev c_Mo_fair : ByteArray := prog_8_method_12_code
def y_Mo_fair : MethodName := ⟨"SiteChoiceModel", "fair", "(IJ)Z"⟩
def w_Mo_fair : List Cond := .code y_Mo_fair c_Mo_fair 4 (some .boolean) :: g_tbl
abbrev c_Mo_has : ByteArray := prog_8_method_13_code
def y_Mo_has : MethodName := ⟨"SiteChoiceModel", "has", "(II)Z"⟩
def w_Mo_has : List Cond := .code y_Mo_has c_Mo_has 2 (some .boolean) :: g_tbl
abbrev c_Mo_canGo : ByteArray := prog_8_method_14_code
def y_Mo_canGo : MethodName := ⟨"SiteChoiceModel", "canGo", "(II)Z"⟩
def w_Mo_canGo : List Cond := .code y_Mo_canGo c_Mo_canGo 5 (some .boolean) :: g_tbl
abbrev c_Mo_mayBeOpen : ByteArray := prog_8_method_15_code
def y_Mo_mayBeOpen : MethodName := ⟨"SiteChoiceModel", "mayBeOpen", "(II)Z"⟩
def w_Mo_mayBeOpen : List Cond := .code y_Mo_mayBeOpen c_Mo_mayBeOpen 11 (some .boolean) :: g_tbl
abbrev c_Mo_askFor : ByteArray := prog_8_method_16_code
def y_Mo_askFor : MethodName := ⟨"SiteChoiceModel", "askFor", "(II)V"⟩
def w_Mo_askFor : List Cond := .code y_Mo_askFor c_Mo_askFor 5 none :: g_tbl
abbrev c_Mo_placesOf : ByteArray := prog_8_method_17_code
def y_Mo_placesOf : MethodName := ⟨"SiteChoiceModel", "placesOf", "([I)I"⟩
def w_Mo_placesOf : List Cond := .code y_Mo_placesOf c_Mo_placesOf 4 (some .int) :: g_tbl
abbrev c_Mo_fits : ByteArray := prog_8_method_18_code
def y_Mo_fits : MethodName := ⟨"SiteChoiceModel", "fits", "([II)Z"⟩
def w_Mo_fits : List Cond := .code y_Mo_fits c_Mo_fits 7 (some .boolean) :: g_tbl
abbrev c_Mo_isPlan : ByteArray := prog_8_method_19_code
def y_Mo_isPlan : MethodName := ⟨"SiteChoiceModel", "isPlan", "([II)Z"⟩
def w_Mo_isPlan : List Cond := .code y_Mo_isPlan c_Mo_isPlan 4 (some .boolean) :: g_tbl
abbrev c_Mo_sumOf : ByteArray := prog_8_method_20_code
def y_Mo_sumOf : MethodName := ⟨"SiteChoiceModel", "sumOf", "([I)J"⟩
def w_Mo_sumOf : List Cond := .code y_Mo_sumOf c_Mo_sumOf 5 (some .long) :: g_tbl
abbrev c_Mo_next : ByteArray := prog_8_method_21_code
def y_Mo_next : MethodName := ⟨"SiteChoiceModel", "next", "()Z"⟩
def w_Mo_next : List Cond := .code y_Mo_next c_Mo_next 2 (some .boolean) :: g_tbl
abbrev c_Mo_search : ByteArray := prog_8_method_22_code
def y_Mo_search : MethodName := ⟨"SiteChoiceModel", "search", "(IZ)J"⟩
def w_Mo_search : List Cond := .code y_Mo_search c_Mo_search 9 (some .long) :: g_tbl
abbrev c_Mo_count : ByteArray := prog_8_method_23_code
def y_Mo_count : MethodName := ⟨"SiteChoiceModel", "count", "()I"⟩
def w_Mo_count : List Cond := .code y_Mo_count c_Mo_count 3 (some .int) :: g_tbl
abbrev c_Mo_all : ByteArray := prog_8_method_24_code
def y_Mo_all : MethodName := ⟨"SiteChoiceModel", "all", "()I"⟩
def w_Mo_all : List Cond := .code y_Mo_all c_Mo_all 1 (some .int) :: g_tbl
abbrev c_Mo_ways : ByteArray := prog_8_method_25_code
def y_Mo_ways : MethodName := ⟨"SiteChoiceModel", "ways", "()J"⟩
def w_Mo_ways : List Cond := .code y_Mo_ways c_Mo_ways 7 (some .long) :: g_tbl
abbrev c_Mo_size : ByteArray := prog_8_method_26_code
def y_Mo_size : MethodName := ⟨"SiteChoiceModel", "size", "(I)I"⟩
def w_Mo_size : List Cond := .code y_Mo_size c_Mo_size 3 (some .int) :: g_tbl
abbrev c_Mo_isBefore : ByteArray := prog_8_method_27_code
def y_Mo_isBefore : MethodName := ⟨"SiteChoiceModel", "isBefore", "(II)Z"⟩
def w_Mo_isBefore : List Cond := .code y_Mo_isBefore c_Mo_isBefore 3 (some .boolean) :: g_tbl
abbrev c_Mo_findClash : ByteArray := prog_8_method_28_code
def y_Mo_findClash : MethodName := ⟨"SiteChoiceModel", "findClash", "()V"⟩
def w_Mo_findClash : List Cond := .code y_Mo_findClash c_Mo_findClash 3 none :: g_tbl
abbrev c_Mo_run : ByteArray := prog_8_method_29_code
def y_Mo_run : MethodName := ⟨"SiteChoiceModel", "run", "(J)I"⟩
def w_Mo_run : List Cond := .code y_Mo_run c_Mo_run 6 (some .int) :: g_tbl
abbrev c_Mo_chosen : ByteArray := prog_8_method_30_code
def y_Mo_chosen : MethodName := ⟨"SiteChoiceModel", "chosen", "(I)Z"⟩
def w_Mo_chosen : List Cond := .code y_Mo_chosen c_Mo_chosen 4 (some .boolean) :: g_tbl
abbrev c_Mo_of : ByteArray := prog_8_method_31_code
def y_Mo_of : MethodName := ⟨"SiteChoiceModel", "of", "(I)I"⟩
def w_Mo_of : List Cond := .code y_Mo_of c_Mo_of 2 (some .int) :: g_tbl
abbrev c_Mo_sum : ByteArray := prog_8_method_32_code
def y_Mo_sum : MethodName := ⟨"SiteChoiceModel", "sum", "()J"⟩
def w_Mo_sum : List Cond := .code y_Mo_sum c_Mo_sum 1 (some .long) :: g_tbl
abbrev c_Mo_bound : ByteArray := prog_8_method_33_code
def y_Mo_bound : MethodName := ⟨"SiteChoiceModel", "bound", "()J"⟩
def w_Mo_bound : List Cond := .code y_Mo_bound c_Mo_bound 9 (some .long) :: g_tbl
abbrev c_Mo_proved : ByteArray := prog_8_method_34_code
def y_Mo_proved : MethodName := ⟨"SiteChoiceModel", "proved", "()Z"⟩
def w_Mo_proved : List Cond := .code y_Mo_proved c_Mo_proved 1 (some .boolean) :: g_tbl
abbrev c_Mo_clash : ByteArray := prog_8_method_35_code
def y_Mo_clash : MethodName := ⟨"SiteChoiceModel", "clash", "(I)I"⟩
def w_Mo_clash : List Cond := .code y_Mo_clash c_Mo_clash 4 (some .int) :: g_tbl
abbrev c_Mo_gain : ByteArray := prog_8_method_36_code
def y_Mo_gain : MethodName := ⟨"SiteChoiceModel", "gain", "(I)J"⟩
def w_Mo_gain : List Cond := .code y_Mo_gain c_Mo_gain 4 (some .long) :: g_tbl
abbrev c_Mo_exchange : ByteArray := prog_8_method_37_code
def y_Mo_exchange : MethodName := ⟨"SiteChoiceModel", "exchange", "()Z"⟩
def w_Mo_exchange : List Cond := .code y_Mo_exchange c_Mo_exchange 6 (some .boolean) :: g_tbl
abbrev c_Mo_improve : ByteArray := prog_8_method_38_code
def y_Mo_improve : MethodName := ⟨"SiteChoiceModel", "improve", "(I)I"⟩
def w_Mo_improve : List Cond := .code y_Mo_improve c_Mo_improve 3 (some .int) :: g_tbl
abbrev c_Mo_reckon : ByteArray := prog_8_method_39_code
def y_Mo_reckon : MethodName := ⟨"SiteChoiceModel", "reckon", "(I)V"⟩
def w_Mo_reckon : List Cond := .code y_Mo_reckon c_Mo_reckon 8 none :: g_tbl
abbrev c_Mo_yearCost : ByteArray := prog_8_method_40_code
def y_Mo_yearCost : MethodName := ⟨"SiteChoiceModel", "yearCost", "(III)J"⟩
def w_Mo_yearCost : List Cond := .code y_Mo_yearCost c_Mo_yearCost 7 (some .long) :: g_tbl
abbrev c_Mo_years : ByteArray := prog_8_method_41_code
def y_Mo_years : MethodName := ⟨"SiteChoiceModel", "years", "(I)I"⟩
def w_Mo_years : List Cond := .code y_Mo_years c_Mo_years 9 (some .int) :: g_tbl
abbrev c_Mo_open : ByteArray := prog_8_method_42_code
def y_Mo_open : MethodName := ⟨"SiteChoiceModel", "open", "(II)I"⟩
def w_Mo_open : List Cond := .code y_Mo_open c_Mo_open 3 (some .int) :: g_tbl
abbrev c_Ca_init : ByteArray := prog_2_method_1_code
def y_Ca_init : MethodName := ⟨"SiteChoice$Calendar", "<init>", "()V"⟩
def w_Ca_init : List Cond := .code y_Ca_init c_Ca_init 1 none :: g_tbl
abbrev c_Ca_isOpenIn : ByteArray := prog_2_method_2_code
def y_Ca_isOpenIn : MethodName := ⟨"SiteChoice$Calendar", "isOpenIn", "(II)I"⟩
def w_Ca_isOpenIn : List Cond := .code y_Ca_isOpenIn c_Ca_isOpenIn 3 (some .int) :: g_tbl
abbrev c_Ca_lookOver : ByteArray := prog_2_method_3_code
def y_Ca_lookOver : MethodName := ⟨"SiteChoice$Calendar", "lookOver", "(ILSiteChoice$Town;LSiteChoice$Search;)J"⟩
def w_Ca_lookOver : List Cond := .code y_Ca_lookOver c_Ca_lookOver 6 (some .long) :: g_tbl
abbrev c_Ca_reckonSums : ByteArray := prog_2_method_4_code
def y_Ca_reckonSums : MethodName := ⟨"SiteChoice$Calendar", "reckonSums", "(IILSiteChoice$Town;LSiteChoice$Search;)V"⟩
def w_Ca_reckonSums : List Cond := .code y_Ca_reckonSums c_Ca_reckonSums 7 none :: g_tbl
abbrev c_Ca_reckonOnward : ByteArray := prog_2_method_5_code
def y_Ca_reckonOnward : MethodName := ⟨"SiteChoice$Calendar", "reckonOnward", "(IILSiteChoice$Search;)V"⟩
def w_Ca_reckonOnward : List Cond := .code y_Ca_reckonOnward c_Ca_reckonOnward 6 none :: g_tbl
abbrev c_Ca_withNext : ByteArray := prog_2_method_6_code
def y_Ca_withNext : MethodName := ⟨"SiteChoice$Calendar", "withNext", "(IIILSiteChoice$Search;)J"⟩
def w_Ca_withNext : List Cond := .code y_Ca_withNext c_Ca_withNext 6 (some .long) :: g_tbl
abbrev c_Ca_cheapestNext : ByteArray := prog_2_method_7_code
def y_Ca_cheapestNext : MethodName := ⟨"SiteChoice$Calendar", "cheapestNext", "(IIILSiteChoice$Search;)I"⟩
def w_Ca_cheapestNext : List Cond := .code y_Ca_cheapestNext c_Ca_cheapestNext 11 (some .int) :: g_tbl
abbrev c_Ca_hold : ByteArray := prog_2_method_8_code
def y_Ca_hold : MethodName := ⟨"SiteChoice$Calendar", "hold", "(IILSiteChoice$Search;)V"⟩
def w_Ca_hold : List Cond := .code y_Ca_hold c_Ca_hold 7 none :: g_tbl
abbrev c_He_init : ByteArray := prog_3_method_1_code
def y_He_init : MethodName := ⟨"SiteChoice$HeldPlan", "<init>", "()V"⟩
def w_He_init : List Cond := .code y_He_init c_He_init 1 none :: g_tbl
abbrev c_He_drop : ByteArray := prog_3_method_2_code
def y_He_drop : MethodName := ⟨"SiteChoice$HeldPlan", "drop", "()V"⟩
def w_He_drop : List Cond := .code y_He_drop c_He_drop 1 none :: g_tbl
abbrev c_He_keep : ByteArray := prog_3_method_3_code
def y_He_keep : MethodName := ⟨"SiteChoice$HeldPlan", "keep", "([IJ)V"⟩
def w_He_keep : List Cond := .code y_He_keep c_He_keep 4 none :: g_tbl
abbrev c_He_placeFor : ByteArray := prog_3_method_4_code
def y_He_placeFor : MethodName := ⟨"SiteChoice$HeldPlan", "placeFor", "(I)I"⟩
def w_He_placeFor : List Cond := .code y_He_placeFor c_He_placeFor 2 (some .int) :: g_tbl
abbrev c_He_gives : ByteArray := prog_3_method_5_code
def y_He_gives : MethodName := ⟨"SiteChoice$HeldPlan", "gives", "(I)Z"⟩
def w_He_gives : List Cond := .code y_He_gives c_He_gives 3 (some .boolean) :: g_tbl
abbrev c_He_reckonTotal : ByteArray := prog_3_method_6_code
def y_He_reckonTotal : MethodName := ⟨"SiteChoice$HeldPlan", "reckonTotal", "(LSiteChoice$Town;)V"⟩
def w_He_reckonTotal : List Cond := .code y_He_reckonTotal c_He_reckonTotal 4 none :: g_tbl
abbrev c_He_exchangeFirst : ByteArray := prog_3_method_7_code
def y_He_exchangeFirst : MethodName := ⟨"SiteChoice$HeldPlan", "exchangeFirst", "(LSiteChoice$Town;LSiteChoice$Search;)Z"⟩
def w_He_exchangeFirst : List Cond := .code y_He_exchangeFirst c_He_exchangeFirst 5 (some .boolean) :: g_tbl
abbrev c_He_exchange : ByteArray := prog_3_method_8_code
def y_He_exchange : MethodName := ⟨"SiteChoice$HeldPlan", "exchange", "(IILSiteChoice$Town;LSiteChoice$Search;)Z"⟩
def w_He_exchange : List Cond := .code y_He_exchange c_He_exchange 8 (some .boolean) :: g_tbl
abbrev c_Se_init : ByteArray := prog_4_method_1_code
def y_Se_init : MethodName := ⟨"SiteChoice$Search", "<init>", "()V"⟩
def w_Se_init : List Cond := .code y_Se_init c_Se_init 1 none :: g_tbl
abbrev c_Se_load : ByteArray := prog_4_method_2_code
def y_Se_load : MethodName := ⟨"SiteChoice$Search", "load", "(LSiteChoice$Town;I)V"⟩
def w_Se_load : List Cond := .code y_Se_load c_Se_load 5 none :: g_tbl
abbrev c_Se_loadNeedsOfYear : ByteArray := prog_4_method_3_code
def y_Se_loadNeedsOfYear : MethodName := ⟨"SiteChoice$Search", "loadNeedsOfYear", "(LSiteChoice$Town;I)V"⟩
def w_Se_loadNeedsOfYear : List Cond := .code y_Se_loadNeedsOfYear c_Se_loadNeedsOfYear 4 none :: g_tbl
abbrev c_Se_loadNeedsOfSet : ByteArray := prog_4_method_4_code
def y_Se_loadNeedsOfSet : MethodName := ⟨"SiteChoice$Search", "loadNeedsOfSet", "(LSiteChoice$Town;I)V"⟩
def w_Se_loadNeedsOfSet : List Cond := .code y_Se_loadNeedsOfSet c_Se_loadNeedsOfSet 4 none :: g_tbl
abbrev c_Se_loadSets : ByteArray := prog_4_method_5_code
def y_Se_loadSets : MethodName := ⟨"SiteChoice$Search", "loadSets", "(LSiteChoice$Town;I)V"⟩
def w_Se_loadSets : List Cond := .code y_Se_loadSets c_Se_loadSets 9 none :: g_tbl
abbrev c_Se_isAnyTooNear : ByteArray := prog_4_method_6_code
def y_Se_isAnyTooNear : MethodName := ⟨"SiteChoice$Search", "isAnyTooNear", "(LSiteChoice$Town;II)Z"⟩
def w_Se_isAnyTooNear : List Cond := .code y_Se_isAnyTooNear c_Se_isAnyTooNear 4 (some .boolean) :: g_tbl
abbrev c_Se_leastSum : ByteArray := prog_4_method_7_code
def y_Se_leastSum : MethodName := ⟨"SiteChoice$Search", "leastSum", "(I)J"⟩
def w_Se_leastSum : List Cond := .code y_Se_leastSum c_Se_leastSum 2 (some .long) :: g_tbl
abbrev c_Se_hasPlan : ByteArray := prog_4_method_8_code
def y_Se_hasPlan : MethodName := ⟨"SiteChoice$Search", "hasPlan", "()Z"⟩
def w_Se_hasPlan : List Cond := .code y_Se_hasPlan c_Se_hasPlan 3 (some .boolean) :: g_tbl
abbrev c_Se_leastThinkable : ByteArray := prog_4_method_9_code
def y_Se_leastThinkable : MethodName := ⟨"SiteChoice$Search", "leastThinkable", "()J"⟩
def w_Se_leastThinkable : List Cond := .code y_Se_leastThinkable c_Se_leastThinkable 1 (some .long) :: g_tbl
abbrev c_Se_reckonLeastRest : ByteArray := prog_4_method_10_code
def y_Se_reckonLeastRest : MethodName := ⟨"SiteChoice$Search", "reckonLeastRest", "()Z"⟩
def w_Se_reckonLeastRest : List Cond := .code y_Se_reckonLeastRest c_Se_reckonLeastRest 4 (some .boolean) :: g_tbl
abbrev c_Se_nearestUsable : ByteArray := prog_4_method_11_code
def y_Se_nearestUsable : MethodName := ⟨"SiteChoice$Search", "nearestUsable", "(I)J"⟩
def w_Se_nearestUsable : List Cond := .code y_Se_nearestUsable c_Se_nearestUsable 7 (some .long) :: g_tbl
abbrev c_Se_isUsable : ByteArray := prog_4_method_12_code
def y_Se_isUsable : MethodName := ⟨"SiteChoice$Search", "isUsable", "(I)Z"⟩
def w_Se_isUsable : List Cond := .code y_Se_isUsable c_Se_isUsable 2 (some .boolean) :: g_tbl
abbrev c_Se_give : ByteArray := prog_4_method_13_code
def y_Se_give : MethodName := ⟨"SiteChoice$Search", "give", "(IIJ)V"⟩
def w_Se_give : List Cond := .code y_Se_give c_Se_give 6 none :: g_tbl
abbrev c_Se_giveEachPlace : ByteArray := prog_4_method_14_code
def y_Se_giveEachPlace : MethodName := ⟨"SiteChoice$Search", "giveEachPlace", "(IIJ)V"⟩
def w_Se_giveEachPlace : List Cond := .code y_Se_giveEachPlace c_Se_giveEachPlace 7 none :: g_tbl
abbrev c_Se_nextWithNeed : ByteArray := prog_4_method_15_code
def y_Se_nextWithNeed : MethodName := ⟨"SiteChoice$Search", "nextWithNeed", "(I)I"⟩
def w_Se_nextWithNeed : List Cond := .code y_Se_nextWithNeed c_Se_nextWithNeed 3 (some .int) :: g_tbl
abbrev c_Se_isHopeless : ByteArray := prog_4_method_16_code
def y_Se_isHopeless : MethodName := ⟨"SiteChoice$Search", "isHopeless", "(J)Z"⟩
def w_Se_isHopeless : List Cond := .code y_Se_isHopeless c_Se_isHopeless 3 (some .boolean) :: g_tbl
abbrev c_Se_canTake : ByteArray := prog_4_method_17_code
def y_Se_canTake : MethodName := ⟨"SiteChoice$Search", "canTake", "(II)Z"⟩
def w_Se_canTake : List Cond := .code y_Se_canTake c_Se_canTake 3 (some .boolean) :: g_tbl
abbrev c_Se_keepIfBetter : ByteArray := prog_4_method_18_code
def y_Se_keepIfBetter : MethodName := ⟨"SiteChoice$Search", "keepIfBetter", "(J)V"⟩
def w_Se_keepIfBetter : List Cond := .code y_Se_keepIfBetter c_Se_keepIfBetter 3 none :: g_tbl
abbrev c_Se_isPlan : ByteArray := prog_4_method_19_code
def y_Se_isPlan : MethodName := ⟨"SiteChoice$Search", "isPlan", "([I)Z"⟩
def w_Se_isPlan : List Cond := .code y_Se_isPlan c_Se_isPlan 5 (some .boolean) :: g_tbl
abbrev c_To_init : ByteArray := prog_5_method_1_code
def y_To_init : MethodName := ⟨"SiteChoice$Town", "<init>", "()V"⟩
def w_To_init : List Cond := .code y_To_init c_To_init 1 none :: g_tbl
abbrev c_To_hasDistrict : ByteArray := prog_5_method_2_code
def y_To_hasDistrict : MethodName := ⟨"SiteChoice$Town", "hasDistrict", "(I)Z"⟩
def w_To_hasDistrict : List Cond := .code y_To_hasDistrict c_To_hasDistrict 2 (some .boolean) :: g_tbl
abbrev c_To_hasPlace : ByteArray := prog_5_method_3_code
def y_To_hasPlace : MethodName := ⟨"SiteChoice$Town", "hasPlace", "(I)Z"⟩
def w_To_hasPlace : List Cond := .code y_To_hasPlace c_To_hasPlace 2 (some .boolean) :: g_tbl
abbrev c_To_addDistrict : ByteArray := prog_5_method_4_code
def y_To_addDistrict : MethodName := ⟨"SiteChoice$Town", "addDistrict", "(J)I"⟩
def w_To_addDistrict : List Cond := .code y_To_addDistrict c_To_addDistrict 4 (some .int) :: g_tbl
abbrev c_To_addPlace : ByteArray := prog_5_method_5_code
def y_To_addPlace : MethodName := ⟨"SiteChoice$Town", "addPlace", "(JJJJ)I"⟩
def w_To_addPlace : List Cond := .code y_To_addPlace c_To_addPlace 10 (some .int) :: g_tbl
abbrev c_To_reach : ByteArray := prog_5_method_6_code
def y_To_reach : MethodName := ⟨"SiteChoice$Town", "reach", "(II)J"⟩
def w_To_reach : List Cond := .code y_To_reach c_To_reach 5 (some .long) :: g_tbl
abbrev c_To_countWays : ByteArray := prog_5_method_7_code
def y_To_countWays : MethodName := ⟨"SiteChoice$Town", "countWays", "()J"⟩
def w_To_countWays : List Cond := .code y_To_countWays c_To_countWays 4 (some .long) :: g_tbl
abbrev c_To_countReached : ByteArray := prog_5_method_8_code
def y_To_countReached : MethodName := ⟨"SiteChoice$Town", "countReached", "(I)J"⟩
def w_To_countReached : List Cond := .code y_To_countReached c_To_countReached 5 (some .long) :: g_tbl
abbrev c_To_isTooNear : ByteArray := prog_5_method_9_code
def y_To_isTooNear : MethodName := ⟨"SiteChoice$Town", "isTooNear", "(II)Z"⟩
def w_To_isTooNear : List Cond := .code y_To_isTooNear c_To_isTooNear 9 (some .boolean) :: g_tbl
abbrev c_Un_init : ByteArray := prog_6_method_1_code
def y_Un_init : MethodName := ⟨"SiteChoice$Unserved", "<init>", "()V"⟩
def w_Un_init : List Cond := .code y_Un_init c_Un_init 1 none :: g_tbl
abbrev c_Un_isIn : ByteArray := prog_6_method_2_code
def y_Un_isIn : MethodName := ⟨"SiteChoice$Unserved", "isIn", "(III)Z"⟩
def w_Un_isIn : List Cond := .code y_Un_isIn c_Un_isIn 3 (some .boolean) :: g_tbl
abbrev c_Un_forget : ByteArray := prog_6_method_3_code
def y_Un_forget : MethodName := ⟨"SiteChoice$Unserved", "forget", "()V"⟩
def w_Un_forget : List Cond := .code y_Un_forget c_Un_forget 1 none :: g_tbl
abbrev c_Un_member : ByteArray := prog_6_method_4_code
def y_Un_member : MethodName := ⟨"SiteChoice$Unserved", "member", "(I)I"⟩
def w_Un_member : List Cond := .code y_Un_member c_Un_member 2 (some .int) :: g_tbl
abbrev c_Un_find : ByteArray := prog_6_method_5_code
def y_Un_find : MethodName := ⟨"SiteChoice$Unserved", "find", "(LSiteChoice$Town;LSiteChoice$Search;)V"⟩
def w_Un_find : List Cond := .code y_Un_find c_Un_find 6 none :: g_tbl
abbrev c_Un_list : ByteArray := prog_6_method_6_code
def y_Un_list : MethodName := ⟨"SiteChoice$Unserved", "list", "(II)V"⟩
def w_Un_list : List Cond := .code y_Un_list c_Un_list 4 none :: g_tbl
abbrev c_Ob_init : ByteArray := object_method_1_code
def y_Ob_init : MethodName := ⟨"java/lang/Object", "<init>", "()V"⟩
def w_Ob_init : List Cond := .code y_Ob_init c_Ob_init 1 none :: g_tbl
abbrev c_In_bitCount : ByteArray := prog_9_method_49_code
def y_In_bitCount : MethodName := ⟨"java/lang/Integer", "bitCount", "(I)I"⟩
def w_In_bitCount : List Cond := .code y_In_bitCount c_In_bitCount 1 (some .int) :: g_tbl
abbrev c_Ma_max : ByteArray := prog_10_method_66_code
def y_Ma_max : MethodName := ⟨"java/lang/Math", "max", "(JJ)J"⟩
def w_Ma_max : List Cond := .code y_Ma_max c_Ma_max 4 (some .long) :: g_tbl
abbrev c_Ma_min : ByteArray := prog_10_method_69_code
def y_Ma_min : MethodName := ⟨"java/lang/Math", "min", "(II)I"⟩
def w_Ma_min : List Cond := .code y_Ma_min c_Ma_min 2 (some .int) :: g_tbl
abbrev c_Ar_fill_ints : ByteArray := prog_12_method_103_code
def y_Ar_fill_ints : MethodName := ⟨"java/util/Arrays", "fill", "([II)V"⟩
def w_Ar_fill_ints : List Cond := .code y_Ar_fill_ints c_Ar_fill_ints 4 none :: g_tbl
abbrev c_Ar_fill_longs : ByteArray := prog_12_method_101_code
def y_Ar_fill_longs : MethodName := ⟨"java/util/Arrays", "fill", "([JJ)V"⟩
def w_Ar_fill_longs : List Cond := .code y_Ar_fill_longs c_Ar_fill_longs 5 none :: g_tbl
end
section
theorem d_Si_init_0 : decode c_Si_init 0 = .ok (.aload_n 0, 1) := by decide +kernel
theorem d_Si_init_1 : decode c_Si_init 1 = .ok (.invokespecial 3, 3) := by decide +kernel
theorem d_Si_init_4 : decode c_Si_init 4 = .ok (.aload_n 0, 1) := by decide +kernel
theorem d_Si_init_5 : decode c_Si_init 5 = .ok (.new 9, 3) := by decide +kernel
theorem d_Si_init_8 : decode c_Si_init 8 = .ok (.dup, 1) := by decide +kernel
theorem d_Si_init_9 : decode c_Si_init 9 = .ok (.invokespecial 11, 3) := by decide +kernel
theorem d_Si_init_12 : decode c_Si_init 12 = .ok (.putfield 12, 3) := by decide +kernel
theorem d_Si_init_15 : decode c_Si_init 15 = .ok (.aload_n 0, 1) := by decide +kernel
theorem d_Si_init_16 : decode c_Si_init 16 = .ok (.new 16, 3) := by decide +kernel
theorem d_Si_init_19 : decode c_Si_init 19 = .ok (.dup, 1) := by decide +kernel
theorem d_Si_init_20 : decode c_Si_init 20 = .ok (.invokespecial 18, 3) := by decide +kernel
theorem d_Si_init_23 : decode c_Si_init 23 = .ok (.putfield 19, 3) := by decide +kernel
theorem d_Si_init_26 : decode c_Si_init 26 = .ok (.aload_n 0, 1) := by decide +kernel
theorem d_Si_init_27 : decode c_Si_init 27 = .ok (.new 23, 3) := by decide +kernel
theorem d_Si_init_30 : decode c_Si_init 30 = .ok (.dup, 1) := by decide +kernel
theorem d_Si_init_31 : decode c_Si_init 31 = .ok (.invokespecial 25, 3) := by decide +kernel
theorem d_Si_init_34 : decode c_Si_init 34 = .ok (.putfield 26, 3) := by decide +kernel
theorem d_Si_init_37 : decode c_Si_init 37 = .ok (.aload_n 0, 1) := by decide +kernel
theorem d_Si_init_38 : decode c_Si_init 38 = .ok (.new 30, 3) := by decide +kernel
theorem d_Si_init_41 : decode c_Si_init 41 = .ok (.dup, 1) := by decide +kernel
theorem d_Si_init_42 : decode c_Si_init 42 = .ok (.invokespecial 32, 3) := by decide +kernel
theorem d_Si_init_45 : decode c_Si_init 45 = .ok (.putfield 33, 3) := by decide +kernel
theorem d_Si_init_48 : decode c_Si_init 48 = .ok (.aload_n 0, 1) := by decide +kernel
theorem d_Si_init_49 : decode c_Si_init 49 = .ok (.new 37, 3) := by decide +kernel
theorem d_Si_init_52 : decode c_Si_init 52 = .ok (.dup, 1) := by decide +kernel
theorem d_Si_init_53 : decode c_Si_init 53 = .ok (.invokespecial 39, 3) := by decide +kernel
theorem d_Si_init_56 : decode c_Si_init 56 = .ok (.putfield 40, 3) := by decide +kernel
theorem d_Si_init_59 : decode c_Si_init 59 = .ok (.aload_n 0, 1) := by decide +kernel
theorem d_Si_init_60 : decode c_Si_init 60 = .ok (.iconst 0, 1) := by decide +kernel
theorem d_Si_init_61 : decode c_Si_init 61 = .ok (.putfield 44, 3) := by decide +kernel
theorem d_Si_init_64 : decode c_Si_init 64 = .ok (.return_, 1) := by decide +kernel
theorem d_Si_district_0 : decode c_Si_district 0 = .ok (.aload_n 0, 1) := by decide +kernel
theorem d_Si_district_1 : decode c_Si_district 1 = .ok (.getfield 12, 3) := by decide +kernel
theorem d_Si_district_4 : decode c_Si_district 4 = .ok (.getfield 48, 3) := by decide +kernel
theorem d_Si_district_7 : decode c_Si_district 7 = .ok (.bipush 6, 2) := by decide +kernel
theorem d_Si_district_9 : decode c_Si_district 9 = .ok (.if_icmp .ge 14, 3) := by decide +kernel
theorem d_Si_district_12 : decode c_Si_district 12 = .ok (.lload_n 1, 1) := by decide +kernel
theorem d_Si_district_13 : decode c_Si_district 13 = .ok (.lconst 0, 1) := by decide +kernel
theorem d_Si_district_14 : decode c_Si_district 14 = .ok (.ldc2_w 52, 3) := by decide +kernel
theorem d_Si_district_17 : decode c_Si_district 17 = .ok (.invokestatic 54, 3) := by decide +kernel
theorem d_Si_district_20 : decode c_Si_district 20 = .ok (.ifCond .ne 5, 3) := by decide +kernel
theorem d_Si_district_23 : decode c_Si_district 23 = .ok (.iconst (-1), 1) := by decide +kernel
theorem d_Si_district_24 : decode c_Si_district 24 = .ok (.ireturn, 1) := by decide +kernel
theorem d_Si_district_25 : decode c_Si_district 25 = .ok (.aload_n 0, 1) := by decide +kernel
theorem d_Si_district_26 : decode c_Si_district 26 = .ok (.iconst 0, 1) := by decide +kernel
theorem d_Si_district_27 : decode c_Si_district 27 = .ok (.putfield 44, 3) := by decide +kernel
theorem d_Si_district_30 : decode c_Si_district 30 = .ok (.aload_n 0, 1) := by decide +kernel
theorem d_Si_district_31 : decode c_Si_district 31 = .ok (.getfield 12, 3) := by decide +kernel
theorem d_Si_district_34 : decode c_Si_district 34 = .ok (.lload_n 1, 1) := by decide +kernel
theorem d_Si_district_35 : decode c_Si_district 35 = .ok (.invokevirtual 58, 3) := by decide +kernel
theorem d_Si_district_38 : decode c_Si_district 38 = .ok (.ireturn, 1) := by decide +kernel
theorem d_Si_place_0 : decode c_Si_place 0 = .ok (.aload_n 0, 1) := by decide +kernel
theorem d_Si_place_1 : decode c_Si_place 1 = .ok (.getfield 12, 3) := by decide +kernel
theorem d_Si_place_4 : decode c_Si_place 4 = .ok (.getfield 62, 3) := by decide +kernel
theorem d_Si_place_7 : decode c_Si_place 7 = .ok (.iconst 5, 1) := by decide +kernel
theorem d_Si_place_8 : decode c_Si_place 8 = .ok (.if_icmp .ge 53, 3) := by decide +kernel
theorem d_Si_place_11 : decode c_Si_place 11 = .ok (.lload_n 1, 1) := by decide +kernel
theorem d_Si_place_12 : decode c_Si_place 12 = .ok (.ldc2_w 65, 3) := by decide +kernel
theorem d_Si_place_15 : decode c_Si_place 15 = .ok (.ldc2_w 67, 3) := by decide +kernel
theorem d_Si_place_18 : decode c_Si_place 18 = .ok (.invokestatic 54, 3) := by decide +kernel
theorem d_Si_place_21 : decode c_Si_place 21 = .ok (.ifCond .eq 40, 3) := by decide +kernel
theorem d_Si_place_24 : decode c_Si_place 24 = .ok (.lload_n 3, 1) := by decide +kernel
theorem d_Si_place_25 : decode c_Si_place 25 = .ok (.ldc2_w 65, 3) := by decide +kernel
theorem d_Si_place_28 : decode c_Si_place 28 = .ok (.ldc2_w 67, 3) := by decide +kernel
theorem d_Si_place_31 : decode c_Si_place 31 = .ok (.invokestatic 54, 3) := by decide +kernel
theorem d_Si_place_34 : decode c_Si_place 34 = .ok (.ifCond .eq 27, 3) := by decide +kernel
theorem d_Si_place_37 : decode c_Si_place 37 = .ok (.lload 5, 2) := by decide +kernel
theorem d_Si_place_39 : decode c_Si_place 39 = .ok (.lconst 0, 1) := by decide +kernel
theorem d_Si_place_40 : decode c_Si_place 40 = .ok (.ldc2_w 69, 3) := by decide +kernel
theorem d_Si_place_43 : decode c_Si_place 43 = .ok (.invokestatic 54, 3) := by decide +kernel
theorem d_Si_place_46 : decode c_Si_place 46 = .ok (.ifCond .eq 15, 3) := by decide +kernel
theorem d_Si_place_49 : decode c_Si_place 49 = .ok (.lload 7, 2) := by decide +kernel
theorem d_Si_place_51 : decode c_Si_place 51 = .ok (.lconst 0, 1) := by decide +kernel
theorem d_Si_place_52 : decode c_Si_place 52 = .ok (.ldc2_w 67, 3) := by decide +kernel
theorem d_Si_place_55 : decode c_Si_place 55 = .ok (.invokestatic 54, 3) := by decide +kernel
theorem d_Si_place_58 : decode c_Si_place 58 = .ok (.ifCond .ne 5, 3) := by decide +kernel
theorem d_Si_place_61 : decode c_Si_place 61 = .ok (.iconst (-1), 1) := by decide +kernel
theorem d_Si_place_62 : decode c_Si_place 62 = .ok (.ireturn, 1) := by decide +kernel
theorem d_Si_place_63 : decode c_Si_place 63 = .ok (.aload_n 0, 1) := by decide +kernel
theorem d_Si_place_64 : decode c_Si_place 64 = .ok (.iconst 0, 1) := by decide +kernel
theorem d_Si_place_65 : decode c_Si_place 65 = .ok (.putfield 44, 3) := by decide +kernel
theorem d_Si_place_68 : decode c_Si_place 68 = .ok (.aload_n 0, 1) := by decide +kernel
theorem d_Si_place_69 : decode c_Si_place 69 = .ok (.getfield 12, 3) := by decide +kernel
theorem d_Si_place_72 : decode c_Si_place 72 = .ok (.lload_n 1, 1) := by decide +kernel
theorem d_Si_place_73 : decode c_Si_place 73 = .ok (.lload_n 3, 1) := by decide +kernel
theorem d_Si_place_74 : decode c_Si_place 74 = .ok (.lload 5, 2) := by decide +kernel
theorem d_Si_place_76 : decode c_Si_place 76 = .ok (.lload 7, 2) := by decide +kernel
theorem d_Si_place_78 : decode c_Si_place 78 = .ok (.invokevirtual 71, 3) := by decide +kernel
theorem d_Si_place_81 : decode c_Si_place 81 = .ok (.ireturn, 1) := by decide +kernel
theorem d_Si_walk_0 : decode c_Si_walk 0 = .ok (.aload_n 0, 1) := by decide +kernel
theorem d_Si_walk_1 : decode c_Si_walk 1 = .ok (.getfield 12, 3) := by decide +kernel
theorem d_Si_walk_4 : decode c_Si_walk 4 = .ok (.iload_n 1, 1) := by decide +kernel
theorem d_Si_walk_5 : decode c_Si_walk 5 = .ok (.invokevirtual 75, 3) := by decide +kernel
theorem d_Si_walk_8 : decode c_Si_walk 8 = .ok (.ifCond .eq 25, 3) := by decide +kernel
theorem d_Si_walk_11 : decode c_Si_walk 11 = .ok (.aload_n 0, 1) := by decide +kernel
theorem d_Si_walk_12 : decode c_Si_walk 12 = .ok (.getfield 12, 3) := by decide +kernel
theorem d_Si_walk_15 : decode c_Si_walk 15 = .ok (.iload_n 2, 1) := by decide +kernel
theorem d_Si_walk_16 : decode c_Si_walk 16 = .ok (.invokevirtual 79, 3) := by decide +kernel
theorem d_Si_walk_19 : decode c_Si_walk 19 = .ok (.ifCond .eq 14, 3) := by decide +kernel
theorem d_Si_walk_22 : decode c_Si_walk 22 = .ok (.lload_n 3, 1) := by decide +kernel
theorem d_Si_walk_23 : decode c_Si_walk 23 = .ok (.lconst 0, 1) := by decide +kernel
theorem d_Si_walk_24 : decode c_Si_walk 24 = .ok (.ldc2_w 82, 3) := by decide +kernel
theorem d_Si_walk_27 : decode c_Si_walk 27 = .ok (.invokestatic 54, 3) := by decide +kernel
theorem d_Si_walk_30 : decode c_Si_walk 30 = .ok (.ifCond .ne 5, 3) := by decide +kernel
theorem d_Si_walk_33 : decode c_Si_walk 33 = .ok (.iconst 0, 1) := by decide +kernel
theorem d_Si_walk_34 : decode c_Si_walk 34 = .ok (.ireturn, 1) := by decide +kernel
theorem d_Si_walk_35 : decode c_Si_walk 35 = .ok (.aload_n 0, 1) := by decide +kernel
theorem d_Si_walk_36 : decode c_Si_walk 36 = .ok (.getfield 12, 3) := by decide +kernel
theorem d_Si_walk_39 : decode c_Si_walk 39 = .ok (.getfield 84, 3) := by decide +kernel
theorem d_Si_walk_42 : decode c_Si_walk 42 = .ok (.iload_n 1, 1) := by decide +kernel
theorem d_Si_walk_43 : decode c_Si_walk 43 = .ok (.aaload, 1) := by decide +kernel
theorem d_Si_walk_44 : decode c_Si_walk 44 = .ok (.iload_n 2, 1) := by decide +kernel
theorem d_Si_walk_45 : decode c_Si_walk 45 = .ok (.lload_n 3, 1) := by decide +kernel
theorem d_Si_walk_46 : decode c_Si_walk 46 = .ok (.lastore, 1) := by decide +kernel
theorem d_Si_walk_47 : decode c_Si_walk 47 = .ok (.aload_n 0, 1) := by decide +kernel
theorem d_Si_walk_48 : decode c_Si_walk 48 = .ok (.iconst 0, 1) := by decide +kernel
theorem d_Si_walk_49 : decode c_Si_walk 49 = .ok (.putfield 44, 3) := by decide +kernel
theorem d_Si_walk_52 : decode c_Si_walk 52 = .ok (.iconst 1, 1) := by decide +kernel
theorem d_Si_walk_53 : decode c_Si_walk 53 = .ok (.ireturn, 1) := by decide +kernel
theorem d_Si_bar_0 : decode c_Si_bar 0 = .ok (.aload_n 0, 1) := by decide +kernel
theorem d_Si_bar_1 : decode c_Si_bar 1 = .ok (.getfield 12, 3) := by decide +kernel
theorem d_Si_bar_4 : decode c_Si_bar 4 = .ok (.iload_n 1, 1) := by decide +kernel
theorem d_Si_bar_5 : decode c_Si_bar 5 = .ok (.invokevirtual 79, 3) := by decide +kernel
theorem d_Si_bar_8 : decode c_Si_bar 8 = .ok (.ifCond .eq 15, 3) := by decide +kernel
theorem d_Si_bar_11 : decode c_Si_bar 11 = .ok (.aload_n 0, 1) := by decide +kernel
theorem d_Si_bar_12 : decode c_Si_bar 12 = .ok (.getfield 12, 3) := by decide +kernel
theorem d_Si_bar_15 : decode c_Si_bar 15 = .ok (.getfield 88, 3) := by decide +kernel
theorem d_Si_bar_18 : decode c_Si_bar 18 = .ok (.iload_n 1, 1) := by decide +kernel
theorem d_Si_bar_19 : decode c_Si_bar 19 = .ok (.baload, 1) := by decide +kernel
theorem d_Si_bar_20 : decode c_Si_bar 20 = .ok (.ifCond .eq 5, 3) := by decide +kernel
theorem d_Si_bar_23 : decode c_Si_bar 23 = .ok (.iconst 0, 1) := by decide +kernel
theorem d_Si_bar_24 : decode c_Si_bar 24 = .ok (.ireturn, 1) := by decide +kernel
theorem d_Si_bar_25 : decode c_Si_bar 25 = .ok (.aload_n 0, 1) := by decide +kernel
theorem d_Si_bar_26 : decode c_Si_bar 26 = .ok (.getfield 12, 3) := by decide +kernel
theorem d_Si_bar_29 : decode c_Si_bar 29 = .ok (.getfield 88, 3) := by decide +kernel
theorem d_Si_bar_32 : decode c_Si_bar 32 = .ok (.iload_n 1, 1) := by decide +kernel
theorem d_Si_bar_33 : decode c_Si_bar 33 = .ok (.iconst 1, 1) := by decide +kernel
theorem d_Si_bar_34 : decode c_Si_bar 34 = .ok (.bastore, 1) := by decide +kernel
theorem d_Si_bar_35 : decode c_Si_bar 35 = .ok (.aload_n 0, 1) := by decide +kernel
theorem d_Si_bar_36 : decode c_Si_bar 36 = .ok (.iconst 0, 1) := by decide +kernel
theorem d_Si_bar_37 : decode c_Si_bar 37 = .ok (.putfield 44, 3) := by decide +kernel
theorem d_Si_bar_40 : decode c_Si_bar 40 = .ok (.iconst 1, 1) := by decide +kernel
theorem d_Si_bar_41 : decode c_Si_bar 41 = .ok (.ireturn, 1) := by decide +kernel
theorem d_Si_noise_0 : decode c_Si_noise 0 = .ok (.aload_n 0, 1) := by decide +kernel
theorem d_Si_noise_1 : decode c_Si_noise 1 = .ok (.getfield 12, 3) := by decide +kernel
theorem d_Si_noise_4 : decode c_Si_noise 4 = .ok (.iload_n 1, 1) := by decide +kernel
theorem d_Si_noise_5 : decode c_Si_noise 5 = .ok (.invokevirtual 79, 3) := by decide +kernel
theorem d_Si_noise_8 : decode c_Si_noise 8 = .ok (.ifCond .eq 14, 3) := by decide +kernel
theorem d_Si_noise_11 : decode c_Si_noise 11 = .ok (.lload_n 2, 1) := by decide +kernel
theorem d_Si_noise_12 : decode c_Si_noise 12 = .ok (.lconst 0, 1) := by decide +kernel
theorem d_Si_noise_13 : decode c_Si_noise 13 = .ok (.ldc2_w 92, 3) := by decide +kernel
theorem d_Si_noise_16 : decode c_Si_noise 16 = .ok (.invokestatic 54, 3) := by decide +kernel
theorem d_Si_noise_19 : decode c_Si_noise 19 = .ok (.ifCond .ne 5, 3) := by decide +kernel
theorem d_Si_noise_22 : decode c_Si_noise 22 = .ok (.iconst 0, 1) := by decide +kernel
theorem d_Si_noise_23 : decode c_Si_noise 23 = .ok (.ireturn, 1) := by decide +kernel
theorem d_Si_noise_24 : decode c_Si_noise 24 = .ok (.aload_n 0, 1) := by decide +kernel
theorem d_Si_noise_25 : decode c_Si_noise 25 = .ok (.getfield 12, 3) := by decide +kernel
theorem d_Si_noise_28 : decode c_Si_noise 28 = .ok (.getfield 94, 3) := by decide +kernel
theorem d_Si_noise_31 : decode c_Si_noise 31 = .ok (.iload_n 1, 1) := by decide +kernel
theorem d_Si_noise_32 : decode c_Si_noise 32 = .ok (.lload_n 2, 1) := by decide +kernel
theorem d_Si_noise_33 : decode c_Si_noise 33 = .ok (.lastore, 1) := by decide +kernel
theorem d_Si_noise_34 : decode c_Si_noise 34 = .ok (.aload_n 0, 1) := by decide +kernel
theorem d_Si_noise_35 : decode c_Si_noise 35 = .ok (.iconst 0, 1) := by decide +kernel
theorem d_Si_noise_36 : decode c_Si_noise 36 = .ok (.putfield 44, 3) := by decide +kernel
theorem d_Si_noise_39 : decode c_Si_noise 39 = .ok (.iconst 1, 1) := by decide +kernel
theorem d_Si_noise_40 : decode c_Si_noise 40 = .ok (.ireturn, 1) := by decide +kernel
theorem d_Si_budget_0 : decode c_Si_budget 0 = .ok (.lload_n 1, 1) := by decide +kernel
theorem d_Si_budget_1 : decode c_Si_budget 1 = .ok (.lconst 0, 1) := by decide +kernel
theorem d_Si_budget_2 : decode c_Si_budget 2 = .ok (.ldc2_w 98, 3) := by decide +kernel
theorem d_Si_budget_5 : decode c_Si_budget 5 = .ok (.invokestatic 54, 3) := by decide +kernel
theorem d_Si_budget_8 : decode c_Si_budget 8 = .ok (.ifCond .ne 5, 3) := by decide +kernel
theorem d_Si_budget_11 : decode c_Si_budget 11 = .ok (.iconst 0, 1) := by decide +kernel
theorem d_Si_budget_12 : decode c_Si_budget 12 = .ok (.ireturn, 1) := by decide +kernel
theorem d_Si_budget_13 : decode c_Si_budget 13 = .ok (.aload_n 0, 1) := by decide +kernel
theorem d_Si_budget_14 : decode c_Si_budget 14 = .ok (.getfield 12, 3) := by decide +kernel
theorem d_Si_budget_17 : decode c_Si_budget 17 = .ok (.lload_n 1, 1) := by decide +kernel
theorem d_Si_budget_18 : decode c_Si_budget 18 = .ok (.putfield 100, 3) := by decide +kernel
theorem d_Si_budget_21 : decode c_Si_budget 21 = .ok (.aload_n 0, 1) := by decide +kernel
theorem d_Si_budget_22 : decode c_Si_budget 22 = .ok (.iconst 0, 1) := by decide +kernel
theorem d_Si_budget_23 : decode c_Si_budget 23 = .ok (.putfield 44, 3) := by decide +kernel
theorem d_Si_budget_26 : decode c_Si_budget 26 = .ok (.iconst 1, 1) := by decide +kernel
theorem d_Si_budget_27 : decode c_Si_budget 27 = .ok (.ireturn, 1) := by decide +kernel
theorem d_Si_fair_0 : decode c_Si_fair 0 = .ok (.aload_n 0, 1) := by decide +kernel
theorem d_Si_fair_1 : decode c_Si_fair 1 = .ok (.getfield 12, 3) := by decide +kernel
theorem d_Si_fair_4 : decode c_Si_fair 4 = .ok (.iload_n 1, 1) := by decide +kernel
theorem d_Si_fair_5 : decode c_Si_fair 5 = .ok (.invokevirtual 75, 3) := by decide +kernel
theorem d_Si_fair_8 : decode c_Si_fair 8 = .ok (.ifCond .eq 14, 3) := by decide +kernel
theorem d_Si_fair_11 : decode c_Si_fair 11 = .ok (.lload_n 2, 1) := by decide +kernel
theorem d_Si_fair_12 : decode c_Si_fair 12 = .ok (.lconst 0, 1) := by decide +kernel
theorem d_Si_fair_13 : decode c_Si_fair 13 = .ok (.ldc2_w 82, 3) := by decide +kernel
theorem d_Si_fair_16 : decode c_Si_fair 16 = .ok (.invokestatic 54, 3) := by decide +kernel
theorem d_Si_fair_19 : decode c_Si_fair 19 = .ok (.ifCond .ne 5, 3) := by decide +kernel
theorem d_Si_fair_22 : decode c_Si_fair 22 = .ok (.iconst 0, 1) := by decide +kernel
theorem d_Si_fair_23 : decode c_Si_fair 23 = .ok (.ireturn, 1) := by decide +kernel
theorem d_Si_fair_24 : decode c_Si_fair 24 = .ok (.aload_n 0, 1) := by decide +kernel
theorem d_Si_fair_25 : decode c_Si_fair 25 = .ok (.getfield 12, 3) := by decide +kernel
theorem d_Si_fair_28 : decode c_Si_fair 28 = .ok (.getfield 104, 3) := by decide +kernel
theorem d_Si_fair_31 : decode c_Si_fair 31 = .ok (.iload_n 1, 1) := by decide +kernel
theorem d_Si_fair_32 : decode c_Si_fair 32 = .ok (.lload_n 2, 1) := by decide +kernel
theorem d_Si_fair_33 : decode c_Si_fair 33 = .ok (.lastore, 1) := by decide +kernel
theorem d_Si_fair_34 : decode c_Si_fair 34 = .ok (.aload_n 0, 1) := by decide +kernel
theorem d_Si_fair_35 : decode c_Si_fair 35 = .ok (.iconst 0, 1) := by decide +kernel
theorem d_Si_fair_36 : decode c_Si_fair 36 = .ok (.putfield 44, 3) := by decide +kernel
theorem d_Si_fair_39 : decode c_Si_fair 39 = .ok (.iconst 1, 1) := by decide +kernel
theorem d_Si_fair_40 : decode c_Si_fair 40 = .ok (.ireturn, 1) := by decide +kernel
theorem d_Si_ways_0 : decode c_Si_ways 0 = .ok (.aload_n 0, 1) := by decide +kernel
theorem d_Si_ways_1 : decode c_Si_ways 1 = .ok (.getfield 12, 3) := by decide +kernel
theorem d_Si_ways_4 : decode c_Si_ways 4 = .ok (.invokevirtual 107, 3) := by decide +kernel
theorem d_Si_ways_7 : decode c_Si_ways 7 = .ok (.lreturn, 1) := by decide +kernel
theorem d_Si_run_0 : decode c_Si_run 0 = .ok (.lload_n 1, 1) := by decide +kernel
theorem d_Si_run_1 : decode c_Si_run 1 = .ok (.lconst 0, 1) := by decide +kernel
theorem d_Si_run_2 : decode c_Si_run 2 = .ok (.lcmp, 1) := by decide +kernel
theorem d_Si_run_3 : decode c_Si_run 3 = .ok (.ifCond .ge 5, 3) := by decide +kernel
theorem d_Si_run_6 : decode c_Si_run 6 = .ok (.iconst (-1), 1) := by decide +kernel
theorem d_Si_run_7 : decode c_Si_run 7 = .ok (.ireturn, 1) := by decide +kernel
theorem d_Si_run_8 : decode c_Si_run 8 = .ok (.aload_n 0, 1) := by decide +kernel
theorem d_Si_run_9 : decode c_Si_run 9 = .ok (.getfield 26, 3) := by decide +kernel
theorem d_Si_run_12 : decode c_Si_run 12 = .ok (.invokevirtual 111, 3) := by decide +kernel
theorem d_Si_run_15 : decode c_Si_run 15 = .ok (.aload_n 0, 1) := by decide +kernel
theorem d_Si_run_16 : decode c_Si_run 16 = .ok (.getfield 33, 3) := by decide +kernel
theorem d_Si_run_19 : decode c_Si_run 19 = .ok (.invokevirtual 114, 3) := by decide +kernel
theorem d_Si_run_22 : decode c_Si_run 22 = .ok (.aload_n 0, 1) := by decide +kernel
theorem d_Si_run_23 : decode c_Si_run 23 = .ok (.iconst 0, 1) := by decide +kernel
theorem d_Si_run_24 : decode c_Si_run 24 = .ok (.putfield 44, 3) := by decide +kernel
theorem d_Si_run_27 : decode c_Si_run 27 = .ok (.aload_n 0, 1) := by decide +kernel
theorem d_Si_run_28 : decode c_Si_run 28 = .ok (.getfield 12, 3) := by decide +kernel
theorem d_Si_run_31 : decode c_Si_run 31 = .ok (.invokevirtual 107, 3) := by decide +kernel
theorem d_Si_run_34 : decode c_Si_run 34 = .ok (.lload_n 1, 1) := by decide +kernel
theorem d_Si_run_35 : decode c_Si_run 35 = .ok (.lcmp, 1) := by decide +kernel
theorem d_Si_run_36 : decode c_Si_run 36 = .ok (.ifCond .le 5, 3) := by decide +kernel
theorem d_Si_run_39 : decode c_Si_run 39 = .ok (.iconst 1, 1) := by decide +kernel
theorem d_Si_run_40 : decode c_Si_run 40 = .ok (.ireturn, 1) := by decide +kernel
theorem d_Si_run_41 : decode c_Si_run 41 = .ok (.aload_n 0, 1) := by decide +kernel
theorem d_Si_run_42 : decode c_Si_run 42 = .ok (.getfield 19, 3) := by decide +kernel
theorem d_Si_run_45 : decode c_Si_run 45 = .ok (.aload_n 0, 1) := by decide +kernel
theorem d_Si_run_46 : decode c_Si_run 46 = .ok (.getfield 12, 3) := by decide +kernel
theorem d_Si_run_49 : decode c_Si_run 49 = .ok (.iconst (-1), 1) := by decide +kernel
theorem d_Si_run_50 : decode c_Si_run 50 = .ok (.invokevirtual 117, 3) := by decide +kernel
theorem d_Si_run_53 : decode c_Si_run 53 = .ok (.aload_n 0, 1) := by decide +kernel
theorem d_Si_run_54 : decode c_Si_run 54 = .ok (.getfield 19, 3) := by decide +kernel
theorem d_Si_run_57 : decode c_Si_run 57 = .ok (.bipush 31, 2) := by decide +kernel
theorem d_Si_run_59 : decode c_Si_run 59 = .ok (.invokevirtual 121, 3) := by decide +kernel
theorem d_Si_run_62 : decode c_Si_run 62 = .ok (.lstore_n 3, 1) := by decide +kernel
theorem d_Si_run_63 : decode c_Si_run 63 = .ok (.lload_n 3, 1) := by decide +kernel
theorem d_Si_run_64 : decode c_Si_run 64 = .ok (.ldc2_w 125, 3) := by decide +kernel
theorem d_Si_run_67 : decode c_Si_run 67 = .ok (.lcmp, 1) := by decide +kernel
theorem d_Si_run_68 : decode c_Si_run 68 = .ok (.ifCond .ne 20, 3) := by decide +kernel
theorem d_Si_run_71 : decode c_Si_run 71 = .ok (.aload_n 0, 1) := by decide +kernel
theorem d_Si_run_72 : decode c_Si_run 72 = .ok (.getfield 33, 3) := by decide +kernel
theorem d_Si_run_75 : decode c_Si_run 75 = .ok (.aload_n 0, 1) := by decide +kernel
theorem d_Si_run_76 : decode c_Si_run 76 = .ok (.getfield 12, 3) := by decide +kernel
theorem d_Si_run_79 : decode c_Si_run 79 = .ok (.aload_n 0, 1) := by decide +kernel
theorem d_Si_run_80 : decode c_Si_run 80 = .ok (.getfield 19, 3) := by decide +kernel
theorem d_Si_run_83 : decode c_Si_run 83 = .ok (.invokevirtual 127, 3) := by decide +kernel
theorem d_Si_run_86 : decode c_Si_run 86 = .ok (.iconst 2, 1) := by decide +kernel
theorem d_Si_run_87 : decode c_Si_run 87 = .ok (.ireturn, 1) := by decide +kernel
theorem d_Si_run_88 : decode c_Si_run 88 = .ok (.aload_n 0, 1) := by decide +kernel
theorem d_Si_run_89 : decode c_Si_run 89 = .ok (.getfield 26, 3) := by decide +kernel
theorem d_Si_run_92 : decode c_Si_run 92 = .ok (.aload_n 0, 1) := by decide +kernel
theorem d_Si_run_93 : decode c_Si_run 93 = .ok (.getfield 19, 3) := by decide +kernel
theorem d_Si_run_96 : decode c_Si_run 96 = .ok (.getfield 131, 3) := by decide +kernel
theorem d_Si_run_99 : decode c_Si_run 99 = .ok (.lload_n 3, 1) := by decide +kernel
theorem d_Si_run_100 : decode c_Si_run 100 = .ok (.invokevirtual 135, 3) := by decide +kernel
theorem d_Si_run_103 : decode c_Si_run 103 = .ok (.aload_n 0, 1) := by decide +kernel
theorem d_Si_run_104 : decode c_Si_run 104 = .ok (.iconst 1, 1) := by decide +kernel
theorem d_Si_run_105 : decode c_Si_run 105 = .ok (.putfield 44, 3) := by decide +kernel
theorem d_Si_run_108 : decode c_Si_run 108 = .ok (.iconst 0, 1) := by decide +kernel
theorem d_Si_run_109 : decode c_Si_run 109 = .ok (.ireturn, 1) := by decide +kernel
theorem d_Si_chosen_0 : decode c_Si_chosen 0 = .ok (.aload_n 0, 1) := by decide +kernel
theorem d_Si_chosen_1 : decode c_Si_chosen 1 = .ok (.getfield 12, 3) := by decide +kernel
theorem d_Si_chosen_4 : decode c_Si_chosen 4 = .ok (.iload_n 1, 1) := by decide +kernel
theorem d_Si_chosen_5 : decode c_Si_chosen 5 = .ok (.invokevirtual 79, 3) := by decide +kernel
theorem d_Si_chosen_8 : decode c_Si_chosen 8 = .ok (.ifCond .eq 18, 3) := by decide +kernel
theorem d_Si_chosen_11 : decode c_Si_chosen 11 = .ok (.aload_n 0, 1) := by decide +kernel
theorem d_Si_chosen_12 : decode c_Si_chosen 12 = .ok (.getfield 26, 3) := by decide +kernel
theorem d_Si_chosen_15 : decode c_Si_chosen 15 = .ok (.iload_n 1, 1) := by decide +kernel
theorem d_Si_chosen_16 : decode c_Si_chosen 16 = .ok (.invokevirtual 139, 3) := by decide +kernel
theorem d_Si_chosen_19 : decode c_Si_chosen 19 = .ok (.ifCond .eq 7, 3) := by decide +kernel
theorem d_Si_chosen_22 : decode c_Si_chosen 22 = .ok (.iconst 1, 1) := by decide +kernel
theorem d_Si_chosen_23 : decode c_Si_chosen 23 = .ok (.goto 4, 3) := by decide +kernel
theorem d_Si_chosen_26 : decode c_Si_chosen 26 = .ok (.iconst 0, 1) := by decide +kernel
theorem d_Si_chosen_27 : decode c_Si_chosen 27 = .ok (.ireturn, 1) := by decide +kernel
theorem d_Si_of_0 : decode c_Si_of 0 = .ok (.aload_n 0, 1) := by decide +kernel
theorem d_Si_of_1 : decode c_Si_of 1 = .ok (.getfield 12, 3) := by decide +kernel
theorem d_Si_of_4 : decode c_Si_of 4 = .ok (.iload_n 1, 1) := by decide +kernel
theorem d_Si_of_5 : decode c_Si_of 5 = .ok (.invokevirtual 75, 3) := by decide +kernel
theorem d_Si_of_8 : decode c_Si_of 8 = .ok (.ifCond .eq 14, 3) := by decide +kernel
theorem d_Si_of_11 : decode c_Si_of 11 = .ok (.aload_n 0, 1) := by decide +kernel
theorem d_Si_of_12 : decode c_Si_of 12 = .ok (.getfield 26, 3) := by decide +kernel
theorem d_Si_of_15 : decode c_Si_of 15 = .ok (.iload_n 1, 1) := by decide +kernel
theorem d_Si_of_16 : decode c_Si_of 16 = .ok (.invokevirtual 142, 3) := by decide +kernel
theorem d_Si_of_19 : decode c_Si_of 19 = .ok (.goto 4, 3) := by decide +kernel
theorem d_Si_of_22 : decode c_Si_of 22 = .ok (.iconst (-1), 1) := by decide +kernel
theorem d_Si_of_23 : decode c_Si_of 23 = .ok (.ireturn, 1) := by decide +kernel
theorem d_Si_sum_0 : decode c_Si_sum 0 = .ok (.aload_n 0, 1) := by decide +kernel
theorem d_Si_sum_1 : decode c_Si_sum 1 = .ok (.getfield 26, 3) := by decide +kernel
theorem d_Si_sum_4 : decode c_Si_sum 4 = .ok (.getfield 146, 3) := by decide +kernel
theorem d_Si_sum_7 : decode c_Si_sum 7 = .ok (.ifCond .eq 13, 3) := by decide +kernel
theorem d_Si_sum_10 : decode c_Si_sum 10 = .ok (.aload_n 0, 1) := by decide +kernel
theorem d_Si_sum_11 : decode c_Si_sum 11 = .ok (.getfield 26, 3) := by decide +kernel
theorem d_Si_sum_14 : decode c_Si_sum 14 = .ok (.getfield 149, 3) := by decide +kernel
theorem d_Si_sum_17 : decode c_Si_sum 17 = .ok (.goto 6, 3) := by decide +kernel
theorem d_Si_sum_20 : decode c_Si_sum 20 = .ok (.ldc2_w 125, 3) := by decide +kernel
theorem d_Si_sum_23 : decode c_Si_sum 23 = .ok (.lreturn, 1) := by decide +kernel
theorem d_Si_bound_0 : decode c_Si_bound 0 = .ok (.aload_n 0, 1) := by decide +kernel
theorem d_Si_bound_1 : decode c_Si_bound 1 = .ok (.getfield 19, 3) := by decide +kernel
theorem d_Si_bound_4 : decode c_Si_bound 4 = .ok (.aload_n 0, 1) := by decide +kernel
theorem d_Si_bound_5 : decode c_Si_bound 5 = .ok (.getfield 12, 3) := by decide +kernel
theorem d_Si_bound_8 : decode c_Si_bound 8 = .ok (.iconst (-1), 1) := by decide +kernel
theorem d_Si_bound_9 : decode c_Si_bound 9 = .ok (.invokevirtual 117, 3) := by decide +kernel
theorem d_Si_bound_12 : decode c_Si_bound 12 = .ok (.aload_n 0, 1) := by decide +kernel
theorem d_Si_bound_13 : decode c_Si_bound 13 = .ok (.getfield 19, 3) := by decide +kernel
theorem d_Si_bound_16 : decode c_Si_bound 16 = .ok (.invokevirtual 152, 3) := by decide +kernel
theorem d_Si_bound_19 : decode c_Si_bound 19 = .ok (.lreturn, 1) := by decide +kernel
theorem d_Si_proved_0 : decode c_Si_proved 0 = .ok (.aload_n 0, 1) := by decide +kernel
theorem d_Si_proved_1 : decode c_Si_proved 1 = .ok (.getfield 44, 3) := by decide +kernel
theorem d_Si_proved_4 : decode c_Si_proved 4 = .ok (.ireturn, 1) := by decide +kernel
theorem d_Si_clash_0 : decode c_Si_clash 0 = .ok (.aload_n 0, 1) := by decide +kernel
theorem d_Si_clash_1 : decode c_Si_clash 1 = .ok (.getfield 33, 3) := by decide +kernel
theorem d_Si_clash_4 : decode c_Si_clash 4 = .ok (.iload_n 1, 1) := by decide +kernel
theorem d_Si_clash_5 : decode c_Si_clash 5 = .ok (.invokevirtual 155, 3) := by decide +kernel
theorem d_Si_clash_8 : decode c_Si_clash 8 = .ok (.ireturn, 1) := by decide +kernel
theorem d_Si_gain_0 : decode c_Si_gain 0 = .ok (.aload_n 0, 1) := by decide +kernel
theorem d_Si_gain_1 : decode c_Si_gain 1 = .ok (.getfield 12, 3) := by decide +kernel
theorem d_Si_gain_4 : decode c_Si_gain 4 = .ok (.iload_n 1, 1) := by decide +kernel
theorem d_Si_gain_5 : decode c_Si_gain 5 = .ok (.invokevirtual 79, 3) := by decide +kernel
theorem d_Si_gain_8 : decode c_Si_gain 8 = .ok (.ifCond .ne 7, 3) := by decide +kernel
theorem d_Si_gain_11 : decode c_Si_gain 11 = .ok (.ldc2_w 125, 3) := by decide +kernel
theorem d_Si_gain_14 : decode c_Si_gain 14 = .ok (.lreturn, 1) := by decide +kernel
theorem d_Si_gain_15 : decode c_Si_gain 15 = .ok (.aload_n 0, 1) := by decide +kernel
theorem d_Si_gain_16 : decode c_Si_gain 16 = .ok (.getfield 19, 3) := by decide +kernel
theorem d_Si_gain_19 : decode c_Si_gain 19 = .ok (.aload_n 0, 1) := by decide +kernel
theorem d_Si_gain_20 : decode c_Si_gain 20 = .ok (.getfield 12, 3) := by decide +kernel
theorem d_Si_gain_23 : decode c_Si_gain 23 = .ok (.iconst (-1), 1) := by decide +kernel
theorem d_Si_gain_24 : decode c_Si_gain 24 = .ok (.invokevirtual 117, 3) := by decide +kernel
theorem d_Si_gain_27 : decode c_Si_gain 27 = .ok (.aload_n 0, 1) := by decide +kernel
theorem d_Si_gain_28 : decode c_Si_gain 28 = .ok (.getfield 19, 3) := by decide +kernel
theorem d_Si_gain_31 : decode c_Si_gain 31 = .ok (.bipush 31, 2) := by decide +kernel
theorem d_Si_gain_33 : decode c_Si_gain 33 = .ok (.invokevirtual 121, 3) := by decide +kernel
theorem d_Si_gain_36 : decode c_Si_gain 36 = .ok (.lstore_n 2, 1) := by decide +kernel
theorem d_Si_gain_37 : decode c_Si_gain 37 = .ok (.lload_n 2, 1) := by decide +kernel
theorem d_Si_gain_38 : decode c_Si_gain 38 = .ok (.ldc2_w 125, 3) := by decide +kernel
theorem d_Si_gain_41 : decode c_Si_gain 41 = .ok (.lcmp, 1) := by decide +kernel
theorem d_Si_gain_42 : decode c_Si_gain 42 = .ok (.ifCond .ne 7, 3) := by decide +kernel
theorem d_Si_gain_45 : decode c_Si_gain 45 = .ok (.ldc2_w 125, 3) := by decide +kernel
theorem d_Si_gain_48 : decode c_Si_gain 48 = .ok (.lreturn, 1) := by decide +kernel
theorem d_Si_gain_49 : decode c_Si_gain 49 = .ok (.aload_n 0, 1) := by decide +kernel
theorem d_Si_gain_50 : decode c_Si_gain 50 = .ok (.getfield 19, 3) := by decide +kernel
theorem d_Si_gain_53 : decode c_Si_gain 53 = .ok (.aload_n 0, 1) := by decide +kernel
theorem d_Si_gain_54 : decode c_Si_gain 54 = .ok (.getfield 12, 3) := by decide +kernel
theorem d_Si_gain_57 : decode c_Si_gain 57 = .ok (.iload_n 1, 1) := by decide +kernel
theorem d_Si_gain_58 : decode c_Si_gain 58 = .ok (.invokevirtual 117, 3) := by decide +kernel
theorem d_Si_gain_61 : decode c_Si_gain 61 = .ok (.lload_n 2, 1) := by decide +kernel
theorem d_Si_gain_62 : decode c_Si_gain 62 = .ok (.aload_n 0, 1) := by decide +kernel
theorem d_Si_gain_63 : decode c_Si_gain 63 = .ok (.getfield 19, 3) := by decide +kernel
theorem d_Si_gain_66 : decode c_Si_gain 66 = .ok (.bipush 31, 2) := by decide +kernel
theorem d_Si_gain_68 : decode c_Si_gain 68 = .ok (.invokevirtual 121, 3) := by decide +kernel
theorem d_Si_gain_71 : decode c_Si_gain 71 = .ok (.lsub, 1) := by decide +kernel
theorem d_Si_gain_72 : decode c_Si_gain 72 = .ok (.lreturn, 1) := by decide +kernel
theorem d_Si_improve_0 : decode c_Si_improve 0 = .ok (.aload_n 0, 1) := by decide +kernel
theorem d_Si_improve_1 : decode c_Si_improve 1 = .ok (.getfield 26, 3) := by decide +kernel
theorem d_Si_improve_4 : decode c_Si_improve 4 = .ok (.getfield 146, 3) := by decide +kernel
theorem d_Si_improve_7 : decode c_Si_improve 7 = .ok (.ifCond .eq 7, 3) := by decide +kernel
theorem d_Si_improve_10 : decode c_Si_improve 10 = .ok (.iload_n 1, 1) := by decide +kernel
theorem d_Si_improve_11 : decode c_Si_improve 11 = .ok (.ifCond .ge 5, 3) := by decide +kernel
theorem d_Si_improve_14 : decode c_Si_improve 14 = .ok (.iconst (-1), 1) := by decide +kernel
theorem d_Si_improve_15 : decode c_Si_improve 15 = .ok (.ireturn, 1) := by decide +kernel
theorem d_Si_improve_16 : decode c_Si_improve 16 = .ok (.aload_n 0, 1) := by decide +kernel
theorem d_Si_improve_17 : decode c_Si_improve 17 = .ok (.getfield 19, 3) := by decide +kernel
theorem d_Si_improve_20 : decode c_Si_improve 20 = .ok (.aload_n 0, 1) := by decide +kernel
theorem d_Si_improve_21 : decode c_Si_improve 21 = .ok (.getfield 12, 3) := by decide +kernel
theorem d_Si_improve_24 : decode c_Si_improve 24 = .ok (.iconst (-1), 1) := by decide +kernel
theorem d_Si_improve_25 : decode c_Si_improve 25 = .ok (.invokevirtual 117, 3) := by decide +kernel
theorem d_Si_improve_28 : decode c_Si_improve 28 = .ok (.iload_n 1, 1) := by decide +kernel
theorem d_Si_improve_29 : decode c_Si_improve 29 = .ok (.sipush 15625, 3) := by decide +kernel
theorem d_Si_improve_32 : decode c_Si_improve 32 = .ok (.invokestatic 158, 3) := by decide +kernel
theorem d_Si_improve_35 : decode c_Si_improve 35 = .ok (.istore_n 2, 1) := by decide +kernel
theorem d_Si_improve_36 : decode c_Si_improve 36 = .ok (.iconst 0, 1) := by decide +kernel
theorem d_Si_improve_37 : decode c_Si_improve 37 = .ok (.istore_n 3, 1) := by decide +kernel
theorem d_Si_improve_38 : decode c_Si_improve 38 = .ok (.iload_n 3, 1) := by decide +kernel
theorem d_Si_improve_39 : decode c_Si_improve 39 = .ok (.iload_n 2, 1) := by decide +kernel
theorem d_Si_improve_40 : decode c_Si_improve 40 = .ok (.if_icmp .ge 27, 3) := by decide +kernel
theorem d_Si_improve_43 : decode c_Si_improve 43 = .ok (.aload_n 0, 1) := by decide +kernel
theorem d_Si_improve_44 : decode c_Si_improve 44 = .ok (.getfield 26, 3) := by decide +kernel
theorem d_Si_improve_47 : decode c_Si_improve 47 = .ok (.aload_n 0, 1) := by decide +kernel
theorem d_Si_improve_48 : decode c_Si_improve 48 = .ok (.getfield 12, 3) := by decide +kernel
theorem d_Si_improve_51 : decode c_Si_improve 51 = .ok (.aload_n 0, 1) := by decide +kernel
theorem d_Si_improve_52 : decode c_Si_improve 52 = .ok (.getfield 19, 3) := by decide +kernel
theorem d_Si_improve_55 : decode c_Si_improve 55 = .ok (.invokevirtual 164, 3) := by decide +kernel
theorem d_Si_improve_58 : decode c_Si_improve 58 = .ok (.ifCond .eq 9, 3) := by decide +kernel
theorem d_Si_improve_61 : decode c_Si_improve 61 = .ok (.iinc 3 1, 3) := by decide +kernel
theorem d_Si_improve_64 : decode c_Si_improve 64 = .ok (.goto (-26), 3) := by decide +kernel
theorem d_Si_improve_67 : decode c_Si_improve 67 = .ok (.aload_n 0, 1) := by decide +kernel
theorem d_Si_improve_68 : decode c_Si_improve 68 = .ok (.getfield 26, 3) := by decide +kernel
theorem d_Si_improve_71 : decode c_Si_improve 71 = .ok (.aload_n 0, 1) := by decide +kernel
theorem d_Si_improve_72 : decode c_Si_improve 72 = .ok (.getfield 12, 3) := by decide +kernel
theorem d_Si_improve_75 : decode c_Si_improve 75 = .ok (.invokevirtual 168, 3) := by decide +kernel
theorem d_Si_improve_78 : decode c_Si_improve 78 = .ok (.iload_n 3, 1) := by decide +kernel
theorem d_Si_improve_79 : decode c_Si_improve 79 = .ok (.ireturn, 1) := by decide +kernel
theorem d_Si_years_0 : decode c_Si_years 0 = .ok (.iload_n 1, 1) := by decide +kernel
theorem d_Si_years_1 : decode c_Si_years 1 = .ok (.i2l, 1) := by decide +kernel
theorem d_Si_years_2 : decode c_Si_years 2 = .ok (.lconst 1, 1) := by decide +kernel
theorem d_Si_years_3 : decode c_Si_years 3 = .ok (.ldc2_w 172, 3) := by decide +kernel
theorem d_Si_years_6 : decode c_Si_years 6 = .ok (.invokestatic 54, 3) := by decide +kernel
theorem d_Si_years_9 : decode c_Si_years 9 = .ok (.ifCond .ne 5, 3) := by decide +kernel
theorem d_Si_years_12 : decode c_Si_years 12 = .ok (.iconst (-1), 1) := by decide +kernel
theorem d_Si_years_13 : decode c_Si_years 13 = .ok (.ireturn, 1) := by decide +kernel
theorem d_Si_years_14 : decode c_Si_years 14 = .ok (.aload_n 0, 1) := by decide +kernel
theorem d_Si_years_15 : decode c_Si_years 15 = .ok (.getfield 40, 3) := by decide +kernel
theorem d_Si_years_18 : decode c_Si_years 18 = .ok (.iload_n 1, 1) := by decide +kernel
theorem d_Si_years_19 : decode c_Si_years 19 = .ok (.aload_n 0, 1) := by decide +kernel
theorem d_Si_years_20 : decode c_Si_years 20 = .ok (.getfield 12, 3) := by decide +kernel
theorem d_Si_years_23 : decode c_Si_years 23 = .ok (.aload_n 0, 1) := by decide +kernel
theorem d_Si_years_24 : decode c_Si_years 24 = .ok (.getfield 19, 3) := by decide +kernel
theorem d_Si_years_27 : decode c_Si_years 27 = .ok (.invokevirtual 174, 3) := by decide +kernel
theorem d_Si_years_30 : decode c_Si_years 30 = .ok (.l2i, 1) := by decide +kernel
theorem d_Si_years_31 : decode c_Si_years 31 = .ok (.ireturn, 1) := by decide +kernel
theorem d_Si_open_0 : decode c_Si_open 0 = .ok (.aload_n 0, 1) := by decide +kernel
theorem d_Si_open_1 : decode c_Si_open 1 = .ok (.getfield 12, 3) := by decide +kernel
theorem d_Si_open_4 : decode c_Si_open 4 = .ok (.iload_n 1, 1) := by decide +kernel
theorem d_Si_open_5 : decode c_Si_open 5 = .ok (.invokevirtual 79, 3) := by decide +kernel
theorem d_Si_open_8 : decode c_Si_open 8 = .ok (.ifCond .eq 15, 3) := by decide +kernel
theorem d_Si_open_11 : decode c_Si_open 11 = .ok (.aload_n 0, 1) := by decide +kernel
theorem d_Si_open_12 : decode c_Si_open 12 = .ok (.getfield 40, 3) := by decide +kernel
theorem d_Si_open_15 : decode c_Si_open 15 = .ok (.iload_n 1, 1) := by decide +kernel
theorem d_Si_open_16 : decode c_Si_open 16 = .ok (.iload_n 2, 1) := by decide +kernel
theorem d_Si_open_17 : decode c_Si_open 17 = .ok (.invokevirtual 178, 3) := by decide +kernel
theorem d_Si_open_20 : decode c_Si_open 20 = .ok (.goto 4, 3) := by decide +kernel
theorem d_Si_open_23 : decode c_Si_open 23 = .ok (.iconst (-1), 1) := by decide +kernel
theorem d_Si_open_24 : decode c_Si_open 24 = .ok (.ireturn, 1) := by decide +kernel
theorem d_Si_isWithin_0 : decode c_Si_isWithin 0 = .ok (.lload_n 0, 1) := by decide +kernel
theorem d_Si_isWithin_1 : decode c_Si_isWithin 1 = .ok (.lload_n 2, 1) := by decide +kernel
theorem d_Si_isWithin_2 : decode c_Si_isWithin 2 = .ok (.lcmp, 1) := by decide +kernel
theorem d_Si_isWithin_3 : decode c_Si_isWithin 3 = .ok (.ifCond .lt 14, 3) := by decide +kernel
theorem d_Si_isWithin_6 : decode c_Si_isWithin 6 = .ok (.lload_n 0, 1) := by decide +kernel
theorem d_Si_isWithin_7 : decode c_Si_isWithin 7 = .ok (.lload 4, 2) := by decide +kernel
theorem d_Si_isWithin_9 : decode c_Si_isWithin 9 = .ok (.lcmp, 1) := by decide +kernel
theorem d_Si_isWithin_10 : decode c_Si_isWithin 10 = .ok (.ifCond .gt 7, 3) := by decide +kernel
theorem d_Si_isWithin_13 : decode c_Si_isWithin 13 = .ok (.iconst 1, 1) := by decide +kernel
theorem d_Si_isWithin_14 : decode c_Si_isWithin 14 = .ok (.goto 4, 3) := by decide +kernel
theorem d_Si_isWithin_17 : decode c_Si_isWithin 17 = .ok (.iconst 0, 1) := by decide +kernel
theorem d_Si_isWithin_18 : decode c_Si_isWithin 18 = .ok (.ireturn, 1) := by decide +kernel
theorem d_Ca_init_0 : decode c_Ca_init 0 = .ok (.aload_n 0, 1) := by decide +kernel
theorem d_Ca_init_1 : decode c_Ca_init 1 = .ok (.invokespecial 3, 3) := by decide +kernel
theorem d_Ca_init_4 : decode c_Ca_init 4 = .ok (.aload_n 0, 1) := by decide +kernel
theorem d_Ca_init_5 : decode c_Ca_init 5 = .ok (.iconst 0, 1) := by decide +kernel
theorem d_Ca_init_6 : decode c_Ca_init 6 = .ok (.putfield 9, 3) := by decide +kernel
theorem d_Ca_init_9 : decode c_Ca_init 9 = .ok (.aload_n 0, 1) := by decide +kernel
theorem d_Ca_init_10 : decode c_Ca_init 10 = .ok (.bipush 6, 2) := by decide +kernel
theorem d_Ca_init_12 : decode c_Ca_init 12 = .ok (.newarray .int, 2) := by decide +kernel
theorem d_Ca_init_14 : decode c_Ca_init 14 = .ok (.putfield 15, 3) := by decide +kernel
theorem d_Ca_init_17 : decode c_Ca_init 17 = .ok (.aload_n 0, 1) := by decide +kernel
theorem d_Ca_init_18 : decode c_Ca_init 18 = .ok (.bipush 6, 2) := by decide +kernel
theorem d_Ca_init_20 : decode c_Ca_init 20 = .ok (.bipush 32, 2) := by decide +kernel
theorem d_Ca_init_22 : decode c_Ca_init 22 = .ok (.multianewarray 19 2, 4) := by decide +kernel
theorem d_Ca_init_26 : decode c_Ca_init 26 = .ok (.putfield 21, 3) := by decide +kernel
theorem d_Ca_init_29 : decode c_Ca_init 29 = .ok (.aload_n 0, 1) := by decide +kernel
theorem d_Ca_init_30 : decode c_Ca_init 30 = .ok (.bipush 6, 2) := by decide +kernel
theorem d_Ca_init_32 : decode c_Ca_init 32 = .ok (.bipush 32, 2) := by decide +kernel
theorem d_Ca_init_34 : decode c_Ca_init 34 = .ok (.multianewarray 19 2, 4) := by decide +kernel
theorem d_Ca_init_38 : decode c_Ca_init 38 = .ok (.putfield 24, 3) := by decide +kernel
theorem d_Ca_init_41 : decode c_Ca_init 41 = .ok (.return_, 1) := by decide +kernel
theorem d_Ca_isOpenIn_0 : decode c_Ca_isOpenIn 0 = .ok (.iload_n 2, 1) := by decide +kernel
theorem d_Ca_isOpenIn_1 : decode c_Ca_isOpenIn 1 = .ok (.ifCond .lt 20, 3) := by decide +kernel
theorem d_Ca_isOpenIn_4 : decode c_Ca_isOpenIn 4 = .ok (.iload_n 2, 1) := by decide +kernel
theorem d_Ca_isOpenIn_5 : decode c_Ca_isOpenIn 5 = .ok (.aload_n 0, 1) := by decide +kernel
theorem d_Ca_isOpenIn_6 : decode c_Ca_isOpenIn 6 = .ok (.getfield 9, 3) := by decide +kernel
theorem d_Ca_isOpenIn_9 : decode c_Ca_isOpenIn 9 = .ok (.if_icmp .ge 12, 3) := by decide +kernel
theorem d_Ca_isOpenIn_12 : decode c_Ca_isOpenIn 12 = .ok (.iload_n 1, 1) := by decide +kernel
theorem d_Ca_isOpenIn_13 : decode c_Ca_isOpenIn 13 = .ok (.ifCond .lt 8, 3) := by decide +kernel
theorem d_Ca_isOpenIn_16 : decode c_Ca_isOpenIn 16 = .ok (.iload_n 1, 1) := by decide +kernel
theorem d_Ca_isOpenIn_17 : decode c_Ca_isOpenIn 17 = .ok (.iconst 5, 1) := by decide +kernel
theorem d_Ca_isOpenIn_18 : decode c_Ca_isOpenIn 18 = .ok (.if_icmp .lt 5, 3) := by decide +kernel
theorem d_Ca_isOpenIn_21 : decode c_Ca_isOpenIn 21 = .ok (.iconst (-1), 1) := by decide +kernel
theorem d_Ca_isOpenIn_22 : decode c_Ca_isOpenIn 22 = .ok (.ireturn, 1) := by decide +kernel
theorem d_Ca_isOpenIn_23 : decode c_Ca_isOpenIn 23 = .ok (.aload_n 0, 1) := by decide +kernel
theorem d_Ca_isOpenIn_24 : decode c_Ca_isOpenIn 24 = .ok (.getfield 15, 3) := by decide +kernel
theorem d_Ca_isOpenIn_27 : decode c_Ca_isOpenIn 27 = .ok (.iload_n 2, 1) := by decide +kernel
theorem d_Ca_isOpenIn_28 : decode c_Ca_isOpenIn 28 = .ok (.iaload, 1) := by decide +kernel
theorem d_Ca_isOpenIn_29 : decode c_Ca_isOpenIn 29 = .ok (.iload_n 1, 1) := by decide +kernel
theorem d_Ca_isOpenIn_30 : decode c_Ca_isOpenIn 30 = .ok (.ishr, 1) := by decide +kernel
theorem d_Ca_isOpenIn_31 : decode c_Ca_isOpenIn 31 = .ok (.iconst 1, 1) := by decide +kernel
theorem d_Ca_isOpenIn_32 : decode c_Ca_isOpenIn 32 = .ok (.iand, 1) := by decide +kernel
theorem d_Ca_isOpenIn_33 : decode c_Ca_isOpenIn 33 = .ok (.ireturn, 1) := by decide +kernel
theorem d_Ca_lookOver_0 : decode c_Ca_lookOver 0 = .ok (.aload_n 3, 1) := by decide +kernel
theorem d_Ca_lookOver_1 : decode c_Ca_lookOver 1 = .ok (.aload_n 2, 1) := by decide +kernel
theorem d_Ca_lookOver_2 : decode c_Ca_lookOver 2 = .ok (.iconst (-1), 1) := by decide +kernel
theorem d_Ca_lookOver_3 : decode c_Ca_lookOver 3 = .ok (.invokevirtual 27, 3) := by decide +kernel
theorem d_Ca_lookOver_6 : decode c_Ca_lookOver 6 = .ok (.iconst 1, 1) := by decide +kernel
theorem d_Ca_lookOver_7 : decode c_Ca_lookOver 7 = .ok (.aload_n 2, 1) := by decide +kernel
theorem d_Ca_lookOver_8 : decode c_Ca_lookOver 8 = .ok (.getfield 33, 3) := by decide +kernel
theorem d_Ca_lookOver_11 : decode c_Ca_lookOver 11 = .ok (.ishl, 1) := by decide +kernel
theorem d_Ca_lookOver_12 : decode c_Ca_lookOver 12 = .ok (.istore 4, 2) := by decide +kernel
theorem d_Ca_lookOver_14 : decode c_Ca_lookOver 14 = .ok (.aload_n 0, 1) := by decide +kernel
theorem d_Ca_lookOver_15 : decode c_Ca_lookOver 15 = .ok (.iload_n 1, 1) := by decide +kernel
theorem d_Ca_lookOver_16 : decode c_Ca_lookOver 16 = .ok (.iload 4, 2) := by decide +kernel
theorem d_Ca_lookOver_18 : decode c_Ca_lookOver 18 = .ok (.aload_n 2, 1) := by decide +kernel
theorem d_Ca_lookOver_19 : decode c_Ca_lookOver 19 = .ok (.aload_n 3, 1) := by decide +kernel
theorem d_Ca_lookOver_20 : decode c_Ca_lookOver 20 = .ok (.invokevirtual 38, 3) := by decide +kernel
theorem d_Ca_lookOver_23 : decode c_Ca_lookOver 23 = .ok (.aload_n 0, 1) := by decide +kernel
theorem d_Ca_lookOver_24 : decode c_Ca_lookOver 24 = .ok (.iload_n 1, 1) := by decide +kernel
theorem d_Ca_lookOver_25 : decode c_Ca_lookOver 25 = .ok (.iload 4, 2) := by decide +kernel
theorem d_Ca_lookOver_27 : decode c_Ca_lookOver 27 = .ok (.aload_n 3, 1) := by decide +kernel
theorem d_Ca_lookOver_28 : decode c_Ca_lookOver 28 = .ok (.invokevirtual 42, 3) := by decide +kernel
theorem d_Ca_lookOver_31 : decode c_Ca_lookOver 31 = .ok (.aload_n 0, 1) := by decide +kernel
theorem d_Ca_lookOver_32 : decode c_Ca_lookOver 32 = .ok (.iconst 0, 1) := by decide +kernel
theorem d_Ca_lookOver_33 : decode c_Ca_lookOver 33 = .ok (.iconst 0, 1) := by decide +kernel
theorem d_Ca_lookOver_34 : decode c_Ca_lookOver 34 = .ok (.iload 4, 2) := by decide +kernel
theorem d_Ca_lookOver_36 : decode c_Ca_lookOver 36 = .ok (.aload_n 3, 1) := by decide +kernel
theorem d_Ca_lookOver_37 : decode c_Ca_lookOver 37 = .ok (.invokevirtual 46, 3) := by decide +kernel
theorem d_Ca_lookOver_40 : decode c_Ca_lookOver 40 = .ok (.istore 5, 2) := by decide +kernel
theorem d_Ca_lookOver_42 : decode c_Ca_lookOver 42 = .ok (.iload 5, 2) := by decide +kernel
theorem d_Ca_lookOver_44 : decode c_Ca_lookOver 44 = .ok (.iconst (-1), 1) := by decide +kernel
theorem d_Ca_lookOver_45 : decode c_Ca_lookOver 45 = .ok (.if_icmp .ne 7, 3) := by decide +kernel
theorem d_Ca_lookOver_48 : decode c_Ca_lookOver 48 = .ok (.ldc2_w 50, 3) := by decide +kernel
theorem d_Ca_lookOver_51 : decode c_Ca_lookOver 51 = .ok (.lreturn, 1) := by decide +kernel
theorem d_Ca_lookOver_52 : decode c_Ca_lookOver 52 = .ok (.aload_n 0, 1) := by decide +kernel
theorem d_Ca_lookOver_53 : decode c_Ca_lookOver 53 = .ok (.iload_n 1, 1) := by decide +kernel
theorem d_Ca_lookOver_54 : decode c_Ca_lookOver 54 = .ok (.iload 4, 2) := by decide +kernel
theorem d_Ca_lookOver_56 : decode c_Ca_lookOver 56 = .ok (.aload_n 3, 1) := by decide +kernel
theorem d_Ca_lookOver_57 : decode c_Ca_lookOver 57 = .ok (.invokevirtual 52, 3) := by decide +kernel
theorem d_Ca_lookOver_60 : decode c_Ca_lookOver 60 = .ok (.aload_n 3, 1) := by decide +kernel
theorem d_Ca_lookOver_61 : decode c_Ca_lookOver 61 = .ok (.getfield 55, 3) := by decide +kernel
theorem d_Ca_lookOver_64 : decode c_Ca_lookOver 64 = .ok (.iload 5, 2) := by decide +kernel
theorem d_Ca_lookOver_66 : decode c_Ca_lookOver 66 = .ok (.laload, 1) := by decide +kernel
theorem d_Ca_lookOver_67 : decode c_Ca_lookOver 67 = .ok (.aload_n 0, 1) := by decide +kernel
theorem d_Ca_lookOver_68 : decode c_Ca_lookOver 68 = .ok (.getfield 24, 3) := by decide +kernel
theorem d_Ca_lookOver_71 : decode c_Ca_lookOver 71 = .ok (.iconst 0, 1) := by decide +kernel
theorem d_Ca_lookOver_72 : decode c_Ca_lookOver 72 = .ok (.aaload, 1) := by decide +kernel
theorem d_Ca_lookOver_73 : decode c_Ca_lookOver 73 = .ok (.iload 5, 2) := by decide +kernel
theorem d_Ca_lookOver_75 : decode c_Ca_lookOver 75 = .ok (.laload, 1) := by decide +kernel
theorem d_Ca_lookOver_76 : decode c_Ca_lookOver 76 = .ok (.ladd, 1) := by decide +kernel
theorem d_Ca_lookOver_77 : decode c_Ca_lookOver 77 = .ok (.lreturn, 1) := by decide +kernel
theorem d_Ca_reckonSums_0 : decode c_Ca_reckonSums 0 = .ok (.iconst 0, 1) := by decide +kernel
theorem d_Ca_reckonSums_1 : decode c_Ca_reckonSums 1 = .ok (.istore 5, 2) := by decide +kernel
theorem d_Ca_reckonSums_3 : decode c_Ca_reckonSums 3 = .ok (.iload 5, 2) := by decide +kernel
theorem d_Ca_reckonSums_5 : decode c_Ca_reckonSums 5 = .ok (.iload_n 1, 1) := by decide +kernel
theorem d_Ca_reckonSums_6 : decode c_Ca_reckonSums 6 = .ok (.if_icmp .ge 66, 3) := by decide +kernel
theorem d_Ca_reckonSums_9 : decode c_Ca_reckonSums 9 = .ok (.aload 4, 2) := by decide +kernel
theorem d_Ca_reckonSums_11 : decode c_Ca_reckonSums 11 = .ok (.aload_n 3, 1) := by decide +kernel
theorem d_Ca_reckonSums_12 : decode c_Ca_reckonSums 12 = .ok (.iload 5, 2) := by decide +kernel
theorem d_Ca_reckonSums_14 : decode c_Ca_reckonSums 14 = .ok (.invokevirtual 59, 3) := by decide +kernel
theorem d_Ca_reckonSums_17 : decode c_Ca_reckonSums 17 = .ok (.iconst 0, 1) := by decide +kernel
theorem d_Ca_reckonSums_18 : decode c_Ca_reckonSums 18 = .ok (.istore 6, 2) := by decide +kernel
theorem d_Ca_reckonSums_20 : decode c_Ca_reckonSums 20 = .ok (.iload 6, 2) := by decide +kernel
theorem d_Ca_reckonSums_22 : decode c_Ca_reckonSums 22 = .ok (.iload_n 2, 1) := by decide +kernel
theorem d_Ca_reckonSums_23 : decode c_Ca_reckonSums 23 = .ok (.if_icmp .ge 43, 3) := by decide +kernel
theorem d_Ca_reckonSums_26 : decode c_Ca_reckonSums 26 = .ok (.aload_n 0, 1) := by decide +kernel
theorem d_Ca_reckonSums_27 : decode c_Ca_reckonSums 27 = .ok (.getfield 21, 3) := by decide +kernel
theorem d_Ca_reckonSums_30 : decode c_Ca_reckonSums 30 = .ok (.iload 5, 2) := by decide +kernel
theorem d_Ca_reckonSums_32 : decode c_Ca_reckonSums 32 = .ok (.aaload, 1) := by decide +kernel
theorem d_Ca_reckonSums_33 : decode c_Ca_reckonSums 33 = .ok (.iload 6, 2) := by decide +kernel
theorem d_Ca_reckonSums_35 : decode c_Ca_reckonSums 35 = .ok (.aload 4, 2) := by decide +kernel
theorem d_Ca_reckonSums_37 : decode c_Ca_reckonSums 37 = .ok (.getfield 62, 3) := by decide +kernel
theorem d_Ca_reckonSums_40 : decode c_Ca_reckonSums 40 = .ok (.iload 6, 2) := by decide +kernel
theorem d_Ca_reckonSums_42 : decode c_Ca_reckonSums 42 = .ok (.baload, 1) := by decide +kernel
theorem d_Ca_reckonSums_43 : decode c_Ca_reckonSums 43 = .ok (.ifCond .eq 13, 3) := by decide +kernel
theorem d_Ca_reckonSums_46 : decode c_Ca_reckonSums 46 = .ok (.aload 4, 2) := by decide +kernel
theorem d_Ca_reckonSums_48 : decode c_Ca_reckonSums 48 = .ok (.iload 6, 2) := by decide +kernel
theorem d_Ca_reckonSums_50 : decode c_Ca_reckonSums 50 = .ok (.invokevirtual 66, 3) := by decide +kernel
theorem d_Ca_reckonSums_53 : decode c_Ca_reckonSums 53 = .ok (.goto 6, 3) := by decide +kernel
theorem d_Ca_reckonSums_56 : decode c_Ca_reckonSums 56 = .ok (.ldc2_w 50, 3) := by decide +kernel
theorem d_Ca_reckonSums_59 : decode c_Ca_reckonSums 59 = .ok (.lastore, 1) := by decide +kernel
theorem d_Ca_reckonSums_60 : decode c_Ca_reckonSums 60 = .ok (.iinc 6 1, 3) := by decide +kernel
theorem d_Ca_reckonSums_63 : decode c_Ca_reckonSums 63 = .ok (.goto (-43), 3) := by decide +kernel
theorem d_Ca_reckonSums_66 : decode c_Ca_reckonSums 66 = .ok (.iinc 5 1, 3) := by decide +kernel
theorem d_Ca_reckonSums_69 : decode c_Ca_reckonSums 69 = .ok (.goto (-66), 3) := by decide +kernel
theorem d_Ca_reckonSums_72 : decode c_Ca_reckonSums 72 = .ok (.return_, 1) := by decide +kernel
theorem d_Ca_reckonOnward_0 : decode c_Ca_reckonOnward 0 = .ok (.iload_n 1, 1) := by decide +kernel
theorem d_Ca_reckonOnward_1 : decode c_Ca_reckonOnward 1 = .ok (.iconst 1, 1) := by decide +kernel
theorem d_Ca_reckonOnward_2 : decode c_Ca_reckonOnward 2 = .ok (.isub, 1) := by decide +kernel
theorem d_Ca_reckonOnward_3 : decode c_Ca_reckonOnward 3 = .ok (.istore 4, 2) := by decide +kernel
theorem d_Ca_reckonOnward_5 : decode c_Ca_reckonOnward 5 = .ok (.iload 4, 2) := by decide +kernel
theorem d_Ca_reckonOnward_7 : decode c_Ca_reckonOnward 7 = .ok (.ifCond .lt 82, 3) := by decide +kernel
theorem d_Ca_reckonOnward_10 : decode c_Ca_reckonOnward 10 = .ok (.iconst 0, 1) := by decide +kernel
theorem d_Ca_reckonOnward_11 : decode c_Ca_reckonOnward 11 = .ok (.istore 5, 2) := by decide +kernel
theorem d_Ca_reckonOnward_13 : decode c_Ca_reckonOnward 13 = .ok (.iload 5, 2) := by decide +kernel
theorem d_Ca_reckonOnward_15 : decode c_Ca_reckonOnward 15 = .ok (.iload_n 2, 1) := by decide +kernel
theorem d_Ca_reckonOnward_16 : decode c_Ca_reckonOnward 16 = .ok (.if_icmp .ge 67, 3) := by decide +kernel
theorem d_Ca_reckonOnward_19 : decode c_Ca_reckonOnward 19 = .ok (.aload_n 0, 1) := by decide +kernel
theorem d_Ca_reckonOnward_20 : decode c_Ca_reckonOnward 20 = .ok (.getfield 24, 3) := by decide +kernel
theorem d_Ca_reckonOnward_23 : decode c_Ca_reckonOnward 23 = .ok (.iload 4, 2) := by decide +kernel
theorem d_Ca_reckonOnward_25 : decode c_Ca_reckonOnward 25 = .ok (.aaload, 1) := by decide +kernel
theorem d_Ca_reckonOnward_26 : decode c_Ca_reckonOnward 26 = .ok (.iload 5, 2) := by decide +kernel
theorem d_Ca_reckonOnward_28 : decode c_Ca_reckonOnward 28 = .ok (.iload 4, 2) := by decide +kernel
theorem d_Ca_reckonOnward_30 : decode c_Ca_reckonOnward 30 = .ok (.iload_n 1, 1) := by decide +kernel
theorem d_Ca_reckonOnward_31 : decode c_Ca_reckonOnward 31 = .ok (.iconst 1, 1) := by decide +kernel
theorem d_Ca_reckonOnward_32 : decode c_Ca_reckonOnward 32 = .ok (.isub, 1) := by decide +kernel
theorem d_Ca_reckonOnward_33 : decode c_Ca_reckonOnward 33 = .ok (.if_icmp .eq 20, 3) := by decide +kernel
theorem d_Ca_reckonOnward_36 : decode c_Ca_reckonOnward 36 = .ok (.aload_n 0, 1) := by decide +kernel
theorem d_Ca_reckonOnward_37 : decode c_Ca_reckonOnward 37 = .ok (.getfield 21, 3) := by decide +kernel
theorem d_Ca_reckonOnward_40 : decode c_Ca_reckonOnward 40 = .ok (.iload 4, 2) := by decide +kernel
theorem d_Ca_reckonOnward_42 : decode c_Ca_reckonOnward 42 = .ok (.aaload, 1) := by decide +kernel
theorem d_Ca_reckonOnward_43 : decode c_Ca_reckonOnward 43 = .ok (.iload 5, 2) := by decide +kernel
theorem d_Ca_reckonOnward_45 : decode c_Ca_reckonOnward 45 = .ok (.laload, 1) := by decide +kernel
theorem d_Ca_reckonOnward_46 : decode c_Ca_reckonOnward 46 = .ok (.ldc2_w 50, 3) := by decide +kernel
theorem d_Ca_reckonOnward_49 : decode c_Ca_reckonOnward 49 = .ok (.lcmp, 1) := by decide +kernel
theorem d_Ca_reckonOnward_50 : decode c_Ca_reckonOnward 50 = .ok (.ifCond .ne 16, 3) := by decide +kernel
theorem d_Ca_reckonOnward_53 : decode c_Ca_reckonOnward 53 = .ok (.aload_n 0, 1) := by decide +kernel
theorem d_Ca_reckonOnward_54 : decode c_Ca_reckonOnward 54 = .ok (.getfield 21, 3) := by decide +kernel
theorem d_Ca_reckonOnward_57 : decode c_Ca_reckonOnward 57 = .ok (.iload 4, 2) := by decide +kernel
theorem d_Ca_reckonOnward_59 : decode c_Ca_reckonOnward 59 = .ok (.aaload, 1) := by decide +kernel
theorem d_Ca_reckonOnward_60 : decode c_Ca_reckonOnward 60 = .ok (.iload 5, 2) := by decide +kernel
theorem d_Ca_reckonOnward_62 : decode c_Ca_reckonOnward 62 = .ok (.laload, 1) := by decide +kernel
theorem d_Ca_reckonOnward_63 : decode c_Ca_reckonOnward 63 = .ok (.goto 13, 3) := by decide +kernel
theorem d_Ca_reckonOnward_66 : decode c_Ca_reckonOnward 66 = .ok (.aload_n 0, 1) := by decide +kernel
theorem d_Ca_reckonOnward_67 : decode c_Ca_reckonOnward 67 = .ok (.iload 4, 2) := by decide +kernel
theorem d_Ca_reckonOnward_69 : decode c_Ca_reckonOnward 69 = .ok (.iload 5, 2) := by decide +kernel
theorem d_Ca_reckonOnward_71 : decode c_Ca_reckonOnward 71 = .ok (.iload_n 2, 1) := by decide +kernel
theorem d_Ca_reckonOnward_72 : decode c_Ca_reckonOnward 72 = .ok (.aload_n 3, 1) := by decide +kernel
theorem d_Ca_reckonOnward_73 : decode c_Ca_reckonOnward 73 = .ok (.invokevirtual 70, 3) := by decide +kernel
theorem d_Ca_reckonOnward_76 : decode c_Ca_reckonOnward 76 = .ok (.lastore, 1) := by decide +kernel
theorem d_Ca_reckonOnward_77 : decode c_Ca_reckonOnward 77 = .ok (.iinc 5 1, 3) := by decide +kernel
theorem d_Ca_reckonOnward_80 : decode c_Ca_reckonOnward 80 = .ok (.goto (-67), 3) := by decide +kernel
theorem d_Ca_reckonOnward_83 : decode c_Ca_reckonOnward 83 = .ok (.iinc 4 (-1), 3) := by decide +kernel
theorem d_Ca_reckonOnward_86 : decode c_Ca_reckonOnward 86 = .ok (.goto (-81), 3) := by decide +kernel
theorem d_Ca_reckonOnward_89 : decode c_Ca_reckonOnward 89 = .ok (.return_, 1) := by decide +kernel
theorem d_Ca_withNext_0 : decode c_Ca_withNext 0 = .ok (.aload_n 0, 1) := by decide +kernel
theorem d_Ca_withNext_1 : decode c_Ca_withNext 1 = .ok (.iload_n 1, 1) := by decide +kernel
theorem d_Ca_withNext_2 : decode c_Ca_withNext 2 = .ok (.iconst 1, 1) := by decide +kernel
theorem d_Ca_withNext_3 : decode c_Ca_withNext 3 = .ok (.iadd, 1) := by decide +kernel
theorem d_Ca_withNext_4 : decode c_Ca_withNext 4 = .ok (.iload_n 2, 1) := by decide +kernel
theorem d_Ca_withNext_5 : decode c_Ca_withNext 5 = .ok (.iload_n 3, 1) := by decide +kernel
theorem d_Ca_withNext_6 : decode c_Ca_withNext 6 = .ok (.aload 4, 2) := by decide +kernel
theorem d_Ca_withNext_8 : decode c_Ca_withNext 8 = .ok (.invokevirtual 46, 3) := by decide +kernel
theorem d_Ca_withNext_11 : decode c_Ca_withNext 11 = .ok (.istore 5, 2) := by decide +kernel
theorem d_Ca_withNext_13 : decode c_Ca_withNext 13 = .ok (.iload 5, 2) := by decide +kernel
theorem d_Ca_withNext_15 : decode c_Ca_withNext 15 = .ok (.iconst (-1), 1) := by decide +kernel
theorem d_Ca_withNext_16 : decode c_Ca_withNext 16 = .ok (.if_icmp .ne 9, 3) := by decide +kernel
theorem d_Ca_withNext_19 : decode c_Ca_withNext 19 = .ok (.ldc2_w 50, 3) := by decide +kernel
theorem d_Ca_withNext_22 : decode c_Ca_withNext 22 = .ok (.goto 36, 3) := by decide +kernel
theorem d_Ca_withNext_25 : decode c_Ca_withNext 25 = .ok (.aload_n 0, 1) := by decide +kernel
theorem d_Ca_withNext_26 : decode c_Ca_withNext 26 = .ok (.getfield 21, 3) := by decide +kernel
theorem d_Ca_withNext_29 : decode c_Ca_withNext 29 = .ok (.iload_n 1, 1) := by decide +kernel
theorem d_Ca_withNext_30 : decode c_Ca_withNext 30 = .ok (.aaload, 1) := by decide +kernel
theorem d_Ca_withNext_31 : decode c_Ca_withNext 31 = .ok (.iload_n 2, 1) := by decide +kernel
theorem d_Ca_withNext_32 : decode c_Ca_withNext 32 = .ok (.laload, 1) := by decide +kernel
theorem d_Ca_withNext_33 : decode c_Ca_withNext 33 = .ok (.aload 4, 2) := by decide +kernel
theorem d_Ca_withNext_35 : decode c_Ca_withNext 35 = .ok (.getfield 55, 3) := by decide +kernel
theorem d_Ca_withNext_38 : decode c_Ca_withNext 38 = .ok (.iload 5, 2) := by decide +kernel
theorem d_Ca_withNext_40 : decode c_Ca_withNext 40 = .ok (.iload_n 2, 1) := by decide +kernel
theorem d_Ca_withNext_41 : decode c_Ca_withNext 41 = .ok (.iconst (-1), 1) := by decide +kernel
theorem d_Ca_withNext_42 : decode c_Ca_withNext 42 = .ok (.ixor, 1) := by decide +kernel
theorem d_Ca_withNext_43 : decode c_Ca_withNext 43 = .ok (.iand, 1) := by decide +kernel
theorem d_Ca_withNext_44 : decode c_Ca_withNext 44 = .ok (.laload, 1) := by decide +kernel
theorem d_Ca_withNext_45 : decode c_Ca_withNext 45 = .ok (.ladd, 1) := by decide +kernel
theorem d_Ca_withNext_46 : decode c_Ca_withNext 46 = .ok (.aload_n 0, 1) := by decide +kernel
theorem d_Ca_withNext_47 : decode c_Ca_withNext 47 = .ok (.getfield 24, 3) := by decide +kernel
theorem d_Ca_withNext_50 : decode c_Ca_withNext 50 = .ok (.iload_n 1, 1) := by decide +kernel
theorem d_Ca_withNext_51 : decode c_Ca_withNext 51 = .ok (.iconst 1, 1) := by decide +kernel
theorem d_Ca_withNext_52 : decode c_Ca_withNext 52 = .ok (.iadd, 1) := by decide +kernel
theorem d_Ca_withNext_53 : decode c_Ca_withNext 53 = .ok (.aaload, 1) := by decide +kernel
theorem d_Ca_withNext_54 : decode c_Ca_withNext 54 = .ok (.iload 5, 2) := by decide +kernel
theorem d_Ca_withNext_56 : decode c_Ca_withNext 56 = .ok (.laload, 1) := by decide +kernel
theorem d_Ca_withNext_57 : decode c_Ca_withNext 57 = .ok (.ladd, 1) := by decide +kernel
theorem d_Ca_withNext_58 : decode c_Ca_withNext 58 = .ok (.lreturn, 1) := by decide +kernel
theorem d_Ca_cheapestNext_0 : decode c_Ca_cheapestNext 0 = .ok (.iconst (-1), 1) := by decide +kernel
theorem d_Ca_cheapestNext_1 : decode c_Ca_cheapestNext 1 = .ok (.istore 5, 2) := by decide +kernel
theorem d_Ca_cheapestNext_3 : decode c_Ca_cheapestNext 3 = .ok (.lconst 0, 1) := by decide +kernel
theorem d_Ca_cheapestNext_4 : decode c_Ca_cheapestNext 4 = .ok (.lstore 6, 2) := by decide +kernel
theorem d_Ca_cheapestNext_6 : decode c_Ca_cheapestNext 6 = .ok (.iconst 0, 1) := by decide +kernel
theorem d_Ca_cheapestNext_7 : decode c_Ca_cheapestNext 7 = .ok (.istore 8, 2) := by decide +kernel
theorem d_Ca_cheapestNext_9 : decode c_Ca_cheapestNext 9 = .ok (.iload 8, 2) := by decide +kernel
theorem d_Ca_cheapestNext_11 : decode c_Ca_cheapestNext 11 = .ok (.iload_n 3, 1) := by decide +kernel
theorem d_Ca_cheapestNext_12 : decode c_Ca_cheapestNext 12 = .ok (.if_icmp .ge 71, 3) := by decide +kernel
theorem d_Ca_cheapestNext_15 : decode c_Ca_cheapestNext 15 = .ok (.aload_n 0, 1) := by decide +kernel
theorem d_Ca_cheapestNext_16 : decode c_Ca_cheapestNext 16 = .ok (.getfield 24, 3) := by decide +kernel
theorem d_Ca_cheapestNext_19 : decode c_Ca_cheapestNext 19 = .ok (.iload_n 1, 1) := by decide +kernel
theorem d_Ca_cheapestNext_20 : decode c_Ca_cheapestNext 20 = .ok (.aaload, 1) := by decide +kernel
theorem d_Ca_cheapestNext_21 : decode c_Ca_cheapestNext 21 = .ok (.iload 8, 2) := by decide +kernel
theorem d_Ca_cheapestNext_23 : decode c_Ca_cheapestNext 23 = .ok (.laload, 1) := by decide +kernel
theorem d_Ca_cheapestNext_24 : decode c_Ca_cheapestNext 24 = .ok (.ldc2_w 50, 3) := by decide +kernel
theorem d_Ca_cheapestNext_27 : decode c_Ca_cheapestNext 27 = .ok (.lcmp, 1) := by decide +kernel
theorem d_Ca_cheapestNext_28 : decode c_Ca_cheapestNext 28 = .ok (.ifCond .eq 49, 3) := by decide +kernel
theorem d_Ca_cheapestNext_31 : decode c_Ca_cheapestNext 31 = .ok (.aload 4, 2) := by decide +kernel
theorem d_Ca_cheapestNext_33 : decode c_Ca_cheapestNext 33 = .ok (.getfield 55, 3) := by decide +kernel
theorem d_Ca_cheapestNext_36 : decode c_Ca_cheapestNext 36 = .ok (.iload 8, 2) := by decide +kernel
theorem d_Ca_cheapestNext_38 : decode c_Ca_cheapestNext 38 = .ok (.iload_n 2, 1) := by decide +kernel
theorem d_Ca_cheapestNext_39 : decode c_Ca_cheapestNext 39 = .ok (.iconst (-1), 1) := by decide +kernel
theorem d_Ca_cheapestNext_40 : decode c_Ca_cheapestNext 40 = .ok (.ixor, 1) := by decide +kernel
theorem d_Ca_cheapestNext_41 : decode c_Ca_cheapestNext 41 = .ok (.iand, 1) := by decide +kernel
theorem d_Ca_cheapestNext_42 : decode c_Ca_cheapestNext 42 = .ok (.laload, 1) := by decide +kernel
theorem d_Ca_cheapestNext_43 : decode c_Ca_cheapestNext 43 = .ok (.aload_n 0, 1) := by decide +kernel
theorem d_Ca_cheapestNext_44 : decode c_Ca_cheapestNext 44 = .ok (.getfield 24, 3) := by decide +kernel
theorem d_Ca_cheapestNext_47 : decode c_Ca_cheapestNext 47 = .ok (.iload_n 1, 1) := by decide +kernel
theorem d_Ca_cheapestNext_48 : decode c_Ca_cheapestNext 48 = .ok (.aaload, 1) := by decide +kernel
theorem d_Ca_cheapestNext_49 : decode c_Ca_cheapestNext 49 = .ok (.iload 8, 2) := by decide +kernel
theorem d_Ca_cheapestNext_51 : decode c_Ca_cheapestNext 51 = .ok (.laload, 1) := by decide +kernel
theorem d_Ca_cheapestNext_52 : decode c_Ca_cheapestNext 52 = .ok (.ladd, 1) := by decide +kernel
theorem d_Ca_cheapestNext_53 : decode c_Ca_cheapestNext 53 = .ok (.lstore 9, 2) := by decide +kernel
theorem d_Ca_cheapestNext_55 : decode c_Ca_cheapestNext 55 = .ok (.iload 5, 2) := by decide +kernel
theorem d_Ca_cheapestNext_57 : decode c_Ca_cheapestNext 57 = .ok (.iconst (-1), 1) := by decide +kernel
theorem d_Ca_cheapestNext_58 : decode c_Ca_cheapestNext 58 = .ok (.if_icmp .eq 11, 3) := by decide +kernel
theorem d_Ca_cheapestNext_61 : decode c_Ca_cheapestNext 61 = .ok (.lload 9, 2) := by decide +kernel
theorem d_Ca_cheapestNext_63 : decode c_Ca_cheapestNext 63 = .ok (.lload 6, 2) := by decide +kernel
theorem d_Ca_cheapestNext_65 : decode c_Ca_cheapestNext 65 = .ok (.lcmp, 1) := by decide +kernel
theorem d_Ca_cheapestNext_66 : decode c_Ca_cheapestNext 66 = .ok (.ifCond .ge 11, 3) := by decide +kernel
theorem d_Ca_cheapestNext_69 : decode c_Ca_cheapestNext 69 = .ok (.iload 8, 2) := by decide +kernel
theorem d_Ca_cheapestNext_71 : decode c_Ca_cheapestNext 71 = .ok (.istore 5, 2) := by decide +kernel
theorem d_Ca_cheapestNext_73 : decode c_Ca_cheapestNext 73 = .ok (.lload 9, 2) := by decide +kernel
theorem d_Ca_cheapestNext_75 : decode c_Ca_cheapestNext 75 = .ok (.lstore 6, 2) := by decide +kernel
theorem d_Ca_cheapestNext_77 : decode c_Ca_cheapestNext 77 = .ok (.iinc 8 1, 3) := by decide +kernel
theorem d_Ca_cheapestNext_80 : decode c_Ca_cheapestNext 80 = .ok (.goto (-71), 3) := by decide +kernel
theorem d_Ca_cheapestNext_83 : decode c_Ca_cheapestNext 83 = .ok (.iload 5, 2) := by decide +kernel
theorem d_Ca_cheapestNext_85 : decode c_Ca_cheapestNext 85 = .ok (.ireturn, 1) := by decide +kernel
theorem d_Ca_hold_0 : decode c_Ca_hold 0 = .ok (.aload_n 0, 1) := by decide +kernel
theorem d_Ca_hold_1 : decode c_Ca_hold 1 = .ok (.iload_n 1, 1) := by decide +kernel
theorem d_Ca_hold_2 : decode c_Ca_hold 2 = .ok (.putfield 9, 3) := by decide +kernel
theorem d_Ca_hold_5 : decode c_Ca_hold 5 = .ok (.iconst 0, 1) := by decide +kernel
theorem d_Ca_hold_6 : decode c_Ca_hold 6 = .ok (.istore 4, 2) := by decide +kernel
theorem d_Ca_hold_8 : decode c_Ca_hold 8 = .ok (.iconst 0, 1) := by decide +kernel
theorem d_Ca_hold_9 : decode c_Ca_hold 9 = .ok (.istore 5, 2) := by decide +kernel
theorem d_Ca_hold_11 : decode c_Ca_hold 11 = .ok (.iload 5, 2) := by decide +kernel
theorem d_Ca_hold_13 : decode c_Ca_hold 13 = .ok (.iload_n 1, 1) := by decide +kernel
theorem d_Ca_hold_14 : decode c_Ca_hold 14 = .ok (.if_icmp .ge 34, 3) := by decide +kernel
theorem d_Ca_hold_17 : decode c_Ca_hold 17 = .ok (.aload_n 0, 1) := by decide +kernel
theorem d_Ca_hold_18 : decode c_Ca_hold 18 = .ok (.iload 5, 2) := by decide +kernel
theorem d_Ca_hold_20 : decode c_Ca_hold 20 = .ok (.iload 4, 2) := by decide +kernel
theorem d_Ca_hold_22 : decode c_Ca_hold 22 = .ok (.iload_n 2, 1) := by decide +kernel
theorem d_Ca_hold_23 : decode c_Ca_hold 23 = .ok (.aload_n 3, 1) := by decide +kernel
theorem d_Ca_hold_24 : decode c_Ca_hold 24 = .ok (.invokevirtual 46, 3) := by decide +kernel
theorem d_Ca_hold_27 : decode c_Ca_hold 27 = .ok (.istore 6, 2) := by decide +kernel
theorem d_Ca_hold_29 : decode c_Ca_hold 29 = .ok (.aload_n 0, 1) := by decide +kernel
theorem d_Ca_hold_30 : decode c_Ca_hold 30 = .ok (.getfield 15, 3) := by decide +kernel
theorem d_Ca_hold_33 : decode c_Ca_hold 33 = .ok (.iload 5, 2) := by decide +kernel
theorem d_Ca_hold_35 : decode c_Ca_hold 35 = .ok (.iload 6, 2) := by decide +kernel
theorem d_Ca_hold_37 : decode c_Ca_hold 37 = .ok (.iastore, 1) := by decide +kernel
theorem d_Ca_hold_38 : decode c_Ca_hold 38 = .ok (.iload 6, 2) := by decide +kernel
theorem d_Ca_hold_40 : decode c_Ca_hold 40 = .ok (.istore 4, 2) := by decide +kernel
theorem d_Ca_hold_42 : decode c_Ca_hold 42 = .ok (.iinc 5 1, 3) := by decide +kernel
theorem d_Ca_hold_45 : decode c_Ca_hold 45 = .ok (.goto (-34), 3) := by decide +kernel
theorem d_Ca_hold_48 : decode c_Ca_hold 48 = .ok (.return_, 1) := by decide +kernel
theorem d_He_init_0 : decode c_He_init 0 = .ok (.aload_n 0, 1) := by decide +kernel
theorem d_He_init_1 : decode c_He_init 1 = .ok (.invokespecial 3, 3) := by decide +kernel
theorem d_He_init_4 : decode c_He_init 4 = .ok (.aload_n 0, 1) := by decide +kernel
theorem d_He_init_5 : decode c_He_init 5 = .ok (.iconst 0, 1) := by decide +kernel
theorem d_He_init_6 : decode c_He_init 6 = .ok (.putfield 9, 3) := by decide +kernel
theorem d_He_init_9 : decode c_He_init 9 = .ok (.aload_n 0, 1) := by decide +kernel
theorem d_He_init_10 : decode c_He_init 10 = .ok (.lconst 0, 1) := by decide +kernel
theorem d_He_init_11 : decode c_He_init 11 = .ok (.putfield 15, 3) := by decide +kernel
theorem d_He_init_14 : decode c_He_init 14 = .ok (.aload_n 0, 1) := by decide +kernel
theorem d_He_init_15 : decode c_He_init 15 = .ok (.bipush 6, 2) := by decide +kernel
theorem d_He_init_17 : decode c_He_init 17 = .ok (.newarray .int, 2) := by decide +kernel
theorem d_He_init_19 : decode c_He_init 19 = .ok (.putfield 19, 3) := by decide +kernel
theorem d_He_init_22 : decode c_He_init 22 = .ok (.return_, 1) := by decide +kernel
theorem d_He_drop_0 : decode c_He_drop 0 = .ok (.aload_n 0, 1) := by decide +kernel
theorem d_He_drop_1 : decode c_He_drop 1 = .ok (.iconst 0, 1) := by decide +kernel
theorem d_He_drop_2 : decode c_He_drop 2 = .ok (.putfield 9, 3) := by decide +kernel
theorem d_He_drop_5 : decode c_He_drop 5 = .ok (.return_, 1) := by decide +kernel
theorem d_He_keep_0 : decode c_He_keep 0 = .ok (.aload_n 0, 1) := by decide +kernel
theorem d_He_keep_1 : decode c_He_keep 1 = .ok (.iconst 1, 1) := by decide +kernel
theorem d_He_keep_2 : decode c_He_keep 2 = .ok (.putfield 9, 3) := by decide +kernel
theorem d_He_keep_5 : decode c_He_keep 5 = .ok (.aload_n 0, 1) := by decide +kernel
theorem d_He_keep_6 : decode c_He_keep 6 = .ok (.lload_n 2, 1) := by decide +kernel
theorem d_He_keep_7 : decode c_He_keep 7 = .ok (.putfield 15, 3) := by decide +kernel
theorem d_He_keep_10 : decode c_He_keep 10 = .ok (.aload_n 1, 1) := by decide +kernel
theorem d_He_keep_11 : decode c_He_keep 11 = .ok (.iconst 0, 1) := by decide +kernel
theorem d_He_keep_12 : decode c_He_keep 12 = .ok (.aload_n 0, 1) := by decide +kernel
theorem d_He_keep_13 : decode c_He_keep 13 = .ok (.getfield 19, 3) := by decide +kernel
theorem d_He_keep_16 : decode c_He_keep 16 = .ok (.iconst 0, 1) := by decide +kernel
theorem d_He_keep_17 : decode c_He_keep 17 = .ok (.bipush 6, 2) := by decide +kernel
theorem d_He_keep_19 : decode c_He_keep 19 = .ok (.invokestatic 23, 3) := by decide +kernel
theorem d_He_keep_22 : decode c_He_keep 22 = .ok (.return_, 1) := by decide +kernel
theorem d_He_placeFor_0 : decode c_He_placeFor 0 = .ok (.aload_n 0, 1) := by decide +kernel
theorem d_He_placeFor_1 : decode c_He_placeFor 1 = .ok (.getfield 9, 3) := by decide +kernel
theorem d_He_placeFor_4 : decode c_He_placeFor 4 = .ok (.ifCond .eq 22, 3) := by decide +kernel
theorem d_He_placeFor_7 : decode c_He_placeFor 7 = .ok (.iload_n 1, 1) := by decide +kernel
theorem d_He_placeFor_8 : decode c_He_placeFor 8 = .ok (.ifCond .lt 18, 3) := by decide +kernel
theorem d_He_placeFor_11 : decode c_He_placeFor 11 = .ok (.iload_n 1, 1) := by decide +kernel
theorem d_He_placeFor_12 : decode c_He_placeFor 12 = .ok (.bipush 6, 2) := by decide +kernel
theorem d_He_placeFor_14 : decode c_He_placeFor 14 = .ok (.if_icmp .ge 12, 3) := by decide +kernel
theorem d_He_placeFor_17 : decode c_He_placeFor 17 = .ok (.aload_n 0, 1) := by decide +kernel
theorem d_He_placeFor_18 : decode c_He_placeFor 18 = .ok (.getfield 19, 3) := by decide +kernel
theorem d_He_placeFor_21 : decode c_He_placeFor 21 = .ok (.iload_n 1, 1) := by decide +kernel
theorem d_He_placeFor_22 : decode c_He_placeFor 22 = .ok (.iaload, 1) := by decide +kernel
theorem d_He_placeFor_23 : decode c_He_placeFor 23 = .ok (.goto 4, 3) := by decide +kernel
theorem d_He_placeFor_26 : decode c_He_placeFor 26 = .ok (.iconst (-1), 1) := by decide +kernel
theorem d_He_placeFor_27 : decode c_He_placeFor 27 = .ok (.ireturn, 1) := by decide +kernel
theorem d_He_gives_0 : decode c_He_gives 0 = .ok (.iconst 0, 1) := by decide +kernel
theorem d_He_gives_1 : decode c_He_gives 1 = .ok (.istore_n 2, 1) := by decide +kernel
theorem d_He_gives_2 : decode c_He_gives 2 = .ok (.iload_n 2, 1) := by decide +kernel
theorem d_He_gives_3 : decode c_He_gives 3 = .ok (.bipush 6, 2) := by decide +kernel
theorem d_He_gives_5 : decode c_He_gives 5 = .ok (.if_icmp .ge 20, 3) := by decide +kernel
theorem d_He_gives_8 : decode c_He_gives 8 = .ok (.aload_n 0, 1) := by decide +kernel
theorem d_He_gives_9 : decode c_He_gives 9 = .ok (.iload_n 2, 1) := by decide +kernel
theorem d_He_gives_10 : decode c_He_gives 10 = .ok (.invokevirtual 29, 3) := by decide +kernel
theorem d_He_gives_13 : decode c_He_gives 13 = .ok (.iload_n 1, 1) := by decide +kernel
theorem d_He_gives_14 : decode c_He_gives 14 = .ok (.if_icmp .ne 5, 3) := by decide +kernel
theorem d_He_gives_17 : decode c_He_gives 17 = .ok (.iconst 1, 1) := by decide +kernel
theorem d_He_gives_18 : decode c_He_gives 18 = .ok (.ireturn, 1) := by decide +kernel
theorem d_He_gives_19 : decode c_He_gives 19 = .ok (.iinc 2 1, 3) := by decide +kernel
theorem d_He_gives_22 : decode c_He_gives 22 = .ok (.goto (-20), 3) := by decide +kernel
theorem d_He_gives_25 : decode c_He_gives 25 = .ok (.iconst 0, 1) := by decide +kernel
theorem d_He_gives_26 : decode c_He_gives 26 = .ok (.ireturn, 1) := by decide +kernel
theorem d_He_reckonTotal_0 : decode c_He_reckonTotal 0 = .ok (.aload_n 0, 1) := by decide +kernel
theorem d_He_reckonTotal_1 : decode c_He_reckonTotal 1 = .ok (.lconst 0, 1) := by decide +kernel
theorem d_He_reckonTotal_2 : decode c_He_reckonTotal 2 = .ok (.putfield 15, 3) := by decide +kernel
theorem d_He_reckonTotal_5 : decode c_He_reckonTotal 5 = .ok (.iconst 0, 1) := by decide +kernel
theorem d_He_reckonTotal_6 : decode c_He_reckonTotal 6 = .ok (.istore_n 2, 1) := by decide +kernel
theorem d_He_reckonTotal_7 : decode c_He_reckonTotal 7 = .ok (.iload_n 2, 1) := by decide +kernel
theorem d_He_reckonTotal_8 : decode c_He_reckonTotal 8 = .ok (.aload_n 1, 1) := by decide +kernel
theorem d_He_reckonTotal_9 : decode c_He_reckonTotal 9 = .ok (.getfield 33, 3) := by decide +kernel
theorem d_He_reckonTotal_12 : decode c_He_reckonTotal 12 = .ok (.if_icmp .ge 48, 3) := by decide +kernel
theorem d_He_reckonTotal_15 : decode c_He_reckonTotal 15 = .ok (.aload_n 0, 1) := by decide +kernel
theorem d_He_reckonTotal_16 : decode c_He_reckonTotal 16 = .ok (.getfield 19, 3) := by decide +kernel
theorem d_He_reckonTotal_19 : decode c_He_reckonTotal 19 = .ok (.iload_n 2, 1) := by decide +kernel
theorem d_He_reckonTotal_20 : decode c_He_reckonTotal 20 = .ok (.iaload, 1) := by decide +kernel
theorem d_He_reckonTotal_21 : decode c_He_reckonTotal 21 = .ok (.istore_n 3, 1) := by decide +kernel
theorem d_He_reckonTotal_22 : decode c_He_reckonTotal 22 = .ok (.aload_n 1, 1) := by decide +kernel
theorem d_He_reckonTotal_23 : decode c_He_reckonTotal 23 = .ok (.iload_n 3, 1) := by decide +kernel
theorem d_He_reckonTotal_24 : decode c_He_reckonTotal 24 = .ok (.invokevirtual 39, 3) := by decide +kernel
theorem d_He_reckonTotal_27 : decode c_He_reckonTotal 27 = .ok (.ifCond .eq 27, 3) := by decide +kernel
theorem d_He_reckonTotal_30 : decode c_He_reckonTotal 30 = .ok (.aload_n 0, 1) := by decide +kernel
theorem d_He_reckonTotal_31 : decode c_He_reckonTotal 31 = .ok (.dup, 1) := by decide +kernel
theorem d_He_reckonTotal_32 : decode c_He_reckonTotal 32 = .ok (.getfield 15, 3) := by decide +kernel
theorem d_He_reckonTotal_35 : decode c_He_reckonTotal 35 = .ok (.aload_n 1, 1) := by decide +kernel
theorem d_He_reckonTotal_36 : decode c_He_reckonTotal 36 = .ok (.getfield 43, 3) := by decide +kernel
theorem d_He_reckonTotal_39 : decode c_He_reckonTotal 39 = .ok (.iload_n 2, 1) := by decide +kernel
theorem d_He_reckonTotal_40 : decode c_He_reckonTotal 40 = .ok (.laload, 1) := by decide +kernel
theorem d_He_reckonTotal_41 : decode c_He_reckonTotal 41 = .ok (.aload_n 1, 1) := by decide +kernel
theorem d_He_reckonTotal_42 : decode c_He_reckonTotal 42 = .ok (.getfield 47, 3) := by decide +kernel
theorem d_He_reckonTotal_45 : decode c_He_reckonTotal 45 = .ok (.iload_n 2, 1) := by decide +kernel
theorem d_He_reckonTotal_46 : decode c_He_reckonTotal 46 = .ok (.aaload, 1) := by decide +kernel
theorem d_He_reckonTotal_47 : decode c_He_reckonTotal 47 = .ok (.iload_n 3, 1) := by decide +kernel
theorem d_He_reckonTotal_48 : decode c_He_reckonTotal 48 = .ok (.laload, 1) := by decide +kernel
theorem d_He_reckonTotal_49 : decode c_He_reckonTotal 49 = .ok (.lmul, 1) := by decide +kernel
theorem d_He_reckonTotal_50 : decode c_He_reckonTotal 50 = .ok (.ladd, 1) := by decide +kernel
theorem d_He_reckonTotal_51 : decode c_He_reckonTotal 51 = .ok (.putfield 15, 3) := by decide +kernel
theorem d_He_reckonTotal_54 : decode c_He_reckonTotal 54 = .ok (.iinc 2 1, 3) := by decide +kernel
theorem d_He_reckonTotal_57 : decode c_He_reckonTotal 57 = .ok (.goto (-50), 3) := by decide +kernel
theorem d_He_reckonTotal_60 : decode c_He_reckonTotal 60 = .ok (.return_, 1) := by decide +kernel
theorem d_He_exchangeFirst_0 : decode c_He_exchangeFirst 0 = .ok (.iconst 0, 1) := by decide +kernel
theorem d_He_exchangeFirst_1 : decode c_He_exchangeFirst 1 = .ok (.istore_n 3, 1) := by decide +kernel
theorem d_He_exchangeFirst_2 : decode c_He_exchangeFirst 2 = .ok (.iload_n 3, 1) := by decide +kernel
theorem d_He_exchangeFirst_3 : decode c_He_exchangeFirst 3 = .ok (.aload_n 1, 1) := by decide +kernel
theorem d_He_exchangeFirst_4 : decode c_He_exchangeFirst 4 = .ok (.getfield 33, 3) := by decide +kernel
theorem d_He_exchangeFirst_7 : decode c_He_exchangeFirst 7 = .ok (.if_icmp .ge 41, 3) := by decide +kernel
theorem d_He_exchangeFirst_10 : decode c_He_exchangeFirst 10 = .ok (.iconst 0, 1) := by decide +kernel
theorem d_He_exchangeFirst_11 : decode c_He_exchangeFirst 11 = .ok (.istore 4, 2) := by decide +kernel
theorem d_He_exchangeFirst_13 : decode c_He_exchangeFirst 13 = .ok (.iload 4, 2) := by decide +kernel
theorem d_He_exchangeFirst_15 : decode c_He_exchangeFirst 15 = .ok (.aload_n 1, 1) := by decide +kernel
theorem d_He_exchangeFirst_16 : decode c_He_exchangeFirst 16 = .ok (.getfield 51, 3) := by decide +kernel
theorem d_He_exchangeFirst_19 : decode c_He_exchangeFirst 19 = .ok (.if_icmp .ge 23, 3) := by decide +kernel
theorem d_He_exchangeFirst_22 : decode c_He_exchangeFirst 22 = .ok (.aload_n 0, 1) := by decide +kernel
theorem d_He_exchangeFirst_23 : decode c_He_exchangeFirst 23 = .ok (.iload_n 3, 1) := by decide +kernel
theorem d_He_exchangeFirst_24 : decode c_He_exchangeFirst 24 = .ok (.iload 4, 2) := by decide +kernel
theorem d_He_exchangeFirst_26 : decode c_He_exchangeFirst 26 = .ok (.aload_n 1, 1) := by decide +kernel
theorem d_He_exchangeFirst_27 : decode c_He_exchangeFirst 27 = .ok (.aload_n 2, 1) := by decide +kernel
theorem d_He_exchangeFirst_28 : decode c_He_exchangeFirst 28 = .ok (.invokevirtual 54, 3) := by decide +kernel
theorem d_He_exchangeFirst_31 : decode c_He_exchangeFirst 31 = .ok (.ifCond .eq 5, 3) := by decide +kernel
theorem d_He_exchangeFirst_34 : decode c_He_exchangeFirst 34 = .ok (.iconst 1, 1) := by decide +kernel
theorem d_He_exchangeFirst_35 : decode c_He_exchangeFirst 35 = .ok (.ireturn, 1) := by decide +kernel
theorem d_He_exchangeFirst_36 : decode c_He_exchangeFirst 36 = .ok (.iinc 4 1, 3) := by decide +kernel
theorem d_He_exchangeFirst_39 : decode c_He_exchangeFirst 39 = .ok (.goto (-26), 3) := by decide +kernel
theorem d_He_exchangeFirst_42 : decode c_He_exchangeFirst 42 = .ok (.iinc 3 1, 3) := by decide +kernel
theorem d_He_exchangeFirst_45 : decode c_He_exchangeFirst 45 = .ok (.goto (-43), 3) := by decide +kernel
theorem d_He_exchangeFirst_48 : decode c_He_exchangeFirst 48 = .ok (.iconst 0, 1) := by decide +kernel
theorem d_He_exchangeFirst_49 : decode c_He_exchangeFirst 49 = .ok (.ireturn, 1) := by decide +kernel
theorem d_He_exchange_0 : decode c_He_exchange 0 = .ok (.aload_n 0, 1) := by decide +kernel
theorem d_He_exchange_1 : decode c_He_exchange 1 = .ok (.getfield 19, 3) := by decide +kernel
theorem d_He_exchange_4 : decode c_He_exchange 4 = .ok (.iload_n 1, 1) := by decide +kernel
theorem d_He_exchange_5 : decode c_He_exchange 5 = .ok (.iaload, 1) := by decide +kernel
theorem d_He_exchange_6 : decode c_He_exchange 6 = .ok (.istore 5, 2) := by decide +kernel
theorem d_He_exchange_8 : decode c_He_exchange 8 = .ok (.aload_n 3, 1) := by decide +kernel
theorem d_He_exchange_9 : decode c_He_exchange 9 = .ok (.iload_n 1, 1) := by decide +kernel
theorem d_He_exchange_10 : decode c_He_exchange 10 = .ok (.iload_n 2, 1) := by decide +kernel
theorem d_He_exchange_11 : decode c_He_exchange 11 = .ok (.invokevirtual 58, 3) := by decide +kernel
theorem d_He_exchange_14 : decode c_He_exchange 14 = .ok (.lstore 6, 2) := by decide +kernel
theorem d_He_exchange_16 : decode c_He_exchange 16 = .ok (.aload_n 3, 1) := by decide +kernel
theorem d_He_exchange_17 : decode c_He_exchange 17 = .ok (.iload 5, 2) := by decide +kernel
theorem d_He_exchange_19 : decode c_He_exchange 19 = .ok (.invokevirtual 39, 3) := by decide +kernel
theorem d_He_exchange_22 : decode c_He_exchange 22 = .ok (.ifCond .eq 27, 3) := by decide +kernel
theorem d_He_exchange_25 : decode c_He_exchange 25 = .ok (.lload 6, 2) := by decide +kernel
theorem d_He_exchange_27 : decode c_He_exchange 27 = .ok (.ldc2_w 62, 3) := by decide +kernel
theorem d_He_exchange_30 : decode c_He_exchange 30 = .ok (.lcmp, 1) := by decide +kernel
theorem d_He_exchange_31 : decode c_He_exchange 31 = .ok (.ifCond .eq 18, 3) := by decide +kernel
theorem d_He_exchange_34 : decode c_He_exchange 34 = .ok (.lload 6, 2) := by decide +kernel
theorem d_He_exchange_36 : decode c_He_exchange 36 = .ok (.aload_n 3, 1) := by decide +kernel
theorem d_He_exchange_37 : decode c_He_exchange 37 = .ok (.getfield 47, 3) := by decide +kernel
theorem d_He_exchange_40 : decode c_He_exchange 40 = .ok (.iload_n 1, 1) := by decide +kernel
theorem d_He_exchange_41 : decode c_He_exchange 41 = .ok (.aaload, 1) := by decide +kernel
theorem d_He_exchange_42 : decode c_He_exchange 42 = .ok (.iload 5, 2) := by decide +kernel
theorem d_He_exchange_44 : decode c_He_exchange 44 = .ok (.laload, 1) := by decide +kernel
theorem d_He_exchange_45 : decode c_He_exchange 45 = .ok (.lcmp, 1) := by decide +kernel
theorem d_He_exchange_46 : decode c_He_exchange 46 = .ok (.ifCond .lt 5, 3) := by decide +kernel
theorem d_He_exchange_49 : decode c_He_exchange 49 = .ok (.iconst 0, 1) := by decide +kernel
theorem d_He_exchange_50 : decode c_He_exchange 50 = .ok (.ireturn, 1) := by decide +kernel
theorem d_He_exchange_51 : decode c_He_exchange 51 = .ok (.aload_n 0, 1) := by decide +kernel
theorem d_He_exchange_52 : decode c_He_exchange 52 = .ok (.getfield 19, 3) := by decide +kernel
theorem d_He_exchange_55 : decode c_He_exchange 55 = .ok (.iload_n 1, 1) := by decide +kernel
theorem d_He_exchange_56 : decode c_He_exchange 56 = .ok (.iload_n 2, 1) := by decide +kernel
theorem d_He_exchange_57 : decode c_He_exchange 57 = .ok (.iastore, 1) := by decide +kernel
theorem d_He_exchange_58 : decode c_He_exchange 58 = .ok (.aload 4, 2) := by decide +kernel
theorem d_He_exchange_60 : decode c_He_exchange 60 = .ok (.aload_n 0, 1) := by decide +kernel
theorem d_He_exchange_61 : decode c_He_exchange 61 = .ok (.getfield 19, 3) := by decide +kernel
theorem d_He_exchange_64 : decode c_He_exchange 64 = .ok (.invokevirtual 64, 3) := by decide +kernel
theorem d_He_exchange_67 : decode c_He_exchange 67 = .ok (.ifCond .eq 5, 3) := by decide +kernel
theorem d_He_exchange_70 : decode c_He_exchange 70 = .ok (.iconst 1, 1) := by decide +kernel
theorem d_He_exchange_71 : decode c_He_exchange 71 = .ok (.ireturn, 1) := by decide +kernel
theorem d_He_exchange_72 : decode c_He_exchange 72 = .ok (.aload_n 0, 1) := by decide +kernel
theorem d_He_exchange_73 : decode c_He_exchange 73 = .ok (.getfield 19, 3) := by decide +kernel
theorem d_He_exchange_76 : decode c_He_exchange 76 = .ok (.iload_n 1, 1) := by decide +kernel
theorem d_He_exchange_77 : decode c_He_exchange 77 = .ok (.iload 5, 2) := by decide +kernel
theorem d_He_exchange_79 : decode c_He_exchange 79 = .ok (.iastore, 1) := by decide +kernel
theorem d_He_exchange_80 : decode c_He_exchange 80 = .ok (.iconst 0, 1) := by decide +kernel
theorem d_He_exchange_81 : decode c_He_exchange 81 = .ok (.ireturn, 1) := by decide +kernel
theorem d_Se_init_0 : decode c_Se_init 0 = .ok (.aload_n 0, 1) := by decide +kernel
theorem d_Se_init_1 : decode c_Se_init 1 = .ok (.invokespecial 3, 3) := by decide +kernel
theorem d_Se_init_4 : decode c_Se_init 4 = .ok (.aload_n 0, 1) := by decide +kernel
theorem d_Se_init_5 : decode c_Se_init 5 = .ok (.iconst 0, 1) := by decide +kernel
theorem d_Se_init_6 : decode c_Se_init 6 = .ok (.putfield 9, 3) := by decide +kernel
theorem d_Se_init_9 : decode c_Se_init 9 = .ok (.aload_n 0, 1) := by decide +kernel
theorem d_Se_init_10 : decode c_Se_init 10 = .ok (.iconst 0, 1) := by decide +kernel
theorem d_Se_init_11 : decode c_Se_init 11 = .ok (.putfield 15, 3) := by decide +kernel
theorem d_Se_init_14 : decode c_Se_init 14 = .ok (.aload_n 0, 1) := by decide +kernel
theorem d_Se_init_15 : decode c_Se_init 15 = .ok (.bipush 6, 2) := by decide +kernel
theorem d_Se_init_17 : decode c_Se_init 17 = .ok (.newarray .long, 2) := by decide +kernel
theorem d_Se_init_19 : decode c_Se_init 19 = .ok (.putfield 18, 3) := by decide +kernel
theorem d_Se_init_22 : decode c_Se_init 22 = .ok (.aload_n 0, 1) := by decide +kernel
theorem d_Se_init_23 : decode c_Se_init 23 = .ok (.iconst 5, 1) := by decide +kernel
theorem d_Se_init_24 : decode c_Se_init 24 = .ok (.newarray .long, 2) := by decide +kernel
theorem d_Se_init_26 : decode c_Se_init 26 = .ok (.putfield 22, 3) := by decide +kernel
theorem d_Se_init_29 : decode c_Se_init 29 = .ok (.aload_n 0, 1) := by decide +kernel
theorem d_Se_init_30 : decode c_Se_init 30 = .ok (.bipush 6, 2) := by decide +kernel
theorem d_Se_init_32 : decode c_Se_init 32 = .ok (.iconst 5, 1) := by decide +kernel
theorem d_Se_init_33 : decode c_Se_init 33 = .ok (.multianewarray 25 2, 4) := by decide +kernel
theorem d_Se_init_37 : decode c_Se_init 37 = .ok (.putfield 27, 3) := by decide +kernel
theorem d_Se_init_40 : decode c_Se_init 40 = .ok (.aload_n 0, 1) := by decide +kernel
theorem d_Se_init_41 : decode c_Se_init 41 = .ok (.bipush 32, 2) := by decide +kernel
theorem d_Se_init_43 : decode c_Se_init 43 = .ok (.newarray .boolean, 2) := by decide +kernel
theorem d_Se_init_45 : decode c_Se_init 45 = .ok (.putfield 30, 3) := by decide +kernel
theorem d_Se_init_48 : decode c_Se_init 48 = .ok (.aload_n 0, 1) := by decide +kernel
theorem d_Se_init_49 : decode c_Se_init 49 = .ok (.bipush 32, 2) := by decide +kernel
theorem d_Se_init_51 : decode c_Se_init 51 = .ok (.newarray .long, 2) := by decide +kernel
theorem d_Se_init_53 : decode c_Se_init 53 = .ok (.putfield 34, 3) := by decide +kernel
theorem d_Se_init_56 : decode c_Se_init 56 = .ok (.aload_n 0, 1) := by decide +kernel
theorem d_Se_init_57 : decode c_Se_init 57 = .ok (.bipush 7, 2) := by decide +kernel
theorem d_Se_init_59 : decode c_Se_init 59 = .ok (.newarray .long, 2) := by decide +kernel
theorem d_Se_init_61 : decode c_Se_init 61 = .ok (.putfield 37, 3) := by decide +kernel
theorem d_Se_init_64 : decode c_Se_init 64 = .ok (.aload_n 0, 1) := by decide +kernel
theorem d_Se_init_65 : decode c_Se_init 65 = .ok (.iconst 5, 1) := by decide +kernel
theorem d_Se_init_66 : decode c_Se_init 66 = .ok (.newarray .long, 2) := by decide +kernel
theorem d_Se_init_68 : decode c_Se_init 68 = .ok (.putfield 40, 3) := by decide +kernel
theorem d_Se_init_71 : decode c_Se_init 71 = .ok (.aload_n 0, 1) := by decide +kernel
theorem d_Se_init_72 : decode c_Se_init 72 = .ok (.bipush 6, 2) := by decide +kernel
theorem d_Se_init_74 : decode c_Se_init 74 = .ok (.newarray .int, 2) := by decide +kernel
theorem d_Se_init_76 : decode c_Se_init 76 = .ok (.putfield 43, 3) := by decide +kernel
theorem d_Se_init_79 : decode c_Se_init 79 = .ok (.aload_n 0, 1) := by decide +kernel
theorem d_Se_init_80 : decode c_Se_init 80 = .ok (.bipush 6, 2) := by decide +kernel
theorem d_Se_init_82 : decode c_Se_init 82 = .ok (.newarray .int, 2) := by decide +kernel
theorem d_Se_init_84 : decode c_Se_init 84 = .ok (.putfield 47, 3) := by decide +kernel
theorem d_Se_init_87 : decode c_Se_init 87 = .ok (.aload_n 0, 1) := by decide +kernel
theorem d_Se_init_88 : decode c_Se_init 88 = .ok (.ldc2_w 50, 3) := by decide +kernel
theorem d_Se_init_91 : decode c_Se_init 91 = .ok (.putfield 52, 3) := by decide +kernel
theorem d_Se_init_94 : decode c_Se_init 94 = .ok (.aload_n 0, 1) := by decide +kernel
theorem d_Se_init_95 : decode c_Se_init 95 = .ok (.iconst 0, 1) := by decide +kernel
theorem d_Se_init_96 : decode c_Se_init 96 = .ok (.putfield 56, 3) := by decide +kernel
theorem d_Se_init_99 : decode c_Se_init 99 = .ok (.aload_n 0, 1) := by decide +kernel
theorem d_Se_init_100 : decode c_Se_init 100 = .ok (.iconst 0, 1) := by decide +kernel
theorem d_Se_init_101 : decode c_Se_init 101 = .ok (.putfield 59, 3) := by decide +kernel
theorem d_Se_init_104 : decode c_Se_init 104 = .ok (.return_, 1) := by decide +kernel
theorem d_Se_load_0 : decode c_Se_load 0 = .ok (.aload_n 0, 1) := by decide +kernel
theorem d_Se_load_1 : decode c_Se_load 1 = .ok (.aload_n 1, 1) := by decide +kernel
theorem d_Se_load_2 : decode c_Se_load 2 = .ok (.getfield 63, 3) := by decide +kernel
theorem d_Se_load_5 : decode c_Se_load 5 = .ok (.putfield 9, 3) := by decide +kernel
theorem d_Se_load_8 : decode c_Se_load 8 = .ok (.aload_n 0, 1) := by decide +kernel
theorem d_Se_load_9 : decode c_Se_load 9 = .ok (.aload_n 1, 1) := by decide +kernel
theorem d_Se_load_10 : decode c_Se_load 10 = .ok (.getfield 66, 3) := by decide +kernel
theorem d_Se_load_13 : decode c_Se_load 13 = .ok (.putfield 15, 3) := by decide +kernel
theorem d_Se_load_16 : decode c_Se_load 16 = .ok (.aload_n 0, 1) := by decide +kernel
theorem d_Se_load_17 : decode c_Se_load 17 = .ok (.aload_n 1, 1) := by decide +kernel
theorem d_Se_load_18 : decode c_Se_load 18 = .ok (.iconst 0, 1) := by decide +kernel
theorem d_Se_load_19 : decode c_Se_load 19 = .ok (.invokevirtual 67, 3) := by decide +kernel
theorem d_Se_load_22 : decode c_Se_load 22 = .ok (.iconst 0, 1) := by decide +kernel
theorem d_Se_load_23 : decode c_Se_load 23 = .ok (.istore_n 3, 1) := by decide +kernel
theorem d_Se_load_24 : decode c_Se_load 24 = .ok (.iload_n 3, 1) := by decide +kernel
theorem d_Se_load_25 : decode c_Se_load 25 = .ok (.aload_n 0, 1) := by decide +kernel
theorem d_Se_load_26 : decode c_Se_load 26 = .ok (.getfield 15, 3) := by decide +kernel
theorem d_Se_load_29 : decode c_Se_load 29 = .ok (.if_icmp .ge 66, 3) := by decide +kernel
theorem d_Se_load_32 : decode c_Se_load 32 = .ok (.aload_n 0, 1) := by decide +kernel
theorem d_Se_load_33 : decode c_Se_load 33 = .ok (.getfield 22, 3) := by decide +kernel
theorem d_Se_load_36 : decode c_Se_load 36 = .ok (.iload_n 3, 1) := by decide +kernel
theorem d_Se_load_37 : decode c_Se_load 37 = .ok (.iload_n 3, 1) := by decide +kernel
theorem d_Se_load_38 : decode c_Se_load 38 = .ok (.iload_n 2, 1) := by decide +kernel
theorem d_Se_load_39 : decode c_Se_load 39 = .ok (.if_icmp .ne 9, 3) := by decide +kernel
theorem d_Se_load_42 : decode c_Se_load 42 = .ok (.ldc2_w 71, 3) := by decide +kernel
theorem d_Se_load_45 : decode c_Se_load 45 = .ok (.goto 9, 3) := by decide +kernel
theorem d_Se_load_48 : decode c_Se_load 48 = .ok (.aload_n 1, 1) := by decide +kernel
theorem d_Se_load_49 : decode c_Se_load 49 = .ok (.getfield 73, 3) := by decide +kernel
theorem d_Se_load_52 : decode c_Se_load 52 = .ok (.iload_n 3, 1) := by decide +kernel
theorem d_Se_load_53 : decode c_Se_load 53 = .ok (.laload, 1) := by decide +kernel
theorem d_Se_load_54 : decode c_Se_load 54 = .ok (.lastore, 1) := by decide +kernel
theorem d_Se_load_55 : decode c_Se_load 55 = .ok (.iconst 0, 1) := by decide +kernel
theorem d_Se_load_56 : decode c_Se_load 56 = .ok (.istore 4, 2) := by decide +kernel
theorem d_Se_load_58 : decode c_Se_load 58 = .ok (.iload 4, 2) := by decide +kernel
theorem d_Se_load_60 : decode c_Se_load 60 = .ok (.aload_n 0, 1) := by decide +kernel
theorem d_Se_load_61 : decode c_Se_load 61 = .ok (.getfield 9, 3) := by decide +kernel
theorem d_Se_load_64 : decode c_Se_load 64 = .ok (.if_icmp .ge 25, 3) := by decide +kernel
theorem d_Se_load_67 : decode c_Se_load 67 = .ok (.aload_n 0, 1) := by decide +kernel
theorem d_Se_load_68 : decode c_Se_load 68 = .ok (.getfield 27, 3) := by decide +kernel
theorem d_Se_load_71 : decode c_Se_load 71 = .ok (.iload 4, 2) := by decide +kernel
theorem d_Se_load_73 : decode c_Se_load 73 = .ok (.aaload, 1) := by decide +kernel
theorem d_Se_load_74 : decode c_Se_load 74 = .ok (.iload_n 3, 1) := by decide +kernel
theorem d_Se_load_75 : decode c_Se_load 75 = .ok (.aload_n 1, 1) := by decide +kernel
theorem d_Se_load_76 : decode c_Se_load 76 = .ok (.iload 4, 2) := by decide +kernel
theorem d_Se_load_78 : decode c_Se_load 78 = .ok (.iload_n 3, 1) := by decide +kernel
theorem d_Se_load_79 : decode c_Se_load 79 = .ok (.invokevirtual 74, 3) := by decide +kernel
theorem d_Se_load_82 : decode c_Se_load 82 = .ok (.lastore, 1) := by decide +kernel
theorem d_Se_load_83 : decode c_Se_load 83 = .ok (.iinc 4 1, 3) := by decide +kernel
theorem d_Se_load_86 : decode c_Se_load 86 = .ok (.goto (-28), 3) := by decide +kernel
theorem d_Se_load_89 : decode c_Se_load 89 = .ok (.iinc 3 1, 3) := by decide +kernel
theorem d_Se_load_92 : decode c_Se_load 92 = .ok (.goto (-68), 3) := by decide +kernel
theorem d_Se_load_95 : decode c_Se_load 95 = .ok (.aload_n 0, 1) := by decide +kernel
theorem d_Se_load_96 : decode c_Se_load 96 = .ok (.aload_n 1, 1) := by decide +kernel
theorem d_Se_load_97 : decode c_Se_load 97 = .ok (.iload_n 2, 1) := by decide +kernel
theorem d_Se_load_98 : decode c_Se_load 98 = .ok (.invokevirtual 78, 3) := by decide +kernel
theorem d_Se_load_101 : decode c_Se_load 101 = .ok (.return_, 1) := by decide +kernel
theorem d_Se_loadNeedsOfYear_0 : decode c_Se_loadNeedsOfYear 0 = .ok (.iconst 0, 1) := by decide +kernel
theorem d_Se_loadNeedsOfYear_1 : decode c_Se_loadNeedsOfYear 1 = .ok (.istore_n 3, 1) := by decide +kernel
theorem d_Se_loadNeedsOfYear_2 : decode c_Se_loadNeedsOfYear 2 = .ok (.iload_n 3, 1) := by decide +kernel
theorem d_Se_loadNeedsOfYear_3 : decode c_Se_loadNeedsOfYear 3 = .ok (.aload_n 0, 1) := by decide +kernel
theorem d_Se_loadNeedsOfYear_4 : decode c_Se_loadNeedsOfYear 4 = .ok (.getfield 9, 3) := by decide +kernel
theorem d_Se_loadNeedsOfYear_7 : decode c_Se_loadNeedsOfYear 7 = .ok (.if_icmp .ge 35, 3) := by decide +kernel
theorem d_Se_loadNeedsOfYear_10 : decode c_Se_loadNeedsOfYear 10 = .ok (.aload_n 0, 1) := by decide +kernel
theorem d_Se_loadNeedsOfYear_11 : decode c_Se_loadNeedsOfYear 11 = .ok (.getfield 18, 3) := by decide +kernel
theorem d_Se_loadNeedsOfYear_14 : decode c_Se_loadNeedsOfYear 14 = .ok (.iload_n 3, 1) := by decide +kernel
theorem d_Se_loadNeedsOfYear_15 : decode c_Se_loadNeedsOfYear 15 = .ok (.aload_n 1, 1) := by decide +kernel
theorem d_Se_loadNeedsOfYear_16 : decode c_Se_loadNeedsOfYear 16 = .ok (.getfield 81, 3) := by decide +kernel
theorem d_Se_loadNeedsOfYear_19 : decode c_Se_loadNeedsOfYear 19 = .ok (.iload_n 3, 1) := by decide +kernel
theorem d_Se_loadNeedsOfYear_20 : decode c_Se_loadNeedsOfYear 20 = .ok (.laload, 1) := by decide +kernel
theorem d_Se_loadNeedsOfYear_21 : decode c_Se_loadNeedsOfYear 21 = .ok (.iload_n 2, 1) := by decide +kernel
theorem d_Se_loadNeedsOfYear_22 : decode c_Se_loadNeedsOfYear 22 = .ok (.i2l, 1) := by decide +kernel
theorem d_Se_loadNeedsOfYear_23 : decode c_Se_loadNeedsOfYear 23 = .ok (.aload_n 1, 1) := by decide +kernel
theorem d_Se_loadNeedsOfYear_24 : decode c_Se_loadNeedsOfYear 24 = .ok (.getfield 81, 3) := by decide +kernel
theorem d_Se_loadNeedsOfYear_27 : decode c_Se_loadNeedsOfYear 27 = .ok (.iload_n 3, 1) := by decide +kernel
theorem d_Se_loadNeedsOfYear_28 : decode c_Se_loadNeedsOfYear 28 = .ok (.laload, 1) := by decide +kernel
theorem d_Se_loadNeedsOfYear_29 : decode c_Se_loadNeedsOfYear 29 = .ok (.ldc2_w 82, 3) := by decide +kernel
theorem d_Se_loadNeedsOfYear_32 : decode c_Se_loadNeedsOfYear 32 = .ok (.ldiv, 1) := by decide +kernel
theorem d_Se_loadNeedsOfYear_33 : decode c_Se_loadNeedsOfYear 33 = .ok (.lmul, 1) := by decide +kernel
theorem d_Se_loadNeedsOfYear_34 : decode c_Se_loadNeedsOfYear 34 = .ok (.ladd, 1) := by decide +kernel
theorem d_Se_loadNeedsOfYear_35 : decode c_Se_loadNeedsOfYear 35 = .ok (.lastore, 1) := by decide +kernel
theorem d_Se_loadNeedsOfYear_36 : decode c_Se_loadNeedsOfYear 36 = .ok (.iinc 3 1, 3) := by decide +kernel
theorem d_Se_loadNeedsOfYear_39 : decode c_Se_loadNeedsOfYear 39 = .ok (.goto (-37), 3) := by decide +kernel
theorem d_Se_loadNeedsOfYear_42 : decode c_Se_loadNeedsOfYear 42 = .ok (.return_, 1) := by decide +kernel
theorem d_Se_loadNeedsOfSet_0 : decode c_Se_loadNeedsOfSet 0 = .ok (.iconst 0, 1) := by decide +kernel
theorem d_Se_loadNeedsOfSet_1 : decode c_Se_loadNeedsOfSet 1 = .ok (.istore_n 3, 1) := by decide +kernel
theorem d_Se_loadNeedsOfSet_2 : decode c_Se_loadNeedsOfSet 2 = .ok (.iload_n 3, 1) := by decide +kernel
theorem d_Se_loadNeedsOfSet_3 : decode c_Se_loadNeedsOfSet 3 = .ok (.aload_n 0, 1) := by decide +kernel
theorem d_Se_loadNeedsOfSet_4 : decode c_Se_loadNeedsOfSet 4 = .ok (.getfield 9, 3) := by decide +kernel
theorem d_Se_loadNeedsOfSet_7 : decode c_Se_loadNeedsOfSet 7 = .ok (.if_icmp .ge 37, 3) := by decide +kernel
theorem d_Se_loadNeedsOfSet_10 : decode c_Se_loadNeedsOfSet 10 = .ok (.aload_n 0, 1) := by decide +kernel
theorem d_Se_loadNeedsOfSet_11 : decode c_Se_loadNeedsOfSet 11 = .ok (.getfield 18, 3) := by decide +kernel
theorem d_Se_loadNeedsOfSet_14 : decode c_Se_loadNeedsOfSet 14 = .ok (.iload_n 3, 1) := by decide +kernel
theorem d_Se_loadNeedsOfSet_15 : decode c_Se_loadNeedsOfSet 15 = .ok (.iload_n 2, 1) := by decide +kernel
theorem d_Se_loadNeedsOfSet_16 : decode c_Se_loadNeedsOfSet 16 = .ok (.iload_n 3, 1) := by decide +kernel
theorem d_Se_loadNeedsOfSet_17 : decode c_Se_loadNeedsOfSet 17 = .ok (.aload_n 0, 1) := by decide +kernel
theorem d_Se_loadNeedsOfSet_18 : decode c_Se_loadNeedsOfSet 18 = .ok (.getfield 9, 3) := by decide +kernel
theorem d_Se_loadNeedsOfSet_21 : decode c_Se_loadNeedsOfSet 21 = .ok (.invokestatic 84, 3) := by decide +kernel
theorem d_Se_loadNeedsOfSet_24 : decode c_Se_loadNeedsOfSet 24 = .ok (.ifCond .eq 12, 3) := by decide +kernel
theorem d_Se_loadNeedsOfSet_27 : decode c_Se_loadNeedsOfSet 27 = .ok (.aload_n 1, 1) := by decide +kernel
theorem d_Se_loadNeedsOfSet_28 : decode c_Se_loadNeedsOfSet 28 = .ok (.getfield 81, 3) := by decide +kernel
theorem d_Se_loadNeedsOfSet_31 : decode c_Se_loadNeedsOfSet 31 = .ok (.iload_n 3, 1) := by decide +kernel
theorem d_Se_loadNeedsOfSet_32 : decode c_Se_loadNeedsOfSet 32 = .ok (.laload, 1) := by decide +kernel
theorem d_Se_loadNeedsOfSet_33 : decode c_Se_loadNeedsOfSet 33 = .ok (.goto 4, 3) := by decide +kernel
theorem d_Se_loadNeedsOfSet_36 : decode c_Se_loadNeedsOfSet 36 = .ok (.lconst 0, 1) := by decide +kernel
theorem d_Se_loadNeedsOfSet_37 : decode c_Se_loadNeedsOfSet 37 = .ok (.lastore, 1) := by decide +kernel
theorem d_Se_loadNeedsOfSet_38 : decode c_Se_loadNeedsOfSet 38 = .ok (.iinc 3 1, 3) := by decide +kernel
theorem d_Se_loadNeedsOfSet_41 : decode c_Se_loadNeedsOfSet 41 = .ok (.goto (-39), 3) := by decide +kernel
theorem d_Se_loadNeedsOfSet_44 : decode c_Se_loadNeedsOfSet 44 = .ok (.return_, 1) := by decide +kernel
theorem d_Se_loadSets_0 : decode c_Se_loadSets 0 = .ok (.aload_n 0, 1) := by decide +kernel
theorem d_Se_loadSets_1 : decode c_Se_loadSets 1 = .ok (.getfield 30, 3) := by decide +kernel
theorem d_Se_loadSets_4 : decode c_Se_loadSets 4 = .ok (.iconst 0, 1) := by decide +kernel
theorem d_Se_loadSets_5 : decode c_Se_loadSets 5 = .ok (.iconst 1, 1) := by decide +kernel
theorem d_Se_loadSets_6 : decode c_Se_loadSets 6 = .ok (.bastore, 1) := by decide +kernel
theorem d_Se_loadSets_7 : decode c_Se_loadSets 7 = .ok (.aload_n 0, 1) := by decide +kernel
theorem d_Se_loadSets_8 : decode c_Se_loadSets 8 = .ok (.getfield 34, 3) := by decide +kernel
theorem d_Se_loadSets_11 : decode c_Se_loadSets 11 = .ok (.iconst 0, 1) := by decide +kernel
theorem d_Se_loadSets_12 : decode c_Se_loadSets 12 = .ok (.lconst 0, 1) := by decide +kernel
theorem d_Se_loadSets_13 : decode c_Se_loadSets 13 = .ok (.lastore, 1) := by decide +kernel
theorem d_Se_loadSets_14 : decode c_Se_loadSets 14 = .ok (.iconst 0, 1) := by decide +kernel
theorem d_Se_loadSets_15 : decode c_Se_loadSets 15 = .ok (.istore_n 3, 1) := by decide +kernel
theorem d_Se_loadSets_16 : decode c_Se_loadSets 16 = .ok (.iload_n 3, 1) := by decide +kernel
theorem d_Se_loadSets_17 : decode c_Se_loadSets 17 = .ok (.aload_n 0, 1) := by decide +kernel
theorem d_Se_loadSets_18 : decode c_Se_loadSets 18 = .ok (.getfield 15, 3) := by decide +kernel
theorem d_Se_loadSets_21 : decode c_Se_loadSets 21 = .ok (.if_icmp .ge 127, 3) := by decide +kernel
theorem d_Se_loadSets_24 : decode c_Se_loadSets 24 = .ok (.iconst 1, 1) := by decide +kernel
theorem d_Se_loadSets_25 : decode c_Se_loadSets 25 = .ok (.iload_n 3, 1) := by decide +kernel
theorem d_Se_loadSets_26 : decode c_Se_loadSets 26 = .ok (.ishl, 1) := by decide +kernel
theorem d_Se_loadSets_27 : decode c_Se_loadSets 27 = .ok (.istore 4, 2) := by decide +kernel
theorem d_Se_loadSets_29 : decode c_Se_loadSets 29 = .ok (.iload_n 3, 1) := by decide +kernel
theorem d_Se_loadSets_30 : decode c_Se_loadSets 30 = .ok (.iload_n 2, 1) := by decide +kernel
theorem d_Se_loadSets_31 : decode c_Se_loadSets 31 = .ok (.if_icmp .ne 7, 3) := by decide +kernel
theorem d_Se_loadSets_34 : decode c_Se_loadSets 34 = .ok (.lconst 0, 1) := by decide +kernel
theorem d_Se_loadSets_35 : decode c_Se_loadSets 35 = .ok (.goto 9, 3) := by decide +kernel
theorem d_Se_loadSets_38 : decode c_Se_loadSets 38 = .ok (.aload_n 1, 1) := by decide +kernel
theorem d_Se_loadSets_39 : decode c_Se_loadSets 39 = .ok (.getfield 90, 3) := by decide +kernel
theorem d_Se_loadSets_42 : decode c_Se_loadSets 42 = .ok (.iload_n 3, 1) := by decide +kernel
theorem d_Se_loadSets_43 : decode c_Se_loadSets 43 = .ok (.laload, 1) := by decide +kernel
theorem d_Se_loadSets_44 : decode c_Se_loadSets 44 = .ok (.lstore 5, 2) := by decide +kernel
theorem d_Se_loadSets_46 : decode c_Se_loadSets 46 = .ok (.iconst 0, 1) := by decide +kernel
theorem d_Se_loadSets_47 : decode c_Se_loadSets 47 = .ok (.istore 7, 2) := by decide +kernel
theorem d_Se_loadSets_49 : decode c_Se_loadSets 49 = .ok (.iload 7, 2) := by decide +kernel
theorem d_Se_loadSets_51 : decode c_Se_loadSets 51 = .ok (.iload 4, 2) := by decide +kernel
theorem d_Se_loadSets_53 : decode c_Se_loadSets 53 = .ok (.if_icmp .ge 89, 3) := by decide +kernel
theorem d_Se_loadSets_56 : decode c_Se_loadSets 56 = .ok (.iload 7, 2) := by decide +kernel
theorem d_Se_loadSets_58 : decode c_Se_loadSets 58 = .ok (.iload 4, 2) := by decide +kernel
theorem d_Se_loadSets_60 : decode c_Se_loadSets 60 = .ok (.ior, 1) := by decide +kernel
theorem d_Se_loadSets_61 : decode c_Se_loadSets 61 = .ok (.istore 8, 2) := by decide +kernel
theorem d_Se_loadSets_63 : decode c_Se_loadSets 63 = .ok (.aload_n 0, 1) := by decide +kernel
theorem d_Se_loadSets_64 : decode c_Se_loadSets 64 = .ok (.getfield 34, 3) := by decide +kernel
theorem d_Se_loadSets_67 : decode c_Se_loadSets 67 = .ok (.iload 8, 2) := by decide +kernel
theorem d_Se_loadSets_69 : decode c_Se_loadSets 69 = .ok (.aload_n 0, 1) := by decide +kernel
theorem d_Se_loadSets_70 : decode c_Se_loadSets 70 = .ok (.getfield 34, 3) := by decide +kernel
theorem d_Se_loadSets_73 : decode c_Se_loadSets 73 = .ok (.iload 7, 2) := by decide +kernel
theorem d_Se_loadSets_75 : decode c_Se_loadSets 75 = .ok (.laload, 1) := by decide +kernel
theorem d_Se_loadSets_76 : decode c_Se_loadSets 76 = .ok (.lload 5, 2) := by decide +kernel
theorem d_Se_loadSets_78 : decode c_Se_loadSets 78 = .ok (.ladd, 1) := by decide +kernel
theorem d_Se_loadSets_79 : decode c_Se_loadSets 79 = .ok (.lastore, 1) := by decide +kernel
theorem d_Se_loadSets_80 : decode c_Se_loadSets 80 = .ok (.aload_n 0, 1) := by decide +kernel
theorem d_Se_loadSets_81 : decode c_Se_loadSets 81 = .ok (.getfield 30, 3) := by decide +kernel
theorem d_Se_loadSets_84 : decode c_Se_loadSets 84 = .ok (.iload 8, 2) := by decide +kernel
theorem d_Se_loadSets_86 : decode c_Se_loadSets 86 = .ok (.aload_n 0, 1) := by decide +kernel
theorem d_Se_loadSets_87 : decode c_Se_loadSets 87 = .ok (.getfield 30, 3) := by decide +kernel
theorem d_Se_loadSets_90 : decode c_Se_loadSets 90 = .ok (.iload 7, 2) := by decide +kernel
theorem d_Se_loadSets_92 : decode c_Se_loadSets 92 = .ok (.baload, 1) := by decide +kernel
theorem d_Se_loadSets_93 : decode c_Se_loadSets 93 = .ok (.ifCond .eq 41, 3) := by decide +kernel
theorem d_Se_loadSets_96 : decode c_Se_loadSets 96 = .ok (.aload_n 1, 1) := by decide +kernel
theorem d_Se_loadSets_97 : decode c_Se_loadSets 97 = .ok (.getfield 93, 3) := by decide +kernel
theorem d_Se_loadSets_100 : decode c_Se_loadSets 100 = .ok (.iload_n 3, 1) := by decide +kernel
theorem d_Se_loadSets_101 : decode c_Se_loadSets 101 = .ok (.baload, 1) := by decide +kernel
theorem d_Se_loadSets_102 : decode c_Se_loadSets 102 = .ok (.ifCond .ne 32, 3) := by decide +kernel
theorem d_Se_loadSets_105 : decode c_Se_loadSets 105 = .ok (.aload_n 0, 1) := by decide +kernel
theorem d_Se_loadSets_106 : decode c_Se_loadSets 106 = .ok (.getfield 34, 3) := by decide +kernel
theorem d_Se_loadSets_109 : decode c_Se_loadSets 109 = .ok (.iload 8, 2) := by decide +kernel
theorem d_Se_loadSets_111 : decode c_Se_loadSets 111 = .ok (.laload, 1) := by decide +kernel
theorem d_Se_loadSets_112 : decode c_Se_loadSets 112 = .ok (.aload_n 1, 1) := by decide +kernel
theorem d_Se_loadSets_113 : decode c_Se_loadSets 113 = .ok (.getfield 96, 3) := by decide +kernel
theorem d_Se_loadSets_116 : decode c_Se_loadSets 116 = .ok (.lcmp, 1) := by decide +kernel
theorem d_Se_loadSets_117 : decode c_Se_loadSets 117 = .ok (.ifCond .gt 17, 3) := by decide +kernel
theorem d_Se_loadSets_120 : decode c_Se_loadSets 120 = .ok (.aload_n 1, 1) := by decide +kernel
theorem d_Se_loadSets_121 : decode c_Se_loadSets 121 = .ok (.iload 7, 2) := by decide +kernel
theorem d_Se_loadSets_123 : decode c_Se_loadSets 123 = .ok (.iload_n 3, 1) := by decide +kernel
theorem d_Se_loadSets_124 : decode c_Se_loadSets 124 = .ok (.invokestatic 99, 3) := by decide +kernel
theorem d_Se_loadSets_127 : decode c_Se_loadSets 127 = .ok (.ifCond .ne 7, 3) := by decide +kernel
theorem d_Se_loadSets_130 : decode c_Se_loadSets 130 = .ok (.iconst 1, 1) := by decide +kernel
theorem d_Se_loadSets_131 : decode c_Se_loadSets 131 = .ok (.goto 4, 3) := by decide +kernel
theorem d_Se_loadSets_134 : decode c_Se_loadSets 134 = .ok (.iconst 0, 1) := by decide +kernel
theorem d_Se_loadSets_135 : decode c_Se_loadSets 135 = .ok (.bastore, 1) := by decide +kernel
theorem d_Se_loadSets_136 : decode c_Se_loadSets 136 = .ok (.iinc 7 1, 3) := by decide +kernel
theorem d_Se_loadSets_139 : decode c_Se_loadSets 139 = .ok (.goto (-90), 3) := by decide +kernel
theorem d_Se_loadSets_142 : decode c_Se_loadSets 142 = .ok (.iinc 3 1, 3) := by decide +kernel
theorem d_Se_loadSets_145 : decode c_Se_loadSets 145 = .ok (.goto (-129), 3) := by decide +kernel
theorem d_Se_loadSets_148 : decode c_Se_loadSets 148 = .ok (.return_, 1) := by decide +kernel
theorem d_Se_isAnyTooNear_0 : decode c_Se_isAnyTooNear 0 = .ok (.iconst 0, 1) := by decide +kernel
theorem d_Se_isAnyTooNear_1 : decode c_Se_isAnyTooNear 1 = .ok (.istore_n 3, 1) := by decide +kernel
theorem d_Se_isAnyTooNear_2 : decode c_Se_isAnyTooNear 2 = .ok (.iload_n 3, 1) := by decide +kernel
theorem d_Se_isAnyTooNear_3 : decode c_Se_isAnyTooNear 3 = .ok (.iload_n 2, 1) := by decide +kernel
theorem d_Se_isAnyTooNear_4 : decode c_Se_isAnyTooNear 4 = .ok (.if_icmp .ge 29, 3) := by decide +kernel
theorem d_Se_isAnyTooNear_7 : decode c_Se_isAnyTooNear 7 = .ok (.iload_n 1, 1) := by decide +kernel
theorem d_Se_isAnyTooNear_8 : decode c_Se_isAnyTooNear 8 = .ok (.iload_n 3, 1) := by decide +kernel
theorem d_Se_isAnyTooNear_9 : decode c_Se_isAnyTooNear 9 = .ok (.ishr, 1) := by decide +kernel
theorem d_Se_isAnyTooNear_10 : decode c_Se_isAnyTooNear 10 = .ok (.iconst 1, 1) := by decide +kernel
theorem d_Se_isAnyTooNear_11 : decode c_Se_isAnyTooNear 11 = .ok (.iand, 1) := by decide +kernel
theorem d_Se_isAnyTooNear_12 : decode c_Se_isAnyTooNear 12 = .ok (.iconst 1, 1) := by decide +kernel
theorem d_Se_isAnyTooNear_13 : decode c_Se_isAnyTooNear 13 = .ok (.if_icmp .ne 14, 3) := by decide +kernel
theorem d_Se_isAnyTooNear_16 : decode c_Se_isAnyTooNear 16 = .ok (.aload_n 0, 1) := by decide +kernel
theorem d_Se_isAnyTooNear_17 : decode c_Se_isAnyTooNear 17 = .ok (.iload_n 3, 1) := by decide +kernel
theorem d_Se_isAnyTooNear_18 : decode c_Se_isAnyTooNear 18 = .ok (.iload_n 2, 1) := by decide +kernel
theorem d_Se_isAnyTooNear_19 : decode c_Se_isAnyTooNear 19 = .ok (.invokevirtual 103, 3) := by decide +kernel
theorem d_Se_isAnyTooNear_22 : decode c_Se_isAnyTooNear 22 = .ok (.ifCond .eq 5, 3) := by decide +kernel
theorem d_Se_isAnyTooNear_25 : decode c_Se_isAnyTooNear 25 = .ok (.iconst 1, 1) := by decide +kernel
theorem d_Se_isAnyTooNear_26 : decode c_Se_isAnyTooNear 26 = .ok (.ireturn, 1) := by decide +kernel
theorem d_Se_isAnyTooNear_27 : decode c_Se_isAnyTooNear 27 = .ok (.iinc 3 1, 3) := by decide +kernel
theorem d_Se_isAnyTooNear_30 : decode c_Se_isAnyTooNear 30 = .ok (.goto (-28), 3) := by decide +kernel
theorem d_Se_isAnyTooNear_33 : decode c_Se_isAnyTooNear 33 = .ok (.iconst 0, 1) := by decide +kernel
theorem d_Se_isAnyTooNear_34 : decode c_Se_isAnyTooNear 34 = .ok (.ireturn, 1) := by decide +kernel
theorem d_Se_leastSum_0 : decode c_Se_leastSum 0 = .ok (.aload_n 0, 1) := by decide +kernel
theorem d_Se_leastSum_1 : decode c_Se_leastSum 1 = .ok (.ldc2_w 50, 3) := by decide +kernel
theorem d_Se_leastSum_4 : decode c_Se_leastSum 4 = .ok (.putfield 52, 3) := by decide +kernel
theorem d_Se_leastSum_7 : decode c_Se_leastSum 7 = .ok (.aload_n 0, 1) := by decide +kernel
theorem d_Se_leastSum_8 : decode c_Se_leastSum 8 = .ok (.iload_n 1, 1) := by decide +kernel
theorem d_Se_leastSum_9 : decode c_Se_leastSum 9 = .ok (.putfield 56, 3) := by decide +kernel
theorem d_Se_leastSum_12 : decode c_Se_leastSum 12 = .ok (.aload_n 0, 1) := by decide +kernel
theorem d_Se_leastSum_13 : decode c_Se_leastSum 13 = .ok (.invokevirtual 107, 3) := by decide +kernel
theorem d_Se_leastSum_16 : decode c_Se_leastSum 16 = .ok (.ifCond .eq 32, 3) := by decide +kernel
theorem d_Se_leastSum_19 : decode c_Se_leastSum 19 = .ok (.aload_n 0, 1) := by decide +kernel
theorem d_Se_leastSum_20 : decode c_Se_leastSum 20 = .ok (.getfield 22, 3) := by decide +kernel
theorem d_Se_leastSum_23 : decode c_Se_leastSum 23 = .ok (.iconst 0, 1) := by decide +kernel
theorem d_Se_leastSum_24 : decode c_Se_leastSum 24 = .ok (.aload_n 0, 1) := by decide +kernel
theorem d_Se_leastSum_25 : decode c_Se_leastSum 25 = .ok (.getfield 40, 3) := by decide +kernel
theorem d_Se_leastSum_28 : decode c_Se_leastSum 28 = .ok (.iconst 0, 1) := by decide +kernel
theorem d_Se_leastSum_29 : decode c_Se_leastSum 29 = .ok (.iconst 5, 1) := by decide +kernel
theorem d_Se_leastSum_30 : decode c_Se_leastSum 30 = .ok (.invokestatic 111, 3) := by decide +kernel
theorem d_Se_leastSum_33 : decode c_Se_leastSum 33 = .ok (.aload_n 0, 1) := by decide +kernel
theorem d_Se_leastSum_34 : decode c_Se_leastSum 34 = .ok (.getfield 43, 3) := by decide +kernel
theorem d_Se_leastSum_37 : decode c_Se_leastSum 37 = .ok (.iconst (-1), 1) := by decide +kernel
theorem d_Se_leastSum_38 : decode c_Se_leastSum 38 = .ok (.invokestatic 117, 3) := by decide +kernel
theorem d_Se_leastSum_41 : decode c_Se_leastSum 41 = .ok (.aload_n 0, 1) := by decide +kernel
theorem d_Se_leastSum_42 : decode c_Se_leastSum 42 = .ok (.iconst 0, 1) := by decide +kernel
theorem d_Se_leastSum_43 : decode c_Se_leastSum 43 = .ok (.iconst 0, 1) := by decide +kernel
theorem d_Se_leastSum_44 : decode c_Se_leastSum 44 = .ok (.lconst 0, 1) := by decide +kernel
theorem d_Se_leastSum_45 : decode c_Se_leastSum 45 = .ok (.invokevirtual 123, 3) := by decide +kernel
theorem d_Se_leastSum_48 : decode c_Se_leastSum 48 = .ok (.aload_n 0, 1) := by decide +kernel
theorem d_Se_leastSum_49 : decode c_Se_leastSum 49 = .ok (.getfield 52, 3) := by decide +kernel
theorem d_Se_leastSum_52 : decode c_Se_leastSum 52 = .ok (.lreturn, 1) := by decide +kernel
theorem d_Se_hasPlan_0 : decode c_Se_hasPlan 0 = .ok (.aload_n 0, 1) := by decide +kernel
theorem d_Se_hasPlan_1 : decode c_Se_hasPlan 1 = .ok (.iconst 1, 1) := by decide +kernel
theorem d_Se_hasPlan_2 : decode c_Se_hasPlan 2 = .ok (.putfield 59, 3) := by decide +kernel
theorem d_Se_hasPlan_5 : decode c_Se_hasPlan 5 = .ok (.aload_n 0, 1) := by decide +kernel
theorem d_Se_hasPlan_6 : decode c_Se_hasPlan 6 = .ok (.bipush 31, 2) := by decide +kernel
theorem d_Se_hasPlan_8 : decode c_Se_hasPlan 8 = .ok (.invokevirtual 127, 3) := by decide +kernel
theorem d_Se_hasPlan_11 : decode c_Se_hasPlan 11 = .ok (.lstore_n 1, 1) := by decide +kernel
theorem d_Se_hasPlan_12 : decode c_Se_hasPlan 12 = .ok (.aload_n 0, 1) := by decide +kernel
theorem d_Se_hasPlan_13 : decode c_Se_hasPlan 13 = .ok (.iconst 0, 1) := by decide +kernel
theorem d_Se_hasPlan_14 : decode c_Se_hasPlan 14 = .ok (.putfield 59, 3) := by decide +kernel
theorem d_Se_hasPlan_17 : decode c_Se_hasPlan 17 = .ok (.lload_n 1, 1) := by decide +kernel
theorem d_Se_hasPlan_18 : decode c_Se_hasPlan 18 = .ok (.ldc2_w 50, 3) := by decide +kernel
theorem d_Se_hasPlan_21 : decode c_Se_hasPlan 21 = .ok (.lcmp, 1) := by decide +kernel
theorem d_Se_hasPlan_22 : decode c_Se_hasPlan 22 = .ok (.ifCond .eq 7, 3) := by decide +kernel
theorem d_Se_hasPlan_25 : decode c_Se_hasPlan 25 = .ok (.iconst 1, 1) := by decide +kernel
theorem d_Se_hasPlan_26 : decode c_Se_hasPlan 26 = .ok (.goto 4, 3) := by decide +kernel
theorem d_Se_hasPlan_29 : decode c_Se_hasPlan 29 = .ok (.iconst 0, 1) := by decide +kernel
theorem d_Se_hasPlan_30 : decode c_Se_hasPlan 30 = .ok (.ireturn, 1) := by decide +kernel
theorem d_Se_leastThinkable_0 : decode c_Se_leastThinkable 0 = .ok (.aload_n 0, 1) := by decide +kernel
theorem d_Se_leastThinkable_1 : decode c_Se_leastThinkable 1 = .ok (.bipush 31, 2) := by decide +kernel
theorem d_Se_leastThinkable_3 : decode c_Se_leastThinkable 3 = .ok (.putfield 56, 3) := by decide +kernel
theorem d_Se_leastThinkable_6 : decode c_Se_leastThinkable 6 = .ok (.aload_n 0, 1) := by decide +kernel
theorem d_Se_leastThinkable_7 : decode c_Se_leastThinkable 7 = .ok (.invokevirtual 107, 3) := by decide +kernel
theorem d_Se_leastThinkable_10 : decode c_Se_leastThinkable 10 = .ok (.ifCond .eq 12, 3) := by decide +kernel
theorem d_Se_leastThinkable_13 : decode c_Se_leastThinkable 13 = .ok (.aload_n 0, 1) := by decide +kernel
theorem d_Se_leastThinkable_14 : decode c_Se_leastThinkable 14 = .ok (.getfield 37, 3) := by decide +kernel
theorem d_Se_leastThinkable_17 : decode c_Se_leastThinkable 17 = .ok (.iconst 0, 1) := by decide +kernel
theorem d_Se_leastThinkable_18 : decode c_Se_leastThinkable 18 = .ok (.laload, 1) := by decide +kernel
theorem d_Se_leastThinkable_19 : decode c_Se_leastThinkable 19 = .ok (.goto 6, 3) := by decide +kernel
theorem d_Se_leastThinkable_22 : decode c_Se_leastThinkable 22 = .ok (.ldc2_w 50, 3) := by decide +kernel
theorem d_Se_leastThinkable_25 : decode c_Se_leastThinkable 25 = .ok (.lreturn, 1) := by decide +kernel
theorem d_Se_reckonLeastRest_0 : decode c_Se_reckonLeastRest 0 = .ok (.aload_n 0, 1) := by decide +kernel
theorem d_Se_reckonLeastRest_1 : decode c_Se_reckonLeastRest 1 = .ok (.getfield 37, 3) := by decide +kernel
theorem d_Se_reckonLeastRest_4 : decode c_Se_reckonLeastRest 4 = .ok (.aload_n 0, 1) := by decide +kernel
theorem d_Se_reckonLeastRest_5 : decode c_Se_reckonLeastRest 5 = .ok (.getfield 9, 3) := by decide +kernel
theorem d_Se_reckonLeastRest_8 : decode c_Se_reckonLeastRest 8 = .ok (.lconst 0, 1) := by decide +kernel
theorem d_Se_reckonLeastRest_9 : decode c_Se_reckonLeastRest 9 = .ok (.lastore, 1) := by decide +kernel
theorem d_Se_reckonLeastRest_10 : decode c_Se_reckonLeastRest 10 = .ok (.aload_n 0, 1) := by decide +kernel
theorem d_Se_reckonLeastRest_11 : decode c_Se_reckonLeastRest 11 = .ok (.getfield 9, 3) := by decide +kernel
theorem d_Se_reckonLeastRest_14 : decode c_Se_reckonLeastRest 14 = .ok (.iconst 1, 1) := by decide +kernel
theorem d_Se_reckonLeastRest_15 : decode c_Se_reckonLeastRest 15 = .ok (.isub, 1) := by decide +kernel
theorem d_Se_reckonLeastRest_16 : decode c_Se_reckonLeastRest 16 = .ok (.istore_n 1, 1) := by decide +kernel
theorem d_Se_reckonLeastRest_17 : decode c_Se_reckonLeastRest 17 = .ok (.iload_n 1, 1) := by decide +kernel
theorem d_Se_reckonLeastRest_18 : decode c_Se_reckonLeastRest 18 = .ok (.ifCond .lt 67, 3) := by decide +kernel
theorem d_Se_reckonLeastRest_21 : decode c_Se_reckonLeastRest 21 = .ok (.aload_n 0, 1) := by decide +kernel
theorem d_Se_reckonLeastRest_22 : decode c_Se_reckonLeastRest 22 = .ok (.getfield 37, 3) := by decide +kernel
theorem d_Se_reckonLeastRest_25 : decode c_Se_reckonLeastRest 25 = .ok (.iload_n 1, 1) := by decide +kernel
theorem d_Se_reckonLeastRest_26 : decode c_Se_reckonLeastRest 26 = .ok (.aload_n 0, 1) := by decide +kernel
theorem d_Se_reckonLeastRest_27 : decode c_Se_reckonLeastRest 27 = .ok (.getfield 37, 3) := by decide +kernel
theorem d_Se_reckonLeastRest_30 : decode c_Se_reckonLeastRest 30 = .ok (.iload_n 1, 1) := by decide +kernel
theorem d_Se_reckonLeastRest_31 : decode c_Se_reckonLeastRest 31 = .ok (.iconst 1, 1) := by decide +kernel
theorem d_Se_reckonLeastRest_32 : decode c_Se_reckonLeastRest 32 = .ok (.iadd, 1) := by decide +kernel
theorem d_Se_reckonLeastRest_33 : decode c_Se_reckonLeastRest 33 = .ok (.laload, 1) := by decide +kernel
theorem d_Se_reckonLeastRest_34 : decode c_Se_reckonLeastRest 34 = .ok (.lastore, 1) := by decide +kernel
theorem d_Se_reckonLeastRest_35 : decode c_Se_reckonLeastRest 35 = .ok (.aload_n 0, 1) := by decide +kernel
theorem d_Se_reckonLeastRest_36 : decode c_Se_reckonLeastRest 36 = .ok (.getfield 18, 3) := by decide +kernel
theorem d_Se_reckonLeastRest_39 : decode c_Se_reckonLeastRest 39 = .ok (.iload_n 1, 1) := by decide +kernel
theorem d_Se_reckonLeastRest_40 : decode c_Se_reckonLeastRest 40 = .ok (.laload, 1) := by decide +kernel
theorem d_Se_reckonLeastRest_41 : decode c_Se_reckonLeastRest 41 = .ok (.lconst 0, 1) := by decide +kernel
theorem d_Se_reckonLeastRest_42 : decode c_Se_reckonLeastRest 42 = .ok (.lcmp, 1) := by decide +kernel
theorem d_Se_reckonLeastRest_43 : decode c_Se_reckonLeastRest 43 = .ok (.ifCond .le 36, 3) := by decide +kernel
theorem d_Se_reckonLeastRest_46 : decode c_Se_reckonLeastRest 46 = .ok (.aload_n 0, 1) := by decide +kernel
theorem d_Se_reckonLeastRest_47 : decode c_Se_reckonLeastRest 47 = .ok (.iload_n 1, 1) := by decide +kernel
theorem d_Se_reckonLeastRest_48 : decode c_Se_reckonLeastRest 48 = .ok (.invokevirtual 131, 3) := by decide +kernel
theorem d_Se_reckonLeastRest_51 : decode c_Se_reckonLeastRest 51 = .ok (.lstore_n 2, 1) := by decide +kernel
theorem d_Se_reckonLeastRest_52 : decode c_Se_reckonLeastRest 52 = .ok (.lload_n 2, 1) := by decide +kernel
theorem d_Se_reckonLeastRest_53 : decode c_Se_reckonLeastRest 53 = .ok (.ldc2_w 50, 3) := by decide +kernel
theorem d_Se_reckonLeastRest_56 : decode c_Se_reckonLeastRest 56 = .ok (.lcmp, 1) := by decide +kernel
theorem d_Se_reckonLeastRest_57 : decode c_Se_reckonLeastRest 57 = .ok (.ifCond .ne 5, 3) := by decide +kernel
theorem d_Se_reckonLeastRest_60 : decode c_Se_reckonLeastRest 60 = .ok (.iconst 0, 1) := by decide +kernel
theorem d_Se_reckonLeastRest_61 : decode c_Se_reckonLeastRest 61 = .ok (.ireturn, 1) := by decide +kernel
theorem d_Se_reckonLeastRest_62 : decode c_Se_reckonLeastRest 62 = .ok (.aload_n 0, 1) := by decide +kernel
theorem d_Se_reckonLeastRest_63 : decode c_Se_reckonLeastRest 63 = .ok (.getfield 37, 3) := by decide +kernel
theorem d_Se_reckonLeastRest_66 : decode c_Se_reckonLeastRest 66 = .ok (.iload_n 1, 1) := by decide +kernel
theorem d_Se_reckonLeastRest_67 : decode c_Se_reckonLeastRest 67 = .ok (.dup2, 1) := by decide +kernel
theorem d_Se_reckonLeastRest_68 : decode c_Se_reckonLeastRest 68 = .ok (.laload, 1) := by decide +kernel
theorem d_Se_reckonLeastRest_69 : decode c_Se_reckonLeastRest 69 = .ok (.aload_n 0, 1) := by decide +kernel
theorem d_Se_reckonLeastRest_70 : decode c_Se_reckonLeastRest 70 = .ok (.getfield 18, 3) := by decide +kernel
theorem d_Se_reckonLeastRest_73 : decode c_Se_reckonLeastRest 73 = .ok (.iload_n 1, 1) := by decide +kernel
theorem d_Se_reckonLeastRest_74 : decode c_Se_reckonLeastRest 74 = .ok (.laload, 1) := by decide +kernel
theorem d_Se_reckonLeastRest_75 : decode c_Se_reckonLeastRest 75 = .ok (.lload_n 2, 1) := by decide +kernel
theorem d_Se_reckonLeastRest_76 : decode c_Se_reckonLeastRest 76 = .ok (.lmul, 1) := by decide +kernel
theorem d_Se_reckonLeastRest_77 : decode c_Se_reckonLeastRest 77 = .ok (.ladd, 1) := by decide +kernel
theorem d_Se_reckonLeastRest_78 : decode c_Se_reckonLeastRest 78 = .ok (.lastore, 1) := by decide +kernel
theorem d_Se_reckonLeastRest_79 : decode c_Se_reckonLeastRest 79 = .ok (.iinc 1 (-1), 3) := by decide +kernel
theorem d_Se_reckonLeastRest_82 : decode c_Se_reckonLeastRest 82 = .ok (.goto (-65), 3) := by decide +kernel
theorem d_Se_reckonLeastRest_85 : decode c_Se_reckonLeastRest 85 = .ok (.iconst 1, 1) := by decide +kernel
theorem d_Se_reckonLeastRest_86 : decode c_Se_reckonLeastRest 86 = .ok (.ireturn, 1) := by decide +kernel
theorem d_Se_nearestUsable_0 : decode c_Se_nearestUsable 0 = .ok (.ldc2_w 50, 3) := by decide +kernel
theorem d_Se_nearestUsable_3 : decode c_Se_nearestUsable 3 = .ok (.lstore_n 2, 1) := by decide +kernel
theorem d_Se_nearestUsable_4 : decode c_Se_nearestUsable 4 = .ok (.iconst 0, 1) := by decide +kernel
theorem d_Se_nearestUsable_5 : decode c_Se_nearestUsable 5 = .ok (.istore 4, 2) := by decide +kernel
theorem d_Se_nearestUsable_7 : decode c_Se_nearestUsable 7 = .ok (.iload 4, 2) := by decide +kernel
theorem d_Se_nearestUsable_9 : decode c_Se_nearestUsable 9 = .ok (.aload_n 0, 1) := by decide +kernel
theorem d_Se_nearestUsable_10 : decode c_Se_nearestUsable 10 = .ok (.getfield 15, 3) := by decide +kernel
theorem d_Se_nearestUsable_13 : decode c_Se_nearestUsable 13 = .ok (.if_icmp .ge 62, 3) := by decide +kernel
theorem d_Se_nearestUsable_16 : decode c_Se_nearestUsable 16 = .ok (.aload_n 0, 1) := by decide +kernel
theorem d_Se_nearestUsable_17 : decode c_Se_nearestUsable 17 = .ok (.iload 4, 2) := by decide +kernel
theorem d_Se_nearestUsable_19 : decode c_Se_nearestUsable 19 = .ok (.invokevirtual 134, 3) := by decide +kernel
theorem d_Se_nearestUsable_22 : decode c_Se_nearestUsable 22 = .ok (.ifCond .eq 15, 3) := by decide +kernel
theorem d_Se_nearestUsable_25 : decode c_Se_nearestUsable 25 = .ok (.aload_n 0, 1) := by decide +kernel
theorem d_Se_nearestUsable_26 : decode c_Se_nearestUsable 26 = .ok (.getfield 27, 3) := by decide +kernel
theorem d_Se_nearestUsable_29 : decode c_Se_nearestUsable 29 = .ok (.iload_n 1, 1) := by decide +kernel
theorem d_Se_nearestUsable_30 : decode c_Se_nearestUsable 30 = .ok (.aaload, 1) := by decide +kernel
theorem d_Se_nearestUsable_31 : decode c_Se_nearestUsable 31 = .ok (.iload 4, 2) := by decide +kernel
theorem d_Se_nearestUsable_33 : decode c_Se_nearestUsable 33 = .ok (.laload, 1) := by decide +kernel
theorem d_Se_nearestUsable_34 : decode c_Se_nearestUsable 34 = .ok (.goto 6, 3) := by decide +kernel
theorem d_Se_nearestUsable_37 : decode c_Se_nearestUsable 37 = .ok (.ldc2_w 50, 3) := by decide +kernel
theorem d_Se_nearestUsable_40 : decode c_Se_nearestUsable 40 = .ok (.lstore 5, 2) := by decide +kernel
theorem d_Se_nearestUsable_42 : decode c_Se_nearestUsable 42 = .ok (.lload 5, 2) := by decide +kernel
theorem d_Se_nearestUsable_44 : decode c_Se_nearestUsable 44 = .ok (.ldc2_w 50, 3) := by decide +kernel
theorem d_Se_nearestUsable_47 : decode c_Se_nearestUsable 47 = .ok (.lcmp, 1) := by decide +kernel
theorem d_Se_nearestUsable_48 : decode c_Se_nearestUsable 48 = .ok (.ifCond .eq 21, 3) := by decide +kernel
theorem d_Se_nearestUsable_51 : decode c_Se_nearestUsable 51 = .ok (.lload_n 2, 1) := by decide +kernel
theorem d_Se_nearestUsable_52 : decode c_Se_nearestUsable 52 = .ok (.ldc2_w 50, 3) := by decide +kernel
theorem d_Se_nearestUsable_55 : decode c_Se_nearestUsable 55 = .ok (.lcmp, 1) := by decide +kernel
theorem d_Se_nearestUsable_56 : decode c_Se_nearestUsable 56 = .ok (.ifCond .eq 10, 3) := by decide +kernel
theorem d_Se_nearestUsable_59 : decode c_Se_nearestUsable 59 = .ok (.lload 5, 2) := by decide +kernel
theorem d_Se_nearestUsable_61 : decode c_Se_nearestUsable 61 = .ok (.lload_n 2, 1) := by decide +kernel
theorem d_Se_nearestUsable_62 : decode c_Se_nearestUsable 62 = .ok (.lcmp, 1) := by decide +kernel
theorem d_Se_nearestUsable_63 : decode c_Se_nearestUsable 63 = .ok (.ifCond .ge 6, 3) := by decide +kernel
theorem d_Se_nearestUsable_66 : decode c_Se_nearestUsable 66 = .ok (.lload 5, 2) := by decide +kernel
theorem d_Se_nearestUsable_68 : decode c_Se_nearestUsable 68 = .ok (.lstore_n 2, 1) := by decide +kernel
theorem d_Se_nearestUsable_69 : decode c_Se_nearestUsable 69 = .ok (.iinc 4 1, 3) := by decide +kernel
theorem d_Se_nearestUsable_72 : decode c_Se_nearestUsable 72 = .ok (.goto (-65), 3) := by decide +kernel
theorem d_Se_nearestUsable_75 : decode c_Se_nearestUsable 75 = .ok (.lload_n 2, 1) := by decide +kernel
theorem d_Se_nearestUsable_76 : decode c_Se_nearestUsable 76 = .ok (.lreturn, 1) := by decide +kernel
theorem d_Se_isUsable_0 : decode c_Se_isUsable 0 = .ok (.aload_n 0, 1) := by decide +kernel
theorem d_Se_isUsable_1 : decode c_Se_isUsable 1 = .ok (.getfield 56, 3) := by decide +kernel
theorem d_Se_isUsable_4 : decode c_Se_isUsable 4 = .ok (.iload_n 1, 1) := by decide +kernel
theorem d_Se_isUsable_5 : decode c_Se_isUsable 5 = .ok (.ishr, 1) := by decide +kernel
theorem d_Se_isUsable_6 : decode c_Se_isUsable 6 = .ok (.iconst 1, 1) := by decide +kernel
theorem d_Se_isUsable_7 : decode c_Se_isUsable 7 = .ok (.iand, 1) := by decide +kernel
theorem d_Se_isUsable_8 : decode c_Se_isUsable 8 = .ok (.iconst 1, 1) := by decide +kernel
theorem d_Se_isUsable_9 : decode c_Se_isUsable 9 = .ok (.if_icmp .ne 7, 3) := by decide +kernel
theorem d_Se_isUsable_12 : decode c_Se_isUsable 12 = .ok (.iconst 1, 1) := by decide +kernel
theorem d_Se_isUsable_13 : decode c_Se_isUsable 13 = .ok (.goto 4, 3) := by decide +kernel
theorem d_Se_isUsable_16 : decode c_Se_isUsable 16 = .ok (.iconst 0, 1) := by decide +kernel
theorem d_Se_isUsable_17 : decode c_Se_isUsable 17 = .ok (.ireturn, 1) := by decide +kernel
theorem d_Se_give_0 : decode c_Se_give 0 = .ok (.aload_n 0, 1) := by decide +kernel
theorem d_Se_give_1 : decode c_Se_give 1 = .ok (.iload_n 1, 1) := by decide +kernel
theorem d_Se_give_2 : decode c_Se_give 2 = .ok (.invokevirtual 138, 3) := by decide +kernel
theorem d_Se_give_5 : decode c_Se_give 5 = .ok (.istore 5, 2) := by decide +kernel
theorem d_Se_give_7 : decode c_Se_give 7 = .ok (.iload 5, 2) := by decide +kernel
theorem d_Se_give_9 : decode c_Se_give 9 = .ok (.aload_n 0, 1) := by decide +kernel
theorem d_Se_give_10 : decode c_Se_give 10 = .ok (.getfield 9, 3) := by decide +kernel
theorem d_Se_give_13 : decode c_Se_give 13 = .ok (.if_icmp .lt 11, 3) := by decide +kernel
theorem d_Se_give_16 : decode c_Se_give 16 = .ok (.aload_n 0, 1) := by decide +kernel
theorem d_Se_give_17 : decode c_Se_give 17 = .ok (.lload_n 3, 1) := by decide +kernel
theorem d_Se_give_18 : decode c_Se_give 18 = .ok (.invokevirtual 142, 3) := by decide +kernel
theorem d_Se_give_21 : decode c_Se_give 21 = .ok (.goto 27, 3) := by decide +kernel
theorem d_Se_give_24 : decode c_Se_give 24 = .ok (.aload_n 0, 1) := by decide +kernel
theorem d_Se_give_25 : decode c_Se_give 25 = .ok (.lload_n 3, 1) := by decide +kernel
theorem d_Se_give_26 : decode c_Se_give 26 = .ok (.aload_n 0, 1) := by decide +kernel
theorem d_Se_give_27 : decode c_Se_give 27 = .ok (.getfield 37, 3) := by decide +kernel
theorem d_Se_give_30 : decode c_Se_give 30 = .ok (.iload 5, 2) := by decide +kernel
theorem d_Se_give_32 : decode c_Se_give 32 = .ok (.laload, 1) := by decide +kernel
theorem d_Se_give_33 : decode c_Se_give 33 = .ok (.ladd, 1) := by decide +kernel
theorem d_Se_give_34 : decode c_Se_give 34 = .ok (.invokevirtual 146, 3) := by decide +kernel
theorem d_Se_give_37 : decode c_Se_give 37 = .ok (.ifCond .ne 11, 3) := by decide +kernel
theorem d_Se_give_40 : decode c_Se_give 40 = .ok (.aload_n 0, 1) := by decide +kernel
theorem d_Se_give_41 : decode c_Se_give 41 = .ok (.iload 5, 2) := by decide +kernel
theorem d_Se_give_43 : decode c_Se_give 43 = .ok (.iload_n 2, 1) := by decide +kernel
theorem d_Se_give_44 : decode c_Se_give 44 = .ok (.lload_n 3, 1) := by decide +kernel
theorem d_Se_give_45 : decode c_Se_give 45 = .ok (.invokevirtual 150, 3) := by decide +kernel
theorem d_Se_give_48 : decode c_Se_give 48 = .ok (.return_, 1) := by decide +kernel
theorem d_Se_giveEachPlace_0 : decode c_Se_giveEachPlace 0 = .ok (.iconst 0, 1) := by decide +kernel
theorem d_Se_giveEachPlace_1 : decode c_Se_giveEachPlace 1 = .ok (.istore 5, 2) := by decide +kernel
theorem d_Se_giveEachPlace_3 : decode c_Se_giveEachPlace 3 = .ok (.iload 5, 2) := by decide +kernel
theorem d_Se_giveEachPlace_5 : decode c_Se_giveEachPlace 5 = .ok (.aload_n 0, 1) := by decide +kernel
theorem d_Se_giveEachPlace_6 : decode c_Se_giveEachPlace 6 = .ok (.getfield 15, 3) := by decide +kernel
theorem d_Se_giveEachPlace_9 : decode c_Se_giveEachPlace 9 = .ok (.if_icmp .ge 104, 3) := by decide +kernel
theorem d_Se_giveEachPlace_12 : decode c_Se_giveEachPlace 12 = .ok (.iload_n 2, 1) := by decide +kernel
theorem d_Se_giveEachPlace_13 : decode c_Se_giveEachPlace 13 = .ok (.iconst 1, 1) := by decide +kernel
theorem d_Se_giveEachPlace_14 : decode c_Se_giveEachPlace 14 = .ok (.iload 5, 2) := by decide +kernel
theorem d_Se_giveEachPlace_16 : decode c_Se_giveEachPlace 16 = .ok (.ishl, 1) := by decide +kernel
theorem d_Se_giveEachPlace_17 : decode c_Se_giveEachPlace 17 = .ok (.ior, 1) := by decide +kernel
theorem d_Se_giveEachPlace_18 : decode c_Se_giveEachPlace 18 = .ok (.istore 6, 2) := by decide +kernel
theorem d_Se_giveEachPlace_20 : decode c_Se_giveEachPlace 20 = .ok (.aload_n 0, 1) := by decide +kernel
theorem d_Se_giveEachPlace_21 : decode c_Se_giveEachPlace 21 = .ok (.iload 5, 2) := by decide +kernel
theorem d_Se_giveEachPlace_23 : decode c_Se_giveEachPlace 23 = .ok (.iload_n 1, 1) := by decide +kernel
theorem d_Se_giveEachPlace_24 : decode c_Se_giveEachPlace 24 = .ok (.invokevirtual 153, 3) := by decide +kernel
theorem d_Se_giveEachPlace_27 : decode c_Se_giveEachPlace 27 = .ok (.ifCond .eq 80, 3) := by decide +kernel
theorem d_Se_giveEachPlace_30 : decode c_Se_giveEachPlace 30 = .ok (.aload_n 0, 1) := by decide +kernel
theorem d_Se_giveEachPlace_31 : decode c_Se_giveEachPlace 31 = .ok (.getfield 30, 3) := by decide +kernel
theorem d_Se_giveEachPlace_34 : decode c_Se_giveEachPlace 34 = .ok (.iload 6, 2) := by decide +kernel
theorem d_Se_giveEachPlace_36 : decode c_Se_giveEachPlace 36 = .ok (.baload, 1) := by decide +kernel
theorem d_Se_giveEachPlace_37 : decode c_Se_giveEachPlace 37 = .ok (.ifCond .eq 70, 3) := by decide +kernel
theorem d_Se_giveEachPlace_40 : decode c_Se_giveEachPlace 40 = .ok (.aload_n 0, 1) := by decide +kernel
theorem d_Se_giveEachPlace_41 : decode c_Se_giveEachPlace 41 = .ok (.getfield 40, 3) := by decide +kernel
theorem d_Se_giveEachPlace_44 : decode c_Se_giveEachPlace 44 = .ok (.iload 5, 2) := by decide +kernel
theorem d_Se_giveEachPlace_46 : decode c_Se_giveEachPlace 46 = .ok (.dup2, 1) := by decide +kernel
theorem d_Se_giveEachPlace_47 : decode c_Se_giveEachPlace 47 = .ok (.laload, 1) := by decide +kernel
theorem d_Se_giveEachPlace_48 : decode c_Se_giveEachPlace 48 = .ok (.aload_n 0, 1) := by decide +kernel
theorem d_Se_giveEachPlace_49 : decode c_Se_giveEachPlace 49 = .ok (.getfield 18, 3) := by decide +kernel
theorem d_Se_giveEachPlace_52 : decode c_Se_giveEachPlace 52 = .ok (.iload_n 1, 1) := by decide +kernel
theorem d_Se_giveEachPlace_53 : decode c_Se_giveEachPlace 53 = .ok (.laload, 1) := by decide +kernel
theorem d_Se_giveEachPlace_54 : decode c_Se_giveEachPlace 54 = .ok (.lsub, 1) := by decide +kernel
theorem d_Se_giveEachPlace_55 : decode c_Se_giveEachPlace 55 = .ok (.lastore, 1) := by decide +kernel
theorem d_Se_giveEachPlace_56 : decode c_Se_giveEachPlace 56 = .ok (.aload_n 0, 1) := by decide +kernel
theorem d_Se_giveEachPlace_57 : decode c_Se_giveEachPlace 57 = .ok (.getfield 43, 3) := by decide +kernel
theorem d_Se_giveEachPlace_60 : decode c_Se_giveEachPlace 60 = .ok (.iload_n 1, 1) := by decide +kernel
theorem d_Se_giveEachPlace_61 : decode c_Se_giveEachPlace 61 = .ok (.iload 5, 2) := by decide +kernel
theorem d_Se_giveEachPlace_63 : decode c_Se_giveEachPlace 63 = .ok (.iastore, 1) := by decide +kernel
theorem d_Se_giveEachPlace_64 : decode c_Se_giveEachPlace 64 = .ok (.aload_n 0, 1) := by decide +kernel
theorem d_Se_giveEachPlace_65 : decode c_Se_giveEachPlace 65 = .ok (.iload_n 1, 1) := by decide +kernel
theorem d_Se_giveEachPlace_66 : decode c_Se_giveEachPlace 66 = .ok (.iconst 1, 1) := by decide +kernel
theorem d_Se_giveEachPlace_67 : decode c_Se_giveEachPlace 67 = .ok (.iadd, 1) := by decide +kernel
theorem d_Se_giveEachPlace_68 : decode c_Se_giveEachPlace 68 = .ok (.iload 6, 2) := by decide +kernel
theorem d_Se_giveEachPlace_70 : decode c_Se_giveEachPlace 70 = .ok (.lload_n 3, 1) := by decide +kernel
theorem d_Se_giveEachPlace_71 : decode c_Se_giveEachPlace 71 = .ok (.aload_n 0, 1) := by decide +kernel
theorem d_Se_giveEachPlace_72 : decode c_Se_giveEachPlace 72 = .ok (.getfield 18, 3) := by decide +kernel
theorem d_Se_giveEachPlace_75 : decode c_Se_giveEachPlace 75 = .ok (.iload_n 1, 1) := by decide +kernel
theorem d_Se_giveEachPlace_76 : decode c_Se_giveEachPlace 76 = .ok (.laload, 1) := by decide +kernel
theorem d_Se_giveEachPlace_77 : decode c_Se_giveEachPlace 77 = .ok (.aload_n 0, 1) := by decide +kernel
theorem d_Se_giveEachPlace_78 : decode c_Se_giveEachPlace 78 = .ok (.getfield 27, 3) := by decide +kernel
theorem d_Se_giveEachPlace_81 : decode c_Se_giveEachPlace 81 = .ok (.iload_n 1, 1) := by decide +kernel
theorem d_Se_giveEachPlace_82 : decode c_Se_giveEachPlace 82 = .ok (.aaload, 1) := by decide +kernel
theorem d_Se_giveEachPlace_83 : decode c_Se_giveEachPlace 83 = .ok (.iload 5, 2) := by decide +kernel
theorem d_Se_giveEachPlace_85 : decode c_Se_giveEachPlace 85 = .ok (.laload, 1) := by decide +kernel
theorem d_Se_giveEachPlace_86 : decode c_Se_giveEachPlace 86 = .ok (.lmul, 1) := by decide +kernel
theorem d_Se_giveEachPlace_87 : decode c_Se_giveEachPlace 87 = .ok (.ladd, 1) := by decide +kernel
theorem d_Se_giveEachPlace_88 : decode c_Se_giveEachPlace 88 = .ok (.invokevirtual 123, 3) := by decide +kernel
theorem d_Se_giveEachPlace_91 : decode c_Se_giveEachPlace 91 = .ok (.aload_n 0, 1) := by decide +kernel
theorem d_Se_giveEachPlace_92 : decode c_Se_giveEachPlace 92 = .ok (.getfield 40, 3) := by decide +kernel
theorem d_Se_giveEachPlace_95 : decode c_Se_giveEachPlace 95 = .ok (.iload 5, 2) := by decide +kernel
theorem d_Se_giveEachPlace_97 : decode c_Se_giveEachPlace 97 = .ok (.dup2, 1) := by decide +kernel
theorem d_Se_giveEachPlace_98 : decode c_Se_giveEachPlace 98 = .ok (.laload, 1) := by decide +kernel
theorem d_Se_giveEachPlace_99 : decode c_Se_giveEachPlace 99 = .ok (.aload_n 0, 1) := by decide +kernel
theorem d_Se_giveEachPlace_100 : decode c_Se_giveEachPlace 100 = .ok (.getfield 18, 3) := by decide +kernel
theorem d_Se_giveEachPlace_103 : decode c_Se_giveEachPlace 103 = .ok (.iload_n 1, 1) := by decide +kernel
theorem d_Se_giveEachPlace_104 : decode c_Se_giveEachPlace 104 = .ok (.laload, 1) := by decide +kernel
theorem d_Se_giveEachPlace_105 : decode c_Se_giveEachPlace 105 = .ok (.ladd, 1) := by decide +kernel
theorem d_Se_giveEachPlace_106 : decode c_Se_giveEachPlace 106 = .ok (.lastore, 1) := by decide +kernel
theorem d_Se_giveEachPlace_107 : decode c_Se_giveEachPlace 107 = .ok (.iinc 5 1, 3) := by decide +kernel
theorem d_Se_giveEachPlace_110 : decode c_Se_giveEachPlace 110 = .ok (.goto (-107), 3) := by decide +kernel
theorem d_Se_giveEachPlace_113 : decode c_Se_giveEachPlace 113 = .ok (.return_, 1) := by decide +kernel
theorem d_Se_nextWithNeed_0 : decode c_Se_nextWithNeed 0 = .ok (.iload_n 1, 1) := by decide +kernel
theorem d_Se_nextWithNeed_1 : decode c_Se_nextWithNeed 1 = .ok (.istore_n 2, 1) := by decide +kernel
theorem d_Se_nextWithNeed_2 : decode c_Se_nextWithNeed 2 = .ok (.iload_n 2, 1) := by decide +kernel
theorem d_Se_nextWithNeed_3 : decode c_Se_nextWithNeed 3 = .ok (.aload_n 0, 1) := by decide +kernel
theorem d_Se_nextWithNeed_4 : decode c_Se_nextWithNeed 4 = .ok (.getfield 9, 3) := by decide +kernel
theorem d_Se_nextWithNeed_7 : decode c_Se_nextWithNeed 7 = .ok (.if_icmp .ge 20, 3) := by decide +kernel
theorem d_Se_nextWithNeed_10 : decode c_Se_nextWithNeed 10 = .ok (.aload_n 0, 1) := by decide +kernel
theorem d_Se_nextWithNeed_11 : decode c_Se_nextWithNeed 11 = .ok (.getfield 18, 3) := by decide +kernel
theorem d_Se_nextWithNeed_14 : decode c_Se_nextWithNeed 14 = .ok (.iload_n 2, 1) := by decide +kernel
theorem d_Se_nextWithNeed_15 : decode c_Se_nextWithNeed 15 = .ok (.laload, 1) := by decide +kernel
theorem d_Se_nextWithNeed_16 : decode c_Se_nextWithNeed 16 = .ok (.lconst 0, 1) := by decide +kernel
theorem d_Se_nextWithNeed_17 : decode c_Se_nextWithNeed 17 = .ok (.lcmp, 1) := by decide +kernel
theorem d_Se_nextWithNeed_18 : decode c_Se_nextWithNeed 18 = .ok (.ifCond .ne 9, 3) := by decide +kernel
theorem d_Se_nextWithNeed_21 : decode c_Se_nextWithNeed 21 = .ok (.iinc 2 1, 3) := by decide +kernel
theorem d_Se_nextWithNeed_24 : decode c_Se_nextWithNeed 24 = .ok (.goto (-22), 3) := by decide +kernel
theorem d_Se_nextWithNeed_27 : decode c_Se_nextWithNeed 27 = .ok (.iload_n 2, 1) := by decide +kernel
theorem d_Se_nextWithNeed_28 : decode c_Se_nextWithNeed 28 = .ok (.ireturn, 1) := by decide +kernel
theorem d_Se_isHopeless_0 : decode c_Se_isHopeless 0 = .ok (.aload_n 0, 1) := by decide +kernel
theorem d_Se_isHopeless_1 : decode c_Se_isHopeless 1 = .ok (.getfield 52, 3) := by decide +kernel
theorem d_Se_isHopeless_4 : decode c_Se_isHopeless 4 = .ok (.ldc2_w 50, 3) := by decide +kernel
theorem d_Se_isHopeless_7 : decode c_Se_isHopeless 7 = .ok (.lcmp, 1) := by decide +kernel
theorem d_Se_isHopeless_8 : decode c_Se_isHopeless 8 = .ok (.ifCond .eq 23, 3) := by decide +kernel
theorem d_Se_isHopeless_11 : decode c_Se_isHopeless 11 = .ok (.aload_n 0, 1) := by decide +kernel
theorem d_Se_isHopeless_12 : decode c_Se_isHopeless 12 = .ok (.getfield 59, 3) := by decide +kernel
theorem d_Se_isHopeless_15 : decode c_Se_isHopeless 15 = .ok (.ifCond .ne 12, 3) := by decide +kernel
theorem d_Se_isHopeless_18 : decode c_Se_isHopeless 18 = .ok (.lload_n 1, 1) := by decide +kernel
theorem d_Se_isHopeless_19 : decode c_Se_isHopeless 19 = .ok (.aload_n 0, 1) := by decide +kernel
theorem d_Se_isHopeless_20 : decode c_Se_isHopeless 20 = .ok (.getfield 52, 3) := by decide +kernel
theorem d_Se_isHopeless_23 : decode c_Se_isHopeless 23 = .ok (.lcmp, 1) := by decide +kernel
theorem d_Se_isHopeless_24 : decode c_Se_isHopeless 24 = .ok (.ifCond .lt 7, 3) := by decide +kernel
theorem d_Se_isHopeless_27 : decode c_Se_isHopeless 27 = .ok (.iconst 1, 1) := by decide +kernel
theorem d_Se_isHopeless_28 : decode c_Se_isHopeless 28 = .ok (.goto 4, 3) := by decide +kernel
theorem d_Se_isHopeless_31 : decode c_Se_isHopeless 31 = .ok (.iconst 0, 1) := by decide +kernel
theorem d_Se_isHopeless_32 : decode c_Se_isHopeless 32 = .ok (.ireturn, 1) := by decide +kernel
theorem d_Se_canTake_0 : decode c_Se_canTake 0 = .ok (.aload_n 0, 1) := by decide +kernel
theorem d_Se_canTake_1 : decode c_Se_canTake 1 = .ok (.iload_n 1, 1) := by decide +kernel
theorem d_Se_canTake_2 : decode c_Se_canTake 2 = .ok (.invokevirtual 134, 3) := by decide +kernel
theorem d_Se_canTake_5 : decode c_Se_canTake 5 = .ok (.ifCond .eq 38, 3) := by decide +kernel
theorem d_Se_canTake_8 : decode c_Se_canTake 8 = .ok (.aload_n 0, 1) := by decide +kernel
theorem d_Se_canTake_9 : decode c_Se_canTake 9 = .ok (.getfield 27, 3) := by decide +kernel
theorem d_Se_canTake_12 : decode c_Se_canTake 12 = .ok (.iload_n 2, 1) := by decide +kernel
theorem d_Se_canTake_13 : decode c_Se_canTake 13 = .ok (.aaload, 1) := by decide +kernel
theorem d_Se_canTake_14 : decode c_Se_canTake 14 = .ok (.iload_n 1, 1) := by decide +kernel
theorem d_Se_canTake_15 : decode c_Se_canTake 15 = .ok (.laload, 1) := by decide +kernel
theorem d_Se_canTake_16 : decode c_Se_canTake 16 = .ok (.ldc2_w 50, 3) := by decide +kernel
theorem d_Se_canTake_19 : decode c_Se_canTake 19 = .ok (.lcmp, 1) := by decide +kernel
theorem d_Se_canTake_20 : decode c_Se_canTake 20 = .ok (.ifCond .eq 23, 3) := by decide +kernel
theorem d_Se_canTake_23 : decode c_Se_canTake 23 = .ok (.aload_n 0, 1) := by decide +kernel
theorem d_Se_canTake_24 : decode c_Se_canTake 24 = .ok (.getfield 40, 3) := by decide +kernel
theorem d_Se_canTake_27 : decode c_Se_canTake 27 = .ok (.iload_n 1, 1) := by decide +kernel
theorem d_Se_canTake_28 : decode c_Se_canTake 28 = .ok (.laload, 1) := by decide +kernel
theorem d_Se_canTake_29 : decode c_Se_canTake 29 = .ok (.aload_n 0, 1) := by decide +kernel
theorem d_Se_canTake_30 : decode c_Se_canTake 30 = .ok (.getfield 18, 3) := by decide +kernel
theorem d_Se_canTake_33 : decode c_Se_canTake 33 = .ok (.iload_n 2, 1) := by decide +kernel
theorem d_Se_canTake_34 : decode c_Se_canTake 34 = .ok (.laload, 1) := by decide +kernel
theorem d_Se_canTake_35 : decode c_Se_canTake 35 = .ok (.lcmp, 1) := by decide +kernel
theorem d_Se_canTake_36 : decode c_Se_canTake 36 = .ok (.ifCond .lt 7, 3) := by decide +kernel
theorem d_Se_canTake_39 : decode c_Se_canTake 39 = .ok (.iconst 1, 1) := by decide +kernel
theorem d_Se_canTake_40 : decode c_Se_canTake 40 = .ok (.goto 4, 3) := by decide +kernel
theorem d_Se_canTake_43 : decode c_Se_canTake 43 = .ok (.iconst 0, 1) := by decide +kernel
theorem d_Se_canTake_44 : decode c_Se_canTake 44 = .ok (.ireturn, 1) := by decide +kernel
theorem d_Se_keepIfBetter_0 : decode c_Se_keepIfBetter 0 = .ok (.aload_n 0, 1) := by decide +kernel
theorem d_Se_keepIfBetter_1 : decode c_Se_keepIfBetter 1 = .ok (.getfield 52, 3) := by decide +kernel
theorem d_Se_keepIfBetter_4 : decode c_Se_keepIfBetter 4 = .ok (.ldc2_w 50, 3) := by decide +kernel
theorem d_Se_keepIfBetter_7 : decode c_Se_keepIfBetter 7 = .ok (.lcmp, 1) := by decide +kernel
theorem d_Se_keepIfBetter_8 : decode c_Se_keepIfBetter 8 = .ok (.ifCond .eq 12, 3) := by decide +kernel
theorem d_Se_keepIfBetter_11 : decode c_Se_keepIfBetter 11 = .ok (.lload_n 1, 1) := by decide +kernel
theorem d_Se_keepIfBetter_12 : decode c_Se_keepIfBetter 12 = .ok (.aload_n 0, 1) := by decide +kernel
theorem d_Se_keepIfBetter_13 : decode c_Se_keepIfBetter 13 = .ok (.getfield 52, 3) := by decide +kernel
theorem d_Se_keepIfBetter_16 : decode c_Se_keepIfBetter 16 = .ok (.lcmp, 1) := by decide +kernel
theorem d_Se_keepIfBetter_17 : decode c_Se_keepIfBetter 17 = .ok (.ifCond .ge 23, 3) := by decide +kernel
theorem d_Se_keepIfBetter_20 : decode c_Se_keepIfBetter 20 = .ok (.aload_n 0, 1) := by decide +kernel
theorem d_Se_keepIfBetter_21 : decode c_Se_keepIfBetter 21 = .ok (.lload_n 1, 1) := by decide +kernel
theorem d_Se_keepIfBetter_22 : decode c_Se_keepIfBetter 22 = .ok (.putfield 52, 3) := by decide +kernel
theorem d_Se_keepIfBetter_25 : decode c_Se_keepIfBetter 25 = .ok (.aload_n 0, 1) := by decide +kernel
theorem d_Se_keepIfBetter_26 : decode c_Se_keepIfBetter 26 = .ok (.getfield 43, 3) := by decide +kernel
theorem d_Se_keepIfBetter_29 : decode c_Se_keepIfBetter 29 = .ok (.iconst 0, 1) := by decide +kernel
theorem d_Se_keepIfBetter_30 : decode c_Se_keepIfBetter 30 = .ok (.aload_n 0, 1) := by decide +kernel
theorem d_Se_keepIfBetter_31 : decode c_Se_keepIfBetter 31 = .ok (.getfield 47, 3) := by decide +kernel
theorem d_Se_keepIfBetter_34 : decode c_Se_keepIfBetter 34 = .ok (.iconst 0, 1) := by decide +kernel
theorem d_Se_keepIfBetter_35 : decode c_Se_keepIfBetter 35 = .ok (.bipush 6, 2) := by decide +kernel
theorem d_Se_keepIfBetter_37 : decode c_Se_keepIfBetter 37 = .ok (.invokestatic 111, 3) := by decide +kernel
theorem d_Se_keepIfBetter_40 : decode c_Se_keepIfBetter 40 = .ok (.return_, 1) := by decide +kernel
theorem d_Se_isPlan_0 : decode c_Se_isPlan 0 = .ok (.aload_n 0, 1) := by decide +kernel
theorem d_Se_isPlan_1 : decode c_Se_isPlan 1 = .ok (.getfield 22, 3) := by decide +kernel
theorem d_Se_isPlan_4 : decode c_Se_isPlan 4 = .ok (.iconst 0, 1) := by decide +kernel
theorem d_Se_isPlan_5 : decode c_Se_isPlan 5 = .ok (.aload_n 0, 1) := by decide +kernel
theorem d_Se_isPlan_6 : decode c_Se_isPlan 6 = .ok (.getfield 40, 3) := by decide +kernel
theorem d_Se_isPlan_9 : decode c_Se_isPlan 9 = .ok (.iconst 0, 1) := by decide +kernel
theorem d_Se_isPlan_10 : decode c_Se_isPlan 10 = .ok (.iconst 5, 1) := by decide +kernel
theorem d_Se_isPlan_11 : decode c_Se_isPlan 11 = .ok (.invokestatic 111, 3) := by decide +kernel
theorem d_Se_isPlan_14 : decode c_Se_isPlan 14 = .ok (.aload_n 0, 1) := by decide +kernel
theorem d_Se_isPlan_15 : decode c_Se_isPlan 15 = .ok (.bipush 31, 2) := by decide +kernel
theorem d_Se_isPlan_17 : decode c_Se_isPlan 17 = .ok (.putfield 56, 3) := by decide +kernel
theorem d_Se_isPlan_20 : decode c_Se_isPlan 20 = .ok (.iconst 0, 1) := by decide +kernel
theorem d_Se_isPlan_21 : decode c_Se_isPlan 21 = .ok (.istore_n 2, 1) := by decide +kernel
theorem d_Se_isPlan_22 : decode c_Se_isPlan 22 = .ok (.iconst 0, 1) := by decide +kernel
theorem d_Se_isPlan_23 : decode c_Se_isPlan 23 = .ok (.istore_n 3, 1) := by decide +kernel
theorem d_Se_isPlan_24 : decode c_Se_isPlan 24 = .ok (.iload_n 3, 1) := by decide +kernel
theorem d_Se_isPlan_25 : decode c_Se_isPlan 25 = .ok (.aload_n 0, 1) := by decide +kernel
theorem d_Se_isPlan_26 : decode c_Se_isPlan 26 = .ok (.getfield 9, 3) := by decide +kernel
theorem d_Se_isPlan_29 : decode c_Se_isPlan 29 = .ok (.if_icmp .ge 85, 3) := by decide +kernel
theorem d_Se_isPlan_32 : decode c_Se_isPlan 32 = .ok (.aload_n 1, 1) := by decide +kernel
theorem d_Se_isPlan_33 : decode c_Se_isPlan 33 = .ok (.iload_n 3, 1) := by decide +kernel
theorem d_Se_isPlan_34 : decode c_Se_isPlan 34 = .ok (.iaload, 1) := by decide +kernel
theorem d_Se_isPlan_35 : decode c_Se_isPlan 35 = .ok (.istore 4, 2) := by decide +kernel
theorem d_Se_isPlan_37 : decode c_Se_isPlan 37 = .ok (.aload_n 0, 1) := by decide +kernel
theorem d_Se_isPlan_38 : decode c_Se_isPlan 38 = .ok (.getfield 18, 3) := by decide +kernel
theorem d_Se_isPlan_41 : decode c_Se_isPlan 41 = .ok (.iload_n 3, 1) := by decide +kernel
theorem d_Se_isPlan_42 : decode c_Se_isPlan 42 = .ok (.laload, 1) := by decide +kernel
theorem d_Se_isPlan_43 : decode c_Se_isPlan 43 = .ok (.lconst 0, 1) := by decide +kernel
theorem d_Se_isPlan_44 : decode c_Se_isPlan 44 = .ok (.lcmp, 1) := by decide +kernel
theorem d_Se_isPlan_45 : decode c_Se_isPlan 45 = .ok (.ifCond .le 55, 3) := by decide +kernel
theorem d_Se_isPlan_48 : decode c_Se_isPlan 48 = .ok (.iload 4, 2) := by decide +kernel
theorem d_Se_isPlan_50 : decode c_Se_isPlan 50 = .ok (.ifCond .lt 22, 3) := by decide +kernel
theorem d_Se_isPlan_53 : decode c_Se_isPlan 53 = .ok (.iload 4, 2) := by decide +kernel
theorem d_Se_isPlan_55 : decode c_Se_isPlan 55 = .ok (.aload_n 0, 1) := by decide +kernel
theorem d_Se_isPlan_56 : decode c_Se_isPlan 56 = .ok (.getfield 15, 3) := by decide +kernel
theorem d_Se_isPlan_59 : decode c_Se_isPlan 59 = .ok (.if_icmp .ge 13, 3) := by decide +kernel
theorem d_Se_isPlan_62 : decode c_Se_isPlan 62 = .ok (.aload_n 0, 1) := by decide +kernel
theorem d_Se_isPlan_63 : decode c_Se_isPlan 63 = .ok (.iload 4, 2) := by decide +kernel
theorem d_Se_isPlan_65 : decode c_Se_isPlan 65 = .ok (.iload_n 3, 1) := by decide +kernel
theorem d_Se_isPlan_66 : decode c_Se_isPlan 66 = .ok (.invokevirtual 153, 3) := by decide +kernel
theorem d_Se_isPlan_69 : decode c_Se_isPlan 69 = .ok (.ifCond .ne 5, 3) := by decide +kernel
theorem d_Se_isPlan_72 : decode c_Se_isPlan 72 = .ok (.iconst 0, 1) := by decide +kernel
theorem d_Se_isPlan_73 : decode c_Se_isPlan 73 = .ok (.ireturn, 1) := by decide +kernel
theorem d_Se_isPlan_74 : decode c_Se_isPlan 74 = .ok (.aload_n 0, 1) := by decide +kernel
theorem d_Se_isPlan_75 : decode c_Se_isPlan 75 = .ok (.getfield 40, 3) := by decide +kernel
theorem d_Se_isPlan_78 : decode c_Se_isPlan 78 = .ok (.iload 4, 2) := by decide +kernel
theorem d_Se_isPlan_80 : decode c_Se_isPlan 80 = .ok (.dup2, 1) := by decide +kernel
theorem d_Se_isPlan_81 : decode c_Se_isPlan 81 = .ok (.laload, 1) := by decide +kernel
theorem d_Se_isPlan_82 : decode c_Se_isPlan 82 = .ok (.aload_n 0, 1) := by decide +kernel
theorem d_Se_isPlan_83 : decode c_Se_isPlan 83 = .ok (.getfield 18, 3) := by decide +kernel
theorem d_Se_isPlan_86 : decode c_Se_isPlan 86 = .ok (.iload_n 3, 1) := by decide +kernel
theorem d_Se_isPlan_87 : decode c_Se_isPlan 87 = .ok (.laload, 1) := by decide +kernel
theorem d_Se_isPlan_88 : decode c_Se_isPlan 88 = .ok (.lsub, 1) := by decide +kernel
theorem d_Se_isPlan_89 : decode c_Se_isPlan 89 = .ok (.lastore, 1) := by decide +kernel
theorem d_Se_isPlan_90 : decode c_Se_isPlan 90 = .ok (.iload_n 2, 1) := by decide +kernel
theorem d_Se_isPlan_91 : decode c_Se_isPlan 91 = .ok (.iconst 1, 1) := by decide +kernel
theorem d_Se_isPlan_92 : decode c_Se_isPlan 92 = .ok (.iload 4, 2) := by decide +kernel
theorem d_Se_isPlan_94 : decode c_Se_isPlan 94 = .ok (.ishl, 1) := by decide +kernel
theorem d_Se_isPlan_95 : decode c_Se_isPlan 95 = .ok (.ior, 1) := by decide +kernel
theorem d_Se_isPlan_96 : decode c_Se_isPlan 96 = .ok (.istore_n 2, 1) := by decide +kernel
theorem d_Se_isPlan_97 : decode c_Se_isPlan 97 = .ok (.goto 11, 3) := by decide +kernel
theorem d_Se_isPlan_100 : decode c_Se_isPlan 100 = .ok (.iload 4, 2) := by decide +kernel
theorem d_Se_isPlan_102 : decode c_Se_isPlan 102 = .ok (.iconst (-1), 1) := by decide +kernel
theorem d_Se_isPlan_103 : decode c_Se_isPlan 103 = .ok (.if_icmp .eq 5, 3) := by decide +kernel
theorem d_Se_isPlan_106 : decode c_Se_isPlan 106 = .ok (.iconst 0, 1) := by decide +kernel
theorem d_Se_isPlan_107 : decode c_Se_isPlan 107 = .ok (.ireturn, 1) := by decide +kernel
theorem d_Se_isPlan_108 : decode c_Se_isPlan 108 = .ok (.iinc 3 1, 3) := by decide +kernel
theorem d_Se_isPlan_111 : decode c_Se_isPlan 111 = .ok (.goto (-87), 3) := by decide +kernel
theorem d_Se_isPlan_114 : decode c_Se_isPlan 114 = .ok (.aload_n 0, 1) := by decide +kernel
theorem d_Se_isPlan_115 : decode c_Se_isPlan 115 = .ok (.getfield 30, 3) := by decide +kernel
theorem d_Se_isPlan_118 : decode c_Se_isPlan 118 = .ok (.iload_n 2, 1) := by decide +kernel
theorem d_Se_isPlan_119 : decode c_Se_isPlan 119 = .ok (.baload, 1) := by decide +kernel
theorem d_Se_isPlan_120 : decode c_Se_isPlan 120 = .ok (.ireturn, 1) := by decide +kernel
theorem d_To_init_0 : decode c_To_init 0 = .ok (.aload_n 0, 1) := by decide +kernel
theorem d_To_init_1 : decode c_To_init 1 = .ok (.invokespecial 3, 3) := by decide +kernel
theorem d_To_init_4 : decode c_To_init 4 = .ok (.aload_n 0, 1) := by decide +kernel
theorem d_To_init_5 : decode c_To_init 5 = .ok (.iconst 0, 1) := by decide +kernel
theorem d_To_init_6 : decode c_To_init 6 = .ok (.putfield 9, 3) := by decide +kernel
theorem d_To_init_9 : decode c_To_init 9 = .ok (.aload_n 0, 1) := by decide +kernel
theorem d_To_init_10 : decode c_To_init 10 = .ok (.iconst 0, 1) := by decide +kernel
theorem d_To_init_11 : decode c_To_init 11 = .ok (.putfield 15, 3) := by decide +kernel
theorem d_To_init_14 : decode c_To_init 14 = .ok (.aload_n 0, 1) := by decide +kernel
theorem d_To_init_15 : decode c_To_init 15 = .ok (.ldc2_w 18, 3) := by decide +kernel
theorem d_To_init_18 : decode c_To_init 18 = .ok (.putfield 20, 3) := by decide +kernel
theorem d_To_init_21 : decode c_To_init 21 = .ok (.aload_n 0, 1) := by decide +kernel
theorem d_To_init_22 : decode c_To_init 22 = .ok (.bipush 6, 2) := by decide +kernel
theorem d_To_init_24 : decode c_To_init 24 = .ok (.newarray .long, 2) := by decide +kernel
theorem d_To_init_26 : decode c_To_init 26 = .ok (.putfield 24, 3) := by decide +kernel
theorem d_To_init_29 : decode c_To_init 29 = .ok (.aload_n 0, 1) := by decide +kernel
theorem d_To_init_30 : decode c_To_init 30 = .ok (.bipush 6, 2) := by decide +kernel
theorem d_To_init_32 : decode c_To_init 32 = .ok (.newarray .long, 2) := by decide +kernel
theorem d_To_init_34 : decode c_To_init 34 = .ok (.putfield 28, 3) := by decide +kernel
theorem d_To_init_37 : decode c_To_init 37 = .ok (.aload_n 0, 1) := by decide +kernel
theorem d_To_init_38 : decode c_To_init 38 = .ok (.bipush 6, 2) := by decide +kernel
theorem d_To_init_40 : decode c_To_init 40 = .ok (.iconst 5, 1) := by decide +kernel
theorem d_To_init_41 : decode c_To_init 41 = .ok (.multianewarray 31 2, 4) := by decide +kernel
theorem d_To_init_45 : decode c_To_init 45 = .ok (.putfield 33, 3) := by decide +kernel
theorem d_To_init_48 : decode c_To_init 48 = .ok (.aload_n 0, 1) := by decide +kernel
theorem d_To_init_49 : decode c_To_init 49 = .ok (.iconst 5, 1) := by decide +kernel
theorem d_To_init_50 : decode c_To_init 50 = .ok (.newarray .long, 2) := by decide +kernel
theorem d_To_init_52 : decode c_To_init 52 = .ok (.putfield 36, 3) := by decide +kernel
theorem d_To_init_55 : decode c_To_init 55 = .ok (.aload_n 0, 1) := by decide +kernel
theorem d_To_init_56 : decode c_To_init 56 = .ok (.iconst 5, 1) := by decide +kernel
theorem d_To_init_57 : decode c_To_init 57 = .ok (.newarray .long, 2) := by decide +kernel
theorem d_To_init_59 : decode c_To_init 59 = .ok (.putfield 39, 3) := by decide +kernel
theorem d_To_init_62 : decode c_To_init 62 = .ok (.aload_n 0, 1) := by decide +kernel
theorem d_To_init_63 : decode c_To_init 63 = .ok (.iconst 5, 1) := by decide +kernel
theorem d_To_init_64 : decode c_To_init 64 = .ok (.newarray .long, 2) := by decide +kernel
theorem d_To_init_66 : decode c_To_init 66 = .ok (.putfield 42, 3) := by decide +kernel
theorem d_To_init_69 : decode c_To_init 69 = .ok (.aload_n 0, 1) := by decide +kernel
theorem d_To_init_70 : decode c_To_init 70 = .ok (.iconst 5, 1) := by decide +kernel
theorem d_To_init_71 : decode c_To_init 71 = .ok (.newarray .long, 2) := by decide +kernel
theorem d_To_init_73 : decode c_To_init 73 = .ok (.putfield 45, 3) := by decide +kernel
theorem d_To_init_76 : decode c_To_init 76 = .ok (.aload_n 0, 1) := by decide +kernel
theorem d_To_init_77 : decode c_To_init 77 = .ok (.iconst 5, 1) := by decide +kernel
theorem d_To_init_78 : decode c_To_init 78 = .ok (.newarray .long, 2) := by decide +kernel
theorem d_To_init_80 : decode c_To_init 80 = .ok (.putfield 48, 3) := by decide +kernel
theorem d_To_init_83 : decode c_To_init 83 = .ok (.aload_n 0, 1) := by decide +kernel
theorem d_To_init_84 : decode c_To_init 84 = .ok (.iconst 5, 1) := by decide +kernel
theorem d_To_init_85 : decode c_To_init 85 = .ok (.newarray .boolean, 2) := by decide +kernel
theorem d_To_init_87 : decode c_To_init 87 = .ok (.putfield 51, 3) := by decide +kernel
theorem d_To_init_90 : decode c_To_init 90 = .ok (.return_, 1) := by decide +kernel
theorem d_To_hasDistrict_0 : decode c_To_hasDistrict 0 = .ok (.iload_n 1, 1) := by decide +kernel
theorem d_To_hasDistrict_1 : decode c_To_hasDistrict 1 = .ok (.ifCond .lt 15, 3) := by decide +kernel
theorem d_To_hasDistrict_4 : decode c_To_hasDistrict 4 = .ok (.iload_n 1, 1) := by decide +kernel
theorem d_To_hasDistrict_5 : decode c_To_hasDistrict 5 = .ok (.aload_n 0, 1) := by decide +kernel
theorem d_To_hasDistrict_6 : decode c_To_hasDistrict 6 = .ok (.getfield 9, 3) := by decide +kernel
theorem d_To_hasDistrict_9 : decode c_To_hasDistrict 9 = .ok (.if_icmp .ge 7, 3) := by decide +kernel
theorem d_To_hasDistrict_12 : decode c_To_hasDistrict 12 = .ok (.iconst 1, 1) := by decide +kernel
theorem d_To_hasDistrict_13 : decode c_To_hasDistrict 13 = .ok (.goto 4, 3) := by decide +kernel
theorem d_To_hasDistrict_16 : decode c_To_hasDistrict 16 = .ok (.iconst 0, 1) := by decide +kernel
theorem d_To_hasDistrict_17 : decode c_To_hasDistrict 17 = .ok (.ireturn, 1) := by decide +kernel
theorem d_To_hasPlace_0 : decode c_To_hasPlace 0 = .ok (.iload_n 1, 1) := by decide +kernel
theorem d_To_hasPlace_1 : decode c_To_hasPlace 1 = .ok (.ifCond .lt 15, 3) := by decide +kernel
theorem d_To_hasPlace_4 : decode c_To_hasPlace 4 = .ok (.iload_n 1, 1) := by decide +kernel
theorem d_To_hasPlace_5 : decode c_To_hasPlace 5 = .ok (.aload_n 0, 1) := by decide +kernel
theorem d_To_hasPlace_6 : decode c_To_hasPlace 6 = .ok (.getfield 15, 3) := by decide +kernel
theorem d_To_hasPlace_9 : decode c_To_hasPlace 9 = .ok (.if_icmp .ge 7, 3) := by decide +kernel
theorem d_To_hasPlace_12 : decode c_To_hasPlace 12 = .ok (.iconst 1, 1) := by decide +kernel
theorem d_To_hasPlace_13 : decode c_To_hasPlace 13 = .ok (.goto 4, 3) := by decide +kernel
theorem d_To_hasPlace_16 : decode c_To_hasPlace 16 = .ok (.iconst 0, 1) := by decide +kernel
theorem d_To_hasPlace_17 : decode c_To_hasPlace 17 = .ok (.ireturn, 1) := by decide +kernel
theorem d_To_addDistrict_0 : decode c_To_addDistrict 0 = .ok (.aload_n 0, 1) := by decide +kernel
theorem d_To_addDistrict_1 : decode c_To_addDistrict 1 = .ok (.getfield 9, 3) := by decide +kernel
theorem d_To_addDistrict_4 : decode c_To_addDistrict 4 = .ok (.istore_n 3, 1) := by decide +kernel
theorem d_To_addDistrict_5 : decode c_To_addDistrict 5 = .ok (.iload_n 3, 1) := by decide +kernel
theorem d_To_addDistrict_6 : decode c_To_addDistrict 6 = .ok (.bipush 6, 2) := by decide +kernel
theorem d_To_addDistrict_8 : decode c_To_addDistrict 8 = .ok (.if_icmp .lt 5, 3) := by decide +kernel
theorem d_To_addDistrict_11 : decode c_To_addDistrict 11 = .ok (.iconst (-1), 1) := by decide +kernel
theorem d_To_addDistrict_12 : decode c_To_addDistrict 12 = .ok (.ireturn, 1) := by decide +kernel
theorem d_To_addDistrict_13 : decode c_To_addDistrict 13 = .ok (.aload_n 0, 1) := by decide +kernel
theorem d_To_addDistrict_14 : decode c_To_addDistrict 14 = .ok (.getfield 24, 3) := by decide +kernel
theorem d_To_addDistrict_17 : decode c_To_addDistrict 17 = .ok (.iload_n 3, 1) := by decide +kernel
theorem d_To_addDistrict_18 : decode c_To_addDistrict 18 = .ok (.lload_n 1, 1) := by decide +kernel
theorem d_To_addDistrict_19 : decode c_To_addDistrict 19 = .ok (.lastore, 1) := by decide +kernel
theorem d_To_addDistrict_20 : decode c_To_addDistrict 20 = .ok (.aload_n 0, 1) := by decide +kernel
theorem d_To_addDistrict_21 : decode c_To_addDistrict 21 = .ok (.getfield 28, 3) := by decide +kernel
theorem d_To_addDistrict_24 : decode c_To_addDistrict 24 = .ok (.iload_n 3, 1) := by decide +kernel
theorem d_To_addDistrict_25 : decode c_To_addDistrict 25 = .ok (.ldc2_w 55, 3) := by decide +kernel
theorem d_To_addDistrict_28 : decode c_To_addDistrict 28 = .ok (.lastore, 1) := by decide +kernel
theorem d_To_addDistrict_29 : decode c_To_addDistrict 29 = .ok (.aload_n 0, 1) := by decide +kernel
theorem d_To_addDistrict_30 : decode c_To_addDistrict 30 = .ok (.getfield 33, 3) := by decide +kernel
theorem d_To_addDistrict_33 : decode c_To_addDistrict 33 = .ok (.iload_n 3, 1) := by decide +kernel
theorem d_To_addDistrict_34 : decode c_To_addDistrict 34 = .ok (.aaload, 1) := by decide +kernel
theorem d_To_addDistrict_35 : decode c_To_addDistrict 35 = .ok (.ldc2_w 57, 3) := by decide +kernel
theorem d_To_addDistrict_38 : decode c_To_addDistrict 38 = .ok (.invokestatic 59, 3) := by decide +kernel
theorem d_To_addDistrict_41 : decode c_To_addDistrict 41 = .ok (.aload_n 0, 1) := by decide +kernel
theorem d_To_addDistrict_42 : decode c_To_addDistrict 42 = .ok (.iload_n 3, 1) := by decide +kernel
theorem d_To_addDistrict_43 : decode c_To_addDistrict 43 = .ok (.iconst 1, 1) := by decide +kernel
theorem d_To_addDistrict_44 : decode c_To_addDistrict 44 = .ok (.iadd, 1) := by decide +kernel
theorem d_To_addDistrict_45 : decode c_To_addDistrict 45 = .ok (.putfield 9, 3) := by decide +kernel
theorem d_To_addDistrict_48 : decode c_To_addDistrict 48 = .ok (.iload_n 3, 1) := by decide +kernel
theorem d_To_addDistrict_49 : decode c_To_addDistrict 49 = .ok (.ireturn, 1) := by decide +kernel
theorem d_To_addPlace_0 : decode c_To_addPlace 0 = .ok (.aload_n 0, 1) := by decide +kernel
theorem d_To_addPlace_1 : decode c_To_addPlace 1 = .ok (.getfield 15, 3) := by decide +kernel
theorem d_To_addPlace_4 : decode c_To_addPlace 4 = .ok (.istore 9, 2) := by decide +kernel
theorem d_To_addPlace_6 : decode c_To_addPlace 6 = .ok (.iload 9, 2) := by decide +kernel
theorem d_To_addPlace_8 : decode c_To_addPlace 8 = .ok (.iconst 5, 1) := by decide +kernel
theorem d_To_addPlace_9 : decode c_To_addPlace 9 = .ok (.if_icmp .lt 5, 3) := by decide +kernel
theorem d_To_addPlace_12 : decode c_To_addPlace 12 = .ok (.iconst (-1), 1) := by decide +kernel
theorem d_To_addPlace_13 : decode c_To_addPlace 13 = .ok (.ireturn, 1) := by decide +kernel
theorem d_To_addPlace_14 : decode c_To_addPlace 14 = .ok (.aload_n 0, 1) := by decide +kernel
theorem d_To_addPlace_15 : decode c_To_addPlace 15 = .ok (.getfield 36, 3) := by decide +kernel
theorem d_To_addPlace_18 : decode c_To_addPlace 18 = .ok (.iload 9, 2) := by decide +kernel
theorem d_To_addPlace_20 : decode c_To_addPlace 20 = .ok (.lload_n 1, 1) := by decide +kernel
theorem d_To_addPlace_21 : decode c_To_addPlace 21 = .ok (.lastore, 1) := by decide +kernel
theorem d_To_addPlace_22 : decode c_To_addPlace 22 = .ok (.aload_n 0, 1) := by decide +kernel
theorem d_To_addPlace_23 : decode c_To_addPlace 23 = .ok (.getfield 39, 3) := by decide +kernel
theorem d_To_addPlace_26 : decode c_To_addPlace 26 = .ok (.iload 9, 2) := by decide +kernel
theorem d_To_addPlace_28 : decode c_To_addPlace 28 = .ok (.lload_n 3, 1) := by decide +kernel
theorem d_To_addPlace_29 : decode c_To_addPlace 29 = .ok (.lastore, 1) := by decide +kernel
theorem d_To_addPlace_30 : decode c_To_addPlace 30 = .ok (.aload_n 0, 1) := by decide +kernel
theorem d_To_addPlace_31 : decode c_To_addPlace 31 = .ok (.getfield 42, 3) := by decide +kernel
theorem d_To_addPlace_34 : decode c_To_addPlace 34 = .ok (.iload 9, 2) := by decide +kernel
theorem d_To_addPlace_36 : decode c_To_addPlace 36 = .ok (.lload 5, 2) := by decide +kernel
theorem d_To_addPlace_38 : decode c_To_addPlace 38 = .ok (.lastore, 1) := by decide +kernel
theorem d_To_addPlace_39 : decode c_To_addPlace 39 = .ok (.aload_n 0, 1) := by decide +kernel
theorem d_To_addPlace_40 : decode c_To_addPlace 40 = .ok (.getfield 45, 3) := by decide +kernel
theorem d_To_addPlace_43 : decode c_To_addPlace 43 = .ok (.iload 9, 2) := by decide +kernel
theorem d_To_addPlace_45 : decode c_To_addPlace 45 = .ok (.lload 7, 2) := by decide +kernel
theorem d_To_addPlace_47 : decode c_To_addPlace 47 = .ok (.lastore, 1) := by decide +kernel
theorem d_To_addPlace_48 : decode c_To_addPlace 48 = .ok (.aload_n 0, 1) := by decide +kernel
theorem d_To_addPlace_49 : decode c_To_addPlace 49 = .ok (.iload 9, 2) := by decide +kernel
theorem d_To_addPlace_51 : decode c_To_addPlace 51 = .ok (.iconst 1, 1) := by decide +kernel
theorem d_To_addPlace_52 : decode c_To_addPlace 52 = .ok (.iadd, 1) := by decide +kernel
theorem d_To_addPlace_53 : decode c_To_addPlace 53 = .ok (.putfield 15, 3) := by decide +kernel
theorem d_To_addPlace_56 : decode c_To_addPlace 56 = .ok (.iload 9, 2) := by decide +kernel
theorem d_To_addPlace_58 : decode c_To_addPlace 58 = .ok (.ireturn, 1) := by decide +kernel
theorem d_To_reach_0 : decode c_To_reach 0 = .ok (.aload_n 0, 1) := by decide +kernel
theorem d_To_reach_1 : decode c_To_reach 1 = .ok (.iload_n 1, 1) := by decide +kernel
theorem d_To_reach_2 : decode c_To_reach 2 = .ok (.invokevirtual 65, 3) := by decide +kernel
theorem d_To_reach_5 : decode c_To_reach 5 = .ok (.ifCond .eq 20, 3) := by decide +kernel
theorem d_To_reach_8 : decode c_To_reach 8 = .ok (.aload_n 0, 1) := by decide +kernel
theorem d_To_reach_9 : decode c_To_reach 9 = .ok (.iload_n 2, 1) := by decide +kernel
theorem d_To_reach_10 : decode c_To_reach 10 = .ok (.invokevirtual 69, 3) := by decide +kernel
theorem d_To_reach_13 : decode c_To_reach 13 = .ok (.ifCond .eq 12, 3) := by decide +kernel
theorem d_To_reach_16 : decode c_To_reach 16 = .ok (.aload_n 0, 1) := by decide +kernel
theorem d_To_reach_17 : decode c_To_reach 17 = .ok (.getfield 51, 3) := by decide +kernel
theorem d_To_reach_20 : decode c_To_reach 20 = .ok (.iload_n 2, 1) := by decide +kernel
theorem d_To_reach_21 : decode c_To_reach 21 = .ok (.baload, 1) := by decide +kernel
theorem d_To_reach_22 : decode c_To_reach 22 = .ok (.ifCond .eq 7, 3) := by decide +kernel
theorem d_To_reach_25 : decode c_To_reach 25 = .ok (.ldc2_w 57, 3) := by decide +kernel
theorem d_To_reach_28 : decode c_To_reach 28 = .ok (.lreturn, 1) := by decide +kernel
theorem d_To_reach_29 : decode c_To_reach 29 = .ok (.aload_n 0, 1) := by decide +kernel
theorem d_To_reach_30 : decode c_To_reach 30 = .ok (.getfield 33, 3) := by decide +kernel
theorem d_To_reach_33 : decode c_To_reach 33 = .ok (.iload_n 1, 1) := by decide +kernel
theorem d_To_reach_34 : decode c_To_reach 34 = .ok (.aaload, 1) := by decide +kernel
theorem d_To_reach_35 : decode c_To_reach 35 = .ok (.iload_n 2, 1) := by decide +kernel
theorem d_To_reach_36 : decode c_To_reach 36 = .ok (.laload, 1) := by decide +kernel
theorem d_To_reach_37 : decode c_To_reach 37 = .ok (.lstore_n 3, 1) := by decide +kernel
theorem d_To_reach_38 : decode c_To_reach 38 = .ok (.lload_n 3, 1) := by decide +kernel
theorem d_To_reach_39 : decode c_To_reach 39 = .ok (.ldc2_w 57, 3) := by decide +kernel
theorem d_To_reach_42 : decode c_To_reach 42 = .ok (.lcmp, 1) := by decide +kernel
theorem d_To_reach_43 : decode c_To_reach 43 = .ok (.ifCond .eq 18, 3) := by decide +kernel
theorem d_To_reach_46 : decode c_To_reach 46 = .ok (.lload_n 3, 1) := by decide +kernel
theorem d_To_reach_47 : decode c_To_reach 47 = .ok (.aload_n 0, 1) := by decide +kernel
theorem d_To_reach_48 : decode c_To_reach 48 = .ok (.getfield 28, 3) := by decide +kernel
theorem d_To_reach_51 : decode c_To_reach 51 = .ok (.iload_n 1, 1) := by decide +kernel
theorem d_To_reach_52 : decode c_To_reach 52 = .ok (.laload, 1) := by decide +kernel
theorem d_To_reach_53 : decode c_To_reach 53 = .ok (.lcmp, 1) := by decide +kernel
theorem d_To_reach_54 : decode c_To_reach 54 = .ok (.ifCond .gt 7, 3) := by decide +kernel
theorem d_To_reach_57 : decode c_To_reach 57 = .ok (.lload_n 3, 1) := by decide +kernel
theorem d_To_reach_58 : decode c_To_reach 58 = .ok (.goto 6, 3) := by decide +kernel
theorem d_To_reach_61 : decode c_To_reach 61 = .ok (.ldc2_w 57, 3) := by decide +kernel
theorem d_To_reach_64 : decode c_To_reach 64 = .ok (.lreturn, 1) := by decide +kernel
theorem d_To_countWays_0 : decode c_To_countWays 0 = .ok (.lconst 1, 1) := by decide +kernel
theorem d_To_countWays_1 : decode c_To_countWays 1 = .ok (.lstore_n 1, 1) := by decide +kernel
theorem d_To_countWays_2 : decode c_To_countWays 2 = .ok (.iconst 0, 1) := by decide +kernel
theorem d_To_countWays_3 : decode c_To_countWays 3 = .ok (.istore_n 3, 1) := by decide +kernel
theorem d_To_countWays_4 : decode c_To_countWays 4 = .ok (.iload_n 3, 1) := by decide +kernel
theorem d_To_countWays_5 : decode c_To_countWays 5 = .ok (.aload_n 0, 1) := by decide +kernel
theorem d_To_countWays_6 : decode c_To_countWays 6 = .ok (.getfield 9, 3) := by decide +kernel
theorem d_To_countWays_9 : decode c_To_countWays 9 = .ok (.if_icmp .ge 28, 3) := by decide +kernel
theorem d_To_countWays_12 : decode c_To_countWays 12 = .ok (.aload_n 0, 1) := by decide +kernel
theorem d_To_countWays_13 : decode c_To_countWays 13 = .ok (.getfield 24, 3) := by decide +kernel
theorem d_To_countWays_16 : decode c_To_countWays 16 = .ok (.iload_n 3, 1) := by decide +kernel
theorem d_To_countWays_17 : decode c_To_countWays 17 = .ok (.laload, 1) := by decide +kernel
theorem d_To_countWays_18 : decode c_To_countWays 18 = .ok (.lconst 0, 1) := by decide +kernel
theorem d_To_countWays_19 : decode c_To_countWays 19 = .ok (.lcmp, 1) := by decide +kernel
theorem d_To_countWays_20 : decode c_To_countWays 20 = .ok (.ifCond .le 11, 3) := by decide +kernel
theorem d_To_countWays_23 : decode c_To_countWays 23 = .ok (.lload_n 1, 1) := by decide +kernel
theorem d_To_countWays_24 : decode c_To_countWays 24 = .ok (.aload_n 0, 1) := by decide +kernel
theorem d_To_countWays_25 : decode c_To_countWays 25 = .ok (.iload_n 3, 1) := by decide +kernel
theorem d_To_countWays_26 : decode c_To_countWays 26 = .ok (.invokevirtual 72, 3) := by decide +kernel
theorem d_To_countWays_29 : decode c_To_countWays 29 = .ok (.lmul, 1) := by decide +kernel
theorem d_To_countWays_30 : decode c_To_countWays 30 = .ok (.lstore_n 1, 1) := by decide +kernel
theorem d_To_countWays_31 : decode c_To_countWays 31 = .ok (.iinc 3 1, 3) := by decide +kernel
theorem d_To_countWays_34 : decode c_To_countWays 34 = .ok (.goto (-30), 3) := by decide +kernel
theorem d_To_countWays_37 : decode c_To_countWays 37 = .ok (.lload_n 1, 1) := by decide +kernel
theorem d_To_countWays_38 : decode c_To_countWays 38 = .ok (.lreturn, 1) := by decide +kernel
theorem d_To_countReached_0 : decode c_To_countReached 0 = .ok (.lconst 0, 1) := by decide +kernel
theorem d_To_countReached_1 : decode c_To_countReached 1 = .ok (.lstore_n 2, 1) := by decide +kernel
theorem d_To_countReached_2 : decode c_To_countReached 2 = .ok (.iconst 0, 1) := by decide +kernel
theorem d_To_countReached_3 : decode c_To_countReached 3 = .ok (.istore 4, 2) := by decide +kernel
theorem d_To_countReached_5 : decode c_To_countReached 5 = .ok (.iload 4, 2) := by decide +kernel
theorem d_To_countReached_7 : decode c_To_countReached 7 = .ok (.aload_n 0, 1) := by decide +kernel
theorem d_To_countReached_8 : decode c_To_countReached 8 = .ok (.getfield 15, 3) := by decide +kernel
theorem d_To_countReached_11 : decode c_To_countReached 11 = .ok (.if_icmp .ge 27, 3) := by decide +kernel
theorem d_To_countReached_14 : decode c_To_countReached 14 = .ok (.aload_n 0, 1) := by decide +kernel
theorem d_To_countReached_15 : decode c_To_countReached 15 = .ok (.iload_n 1, 1) := by decide +kernel
theorem d_To_countReached_16 : decode c_To_countReached 16 = .ok (.iload 4, 2) := by decide +kernel
theorem d_To_countReached_18 : decode c_To_countReached 18 = .ok (.invokevirtual 76, 3) := by decide +kernel
theorem d_To_countReached_21 : decode c_To_countReached 21 = .ok (.ldc2_w 57, 3) := by decide +kernel
theorem d_To_countReached_24 : decode c_To_countReached 24 = .ok (.lcmp, 1) := by decide +kernel
theorem d_To_countReached_25 : decode c_To_countReached 25 = .ok (.ifCond .eq 7, 3) := by decide +kernel
theorem d_To_countReached_28 : decode c_To_countReached 28 = .ok (.lload_n 2, 1) := by decide +kernel
theorem d_To_countReached_29 : decode c_To_countReached 29 = .ok (.lconst 1, 1) := by decide +kernel
theorem d_To_countReached_30 : decode c_To_countReached 30 = .ok (.ladd, 1) := by decide +kernel
theorem d_To_countReached_31 : decode c_To_countReached 31 = .ok (.lstore_n 2, 1) := by decide +kernel
theorem d_To_countReached_32 : decode c_To_countReached 32 = .ok (.iinc 4 1, 3) := by decide +kernel
theorem d_To_countReached_35 : decode c_To_countReached 35 = .ok (.goto (-30), 3) := by decide +kernel
theorem d_To_countReached_38 : decode c_To_countReached 38 = .ok (.lload_n 2, 1) := by decide +kernel
theorem d_To_countReached_39 : decode c_To_countReached 39 = .ok (.lreturn, 1) := by decide +kernel
theorem d_To_isTooNear_0 : decode c_To_isTooNear 0 = .ok (.aload_n 0, 1) := by decide +kernel
theorem d_To_isTooNear_1 : decode c_To_isTooNear 1 = .ok (.getfield 36, 3) := by decide +kernel
theorem d_To_isTooNear_4 : decode c_To_isTooNear 4 = .ok (.iload_n 1, 1) := by decide +kernel
theorem d_To_isTooNear_5 : decode c_To_isTooNear 5 = .ok (.laload, 1) := by decide +kernel
theorem d_To_isTooNear_6 : decode c_To_isTooNear 6 = .ok (.aload_n 0, 1) := by decide +kernel
theorem d_To_isTooNear_7 : decode c_To_isTooNear 7 = .ok (.getfield 36, 3) := by decide +kernel
theorem d_To_isTooNear_10 : decode c_To_isTooNear 10 = .ok (.iload_n 2, 1) := by decide +kernel
theorem d_To_isTooNear_11 : decode c_To_isTooNear 11 = .ok (.laload, 1) := by decide +kernel
theorem d_To_isTooNear_12 : decode c_To_isTooNear 12 = .ok (.lsub, 1) := by decide +kernel
theorem d_To_isTooNear_13 : decode c_To_isTooNear 13 = .ok (.lstore_n 3, 1) := by decide +kernel
theorem d_To_isTooNear_14 : decode c_To_isTooNear 14 = .ok (.aload_n 0, 1) := by decide +kernel
theorem d_To_isTooNear_15 : decode c_To_isTooNear 15 = .ok (.getfield 39, 3) := by decide +kernel
theorem d_To_isTooNear_18 : decode c_To_isTooNear 18 = .ok (.iload_n 1, 1) := by decide +kernel
theorem d_To_isTooNear_19 : decode c_To_isTooNear 19 = .ok (.laload, 1) := by decide +kernel
theorem d_To_isTooNear_20 : decode c_To_isTooNear 20 = .ok (.aload_n 0, 1) := by decide +kernel
theorem d_To_isTooNear_21 : decode c_To_isTooNear 21 = .ok (.getfield 39, 3) := by decide +kernel
theorem d_To_isTooNear_24 : decode c_To_isTooNear 24 = .ok (.iload_n 2, 1) := by decide +kernel
theorem d_To_isTooNear_25 : decode c_To_isTooNear 25 = .ok (.laload, 1) := by decide +kernel
theorem d_To_isTooNear_26 : decode c_To_isTooNear 26 = .ok (.lsub, 1) := by decide +kernel
theorem d_To_isTooNear_27 : decode c_To_isTooNear 27 = .ok (.lstore 5, 2) := by decide +kernel
theorem d_To_isTooNear_29 : decode c_To_isTooNear 29 = .ok (.aload_n 0, 1) := by decide +kernel
theorem d_To_isTooNear_30 : decode c_To_isTooNear 30 = .ok (.getfield 48, 3) := by decide +kernel
theorem d_To_isTooNear_33 : decode c_To_isTooNear 33 = .ok (.iload_n 1, 1) := by decide +kernel
theorem d_To_isTooNear_34 : decode c_To_isTooNear 34 = .ok (.laload, 1) := by decide +kernel
theorem d_To_isTooNear_35 : decode c_To_isTooNear 35 = .ok (.aload_n 0, 1) := by decide +kernel
theorem d_To_isTooNear_36 : decode c_To_isTooNear 36 = .ok (.getfield 48, 3) := by decide +kernel
theorem d_To_isTooNear_39 : decode c_To_isTooNear 39 = .ok (.iload_n 2, 1) := by decide +kernel
theorem d_To_isTooNear_40 : decode c_To_isTooNear 40 = .ok (.laload, 1) := by decide +kernel
theorem d_To_isTooNear_41 : decode c_To_isTooNear 41 = .ok (.invokestatic 80, 3) := by decide +kernel
theorem d_To_isTooNear_44 : decode c_To_isTooNear 44 = .ok (.lstore 7, 2) := by decide +kernel
theorem d_To_isTooNear_46 : decode c_To_isTooNear 46 = .ok (.lload_n 3, 1) := by decide +kernel
theorem d_To_isTooNear_47 : decode c_To_isTooNear 47 = .ok (.lload_n 3, 1) := by decide +kernel
theorem d_To_isTooNear_48 : decode c_To_isTooNear 48 = .ok (.lmul, 1) := by decide +kernel
theorem d_To_isTooNear_49 : decode c_To_isTooNear 49 = .ok (.lload 5, 2) := by decide +kernel
theorem d_To_isTooNear_51 : decode c_To_isTooNear 51 = .ok (.lload 5, 2) := by decide +kernel
theorem d_To_isTooNear_53 : decode c_To_isTooNear 53 = .ok (.lmul, 1) := by decide +kernel
theorem d_To_isTooNear_54 : decode c_To_isTooNear 54 = .ok (.ladd, 1) := by decide +kernel
theorem d_To_isTooNear_55 : decode c_To_isTooNear 55 = .ok (.lload 7, 2) := by decide +kernel
theorem d_To_isTooNear_57 : decode c_To_isTooNear 57 = .ok (.lload 7, 2) := by decide +kernel
theorem d_To_isTooNear_59 : decode c_To_isTooNear 59 = .ok (.lmul, 1) := by decide +kernel
theorem d_To_isTooNear_60 : decode c_To_isTooNear 60 = .ok (.lcmp, 1) := by decide +kernel
theorem d_To_isTooNear_61 : decode c_To_isTooNear 61 = .ok (.ifCond .ge 7, 3) := by decide +kernel
theorem d_To_isTooNear_64 : decode c_To_isTooNear 64 = .ok (.iconst 1, 1) := by decide +kernel
theorem d_To_isTooNear_65 : decode c_To_isTooNear 65 = .ok (.goto 4, 3) := by decide +kernel
theorem d_To_isTooNear_68 : decode c_To_isTooNear 68 = .ok (.iconst 0, 1) := by decide +kernel
theorem d_To_isTooNear_69 : decode c_To_isTooNear 69 = .ok (.ireturn, 1) := by decide +kernel
theorem d_Un_init_0 : decode c_Un_init 0 = .ok (.aload_n 0, 1) := by decide +kernel
theorem d_Un_init_1 : decode c_Un_init 1 = .ok (.invokespecial 3, 3) := by decide +kernel
theorem d_Un_init_4 : decode c_Un_init 4 = .ok (.aload_n 0, 1) := by decide +kernel
theorem d_Un_init_5 : decode c_Un_init 5 = .ok (.iconst 0, 1) := by decide +kernel
theorem d_Un_init_6 : decode c_Un_init 6 = .ok (.putfield 9, 3) := by decide +kernel
theorem d_Un_init_9 : decode c_Un_init 9 = .ok (.aload_n 0, 1) := by decide +kernel
theorem d_Un_init_10 : decode c_Un_init 10 = .ok (.bipush 6, 2) := by decide +kernel
theorem d_Un_init_12 : decode c_Un_init 12 = .ok (.newarray .int, 2) := by decide +kernel
theorem d_Un_init_14 : decode c_Un_init 14 = .ok (.putfield 15, 3) := by decide +kernel
theorem d_Un_init_17 : decode c_Un_init 17 = .ok (.return_, 1) := by decide +kernel
theorem d_Un_isIn_0 : decode c_Un_isIn 0 = .ok (.iload_n 0, 1) := by decide +kernel
theorem d_Un_isIn_1 : decode c_Un_isIn 1 = .ok (.iload_n 2, 1) := by decide +kernel
theorem d_Un_isIn_2 : decode c_Un_isIn 2 = .ok (.iconst 1, 1) := by decide +kernel
theorem d_Un_isIn_3 : decode c_Un_isIn 3 = .ok (.isub, 1) := by decide +kernel
theorem d_Un_isIn_4 : decode c_Un_isIn 4 = .ok (.iload_n 1, 1) := by decide +kernel
theorem d_Un_isIn_5 : decode c_Un_isIn 5 = .ok (.isub, 1) := by decide +kernel
theorem d_Un_isIn_6 : decode c_Un_isIn 6 = .ok (.ishr, 1) := by decide +kernel
theorem d_Un_isIn_7 : decode c_Un_isIn 7 = .ok (.iconst 1, 1) := by decide +kernel
theorem d_Un_isIn_8 : decode c_Un_isIn 8 = .ok (.iand, 1) := by decide +kernel
theorem d_Un_isIn_9 : decode c_Un_isIn 9 = .ok (.iconst 1, 1) := by decide +kernel
theorem d_Un_isIn_10 : decode c_Un_isIn 10 = .ok (.if_icmp .ne 7, 3) := by decide +kernel
theorem d_Un_isIn_13 : decode c_Un_isIn 13 = .ok (.iconst 1, 1) := by decide +kernel
theorem d_Un_isIn_14 : decode c_Un_isIn 14 = .ok (.goto 4, 3) := by decide +kernel
theorem d_Un_isIn_17 : decode c_Un_isIn 17 = .ok (.iconst 0, 1) := by decide +kernel
theorem d_Un_isIn_18 : decode c_Un_isIn 18 = .ok (.ireturn, 1) := by decide +kernel
theorem d_Un_forget_0 : decode c_Un_forget 0 = .ok (.aload_n 0, 1) := by decide +kernel
theorem d_Un_forget_1 : decode c_Un_forget 1 = .ok (.iconst 0, 1) := by decide +kernel
theorem d_Un_forget_2 : decode c_Un_forget 2 = .ok (.putfield 9, 3) := by decide +kernel
theorem d_Un_forget_5 : decode c_Un_forget 5 = .ok (.return_, 1) := by decide +kernel
theorem d_Un_member_0 : decode c_Un_member 0 = .ok (.iload_n 1, 1) := by decide +kernel
theorem d_Un_member_1 : decode c_Un_member 1 = .ok (.ifCond .lt 20, 3) := by decide +kernel
theorem d_Un_member_4 : decode c_Un_member 4 = .ok (.iload_n 1, 1) := by decide +kernel
theorem d_Un_member_5 : decode c_Un_member 5 = .ok (.aload_n 0, 1) := by decide +kernel
theorem d_Un_member_6 : decode c_Un_member 6 = .ok (.getfield 9, 3) := by decide +kernel
theorem d_Un_member_9 : decode c_Un_member 9 = .ok (.if_icmp .ge 12, 3) := by decide +kernel
theorem d_Un_member_12 : decode c_Un_member 12 = .ok (.aload_n 0, 1) := by decide +kernel
theorem d_Un_member_13 : decode c_Un_member 13 = .ok (.getfield 15, 3) := by decide +kernel
theorem d_Un_member_16 : decode c_Un_member 16 = .ok (.iload_n 1, 1) := by decide +kernel
theorem d_Un_member_17 : decode c_Un_member 17 = .ok (.iaload, 1) := by decide +kernel
theorem d_Un_member_18 : decode c_Un_member 18 = .ok (.goto 4, 3) := by decide +kernel
theorem d_Un_member_21 : decode c_Un_member 21 = .ok (.iconst (-1), 1) := by decide +kernel
theorem d_Un_member_22 : decode c_Un_member 22 = .ok (.ireturn, 1) := by decide +kernel
theorem d_Un_find_0 : decode c_Un_find 0 = .ok (.aload_n 1, 1) := by decide +kernel
theorem d_Un_find_1 : decode c_Un_find 1 = .ok (.getfield 19, 3) := by decide +kernel
theorem d_Un_find_4 : decode c_Un_find 4 = .ok (.istore_n 3, 1) := by decide +kernel
theorem d_Un_find_5 : decode c_Un_find 5 = .ok (.iconst 1, 1) := by decide +kernel
theorem d_Un_find_6 : decode c_Un_find 6 = .ok (.istore 4, 2) := by decide +kernel
theorem d_Un_find_8 : decode c_Un_find 8 = .ok (.iload 4, 2) := by decide +kernel
theorem d_Un_find_10 : decode c_Un_find 10 = .ok (.iload_n 3, 1) := by decide +kernel
theorem d_Un_find_11 : decode c_Un_find 11 = .ok (.if_icmp .gt 59, 3) := by decide +kernel
theorem d_Un_find_14 : decode c_Un_find 14 = .ok (.iconst 1, 1) := by decide +kernel
theorem d_Un_find_15 : decode c_Un_find 15 = .ok (.iload_n 3, 1) := by decide +kernel
theorem d_Un_find_16 : decode c_Un_find 16 = .ok (.ishl, 1) := by decide +kernel
theorem d_Un_find_17 : decode c_Un_find 17 = .ok (.iconst 1, 1) := by decide +kernel
theorem d_Un_find_18 : decode c_Un_find 18 = .ok (.isub, 1) := by decide +kernel
theorem d_Un_find_19 : decode c_Un_find 19 = .ok (.istore 5, 2) := by decide +kernel
theorem d_Un_find_21 : decode c_Un_find 21 = .ok (.iload 5, 2) := by decide +kernel
theorem d_Un_find_23 : decode c_Un_find 23 = .ok (.ifCond .le 41, 3) := by decide +kernel
theorem d_Un_find_26 : decode c_Un_find 26 = .ok (.iload 5, 2) := by decide +kernel
theorem d_Un_find_28 : decode c_Un_find 28 = .ok (.invokestatic 24, 3) := by decide +kernel
theorem d_Un_find_31 : decode c_Un_find 31 = .ok (.iload 4, 2) := by decide +kernel
theorem d_Un_find_33 : decode c_Un_find 33 = .ok (.if_icmp .ne 25, 3) := by decide +kernel
theorem d_Un_find_36 : decode c_Un_find 36 = .ok (.aload_n 2, 1) := by decide +kernel
theorem d_Un_find_37 : decode c_Un_find 37 = .ok (.aload_n 1, 1) := by decide +kernel
theorem d_Un_find_38 : decode c_Un_find 38 = .ok (.iload 5, 2) := by decide +kernel
theorem d_Un_find_40 : decode c_Un_find 40 = .ok (.invokevirtual 30, 3) := by decide +kernel
theorem d_Un_find_43 : decode c_Un_find 43 = .ok (.aload_n 2, 1) := by decide +kernel
theorem d_Un_find_44 : decode c_Un_find 44 = .ok (.invokevirtual 36, 3) := by decide +kernel
theorem d_Un_find_47 : decode c_Un_find 47 = .ok (.ifCond .ne 11, 3) := by decide +kernel
theorem d_Un_find_50 : decode c_Un_find 50 = .ok (.aload_n 0, 1) := by decide +kernel
theorem d_Un_find_51 : decode c_Un_find 51 = .ok (.iload 5, 2) := by decide +kernel
theorem d_Un_find_53 : decode c_Un_find 53 = .ok (.iload_n 3, 1) := by decide +kernel
theorem d_Un_find_54 : decode c_Un_find 54 = .ok (.invokevirtual 40, 3) := by decide +kernel
theorem d_Un_find_57 : decode c_Un_find 57 = .ok (.return_, 1) := by decide +kernel
theorem d_Un_find_58 : decode c_Un_find 58 = .ok (.iinc 5 (-1), 3) := by decide +kernel
theorem d_Un_find_61 : decode c_Un_find 61 = .ok (.goto (-40), 3) := by decide +kernel
theorem d_Un_find_64 : decode c_Un_find 64 = .ok (.iinc 4 1, 3) := by decide +kernel
theorem d_Un_find_67 : decode c_Un_find 67 = .ok (.goto (-59), 3) := by decide +kernel
theorem d_Un_find_70 : decode c_Un_find 70 = .ok (.return_, 1) := by decide +kernel
theorem d_Un_list_0 : decode c_Un_list 0 = .ok (.aload_n 0, 1) := by decide +kernel
theorem d_Un_list_1 : decode c_Un_list 1 = .ok (.iconst 0, 1) := by decide +kernel
theorem d_Un_list_2 : decode c_Un_list 2 = .ok (.putfield 9, 3) := by decide +kernel
theorem d_Un_list_5 : decode c_Un_list 5 = .ok (.iconst 0, 1) := by decide +kernel
theorem d_Un_list_6 : decode c_Un_list 6 = .ok (.istore_n 3, 1) := by decide +kernel
theorem d_Un_list_7 : decode c_Un_list 7 = .ok (.iload_n 3, 1) := by decide +kernel
theorem d_Un_list_8 : decode c_Un_list 8 = .ok (.iload_n 2, 1) := by decide +kernel
theorem d_Un_list_9 : decode c_Un_list 9 = .ok (.if_icmp .ge 38, 3) := by decide +kernel
theorem d_Un_list_12 : decode c_Un_list 12 = .ok (.iload_n 1, 1) := by decide +kernel
theorem d_Un_list_13 : decode c_Un_list 13 = .ok (.iload_n 3, 1) := by decide +kernel
theorem d_Un_list_14 : decode c_Un_list 14 = .ok (.iload_n 2, 1) := by decide +kernel
theorem d_Un_list_15 : decode c_Un_list 15 = .ok (.invokestatic 44, 3) := by decide +kernel
theorem d_Un_list_18 : decode c_Un_list 18 = .ok (.ifCond .eq 23, 3) := by decide +kernel
theorem d_Un_list_21 : decode c_Un_list 21 = .ok (.aload_n 0, 1) := by decide +kernel
theorem d_Un_list_22 : decode c_Un_list 22 = .ok (.getfield 15, 3) := by decide +kernel
theorem d_Un_list_25 : decode c_Un_list 25 = .ok (.aload_n 0, 1) := by decide +kernel
theorem d_Un_list_26 : decode c_Un_list 26 = .ok (.getfield 9, 3) := by decide +kernel
theorem d_Un_list_29 : decode c_Un_list 29 = .ok (.iload_n 3, 1) := by decide +kernel
theorem d_Un_list_30 : decode c_Un_list 30 = .ok (.iastore, 1) := by decide +kernel
theorem d_Un_list_31 : decode c_Un_list 31 = .ok (.aload_n 0, 1) := by decide +kernel
theorem d_Un_list_32 : decode c_Un_list 32 = .ok (.dup, 1) := by decide +kernel
theorem d_Un_list_33 : decode c_Un_list 33 = .ok (.getfield 9, 3) := by decide +kernel
theorem d_Un_list_36 : decode c_Un_list 36 = .ok (.iconst 1, 1) := by decide +kernel
theorem d_Un_list_37 : decode c_Un_list 37 = .ok (.iadd, 1) := by decide +kernel
theorem d_Un_list_38 : decode c_Un_list 38 = .ok (.putfield 9, 3) := by decide +kernel
theorem d_Un_list_41 : decode c_Un_list 41 = .ok (.iinc 3 1, 3) := by decide +kernel
theorem d_Un_list_44 : decode c_Un_list 44 = .ok (.goto (-37), 3) := by decide +kernel
theorem d_Un_list_47 : decode c_Un_list 47 = .ok (.return_, 1) := by decide +kernel
theorem d_Ob_init_0 : decode c_Ob_init 0 = .ok (.return_, 1) := by decide +kernel
theorem d_In_bitCount_0 : decode c_In_bitCount 0 = .ok (.iload_n 0, 1) := by decide +kernel
theorem d_In_bitCount_1 : decode c_In_bitCount 1 = .ok (.iload_n 0, 1) := by decide +kernel
theorem d_In_bitCount_2 : decode c_In_bitCount 2 = .ok (.iconst 1, 1) := by decide +kernel
theorem d_In_bitCount_3 : decode c_In_bitCount 3 = .ok (.iushr, 1) := by decide +kernel
theorem d_In_bitCount_4 : decode c_In_bitCount 4 = .ok (.ldc_w 265, 3) := by decide +kernel
theorem d_In_bitCount_7 : decode c_In_bitCount 7 = .ok (.iand, 1) := by decide +kernel
theorem d_In_bitCount_8 : decode c_In_bitCount 8 = .ok (.isub, 1) := by decide +kernel
theorem d_In_bitCount_9 : decode c_In_bitCount 9 = .ok (.istore_n 0, 1) := by decide +kernel
theorem d_In_bitCount_10 : decode c_In_bitCount 10 = .ok (.iload_n 0, 1) := by decide +kernel
theorem d_In_bitCount_11 : decode c_In_bitCount 11 = .ok (.ldc_w 266, 3) := by decide +kernel
theorem d_In_bitCount_14 : decode c_In_bitCount 14 = .ok (.iand, 1) := by decide +kernel
theorem d_In_bitCount_15 : decode c_In_bitCount 15 = .ok (.iload_n 0, 1) := by decide +kernel
theorem d_In_bitCount_16 : decode c_In_bitCount 16 = .ok (.iconst 2, 1) := by decide +kernel
theorem d_In_bitCount_17 : decode c_In_bitCount 17 = .ok (.iushr, 1) := by decide +kernel
theorem d_In_bitCount_18 : decode c_In_bitCount 18 = .ok (.ldc_w 266, 3) := by decide +kernel
theorem d_In_bitCount_21 : decode c_In_bitCount 21 = .ok (.iand, 1) := by decide +kernel
theorem d_In_bitCount_22 : decode c_In_bitCount 22 = .ok (.iadd, 1) := by decide +kernel
theorem d_In_bitCount_23 : decode c_In_bitCount 23 = .ok (.istore_n 0, 1) := by decide +kernel
theorem d_In_bitCount_24 : decode c_In_bitCount 24 = .ok (.iload_n 0, 1) := by decide +kernel
theorem d_In_bitCount_25 : decode c_In_bitCount 25 = .ok (.iload_n 0, 1) := by decide +kernel
theorem d_In_bitCount_26 : decode c_In_bitCount 26 = .ok (.iconst 4, 1) := by decide +kernel
theorem d_In_bitCount_27 : decode c_In_bitCount 27 = .ok (.iushr, 1) := by decide +kernel
theorem d_In_bitCount_28 : decode c_In_bitCount 28 = .ok (.iadd, 1) := by decide +kernel
theorem d_In_bitCount_29 : decode c_In_bitCount 29 = .ok (.ldc_w 267, 3) := by decide +kernel
theorem d_In_bitCount_32 : decode c_In_bitCount 32 = .ok (.iand, 1) := by decide +kernel
theorem d_In_bitCount_33 : decode c_In_bitCount 33 = .ok (.istore_n 0, 1) := by decide +kernel
theorem d_In_bitCount_34 : decode c_In_bitCount 34 = .ok (.iload_n 0, 1) := by decide +kernel
theorem d_In_bitCount_35 : decode c_In_bitCount 35 = .ok (.iload_n 0, 1) := by decide +kernel
theorem d_In_bitCount_36 : decode c_In_bitCount 36 = .ok (.bipush 8, 2) := by decide +kernel
theorem d_In_bitCount_38 : decode c_In_bitCount 38 = .ok (.iushr, 1) := by decide +kernel
theorem d_In_bitCount_39 : decode c_In_bitCount 39 = .ok (.iadd, 1) := by decide +kernel
theorem d_In_bitCount_40 : decode c_In_bitCount 40 = .ok (.istore_n 0, 1) := by decide +kernel
theorem d_In_bitCount_41 : decode c_In_bitCount 41 = .ok (.iload_n 0, 1) := by decide +kernel
theorem d_In_bitCount_42 : decode c_In_bitCount 42 = .ok (.iload_n 0, 1) := by decide +kernel
theorem d_In_bitCount_43 : decode c_In_bitCount 43 = .ok (.bipush 16, 2) := by decide +kernel
theorem d_In_bitCount_45 : decode c_In_bitCount 45 = .ok (.iushr, 1) := by decide +kernel
theorem d_In_bitCount_46 : decode c_In_bitCount 46 = .ok (.iadd, 1) := by decide +kernel
theorem d_In_bitCount_47 : decode c_In_bitCount 47 = .ok (.istore_n 0, 1) := by decide +kernel
theorem d_In_bitCount_48 : decode c_In_bitCount 48 = .ok (.iload_n 0, 1) := by decide +kernel
theorem d_In_bitCount_49 : decode c_In_bitCount 49 = .ok (.bipush 63, 2) := by decide +kernel
theorem d_In_bitCount_51 : decode c_In_bitCount 51 = .ok (.iand, 1) := by decide +kernel
theorem d_In_bitCount_52 : decode c_In_bitCount 52 = .ok (.ireturn, 1) := by decide +kernel
theorem d_Ma_max_0 : decode c_Ma_max 0 = .ok (.lload_n 0, 1) := by decide +kernel
theorem d_Ma_max_1 : decode c_Ma_max 1 = .ok (.lload_n 2, 1) := by decide +kernel
theorem d_Ma_max_2 : decode c_Ma_max 2 = .ok (.lcmp, 1) := by decide +kernel
theorem d_Ma_max_3 : decode c_Ma_max 3 = .ok (.ifCond .lt 7, 3) := by decide +kernel
theorem d_Ma_max_6 : decode c_Ma_max 6 = .ok (.lload_n 0, 1) := by decide +kernel
theorem d_Ma_max_7 : decode c_Ma_max 7 = .ok (.goto 4, 3) := by decide +kernel
theorem d_Ma_max_10 : decode c_Ma_max 10 = .ok (.lload_n 2, 1) := by decide +kernel
theorem d_Ma_max_11 : decode c_Ma_max 11 = .ok (.lreturn, 1) := by decide +kernel
theorem d_Ma_min_0 : decode c_Ma_min 0 = .ok (.iload_n 0, 1) := by decide +kernel
theorem d_Ma_min_1 : decode c_Ma_min 1 = .ok (.iload_n 1, 1) := by decide +kernel
theorem d_Ma_min_2 : decode c_Ma_min 2 = .ok (.if_icmp .gt 7, 3) := by decide +kernel
theorem d_Ma_min_5 : decode c_Ma_min 5 = .ok (.iload_n 0, 1) := by decide +kernel
theorem d_Ma_min_6 : decode c_Ma_min 6 = .ok (.goto 4, 3) := by decide +kernel
theorem d_Ma_min_9 : decode c_Ma_min 9 = .ok (.iload_n 1, 1) := by decide +kernel
theorem d_Ma_min_10 : decode c_Ma_min 10 = .ok (.ireturn, 1) := by decide +kernel
theorem d_Ar_fill_ints_0 : decode c_Ar_fill_ints 0 = .ok (.iconst 0, 1) := by decide +kernel
theorem d_Ar_fill_ints_1 : decode c_Ar_fill_ints 1 = .ok (.istore_n 2, 1) := by decide +kernel
theorem d_Ar_fill_ints_2 : decode c_Ar_fill_ints 2 = .ok (.aload_n 0, 1) := by decide +kernel
theorem d_Ar_fill_ints_3 : decode c_Ar_fill_ints 3 = .ok (.arraylength, 1) := by decide +kernel
theorem d_Ar_fill_ints_4 : decode c_Ar_fill_ints 4 = .ok (.istore_n 3, 1) := by decide +kernel
theorem d_Ar_fill_ints_5 : decode c_Ar_fill_ints 5 = .ok (.iload_n 2, 1) := by decide +kernel
theorem d_Ar_fill_ints_6 : decode c_Ar_fill_ints 6 = .ok (.iload_n 3, 1) := by decide +kernel
theorem d_Ar_fill_ints_7 : decode c_Ar_fill_ints 7 = .ok (.if_icmp .ge 13, 3) := by decide +kernel
theorem d_Ar_fill_ints_10 : decode c_Ar_fill_ints 10 = .ok (.aload_n 0, 1) := by decide +kernel
theorem d_Ar_fill_ints_11 : decode c_Ar_fill_ints 11 = .ok (.iload_n 2, 1) := by decide +kernel
theorem d_Ar_fill_ints_12 : decode c_Ar_fill_ints 12 = .ok (.iload_n 1, 1) := by decide +kernel
theorem d_Ar_fill_ints_13 : decode c_Ar_fill_ints 13 = .ok (.iastore, 1) := by decide +kernel
theorem d_Ar_fill_ints_14 : decode c_Ar_fill_ints 14 = .ok (.iinc 2 1, 3) := by decide +kernel
theorem d_Ar_fill_ints_17 : decode c_Ar_fill_ints 17 = .ok (.goto (-12), 3) := by decide +kernel
theorem d_Ar_fill_ints_20 : decode c_Ar_fill_ints 20 = .ok (.return_, 1) := by decide +kernel
theorem d_Ar_fill_longs_0 : decode c_Ar_fill_longs 0 = .ok (.iconst 0, 1) := by decide +kernel
theorem d_Ar_fill_longs_1 : decode c_Ar_fill_longs 1 = .ok (.istore_n 3, 1) := by decide +kernel
theorem d_Ar_fill_longs_2 : decode c_Ar_fill_longs 2 = .ok (.aload_n 0, 1) := by decide +kernel
theorem d_Ar_fill_longs_3 : decode c_Ar_fill_longs 3 = .ok (.arraylength, 1) := by decide +kernel
theorem d_Ar_fill_longs_4 : decode c_Ar_fill_longs 4 = .ok (.istore 4, 2) := by decide +kernel
theorem d_Ar_fill_longs_6 : decode c_Ar_fill_longs 6 = .ok (.iload_n 3, 1) := by decide +kernel
theorem d_Ar_fill_longs_7 : decode c_Ar_fill_longs 7 = .ok (.iload 4, 2) := by decide +kernel
theorem d_Ar_fill_longs_9 : decode c_Ar_fill_longs 9 = .ok (.if_icmp .ge 13, 3) := by decide +kernel
theorem d_Ar_fill_longs_12 : decode c_Ar_fill_longs 12 = .ok (.aload_n 0, 1) := by decide +kernel
theorem d_Ar_fill_longs_13 : decode c_Ar_fill_longs 13 = .ok (.iload_n 3, 1) := by decide +kernel
theorem d_Ar_fill_longs_14 : decode c_Ar_fill_longs 14 = .ok (.lload_n 1, 1) := by decide +kernel
theorem d_Ar_fill_longs_15 : decode c_Ar_fill_longs 15 = .ok (.lastore, 1) := by decide +kernel
theorem d_Ar_fill_longs_16 : decode c_Ar_fill_longs 16 = .ok (.iinc 3 1, 3) := by decide +kernel
theorem d_Ar_fill_longs_19 : decode c_Ar_fill_longs 19 = .ok (.goto (-13), 3) := by decide +kernel
theorem d_Ar_fill_longs_22 : decode c_Ar_fill_longs 22 = .ok (.return_, 1) := by decide +kernel
end
section
theorem d_Mo_init_0 : decode c_Mo_init 0 = .ok (.aload_n 0, 1) := by decide +kernel
theorem d_Mo_init_1 : decode c_Mo_init 1 = .ok (.invokespecial 1, 3) := by decide +kernel
theorem d_Mo_init_4 : decode c_Mo_init 4 = .ok (.aload_n 0, 1) := by decide +kernel
theorem d_Mo_init_5 : decode c_Mo_init 5 = .ok (.bipush 6, 2) := by decide +kernel
theorem d_Mo_init_7 : decode c_Mo_init 7 = .ok (.newarray .long, 2) := by decide +kernel
theorem d_Mo_init_9 : decode c_Mo_init 9 = .ok (.putfield 7, 3) := by decide +kernel
theorem d_Mo_init_12 : decode c_Mo_init 12 = .ok (.aload_n 0, 1) := by decide +kernel
theorem d_Mo_init_13 : decode c_Mo_init 13 = .ok (.bipush 6, 2) := by decide +kernel
theorem d_Mo_init_15 : decode c_Mo_init 15 = .ok (.newarray .long, 2) := by decide +kernel
theorem d_Mo_init_17 : decode c_Mo_init 17 = .ok (.putfield 13, 3) := by decide +kernel
theorem d_Mo_init_20 : decode c_Mo_init 20 = .ok (.aload_n 0, 1) := by decide +kernel
theorem d_Mo_init_21 : decode c_Mo_init 21 = .ok (.iconst 5, 1) := by decide +kernel
theorem d_Mo_init_22 : decode c_Mo_init 22 = .ok (.newarray .long, 2) := by decide +kernel
theorem d_Mo_init_24 : decode c_Mo_init 24 = .ok (.putfield 16, 3) := by decide +kernel
theorem d_Mo_init_27 : decode c_Mo_init 27 = .ok (.aload_n 0, 1) := by decide +kernel
theorem d_Mo_init_28 : decode c_Mo_init 28 = .ok (.iconst 5, 1) := by decide +kernel
theorem d_Mo_init_29 : decode c_Mo_init 29 = .ok (.newarray .long, 2) := by decide +kernel
theorem d_Mo_init_31 : decode c_Mo_init 31 = .ok (.putfield 19, 3) := by decide +kernel
theorem d_Mo_init_34 : decode c_Mo_init 34 = .ok (.aload_n 0, 1) := by decide +kernel
theorem d_Mo_init_35 : decode c_Mo_init 35 = .ok (.iconst 5, 1) := by decide +kernel
theorem d_Mo_init_36 : decode c_Mo_init 36 = .ok (.newarray .long, 2) := by decide +kernel
theorem d_Mo_init_38 : decode c_Mo_init 38 = .ok (.putfield 22, 3) := by decide +kernel
theorem d_Mo_init_41 : decode c_Mo_init 41 = .ok (.aload_n 0, 1) := by decide +kernel
theorem d_Mo_init_42 : decode c_Mo_init 42 = .ok (.iconst 5, 1) := by decide +kernel
theorem d_Mo_init_43 : decode c_Mo_init 43 = .ok (.newarray .long, 2) := by decide +kernel
theorem d_Mo_init_45 : decode c_Mo_init 45 = .ok (.putfield 25, 3) := by decide +kernel
theorem d_Mo_init_48 : decode c_Mo_init 48 = .ok (.aload_n 0, 1) := by decide +kernel
theorem d_Mo_init_49 : decode c_Mo_init 49 = .ok (.iconst 5, 1) := by decide +kernel
theorem d_Mo_init_50 : decode c_Mo_init 50 = .ok (.newarray .long, 2) := by decide +kernel
theorem d_Mo_init_52 : decode c_Mo_init 52 = .ok (.putfield 28, 3) := by decide +kernel
theorem d_Mo_init_55 : decode c_Mo_init 55 = .ok (.aload_n 0, 1) := by decide +kernel
theorem d_Mo_init_56 : decode c_Mo_init 56 = .ok (.iconst 5, 1) := by decide +kernel
theorem d_Mo_init_57 : decode c_Mo_init 57 = .ok (.newarray .boolean, 2) := by decide +kernel
theorem d_Mo_init_59 : decode c_Mo_init 59 = .ok (.putfield 31, 3) := by decide +kernel
theorem d_Mo_init_62 : decode c_Mo_init 62 = .ok (.aload_n 0, 1) := by decide +kernel
theorem d_Mo_init_63 : decode c_Mo_init 63 = .ok (.bipush 30, 2) := by decide +kernel
theorem d_Mo_init_65 : decode c_Mo_init 65 = .ok (.newarray .long, 2) := by decide +kernel
theorem d_Mo_init_67 : decode c_Mo_init 67 = .ok (.putfield 35, 3) := by decide +kernel
theorem d_Mo_init_70 : decode c_Mo_init 70 = .ok (.aload_n 0, 1) := by decide +kernel
theorem d_Mo_init_71 : decode c_Mo_init 71 = .ok (.ldc2_w 38, 3) := by decide +kernel
theorem d_Mo_init_74 : decode c_Mo_init 74 = .ok (.putfield 40, 3) := by decide +kernel
theorem d_Mo_init_77 : decode c_Mo_init 77 = .ok (.aload_n 0, 1) := by decide +kernel
theorem d_Mo_init_78 : decode c_Mo_init 78 = .ok (.bipush 6, 2) := by decide +kernel
theorem d_Mo_init_80 : decode c_Mo_init 80 = .ok (.newarray .int, 2) := by decide +kernel
theorem d_Mo_init_82 : decode c_Mo_init 82 = .ok (.putfield 44, 3) := by decide +kernel
theorem d_Mo_init_85 : decode c_Mo_init 85 = .ok (.aload_n 0, 1) := by decide +kernel
theorem d_Mo_init_86 : decode c_Mo_init 86 = .ok (.bipush 6, 2) := by decide +kernel
theorem d_Mo_init_88 : decode c_Mo_init 88 = .ok (.newarray .int, 2) := by decide +kernel
theorem d_Mo_init_90 : decode c_Mo_init 90 = .ok (.putfield 48, 3) := by decide +kernel
theorem d_Mo_init_93 : decode c_Mo_init 93 = .ok (.aload_n 0, 1) := by decide +kernel
theorem d_Mo_init_94 : decode c_Mo_init 94 = .ok (.bipush 6, 2) := by decide +kernel
theorem d_Mo_init_96 : decode c_Mo_init 96 = .ok (.newarray .int, 2) := by decide +kernel
theorem d_Mo_init_98 : decode c_Mo_init 98 = .ok (.putfield 51, 3) := by decide +kernel
theorem d_Mo_init_101 : decode c_Mo_init 101 = .ok (.aload_n 0, 1) := by decide +kernel
theorem d_Mo_init_102 : decode c_Mo_init 102 = .ok (.bipush 6, 2) := by decide +kernel
theorem d_Mo_init_104 : decode c_Mo_init 104 = .ok (.newarray .long, 2) := by decide +kernel
theorem d_Mo_init_106 : decode c_Mo_init 106 = .ok (.putfield 54, 3) := by decide +kernel
theorem d_Mo_init_109 : decode c_Mo_init 109 = .ok (.aload_n 0, 1) := by decide +kernel
theorem d_Mo_init_110 : decode c_Mo_init 110 = .ok (.bipush 6, 2) := by decide +kernel
theorem d_Mo_init_112 : decode c_Mo_init 112 = .ok (.newarray .int, 2) := by decide +kernel
theorem d_Mo_init_114 : decode c_Mo_init 114 = .ok (.putfield 57, 3) := by decide +kernel
theorem d_Mo_init_117 : decode c_Mo_init 117 = .ok (.aload_n 0, 1) := by decide +kernel
theorem d_Mo_init_118 : decode c_Mo_init 118 = .ok (.sipush 192, 3) := by decide +kernel
theorem d_Mo_init_121 : decode c_Mo_init 121 = .ok (.newarray .long, 2) := by decide +kernel
theorem d_Mo_init_123 : decode c_Mo_init 123 = .ok (.putfield 60, 3) := by decide +kernel
theorem d_Mo_init_126 : decode c_Mo_init 126 = .ok (.aload_n 0, 1) := by decide +kernel
theorem d_Mo_init_127 : decode c_Mo_init 127 = .ok (.sipush 192, 3) := by decide +kernel
theorem d_Mo_init_130 : decode c_Mo_init 130 = .ok (.newarray .long, 2) := by decide +kernel
theorem d_Mo_init_132 : decode c_Mo_init 132 = .ok (.putfield 63, 3) := by decide +kernel
theorem d_Mo_init_135 : decode c_Mo_init 135 = .ok (.aload_n 0, 1) := by decide +kernel
theorem d_Mo_init_136 : decode c_Mo_init 136 = .ok (.sipush 224, 3) := by decide +kernel
theorem d_Mo_init_139 : decode c_Mo_init 139 = .ok (.newarray .long, 2) := by decide +kernel
theorem d_Mo_init_141 : decode c_Mo_init 141 = .ok (.putfield 66, 3) := by decide +kernel
theorem d_Mo_init_144 : decode c_Mo_init 144 = .ok (.iconst 0, 1) := by decide +kernel
theorem d_Mo_init_145 : decode c_Mo_init 145 = .ok (.istore_n 1, 1) := by decide +kernel
theorem d_Mo_init_146 : decode c_Mo_init 146 = .ok (.iload_n 1, 1) := by decide +kernel
theorem d_Mo_init_147 : decode c_Mo_init 147 = .ok (.bipush 6, 2) := by decide +kernel
theorem d_Mo_init_149 : decode c_Mo_init 149 = .ok (.if_icmp .ge 18, 3) := by decide +kernel
theorem d_Mo_init_152 : decode c_Mo_init 152 = .ok (.aload_n 0, 1) := by decide +kernel
theorem d_Mo_init_153 : decode c_Mo_init 153 = .ok (.getfield 13, 3) := by decide +kernel
theorem d_Mo_init_156 : decode c_Mo_init 156 = .ok (.iload_n 1, 1) := by decide +kernel
theorem d_Mo_init_157 : decode c_Mo_init 157 = .ok (.ldc2_w 69, 3) := by decide +kernel
theorem d_Mo_init_160 : decode c_Mo_init 160 = .ok (.lastore, 1) := by decide +kernel
theorem d_Mo_init_161 : decode c_Mo_init 161 = .ok (.iinc 1 1, 3) := by decide +kernel
theorem d_Mo_init_164 : decode c_Mo_init 164 = .ok (.goto (-18), 3) := by decide +kernel
theorem d_Mo_init_167 : decode c_Mo_init 167 = .ok (.iconst 0, 1) := by decide +kernel
theorem d_Mo_init_168 : decode c_Mo_init 168 = .ok (.istore_n 1, 1) := by decide +kernel
theorem d_Mo_init_169 : decode c_Mo_init 169 = .ok (.iload_n 1, 1) := by decide +kernel
theorem d_Mo_init_170 : decode c_Mo_init 170 = .ok (.bipush 30, 2) := by decide +kernel
theorem d_Mo_init_172 : decode c_Mo_init 172 = .ok (.if_icmp .ge 18, 3) := by decide +kernel
theorem d_Mo_init_175 : decode c_Mo_init 175 = .ok (.aload_n 0, 1) := by decide +kernel
theorem d_Mo_init_176 : decode c_Mo_init 176 = .ok (.getfield 35, 3) := by decide +kernel
theorem d_Mo_init_179 : decode c_Mo_init 179 = .ok (.iload_n 1, 1) := by decide +kernel
theorem d_Mo_init_180 : decode c_Mo_init 180 = .ok (.ldc2_w 71, 3) := by decide +kernel
theorem d_Mo_init_183 : decode c_Mo_init 183 = .ok (.lastore, 1) := by decide +kernel
theorem d_Mo_init_184 : decode c_Mo_init 184 = .ok (.iinc 1 1, 3) := by decide +kernel
theorem d_Mo_init_187 : decode c_Mo_init 187 = .ok (.goto (-18), 3) := by decide +kernel
theorem d_Mo_init_190 : decode c_Mo_init 190 = .ok (.return_, 1) := by decide +kernel
theorem d_Mo_isDistrict_0 : decode c_Mo_isDistrict 0 = .ok (.iload_n 1, 1) := by decide +kernel
theorem d_Mo_isDistrict_1 : decode c_Mo_isDistrict 1 = .ok (.ifCond .lt 15, 3) := by decide +kernel
theorem d_Mo_isDistrict_4 : decode c_Mo_isDistrict 4 = .ok (.iload_n 1, 1) := by decide +kernel
theorem d_Mo_isDistrict_5 : decode c_Mo_isDistrict 5 = .ok (.aload_n 0, 1) := by decide +kernel
theorem d_Mo_isDistrict_6 : decode c_Mo_isDistrict 6 = .ok (.getfield 73, 3) := by decide +kernel
theorem d_Mo_isDistrict_9 : decode c_Mo_isDistrict 9 = .ok (.if_icmp .ge 7, 3) := by decide +kernel
theorem d_Mo_isDistrict_12 : decode c_Mo_isDistrict 12 = .ok (.iconst 1, 1) := by decide +kernel
theorem d_Mo_isDistrict_13 : decode c_Mo_isDistrict 13 = .ok (.goto 4, 3) := by decide +kernel
theorem d_Mo_isDistrict_16 : decode c_Mo_isDistrict 16 = .ok (.iconst 0, 1) := by decide +kernel
theorem d_Mo_isDistrict_17 : decode c_Mo_isDistrict 17 = .ok (.ireturn, 1) := by decide +kernel
theorem d_Mo_isPlace_0 : decode c_Mo_isPlace 0 = .ok (.iload_n 1, 1) := by decide +kernel
theorem d_Mo_isPlace_1 : decode c_Mo_isPlace 1 = .ok (.ifCond .lt 15, 3) := by decide +kernel
theorem d_Mo_isPlace_4 : decode c_Mo_isPlace 4 = .ok (.iload_n 1, 1) := by decide +kernel
theorem d_Mo_isPlace_5 : decode c_Mo_isPlace 5 = .ok (.aload_n 0, 1) := by decide +kernel
theorem d_Mo_isPlace_6 : decode c_Mo_isPlace 6 = .ok (.getfield 77, 3) := by decide +kernel
theorem d_Mo_isPlace_9 : decode c_Mo_isPlace 9 = .ok (.if_icmp .ge 7, 3) := by decide +kernel
theorem d_Mo_isPlace_12 : decode c_Mo_isPlace 12 = .ok (.iconst 1, 1) := by decide +kernel
theorem d_Mo_isPlace_13 : decode c_Mo_isPlace 13 = .ok (.goto 4, 3) := by decide +kernel
theorem d_Mo_isPlace_16 : decode c_Mo_isPlace 16 = .ok (.iconst 0, 1) := by decide +kernel
theorem d_Mo_isPlace_17 : decode c_Mo_isPlace 17 = .ok (.ireturn, 1) := by decide +kernel
theorem d_Mo_isIn_0 : decode c_Mo_isIn 0 = .ok (.lload_n 0, 1) := by decide +kernel
theorem d_Mo_isIn_1 : decode c_Mo_isIn 1 = .ok (.lload_n 2, 1) := by decide +kernel
theorem d_Mo_isIn_2 : decode c_Mo_isIn 2 = .ok (.lcmp, 1) := by decide +kernel
theorem d_Mo_isIn_3 : decode c_Mo_isIn 3 = .ok (.ifCond .lt 14, 3) := by decide +kernel
theorem d_Mo_isIn_6 : decode c_Mo_isIn 6 = .ok (.lload_n 0, 1) := by decide +kernel
theorem d_Mo_isIn_7 : decode c_Mo_isIn 7 = .ok (.lload 4, 2) := by decide +kernel
theorem d_Mo_isIn_9 : decode c_Mo_isIn 9 = .ok (.lcmp, 1) := by decide +kernel
theorem d_Mo_isIn_10 : decode c_Mo_isIn 10 = .ok (.ifCond .gt 7, 3) := by decide +kernel
theorem d_Mo_isIn_13 : decode c_Mo_isIn 13 = .ok (.iconst 1, 1) := by decide +kernel
theorem d_Mo_isIn_14 : decode c_Mo_isIn 14 = .ok (.goto 4, 3) := by decide +kernel
theorem d_Mo_isIn_17 : decode c_Mo_isIn 17 = .ok (.iconst 0, 1) := by decide +kernel
theorem d_Mo_isIn_18 : decode c_Mo_isIn 18 = .ok (.ireturn, 1) := by decide +kernel
theorem d_Mo_district_0 : decode c_Mo_district 0 = .ok (.aload_n 0, 1) := by decide +kernel
theorem d_Mo_district_1 : decode c_Mo_district 1 = .ok (.getfield 73, 3) := by decide +kernel
theorem d_Mo_district_4 : decode c_Mo_district 4 = .ok (.bipush 6, 2) := by decide +kernel
theorem d_Mo_district_6 : decode c_Mo_district 6 = .ok (.if_icmp .eq 14, 3) := by decide +kernel
theorem d_Mo_district_9 : decode c_Mo_district 9 = .ok (.lload_n 1, 1) := by decide +kernel
theorem d_Mo_district_10 : decode c_Mo_district 10 = .ok (.lconst 0, 1) := by decide +kernel
theorem d_Mo_district_11 : decode c_Mo_district 11 = .ok (.ldc2_w 80, 3) := by decide +kernel
theorem d_Mo_district_14 : decode c_Mo_district 14 = .ok (.invokestatic 82, 3) := by decide +kernel
theorem d_Mo_district_17 : decode c_Mo_district 17 = .ok (.ifCond .ne 5, 3) := by decide +kernel
theorem d_Mo_district_20 : decode c_Mo_district 20 = .ok (.iconst (-1), 1) := by decide +kernel
theorem d_Mo_district_21 : decode c_Mo_district 21 = .ok (.ireturn, 1) := by decide +kernel
theorem d_Mo_district_22 : decode c_Mo_district 22 = .ok (.aload_n 0, 1) := by decide +kernel
theorem d_Mo_district_23 : decode c_Mo_district 23 = .ok (.getfield 7, 3) := by decide +kernel
theorem d_Mo_district_26 : decode c_Mo_district 26 = .ok (.aload_n 0, 1) := by decide +kernel
theorem d_Mo_district_27 : decode c_Mo_district 27 = .ok (.getfield 73, 3) := by decide +kernel
theorem d_Mo_district_30 : decode c_Mo_district 30 = .ok (.lload_n 1, 1) := by decide +kernel
theorem d_Mo_district_31 : decode c_Mo_district 31 = .ok (.lastore, 1) := by decide +kernel
theorem d_Mo_district_32 : decode c_Mo_district 32 = .ok (.aload_n 0, 1) := by decide +kernel
theorem d_Mo_district_33 : decode c_Mo_district 33 = .ok (.dup, 1) := by decide +kernel
theorem d_Mo_district_34 : decode c_Mo_district 34 = .ok (.getfield 73, 3) := by decide +kernel
theorem d_Mo_district_37 : decode c_Mo_district 37 = .ok (.iconst 1, 1) := by decide +kernel
theorem d_Mo_district_38 : decode c_Mo_district 38 = .ok (.iadd, 1) := by decide +kernel
theorem d_Mo_district_39 : decode c_Mo_district 39 = .ok (.putfield 73, 3) := by decide +kernel
theorem d_Mo_district_42 : decode c_Mo_district 42 = .ok (.aload_n 0, 1) := by decide +kernel
theorem d_Mo_district_43 : decode c_Mo_district 43 = .ok (.iconst 0, 1) := by decide +kernel
theorem d_Mo_district_44 : decode c_Mo_district 44 = .ok (.putfield 86, 3) := by decide +kernel
theorem d_Mo_district_47 : decode c_Mo_district 47 = .ok (.aload_n 0, 1) := by decide +kernel
theorem d_Mo_district_48 : decode c_Mo_district 48 = .ok (.getfield 73, 3) := by decide +kernel
theorem d_Mo_district_51 : decode c_Mo_district 51 = .ok (.iconst 1, 1) := by decide +kernel
theorem d_Mo_district_52 : decode c_Mo_district 52 = .ok (.isub, 1) := by decide +kernel
theorem d_Mo_district_53 : decode c_Mo_district 53 = .ok (.ireturn, 1) := by decide +kernel
theorem d_Mo_place_0 : decode c_Mo_place 0 = .ok (.aload_n 0, 1) := by decide +kernel
theorem d_Mo_place_1 : decode c_Mo_place 1 = .ok (.getfield 77, 3) := by decide +kernel
theorem d_Mo_place_4 : decode c_Mo_place 4 = .ok (.iconst 5, 1) := by decide +kernel
theorem d_Mo_place_5 : decode c_Mo_place 5 = .ok (.if_icmp .eq 53, 3) := by decide +kernel
theorem d_Mo_place_8 : decode c_Mo_place 8 = .ok (.lload_n 1, 1) := by decide +kernel
theorem d_Mo_place_9 : decode c_Mo_place 9 = .ok (.ldc2_w 90, 3) := by decide +kernel
theorem d_Mo_place_12 : decode c_Mo_place 12 = .ok (.ldc2_w 92, 3) := by decide +kernel
theorem d_Mo_place_15 : decode c_Mo_place 15 = .ok (.invokestatic 82, 3) := by decide +kernel
theorem d_Mo_place_18 : decode c_Mo_place 18 = .ok (.ifCond .eq 40, 3) := by decide +kernel
theorem d_Mo_place_21 : decode c_Mo_place 21 = .ok (.lload_n 3, 1) := by decide +kernel
theorem d_Mo_place_22 : decode c_Mo_place 22 = .ok (.ldc2_w 90, 3) := by decide +kernel
theorem d_Mo_place_25 : decode c_Mo_place 25 = .ok (.ldc2_w 92, 3) := by decide +kernel
theorem d_Mo_place_28 : decode c_Mo_place 28 = .ok (.invokestatic 82, 3) := by decide +kernel
theorem d_Mo_place_31 : decode c_Mo_place 31 = .ok (.ifCond .eq 27, 3) := by decide +kernel
theorem d_Mo_place_34 : decode c_Mo_place 34 = .ok (.lload 5, 2) := by decide +kernel
theorem d_Mo_place_36 : decode c_Mo_place 36 = .ok (.lconst 0, 1) := by decide +kernel
theorem d_Mo_place_37 : decode c_Mo_place 37 = .ok (.ldc2_w 94, 3) := by decide +kernel
theorem d_Mo_place_40 : decode c_Mo_place 40 = .ok (.invokestatic 82, 3) := by decide +kernel
theorem d_Mo_place_43 : decode c_Mo_place 43 = .ok (.ifCond .eq 15, 3) := by decide +kernel
theorem d_Mo_place_46 : decode c_Mo_place 46 = .ok (.lload 7, 2) := by decide +kernel
theorem d_Mo_place_48 : decode c_Mo_place 48 = .ok (.lconst 0, 1) := by decide +kernel
theorem d_Mo_place_49 : decode c_Mo_place 49 = .ok (.ldc2_w 92, 3) := by decide +kernel
theorem d_Mo_place_52 : decode c_Mo_place 52 = .ok (.invokestatic 82, 3) := by decide +kernel
theorem d_Mo_place_55 : decode c_Mo_place 55 = .ok (.ifCond .ne 5, 3) := by decide +kernel
theorem d_Mo_place_58 : decode c_Mo_place 58 = .ok (.iconst (-1), 1) := by decide +kernel
theorem d_Mo_place_59 : decode c_Mo_place 59 = .ok (.ireturn, 1) := by decide +kernel
theorem d_Mo_place_60 : decode c_Mo_place 60 = .ok (.aload_n 0, 1) := by decide +kernel
theorem d_Mo_place_61 : decode c_Mo_place 61 = .ok (.getfield 16, 3) := by decide +kernel
theorem d_Mo_place_64 : decode c_Mo_place 64 = .ok (.aload_n 0, 1) := by decide +kernel
theorem d_Mo_place_65 : decode c_Mo_place 65 = .ok (.getfield 77, 3) := by decide +kernel
theorem d_Mo_place_68 : decode c_Mo_place 68 = .ok (.lload_n 1, 1) := by decide +kernel
theorem d_Mo_place_69 : decode c_Mo_place 69 = .ok (.lastore, 1) := by decide +kernel
theorem d_Mo_place_70 : decode c_Mo_place 70 = .ok (.aload_n 0, 1) := by decide +kernel
theorem d_Mo_place_71 : decode c_Mo_place 71 = .ok (.getfield 19, 3) := by decide +kernel
theorem d_Mo_place_74 : decode c_Mo_place 74 = .ok (.aload_n 0, 1) := by decide +kernel
theorem d_Mo_place_75 : decode c_Mo_place 75 = .ok (.getfield 77, 3) := by decide +kernel
theorem d_Mo_place_78 : decode c_Mo_place 78 = .ok (.lload_n 3, 1) := by decide +kernel
theorem d_Mo_place_79 : decode c_Mo_place 79 = .ok (.lastore, 1) := by decide +kernel
theorem d_Mo_place_80 : decode c_Mo_place 80 = .ok (.aload_n 0, 1) := by decide +kernel
theorem d_Mo_place_81 : decode c_Mo_place 81 = .ok (.getfield 22, 3) := by decide +kernel
theorem d_Mo_place_84 : decode c_Mo_place 84 = .ok (.aload_n 0, 1) := by decide +kernel
theorem d_Mo_place_85 : decode c_Mo_place 85 = .ok (.getfield 77, 3) := by decide +kernel
theorem d_Mo_place_88 : decode c_Mo_place 88 = .ok (.lload 5, 2) := by decide +kernel
theorem d_Mo_place_90 : decode c_Mo_place 90 = .ok (.lastore, 1) := by decide +kernel
theorem d_Mo_place_91 : decode c_Mo_place 91 = .ok (.aload_n 0, 1) := by decide +kernel
theorem d_Mo_place_92 : decode c_Mo_place 92 = .ok (.getfield 25, 3) := by decide +kernel
theorem d_Mo_place_95 : decode c_Mo_place 95 = .ok (.aload_n 0, 1) := by decide +kernel
theorem d_Mo_place_96 : decode c_Mo_place 96 = .ok (.getfield 77, 3) := by decide +kernel
theorem d_Mo_place_99 : decode c_Mo_place 99 = .ok (.lload 7, 2) := by decide +kernel
theorem d_Mo_place_101 : decode c_Mo_place 101 = .ok (.lastore, 1) := by decide +kernel
theorem d_Mo_place_102 : decode c_Mo_place 102 = .ok (.aload_n 0, 1) := by decide +kernel
theorem d_Mo_place_103 : decode c_Mo_place 103 = .ok (.dup, 1) := by decide +kernel
theorem d_Mo_place_104 : decode c_Mo_place 104 = .ok (.getfield 77, 3) := by decide +kernel
theorem d_Mo_place_107 : decode c_Mo_place 107 = .ok (.iconst 1, 1) := by decide +kernel
theorem d_Mo_place_108 : decode c_Mo_place 108 = .ok (.iadd, 1) := by decide +kernel
theorem d_Mo_place_109 : decode c_Mo_place 109 = .ok (.putfield 77, 3) := by decide +kernel
theorem d_Mo_place_112 : decode c_Mo_place 112 = .ok (.aload_n 0, 1) := by decide +kernel
theorem d_Mo_place_113 : decode c_Mo_place 113 = .ok (.iconst 0, 1) := by decide +kernel
theorem d_Mo_place_114 : decode c_Mo_place 114 = .ok (.putfield 86, 3) := by decide +kernel
theorem d_Mo_place_117 : decode c_Mo_place 117 = .ok (.aload_n 0, 1) := by decide +kernel
theorem d_Mo_place_118 : decode c_Mo_place 118 = .ok (.getfield 77, 3) := by decide +kernel
theorem d_Mo_place_121 : decode c_Mo_place 121 = .ok (.iconst 1, 1) := by decide +kernel
theorem d_Mo_place_122 : decode c_Mo_place 122 = .ok (.isub, 1) := by decide +kernel
theorem d_Mo_place_123 : decode c_Mo_place 123 = .ok (.ireturn, 1) := by decide +kernel
theorem d_Mo_walk_0 : decode c_Mo_walk 0 = .ok (.aload_n 0, 1) := by decide +kernel
theorem d_Mo_walk_1 : decode c_Mo_walk 1 = .ok (.iload_n 1, 1) := by decide +kernel
theorem d_Mo_walk_2 : decode c_Mo_walk 2 = .ok (.invokevirtual 96, 3) := by decide +kernel
theorem d_Mo_walk_5 : decode c_Mo_walk 5 = .ok (.ifCond .eq 22, 3) := by decide +kernel
theorem d_Mo_walk_8 : decode c_Mo_walk 8 = .ok (.aload_n 0, 1) := by decide +kernel
theorem d_Mo_walk_9 : decode c_Mo_walk 9 = .ok (.iload_n 2, 1) := by decide +kernel
theorem d_Mo_walk_10 : decode c_Mo_walk 10 = .ok (.invokevirtual 100, 3) := by decide +kernel
theorem d_Mo_walk_13 : decode c_Mo_walk 13 = .ok (.ifCond .eq 14, 3) := by decide +kernel
theorem d_Mo_walk_16 : decode c_Mo_walk 16 = .ok (.lload_n 3, 1) := by decide +kernel
theorem d_Mo_walk_17 : decode c_Mo_walk 17 = .ok (.lconst 0, 1) := by decide +kernel
theorem d_Mo_walk_18 : decode c_Mo_walk 18 = .ok (.ldc2_w 69, 3) := by decide +kernel
theorem d_Mo_walk_21 : decode c_Mo_walk 21 = .ok (.invokestatic 82, 3) := by decide +kernel
theorem d_Mo_walk_24 : decode c_Mo_walk 24 = .ok (.ifCond .ne 5, 3) := by decide +kernel
theorem d_Mo_walk_27 : decode c_Mo_walk 27 = .ok (.iconst 0, 1) := by decide +kernel
theorem d_Mo_walk_28 : decode c_Mo_walk 28 = .ok (.ireturn, 1) := by decide +kernel
theorem d_Mo_walk_29 : decode c_Mo_walk 29 = .ok (.aload_n 0, 1) := by decide +kernel
theorem d_Mo_walk_30 : decode c_Mo_walk 30 = .ok (.getfield 35, 3) := by decide +kernel
theorem d_Mo_walk_33 : decode c_Mo_walk 33 = .ok (.iconst 5, 1) := by decide +kernel
theorem d_Mo_walk_34 : decode c_Mo_walk 34 = .ok (.iload_n 1, 1) := by decide +kernel
theorem d_Mo_walk_35 : decode c_Mo_walk 35 = .ok (.imul, 1) := by decide +kernel
theorem d_Mo_walk_36 : decode c_Mo_walk 36 = .ok (.iload_n 2, 1) := by decide +kernel
theorem d_Mo_walk_37 : decode c_Mo_walk 37 = .ok (.iadd, 1) := by decide +kernel
theorem d_Mo_walk_38 : decode c_Mo_walk 38 = .ok (.lload_n 3, 1) := by decide +kernel
theorem d_Mo_walk_39 : decode c_Mo_walk 39 = .ok (.lastore, 1) := by decide +kernel
theorem d_Mo_walk_40 : decode c_Mo_walk 40 = .ok (.aload_n 0, 1) := by decide +kernel
theorem d_Mo_walk_41 : decode c_Mo_walk 41 = .ok (.iconst 0, 1) := by decide +kernel
theorem d_Mo_walk_42 : decode c_Mo_walk 42 = .ok (.putfield 86, 3) := by decide +kernel
theorem d_Mo_walk_45 : decode c_Mo_walk 45 = .ok (.iconst 1, 1) := by decide +kernel
theorem d_Mo_walk_46 : decode c_Mo_walk 46 = .ok (.ireturn, 1) := by decide +kernel
theorem d_Mo_bar_0 : decode c_Mo_bar 0 = .ok (.aload_n 0, 1) := by decide +kernel
theorem d_Mo_bar_1 : decode c_Mo_bar 1 = .ok (.iload_n 1, 1) := by decide +kernel
theorem d_Mo_bar_2 : decode c_Mo_bar 2 = .ok (.invokevirtual 100, 3) := by decide +kernel
theorem d_Mo_bar_5 : decode c_Mo_bar 5 = .ok (.ifCond .eq 12, 3) := by decide +kernel
theorem d_Mo_bar_8 : decode c_Mo_bar 8 = .ok (.aload_n 0, 1) := by decide +kernel
theorem d_Mo_bar_9 : decode c_Mo_bar 9 = .ok (.getfield 31, 3) := by decide +kernel
theorem d_Mo_bar_12 : decode c_Mo_bar 12 = .ok (.iload_n 1, 1) := by decide +kernel
theorem d_Mo_bar_13 : decode c_Mo_bar 13 = .ok (.baload, 1) := by decide +kernel
theorem d_Mo_bar_14 : decode c_Mo_bar 14 = .ok (.ifCond .eq 5, 3) := by decide +kernel
theorem d_Mo_bar_17 : decode c_Mo_bar 17 = .ok (.iconst 0, 1) := by decide +kernel
theorem d_Mo_bar_18 : decode c_Mo_bar 18 = .ok (.ireturn, 1) := by decide +kernel
theorem d_Mo_bar_19 : decode c_Mo_bar 19 = .ok (.aload_n 0, 1) := by decide +kernel
theorem d_Mo_bar_20 : decode c_Mo_bar 20 = .ok (.getfield 31, 3) := by decide +kernel
theorem d_Mo_bar_23 : decode c_Mo_bar 23 = .ok (.iload_n 1, 1) := by decide +kernel
theorem d_Mo_bar_24 : decode c_Mo_bar 24 = .ok (.iconst 1, 1) := by decide +kernel
theorem d_Mo_bar_25 : decode c_Mo_bar 25 = .ok (.bastore, 1) := by decide +kernel
theorem d_Mo_bar_26 : decode c_Mo_bar 26 = .ok (.aload_n 0, 1) := by decide +kernel
theorem d_Mo_bar_27 : decode c_Mo_bar 27 = .ok (.iconst 0, 1) := by decide +kernel
theorem d_Mo_bar_28 : decode c_Mo_bar 28 = .ok (.putfield 86, 3) := by decide +kernel
theorem d_Mo_bar_31 : decode c_Mo_bar 31 = .ok (.iconst 1, 1) := by decide +kernel
theorem d_Mo_bar_32 : decode c_Mo_bar 32 = .ok (.ireturn, 1) := by decide +kernel
theorem d_Mo_noise_0 : decode c_Mo_noise 0 = .ok (.aload_n 0, 1) := by decide +kernel
theorem d_Mo_noise_1 : decode c_Mo_noise 1 = .ok (.iload_n 1, 1) := by decide +kernel
theorem d_Mo_noise_2 : decode c_Mo_noise 2 = .ok (.invokevirtual 100, 3) := by decide +kernel
theorem d_Mo_noise_5 : decode c_Mo_noise 5 = .ok (.ifCond .eq 14, 3) := by decide +kernel
theorem d_Mo_noise_8 : decode c_Mo_noise 8 = .ok (.lload_n 2, 1) := by decide +kernel
theorem d_Mo_noise_9 : decode c_Mo_noise 9 = .ok (.lconst 0, 1) := by decide +kernel
theorem d_Mo_noise_10 : decode c_Mo_noise 10 = .ok (.ldc2_w 103, 3) := by decide +kernel
theorem d_Mo_noise_13 : decode c_Mo_noise 13 = .ok (.invokestatic 82, 3) := by decide +kernel
theorem d_Mo_noise_16 : decode c_Mo_noise 16 = .ok (.ifCond .ne 5, 3) := by decide +kernel
theorem d_Mo_noise_19 : decode c_Mo_noise 19 = .ok (.iconst 0, 1) := by decide +kernel
theorem d_Mo_noise_20 : decode c_Mo_noise 20 = .ok (.ireturn, 1) := by decide +kernel
theorem d_Mo_noise_21 : decode c_Mo_noise 21 = .ok (.aload_n 0, 1) := by decide +kernel
theorem d_Mo_noise_22 : decode c_Mo_noise 22 = .ok (.getfield 28, 3) := by decide +kernel
theorem d_Mo_noise_25 : decode c_Mo_noise 25 = .ok (.iload_n 1, 1) := by decide +kernel
theorem d_Mo_noise_26 : decode c_Mo_noise 26 = .ok (.lload_n 2, 1) := by decide +kernel
theorem d_Mo_noise_27 : decode c_Mo_noise 27 = .ok (.lastore, 1) := by decide +kernel
theorem d_Mo_noise_28 : decode c_Mo_noise 28 = .ok (.aload_n 0, 1) := by decide +kernel
theorem d_Mo_noise_29 : decode c_Mo_noise 29 = .ok (.iconst 0, 1) := by decide +kernel
theorem d_Mo_noise_30 : decode c_Mo_noise 30 = .ok (.putfield 86, 3) := by decide +kernel
theorem d_Mo_noise_33 : decode c_Mo_noise 33 = .ok (.iconst 1, 1) := by decide +kernel
theorem d_Mo_noise_34 : decode c_Mo_noise 34 = .ok (.ireturn, 1) := by decide +kernel
theorem d_Mo_budget_0 : decode c_Mo_budget 0 = .ok (.lload_n 1, 1) := by decide +kernel
theorem d_Mo_budget_1 : decode c_Mo_budget 1 = .ok (.lconst 0, 1) := by decide +kernel
theorem d_Mo_budget_2 : decode c_Mo_budget 2 = .ok (.ldc2_w 38, 3) := by decide +kernel
theorem d_Mo_budget_5 : decode c_Mo_budget 5 = .ok (.invokestatic 82, 3) := by decide +kernel
theorem d_Mo_budget_8 : decode c_Mo_budget 8 = .ok (.ifCond .ne 5, 3) := by decide +kernel
theorem d_Mo_budget_11 : decode c_Mo_budget 11 = .ok (.iconst 0, 1) := by decide +kernel
theorem d_Mo_budget_12 : decode c_Mo_budget 12 = .ok (.ireturn, 1) := by decide +kernel
theorem d_Mo_budget_13 : decode c_Mo_budget 13 = .ok (.aload_n 0, 1) := by decide +kernel
theorem d_Mo_budget_14 : decode c_Mo_budget 14 = .ok (.lload_n 1, 1) := by decide +kernel
theorem d_Mo_budget_15 : decode c_Mo_budget 15 = .ok (.putfield 40, 3) := by decide +kernel
theorem d_Mo_budget_18 : decode c_Mo_budget 18 = .ok (.aload_n 0, 1) := by decide +kernel
theorem d_Mo_budget_19 : decode c_Mo_budget 19 = .ok (.iconst 0, 1) := by decide +kernel
theorem d_Mo_budget_20 : decode c_Mo_budget 20 = .ok (.putfield 86, 3) := by decide +kernel
theorem d_Mo_budget_23 : decode c_Mo_budget 23 = .ok (.iconst 1, 1) := by decide +kernel
theorem d_Mo_budget_24 : decode c_Mo_budget 24 = .ok (.ireturn, 1) := by decide +kernel
theorem d_Mo_fair_0 : decode c_Mo_fair 0 = .ok (.aload_n 0, 1) := by decide +kernel
theorem d_Mo_fair_1 : decode c_Mo_fair 1 = .ok (.iload_n 1, 1) := by decide +kernel
theorem d_Mo_fair_2 : decode c_Mo_fair 2 = .ok (.invokevirtual 96, 3) := by decide +kernel
theorem d_Mo_fair_5 : decode c_Mo_fair 5 = .ok (.ifCond .eq 14, 3) := by decide +kernel
theorem d_Mo_fair_8 : decode c_Mo_fair 8 = .ok (.lload_n 2, 1) := by decide +kernel
theorem d_Mo_fair_9 : decode c_Mo_fair 9 = .ok (.lconst 0, 1) := by decide +kernel
theorem d_Mo_fair_10 : decode c_Mo_fair 10 = .ok (.ldc2_w 69, 3) := by decide +kernel
theorem d_Mo_fair_13 : decode c_Mo_fair 13 = .ok (.invokestatic 82, 3) := by decide +kernel
theorem d_Mo_fair_16 : decode c_Mo_fair 16 = .ok (.ifCond .ne 5, 3) := by decide +kernel
theorem d_Mo_fair_19 : decode c_Mo_fair 19 = .ok (.iconst 0, 1) := by decide +kernel
theorem d_Mo_fair_20 : decode c_Mo_fair 20 = .ok (.ireturn, 1) := by decide +kernel
theorem d_Mo_fair_21 : decode c_Mo_fair 21 = .ok (.aload_n 0, 1) := by decide +kernel
theorem d_Mo_fair_22 : decode c_Mo_fair 22 = .ok (.getfield 13, 3) := by decide +kernel
theorem d_Mo_fair_25 : decode c_Mo_fair 25 = .ok (.iload_n 1, 1) := by decide +kernel
theorem d_Mo_fair_26 : decode c_Mo_fair 26 = .ok (.lload_n 2, 1) := by decide +kernel
theorem d_Mo_fair_27 : decode c_Mo_fair 27 = .ok (.lastore, 1) := by decide +kernel
theorem d_Mo_fair_28 : decode c_Mo_fair 28 = .ok (.aload_n 0, 1) := by decide +kernel
theorem d_Mo_fair_29 : decode c_Mo_fair 29 = .ok (.iconst 0, 1) := by decide +kernel
theorem d_Mo_fair_30 : decode c_Mo_fair 30 = .ok (.putfield 86, 3) := by decide +kernel
theorem d_Mo_fair_33 : decode c_Mo_fair 33 = .ok (.iconst 1, 1) := by decide +kernel
theorem d_Mo_fair_34 : decode c_Mo_fair 34 = .ok (.ireturn, 1) := by decide +kernel
theorem d_Mo_has_0 : decode c_Mo_has 0 = .ok (.iload_n 0, 1) := by decide +kernel
theorem d_Mo_has_1 : decode c_Mo_has 1 = .ok (.iload_n 1, 1) := by decide +kernel
theorem d_Mo_has_2 : decode c_Mo_has 2 = .ok (.ishr, 1) := by decide +kernel
theorem d_Mo_has_3 : decode c_Mo_has 3 = .ok (.iconst 1, 1) := by decide +kernel
theorem d_Mo_has_4 : decode c_Mo_has 4 = .ok (.iand, 1) := by decide +kernel
theorem d_Mo_has_5 : decode c_Mo_has 5 = .ok (.iconst 1, 1) := by decide +kernel
theorem d_Mo_has_6 : decode c_Mo_has 6 = .ok (.if_icmp .ne 7, 3) := by decide +kernel
theorem d_Mo_has_9 : decode c_Mo_has 9 = .ok (.iconst 1, 1) := by decide +kernel
theorem d_Mo_has_10 : decode c_Mo_has 10 = .ok (.goto 4, 3) := by decide +kernel
theorem d_Mo_has_13 : decode c_Mo_has 13 = .ok (.iconst 0, 1) := by decide +kernel
theorem d_Mo_has_14 : decode c_Mo_has 14 = .ok (.ireturn, 1) := by decide +kernel
theorem d_Mo_canGo_0 : decode c_Mo_canGo 0 = .ok (.aload_n 0, 1) := by decide +kernel
theorem d_Mo_canGo_1 : decode c_Mo_canGo 1 = .ok (.getfield 35, 3) := by decide +kernel
theorem d_Mo_canGo_4 : decode c_Mo_canGo 4 = .ok (.iconst 5, 1) := by decide +kernel
theorem d_Mo_canGo_5 : decode c_Mo_canGo 5 = .ok (.iload_n 1, 1) := by decide +kernel
theorem d_Mo_canGo_6 : decode c_Mo_canGo 6 = .ok (.imul, 1) := by decide +kernel
theorem d_Mo_canGo_7 : decode c_Mo_canGo 7 = .ok (.iload_n 2, 1) := by decide +kernel
theorem d_Mo_canGo_8 : decode c_Mo_canGo 8 = .ok (.iadd, 1) := by decide +kernel
theorem d_Mo_canGo_9 : decode c_Mo_canGo 9 = .ok (.laload, 1) := by decide +kernel
theorem d_Mo_canGo_10 : decode c_Mo_canGo 10 = .ok (.lstore_n 3, 1) := by decide +kernel
theorem d_Mo_canGo_11 : decode c_Mo_canGo 11 = .ok (.lload_n 3, 1) := by decide +kernel
theorem d_Mo_canGo_12 : decode c_Mo_canGo 12 = .ok (.lconst 0, 1) := by decide +kernel
theorem d_Mo_canGo_13 : decode c_Mo_canGo 13 = .ok (.lcmp, 1) := by decide +kernel
theorem d_Mo_canGo_14 : decode c_Mo_canGo 14 = .ok (.ifCond .lt 18, 3) := by decide +kernel
theorem d_Mo_canGo_17 : decode c_Mo_canGo 17 = .ok (.lload_n 3, 1) := by decide +kernel
theorem d_Mo_canGo_18 : decode c_Mo_canGo 18 = .ok (.aload_n 0, 1) := by decide +kernel
theorem d_Mo_canGo_19 : decode c_Mo_canGo 19 = .ok (.getfield 13, 3) := by decide +kernel
theorem d_Mo_canGo_22 : decode c_Mo_canGo 22 = .ok (.iload_n 1, 1) := by decide +kernel
theorem d_Mo_canGo_23 : decode c_Mo_canGo 23 = .ok (.laload, 1) := by decide +kernel
theorem d_Mo_canGo_24 : decode c_Mo_canGo 24 = .ok (.lcmp, 1) := by decide +kernel
theorem d_Mo_canGo_25 : decode c_Mo_canGo 25 = .ok (.ifCond .gt 7, 3) := by decide +kernel
theorem d_Mo_canGo_28 : decode c_Mo_canGo 28 = .ok (.iconst 1, 1) := by decide +kernel
theorem d_Mo_canGo_29 : decode c_Mo_canGo 29 = .ok (.goto 4, 3) := by decide +kernel
theorem d_Mo_canGo_32 : decode c_Mo_canGo 32 = .ok (.iconst 0, 1) := by decide +kernel
theorem d_Mo_canGo_33 : decode c_Mo_canGo 33 = .ok (.ireturn, 1) := by decide +kernel
theorem d_Mo_mayBeOpen_0 : decode c_Mo_mayBeOpen 0 = .ok (.lconst 0, 1) := by decide +kernel
theorem d_Mo_mayBeOpen_1 : decode c_Mo_mayBeOpen 1 = .ok (.lstore_n 3, 1) := by decide +kernel
theorem d_Mo_mayBeOpen_2 : decode c_Mo_mayBeOpen 2 = .ok (.iconst 0, 1) := by decide +kernel
theorem d_Mo_mayBeOpen_3 : decode c_Mo_mayBeOpen 3 = .ok (.istore 5, 2) := by decide +kernel
theorem d_Mo_mayBeOpen_5 : decode c_Mo_mayBeOpen 5 = .ok (.iload 5, 2) := by decide +kernel
theorem d_Mo_mayBeOpen_7 : decode c_Mo_mayBeOpen 7 = .ok (.aload_n 0, 1) := by decide +kernel
theorem d_Mo_mayBeOpen_8 : decode c_Mo_mayBeOpen 8 = .ok (.getfield 77, 3) := by decide +kernel
theorem d_Mo_mayBeOpen_11 : decode c_Mo_mayBeOpen 11 = .ok (.if_icmp .ge 190, 3) := by decide +kernel
theorem d_Mo_mayBeOpen_14 : decode c_Mo_mayBeOpen 14 = .ok (.iload_n 1, 1) := by decide +kernel
theorem d_Mo_mayBeOpen_15 : decode c_Mo_mayBeOpen 15 = .ok (.iload 5, 2) := by decide +kernel
theorem d_Mo_mayBeOpen_17 : decode c_Mo_mayBeOpen 17 = .ok (.invokestatic 105, 3) := by decide +kernel
theorem d_Mo_mayBeOpen_20 : decode c_Mo_mayBeOpen 20 = .ok (.ifCond .eq 175, 3) := by decide +kernel
theorem d_Mo_mayBeOpen_23 : decode c_Mo_mayBeOpen 23 = .ok (.lload_n 3, 1) := by decide +kernel
theorem d_Mo_mayBeOpen_24 : decode c_Mo_mayBeOpen 24 = .ok (.iload 5, 2) := by decide +kernel
theorem d_Mo_mayBeOpen_26 : decode c_Mo_mayBeOpen 26 = .ok (.iload_n 2, 1) := by decide +kernel
theorem d_Mo_mayBeOpen_27 : decode c_Mo_mayBeOpen 27 = .ok (.if_icmp .ne 7, 3) := by decide +kernel
theorem d_Mo_mayBeOpen_30 : decode c_Mo_mayBeOpen 30 = .ok (.lconst 0, 1) := by decide +kernel
theorem d_Mo_mayBeOpen_31 : decode c_Mo_mayBeOpen 31 = .ok (.goto 10, 3) := by decide +kernel
theorem d_Mo_mayBeOpen_34 : decode c_Mo_mayBeOpen 34 = .ok (.aload_n 0, 1) := by decide +kernel
theorem d_Mo_mayBeOpen_35 : decode c_Mo_mayBeOpen 35 = .ok (.getfield 22, 3) := by decide +kernel
theorem d_Mo_mayBeOpen_38 : decode c_Mo_mayBeOpen 38 = .ok (.iload 5, 2) := by decide +kernel
theorem d_Mo_mayBeOpen_40 : decode c_Mo_mayBeOpen 40 = .ok (.laload, 1) := by decide +kernel
theorem d_Mo_mayBeOpen_41 : decode c_Mo_mayBeOpen 41 = .ok (.ladd, 1) := by decide +kernel
theorem d_Mo_mayBeOpen_42 : decode c_Mo_mayBeOpen 42 = .ok (.lstore_n 3, 1) := by decide +kernel
theorem d_Mo_mayBeOpen_43 : decode c_Mo_mayBeOpen 43 = .ok (.aload_n 0, 1) := by decide +kernel
theorem d_Mo_mayBeOpen_44 : decode c_Mo_mayBeOpen 44 = .ok (.getfield 31, 3) := by decide +kernel
theorem d_Mo_mayBeOpen_47 : decode c_Mo_mayBeOpen 47 = .ok (.iload 5, 2) := by decide +kernel
theorem d_Mo_mayBeOpen_49 : decode c_Mo_mayBeOpen 49 = .ok (.baload, 1) := by decide +kernel
theorem d_Mo_mayBeOpen_50 : decode c_Mo_mayBeOpen 50 = .ok (.ifCond .eq 5, 3) := by decide +kernel
theorem d_Mo_mayBeOpen_53 : decode c_Mo_mayBeOpen 53 = .ok (.iconst 0, 1) := by decide +kernel
theorem d_Mo_mayBeOpen_54 : decode c_Mo_mayBeOpen 54 = .ok (.ireturn, 1) := by decide +kernel
theorem d_Mo_mayBeOpen_55 : decode c_Mo_mayBeOpen 55 = .ok (.iconst 0, 1) := by decide +kernel
theorem d_Mo_mayBeOpen_56 : decode c_Mo_mayBeOpen 56 = .ok (.istore 6, 2) := by decide +kernel
theorem d_Mo_mayBeOpen_58 : decode c_Mo_mayBeOpen 58 = .ok (.iload 6, 2) := by decide +kernel
theorem d_Mo_mayBeOpen_60 : decode c_Mo_mayBeOpen 60 = .ok (.iload 5, 2) := by decide +kernel
theorem d_Mo_mayBeOpen_62 : decode c_Mo_mayBeOpen 62 = .ok (.if_icmp .ge 133, 3) := by decide +kernel
theorem d_Mo_mayBeOpen_65 : decode c_Mo_mayBeOpen 65 = .ok (.aload_n 0, 1) := by decide +kernel
theorem d_Mo_mayBeOpen_66 : decode c_Mo_mayBeOpen 66 = .ok (.getfield 16, 3) := by decide +kernel
theorem d_Mo_mayBeOpen_69 : decode c_Mo_mayBeOpen 69 = .ok (.iload 5, 2) := by decide +kernel
theorem d_Mo_mayBeOpen_71 : decode c_Mo_mayBeOpen 71 = .ok (.laload, 1) := by decide +kernel
theorem d_Mo_mayBeOpen_72 : decode c_Mo_mayBeOpen 72 = .ok (.aload_n 0, 1) := by decide +kernel
theorem d_Mo_mayBeOpen_73 : decode c_Mo_mayBeOpen 73 = .ok (.getfield 16, 3) := by decide +kernel
theorem d_Mo_mayBeOpen_76 : decode c_Mo_mayBeOpen 76 = .ok (.iload 6, 2) := by decide +kernel
theorem d_Mo_mayBeOpen_78 : decode c_Mo_mayBeOpen 78 = .ok (.laload, 1) := by decide +kernel
theorem d_Mo_mayBeOpen_79 : decode c_Mo_mayBeOpen 79 = .ok (.lsub, 1) := by decide +kernel
theorem d_Mo_mayBeOpen_80 : decode c_Mo_mayBeOpen 80 = .ok (.aload_n 0, 1) := by decide +kernel
theorem d_Mo_mayBeOpen_81 : decode c_Mo_mayBeOpen 81 = .ok (.getfield 16, 3) := by decide +kernel
theorem d_Mo_mayBeOpen_84 : decode c_Mo_mayBeOpen 84 = .ok (.iload 5, 2) := by decide +kernel
theorem d_Mo_mayBeOpen_86 : decode c_Mo_mayBeOpen 86 = .ok (.laload, 1) := by decide +kernel
theorem d_Mo_mayBeOpen_87 : decode c_Mo_mayBeOpen 87 = .ok (.aload_n 0, 1) := by decide +kernel
theorem d_Mo_mayBeOpen_88 : decode c_Mo_mayBeOpen 88 = .ok (.getfield 16, 3) := by decide +kernel
theorem d_Mo_mayBeOpen_91 : decode c_Mo_mayBeOpen 91 = .ok (.iload 6, 2) := by decide +kernel
theorem d_Mo_mayBeOpen_93 : decode c_Mo_mayBeOpen 93 = .ok (.laload, 1) := by decide +kernel
theorem d_Mo_mayBeOpen_94 : decode c_Mo_mayBeOpen 94 = .ok (.lsub, 1) := by decide +kernel
theorem d_Mo_mayBeOpen_95 : decode c_Mo_mayBeOpen 95 = .ok (.lmul, 1) := by decide +kernel
theorem d_Mo_mayBeOpen_96 : decode c_Mo_mayBeOpen 96 = .ok (.aload_n 0, 1) := by decide +kernel
theorem d_Mo_mayBeOpen_97 : decode c_Mo_mayBeOpen 97 = .ok (.getfield 19, 3) := by decide +kernel
theorem d_Mo_mayBeOpen_100 : decode c_Mo_mayBeOpen 100 = .ok (.iload 5, 2) := by decide +kernel
theorem d_Mo_mayBeOpen_102 : decode c_Mo_mayBeOpen 102 = .ok (.laload, 1) := by decide +kernel
theorem d_Mo_mayBeOpen_103 : decode c_Mo_mayBeOpen 103 = .ok (.aload_n 0, 1) := by decide +kernel
theorem d_Mo_mayBeOpen_104 : decode c_Mo_mayBeOpen 104 = .ok (.getfield 19, 3) := by decide +kernel
theorem d_Mo_mayBeOpen_107 : decode c_Mo_mayBeOpen 107 = .ok (.iload 6, 2) := by decide +kernel
theorem d_Mo_mayBeOpen_109 : decode c_Mo_mayBeOpen 109 = .ok (.laload, 1) := by decide +kernel
theorem d_Mo_mayBeOpen_110 : decode c_Mo_mayBeOpen 110 = .ok (.lsub, 1) := by decide +kernel
theorem d_Mo_mayBeOpen_111 : decode c_Mo_mayBeOpen 111 = .ok (.aload_n 0, 1) := by decide +kernel
theorem d_Mo_mayBeOpen_112 : decode c_Mo_mayBeOpen 112 = .ok (.getfield 19, 3) := by decide +kernel
theorem d_Mo_mayBeOpen_115 : decode c_Mo_mayBeOpen 115 = .ok (.iload 5, 2) := by decide +kernel
theorem d_Mo_mayBeOpen_117 : decode c_Mo_mayBeOpen 117 = .ok (.laload, 1) := by decide +kernel
theorem d_Mo_mayBeOpen_118 : decode c_Mo_mayBeOpen 118 = .ok (.aload_n 0, 1) := by decide +kernel
theorem d_Mo_mayBeOpen_119 : decode c_Mo_mayBeOpen 119 = .ok (.getfield 19, 3) := by decide +kernel
theorem d_Mo_mayBeOpen_122 : decode c_Mo_mayBeOpen 122 = .ok (.iload 6, 2) := by decide +kernel
theorem d_Mo_mayBeOpen_124 : decode c_Mo_mayBeOpen 124 = .ok (.laload, 1) := by decide +kernel
theorem d_Mo_mayBeOpen_125 : decode c_Mo_mayBeOpen 125 = .ok (.lsub, 1) := by decide +kernel
theorem d_Mo_mayBeOpen_126 : decode c_Mo_mayBeOpen 126 = .ok (.lmul, 1) := by decide +kernel
theorem d_Mo_mayBeOpen_127 : decode c_Mo_mayBeOpen 127 = .ok (.ladd, 1) := by decide +kernel
theorem d_Mo_mayBeOpen_128 : decode c_Mo_mayBeOpen 128 = .ok (.lstore 7, 2) := by decide +kernel
theorem d_Mo_mayBeOpen_130 : decode c_Mo_mayBeOpen 130 = .ok (.aload_n 0, 1) := by decide +kernel
theorem d_Mo_mayBeOpen_131 : decode c_Mo_mayBeOpen 131 = .ok (.getfield 28, 3) := by decide +kernel
theorem d_Mo_mayBeOpen_134 : decode c_Mo_mayBeOpen 134 = .ok (.iload 5, 2) := by decide +kernel
theorem d_Mo_mayBeOpen_136 : decode c_Mo_mayBeOpen 136 = .ok (.laload, 1) := by decide +kernel
theorem d_Mo_mayBeOpen_137 : decode c_Mo_mayBeOpen 137 = .ok (.aload_n 0, 1) := by decide +kernel
theorem d_Mo_mayBeOpen_138 : decode c_Mo_mayBeOpen 138 = .ok (.getfield 28, 3) := by decide +kernel
theorem d_Mo_mayBeOpen_141 : decode c_Mo_mayBeOpen 141 = .ok (.iload 6, 2) := by decide +kernel
theorem d_Mo_mayBeOpen_143 : decode c_Mo_mayBeOpen 143 = .ok (.laload, 1) := by decide +kernel
theorem d_Mo_mayBeOpen_144 : decode c_Mo_mayBeOpen 144 = .ok (.lcmp, 1) := by decide +kernel
theorem d_Mo_mayBeOpen_145 : decode c_Mo_mayBeOpen 145 = .ok (.ifCond .le 13, 3) := by decide +kernel
theorem d_Mo_mayBeOpen_148 : decode c_Mo_mayBeOpen 148 = .ok (.aload_n 0, 1) := by decide +kernel
theorem d_Mo_mayBeOpen_149 : decode c_Mo_mayBeOpen 149 = .ok (.getfield 28, 3) := by decide +kernel
theorem d_Mo_mayBeOpen_152 : decode c_Mo_mayBeOpen 152 = .ok (.iload 5, 2) := by decide +kernel
theorem d_Mo_mayBeOpen_154 : decode c_Mo_mayBeOpen 154 = .ok (.laload, 1) := by decide +kernel
theorem d_Mo_mayBeOpen_155 : decode c_Mo_mayBeOpen 155 = .ok (.goto 10, 3) := by decide +kernel
theorem d_Mo_mayBeOpen_158 : decode c_Mo_mayBeOpen 158 = .ok (.aload_n 0, 1) := by decide +kernel
theorem d_Mo_mayBeOpen_159 : decode c_Mo_mayBeOpen 159 = .ok (.getfield 28, 3) := by decide +kernel
theorem d_Mo_mayBeOpen_162 : decode c_Mo_mayBeOpen 162 = .ok (.iload 6, 2) := by decide +kernel
theorem d_Mo_mayBeOpen_164 : decode c_Mo_mayBeOpen 164 = .ok (.laload, 1) := by decide +kernel
theorem d_Mo_mayBeOpen_165 : decode c_Mo_mayBeOpen 165 = .ok (.lstore 9, 2) := by decide +kernel
theorem d_Mo_mayBeOpen_167 : decode c_Mo_mayBeOpen 167 = .ok (.iload_n 1, 1) := by decide +kernel
theorem d_Mo_mayBeOpen_168 : decode c_Mo_mayBeOpen 168 = .ok (.iload 6, 2) := by decide +kernel
theorem d_Mo_mayBeOpen_170 : decode c_Mo_mayBeOpen 170 = .ok (.invokestatic 105, 3) := by decide +kernel
theorem d_Mo_mayBeOpen_173 : decode c_Mo_mayBeOpen 173 = .ok (.ifCond .eq 16, 3) := by decide +kernel
theorem d_Mo_mayBeOpen_176 : decode c_Mo_mayBeOpen 176 = .ok (.lload 7, 2) := by decide +kernel
theorem d_Mo_mayBeOpen_178 : decode c_Mo_mayBeOpen 178 = .ok (.lload 9, 2) := by decide +kernel
theorem d_Mo_mayBeOpen_180 : decode c_Mo_mayBeOpen 180 = .ok (.lload 9, 2) := by decide +kernel
theorem d_Mo_mayBeOpen_182 : decode c_Mo_mayBeOpen 182 = .ok (.lmul, 1) := by decide +kernel
theorem d_Mo_mayBeOpen_183 : decode c_Mo_mayBeOpen 183 = .ok (.lcmp, 1) := by decide +kernel
theorem d_Mo_mayBeOpen_184 : decode c_Mo_mayBeOpen 184 = .ok (.ifCond .ge 5, 3) := by decide +kernel
theorem d_Mo_mayBeOpen_187 : decode c_Mo_mayBeOpen 187 = .ok (.iconst 0, 1) := by decide +kernel
theorem d_Mo_mayBeOpen_188 : decode c_Mo_mayBeOpen 188 = .ok (.ireturn, 1) := by decide +kernel
theorem d_Mo_mayBeOpen_189 : decode c_Mo_mayBeOpen 189 = .ok (.iinc 6 1, 3) := by decide +kernel
theorem d_Mo_mayBeOpen_192 : decode c_Mo_mayBeOpen 192 = .ok (.goto (-134), 3) := by decide +kernel
theorem d_Mo_mayBeOpen_195 : decode c_Mo_mayBeOpen 195 = .ok (.iinc 5 1, 3) := by decide +kernel
theorem d_Mo_mayBeOpen_198 : decode c_Mo_mayBeOpen 198 = .ok (.goto (-193), 3) := by decide +kernel
theorem d_Mo_mayBeOpen_201 : decode c_Mo_mayBeOpen 201 = .ok (.lload_n 3, 1) := by decide +kernel
theorem d_Mo_mayBeOpen_202 : decode c_Mo_mayBeOpen 202 = .ok (.aload_n 0, 1) := by decide +kernel
theorem d_Mo_mayBeOpen_203 : decode c_Mo_mayBeOpen 203 = .ok (.getfield 40, 3) := by decide +kernel
theorem d_Mo_mayBeOpen_206 : decode c_Mo_mayBeOpen 206 = .ok (.lcmp, 1) := by decide +kernel
theorem d_Mo_mayBeOpen_207 : decode c_Mo_mayBeOpen 207 = .ok (.ifCond .gt 7, 3) := by decide +kernel
theorem d_Mo_mayBeOpen_210 : decode c_Mo_mayBeOpen 210 = .ok (.iconst 1, 1) := by decide +kernel
theorem d_Mo_mayBeOpen_211 : decode c_Mo_mayBeOpen 211 = .ok (.goto 4, 3) := by decide +kernel
theorem d_Mo_mayBeOpen_214 : decode c_Mo_mayBeOpen 214 = .ok (.iconst 0, 1) := by decide +kernel
theorem d_Mo_mayBeOpen_215 : decode c_Mo_mayBeOpen 215 = .ok (.ireturn, 1) := by decide +kernel
theorem d_Mo_askFor_0 : decode c_Mo_askFor 0 = .ok (.iconst 0, 1) := by decide +kernel
theorem d_Mo_askFor_1 : decode c_Mo_askFor 1 = .ok (.istore_n 3, 1) := by decide +kernel
theorem d_Mo_askFor_2 : decode c_Mo_askFor 2 = .ok (.iload_n 3, 1) := by decide +kernel
theorem d_Mo_askFor_3 : decode c_Mo_askFor 3 = .ok (.bipush 6, 2) := by decide +kernel
theorem d_Mo_askFor_5 : decode c_Mo_askFor 5 = .ok (.if_icmp .ge 89, 3) := by decide +kernel
theorem d_Mo_askFor_8 : decode c_Mo_askFor 8 = .ok (.iload_n 3, 1) := by decide +kernel
theorem d_Mo_askFor_9 : decode c_Mo_askFor 9 = .ok (.aload_n 0, 1) := by decide +kernel
theorem d_Mo_askFor_10 : decode c_Mo_askFor 10 = .ok (.getfield 73, 3) := by decide +kernel
theorem d_Mo_askFor_13 : decode c_Mo_askFor 13 = .ok (.if_icmp .ge 15, 3) := by decide +kernel
theorem d_Mo_askFor_16 : decode c_Mo_askFor 16 = .ok (.iload_n 1, 1) := by decide +kernel
theorem d_Mo_askFor_17 : decode c_Mo_askFor 17 = .ok (.iload_n 3, 1) := by decide +kernel
theorem d_Mo_askFor_18 : decode c_Mo_askFor 18 = .ok (.invokestatic 105, 3) := by decide +kernel
theorem d_Mo_askFor_21 : decode c_Mo_askFor 21 = .ok (.ifCond .eq 7, 3) := by decide +kernel
theorem d_Mo_askFor_24 : decode c_Mo_askFor 24 = .ok (.iconst 1, 1) := by decide +kernel
theorem d_Mo_askFor_25 : decode c_Mo_askFor 25 = .ok (.goto 4, 3) := by decide +kernel
theorem d_Mo_askFor_28 : decode c_Mo_askFor 28 = .ok (.iconst 0, 1) := by decide +kernel
theorem d_Mo_askFor_29 : decode c_Mo_askFor 29 = .ok (.istore 4, 2) := by decide +kernel
theorem d_Mo_askFor_31 : decode c_Mo_askFor 31 = .ok (.aload_n 0, 1) := by decide +kernel
theorem d_Mo_askFor_32 : decode c_Mo_askFor 32 = .ok (.getfield 54, 3) := by decide +kernel
theorem d_Mo_askFor_35 : decode c_Mo_askFor 35 = .ok (.iload_n 3, 1) := by decide +kernel
theorem d_Mo_askFor_36 : decode c_Mo_askFor 36 = .ok (.iload 4, 2) := by decide +kernel
theorem d_Mo_askFor_38 : decode c_Mo_askFor 38 = .ok (.ifCond .eq 26, 3) := by decide +kernel
theorem d_Mo_askFor_41 : decode c_Mo_askFor 41 = .ok (.aload_n 0, 1) := by decide +kernel
theorem d_Mo_askFor_42 : decode c_Mo_askFor 42 = .ok (.getfield 7, 3) := by decide +kernel
theorem d_Mo_askFor_45 : decode c_Mo_askFor 45 = .ok (.iload_n 3, 1) := by decide +kernel
theorem d_Mo_askFor_46 : decode c_Mo_askFor 46 = .ok (.laload, 1) := by decide +kernel
theorem d_Mo_askFor_47 : decode c_Mo_askFor 47 = .ok (.iload_n 2, 1) := by decide +kernel
theorem d_Mo_askFor_48 : decode c_Mo_askFor 48 = .ok (.i2l, 1) := by decide +kernel
theorem d_Mo_askFor_49 : decode c_Mo_askFor 49 = .ok (.aload_n 0, 1) := by decide +kernel
theorem d_Mo_askFor_50 : decode c_Mo_askFor 50 = .ok (.getfield 7, 3) := by decide +kernel
theorem d_Mo_askFor_53 : decode c_Mo_askFor 53 = .ok (.iload_n 3, 1) := by decide +kernel
theorem d_Mo_askFor_54 : decode c_Mo_askFor 54 = .ok (.laload, 1) := by decide +kernel
theorem d_Mo_askFor_55 : decode c_Mo_askFor 55 = .ok (.ldc2_w 109, 3) := by decide +kernel
theorem d_Mo_askFor_58 : decode c_Mo_askFor 58 = .ok (.ldiv, 1) := by decide +kernel
theorem d_Mo_askFor_59 : decode c_Mo_askFor 59 = .ok (.lmul, 1) := by decide +kernel
theorem d_Mo_askFor_60 : decode c_Mo_askFor 60 = .ok (.ladd, 1) := by decide +kernel
theorem d_Mo_askFor_61 : decode c_Mo_askFor 61 = .ok (.goto 4, 3) := by decide +kernel
theorem d_Mo_askFor_64 : decode c_Mo_askFor 64 = .ok (.lconst 0, 1) := by decide +kernel
theorem d_Mo_askFor_65 : decode c_Mo_askFor 65 = .ok (.lastore, 1) := by decide +kernel
theorem d_Mo_askFor_66 : decode c_Mo_askFor 66 = .ok (.aload_n 0, 1) := by decide +kernel
theorem d_Mo_askFor_67 : decode c_Mo_askFor 67 = .ok (.getfield 51, 3) := by decide +kernel
theorem d_Mo_askFor_70 : decode c_Mo_askFor 70 = .ok (.iload_n 3, 1) := by decide +kernel
theorem d_Mo_askFor_71 : decode c_Mo_askFor 71 = .ok (.aload_n 0, 1) := by decide +kernel
theorem d_Mo_askFor_72 : decode c_Mo_askFor 72 = .ok (.getfield 54, 3) := by decide +kernel
theorem d_Mo_askFor_75 : decode c_Mo_askFor 75 = .ok (.iload_n 3, 1) := by decide +kernel
theorem d_Mo_askFor_76 : decode c_Mo_askFor 76 = .ok (.laload, 1) := by decide +kernel
theorem d_Mo_askFor_77 : decode c_Mo_askFor 77 = .ok (.lconst 0, 1) := by decide +kernel
theorem d_Mo_askFor_78 : decode c_Mo_askFor 78 = .ok (.lcmp, 1) := by decide +kernel
theorem d_Mo_askFor_79 : decode c_Mo_askFor 79 = .ok (.ifCond .le 7, 3) := by decide +kernel
theorem d_Mo_askFor_82 : decode c_Mo_askFor 82 = .ok (.iconst 0, 1) := by decide +kernel
theorem d_Mo_askFor_83 : decode c_Mo_askFor 83 = .ok (.goto 4, 3) := by decide +kernel
theorem d_Mo_askFor_86 : decode c_Mo_askFor 86 = .ok (.iconst (-1), 1) := by decide +kernel
theorem d_Mo_askFor_87 : decode c_Mo_askFor 87 = .ok (.iastore, 1) := by decide +kernel
theorem d_Mo_askFor_88 : decode c_Mo_askFor 88 = .ok (.iinc 3 1, 3) := by decide +kernel
theorem d_Mo_askFor_91 : decode c_Mo_askFor 91 = .ok (.goto (-89), 3) := by decide +kernel
theorem d_Mo_askFor_94 : decode c_Mo_askFor 94 = .ok (.return_, 1) := by decide +kernel
theorem d_Mo_placesOf_0 : decode c_Mo_placesOf 0 = .ok (.iconst 0, 1) := by decide +kernel
theorem d_Mo_placesOf_1 : decode c_Mo_placesOf 1 = .ok (.istore_n 2, 1) := by decide +kernel
theorem d_Mo_placesOf_2 : decode c_Mo_placesOf 2 = .ok (.iconst 0, 1) := by decide +kernel
theorem d_Mo_placesOf_3 : decode c_Mo_placesOf 3 = .ok (.istore_n 3, 1) := by decide +kernel
theorem d_Mo_placesOf_4 : decode c_Mo_placesOf 4 = .ok (.iload_n 3, 1) := by decide +kernel
theorem d_Mo_placesOf_5 : decode c_Mo_placesOf 5 = .ok (.aload_n 0, 1) := by decide +kernel
theorem d_Mo_placesOf_6 : decode c_Mo_placesOf 6 = .ok (.getfield 73, 3) := by decide +kernel
theorem d_Mo_placesOf_9 : decode c_Mo_placesOf 9 = .ok (.if_icmp .ge 27, 3) := by decide +kernel
theorem d_Mo_placesOf_12 : decode c_Mo_placesOf 12 = .ok (.aload_n 1, 1) := by decide +kernel
theorem d_Mo_placesOf_13 : decode c_Mo_placesOf 13 = .ok (.iload_n 3, 1) := by decide +kernel
theorem d_Mo_placesOf_14 : decode c_Mo_placesOf 14 = .ok (.iaload, 1) := by decide +kernel
theorem d_Mo_placesOf_15 : decode c_Mo_placesOf 15 = .ok (.ifCond .lt 13, 3) := by decide +kernel
theorem d_Mo_placesOf_18 : decode c_Mo_placesOf 18 = .ok (.iload_n 2, 1) := by decide +kernel
theorem d_Mo_placesOf_19 : decode c_Mo_placesOf 19 = .ok (.iconst 1, 1) := by decide +kernel
theorem d_Mo_placesOf_20 : decode c_Mo_placesOf 20 = .ok (.aload_n 1, 1) := by decide +kernel
theorem d_Mo_placesOf_21 : decode c_Mo_placesOf 21 = .ok (.iload_n 3, 1) := by decide +kernel
theorem d_Mo_placesOf_22 : decode c_Mo_placesOf 22 = .ok (.iaload, 1) := by decide +kernel
theorem d_Mo_placesOf_23 : decode c_Mo_placesOf 23 = .ok (.ishl, 1) := by decide +kernel
theorem d_Mo_placesOf_24 : decode c_Mo_placesOf 24 = .ok (.ior, 1) := by decide +kernel
theorem d_Mo_placesOf_25 : decode c_Mo_placesOf 25 = .ok (.goto 4, 3) := by decide +kernel
theorem d_Mo_placesOf_28 : decode c_Mo_placesOf 28 = .ok (.iload_n 2, 1) := by decide +kernel
theorem d_Mo_placesOf_29 : decode c_Mo_placesOf 29 = .ok (.istore_n 2, 1) := by decide +kernel
theorem d_Mo_placesOf_30 : decode c_Mo_placesOf 30 = .ok (.iinc 3 1, 3) := by decide +kernel
theorem d_Mo_placesOf_33 : decode c_Mo_placesOf 33 = .ok (.goto (-29), 3) := by decide +kernel
theorem d_Mo_placesOf_36 : decode c_Mo_placesOf 36 = .ok (.iload_n 2, 1) := by decide +kernel
theorem d_Mo_placesOf_37 : decode c_Mo_placesOf 37 = .ok (.ireturn, 1) := by decide +kernel
theorem d_Mo_fits_0 : decode c_Mo_fits 0 = .ok (.iconst 0, 1) := by decide +kernel
theorem d_Mo_fits_1 : decode c_Mo_fits 1 = .ok (.istore_n 3, 1) := by decide +kernel
theorem d_Mo_fits_2 : decode c_Mo_fits 2 = .ok (.iload_n 3, 1) := by decide +kernel
theorem d_Mo_fits_3 : decode c_Mo_fits 3 = .ok (.aload_n 0, 1) := by decide +kernel
theorem d_Mo_fits_4 : decode c_Mo_fits 4 = .ok (.getfield 77, 3) := by decide +kernel
theorem d_Mo_fits_7 : decode c_Mo_fits 7 = .ok (.if_icmp .ge 81, 3) := by decide +kernel
theorem d_Mo_fits_10 : decode c_Mo_fits 10 = .ok (.lconst 0, 1) := by decide +kernel
theorem d_Mo_fits_11 : decode c_Mo_fits 11 = .ok (.lstore 4, 2) := by decide +kernel
theorem d_Mo_fits_13 : decode c_Mo_fits 13 = .ok (.iconst 0, 1) := by decide +kernel
theorem d_Mo_fits_14 : decode c_Mo_fits 14 = .ok (.istore 6, 2) := by decide +kernel
theorem d_Mo_fits_16 : decode c_Mo_fits 16 = .ok (.iload 6, 2) := by decide +kernel
theorem d_Mo_fits_18 : decode c_Mo_fits 18 = .ok (.aload_n 0, 1) := by decide +kernel
theorem d_Mo_fits_19 : decode c_Mo_fits 19 = .ok (.getfield 73, 3) := by decide +kernel
theorem d_Mo_fits_22 : decode c_Mo_fits 22 = .ok (.if_icmp .ge 41, 3) := by decide +kernel
theorem d_Mo_fits_25 : decode c_Mo_fits 25 = .ok (.aload_n 1, 1) := by decide +kernel
theorem d_Mo_fits_26 : decode c_Mo_fits 26 = .ok (.iload 6, 2) := by decide +kernel
theorem d_Mo_fits_28 : decode c_Mo_fits 28 = .ok (.iaload, 1) := by decide +kernel
theorem d_Mo_fits_29 : decode c_Mo_fits 29 = .ok (.iload_n 3, 1) := by decide +kernel
theorem d_Mo_fits_30 : decode c_Mo_fits 30 = .ok (.if_icmp .ne 27, 3) := by decide +kernel
theorem d_Mo_fits_33 : decode c_Mo_fits 33 = .ok (.lload 4, 2) := by decide +kernel
theorem d_Mo_fits_35 : decode c_Mo_fits 35 = .ok (.aload_n 0, 1) := by decide +kernel
theorem d_Mo_fits_36 : decode c_Mo_fits 36 = .ok (.getfield 54, 3) := by decide +kernel
theorem d_Mo_fits_39 : decode c_Mo_fits 39 = .ok (.iload 6, 2) := by decide +kernel
theorem d_Mo_fits_41 : decode c_Mo_fits 41 = .ok (.laload, 1) := by decide +kernel
theorem d_Mo_fits_42 : decode c_Mo_fits 42 = .ok (.ladd, 1) := by decide +kernel
theorem d_Mo_fits_43 : decode c_Mo_fits 43 = .ok (.lstore 4, 2) := by decide +kernel
theorem d_Mo_fits_45 : decode c_Mo_fits 45 = .ok (.aload_n 0, 1) := by decide +kernel
theorem d_Mo_fits_46 : decode c_Mo_fits 46 = .ok (.iload 6, 2) := by decide +kernel
theorem d_Mo_fits_48 : decode c_Mo_fits 48 = .ok (.iload_n 3, 1) := by decide +kernel
theorem d_Mo_fits_49 : decode c_Mo_fits 49 = .ok (.invokevirtual 111, 3) := by decide +kernel
theorem d_Mo_fits_52 : decode c_Mo_fits 52 = .ok (.ifCond .ne 5, 3) := by decide +kernel
theorem d_Mo_fits_55 : decode c_Mo_fits 55 = .ok (.iconst 0, 1) := by decide +kernel
theorem d_Mo_fits_56 : decode c_Mo_fits 56 = .ok (.ireturn, 1) := by decide +kernel
theorem d_Mo_fits_57 : decode c_Mo_fits 57 = .ok (.iinc 6 1, 3) := by decide +kernel
theorem d_Mo_fits_60 : decode c_Mo_fits 60 = .ok (.goto (-44), 3) := by decide +kernel
theorem d_Mo_fits_63 : decode c_Mo_fits 63 = .ok (.iload_n 3, 1) := by decide +kernel
theorem d_Mo_fits_64 : decode c_Mo_fits 64 = .ok (.iload_n 2, 1) := by decide +kernel
theorem d_Mo_fits_65 : decode c_Mo_fits 65 = .ok (.if_icmp .eq 17, 3) := by decide +kernel
theorem d_Mo_fits_68 : decode c_Mo_fits 68 = .ok (.lload 4, 2) := by decide +kernel
theorem d_Mo_fits_70 : decode c_Mo_fits 70 = .ok (.aload_n 0, 1) := by decide +kernel
theorem d_Mo_fits_71 : decode c_Mo_fits 71 = .ok (.getfield 25, 3) := by decide +kernel
theorem d_Mo_fits_74 : decode c_Mo_fits 74 = .ok (.iload_n 3, 1) := by decide +kernel
theorem d_Mo_fits_75 : decode c_Mo_fits 75 = .ok (.laload, 1) := by decide +kernel
theorem d_Mo_fits_76 : decode c_Mo_fits 76 = .ok (.lcmp, 1) := by decide +kernel
theorem d_Mo_fits_77 : decode c_Mo_fits 77 = .ok (.ifCond .le 5, 3) := by decide +kernel
theorem d_Mo_fits_80 : decode c_Mo_fits 80 = .ok (.iconst 0, 1) := by decide +kernel
theorem d_Mo_fits_81 : decode c_Mo_fits 81 = .ok (.ireturn, 1) := by decide +kernel
theorem d_Mo_fits_82 : decode c_Mo_fits 82 = .ok (.iinc 3 1, 3) := by decide +kernel
theorem d_Mo_fits_85 : decode c_Mo_fits 85 = .ok (.goto (-83), 3) := by decide +kernel
theorem d_Mo_fits_88 : decode c_Mo_fits 88 = .ok (.iconst 1, 1) := by decide +kernel
theorem d_Mo_fits_89 : decode c_Mo_fits 89 = .ok (.ireturn, 1) := by decide +kernel
theorem d_Mo_isPlan_0 : decode c_Mo_isPlan 0 = .ok (.iconst 0, 1) := by decide +kernel
theorem d_Mo_isPlan_1 : decode c_Mo_isPlan 1 = .ok (.istore_n 3, 1) := by decide +kernel
theorem d_Mo_isPlan_2 : decode c_Mo_isPlan 2 = .ok (.iload_n 3, 1) := by decide +kernel
theorem d_Mo_isPlan_3 : decode c_Mo_isPlan 3 = .ok (.aload_n 0, 1) := by decide +kernel
theorem d_Mo_isPlan_4 : decode c_Mo_isPlan 4 = .ok (.getfield 73, 3) := by decide +kernel
theorem d_Mo_isPlan_7 : decode c_Mo_isPlan 7 = .ok (.if_icmp .ge 41, 3) := by decide +kernel
theorem d_Mo_isPlan_10 : decode c_Mo_isPlan 10 = .ok (.aload_n 0, 1) := by decide +kernel
theorem d_Mo_isPlan_11 : decode c_Mo_isPlan 11 = .ok (.getfield 54, 3) := by decide +kernel
theorem d_Mo_isPlan_14 : decode c_Mo_isPlan 14 = .ok (.iload_n 3, 1) := by decide +kernel
theorem d_Mo_isPlan_15 : decode c_Mo_isPlan 15 = .ok (.laload, 1) := by decide +kernel
theorem d_Mo_isPlan_16 : decode c_Mo_isPlan 16 = .ok (.lconst 0, 1) := by decide +kernel
theorem d_Mo_isPlan_17 : decode c_Mo_isPlan 17 = .ok (.lcmp, 1) := by decide +kernel
theorem d_Mo_isPlan_18 : decode c_Mo_isPlan 18 = .ok (.ifCond .le 7, 3) := by decide +kernel
theorem d_Mo_isPlan_21 : decode c_Mo_isPlan 21 = .ok (.iconst 1, 1) := by decide +kernel
theorem d_Mo_isPlan_22 : decode c_Mo_isPlan 22 = .ok (.goto 4, 3) := by decide +kernel
theorem d_Mo_isPlan_25 : decode c_Mo_isPlan 25 = .ok (.iconst 0, 1) := by decide +kernel
theorem d_Mo_isPlan_26 : decode c_Mo_isPlan 26 = .ok (.aload_n 1, 1) := by decide +kernel
theorem d_Mo_isPlan_27 : decode c_Mo_isPlan 27 = .ok (.iload_n 3, 1) := by decide +kernel
theorem d_Mo_isPlan_28 : decode c_Mo_isPlan 28 = .ok (.iaload, 1) := by decide +kernel
theorem d_Mo_isPlan_29 : decode c_Mo_isPlan 29 = .ok (.ifCond .lt 7, 3) := by decide +kernel
theorem d_Mo_isPlan_32 : decode c_Mo_isPlan 32 = .ok (.iconst 1, 1) := by decide +kernel
theorem d_Mo_isPlan_33 : decode c_Mo_isPlan 33 = .ok (.goto 4, 3) := by decide +kernel
theorem d_Mo_isPlan_36 : decode c_Mo_isPlan 36 = .ok (.iconst 0, 1) := by decide +kernel
theorem d_Mo_isPlan_37 : decode c_Mo_isPlan 37 = .ok (.if_icmp .eq 5, 3) := by decide +kernel
theorem d_Mo_isPlan_40 : decode c_Mo_isPlan 40 = .ok (.iconst 0, 1) := by decide +kernel
theorem d_Mo_isPlan_41 : decode c_Mo_isPlan 41 = .ok (.ireturn, 1) := by decide +kernel
theorem d_Mo_isPlan_42 : decode c_Mo_isPlan 42 = .ok (.iinc 3 1, 3) := by decide +kernel
theorem d_Mo_isPlan_45 : decode c_Mo_isPlan 45 = .ok (.goto (-43), 3) := by decide +kernel
theorem d_Mo_isPlan_48 : decode c_Mo_isPlan 48 = .ok (.aload_n 0, 1) := by decide +kernel
theorem d_Mo_isPlan_49 : decode c_Mo_isPlan 49 = .ok (.aload_n 1, 1) := by decide +kernel
theorem d_Mo_isPlan_50 : decode c_Mo_isPlan 50 = .ok (.iload_n 2, 1) := by decide +kernel
theorem d_Mo_isPlan_51 : decode c_Mo_isPlan 51 = .ok (.invokevirtual 114, 3) := by decide +kernel
theorem d_Mo_isPlan_54 : decode c_Mo_isPlan 54 = .ok (.ifCond .eq 20, 3) := by decide +kernel
theorem d_Mo_isPlan_57 : decode c_Mo_isPlan 57 = .ok (.aload_n 0, 1) := by decide +kernel
theorem d_Mo_isPlan_58 : decode c_Mo_isPlan 58 = .ok (.aload_n 0, 1) := by decide +kernel
theorem d_Mo_isPlan_59 : decode c_Mo_isPlan 59 = .ok (.aload_n 1, 1) := by decide +kernel
theorem d_Mo_isPlan_60 : decode c_Mo_isPlan 60 = .ok (.invokevirtual 118, 3) := by decide +kernel
theorem d_Mo_isPlan_63 : decode c_Mo_isPlan 63 = .ok (.iload_n 2, 1) := by decide +kernel
theorem d_Mo_isPlan_64 : decode c_Mo_isPlan 64 = .ok (.invokevirtual 122, 3) := by decide +kernel
theorem d_Mo_isPlan_67 : decode c_Mo_isPlan 67 = .ok (.ifCond .eq 7, 3) := by decide +kernel
theorem d_Mo_isPlan_70 : decode c_Mo_isPlan 70 = .ok (.iconst 1, 1) := by decide +kernel
theorem d_Mo_isPlan_71 : decode c_Mo_isPlan 71 = .ok (.goto 4, 3) := by decide +kernel
theorem d_Mo_isPlan_74 : decode c_Mo_isPlan 74 = .ok (.iconst 0, 1) := by decide +kernel
theorem d_Mo_isPlan_75 : decode c_Mo_isPlan 75 = .ok (.ireturn, 1) := by decide +kernel
theorem d_Mo_sumOf_0 : decode c_Mo_sumOf 0 = .ok (.lconst 0, 1) := by decide +kernel
theorem d_Mo_sumOf_1 : decode c_Mo_sumOf 1 = .ok (.lstore_n 2, 1) := by decide +kernel
theorem d_Mo_sumOf_2 : decode c_Mo_sumOf 2 = .ok (.iconst 0, 1) := by decide +kernel
theorem d_Mo_sumOf_3 : decode c_Mo_sumOf 3 = .ok (.istore 4, 2) := by decide +kernel
theorem d_Mo_sumOf_5 : decode c_Mo_sumOf 5 = .ok (.iload 4, 2) := by decide +kernel
theorem d_Mo_sumOf_7 : decode c_Mo_sumOf 7 = .ok (.aload_n 0, 1) := by decide +kernel
theorem d_Mo_sumOf_8 : decode c_Mo_sumOf 8 = .ok (.getfield 73, 3) := by decide +kernel
theorem d_Mo_sumOf_11 : decode c_Mo_sumOf 11 = .ok (.if_icmp .ge 45, 3) := by decide +kernel
theorem d_Mo_sumOf_14 : decode c_Mo_sumOf 14 = .ok (.lload_n 2, 1) := by decide +kernel
theorem d_Mo_sumOf_15 : decode c_Mo_sumOf 15 = .ok (.aload_n 1, 1) := by decide +kernel
theorem d_Mo_sumOf_16 : decode c_Mo_sumOf 16 = .ok (.iload 4, 2) := by decide +kernel
theorem d_Mo_sumOf_18 : decode c_Mo_sumOf 18 = .ok (.iaload, 1) := by decide +kernel
theorem d_Mo_sumOf_19 : decode c_Mo_sumOf 19 = .ok (.ifCond .lt 28, 3) := by decide +kernel
theorem d_Mo_sumOf_22 : decode c_Mo_sumOf 22 = .ok (.aload_n 0, 1) := by decide +kernel
theorem d_Mo_sumOf_23 : decode c_Mo_sumOf 23 = .ok (.getfield 54, 3) := by decide +kernel
theorem d_Mo_sumOf_26 : decode c_Mo_sumOf 26 = .ok (.iload 4, 2) := by decide +kernel
theorem d_Mo_sumOf_28 : decode c_Mo_sumOf 28 = .ok (.laload, 1) := by decide +kernel
theorem d_Mo_sumOf_29 : decode c_Mo_sumOf 29 = .ok (.aload_n 0, 1) := by decide +kernel
theorem d_Mo_sumOf_30 : decode c_Mo_sumOf 30 = .ok (.getfield 35, 3) := by decide +kernel
theorem d_Mo_sumOf_33 : decode c_Mo_sumOf 33 = .ok (.iconst 5, 1) := by decide +kernel
theorem d_Mo_sumOf_34 : decode c_Mo_sumOf 34 = .ok (.iload 4, 2) := by decide +kernel
theorem d_Mo_sumOf_36 : decode c_Mo_sumOf 36 = .ok (.imul, 1) := by decide +kernel
theorem d_Mo_sumOf_37 : decode c_Mo_sumOf 37 = .ok (.aload_n 1, 1) := by decide +kernel
theorem d_Mo_sumOf_38 : decode c_Mo_sumOf 38 = .ok (.iload 4, 2) := by decide +kernel
theorem d_Mo_sumOf_40 : decode c_Mo_sumOf 40 = .ok (.iaload, 1) := by decide +kernel
theorem d_Mo_sumOf_41 : decode c_Mo_sumOf 41 = .ok (.iadd, 1) := by decide +kernel
theorem d_Mo_sumOf_42 : decode c_Mo_sumOf 42 = .ok (.laload, 1) := by decide +kernel
theorem d_Mo_sumOf_43 : decode c_Mo_sumOf 43 = .ok (.lmul, 1) := by decide +kernel
theorem d_Mo_sumOf_44 : decode c_Mo_sumOf 44 = .ok (.goto 4, 3) := by decide +kernel
theorem d_Mo_sumOf_47 : decode c_Mo_sumOf 47 = .ok (.lconst 0, 1) := by decide +kernel
theorem d_Mo_sumOf_48 : decode c_Mo_sumOf 48 = .ok (.ladd, 1) := by decide +kernel
theorem d_Mo_sumOf_49 : decode c_Mo_sumOf 49 = .ok (.lstore_n 2, 1) := by decide +kernel
theorem d_Mo_sumOf_50 : decode c_Mo_sumOf 50 = .ok (.iinc 4 1, 3) := by decide +kernel
theorem d_Mo_sumOf_53 : decode c_Mo_sumOf 53 = .ok (.goto (-48), 3) := by decide +kernel
theorem d_Mo_sumOf_56 : decode c_Mo_sumOf 56 = .ok (.lload_n 2, 1) := by decide +kernel
theorem d_Mo_sumOf_57 : decode c_Mo_sumOf 57 = .ok (.lreturn, 1) := by decide +kernel
theorem d_Mo_next_0 : decode c_Mo_next 0 = .ok (.aload_n 0, 1) := by decide +kernel
theorem d_Mo_next_1 : decode c_Mo_next 1 = .ok (.getfield 73, 3) := by decide +kernel
theorem d_Mo_next_4 : decode c_Mo_next 4 = .ok (.iconst 1, 1) := by decide +kernel
theorem d_Mo_next_5 : decode c_Mo_next 5 = .ok (.isub, 1) := by decide +kernel
theorem d_Mo_next_6 : decode c_Mo_next 6 = .ok (.istore_n 1, 1) := by decide +kernel
theorem d_Mo_next_7 : decode c_Mo_next 7 = .ok (.iload_n 1, 1) := by decide +kernel
theorem d_Mo_next_8 : decode c_Mo_next 8 = .ok (.ifCond .lt 52, 3) := by decide +kernel
theorem d_Mo_next_11 : decode c_Mo_next 11 = .ok (.aload_n 0, 1) := by decide +kernel
theorem d_Mo_next_12 : decode c_Mo_next 12 = .ok (.getfield 51, 3) := by decide +kernel
theorem d_Mo_next_15 : decode c_Mo_next 15 = .ok (.iload_n 1, 1) := by decide +kernel
theorem d_Mo_next_16 : decode c_Mo_next 16 = .ok (.iaload, 1) := by decide +kernel
theorem d_Mo_next_17 : decode c_Mo_next 17 = .ok (.ifCond .lt 37, 3) := by decide +kernel
theorem d_Mo_next_20 : decode c_Mo_next 20 = .ok (.aload_n 0, 1) := by decide +kernel
theorem d_Mo_next_21 : decode c_Mo_next 21 = .ok (.getfield 51, 3) := by decide +kernel
theorem d_Mo_next_24 : decode c_Mo_next 24 = .ok (.iload_n 1, 1) := by decide +kernel
theorem d_Mo_next_25 : decode c_Mo_next 25 = .ok (.iaload, 1) := by decide +kernel
theorem d_Mo_next_26 : decode c_Mo_next 26 = .ok (.aload_n 0, 1) := by decide +kernel
theorem d_Mo_next_27 : decode c_Mo_next 27 = .ok (.getfield 77, 3) := by decide +kernel
theorem d_Mo_next_30 : decode c_Mo_next 30 = .ok (.iconst 1, 1) := by decide +kernel
theorem d_Mo_next_31 : decode c_Mo_next 31 = .ok (.isub, 1) := by decide +kernel
theorem d_Mo_next_32 : decode c_Mo_next 32 = .ok (.if_icmp .ge 15, 3) := by decide +kernel
theorem d_Mo_next_35 : decode c_Mo_next 35 = .ok (.aload_n 0, 1) := by decide +kernel
theorem d_Mo_next_36 : decode c_Mo_next 36 = .ok (.getfield 51, 3) := by decide +kernel
theorem d_Mo_next_39 : decode c_Mo_next 39 = .ok (.iload_n 1, 1) := by decide +kernel
theorem d_Mo_next_40 : decode c_Mo_next 40 = .ok (.dup2, 1) := by decide +kernel
theorem d_Mo_next_41 : decode c_Mo_next 41 = .ok (.iaload, 1) := by decide +kernel
theorem d_Mo_next_42 : decode c_Mo_next 42 = .ok (.iconst 1, 1) := by decide +kernel
theorem d_Mo_next_43 : decode c_Mo_next 43 = .ok (.iadd, 1) := by decide +kernel
theorem d_Mo_next_44 : decode c_Mo_next 44 = .ok (.iastore, 1) := by decide +kernel
theorem d_Mo_next_45 : decode c_Mo_next 45 = .ok (.iconst 1, 1) := by decide +kernel
theorem d_Mo_next_46 : decode c_Mo_next 46 = .ok (.ireturn, 1) := by decide +kernel
theorem d_Mo_next_47 : decode c_Mo_next 47 = .ok (.aload_n 0, 1) := by decide +kernel
theorem d_Mo_next_48 : decode c_Mo_next 48 = .ok (.getfield 51, 3) := by decide +kernel
theorem d_Mo_next_51 : decode c_Mo_next 51 = .ok (.iload_n 1, 1) := by decide +kernel
theorem d_Mo_next_52 : decode c_Mo_next 52 = .ok (.iconst 0, 1) := by decide +kernel
theorem d_Mo_next_53 : decode c_Mo_next 53 = .ok (.iastore, 1) := by decide +kernel
theorem d_Mo_next_54 : decode c_Mo_next 54 = .ok (.iinc 1 (-1), 3) := by decide +kernel
theorem d_Mo_next_57 : decode c_Mo_next 57 = .ok (.goto (-50), 3) := by decide +kernel
theorem d_Mo_next_60 : decode c_Mo_next 60 = .ok (.iconst 0, 1) := by decide +kernel
theorem d_Mo_next_61 : decode c_Mo_next 61 = .ok (.ireturn, 1) := by decide +kernel
theorem d_Mo_search_0 : decode c_Mo_search 0 = .ok (.ldc2_w 71, 3) := by decide +kernel
theorem d_Mo_search_3 : decode c_Mo_search 3 = .ok (.lstore_n 3, 1) := by decide +kernel
theorem d_Mo_search_4 : decode c_Mo_search 4 = .ok (.aload_n 0, 1) := by decide +kernel
theorem d_Mo_search_5 : decode c_Mo_search 5 = .ok (.getfield 77, 3) := by decide +kernel
theorem d_Mo_search_8 : decode c_Mo_search 8 = .ok (.ifCond .gt 10, 3) := by decide +kernel
theorem d_Mo_search_11 : decode c_Mo_search 11 = .ok (.aload_n 0, 1) := by decide +kernel
theorem d_Mo_search_12 : decode c_Mo_search 12 = .ok (.invokevirtual 125, 3) := by decide +kernel
theorem d_Mo_search_15 : decode c_Mo_search 15 = .ok (.ifCond .ne 7, 3) := by decide +kernel
theorem d_Mo_search_18 : decode c_Mo_search 18 = .ok (.iconst 1, 1) := by decide +kernel
theorem d_Mo_search_19 : decode c_Mo_search 19 = .ok (.goto 4, 3) := by decide +kernel
theorem d_Mo_search_22 : decode c_Mo_search 22 = .ok (.iconst 0, 1) := by decide +kernel
theorem d_Mo_search_23 : decode c_Mo_search 23 = .ok (.istore 5, 2) := by decide +kernel
theorem d_Mo_search_25 : decode c_Mo_search 25 = .ok (.iload 5, 2) := by decide +kernel
theorem d_Mo_search_27 : decode c_Mo_search 27 = .ok (.ifCond .eq 98, 3) := by decide +kernel
theorem d_Mo_search_30 : decode c_Mo_search 30 = .ok (.aload_n 0, 1) := by decide +kernel
theorem d_Mo_search_31 : decode c_Mo_search 31 = .ok (.aload_n 0, 1) := by decide +kernel
theorem d_Mo_search_32 : decode c_Mo_search 32 = .ok (.getfield 51, 3) := by decide +kernel
theorem d_Mo_search_35 : decode c_Mo_search 35 = .ok (.iload_n 1, 1) := by decide +kernel
theorem d_Mo_search_36 : decode c_Mo_search 36 = .ok (.invokevirtual 129, 3) := by decide +kernel
theorem d_Mo_search_39 : decode c_Mo_search 39 = .ok (.ifCond .eq 59, 3) := by decide +kernel
theorem d_Mo_search_42 : decode c_Mo_search 42 = .ok (.aload_n 0, 1) := by decide +kernel
theorem d_Mo_search_43 : decode c_Mo_search 43 = .ok (.aload_n 0, 1) := by decide +kernel
theorem d_Mo_search_44 : decode c_Mo_search 44 = .ok (.getfield 51, 3) := by decide +kernel
theorem d_Mo_search_47 : decode c_Mo_search 47 = .ok (.invokevirtual 132, 3) := by decide +kernel
theorem d_Mo_search_50 : decode c_Mo_search 50 = .ok (.lstore 6, 2) := by decide +kernel
theorem d_Mo_search_52 : decode c_Mo_search 52 = .ok (.lload_n 3, 1) := by decide +kernel
theorem d_Mo_search_53 : decode c_Mo_search 53 = .ok (.lconst 0, 1) := by decide +kernel
theorem d_Mo_search_54 : decode c_Mo_search 54 = .ok (.lcmp, 1) := by decide +kernel
theorem d_Mo_search_55 : decode c_Mo_search 55 = .ok (.ifCond .lt 10, 3) := by decide +kernel
theorem d_Mo_search_58 : decode c_Mo_search 58 = .ok (.lload 6, 2) := by decide +kernel
theorem d_Mo_search_60 : decode c_Mo_search 60 = .ok (.lload_n 3, 1) := by decide +kernel
theorem d_Mo_search_61 : decode c_Mo_search 61 = .ok (.lcmp, 1) := by decide +kernel
theorem d_Mo_search_62 : decode c_Mo_search 62 = .ok (.ifCond .ge 36, 3) := by decide +kernel
theorem d_Mo_search_65 : decode c_Mo_search 65 = .ok (.lload 6, 2) := by decide +kernel
theorem d_Mo_search_67 : decode c_Mo_search 67 = .ok (.lstore_n 3, 1) := by decide +kernel
theorem d_Mo_search_68 : decode c_Mo_search 68 = .ok (.iconst 0, 1) := by decide +kernel
theorem d_Mo_search_69 : decode c_Mo_search 69 = .ok (.istore 8, 2) := by decide +kernel
theorem d_Mo_search_71 : decode c_Mo_search 71 = .ok (.iload 8, 2) := by decide +kernel
theorem d_Mo_search_73 : decode c_Mo_search 73 = .ok (.bipush 6, 2) := by decide +kernel
theorem d_Mo_search_75 : decode c_Mo_search 75 = .ok (.if_icmp .ge 23, 3) := by decide +kernel
theorem d_Mo_search_78 : decode c_Mo_search 78 = .ok (.aload_n 0, 1) := by decide +kernel
theorem d_Mo_search_79 : decode c_Mo_search 79 = .ok (.getfield 57, 3) := by decide +kernel
theorem d_Mo_search_82 : decode c_Mo_search 82 = .ok (.iload 8, 2) := by decide +kernel
theorem d_Mo_search_84 : decode c_Mo_search 84 = .ok (.aload_n 0, 1) := by decide +kernel
theorem d_Mo_search_85 : decode c_Mo_search 85 = .ok (.getfield 51, 3) := by decide +kernel
theorem d_Mo_search_88 : decode c_Mo_search 88 = .ok (.iload 8, 2) := by decide +kernel
theorem d_Mo_search_90 : decode c_Mo_search 90 = .ok (.iaload, 1) := by decide +kernel
theorem d_Mo_search_91 : decode c_Mo_search 91 = .ok (.iastore, 1) := by decide +kernel
theorem d_Mo_search_92 : decode c_Mo_search 92 = .ok (.iinc 8 1, 3) := by decide +kernel
theorem d_Mo_search_95 : decode c_Mo_search 95 = .ok (.goto (-24), 3) := by decide +kernel
theorem d_Mo_search_98 : decode c_Mo_search 98 = .ok (.aload_n 0, 1) := by decide +kernel
theorem d_Mo_search_99 : decode c_Mo_search 99 = .ok (.invokevirtual 136, 3) := by decide +kernel
theorem d_Mo_search_102 : decode c_Mo_search 102 = .ok (.ifCond .eq 17, 3) := by decide +kernel
theorem d_Mo_search_105 : decode c_Mo_search 105 = .ok (.iload_n 2, 1) := by decide +kernel
theorem d_Mo_search_106 : decode c_Mo_search 106 = .ok (.ifCond .eq 9, 3) := by decide +kernel
theorem d_Mo_search_109 : decode c_Mo_search 109 = .ok (.lload_n 3, 1) := by decide +kernel
theorem d_Mo_search_110 : decode c_Mo_search 110 = .ok (.lconst 0, 1) := by decide +kernel
theorem d_Mo_search_111 : decode c_Mo_search 111 = .ok (.lcmp, 1) := by decide +kernel
theorem d_Mo_search_112 : decode c_Mo_search 112 = .ok (.ifCond .ge 7, 3) := by decide +kernel
theorem d_Mo_search_115 : decode c_Mo_search 115 = .ok (.iconst 1, 1) := by decide +kernel
theorem d_Mo_search_116 : decode c_Mo_search 116 = .ok (.goto 4, 3) := by decide +kernel
theorem d_Mo_search_119 : decode c_Mo_search 119 = .ok (.iconst 0, 1) := by decide +kernel
theorem d_Mo_search_120 : decode c_Mo_search 120 = .ok (.istore 5, 2) := by decide +kernel
theorem d_Mo_search_122 : decode c_Mo_search 122 = .ok (.goto (-97), 3) := by decide +kernel
theorem d_Mo_search_125 : decode c_Mo_search 125 = .ok (.lload_n 3, 1) := by decide +kernel
theorem d_Mo_search_126 : decode c_Mo_search 126 = .ok (.lreturn, 1) := by decide +kernel
theorem d_Mo_count_0 : decode c_Mo_count 0 = .ok (.iconst 0, 1) := by decide +kernel
theorem d_Mo_count_1 : decode c_Mo_count 1 = .ok (.istore_n 1, 1) := by decide +kernel
theorem d_Mo_count_2 : decode c_Mo_count 2 = .ok (.iconst 0, 1) := by decide +kernel
theorem d_Mo_count_3 : decode c_Mo_count 3 = .ok (.istore_n 2, 1) := by decide +kernel
theorem d_Mo_count_4 : decode c_Mo_count 4 = .ok (.iload_n 2, 1) := by decide +kernel
theorem d_Mo_count_5 : decode c_Mo_count 5 = .ok (.aload_n 0, 1) := by decide +kernel
theorem d_Mo_count_6 : decode c_Mo_count 6 = .ok (.getfield 73, 3) := by decide +kernel
theorem d_Mo_count_9 : decode c_Mo_count 9 = .ok (.if_icmp .ge 28, 3) := by decide +kernel
theorem d_Mo_count_12 : decode c_Mo_count 12 = .ok (.aload_n 0, 1) := by decide +kernel
theorem d_Mo_count_13 : decode c_Mo_count 13 = .ok (.getfield 54, 3) := by decide +kernel
theorem d_Mo_count_16 : decode c_Mo_count 16 = .ok (.iload_n 2, 1) := by decide +kernel
theorem d_Mo_count_17 : decode c_Mo_count 17 = .ok (.laload, 1) := by decide +kernel
theorem d_Mo_count_18 : decode c_Mo_count 18 = .ok (.lconst 0, 1) := by decide +kernel
theorem d_Mo_count_19 : decode c_Mo_count 19 = .ok (.lcmp, 1) := by decide +kernel
theorem d_Mo_count_20 : decode c_Mo_count 20 = .ok (.ifCond .le 9, 3) := by decide +kernel
theorem d_Mo_count_23 : decode c_Mo_count 23 = .ok (.iload_n 1, 1) := by decide +kernel
theorem d_Mo_count_24 : decode c_Mo_count 24 = .ok (.iconst 1, 1) := by decide +kernel
theorem d_Mo_count_25 : decode c_Mo_count 25 = .ok (.iadd, 1) := by decide +kernel
theorem d_Mo_count_26 : decode c_Mo_count 26 = .ok (.goto 4, 3) := by decide +kernel
theorem d_Mo_count_29 : decode c_Mo_count 29 = .ok (.iload_n 1, 1) := by decide +kernel
theorem d_Mo_count_30 : decode c_Mo_count 30 = .ok (.istore_n 1, 1) := by decide +kernel
theorem d_Mo_count_31 : decode c_Mo_count 31 = .ok (.iinc 2 1, 3) := by decide +kernel
theorem d_Mo_count_34 : decode c_Mo_count 34 = .ok (.goto (-30), 3) := by decide +kernel
theorem d_Mo_count_37 : decode c_Mo_count 37 = .ok (.iload_n 1, 1) := by decide +kernel
theorem d_Mo_count_38 : decode c_Mo_count 38 = .ok (.ireturn, 1) := by decide +kernel
theorem d_Mo_all_0 : decode c_Mo_all 0 = .ok (.iconst 1, 1) := by decide +kernel
theorem d_Mo_all_1 : decode c_Mo_all 1 = .ok (.aload_n 0, 1) := by decide +kernel
theorem d_Mo_all_2 : decode c_Mo_all 2 = .ok (.getfield 73, 3) := by decide +kernel
theorem d_Mo_all_5 : decode c_Mo_all 5 = .ok (.ishl, 1) := by decide +kernel
theorem d_Mo_all_6 : decode c_Mo_all 6 = .ok (.iconst 1, 1) := by decide +kernel
theorem d_Mo_all_7 : decode c_Mo_all 7 = .ok (.isub, 1) := by decide +kernel
theorem d_Mo_all_8 : decode c_Mo_all 8 = .ok (.ireturn, 1) := by decide +kernel
theorem d_Mo_ways_0 : decode c_Mo_ways 0 = .ok (.lconst 1, 1) := by decide +kernel
theorem d_Mo_ways_1 : decode c_Mo_ways 1 = .ok (.lstore_n 1, 1) := by decide +kernel
theorem d_Mo_ways_2 : decode c_Mo_ways 2 = .ok (.iconst 0, 1) := by decide +kernel
theorem d_Mo_ways_3 : decode c_Mo_ways 3 = .ok (.istore_n 3, 1) := by decide +kernel
theorem d_Mo_ways_4 : decode c_Mo_ways 4 = .ok (.iload_n 3, 1) := by decide +kernel
theorem d_Mo_ways_5 : decode c_Mo_ways 5 = .ok (.aload_n 0, 1) := by decide +kernel
theorem d_Mo_ways_6 : decode c_Mo_ways 6 = .ok (.getfield 73, 3) := by decide +kernel
theorem d_Mo_ways_9 : decode c_Mo_ways 9 = .ok (.if_icmp .ge 81, 3) := by decide +kernel
theorem d_Mo_ways_12 : decode c_Mo_ways 12 = .ok (.lconst 0, 1) := by decide +kernel
theorem d_Mo_ways_13 : decode c_Mo_ways 13 = .ok (.lstore 4, 2) := by decide +kernel
theorem d_Mo_ways_15 : decode c_Mo_ways 15 = .ok (.iconst 0, 1) := by decide +kernel
theorem d_Mo_ways_16 : decode c_Mo_ways 16 = .ok (.istore 6, 2) := by decide +kernel
theorem d_Mo_ways_18 : decode c_Mo_ways 18 = .ok (.iload 6, 2) := by decide +kernel
theorem d_Mo_ways_20 : decode c_Mo_ways 20 = .ok (.aload_n 0, 1) := by decide +kernel
theorem d_Mo_ways_21 : decode c_Mo_ways 21 = .ok (.getfield 77, 3) := by decide +kernel
theorem d_Mo_ways_24 : decode c_Mo_ways 24 = .ok (.if_icmp .ge 40, 3) := by decide +kernel
theorem d_Mo_ways_27 : decode c_Mo_ways 27 = .ok (.aload_n 0, 1) := by decide +kernel
theorem d_Mo_ways_28 : decode c_Mo_ways 28 = .ok (.iload_n 3, 1) := by decide +kernel
theorem d_Mo_ways_29 : decode c_Mo_ways 29 = .ok (.iload 6, 2) := by decide +kernel
theorem d_Mo_ways_31 : decode c_Mo_ways 31 = .ok (.invokevirtual 111, 3) := by decide +kernel
theorem d_Mo_ways_34 : decode c_Mo_ways 34 = .ok (.ifCond .eq 20, 3) := by decide +kernel
theorem d_Mo_ways_37 : decode c_Mo_ways 37 = .ok (.aload_n 0, 1) := by decide +kernel
theorem d_Mo_ways_38 : decode c_Mo_ways 38 = .ok (.getfield 31, 3) := by decide +kernel
theorem d_Mo_ways_41 : decode c_Mo_ways 41 = .ok (.iload 6, 2) := by decide +kernel
theorem d_Mo_ways_43 : decode c_Mo_ways 43 = .ok (.baload, 1) := by decide +kernel
theorem d_Mo_ways_44 : decode c_Mo_ways 44 = .ok (.ifCond .ne 10, 3) := by decide +kernel
theorem d_Mo_ways_47 : decode c_Mo_ways 47 = .ok (.lload 4, 2) := by decide +kernel
theorem d_Mo_ways_49 : decode c_Mo_ways 49 = .ok (.lconst 1, 1) := by decide +kernel
theorem d_Mo_ways_50 : decode c_Mo_ways 50 = .ok (.ladd, 1) := by decide +kernel
theorem d_Mo_ways_51 : decode c_Mo_ways 51 = .ok (.goto 5, 3) := by decide +kernel
theorem d_Mo_ways_54 : decode c_Mo_ways 54 = .ok (.lload 4, 2) := by decide +kernel
theorem d_Mo_ways_56 : decode c_Mo_ways 56 = .ok (.lstore 4, 2) := by decide +kernel
theorem d_Mo_ways_58 : decode c_Mo_ways 58 = .ok (.iinc 6 1, 3) := by decide +kernel
theorem d_Mo_ways_61 : decode c_Mo_ways 61 = .ok (.goto (-43), 3) := by decide +kernel
theorem d_Mo_ways_64 : decode c_Mo_ways 64 = .ok (.aload_n 0, 1) := by decide +kernel
theorem d_Mo_ways_65 : decode c_Mo_ways 65 = .ok (.getfield 7, 3) := by decide +kernel
theorem d_Mo_ways_68 : decode c_Mo_ways 68 = .ok (.iload_n 3, 1) := by decide +kernel
theorem d_Mo_ways_69 : decode c_Mo_ways 69 = .ok (.laload, 1) := by decide +kernel
theorem d_Mo_ways_70 : decode c_Mo_ways 70 = .ok (.lconst 0, 1) := by decide +kernel
theorem d_Mo_ways_71 : decode c_Mo_ways 71 = .ok (.lcmp, 1) := by decide +kernel
theorem d_Mo_ways_72 : decode c_Mo_ways 72 = .ok (.ifCond .le 10, 3) := by decide +kernel
theorem d_Mo_ways_75 : decode c_Mo_ways 75 = .ok (.lload_n 1, 1) := by decide +kernel
theorem d_Mo_ways_76 : decode c_Mo_ways 76 = .ok (.lload 4, 2) := by decide +kernel
theorem d_Mo_ways_78 : decode c_Mo_ways 78 = .ok (.lmul, 1) := by decide +kernel
theorem d_Mo_ways_79 : decode c_Mo_ways 79 = .ok (.goto 4, 3) := by decide +kernel
theorem d_Mo_ways_82 : decode c_Mo_ways 82 = .ok (.lload_n 1, 1) := by decide +kernel
theorem d_Mo_ways_83 : decode c_Mo_ways 83 = .ok (.lstore_n 1, 1) := by decide +kernel
theorem d_Mo_ways_84 : decode c_Mo_ways 84 = .ok (.iinc 3 1, 3) := by decide +kernel
theorem d_Mo_ways_87 : decode c_Mo_ways 87 = .ok (.goto (-83), 3) := by decide +kernel
theorem d_Mo_ways_90 : decode c_Mo_ways 90 = .ok (.lload_n 1, 1) := by decide +kernel
theorem d_Mo_ways_91 : decode c_Mo_ways 91 = .ok (.lreturn, 1) := by decide +kernel
theorem d_Mo_size_0 : decode c_Mo_size 0 = .ok (.iconst 0, 1) := by decide +kernel
theorem d_Mo_size_1 : decode c_Mo_size 1 = .ok (.istore_n 1, 1) := by decide +kernel
theorem d_Mo_size_2 : decode c_Mo_size 2 = .ok (.iconst 0, 1) := by decide +kernel
theorem d_Mo_size_3 : decode c_Mo_size 3 = .ok (.istore_n 2, 1) := by decide +kernel
theorem d_Mo_size_4 : decode c_Mo_size 4 = .ok (.iload_n 2, 1) := by decide +kernel
theorem d_Mo_size_5 : decode c_Mo_size 5 = .ok (.bipush 6, 2) := by decide +kernel
theorem d_Mo_size_7 : decode c_Mo_size 7 = .ok (.if_icmp .ge 25, 3) := by decide +kernel
theorem d_Mo_size_10 : decode c_Mo_size 10 = .ok (.iload_n 0, 1) := by decide +kernel
theorem d_Mo_size_11 : decode c_Mo_size 11 = .ok (.iload_n 2, 1) := by decide +kernel
theorem d_Mo_size_12 : decode c_Mo_size 12 = .ok (.invokestatic 105, 3) := by decide +kernel
theorem d_Mo_size_15 : decode c_Mo_size 15 = .ok (.ifCond .eq 9, 3) := by decide +kernel
theorem d_Mo_size_18 : decode c_Mo_size 18 = .ok (.iload_n 1, 1) := by decide +kernel
theorem d_Mo_size_19 : decode c_Mo_size 19 = .ok (.iconst 1, 1) := by decide +kernel
theorem d_Mo_size_20 : decode c_Mo_size 20 = .ok (.iadd, 1) := by decide +kernel
theorem d_Mo_size_21 : decode c_Mo_size 21 = .ok (.goto 4, 3) := by decide +kernel
theorem d_Mo_size_24 : decode c_Mo_size 24 = .ok (.iload_n 1, 1) := by decide +kernel
theorem d_Mo_size_25 : decode c_Mo_size 25 = .ok (.istore_n 1, 1) := by decide +kernel
theorem d_Mo_size_26 : decode c_Mo_size 26 = .ok (.iinc 2 1, 3) := by decide +kernel
theorem d_Mo_size_29 : decode c_Mo_size 29 = .ok (.goto (-25), 3) := by decide +kernel
theorem d_Mo_size_32 : decode c_Mo_size 32 = .ok (.iload_n 1, 1) := by decide +kernel
theorem d_Mo_size_33 : decode c_Mo_size 33 = .ok (.ireturn, 1) := by decide +kernel
theorem d_Mo_isBefore_0 : decode c_Mo_isBefore 0 = .ok (.iconst 0, 1) := by decide +kernel
theorem d_Mo_isBefore_1 : decode c_Mo_isBefore 1 = .ok (.istore_n 2, 1) := by decide +kernel
theorem d_Mo_isBefore_2 : decode c_Mo_isBefore 2 = .ok (.iload_n 2, 1) := by decide +kernel
theorem d_Mo_isBefore_3 : decode c_Mo_isBefore 3 = .ok (.bipush 6, 2) := by decide +kernel
theorem d_Mo_isBefore_5 : decode c_Mo_isBefore 5 = .ok (.if_icmp .ge 28, 3) := by decide +kernel
theorem d_Mo_isBefore_8 : decode c_Mo_isBefore 8 = .ok (.iload_n 0, 1) := by decide +kernel
theorem d_Mo_isBefore_9 : decode c_Mo_isBefore 9 = .ok (.iload_n 2, 1) := by decide +kernel
theorem d_Mo_isBefore_10 : decode c_Mo_isBefore 10 = .ok (.invokestatic 105, 3) := by decide +kernel
theorem d_Mo_isBefore_13 : decode c_Mo_isBefore 13 = .ok (.iload_n 1, 1) := by decide +kernel
theorem d_Mo_isBefore_14 : decode c_Mo_isBefore 14 = .ok (.iload_n 2, 1) := by decide +kernel
theorem d_Mo_isBefore_15 : decode c_Mo_isBefore 15 = .ok (.invokestatic 105, 3) := by decide +kernel
theorem d_Mo_isBefore_18 : decode c_Mo_isBefore 18 = .ok (.if_icmp .eq 9, 3) := by decide +kernel
theorem d_Mo_isBefore_21 : decode c_Mo_isBefore 21 = .ok (.iload_n 0, 1) := by decide +kernel
theorem d_Mo_isBefore_22 : decode c_Mo_isBefore 22 = .ok (.iload_n 2, 1) := by decide +kernel
theorem d_Mo_isBefore_23 : decode c_Mo_isBefore 23 = .ok (.invokestatic 105, 3) := by decide +kernel
theorem d_Mo_isBefore_26 : decode c_Mo_isBefore 26 = .ok (.ireturn, 1) := by decide +kernel
theorem d_Mo_isBefore_27 : decode c_Mo_isBefore 27 = .ok (.iinc 2 1, 3) := by decide +kernel
theorem d_Mo_isBefore_30 : decode c_Mo_isBefore 30 = .ok (.goto (-28), 3) := by decide +kernel
theorem d_Mo_isBefore_33 : decode c_Mo_isBefore 33 = .ok (.iconst 0, 1) := by decide +kernel
theorem d_Mo_isBefore_34 : decode c_Mo_isBefore 34 = .ok (.ireturn, 1) := by decide +kernel
theorem d_Mo_findClash_0 : decode c_Mo_findClash 0 = .ok (.aload_n 0, 1) := by decide +kernel
theorem d_Mo_findClash_1 : decode c_Mo_findClash 1 = .ok (.iconst 0, 1) := by decide +kernel
theorem d_Mo_findClash_2 : decode c_Mo_findClash 2 = .ok (.putfield 140, 3) := by decide +kernel
theorem d_Mo_findClash_5 : decode c_Mo_findClash 5 = .ok (.iconst 1, 1) := by decide +kernel
theorem d_Mo_findClash_6 : decode c_Mo_findClash 6 = .ok (.istore_n 1, 1) := by decide +kernel
theorem d_Mo_findClash_7 : decode c_Mo_findClash 7 = .ok (.iload_n 1, 1) := by decide +kernel
theorem d_Mo_findClash_8 : decode c_Mo_findClash 8 = .ok (.aload_n 0, 1) := by decide +kernel
theorem d_Mo_findClash_9 : decode c_Mo_findClash 9 = .ok (.getfield 73, 3) := by decide +kernel
theorem d_Mo_findClash_12 : decode c_Mo_findClash 12 = .ok (.if_icmp .gt 80, 3) := by decide +kernel
theorem d_Mo_findClash_15 : decode c_Mo_findClash 15 = .ok (.aload_n 0, 1) := by decide +kernel
theorem d_Mo_findClash_16 : decode c_Mo_findClash 16 = .ok (.getfield 140, 3) := by decide +kernel
theorem d_Mo_findClash_19 : decode c_Mo_findClash 19 = .ok (.ifCond .ne 73, 3) := by decide +kernel
theorem d_Mo_findClash_22 : decode c_Mo_findClash 22 = .ok (.iconst 1, 1) := by decide +kernel
theorem d_Mo_findClash_23 : decode c_Mo_findClash 23 = .ok (.istore_n 2, 1) := by decide +kernel
theorem d_Mo_findClash_24 : decode c_Mo_findClash 24 = .ok (.iload_n 2, 1) := by decide +kernel
theorem d_Mo_findClash_25 : decode c_Mo_findClash 25 = .ok (.aload_n 0, 1) := by decide +kernel
theorem d_Mo_findClash_26 : decode c_Mo_findClash 26 = .ok (.invokevirtual 143, 3) := by decide +kernel
theorem d_Mo_findClash_29 : decode c_Mo_findClash 29 = .ok (.if_icmp .gt 57, 3) := by decide +kernel
theorem d_Mo_findClash_32 : decode c_Mo_findClash 32 = .ok (.iload_n 2, 1) := by decide +kernel
theorem d_Mo_findClash_33 : decode c_Mo_findClash 33 = .ok (.invokestatic 146, 3) := by decide +kernel
theorem d_Mo_findClash_36 : decode c_Mo_findClash 36 = .ok (.iload_n 1, 1) := by decide +kernel
theorem d_Mo_findClash_37 : decode c_Mo_findClash 37 = .ok (.if_icmp .ne 43, 3) := by decide +kernel
theorem d_Mo_findClash_40 : decode c_Mo_findClash 40 = .ok (.aload_n 0, 1) := by decide +kernel
theorem d_Mo_findClash_41 : decode c_Mo_findClash 41 = .ok (.getfield 140, 3) := by decide +kernel
theorem d_Mo_findClash_44 : decode c_Mo_findClash 44 = .ok (.ifCond .eq 14, 3) := by decide +kernel
theorem d_Mo_findClash_47 : decode c_Mo_findClash 47 = .ok (.iload_n 2, 1) := by decide +kernel
theorem d_Mo_findClash_48 : decode c_Mo_findClash 48 = .ok (.aload_n 0, 1) := by decide +kernel
theorem d_Mo_findClash_49 : decode c_Mo_findClash 49 = .ok (.getfield 140, 3) := by decide +kernel
theorem d_Mo_findClash_52 : decode c_Mo_findClash 52 = .ok (.invokestatic 150, 3) := by decide +kernel
theorem d_Mo_findClash_55 : decode c_Mo_findClash 55 = .ok (.ifCond .eq 25, 3) := by decide +kernel
theorem d_Mo_findClash_58 : decode c_Mo_findClash 58 = .ok (.aload_n 0, 1) := by decide +kernel
theorem d_Mo_findClash_59 : decode c_Mo_findClash 59 = .ok (.iload_n 2, 1) := by decide +kernel
theorem d_Mo_findClash_60 : decode c_Mo_findClash 60 = .ok (.iconst 0, 1) := by decide +kernel
theorem d_Mo_findClash_61 : decode c_Mo_findClash 61 = .ok (.invokevirtual 153, 3) := by decide +kernel
theorem d_Mo_findClash_64 : decode c_Mo_findClash 64 = .ok (.aload_n 0, 1) := by decide +kernel
theorem d_Mo_findClash_65 : decode c_Mo_findClash 65 = .ok (.iconst (-1), 1) := by decide +kernel
theorem d_Mo_findClash_66 : decode c_Mo_findClash 66 = .ok (.iconst 1, 1) := by decide +kernel
theorem d_Mo_findClash_67 : decode c_Mo_findClash 67 = .ok (.invokevirtual 157, 3) := by decide +kernel
theorem d_Mo_findClash_70 : decode c_Mo_findClash 70 = .ok (.lconst 0, 1) := by decide +kernel
theorem d_Mo_findClash_71 : decode c_Mo_findClash 71 = .ok (.lcmp, 1) := by decide +kernel
theorem d_Mo_findClash_72 : decode c_Mo_findClash 72 = .ok (.ifCond .ge 8, 3) := by decide +kernel
theorem d_Mo_findClash_75 : decode c_Mo_findClash 75 = .ok (.aload_n 0, 1) := by decide +kernel
theorem d_Mo_findClash_76 : decode c_Mo_findClash 76 = .ok (.iload_n 2, 1) := by decide +kernel
theorem d_Mo_findClash_77 : decode c_Mo_findClash 77 = .ok (.putfield 140, 3) := by decide +kernel
theorem d_Mo_findClash_80 : decode c_Mo_findClash 80 = .ok (.iinc 2 1, 3) := by decide +kernel
theorem d_Mo_findClash_83 : decode c_Mo_findClash 83 = .ok (.goto (-59), 3) := by decide +kernel
theorem d_Mo_findClash_86 : decode c_Mo_findClash 86 = .ok (.iinc 1 1, 3) := by decide +kernel
theorem d_Mo_findClash_89 : decode c_Mo_findClash 89 = .ok (.goto (-82), 3) := by decide +kernel
theorem d_Mo_findClash_92 : decode c_Mo_findClash 92 = .ok (.return_, 1) := by decide +kernel
theorem d_Mo_run_0 : decode c_Mo_run 0 = .ok (.lload_n 1, 1) := by decide +kernel
theorem d_Mo_run_1 : decode c_Mo_run 1 = .ok (.lconst 0, 1) := by decide +kernel
theorem d_Mo_run_2 : decode c_Mo_run 2 = .ok (.lcmp, 1) := by decide +kernel
theorem d_Mo_run_3 : decode c_Mo_run 3 = .ok (.ifCond .ge 5, 3) := by decide +kernel
theorem d_Mo_run_6 : decode c_Mo_run 6 = .ok (.iconst (-1), 1) := by decide +kernel
theorem d_Mo_run_7 : decode c_Mo_run 7 = .ok (.ireturn, 1) := by decide +kernel
theorem d_Mo_run_8 : decode c_Mo_run 8 = .ok (.aload_n 0, 1) := by decide +kernel
theorem d_Mo_run_9 : decode c_Mo_run 9 = .ok (.iconst 0, 1) := by decide +kernel
theorem d_Mo_run_10 : decode c_Mo_run 10 = .ok (.putfield 161, 3) := by decide +kernel
theorem d_Mo_run_13 : decode c_Mo_run 13 = .ok (.aload_n 0, 1) := by decide +kernel
theorem d_Mo_run_14 : decode c_Mo_run 14 = .ok (.iconst 0, 1) := by decide +kernel
theorem d_Mo_run_15 : decode c_Mo_run 15 = .ok (.putfield 86, 3) := by decide +kernel
theorem d_Mo_run_18 : decode c_Mo_run 18 = .ok (.aload_n 0, 1) := by decide +kernel
theorem d_Mo_run_19 : decode c_Mo_run 19 = .ok (.iconst 0, 1) := by decide +kernel
theorem d_Mo_run_20 : decode c_Mo_run 20 = .ok (.putfield 140, 3) := by decide +kernel
theorem d_Mo_run_23 : decode c_Mo_run 23 = .ok (.aload_n 0, 1) := by decide +kernel
theorem d_Mo_run_24 : decode c_Mo_run 24 = .ok (.invokevirtual 164, 3) := by decide +kernel
theorem d_Mo_run_27 : decode c_Mo_run 27 = .ok (.lload_n 1, 1) := by decide +kernel
theorem d_Mo_run_28 : decode c_Mo_run 28 = .ok (.lcmp, 1) := by decide +kernel
theorem d_Mo_run_29 : decode c_Mo_run 29 = .ok (.ifCond .le 5, 3) := by decide +kernel
theorem d_Mo_run_32 : decode c_Mo_run 32 = .ok (.iconst 1, 1) := by decide +kernel
theorem d_Mo_run_33 : decode c_Mo_run 33 = .ok (.ireturn, 1) := by decide +kernel
theorem d_Mo_run_34 : decode c_Mo_run 34 = .ok (.aload_n 0, 1) := by decide +kernel
theorem d_Mo_run_35 : decode c_Mo_run 35 = .ok (.aload_n 0, 1) := by decide +kernel
theorem d_Mo_run_36 : decode c_Mo_run 36 = .ok (.invokevirtual 143, 3) := by decide +kernel
theorem d_Mo_run_39 : decode c_Mo_run 39 = .ok (.iconst 0, 1) := by decide +kernel
theorem d_Mo_run_40 : decode c_Mo_run 40 = .ok (.invokevirtual 153, 3) := by decide +kernel
theorem d_Mo_run_43 : decode c_Mo_run 43 = .ok (.aload_n 0, 1) := by decide +kernel
theorem d_Mo_run_44 : decode c_Mo_run 44 = .ok (.iconst (-1), 1) := by decide +kernel
theorem d_Mo_run_45 : decode c_Mo_run 45 = .ok (.iconst 0, 1) := by decide +kernel
theorem d_Mo_run_46 : decode c_Mo_run 46 = .ok (.invokevirtual 157, 3) := by decide +kernel
theorem d_Mo_run_49 : decode c_Mo_run 49 = .ok (.lstore_n 3, 1) := by decide +kernel
theorem d_Mo_run_50 : decode c_Mo_run 50 = .ok (.lload_n 3, 1) := by decide +kernel
theorem d_Mo_run_51 : decode c_Mo_run 51 = .ok (.lconst 0, 1) := by decide +kernel
theorem d_Mo_run_52 : decode c_Mo_run 52 = .ok (.lcmp, 1) := by decide +kernel
theorem d_Mo_run_53 : decode c_Mo_run 53 = .ok (.ifCond .ge 9, 3) := by decide +kernel
theorem d_Mo_run_56 : decode c_Mo_run 56 = .ok (.aload_n 0, 1) := by decide +kernel
theorem d_Mo_run_57 : decode c_Mo_run 57 = .ok (.invokevirtual 168, 3) := by decide +kernel
theorem d_Mo_run_60 : decode c_Mo_run 60 = .ok (.iconst 2, 1) := by decide +kernel
theorem d_Mo_run_61 : decode c_Mo_run 61 = .ok (.ireturn, 1) := by decide +kernel
theorem d_Mo_run_62 : decode c_Mo_run 62 = .ok (.aload_n 0, 1) := by decide +kernel
theorem d_Mo_run_63 : decode c_Mo_run 63 = .ok (.iconst 1, 1) := by decide +kernel
theorem d_Mo_run_64 : decode c_Mo_run 64 = .ok (.putfield 161, 3) := by decide +kernel
theorem d_Mo_run_67 : decode c_Mo_run 67 = .ok (.aload_n 0, 1) := by decide +kernel
theorem d_Mo_run_68 : decode c_Mo_run 68 = .ok (.iconst 1, 1) := by decide +kernel
theorem d_Mo_run_69 : decode c_Mo_run 69 = .ok (.putfield 86, 3) := by decide +kernel
theorem d_Mo_run_72 : decode c_Mo_run 72 = .ok (.aload_n 0, 1) := by decide +kernel
theorem d_Mo_run_73 : decode c_Mo_run 73 = .ok (.lload_n 3, 1) := by decide +kernel
theorem d_Mo_run_74 : decode c_Mo_run 74 = .ok (.putfield 171, 3) := by decide +kernel
theorem d_Mo_run_77 : decode c_Mo_run 77 = .ok (.iconst 0, 1) := by decide +kernel
theorem d_Mo_run_78 : decode c_Mo_run 78 = .ok (.istore 5, 2) := by decide +kernel
theorem d_Mo_run_80 : decode c_Mo_run 80 = .ok (.iload 5, 2) := by decide +kernel
theorem d_Mo_run_82 : decode c_Mo_run 82 = .ok (.bipush 6, 2) := by decide +kernel
theorem d_Mo_run_84 : decode c_Mo_run 84 = .ok (.if_icmp .ge 23, 3) := by decide +kernel
theorem d_Mo_run_87 : decode c_Mo_run 87 = .ok (.aload_n 0, 1) := by decide +kernel
theorem d_Mo_run_88 : decode c_Mo_run 88 = .ok (.getfield 44, 3) := by decide +kernel
theorem d_Mo_run_91 : decode c_Mo_run 91 = .ok (.iload 5, 2) := by decide +kernel
theorem d_Mo_run_93 : decode c_Mo_run 93 = .ok (.aload_n 0, 1) := by decide +kernel
theorem d_Mo_run_94 : decode c_Mo_run 94 = .ok (.getfield 57, 3) := by decide +kernel
theorem d_Mo_run_97 : decode c_Mo_run 97 = .ok (.iload 5, 2) := by decide +kernel
theorem d_Mo_run_99 : decode c_Mo_run 99 = .ok (.iaload, 1) := by decide +kernel
theorem d_Mo_run_100 : decode c_Mo_run 100 = .ok (.iastore, 1) := by decide +kernel
theorem d_Mo_run_101 : decode c_Mo_run 101 = .ok (.iinc 5 1, 3) := by decide +kernel
theorem d_Mo_run_104 : decode c_Mo_run 104 = .ok (.goto (-24), 3) := by decide +kernel
theorem d_Mo_run_107 : decode c_Mo_run 107 = .ok (.iconst 0, 1) := by decide +kernel
theorem d_Mo_run_108 : decode c_Mo_run 108 = .ok (.ireturn, 1) := by decide +kernel
theorem d_Mo_chosen_0 : decode c_Mo_chosen 0 = .ok (.iconst 0, 1) := by decide +kernel
theorem d_Mo_chosen_1 : decode c_Mo_chosen 1 = .ok (.istore_n 2, 1) := by decide +kernel
theorem d_Mo_chosen_2 : decode c_Mo_chosen 2 = .ok (.iconst 0, 1) := by decide +kernel
theorem d_Mo_chosen_3 : decode c_Mo_chosen 3 = .ok (.istore_n 3, 1) := by decide +kernel
theorem d_Mo_chosen_4 : decode c_Mo_chosen 4 = .ok (.iload_n 3, 1) := by decide +kernel
theorem d_Mo_chosen_5 : decode c_Mo_chosen 5 = .ok (.bipush 6, 2) := by decide +kernel
theorem d_Mo_chosen_7 : decode c_Mo_chosen 7 = .ok (.if_icmp .ge 44, 3) := by decide +kernel
theorem d_Mo_chosen_10 : decode c_Mo_chosen 10 = .ok (.aload_n 0, 1) := by decide +kernel
theorem d_Mo_chosen_11 : decode c_Mo_chosen 11 = .ok (.getfield 161, 3) := by decide +kernel
theorem d_Mo_chosen_14 : decode c_Mo_chosen 14 = .ok (.ifCond .eq 37, 3) := by decide +kernel
theorem d_Mo_chosen_17 : decode c_Mo_chosen 17 = .ok (.aload_n 0, 1) := by decide +kernel
theorem d_Mo_chosen_18 : decode c_Mo_chosen 18 = .ok (.iload_n 1, 1) := by decide +kernel
theorem d_Mo_chosen_19 : decode c_Mo_chosen 19 = .ok (.invokevirtual 100, 3) := by decide +kernel
theorem d_Mo_chosen_22 : decode c_Mo_chosen 22 = .ok (.ifCond .eq 29, 3) := by decide +kernel
theorem d_Mo_chosen_25 : decode c_Mo_chosen 25 = .ok (.iload_n 2, 1) := by decide +kernel
theorem d_Mo_chosen_26 : decode c_Mo_chosen 26 = .ok (.ifCond .ne 13, 3) := by decide +kernel
theorem d_Mo_chosen_29 : decode c_Mo_chosen 29 = .ok (.aload_n 0, 1) := by decide +kernel
theorem d_Mo_chosen_30 : decode c_Mo_chosen 30 = .ok (.getfield 44, 3) := by decide +kernel
theorem d_Mo_chosen_33 : decode c_Mo_chosen 33 = .ok (.iload_n 3, 1) := by decide +kernel
theorem d_Mo_chosen_34 : decode c_Mo_chosen 34 = .ok (.iaload, 1) := by decide +kernel
theorem d_Mo_chosen_35 : decode c_Mo_chosen 35 = .ok (.iload_n 1, 1) := by decide +kernel
theorem d_Mo_chosen_36 : decode c_Mo_chosen 36 = .ok (.if_icmp .ne 7, 3) := by decide +kernel
theorem d_Mo_chosen_39 : decode c_Mo_chosen 39 = .ok (.iconst 1, 1) := by decide +kernel
theorem d_Mo_chosen_40 : decode c_Mo_chosen 40 = .ok (.goto 4, 3) := by decide +kernel
theorem d_Mo_chosen_43 : decode c_Mo_chosen 43 = .ok (.iconst 0, 1) := by decide +kernel
theorem d_Mo_chosen_44 : decode c_Mo_chosen 44 = .ok (.istore_n 2, 1) := by decide +kernel
theorem d_Mo_chosen_45 : decode c_Mo_chosen 45 = .ok (.iinc 3 1, 3) := by decide +kernel
theorem d_Mo_chosen_48 : decode c_Mo_chosen 48 = .ok (.goto (-44), 3) := by decide +kernel
theorem d_Mo_chosen_51 : decode c_Mo_chosen 51 = .ok (.iload_n 2, 1) := by decide +kernel
theorem d_Mo_chosen_52 : decode c_Mo_chosen 52 = .ok (.ireturn, 1) := by decide +kernel
theorem d_Mo_of_0 : decode c_Mo_of 0 = .ok (.aload_n 0, 1) := by decide +kernel
theorem d_Mo_of_1 : decode c_Mo_of 1 = .ok (.getfield 161, 3) := by decide +kernel
theorem d_Mo_of_4 : decode c_Mo_of 4 = .ok (.ifCond .eq 20, 3) := by decide +kernel
theorem d_Mo_of_7 : decode c_Mo_of 7 = .ok (.aload_n 0, 1) := by decide +kernel
theorem d_Mo_of_8 : decode c_Mo_of 8 = .ok (.iload_n 1, 1) := by decide +kernel
theorem d_Mo_of_9 : decode c_Mo_of 9 = .ok (.invokevirtual 96, 3) := by decide +kernel
theorem d_Mo_of_12 : decode c_Mo_of 12 = .ok (.ifCond .eq 12, 3) := by decide +kernel
theorem d_Mo_of_15 : decode c_Mo_of 15 = .ok (.aload_n 0, 1) := by decide +kernel
theorem d_Mo_of_16 : decode c_Mo_of 16 = .ok (.getfield 44, 3) := by decide +kernel
theorem d_Mo_of_19 : decode c_Mo_of 19 = .ok (.iload_n 1, 1) := by decide +kernel
theorem d_Mo_of_20 : decode c_Mo_of 20 = .ok (.iaload, 1) := by decide +kernel
theorem d_Mo_of_21 : decode c_Mo_of 21 = .ok (.goto 4, 3) := by decide +kernel
theorem d_Mo_of_24 : decode c_Mo_of 24 = .ok (.iconst (-1), 1) := by decide +kernel
theorem d_Mo_of_25 : decode c_Mo_of 25 = .ok (.ireturn, 1) := by decide +kernel
theorem d_Mo_sum_0 : decode c_Mo_sum 0 = .ok (.aload_n 0, 1) := by decide +kernel
theorem d_Mo_sum_1 : decode c_Mo_sum 1 = .ok (.getfield 161, 3) := by decide +kernel
theorem d_Mo_sum_4 : decode c_Mo_sum 4 = .ok (.ifCond .eq 10, 3) := by decide +kernel
theorem d_Mo_sum_7 : decode c_Mo_sum 7 = .ok (.aload_n 0, 1) := by decide +kernel
theorem d_Mo_sum_8 : decode c_Mo_sum 8 = .ok (.getfield 171, 3) := by decide +kernel
theorem d_Mo_sum_11 : decode c_Mo_sum 11 = .ok (.goto 6, 3) := by decide +kernel
theorem d_Mo_sum_14 : decode c_Mo_sum 14 = .ok (.ldc2_w 71, 3) := by decide +kernel
theorem d_Mo_sum_17 : decode c_Mo_sum 17 = .ok (.lreturn, 1) := by decide +kernel
theorem d_Mo_bound_0 : decode c_Mo_bound 0 = .ok (.lconst 0, 1) := by decide +kernel
theorem d_Mo_bound_1 : decode c_Mo_bound 1 = .ok (.lstore_n 1, 1) := by decide +kernel
theorem d_Mo_bound_2 : decode c_Mo_bound 2 = .ok (.iconst 0, 1) := by decide +kernel
theorem d_Mo_bound_3 : decode c_Mo_bound 3 = .ok (.istore_n 3, 1) := by decide +kernel
theorem d_Mo_bound_4 : decode c_Mo_bound 4 = .ok (.iload_n 3, 1) := by decide +kernel
theorem d_Mo_bound_5 : decode c_Mo_bound 5 = .ok (.aload_n 0, 1) := by decide +kernel
theorem d_Mo_bound_6 : decode c_Mo_bound 6 = .ok (.getfield 73, 3) := by decide +kernel
theorem d_Mo_bound_9 : decode c_Mo_bound 9 = .ok (.if_icmp .ge 123, 3) := by decide +kernel
theorem d_Mo_bound_12 : decode c_Mo_bound 12 = .ok (.aload_n 0, 1) := by decide +kernel
theorem d_Mo_bound_13 : decode c_Mo_bound 13 = .ok (.getfield 7, 3) := by decide +kernel
theorem d_Mo_bound_16 : decode c_Mo_bound 16 = .ok (.iload_n 3, 1) := by decide +kernel
theorem d_Mo_bound_17 : decode c_Mo_bound 17 = .ok (.laload, 1) := by decide +kernel
theorem d_Mo_bound_18 : decode c_Mo_bound 18 = .ok (.lconst 0, 1) := by decide +kernel
theorem d_Mo_bound_19 : decode c_Mo_bound 19 = .ok (.lcmp, 1) := by decide +kernel
theorem d_Mo_bound_20 : decode c_Mo_bound 20 = .ok (.ifCond .le 106, 3) := by decide +kernel
theorem d_Mo_bound_23 : decode c_Mo_bound 23 = .ok (.ldc2_w 71, 3) := by decide +kernel
theorem d_Mo_bound_26 : decode c_Mo_bound 26 = .ok (.lstore 4, 2) := by decide +kernel
theorem d_Mo_bound_28 : decode c_Mo_bound 28 = .ok (.iconst 0, 1) := by decide +kernel
theorem d_Mo_bound_29 : decode c_Mo_bound 29 = .ok (.istore 6, 2) := by decide +kernel
theorem d_Mo_bound_31 : decode c_Mo_bound 31 = .ok (.iload 6, 2) := by decide +kernel
theorem d_Mo_bound_33 : decode c_Mo_bound 33 = .ok (.aload_n 0, 1) := by decide +kernel
theorem d_Mo_bound_34 : decode c_Mo_bound 34 = .ok (.getfield 77, 3) := by decide +kernel
theorem d_Mo_bound_37 : decode c_Mo_bound 37 = .ok (.if_icmp .ge 66, 3) := by decide +kernel
theorem d_Mo_bound_40 : decode c_Mo_bound 40 = .ok (.aload_n 0, 1) := by decide +kernel
theorem d_Mo_bound_41 : decode c_Mo_bound 41 = .ok (.getfield 35, 3) := by decide +kernel
theorem d_Mo_bound_44 : decode c_Mo_bound 44 = .ok (.iconst 5, 1) := by decide +kernel
theorem d_Mo_bound_45 : decode c_Mo_bound 45 = .ok (.iload_n 3, 1) := by decide +kernel
theorem d_Mo_bound_46 : decode c_Mo_bound 46 = .ok (.imul, 1) := by decide +kernel
theorem d_Mo_bound_47 : decode c_Mo_bound 47 = .ok (.iload 6, 2) := by decide +kernel
theorem d_Mo_bound_49 : decode c_Mo_bound 49 = .ok (.iadd, 1) := by decide +kernel
theorem d_Mo_bound_50 : decode c_Mo_bound 50 = .ok (.laload, 1) := by decide +kernel
theorem d_Mo_bound_51 : decode c_Mo_bound 51 = .ok (.lstore 7, 2) := by decide +kernel
theorem d_Mo_bound_53 : decode c_Mo_bound 53 = .ok (.aload_n 0, 1) := by decide +kernel
theorem d_Mo_bound_54 : decode c_Mo_bound 54 = .ok (.iload_n 3, 1) := by decide +kernel
theorem d_Mo_bound_55 : decode c_Mo_bound 55 = .ok (.iload 6, 2) := by decide +kernel
theorem d_Mo_bound_57 : decode c_Mo_bound 57 = .ok (.invokevirtual 111, 3) := by decide +kernel
theorem d_Mo_bound_60 : decode c_Mo_bound 60 = .ok (.ifCond .eq 33, 3) := by decide +kernel
theorem d_Mo_bound_63 : decode c_Mo_bound 63 = .ok (.aload_n 0, 1) := by decide +kernel
theorem d_Mo_bound_64 : decode c_Mo_bound 64 = .ok (.getfield 31, 3) := by decide +kernel
theorem d_Mo_bound_67 : decode c_Mo_bound 67 = .ok (.iload 6, 2) := by decide +kernel
theorem d_Mo_bound_69 : decode c_Mo_bound 69 = .ok (.baload, 1) := by decide +kernel
theorem d_Mo_bound_70 : decode c_Mo_bound 70 = .ok (.ifCond .ne 23, 3) := by decide +kernel
theorem d_Mo_bound_73 : decode c_Mo_bound 73 = .ok (.lload 4, 2) := by decide +kernel
theorem d_Mo_bound_75 : decode c_Mo_bound 75 = .ok (.lconst 0, 1) := by decide +kernel
theorem d_Mo_bound_76 : decode c_Mo_bound 76 = .ok (.lcmp, 1) := by decide +kernel
theorem d_Mo_bound_77 : decode c_Mo_bound 77 = .ok (.ifCond .lt 11, 3) := by decide +kernel
theorem d_Mo_bound_80 : decode c_Mo_bound 80 = .ok (.lload 7, 2) := by decide +kernel
theorem d_Mo_bound_82 : decode c_Mo_bound 82 = .ok (.lload 4, 2) := by decide +kernel
theorem d_Mo_bound_84 : decode c_Mo_bound 84 = .ok (.lcmp, 1) := by decide +kernel
theorem d_Mo_bound_85 : decode c_Mo_bound 85 = .ok (.ifCond .ge 8, 3) := by decide +kernel
theorem d_Mo_bound_88 : decode c_Mo_bound 88 = .ok (.lload 7, 2) := by decide +kernel
theorem d_Mo_bound_90 : decode c_Mo_bound 90 = .ok (.goto 5, 3) := by decide +kernel
theorem d_Mo_bound_93 : decode c_Mo_bound 93 = .ok (.lload 4, 2) := by decide +kernel
theorem d_Mo_bound_95 : decode c_Mo_bound 95 = .ok (.lstore 4, 2) := by decide +kernel
theorem d_Mo_bound_97 : decode c_Mo_bound 97 = .ok (.iinc 6 1, 3) := by decide +kernel
theorem d_Mo_bound_100 : decode c_Mo_bound 100 = .ok (.goto (-69), 3) := by decide +kernel
theorem d_Mo_bound_103 : decode c_Mo_bound 103 = .ok (.lload 4, 2) := by decide +kernel
theorem d_Mo_bound_105 : decode c_Mo_bound 105 = .ok (.lconst 0, 1) := by decide +kernel
theorem d_Mo_bound_106 : decode c_Mo_bound 106 = .ok (.lcmp, 1) := by decide +kernel
theorem d_Mo_bound_107 : decode c_Mo_bound 107 = .ok (.ifCond .ge 7, 3) := by decide +kernel
theorem d_Mo_bound_110 : decode c_Mo_bound 110 = .ok (.ldc2_w 71, 3) := by decide +kernel
theorem d_Mo_bound_113 : decode c_Mo_bound 113 = .ok (.lreturn, 1) := by decide +kernel
theorem d_Mo_bound_114 : decode c_Mo_bound 114 = .ok (.lload_n 1, 1) := by decide +kernel
theorem d_Mo_bound_115 : decode c_Mo_bound 115 = .ok (.aload_n 0, 1) := by decide +kernel
theorem d_Mo_bound_116 : decode c_Mo_bound 116 = .ok (.getfield 7, 3) := by decide +kernel
theorem d_Mo_bound_119 : decode c_Mo_bound 119 = .ok (.iload_n 3, 1) := by decide +kernel
theorem d_Mo_bound_120 : decode c_Mo_bound 120 = .ok (.laload, 1) := by decide +kernel
theorem d_Mo_bound_121 : decode c_Mo_bound 121 = .ok (.lload 4, 2) := by decide +kernel
theorem d_Mo_bound_123 : decode c_Mo_bound 123 = .ok (.lmul, 1) := by decide +kernel
theorem d_Mo_bound_124 : decode c_Mo_bound 124 = .ok (.ladd, 1) := by decide +kernel
theorem d_Mo_bound_125 : decode c_Mo_bound 125 = .ok (.lstore_n 1, 1) := by decide +kernel
theorem d_Mo_bound_126 : decode c_Mo_bound 126 = .ok (.iinc 3 1, 3) := by decide +kernel
theorem d_Mo_bound_129 : decode c_Mo_bound 129 = .ok (.goto (-125), 3) := by decide +kernel
theorem d_Mo_bound_132 : decode c_Mo_bound 132 = .ok (.lload_n 1, 1) := by decide +kernel
theorem d_Mo_bound_133 : decode c_Mo_bound 133 = .ok (.lreturn, 1) := by decide +kernel
theorem d_Mo_proved_0 : decode c_Mo_proved 0 = .ok (.aload_n 0, 1) := by decide +kernel
theorem d_Mo_proved_1 : decode c_Mo_proved 1 = .ok (.getfield 86, 3) := by decide +kernel
theorem d_Mo_proved_4 : decode c_Mo_proved 4 = .ok (.ireturn, 1) := by decide +kernel
theorem d_Mo_clash_0 : decode c_Mo_clash 0 = .ok (.iconst 0, 1) := by decide +kernel
theorem d_Mo_clash_1 : decode c_Mo_clash 1 = .ok (.istore_n 2, 1) := by decide +kernel
theorem d_Mo_clash_2 : decode c_Mo_clash 2 = .ok (.iconst 0, 1) := by decide +kernel
theorem d_Mo_clash_3 : decode c_Mo_clash 3 = .ok (.istore_n 3, 1) := by decide +kernel
theorem d_Mo_clash_4 : decode c_Mo_clash 4 = .ok (.iload_n 3, 1) := by decide +kernel
theorem d_Mo_clash_5 : decode c_Mo_clash 5 = .ok (.bipush 6, 2) := by decide +kernel
theorem d_Mo_clash_7 : decode c_Mo_clash 7 = .ok (.if_icmp .ge 30, 3) := by decide +kernel
theorem d_Mo_clash_10 : decode c_Mo_clash 10 = .ok (.aload_n 0, 1) := by decide +kernel
theorem d_Mo_clash_11 : decode c_Mo_clash 11 = .ok (.getfield 140, 3) := by decide +kernel
theorem d_Mo_clash_14 : decode c_Mo_clash 14 = .ok (.iload_n 3, 1) := by decide +kernel
theorem d_Mo_clash_15 : decode c_Mo_clash 15 = .ok (.invokestatic 105, 3) := by decide +kernel
theorem d_Mo_clash_18 : decode c_Mo_clash 18 = .ok (.ifCond .eq 13, 3) := by decide +kernel
theorem d_Mo_clash_21 : decode c_Mo_clash 21 = .ok (.iload_n 2, 1) := by decide +kernel
theorem d_Mo_clash_22 : decode c_Mo_clash 22 = .ok (.iload_n 1, 1) := by decide +kernel
theorem d_Mo_clash_23 : decode c_Mo_clash 23 = .ok (.if_icmp .ne 5, 3) := by decide +kernel
theorem d_Mo_clash_26 : decode c_Mo_clash 26 = .ok (.iload_n 3, 1) := by decide +kernel
theorem d_Mo_clash_27 : decode c_Mo_clash 27 = .ok (.ireturn, 1) := by decide +kernel
theorem d_Mo_clash_28 : decode c_Mo_clash 28 = .ok (.iinc 2 1, 3) := by decide +kernel
theorem d_Mo_clash_31 : decode c_Mo_clash 31 = .ok (.iinc 3 1, 3) := by decide +kernel
theorem d_Mo_clash_34 : decode c_Mo_clash 34 = .ok (.goto (-30), 3) := by decide +kernel
theorem d_Mo_clash_37 : decode c_Mo_clash 37 = .ok (.iconst (-1), 1) := by decide +kernel
theorem d_Mo_clash_38 : decode c_Mo_clash 38 = .ok (.ireturn, 1) := by decide +kernel
theorem d_Mo_gain_0 : decode c_Mo_gain 0 = .ok (.aload_n 0, 1) := by decide +kernel
theorem d_Mo_gain_1 : decode c_Mo_gain 1 = .ok (.iload_n 1, 1) := by decide +kernel
theorem d_Mo_gain_2 : decode c_Mo_gain 2 = .ok (.invokevirtual 100, 3) := by decide +kernel
theorem d_Mo_gain_5 : decode c_Mo_gain 5 = .ok (.ifCond .ne 7, 3) := by decide +kernel
theorem d_Mo_gain_8 : decode c_Mo_gain 8 = .ok (.ldc2_w 71, 3) := by decide +kernel
theorem d_Mo_gain_11 : decode c_Mo_gain 11 = .ok (.lreturn, 1) := by decide +kernel
theorem d_Mo_gain_12 : decode c_Mo_gain 12 = .ok (.aload_n 0, 1) := by decide +kernel
theorem d_Mo_gain_13 : decode c_Mo_gain 13 = .ok (.aload_n 0, 1) := by decide +kernel
theorem d_Mo_gain_14 : decode c_Mo_gain 14 = .ok (.invokevirtual 143, 3) := by decide +kernel
theorem d_Mo_gain_17 : decode c_Mo_gain 17 = .ok (.iconst 0, 1) := by decide +kernel
theorem d_Mo_gain_18 : decode c_Mo_gain 18 = .ok (.invokevirtual 153, 3) := by decide +kernel
theorem d_Mo_gain_21 : decode c_Mo_gain 21 = .ok (.aload_n 0, 1) := by decide +kernel
theorem d_Mo_gain_22 : decode c_Mo_gain 22 = .ok (.iconst (-1), 1) := by decide +kernel
theorem d_Mo_gain_23 : decode c_Mo_gain 23 = .ok (.iconst 0, 1) := by decide +kernel
theorem d_Mo_gain_24 : decode c_Mo_gain 24 = .ok (.invokevirtual 157, 3) := by decide +kernel
theorem d_Mo_gain_27 : decode c_Mo_gain 27 = .ok (.lstore_n 2, 1) := by decide +kernel
theorem d_Mo_gain_28 : decode c_Mo_gain 28 = .ok (.lload_n 2, 1) := by decide +kernel
theorem d_Mo_gain_29 : decode c_Mo_gain 29 = .ok (.lconst 0, 1) := by decide +kernel
theorem d_Mo_gain_30 : decode c_Mo_gain 30 = .ok (.lcmp, 1) := by decide +kernel
theorem d_Mo_gain_31 : decode c_Mo_gain 31 = .ok (.ifCond .ge 7, 3) := by decide +kernel
theorem d_Mo_gain_34 : decode c_Mo_gain 34 = .ok (.ldc2_w 71, 3) := by decide +kernel
theorem d_Mo_gain_37 : decode c_Mo_gain 37 = .ok (.lreturn, 1) := by decide +kernel
theorem d_Mo_gain_38 : decode c_Mo_gain 38 = .ok (.aload_n 0, 1) := by decide +kernel
theorem d_Mo_gain_39 : decode c_Mo_gain 39 = .ok (.aload_n 0, 1) := by decide +kernel
theorem d_Mo_gain_40 : decode c_Mo_gain 40 = .ok (.invokevirtual 143, 3) := by decide +kernel
theorem d_Mo_gain_43 : decode c_Mo_gain 43 = .ok (.iconst 0, 1) := by decide +kernel
theorem d_Mo_gain_44 : decode c_Mo_gain 44 = .ok (.invokevirtual 153, 3) := by decide +kernel
theorem d_Mo_gain_47 : decode c_Mo_gain 47 = .ok (.lload_n 2, 1) := by decide +kernel
theorem d_Mo_gain_48 : decode c_Mo_gain 48 = .ok (.aload_n 0, 1) := by decide +kernel
theorem d_Mo_gain_49 : decode c_Mo_gain 49 = .ok (.iload_n 1, 1) := by decide +kernel
theorem d_Mo_gain_50 : decode c_Mo_gain 50 = .ok (.iconst 0, 1) := by decide +kernel
theorem d_Mo_gain_51 : decode c_Mo_gain 51 = .ok (.invokevirtual 157, 3) := by decide +kernel
theorem d_Mo_gain_54 : decode c_Mo_gain 54 = .ok (.lsub, 1) := by decide +kernel
theorem d_Mo_gain_55 : decode c_Mo_gain 55 = .ok (.lreturn, 1) := by decide +kernel
theorem d_Mo_exchange_0 : decode c_Mo_exchange 0 = .ok (.aload_n 0, 1) := by decide +kernel
theorem d_Mo_exchange_1 : decode c_Mo_exchange 1 = .ok (.aload_n 0, 1) := by decide +kernel
theorem d_Mo_exchange_2 : decode c_Mo_exchange 2 = .ok (.getfield 44, 3) := by decide +kernel
theorem d_Mo_exchange_5 : decode c_Mo_exchange 5 = .ok (.invokevirtual 132, 3) := by decide +kernel
theorem d_Mo_exchange_8 : decode c_Mo_exchange 8 = .ok (.lstore_n 1, 1) := by decide +kernel
theorem d_Mo_exchange_9 : decode c_Mo_exchange 9 = .ok (.iconst 0, 1) := by decide +kernel
theorem d_Mo_exchange_10 : decode c_Mo_exchange 10 = .ok (.istore_n 3, 1) := by decide +kernel
theorem d_Mo_exchange_11 : decode c_Mo_exchange 11 = .ok (.iload_n 3, 1) := by decide +kernel
theorem d_Mo_exchange_12 : decode c_Mo_exchange 12 = .ok (.aload_n 0, 1) := by decide +kernel
theorem d_Mo_exchange_13 : decode c_Mo_exchange 13 = .ok (.getfield 73, 3) := by decide +kernel
theorem d_Mo_exchange_16 : decode c_Mo_exchange 16 = .ok (.if_icmp .ge 90, 3) := by decide +kernel
theorem d_Mo_exchange_19 : decode c_Mo_exchange 19 = .ok (.aload_n 0, 1) := by decide +kernel
theorem d_Mo_exchange_20 : decode c_Mo_exchange 20 = .ok (.getfield 44, 3) := by decide +kernel
theorem d_Mo_exchange_23 : decode c_Mo_exchange 23 = .ok (.iload_n 3, 1) := by decide +kernel
theorem d_Mo_exchange_24 : decode c_Mo_exchange 24 = .ok (.iaload, 1) := by decide +kernel
theorem d_Mo_exchange_25 : decode c_Mo_exchange 25 = .ok (.istore 4, 2) := by decide +kernel
theorem d_Mo_exchange_27 : decode c_Mo_exchange 27 = .ok (.iconst 0, 1) := by decide +kernel
theorem d_Mo_exchange_28 : decode c_Mo_exchange 28 = .ok (.istore 5, 2) := by decide +kernel
theorem d_Mo_exchange_30 : decode c_Mo_exchange 30 = .ok (.iload 5, 2) := by decide +kernel
theorem d_Mo_exchange_32 : decode c_Mo_exchange 32 = .ok (.aload_n 0, 1) := by decide +kernel
theorem d_Mo_exchange_33 : decode c_Mo_exchange 33 = .ok (.getfield 77, 3) := by decide +kernel
theorem d_Mo_exchange_36 : decode c_Mo_exchange 36 = .ok (.if_icmp .ge 56, 3) := by decide +kernel
theorem d_Mo_exchange_39 : decode c_Mo_exchange 39 = .ok (.iload 4, 2) := by decide +kernel
theorem d_Mo_exchange_41 : decode c_Mo_exchange 41 = .ok (.ifCond .lt 51, 3) := by decide +kernel
theorem d_Mo_exchange_44 : decode c_Mo_exchange 44 = .ok (.aload_n 0, 1) := by decide +kernel
theorem d_Mo_exchange_45 : decode c_Mo_exchange 45 = .ok (.getfield 44, 3) := by decide +kernel
theorem d_Mo_exchange_48 : decode c_Mo_exchange 48 = .ok (.iload_n 3, 1) := by decide +kernel
theorem d_Mo_exchange_49 : decode c_Mo_exchange 49 = .ok (.iload 5, 2) := by decide +kernel
theorem d_Mo_exchange_51 : decode c_Mo_exchange 51 = .ok (.iastore, 1) := by decide +kernel
theorem d_Mo_exchange_52 : decode c_Mo_exchange 52 = .ok (.iload 5, 2) := by decide +kernel
theorem d_Mo_exchange_54 : decode c_Mo_exchange 54 = .ok (.iload 4, 2) := by decide +kernel
theorem d_Mo_exchange_56 : decode c_Mo_exchange 56 = .ok (.if_icmp .eq 30, 3) := by decide +kernel
theorem d_Mo_exchange_59 : decode c_Mo_exchange 59 = .ok (.aload_n 0, 1) := by decide +kernel
theorem d_Mo_exchange_60 : decode c_Mo_exchange 60 = .ok (.aload_n 0, 1) := by decide +kernel
theorem d_Mo_exchange_61 : decode c_Mo_exchange 61 = .ok (.getfield 44, 3) := by decide +kernel
theorem d_Mo_exchange_64 : decode c_Mo_exchange 64 = .ok (.iconst (-1), 1) := by decide +kernel
theorem d_Mo_exchange_65 : decode c_Mo_exchange 65 = .ok (.invokevirtual 129, 3) := by decide +kernel
theorem d_Mo_exchange_68 : decode c_Mo_exchange 68 = .ok (.ifCond .eq 18, 3) := by decide +kernel
theorem d_Mo_exchange_71 : decode c_Mo_exchange 71 = .ok (.aload_n 0, 1) := by decide +kernel
theorem d_Mo_exchange_72 : decode c_Mo_exchange 72 = .ok (.aload_n 0, 1) := by decide +kernel
theorem d_Mo_exchange_73 : decode c_Mo_exchange 73 = .ok (.getfield 44, 3) := by decide +kernel
theorem d_Mo_exchange_76 : decode c_Mo_exchange 76 = .ok (.invokevirtual 132, 3) := by decide +kernel
theorem d_Mo_exchange_79 : decode c_Mo_exchange 79 = .ok (.lload_n 1, 1) := by decide +kernel
theorem d_Mo_exchange_80 : decode c_Mo_exchange 80 = .ok (.lcmp, 1) := by decide +kernel
theorem d_Mo_exchange_81 : decode c_Mo_exchange 81 = .ok (.ifCond .ge 5, 3) := by decide +kernel
theorem d_Mo_exchange_84 : decode c_Mo_exchange 84 = .ok (.iconst 1, 1) := by decide +kernel
theorem d_Mo_exchange_85 : decode c_Mo_exchange 85 = .ok (.ireturn, 1) := by decide +kernel
theorem d_Mo_exchange_86 : decode c_Mo_exchange 86 = .ok (.iinc 5 1, 3) := by decide +kernel
theorem d_Mo_exchange_89 : decode c_Mo_exchange 89 = .ok (.goto (-59), 3) := by decide +kernel
theorem d_Mo_exchange_92 : decode c_Mo_exchange 92 = .ok (.aload_n 0, 1) := by decide +kernel
theorem d_Mo_exchange_93 : decode c_Mo_exchange 93 = .ok (.getfield 44, 3) := by decide +kernel
theorem d_Mo_exchange_96 : decode c_Mo_exchange 96 = .ok (.iload_n 3, 1) := by decide +kernel
theorem d_Mo_exchange_97 : decode c_Mo_exchange 97 = .ok (.iload 4, 2) := by decide +kernel
theorem d_Mo_exchange_99 : decode c_Mo_exchange 99 = .ok (.iastore, 1) := by decide +kernel
theorem d_Mo_exchange_100 : decode c_Mo_exchange 100 = .ok (.iinc 3 1, 3) := by decide +kernel
theorem d_Mo_exchange_103 : decode c_Mo_exchange 103 = .ok (.goto (-92), 3) := by decide +kernel
theorem d_Mo_exchange_106 : decode c_Mo_exchange 106 = .ok (.iconst 0, 1) := by decide +kernel
theorem d_Mo_exchange_107 : decode c_Mo_exchange 107 = .ok (.ireturn, 1) := by decide +kernel
theorem d_Mo_improve_0 : decode c_Mo_improve 0 = .ok (.aload_n 0, 1) := by decide +kernel
theorem d_Mo_improve_1 : decode c_Mo_improve 1 = .ok (.getfield 161, 3) := by decide +kernel
theorem d_Mo_improve_4 : decode c_Mo_improve 4 = .ok (.ifCond .eq 7, 3) := by decide +kernel
theorem d_Mo_improve_7 : decode c_Mo_improve 7 = .ok (.iload_n 1, 1) := by decide +kernel
theorem d_Mo_improve_8 : decode c_Mo_improve 8 = .ok (.ifCond .ge 5, 3) := by decide +kernel
theorem d_Mo_improve_11 : decode c_Mo_improve 11 = .ok (.iconst (-1), 1) := by decide +kernel
theorem d_Mo_improve_12 : decode c_Mo_improve 12 = .ok (.ireturn, 1) := by decide +kernel
theorem d_Mo_improve_13 : decode c_Mo_improve 13 = .ok (.aload_n 0, 1) := by decide +kernel
theorem d_Mo_improve_14 : decode c_Mo_improve 14 = .ok (.aload_n 0, 1) := by decide +kernel
theorem d_Mo_improve_15 : decode c_Mo_improve 15 = .ok (.invokevirtual 143, 3) := by decide +kernel
theorem d_Mo_improve_18 : decode c_Mo_improve 18 = .ok (.iconst 0, 1) := by decide +kernel
theorem d_Mo_improve_19 : decode c_Mo_improve 19 = .ok (.invokevirtual 153, 3) := by decide +kernel
theorem d_Mo_improve_22 : decode c_Mo_improve 22 = .ok (.iconst 0, 1) := by decide +kernel
theorem d_Mo_improve_23 : decode c_Mo_improve 23 = .ok (.istore_n 2, 1) := by decide +kernel
theorem d_Mo_improve_24 : decode c_Mo_improve 24 = .ok (.iload_n 2, 1) := by decide +kernel
theorem d_Mo_improve_25 : decode c_Mo_improve 25 = .ok (.iload_n 1, 1) := by decide +kernel
theorem d_Mo_improve_26 : decode c_Mo_improve 26 = .ok (.if_icmp .ge 16, 3) := by decide +kernel
theorem d_Mo_improve_29 : decode c_Mo_improve 29 = .ok (.aload_n 0, 1) := by decide +kernel
theorem d_Mo_improve_30 : decode c_Mo_improve 30 = .ok (.invokevirtual 174, 3) := by decide +kernel
theorem d_Mo_improve_33 : decode c_Mo_improve 33 = .ok (.ifCond .eq 9, 3) := by decide +kernel
theorem d_Mo_improve_36 : decode c_Mo_improve 36 = .ok (.iinc 2 1, 3) := by decide +kernel
theorem d_Mo_improve_39 : decode c_Mo_improve 39 = .ok (.goto (-15), 3) := by decide +kernel
theorem d_Mo_improve_42 : decode c_Mo_improve 42 = .ok (.aload_n 0, 1) := by decide +kernel
theorem d_Mo_improve_43 : decode c_Mo_improve 43 = .ok (.aload_n 0, 1) := by decide +kernel
theorem d_Mo_improve_44 : decode c_Mo_improve 44 = .ok (.aload_n 0, 1) := by decide +kernel
theorem d_Mo_improve_45 : decode c_Mo_improve 45 = .ok (.getfield 44, 3) := by decide +kernel
theorem d_Mo_improve_48 : decode c_Mo_improve 48 = .ok (.invokevirtual 132, 3) := by decide +kernel
theorem d_Mo_improve_51 : decode c_Mo_improve 51 = .ok (.putfield 171, 3) := by decide +kernel
theorem d_Mo_improve_54 : decode c_Mo_improve 54 = .ok (.iload_n 2, 1) := by decide +kernel
theorem d_Mo_improve_55 : decode c_Mo_improve 55 = .ok (.ireturn, 1) := by decide +kernel
theorem d_Mo_reckon_0 : decode c_Mo_reckon 0 = .ok (.iconst 0, 1) := by decide +kernel
theorem d_Mo_reckon_1 : decode c_Mo_reckon 1 = .ok (.istore_n 2, 1) := by decide +kernel
theorem d_Mo_reckon_2 : decode c_Mo_reckon 2 = .ok (.iload_n 2, 1) := by decide +kernel
theorem d_Mo_reckon_3 : decode c_Mo_reckon 3 = .ok (.bipush 32, 2) := by decide +kernel
theorem d_Mo_reckon_5 : decode c_Mo_reckon 5 = .ok (.if_icmp .ge 23, 3) := by decide +kernel
theorem d_Mo_reckon_8 : decode c_Mo_reckon 8 = .ok (.aload_n 0, 1) := by decide +kernel
theorem d_Mo_reckon_9 : decode c_Mo_reckon 9 = .ok (.getfield 60, 3) := by decide +kernel
theorem d_Mo_reckon_12 : decode c_Mo_reckon 12 = .ok (.bipush 32, 2) := by decide +kernel
theorem d_Mo_reckon_14 : decode c_Mo_reckon 14 = .ok (.iload_n 1, 1) := by decide +kernel
theorem d_Mo_reckon_15 : decode c_Mo_reckon 15 = .ok (.imul, 1) := by decide +kernel
theorem d_Mo_reckon_16 : decode c_Mo_reckon 16 = .ok (.iload_n 2, 1) := by decide +kernel
theorem d_Mo_reckon_17 : decode c_Mo_reckon 17 = .ok (.iadd, 1) := by decide +kernel
theorem d_Mo_reckon_18 : decode c_Mo_reckon 18 = .ok (.ldc2_w 177, 3) := by decide +kernel
theorem d_Mo_reckon_21 : decode c_Mo_reckon 21 = .ok (.lastore, 1) := by decide +kernel
theorem d_Mo_reckon_22 : decode c_Mo_reckon 22 = .ok (.iinc 2 1, 3) := by decide +kernel
theorem d_Mo_reckon_25 : decode c_Mo_reckon 25 = .ok (.goto (-23), 3) := by decide +kernel
theorem d_Mo_reckon_28 : decode c_Mo_reckon 28 = .ok (.aload_n 0, 1) := by decide +kernel
theorem d_Mo_reckon_29 : decode c_Mo_reckon 29 = .ok (.aload_n 0, 1) := by decide +kernel
theorem d_Mo_reckon_30 : decode c_Mo_reckon 30 = .ok (.invokevirtual 143, 3) := by decide +kernel
theorem d_Mo_reckon_33 : decode c_Mo_reckon 33 = .ok (.iload_n 1, 1) := by decide +kernel
theorem d_Mo_reckon_34 : decode c_Mo_reckon 34 = .ok (.invokevirtual 153, 3) := by decide +kernel
theorem d_Mo_reckon_37 : decode c_Mo_reckon 37 = .ok (.aload_n 0, 1) := by decide +kernel
theorem d_Mo_reckon_38 : decode c_Mo_reckon 38 = .ok (.getfield 77, 3) := by decide +kernel
theorem d_Mo_reckon_41 : decode c_Mo_reckon 41 = .ok (.ifCond .gt 10, 3) := by decide +kernel
theorem d_Mo_reckon_44 : decode c_Mo_reckon 44 = .ok (.aload_n 0, 1) := by decide +kernel
theorem d_Mo_reckon_45 : decode c_Mo_reckon 45 = .ok (.invokevirtual 125, 3) := by decide +kernel
theorem d_Mo_reckon_48 : decode c_Mo_reckon 48 = .ok (.ifCond .ne 7, 3) := by decide +kernel
theorem d_Mo_reckon_51 : decode c_Mo_reckon 51 = .ok (.iconst 1, 1) := by decide +kernel
theorem d_Mo_reckon_52 : decode c_Mo_reckon 52 = .ok (.goto 4, 3) := by decide +kernel
theorem d_Mo_reckon_55 : decode c_Mo_reckon 55 = .ok (.iconst 0, 1) := by decide +kernel
theorem d_Mo_reckon_56 : decode c_Mo_reckon 56 = .ok (.istore_n 2, 1) := by decide +kernel
theorem d_Mo_reckon_57 : decode c_Mo_reckon 57 = .ok (.iload_n 2, 1) := by decide +kernel
theorem d_Mo_reckon_58 : decode c_Mo_reckon 58 = .ok (.ifCond .eq 86, 3) := by decide +kernel
theorem d_Mo_reckon_61 : decode c_Mo_reckon 61 = .ok (.aload_n 0, 1) := by decide +kernel
theorem d_Mo_reckon_62 : decode c_Mo_reckon 62 = .ok (.aload_n 0, 1) := by decide +kernel
theorem d_Mo_reckon_63 : decode c_Mo_reckon 63 = .ok (.getfield 51, 3) := by decide +kernel
theorem d_Mo_reckon_66 : decode c_Mo_reckon 66 = .ok (.invokevirtual 118, 3) := by decide +kernel
theorem d_Mo_reckon_69 : decode c_Mo_reckon 69 = .ok (.istore_n 3, 1) := by decide +kernel
theorem d_Mo_reckon_70 : decode c_Mo_reckon 70 = .ok (.aload_n 0, 1) := by decide +kernel
theorem d_Mo_reckon_71 : decode c_Mo_reckon 71 = .ok (.aload_n 0, 1) := by decide +kernel
theorem d_Mo_reckon_72 : decode c_Mo_reckon 72 = .ok (.getfield 51, 3) := by decide +kernel
theorem d_Mo_reckon_75 : decode c_Mo_reckon 75 = .ok (.iconst (-1), 1) := by decide +kernel
theorem d_Mo_reckon_76 : decode c_Mo_reckon 76 = .ok (.invokevirtual 129, 3) := by decide +kernel
theorem d_Mo_reckon_79 : decode c_Mo_reckon 79 = .ok (.ifCond .eq 57, 3) := by decide +kernel
theorem d_Mo_reckon_82 : decode c_Mo_reckon 82 = .ok (.aload_n 0, 1) := by decide +kernel
theorem d_Mo_reckon_83 : decode c_Mo_reckon 83 = .ok (.aload_n 0, 1) := by decide +kernel
theorem d_Mo_reckon_84 : decode c_Mo_reckon 84 = .ok (.getfield 51, 3) := by decide +kernel
theorem d_Mo_reckon_87 : decode c_Mo_reckon 87 = .ok (.invokevirtual 132, 3) := by decide +kernel
theorem d_Mo_reckon_90 : decode c_Mo_reckon 90 = .ok (.lstore 4, 2) := by decide +kernel
theorem d_Mo_reckon_92 : decode c_Mo_reckon 92 = .ok (.aload_n 0, 1) := by decide +kernel
theorem d_Mo_reckon_93 : decode c_Mo_reckon 93 = .ok (.getfield 60, 3) := by decide +kernel
theorem d_Mo_reckon_96 : decode c_Mo_reckon 96 = .ok (.bipush 32, 2) := by decide +kernel
theorem d_Mo_reckon_98 : decode c_Mo_reckon 98 = .ok (.iload_n 1, 1) := by decide +kernel
theorem d_Mo_reckon_99 : decode c_Mo_reckon 99 = .ok (.imul, 1) := by decide +kernel
theorem d_Mo_reckon_100 : decode c_Mo_reckon 100 = .ok (.iload_n 3, 1) := by decide +kernel
theorem d_Mo_reckon_101 : decode c_Mo_reckon 101 = .ok (.iadd, 1) := by decide +kernel
theorem d_Mo_reckon_102 : decode c_Mo_reckon 102 = .ok (.lload 4, 2) := by decide +kernel
theorem d_Mo_reckon_104 : decode c_Mo_reckon 104 = .ok (.aload_n 0, 1) := by decide +kernel
theorem d_Mo_reckon_105 : decode c_Mo_reckon 105 = .ok (.getfield 60, 3) := by decide +kernel
theorem d_Mo_reckon_108 : decode c_Mo_reckon 108 = .ok (.bipush 32, 2) := by decide +kernel
theorem d_Mo_reckon_110 : decode c_Mo_reckon 110 = .ok (.iload_n 1, 1) := by decide +kernel
theorem d_Mo_reckon_111 : decode c_Mo_reckon 111 = .ok (.imul, 1) := by decide +kernel
theorem d_Mo_reckon_112 : decode c_Mo_reckon 112 = .ok (.iload_n 3, 1) := by decide +kernel
theorem d_Mo_reckon_113 : decode c_Mo_reckon 113 = .ok (.iadd, 1) := by decide +kernel
theorem d_Mo_reckon_114 : decode c_Mo_reckon 114 = .ok (.laload, 1) := by decide +kernel
theorem d_Mo_reckon_115 : decode c_Mo_reckon 115 = .ok (.lcmp, 1) := by decide +kernel
theorem d_Mo_reckon_116 : decode c_Mo_reckon 116 = .ok (.ifCond .ge 8, 3) := by decide +kernel
theorem d_Mo_reckon_119 : decode c_Mo_reckon 119 = .ok (.lload 4, 2) := by decide +kernel
theorem d_Mo_reckon_121 : decode c_Mo_reckon 121 = .ok (.goto 14, 3) := by decide +kernel
theorem d_Mo_reckon_124 : decode c_Mo_reckon 124 = .ok (.aload_n 0, 1) := by decide +kernel
theorem d_Mo_reckon_125 : decode c_Mo_reckon 125 = .ok (.getfield 60, 3) := by decide +kernel
theorem d_Mo_reckon_128 : decode c_Mo_reckon 128 = .ok (.bipush 32, 2) := by decide +kernel
theorem d_Mo_reckon_130 : decode c_Mo_reckon 130 = .ok (.iload_n 1, 1) := by decide +kernel
theorem d_Mo_reckon_131 : decode c_Mo_reckon 131 = .ok (.imul, 1) := by decide +kernel
theorem d_Mo_reckon_132 : decode c_Mo_reckon 132 = .ok (.iload_n 3, 1) := by decide +kernel
theorem d_Mo_reckon_133 : decode c_Mo_reckon 133 = .ok (.iadd, 1) := by decide +kernel
theorem d_Mo_reckon_134 : decode c_Mo_reckon 134 = .ok (.laload, 1) := by decide +kernel
theorem d_Mo_reckon_135 : decode c_Mo_reckon 135 = .ok (.lastore, 1) := by decide +kernel
theorem d_Mo_reckon_136 : decode c_Mo_reckon 136 = .ok (.aload_n 0, 1) := by decide +kernel
theorem d_Mo_reckon_137 : decode c_Mo_reckon 137 = .ok (.invokevirtual 136, 3) := by decide +kernel
theorem d_Mo_reckon_140 : decode c_Mo_reckon 140 = .ok (.istore_n 2, 1) := by decide +kernel
theorem d_Mo_reckon_141 : decode c_Mo_reckon 141 = .ok (.goto (-84), 3) := by decide +kernel
theorem d_Mo_reckon_144 : decode c_Mo_reckon 144 = .ok (.iconst 0, 1) := by decide +kernel
theorem d_Mo_reckon_145 : decode c_Mo_reckon 145 = .ok (.istore_n 3, 1) := by decide +kernel
theorem d_Mo_reckon_146 : decode c_Mo_reckon 146 = .ok (.iload_n 3, 1) := by decide +kernel
theorem d_Mo_reckon_147 : decode c_Mo_reckon 147 = .ok (.bipush 32, 2) := by decide +kernel
theorem d_Mo_reckon_149 : decode c_Mo_reckon 149 = .ok (.if_icmp .ge 136, 3) := by decide +kernel
theorem d_Mo_reckon_152 : decode c_Mo_reckon 152 = .ok (.ldc2_w 177, 3) := by decide +kernel
theorem d_Mo_reckon_155 : decode c_Mo_reckon 155 = .ok (.lstore 4, 2) := by decide +kernel
theorem d_Mo_reckon_157 : decode c_Mo_reckon 157 = .ok (.iconst 0, 1) := by decide +kernel
theorem d_Mo_reckon_158 : decode c_Mo_reckon 158 = .ok (.istore 6, 2) := by decide +kernel
theorem d_Mo_reckon_160 : decode c_Mo_reckon 160 = .ok (.iload 6, 2) := by decide +kernel
theorem d_Mo_reckon_162 : decode c_Mo_reckon 162 = .ok (.bipush 32, 2) := by decide +kernel
theorem d_Mo_reckon_164 : decode c_Mo_reckon 164 = .ok (.if_icmp .ge 77, 3) := by decide +kernel
theorem d_Mo_reckon_167 : decode c_Mo_reckon 167 = .ok (.iload_n 3, 1) := by decide +kernel
theorem d_Mo_reckon_168 : decode c_Mo_reckon 168 = .ok (.iconst 1, 1) := by decide +kernel
theorem d_Mo_reckon_169 : decode c_Mo_reckon 169 = .ok (.aload_n 0, 1) := by decide +kernel
theorem d_Mo_reckon_170 : decode c_Mo_reckon 170 = .ok (.getfield 77, 3) := by decide +kernel
theorem d_Mo_reckon_173 : decode c_Mo_reckon 173 = .ok (.ishl, 1) := by decide +kernel
theorem d_Mo_reckon_174 : decode c_Mo_reckon 174 = .ok (.if_icmp .ge 67, 3) := by decide +kernel
theorem d_Mo_reckon_177 : decode c_Mo_reckon 177 = .ok (.iload 6, 2) := by decide +kernel
theorem d_Mo_reckon_179 : decode c_Mo_reckon 179 = .ok (.iload_n 3, 1) := by decide +kernel
theorem d_Mo_reckon_180 : decode c_Mo_reckon 180 = .ok (.iand, 1) := by decide +kernel
theorem d_Mo_reckon_181 : decode c_Mo_reckon 181 = .ok (.iload 6, 2) := by decide +kernel
theorem d_Mo_reckon_183 : decode c_Mo_reckon 183 = .ok (.if_icmp .ne 7, 3) := by decide +kernel
theorem d_Mo_reckon_186 : decode c_Mo_reckon 186 = .ok (.iconst 1, 1) := by decide +kernel
theorem d_Mo_reckon_187 : decode c_Mo_reckon 187 = .ok (.goto 4, 3) := by decide +kernel
theorem d_Mo_reckon_190 : decode c_Mo_reckon 190 = .ok (.iconst 0, 1) := by decide +kernel
theorem d_Mo_reckon_191 : decode c_Mo_reckon 191 = .ok (.istore 7, 2) := by decide +kernel
theorem d_Mo_reckon_193 : decode c_Mo_reckon 193 = .ok (.iload 7, 2) := by decide +kernel
theorem d_Mo_reckon_195 : decode c_Mo_reckon 195 = .ok (.ifCond .eq 36, 3) := by decide +kernel
theorem d_Mo_reckon_198 : decode c_Mo_reckon 198 = .ok (.aload_n 0, 1) := by decide +kernel
theorem d_Mo_reckon_199 : decode c_Mo_reckon 199 = .ok (.getfield 60, 3) := by decide +kernel
theorem d_Mo_reckon_202 : decode c_Mo_reckon 202 = .ok (.bipush 32, 2) := by decide +kernel
theorem d_Mo_reckon_204 : decode c_Mo_reckon 204 = .ok (.iload_n 1, 1) := by decide +kernel
theorem d_Mo_reckon_205 : decode c_Mo_reckon 205 = .ok (.imul, 1) := by decide +kernel
theorem d_Mo_reckon_206 : decode c_Mo_reckon 206 = .ok (.iload 6, 2) := by decide +kernel
theorem d_Mo_reckon_208 : decode c_Mo_reckon 208 = .ok (.iadd, 1) := by decide +kernel
theorem d_Mo_reckon_209 : decode c_Mo_reckon 209 = .ok (.laload, 1) := by decide +kernel
theorem d_Mo_reckon_210 : decode c_Mo_reckon 210 = .ok (.lload 4, 2) := by decide +kernel
theorem d_Mo_reckon_212 : decode c_Mo_reckon 212 = .ok (.lcmp, 1) := by decide +kernel
theorem d_Mo_reckon_213 : decode c_Mo_reckon 213 = .ok (.ifCond .ge 18, 3) := by decide +kernel
theorem d_Mo_reckon_216 : decode c_Mo_reckon 216 = .ok (.aload_n 0, 1) := by decide +kernel
theorem d_Mo_reckon_217 : decode c_Mo_reckon 217 = .ok (.getfield 60, 3) := by decide +kernel
theorem d_Mo_reckon_220 : decode c_Mo_reckon 220 = .ok (.bipush 32, 2) := by decide +kernel
theorem d_Mo_reckon_222 : decode c_Mo_reckon 222 = .ok (.iload_n 1, 1) := by decide +kernel
theorem d_Mo_reckon_223 : decode c_Mo_reckon 223 = .ok (.imul, 1) := by decide +kernel
theorem d_Mo_reckon_224 : decode c_Mo_reckon 224 = .ok (.iload 6, 2) := by decide +kernel
theorem d_Mo_reckon_226 : decode c_Mo_reckon 226 = .ok (.iadd, 1) := by decide +kernel
theorem d_Mo_reckon_227 : decode c_Mo_reckon 227 = .ok (.laload, 1) := by decide +kernel
theorem d_Mo_reckon_228 : decode c_Mo_reckon 228 = .ok (.goto 5, 3) := by decide +kernel
theorem d_Mo_reckon_231 : decode c_Mo_reckon 231 = .ok (.lload 4, 2) := by decide +kernel
theorem d_Mo_reckon_233 : decode c_Mo_reckon 233 = .ok (.lstore 4, 2) := by decide +kernel
theorem d_Mo_reckon_235 : decode c_Mo_reckon 235 = .ok (.iinc 6 1, 3) := by decide +kernel
theorem d_Mo_reckon_238 : decode c_Mo_reckon 238 = .ok (.goto (-78), 3) := by decide +kernel
theorem d_Mo_reckon_241 : decode c_Mo_reckon 241 = .ok (.aload_n 0, 1) := by decide +kernel
theorem d_Mo_reckon_242 : decode c_Mo_reckon 242 = .ok (.getfield 63, 3) := by decide +kernel
theorem d_Mo_reckon_245 : decode c_Mo_reckon 245 = .ok (.bipush 32, 2) := by decide +kernel
theorem d_Mo_reckon_247 : decode c_Mo_reckon 247 = .ok (.iload_n 1, 1) := by decide +kernel
theorem d_Mo_reckon_248 : decode c_Mo_reckon 248 = .ok (.imul, 1) := by decide +kernel
theorem d_Mo_reckon_249 : decode c_Mo_reckon 249 = .ok (.iload_n 3, 1) := by decide +kernel
theorem d_Mo_reckon_250 : decode c_Mo_reckon 250 = .ok (.iadd, 1) := by decide +kernel
theorem d_Mo_reckon_251 : decode c_Mo_reckon 251 = .ok (.iload_n 3, 1) := by decide +kernel
theorem d_Mo_reckon_252 : decode c_Mo_reckon 252 = .ok (.iconst 1, 1) := by decide +kernel
theorem d_Mo_reckon_253 : decode c_Mo_reckon 253 = .ok (.aload_n 0, 1) := by decide +kernel
theorem d_Mo_reckon_254 : decode c_Mo_reckon 254 = .ok (.getfield 77, 3) := by decide +kernel
theorem d_Mo_reckon_257 : decode c_Mo_reckon 257 = .ok (.ishl, 1) := by decide +kernel
theorem d_Mo_reckon_258 : decode c_Mo_reckon 258 = .ok (.if_icmp .ge 17, 3) := by decide +kernel
theorem d_Mo_reckon_261 : decode c_Mo_reckon 261 = .ok (.aload_n 0, 1) := by decide +kernel
theorem d_Mo_reckon_262 : decode c_Mo_reckon 262 = .ok (.iload_n 3, 1) := by decide +kernel
theorem d_Mo_reckon_263 : decode c_Mo_reckon 263 = .ok (.iconst (-1), 1) := by decide +kernel
theorem d_Mo_reckon_264 : decode c_Mo_reckon 264 = .ok (.invokevirtual 122, 3) := by decide +kernel
theorem d_Mo_reckon_267 : decode c_Mo_reckon 267 = .ok (.ifCond .eq 8, 3) := by decide +kernel
theorem d_Mo_reckon_270 : decode c_Mo_reckon 270 = .ok (.lload 4, 2) := by decide +kernel
theorem d_Mo_reckon_272 : decode c_Mo_reckon 272 = .ok (.goto 6, 3) := by decide +kernel
theorem d_Mo_reckon_275 : decode c_Mo_reckon 275 = .ok (.ldc2_w 177, 3) := by decide +kernel
theorem d_Mo_reckon_278 : decode c_Mo_reckon 278 = .ok (.lastore, 1) := by decide +kernel
theorem d_Mo_reckon_279 : decode c_Mo_reckon 279 = .ok (.iinc 3 1, 3) := by decide +kernel
theorem d_Mo_reckon_282 : decode c_Mo_reckon 282 = .ok (.goto (-136), 3) := by decide +kernel
theorem d_Mo_reckon_285 : decode c_Mo_reckon 285 = .ok (.return_, 1) := by decide +kernel
theorem d_Mo_yearCost_0 : decode c_Mo_yearCost 0 = .ok (.aload_n 0, 1) := by decide +kernel
theorem d_Mo_yearCost_1 : decode c_Mo_yearCost 1 = .ok (.getfield 63, 3) := by decide +kernel
theorem d_Mo_yearCost_4 : decode c_Mo_yearCost 4 = .ok (.bipush 32, 2) := by decide +kernel
theorem d_Mo_yearCost_6 : decode c_Mo_yearCost 6 = .ok (.iload_n 1, 1) := by decide +kernel
theorem d_Mo_yearCost_7 : decode c_Mo_yearCost 7 = .ok (.imul, 1) := by decide +kernel
theorem d_Mo_yearCost_8 : decode c_Mo_yearCost 8 = .ok (.iload_n 2, 1) := by decide +kernel
theorem d_Mo_yearCost_9 : decode c_Mo_yearCost 9 = .ok (.iadd, 1) := by decide +kernel
theorem d_Mo_yearCost_10 : decode c_Mo_yearCost 10 = .ok (.laload, 1) := by decide +kernel
theorem d_Mo_yearCost_11 : decode c_Mo_yearCost 11 = .ok (.lstore 4, 2) := by decide +kernel
theorem d_Mo_yearCost_13 : decode c_Mo_yearCost 13 = .ok (.iconst 0, 1) := by decide +kernel
theorem d_Mo_yearCost_14 : decode c_Mo_yearCost 14 = .ok (.istore 6, 2) := by decide +kernel
theorem d_Mo_yearCost_16 : decode c_Mo_yearCost 16 = .ok (.iload 6, 2) := by decide +kernel
theorem d_Mo_yearCost_18 : decode c_Mo_yearCost 18 = .ok (.aload_n 0, 1) := by decide +kernel
theorem d_Mo_yearCost_19 : decode c_Mo_yearCost 19 = .ok (.getfield 77, 3) := by decide +kernel
theorem d_Mo_yearCost_22 : decode c_Mo_yearCost 22 = .ok (.if_icmp .ge 43, 3) := by decide +kernel
theorem d_Mo_yearCost_25 : decode c_Mo_yearCost 25 = .ok (.lload 4, 2) := by decide +kernel
theorem d_Mo_yearCost_27 : decode c_Mo_yearCost 27 = .ok (.iload_n 2, 1) := by decide +kernel
theorem d_Mo_yearCost_28 : decode c_Mo_yearCost 28 = .ok (.iload 6, 2) := by decide +kernel
theorem d_Mo_yearCost_30 : decode c_Mo_yearCost 30 = .ok (.invokestatic 105, 3) := by decide +kernel
theorem d_Mo_yearCost_33 : decode c_Mo_yearCost 33 = .ok (.ifCond .eq 22, 3) := by decide +kernel
theorem d_Mo_yearCost_36 : decode c_Mo_yearCost 36 = .ok (.iload_n 3, 1) := by decide +kernel
theorem d_Mo_yearCost_37 : decode c_Mo_yearCost 37 = .ok (.iload 6, 2) := by decide +kernel
theorem d_Mo_yearCost_39 : decode c_Mo_yearCost 39 = .ok (.invokestatic 105, 3) := by decide +kernel
theorem d_Mo_yearCost_42 : decode c_Mo_yearCost 42 = .ok (.ifCond .ne 13, 3) := by decide +kernel
theorem d_Mo_yearCost_45 : decode c_Mo_yearCost 45 = .ok (.aload_n 0, 1) := by decide +kernel
theorem d_Mo_yearCost_46 : decode c_Mo_yearCost 46 = .ok (.getfield 22, 3) := by decide +kernel
theorem d_Mo_yearCost_49 : decode c_Mo_yearCost 49 = .ok (.iload 6, 2) := by decide +kernel
theorem d_Mo_yearCost_51 : decode c_Mo_yearCost 51 = .ok (.laload, 1) := by decide +kernel
theorem d_Mo_yearCost_52 : decode c_Mo_yearCost 52 = .ok (.goto 4, 3) := by decide +kernel
theorem d_Mo_yearCost_55 : decode c_Mo_yearCost 55 = .ok (.lconst 0, 1) := by decide +kernel
theorem d_Mo_yearCost_56 : decode c_Mo_yearCost 56 = .ok (.ladd, 1) := by decide +kernel
theorem d_Mo_yearCost_57 : decode c_Mo_yearCost 57 = .ok (.lstore 4, 2) := by decide +kernel
theorem d_Mo_yearCost_59 : decode c_Mo_yearCost 59 = .ok (.iinc 6 1, 3) := by decide +kernel
theorem d_Mo_yearCost_62 : decode c_Mo_yearCost 62 = .ok (.goto (-46), 3) := by decide +kernel
theorem d_Mo_yearCost_65 : decode c_Mo_yearCost 65 = .ok (.lload 4, 2) := by decide +kernel
theorem d_Mo_yearCost_67 : decode c_Mo_yearCost 67 = .ok (.lreturn, 1) := by decide +kernel
theorem d_Mo_years_0 : decode c_Mo_years 0 = .ok (.iload_n 1, 1) := by decide +kernel
theorem d_Mo_years_1 : decode c_Mo_years 1 = .ok (.iconst 1, 1) := by decide +kernel
theorem d_Mo_years_2 : decode c_Mo_years 2 = .ok (.if_icmp .lt 9, 3) := by decide +kernel
theorem d_Mo_years_5 : decode c_Mo_years 5 = .ok (.iload_n 1, 1) := by decide +kernel
theorem d_Mo_years_6 : decode c_Mo_years 6 = .ok (.bipush 6, 2) := by decide +kernel
theorem d_Mo_years_8 : decode c_Mo_years 8 = .ok (.if_icmp .le 5, 3) := by decide +kernel
theorem d_Mo_years_11 : decode c_Mo_years 11 = .ok (.iconst (-1), 1) := by decide +kernel
theorem d_Mo_years_12 : decode c_Mo_years 12 = .ok (.ireturn, 1) := by decide +kernel
theorem d_Mo_years_13 : decode c_Mo_years 13 = .ok (.iconst 0, 1) := by decide +kernel
theorem d_Mo_years_14 : decode c_Mo_years 14 = .ok (.istore_n 2, 1) := by decide +kernel
theorem d_Mo_years_15 : decode c_Mo_years 15 = .ok (.iload_n 2, 1) := by decide +kernel
theorem d_Mo_years_16 : decode c_Mo_years 16 = .ok (.iload_n 1, 1) := by decide +kernel
theorem d_Mo_years_17 : decode c_Mo_years 17 = .ok (.if_icmp .ge 14, 3) := by decide +kernel
theorem d_Mo_years_20 : decode c_Mo_years 20 = .ok (.aload_n 0, 1) := by decide +kernel
theorem d_Mo_years_21 : decode c_Mo_years 21 = .ok (.iload_n 2, 1) := by decide +kernel
theorem d_Mo_years_22 : decode c_Mo_years 22 = .ok (.invokevirtual 179, 3) := by decide +kernel
theorem d_Mo_years_25 : decode c_Mo_years 25 = .ok (.iinc 2 1, 3) := by decide +kernel
theorem d_Mo_years_28 : decode c_Mo_years 28 = .ok (.goto (-13), 3) := by decide +kernel
theorem d_Mo_years_31 : decode c_Mo_years 31 = .ok (.iconst 0, 1) := by decide +kernel
theorem d_Mo_years_32 : decode c_Mo_years 32 = .ok (.istore_n 2, 1) := by decide +kernel
theorem d_Mo_years_33 : decode c_Mo_years 33 = .ok (.iload_n 2, 1) := by decide +kernel
theorem d_Mo_years_34 : decode c_Mo_years 34 = .ok (.bipush 32, 2) := by decide +kernel
theorem d_Mo_years_36 : decode c_Mo_years 36 = .ok (.if_icmp .ge 21, 3) := by decide +kernel
theorem d_Mo_years_39 : decode c_Mo_years 39 = .ok (.aload_n 0, 1) := by decide +kernel
theorem d_Mo_years_40 : decode c_Mo_years 40 = .ok (.getfield 66, 3) := by decide +kernel
theorem d_Mo_years_43 : decode c_Mo_years 43 = .ok (.bipush 32, 2) := by decide +kernel
theorem d_Mo_years_45 : decode c_Mo_years 45 = .ok (.iload_n 1, 1) := by decide +kernel
theorem d_Mo_years_46 : decode c_Mo_years 46 = .ok (.imul, 1) := by decide +kernel
theorem d_Mo_years_47 : decode c_Mo_years 47 = .ok (.iload_n 2, 1) := by decide +kernel
theorem d_Mo_years_48 : decode c_Mo_years 48 = .ok (.iadd, 1) := by decide +kernel
theorem d_Mo_years_49 : decode c_Mo_years 49 = .ok (.lconst 0, 1) := by decide +kernel
theorem d_Mo_years_50 : decode c_Mo_years 50 = .ok (.lastore, 1) := by decide +kernel
theorem d_Mo_years_51 : decode c_Mo_years 51 = .ok (.iinc 2 1, 3) := by decide +kernel
theorem d_Mo_years_54 : decode c_Mo_years 54 = .ok (.goto (-21), 3) := by decide +kernel
theorem d_Mo_years_57 : decode c_Mo_years 57 = .ok (.iload_n 1, 1) := by decide +kernel
theorem d_Mo_years_58 : decode c_Mo_years 58 = .ok (.iconst 1, 1) := by decide +kernel
theorem d_Mo_years_59 : decode c_Mo_years 59 = .ok (.isub, 1) := by decide +kernel
theorem d_Mo_years_60 : decode c_Mo_years 60 = .ok (.istore_n 2, 1) := by decide +kernel
theorem d_Mo_years_61 : decode c_Mo_years 61 = .ok (.iload_n 2, 1) := by decide +kernel
theorem d_Mo_years_62 : decode c_Mo_years 62 = .ok (.ifCond .lt 99, 3) := by decide +kernel
theorem d_Mo_years_65 : decode c_Mo_years 65 = .ok (.iconst 0, 1) := by decide +kernel
theorem d_Mo_years_66 : decode c_Mo_years 66 = .ok (.istore_n 3, 1) := by decide +kernel
theorem d_Mo_years_67 : decode c_Mo_years 67 = .ok (.iload_n 3, 1) := by decide +kernel
theorem d_Mo_years_68 : decode c_Mo_years 68 = .ok (.bipush 32, 2) := by decide +kernel
theorem d_Mo_years_70 : decode c_Mo_years 70 = .ok (.if_icmp .ge 85, 3) := by decide +kernel
theorem d_Mo_years_73 : decode c_Mo_years 73 = .ok (.ldc2_w 177, 3) := by decide +kernel
theorem d_Mo_years_76 : decode c_Mo_years 76 = .ok (.lstore 4, 2) := by decide +kernel
theorem d_Mo_years_78 : decode c_Mo_years 78 = .ok (.iconst 0, 1) := by decide +kernel
theorem d_Mo_years_79 : decode c_Mo_years 79 = .ok (.istore 6, 2) := by decide +kernel
theorem d_Mo_years_81 : decode c_Mo_years 81 = .ok (.iload 6, 2) := by decide +kernel
theorem d_Mo_years_83 : decode c_Mo_years 83 = .ok (.bipush 32, 2) := by decide +kernel
theorem d_Mo_years_85 : decode c_Mo_years 85 = .ok (.if_icmp .ge 51, 3) := by decide +kernel
theorem d_Mo_years_88 : decode c_Mo_years 88 = .ok (.aload_n 0, 1) := by decide +kernel
theorem d_Mo_years_89 : decode c_Mo_years 89 = .ok (.iload_n 2, 1) := by decide +kernel
theorem d_Mo_years_90 : decode c_Mo_years 90 = .ok (.iload 6, 2) := by decide +kernel
theorem d_Mo_years_92 : decode c_Mo_years 92 = .ok (.iload_n 3, 1) := by decide +kernel
theorem d_Mo_years_93 : decode c_Mo_years 93 = .ok (.invokevirtual 183, 3) := by decide +kernel
theorem d_Mo_years_96 : decode c_Mo_years 96 = .ok (.aload_n 0, 1) := by decide +kernel
theorem d_Mo_years_97 : decode c_Mo_years 97 = .ok (.getfield 66, 3) := by decide +kernel
theorem d_Mo_years_100 : decode c_Mo_years 100 = .ok (.bipush 32, 2) := by decide +kernel
theorem d_Mo_years_102 : decode c_Mo_years 102 = .ok (.iload_n 2, 1) := by decide +kernel
theorem d_Mo_years_103 : decode c_Mo_years 103 = .ok (.iconst 1, 1) := by decide +kernel
theorem d_Mo_years_104 : decode c_Mo_years 104 = .ok (.iadd, 1) := by decide +kernel
theorem d_Mo_years_105 : decode c_Mo_years 105 = .ok (.imul, 1) := by decide +kernel
theorem d_Mo_years_106 : decode c_Mo_years 106 = .ok (.iload 6, 2) := by decide +kernel
theorem d_Mo_years_108 : decode c_Mo_years 108 = .ok (.iadd, 1) := by decide +kernel
theorem d_Mo_years_109 : decode c_Mo_years 109 = .ok (.laload, 1) := by decide +kernel
theorem d_Mo_years_110 : decode c_Mo_years 110 = .ok (.ladd, 1) := by decide +kernel
theorem d_Mo_years_111 : decode c_Mo_years 111 = .ok (.lstore 7, 2) := by decide +kernel
theorem d_Mo_years_113 : decode c_Mo_years 113 = .ok (.lload 7, 2) := by decide +kernel
theorem d_Mo_years_115 : decode c_Mo_years 115 = .ok (.lload 4, 2) := by decide +kernel
theorem d_Mo_years_117 : decode c_Mo_years 117 = .ok (.lcmp, 1) := by decide +kernel
theorem d_Mo_years_118 : decode c_Mo_years 118 = .ok (.ifCond .ge 8, 3) := by decide +kernel
theorem d_Mo_years_121 : decode c_Mo_years 121 = .ok (.lload 7, 2) := by decide +kernel
theorem d_Mo_years_123 : decode c_Mo_years 123 = .ok (.goto 5, 3) := by decide +kernel
theorem d_Mo_years_126 : decode c_Mo_years 126 = .ok (.lload 4, 2) := by decide +kernel
theorem d_Mo_years_128 : decode c_Mo_years 128 = .ok (.lstore 4, 2) := by decide +kernel
theorem d_Mo_years_130 : decode c_Mo_years 130 = .ok (.iinc 6 1, 3) := by decide +kernel
theorem d_Mo_years_133 : decode c_Mo_years 133 = .ok (.goto (-52), 3) := by decide +kernel
theorem d_Mo_years_136 : decode c_Mo_years 136 = .ok (.aload_n 0, 1) := by decide +kernel
theorem d_Mo_years_137 : decode c_Mo_years 137 = .ok (.getfield 66, 3) := by decide +kernel
theorem d_Mo_years_140 : decode c_Mo_years 140 = .ok (.bipush 32, 2) := by decide +kernel
theorem d_Mo_years_142 : decode c_Mo_years 142 = .ok (.iload_n 2, 1) := by decide +kernel
theorem d_Mo_years_143 : decode c_Mo_years 143 = .ok (.imul, 1) := by decide +kernel
theorem d_Mo_years_144 : decode c_Mo_years 144 = .ok (.iload_n 3, 1) := by decide +kernel
theorem d_Mo_years_145 : decode c_Mo_years 145 = .ok (.iadd, 1) := by decide +kernel
theorem d_Mo_years_146 : decode c_Mo_years 146 = .ok (.lload 4, 2) := by decide +kernel
theorem d_Mo_years_148 : decode c_Mo_years 148 = .ok (.lastore, 1) := by decide +kernel
theorem d_Mo_years_149 : decode c_Mo_years 149 = .ok (.iinc 3 1, 3) := by decide +kernel
theorem d_Mo_years_152 : decode c_Mo_years 152 = .ok (.goto (-85), 3) := by decide +kernel
theorem d_Mo_years_155 : decode c_Mo_years 155 = .ok (.iinc 2 (-1), 3) := by decide +kernel
theorem d_Mo_years_158 : decode c_Mo_years 158 = .ok (.goto (-97), 3) := by decide +kernel
theorem d_Mo_years_161 : decode c_Mo_years 161 = .ok (.aload_n 0, 1) := by decide +kernel
theorem d_Mo_years_162 : decode c_Mo_years 162 = .ok (.getfield 66, 3) := by decide +kernel
theorem d_Mo_years_165 : decode c_Mo_years 165 = .ok (.iconst 0, 1) := by decide +kernel
theorem d_Mo_years_166 : decode c_Mo_years 166 = .ok (.laload, 1) := by decide +kernel
theorem d_Mo_years_167 : decode c_Mo_years 167 = .ok (.ldc2_w 177, 3) := by decide +kernel
theorem d_Mo_years_170 : decode c_Mo_years 170 = .ok (.lcmp, 1) := by decide +kernel
theorem d_Mo_years_171 : decode c_Mo_years 171 = .ok (.ifCond .lt 5, 3) := by decide +kernel
theorem d_Mo_years_174 : decode c_Mo_years 174 = .ok (.iconst (-1), 1) := by decide +kernel
theorem d_Mo_years_175 : decode c_Mo_years 175 = .ok (.ireturn, 1) := by decide +kernel
theorem d_Mo_years_176 : decode c_Mo_years 176 = .ok (.aload_n 0, 1) := by decide +kernel
theorem d_Mo_years_177 : decode c_Mo_years 177 = .ok (.iload_n 1, 1) := by decide +kernel
theorem d_Mo_years_178 : decode c_Mo_years 178 = .ok (.putfield 187, 3) := by decide +kernel
theorem d_Mo_years_181 : decode c_Mo_years 181 = .ok (.iconst 0, 1) := by decide +kernel
theorem d_Mo_years_182 : decode c_Mo_years 182 = .ok (.istore_n 2, 1) := by decide +kernel
theorem d_Mo_years_183 : decode c_Mo_years 183 = .ok (.iconst 0, 1) := by decide +kernel
theorem d_Mo_years_184 : decode c_Mo_years 184 = .ok (.istore_n 3, 1) := by decide +kernel
theorem d_Mo_years_185 : decode c_Mo_years 185 = .ok (.iload_n 3, 1) := by decide +kernel
theorem d_Mo_years_186 : decode c_Mo_years 186 = .ok (.iload_n 1, 1) := by decide +kernel
theorem d_Mo_years_187 : decode c_Mo_years 187 = .ok (.if_icmp .ge 67, 3) := by decide +kernel
theorem d_Mo_years_190 : decode c_Mo_years 190 = .ok (.iconst 0, 1) := by decide +kernel
theorem d_Mo_years_191 : decode c_Mo_years 191 = .ok (.istore 4, 2) := by decide +kernel
theorem d_Mo_years_193 : decode c_Mo_years 193 = .ok (.aload_n 0, 1) := by decide +kernel
theorem d_Mo_years_194 : decode c_Mo_years 194 = .ok (.iload_n 3, 1) := by decide +kernel
theorem d_Mo_years_195 : decode c_Mo_years 195 = .ok (.iload 4, 2) := by decide +kernel
theorem d_Mo_years_197 : decode c_Mo_years 197 = .ok (.iload_n 2, 1) := by decide +kernel
theorem d_Mo_years_198 : decode c_Mo_years 198 = .ok (.invokevirtual 183, 3) := by decide +kernel
theorem d_Mo_years_201 : decode c_Mo_years 201 = .ok (.aload_n 0, 1) := by decide +kernel
theorem d_Mo_years_202 : decode c_Mo_years 202 = .ok (.getfield 66, 3) := by decide +kernel
theorem d_Mo_years_205 : decode c_Mo_years 205 = .ok (.bipush 32, 2) := by decide +kernel
theorem d_Mo_years_207 : decode c_Mo_years 207 = .ok (.iload_n 3, 1) := by decide +kernel
theorem d_Mo_years_208 : decode c_Mo_years 208 = .ok (.iconst 1, 1) := by decide +kernel
theorem d_Mo_years_209 : decode c_Mo_years 209 = .ok (.iadd, 1) := by decide +kernel
theorem d_Mo_years_210 : decode c_Mo_years 210 = .ok (.imul, 1) := by decide +kernel
theorem d_Mo_years_211 : decode c_Mo_years 211 = .ok (.iload 4, 2) := by decide +kernel
theorem d_Mo_years_213 : decode c_Mo_years 213 = .ok (.iadd, 1) := by decide +kernel
theorem d_Mo_years_214 : decode c_Mo_years 214 = .ok (.laload, 1) := by decide +kernel
theorem d_Mo_years_215 : decode c_Mo_years 215 = .ok (.ladd, 1) := by decide +kernel
theorem d_Mo_years_216 : decode c_Mo_years 216 = .ok (.aload_n 0, 1) := by decide +kernel
theorem d_Mo_years_217 : decode c_Mo_years 217 = .ok (.getfield 66, 3) := by decide +kernel
theorem d_Mo_years_220 : decode c_Mo_years 220 = .ok (.bipush 32, 2) := by decide +kernel
theorem d_Mo_years_222 : decode c_Mo_years 222 = .ok (.iload_n 3, 1) := by decide +kernel
theorem d_Mo_years_223 : decode c_Mo_years 223 = .ok (.imul, 1) := by decide +kernel
theorem d_Mo_years_224 : decode c_Mo_years 224 = .ok (.iload_n 2, 1) := by decide +kernel
theorem d_Mo_years_225 : decode c_Mo_years 225 = .ok (.iadd, 1) := by decide +kernel
theorem d_Mo_years_226 : decode c_Mo_years 226 = .ok (.laload, 1) := by decide +kernel
theorem d_Mo_years_227 : decode c_Mo_years 227 = .ok (.lcmp, 1) := by decide +kernel
theorem d_Mo_years_228 : decode c_Mo_years 228 = .ok (.ifCond .eq 9, 3) := by decide +kernel
theorem d_Mo_years_231 : decode c_Mo_years 231 = .ok (.iinc 4 1, 3) := by decide +kernel
theorem d_Mo_years_234 : decode c_Mo_years 234 = .ok (.goto (-41), 3) := by decide +kernel
theorem d_Mo_years_237 : decode c_Mo_years 237 = .ok (.aload_n 0, 1) := by decide +kernel
theorem d_Mo_years_238 : decode c_Mo_years 238 = .ok (.getfield 48, 3) := by decide +kernel
theorem d_Mo_years_241 : decode c_Mo_years 241 = .ok (.iload_n 3, 1) := by decide +kernel
theorem d_Mo_years_242 : decode c_Mo_years 242 = .ok (.iload 4, 2) := by decide +kernel
theorem d_Mo_years_244 : decode c_Mo_years 244 = .ok (.iastore, 1) := by decide +kernel
theorem d_Mo_years_245 : decode c_Mo_years 245 = .ok (.iload 4, 2) := by decide +kernel
theorem d_Mo_years_247 : decode c_Mo_years 247 = .ok (.istore_n 2, 1) := by decide +kernel
theorem d_Mo_years_248 : decode c_Mo_years 248 = .ok (.iinc 3 1, 3) := by decide +kernel
theorem d_Mo_years_251 : decode c_Mo_years 251 = .ok (.goto (-66), 3) := by decide +kernel
theorem d_Mo_years_254 : decode c_Mo_years 254 = .ok (.aload_n 0, 1) := by decide +kernel
theorem d_Mo_years_255 : decode c_Mo_years 255 = .ok (.getfield 66, 3) := by decide +kernel
theorem d_Mo_years_258 : decode c_Mo_years 258 = .ok (.iconst 0, 1) := by decide +kernel
theorem d_Mo_years_259 : decode c_Mo_years 259 = .ok (.laload, 1) := by decide +kernel
theorem d_Mo_years_260 : decode c_Mo_years 260 = .ok (.l2i, 1) := by decide +kernel
theorem d_Mo_years_261 : decode c_Mo_years 261 = .ok (.ireturn, 1) := by decide +kernel
theorem d_Mo_open_0 : decode c_Mo_open 0 = .ok (.aload_n 0, 1) := by decide +kernel
theorem d_Mo_open_1 : decode c_Mo_open 1 = .ok (.iload_n 1, 1) := by decide +kernel
theorem d_Mo_open_2 : decode c_Mo_open 2 = .ok (.invokevirtual 100, 3) := by decide +kernel
theorem d_Mo_open_5 : decode c_Mo_open 5 = .ok (.ifCond .eq 15, 3) := by decide +kernel
theorem d_Mo_open_8 : decode c_Mo_open 8 = .ok (.iload_n 2, 1) := by decide +kernel
theorem d_Mo_open_9 : decode c_Mo_open 9 = .ok (.ifCond .lt 11, 3) := by decide +kernel
theorem d_Mo_open_12 : decode c_Mo_open 12 = .ok (.iload_n 2, 1) := by decide +kernel
theorem d_Mo_open_13 : decode c_Mo_open 13 = .ok (.aload_n 0, 1) := by decide +kernel
theorem d_Mo_open_14 : decode c_Mo_open 14 = .ok (.getfield 187, 3) := by decide +kernel
theorem d_Mo_open_17 : decode c_Mo_open 17 = .ok (.if_icmp .lt 5, 3) := by decide +kernel
theorem d_Mo_open_20 : decode c_Mo_open 20 = .ok (.iconst (-1), 1) := by decide +kernel
theorem d_Mo_open_21 : decode c_Mo_open 21 = .ok (.ireturn, 1) := by decide +kernel
theorem d_Mo_open_22 : decode c_Mo_open 22 = .ok (.aload_n 0, 1) := by decide +kernel
theorem d_Mo_open_23 : decode c_Mo_open 23 = .ok (.getfield 48, 3) := by decide +kernel
theorem d_Mo_open_26 : decode c_Mo_open 26 = .ok (.iload_n 2, 1) := by decide +kernel
theorem d_Mo_open_27 : decode c_Mo_open 27 = .ok (.iaload, 1) := by decide +kernel
theorem d_Mo_open_28 : decode c_Mo_open 28 = .ok (.iload_n 1, 1) := by decide +kernel
theorem d_Mo_open_29 : decode c_Mo_open 29 = .ok (.invokestatic 105, 3) := by decide +kernel
theorem d_Mo_open_32 : decode c_Mo_open 32 = .ok (.ifCond .eq 7, 3) := by decide +kernel
theorem d_Mo_open_35 : decode c_Mo_open 35 = .ok (.iconst 1, 1) := by decide +kernel
theorem d_Mo_open_36 : decode c_Mo_open 36 = .ok (.goto 4, 3) := by decide +kernel
theorem d_Mo_open_39 : decode c_Mo_open 39 = .ok (.iconst 0, 1) := by decide +kernel
theorem d_Mo_open_40 : decode c_Mo_open 40 = .ok (.ireturn, 1) := by decide +kernel
end
section
theorem d_La_law_0 : decode code 0 = .ok (.new 7, 3) := by decide +kernel
theorem d_La_law_3 : decode code 3 = .ok (.dup, 1) := by decide +kernel
theorem d_La_law_4 : decode code 4 = .ok (.invokespecial 9, 3) := by decide +kernel
theorem d_La_law_7 : decode code 7 = .ok (.astore_n 1, 1) := by decide +kernel
theorem d_La_law_8 : decode code 8 = .ok (.new 10, 3) := by decide +kernel
theorem d_La_law_11 : decode code 11 = .ok (.dup, 1) := by decide +kernel
theorem d_La_law_12 : decode code 12 = .ok (.invokespecial 12, 3) := by decide +kernel
theorem d_La_law_15 : decode code 15 = .ok (.astore_n 2, 1) := by decide +kernel
theorem d_La_law_16 : decode code 16 = .ok (.iconst 0, 1) := by decide +kernel
theorem d_La_law_17 : decode code 17 = .ok (.istore_n 3, 1) := by decide +kernel
theorem d_La_law_18 : decode code 18 = .ok (.iload_n 3, 1) := by decide +kernel
theorem d_La_law_19 : decode code 19 = .ok (.aload_n 0, 1) := by decide +kernel
theorem d_La_law_20 : decode code 20 = .ok (.arraylength, 1) := by decide +kernel
theorem d_La_law_21 : decode code 21 = .ok (.bipush 9, 2) := by decide +kernel
theorem d_La_law_23 : decode code 23 = .ok (.isub, 1) := by decide +kernel
theorem d_La_law_24 : decode code 24 = .ok (.if_icmp .gt 893, 3) := by decide +kernel
theorem d_La_law_27 : decode code 27 = .ok (.aload_n 0, 1) := by decide +kernel
theorem d_La_law_28 : decode code 28 = .ok (.iload_n 3, 1) := by decide +kernel
theorem d_La_law_29 : decode code 29 = .ok (.iaload, 1) := by decide +kernel
theorem d_La_law_30 : decode code 30 = .ok (.bipush 31, 2) := by decide +kernel
theorem d_La_law_32 : decode code 32 = .ok (.iand, 1) := by decide +kernel
theorem d_La_law_33 : decode code 33 = .ok (.tableswitch 878 0 18 #[91, 144, 323, 396, 419, 482, 535, 598, 612, 665, 688, 711, 725, 739, 752, 775, 799, 822, 845], 91) := by decide +kernel
theorem d_La_law_124 : decode code 124 = .ok (.aload_n 1, 1) := by decide +kernel
theorem d_La_law_125 : decode code 125 = .ok (.aload_n 0, 1) := by decide +kernel
theorem d_La_law_126 : decode code 126 = .ok (.iload_n 3, 1) := by decide +kernel
theorem d_La_law_127 : decode code 127 = .ok (.iconst 1, 1) := by decide +kernel
theorem d_La_law_128 : decode code 128 = .ok (.iadd, 1) := by decide +kernel
theorem d_La_law_129 : decode code 129 = .ok (.iaload, 1) := by decide +kernel
theorem d_La_law_130 : decode code 130 = .ok (.i2l, 1) := by decide +kernel
theorem d_La_law_131 : decode code 131 = .ok (.bipush 32, 2) := by decide +kernel
theorem d_La_law_133 : decode code 133 = .ok (.lshl, 1) := by decide +kernel
theorem d_La_law_134 : decode code 134 = .ok (.aload_n 0, 1) := by decide +kernel
theorem d_La_law_135 : decode code 135 = .ok (.iload_n 3, 1) := by decide +kernel
theorem d_La_law_136 : decode code 136 = .ok (.iconst 2, 1) := by decide +kernel
theorem d_La_law_137 : decode code 137 = .ok (.iadd, 1) := by decide +kernel
theorem d_La_law_138 : decode code 138 = .ok (.iaload, 1) := by decide +kernel
theorem d_La_law_139 : decode code 139 = .ok (.i2l, 1) := by decide +kernel
theorem d_La_law_140 : decode code 140 = .ok (.ldc2_w 13, 3) := by decide +kernel
theorem d_La_law_143 : decode code 143 = .ok (.land, 1) := by decide +kernel
theorem d_La_law_144 : decode code 144 = .ok (.lor, 1) := by decide +kernel
theorem d_La_law_145 : decode code 145 = .ok (.invokevirtual 15, 3) := by decide +kernel
theorem d_La_law_148 : decode code 148 = .ok (.aload_n 2, 1) := by decide +kernel
theorem d_La_law_149 : decode code 149 = .ok (.aload_n 0, 1) := by decide +kernel
theorem d_La_law_150 : decode code 150 = .ok (.iload_n 3, 1) := by decide +kernel
theorem d_La_law_151 : decode code 151 = .ok (.iconst 1, 1) := by decide +kernel
theorem d_La_law_152 : decode code 152 = .ok (.iadd, 1) := by decide +kernel
theorem d_La_law_153 : decode code 153 = .ok (.iaload, 1) := by decide +kernel
theorem d_La_law_154 : decode code 154 = .ok (.i2l, 1) := by decide +kernel
theorem d_La_law_155 : decode code 155 = .ok (.bipush 32, 2) := by decide +kernel
theorem d_La_law_157 : decode code 157 = .ok (.lshl, 1) := by decide +kernel
theorem d_La_law_158 : decode code 158 = .ok (.aload_n 0, 1) := by decide +kernel
theorem d_La_law_159 : decode code 159 = .ok (.iload_n 3, 1) := by decide +kernel
theorem d_La_law_160 : decode code 160 = .ok (.iconst 2, 1) := by decide +kernel
theorem d_La_law_161 : decode code 161 = .ok (.iadd, 1) := by decide +kernel
theorem d_La_law_162 : decode code 162 = .ok (.iaload, 1) := by decide +kernel
theorem d_La_law_163 : decode code 163 = .ok (.i2l, 1) := by decide +kernel
theorem d_La_law_164 : decode code 164 = .ok (.ldc2_w 13, 3) := by decide +kernel
theorem d_La_law_167 : decode code 167 = .ok (.land, 1) := by decide +kernel
theorem d_La_law_168 : decode code 168 = .ok (.lor, 1) := by decide +kernel
theorem d_La_law_169 : decode code 169 = .ok (.invokevirtual 19, 3) := by decide +kernel
theorem d_La_law_172 : decode code 172 = .ok (.if_icmp .eq 739, 3) := by decide +kernel
theorem d_La_law_175 : decode code 175 = .ok (.iconst 0, 1) := by decide +kernel
theorem d_La_law_176 : decode code 176 = .ok (.ireturn, 1) := by decide +kernel
theorem d_La_law_177 : decode code 177 = .ok (.aload_n 1, 1) := by decide +kernel
theorem d_La_law_178 : decode code 178 = .ok (.aload_n 0, 1) := by decide +kernel
theorem d_La_law_179 : decode code 179 = .ok (.iload_n 3, 1) := by decide +kernel
theorem d_La_law_180 : decode code 180 = .ok (.iconst 1, 1) := by decide +kernel
theorem d_La_law_181 : decode code 181 = .ok (.iadd, 1) := by decide +kernel
theorem d_La_law_182 : decode code 182 = .ok (.iaload, 1) := by decide +kernel
theorem d_La_law_183 : decode code 183 = .ok (.i2l, 1) := by decide +kernel
theorem d_La_law_184 : decode code 184 = .ok (.bipush 32, 2) := by decide +kernel
theorem d_La_law_186 : decode code 186 = .ok (.lshl, 1) := by decide +kernel
theorem d_La_law_187 : decode code 187 = .ok (.aload_n 0, 1) := by decide +kernel
theorem d_La_law_188 : decode code 188 = .ok (.iload_n 3, 1) := by decide +kernel
theorem d_La_law_189 : decode code 189 = .ok (.iconst 2, 1) := by decide +kernel
theorem d_La_law_190 : decode code 190 = .ok (.iadd, 1) := by decide +kernel
theorem d_La_law_191 : decode code 191 = .ok (.iaload, 1) := by decide +kernel
theorem d_La_law_192 : decode code 192 = .ok (.i2l, 1) := by decide +kernel
theorem d_La_law_193 : decode code 193 = .ok (.ldc2_w 13, 3) := by decide +kernel
theorem d_La_law_196 : decode code 196 = .ok (.land, 1) := by decide +kernel
theorem d_La_law_197 : decode code 197 = .ok (.lor, 1) := by decide +kernel
theorem d_La_law_198 : decode code 198 = .ok (.aload_n 0, 1) := by decide +kernel
theorem d_La_law_199 : decode code 199 = .ok (.iload_n 3, 1) := by decide +kernel
theorem d_La_law_200 : decode code 200 = .ok (.iconst 3, 1) := by decide +kernel
theorem d_La_law_201 : decode code 201 = .ok (.iadd, 1) := by decide +kernel
theorem d_La_law_202 : decode code 202 = .ok (.iaload, 1) := by decide +kernel
theorem d_La_law_203 : decode code 203 = .ok (.i2l, 1) := by decide +kernel
theorem d_La_law_204 : decode code 204 = .ok (.bipush 32, 2) := by decide +kernel
theorem d_La_law_206 : decode code 206 = .ok (.lshl, 1) := by decide +kernel
theorem d_La_law_207 : decode code 207 = .ok (.aload_n 0, 1) := by decide +kernel
theorem d_La_law_208 : decode code 208 = .ok (.iload_n 3, 1) := by decide +kernel
theorem d_La_law_209 : decode code 209 = .ok (.iconst 4, 1) := by decide +kernel
theorem d_La_law_210 : decode code 210 = .ok (.iadd, 1) := by decide +kernel
theorem d_La_law_211 : decode code 211 = .ok (.iaload, 1) := by decide +kernel
theorem d_La_law_212 : decode code 212 = .ok (.i2l, 1) := by decide +kernel
theorem d_La_law_213 : decode code 213 = .ok (.ldc2_w 13, 3) := by decide +kernel
theorem d_La_law_216 : decode code 216 = .ok (.land, 1) := by decide +kernel
theorem d_La_law_217 : decode code 217 = .ok (.lor, 1) := by decide +kernel
theorem d_La_law_218 : decode code 218 = .ok (.aload_n 0, 1) := by decide +kernel
theorem d_La_law_219 : decode code 219 = .ok (.iload_n 3, 1) := by decide +kernel
theorem d_La_law_220 : decode code 220 = .ok (.iconst 5, 1) := by decide +kernel
theorem d_La_law_221 : decode code 221 = .ok (.iadd, 1) := by decide +kernel
theorem d_La_law_222 : decode code 222 = .ok (.iaload, 1) := by decide +kernel
theorem d_La_law_223 : decode code 223 = .ok (.i2l, 1) := by decide +kernel
theorem d_La_law_224 : decode code 224 = .ok (.bipush 32, 2) := by decide +kernel
theorem d_La_law_226 : decode code 226 = .ok (.lshl, 1) := by decide +kernel
theorem d_La_law_227 : decode code 227 = .ok (.aload_n 0, 1) := by decide +kernel
theorem d_La_law_228 : decode code 228 = .ok (.iload_n 3, 1) := by decide +kernel
theorem d_La_law_229 : decode code 229 = .ok (.bipush 6, 2) := by decide +kernel
theorem d_La_law_231 : decode code 231 = .ok (.iadd, 1) := by decide +kernel
theorem d_La_law_232 : decode code 232 = .ok (.iaload, 1) := by decide +kernel
theorem d_La_law_233 : decode code 233 = .ok (.i2l, 1) := by decide +kernel
theorem d_La_law_234 : decode code 234 = .ok (.ldc2_w 13, 3) := by decide +kernel
theorem d_La_law_237 : decode code 237 = .ok (.land, 1) := by decide +kernel
theorem d_La_law_238 : decode code 238 = .ok (.lor, 1) := by decide +kernel
theorem d_La_law_239 : decode code 239 = .ok (.aload_n 0, 1) := by decide +kernel
theorem d_La_law_240 : decode code 240 = .ok (.iload_n 3, 1) := by decide +kernel
theorem d_La_law_241 : decode code 241 = .ok (.bipush 7, 2) := by decide +kernel
theorem d_La_law_243 : decode code 243 = .ok (.iadd, 1) := by decide +kernel
theorem d_La_law_244 : decode code 244 = .ok (.iaload, 1) := by decide +kernel
theorem d_La_law_245 : decode code 245 = .ok (.i2l, 1) := by decide +kernel
theorem d_La_law_246 : decode code 246 = .ok (.bipush 32, 2) := by decide +kernel
theorem d_La_law_248 : decode code 248 = .ok (.lshl, 1) := by decide +kernel
theorem d_La_law_249 : decode code 249 = .ok (.aload_n 0, 1) := by decide +kernel
theorem d_La_law_250 : decode code 250 = .ok (.iload_n 3, 1) := by decide +kernel
theorem d_La_law_251 : decode code 251 = .ok (.bipush 8, 2) := by decide +kernel
theorem d_La_law_253 : decode code 253 = .ok (.iadd, 1) := by decide +kernel
theorem d_La_law_254 : decode code 254 = .ok (.iaload, 1) := by decide +kernel
theorem d_La_law_255 : decode code 255 = .ok (.i2l, 1) := by decide +kernel
theorem d_La_law_256 : decode code 256 = .ok (.ldc2_w 13, 3) := by decide +kernel
theorem d_La_law_259 : decode code 259 = .ok (.land, 1) := by decide +kernel
theorem d_La_law_260 : decode code 260 = .ok (.lor, 1) := by decide +kernel
theorem d_La_law_261 : decode code 261 = .ok (.invokevirtual 20, 3) := by decide +kernel
theorem d_La_law_264 : decode code 264 = .ok (.aload_n 2, 1) := by decide +kernel
theorem d_La_law_265 : decode code 265 = .ok (.aload_n 0, 1) := by decide +kernel
theorem d_La_law_266 : decode code 266 = .ok (.iload_n 3, 1) := by decide +kernel
theorem d_La_law_267 : decode code 267 = .ok (.iconst 1, 1) := by decide +kernel
theorem d_La_law_268 : decode code 268 = .ok (.iadd, 1) := by decide +kernel
theorem d_La_law_269 : decode code 269 = .ok (.iaload, 1) := by decide +kernel
theorem d_La_law_270 : decode code 270 = .ok (.i2l, 1) := by decide +kernel
theorem d_La_law_271 : decode code 271 = .ok (.bipush 32, 2) := by decide +kernel
theorem d_La_law_273 : decode code 273 = .ok (.lshl, 1) := by decide +kernel
theorem d_La_law_274 : decode code 274 = .ok (.aload_n 0, 1) := by decide +kernel
theorem d_La_law_275 : decode code 275 = .ok (.iload_n 3, 1) := by decide +kernel
theorem d_La_law_276 : decode code 276 = .ok (.iconst 2, 1) := by decide +kernel
theorem d_La_law_277 : decode code 277 = .ok (.iadd, 1) := by decide +kernel
theorem d_La_law_278 : decode code 278 = .ok (.iaload, 1) := by decide +kernel
theorem d_La_law_279 : decode code 279 = .ok (.i2l, 1) := by decide +kernel
theorem d_La_law_280 : decode code 280 = .ok (.ldc2_w 13, 3) := by decide +kernel
theorem d_La_law_283 : decode code 283 = .ok (.land, 1) := by decide +kernel
theorem d_La_law_284 : decode code 284 = .ok (.lor, 1) := by decide +kernel
theorem d_La_law_285 : decode code 285 = .ok (.aload_n 0, 1) := by decide +kernel
theorem d_La_law_286 : decode code 286 = .ok (.iload_n 3, 1) := by decide +kernel
theorem d_La_law_287 : decode code 287 = .ok (.iconst 3, 1) := by decide +kernel
theorem d_La_law_288 : decode code 288 = .ok (.iadd, 1) := by decide +kernel
theorem d_La_law_289 : decode code 289 = .ok (.iaload, 1) := by decide +kernel
theorem d_La_law_290 : decode code 290 = .ok (.i2l, 1) := by decide +kernel
theorem d_La_law_291 : decode code 291 = .ok (.bipush 32, 2) := by decide +kernel
theorem d_La_law_293 : decode code 293 = .ok (.lshl, 1) := by decide +kernel
theorem d_La_law_294 : decode code 294 = .ok (.aload_n 0, 1) := by decide +kernel
theorem d_La_law_295 : decode code 295 = .ok (.iload_n 3, 1) := by decide +kernel
theorem d_La_law_296 : decode code 296 = .ok (.iconst 4, 1) := by decide +kernel
theorem d_La_law_297 : decode code 297 = .ok (.iadd, 1) := by decide +kernel
theorem d_La_law_298 : decode code 298 = .ok (.iaload, 1) := by decide +kernel
theorem d_La_law_299 : decode code 299 = .ok (.i2l, 1) := by decide +kernel
theorem d_La_law_300 : decode code 300 = .ok (.ldc2_w 13, 3) := by decide +kernel
theorem d_La_law_303 : decode code 303 = .ok (.land, 1) := by decide +kernel
theorem d_La_law_304 : decode code 304 = .ok (.lor, 1) := by decide +kernel
theorem d_La_law_305 : decode code 305 = .ok (.aload_n 0, 1) := by decide +kernel
theorem d_La_law_306 : decode code 306 = .ok (.iload_n 3, 1) := by decide +kernel
theorem d_La_law_307 : decode code 307 = .ok (.iconst 5, 1) := by decide +kernel
theorem d_La_law_308 : decode code 308 = .ok (.iadd, 1) := by decide +kernel
theorem d_La_law_309 : decode code 309 = .ok (.iaload, 1) := by decide +kernel
theorem d_La_law_310 : decode code 310 = .ok (.i2l, 1) := by decide +kernel
theorem d_La_law_311 : decode code 311 = .ok (.bipush 32, 2) := by decide +kernel
theorem d_La_law_313 : decode code 313 = .ok (.lshl, 1) := by decide +kernel
theorem d_La_law_314 : decode code 314 = .ok (.aload_n 0, 1) := by decide +kernel
theorem d_La_law_315 : decode code 315 = .ok (.iload_n 3, 1) := by decide +kernel
theorem d_La_law_316 : decode code 316 = .ok (.bipush 6, 2) := by decide +kernel
theorem d_La_law_318 : decode code 318 = .ok (.iadd, 1) := by decide +kernel
theorem d_La_law_319 : decode code 319 = .ok (.iaload, 1) := by decide +kernel
theorem d_La_law_320 : decode code 320 = .ok (.i2l, 1) := by decide +kernel
theorem d_La_law_321 : decode code 321 = .ok (.ldc2_w 13, 3) := by decide +kernel
theorem d_La_law_324 : decode code 324 = .ok (.land, 1) := by decide +kernel
theorem d_La_law_325 : decode code 325 = .ok (.lor, 1) := by decide +kernel
theorem d_La_law_326 : decode code 326 = .ok (.aload_n 0, 1) := by decide +kernel
theorem d_La_law_327 : decode code 327 = .ok (.iload_n 3, 1) := by decide +kernel
theorem d_La_law_328 : decode code 328 = .ok (.bipush 7, 2) := by decide +kernel
theorem d_La_law_330 : decode code 330 = .ok (.iadd, 1) := by decide +kernel
theorem d_La_law_331 : decode code 331 = .ok (.iaload, 1) := by decide +kernel
theorem d_La_law_332 : decode code 332 = .ok (.i2l, 1) := by decide +kernel
theorem d_La_law_333 : decode code 333 = .ok (.bipush 32, 2) := by decide +kernel
theorem d_La_law_335 : decode code 335 = .ok (.lshl, 1) := by decide +kernel
theorem d_La_law_336 : decode code 336 = .ok (.aload_n 0, 1) := by decide +kernel
theorem d_La_law_337 : decode code 337 = .ok (.iload_n 3, 1) := by decide +kernel
theorem d_La_law_338 : decode code 338 = .ok (.bipush 8, 2) := by decide +kernel
theorem d_La_law_340 : decode code 340 = .ok (.iadd, 1) := by decide +kernel
theorem d_La_law_341 : decode code 341 = .ok (.iaload, 1) := by decide +kernel
theorem d_La_law_342 : decode code 342 = .ok (.i2l, 1) := by decide +kernel
theorem d_La_law_343 : decode code 343 = .ok (.ldc2_w 13, 3) := by decide +kernel
theorem d_La_law_346 : decode code 346 = .ok (.land, 1) := by decide +kernel
theorem d_La_law_347 : decode code 347 = .ok (.lor, 1) := by decide +kernel
theorem d_La_law_348 : decode code 348 = .ok (.invokevirtual 24, 3) := by decide +kernel
theorem d_La_law_351 : decode code 351 = .ok (.if_icmp .eq 560, 3) := by decide +kernel
theorem d_La_law_354 : decode code 354 = .ok (.iconst 0, 1) := by decide +kernel
theorem d_La_law_355 : decode code 355 = .ok (.ireturn, 1) := by decide +kernel
theorem d_La_law_356 : decode code 356 = .ok (.aload_n 1, 1) := by decide +kernel
theorem d_La_law_357 : decode code 357 = .ok (.aload_n 0, 1) := by decide +kernel
theorem d_La_law_358 : decode code 358 = .ok (.iload_n 3, 1) := by decide +kernel
theorem d_La_law_359 : decode code 359 = .ok (.iconst 1, 1) := by decide +kernel
theorem d_La_law_360 : decode code 360 = .ok (.iadd, 1) := by decide +kernel
theorem d_La_law_361 : decode code 361 = .ok (.iaload, 1) := by decide +kernel
theorem d_La_law_362 : decode code 362 = .ok (.aload_n 0, 1) := by decide +kernel
theorem d_La_law_363 : decode code 363 = .ok (.iload_n 3, 1) := by decide +kernel
theorem d_La_law_364 : decode code 364 = .ok (.iconst 2, 1) := by decide +kernel
theorem d_La_law_365 : decode code 365 = .ok (.iadd, 1) := by decide +kernel
theorem d_La_law_366 : decode code 366 = .ok (.iaload, 1) := by decide +kernel
theorem d_La_law_367 : decode code 367 = .ok (.aload_n 0, 1) := by decide +kernel
theorem d_La_law_368 : decode code 368 = .ok (.iload_n 3, 1) := by decide +kernel
theorem d_La_law_369 : decode code 369 = .ok (.iconst 3, 1) := by decide +kernel
theorem d_La_law_370 : decode code 370 = .ok (.iadd, 1) := by decide +kernel
theorem d_La_law_371 : decode code 371 = .ok (.iaload, 1) := by decide +kernel
theorem d_La_law_372 : decode code 372 = .ok (.i2l, 1) := by decide +kernel
theorem d_La_law_373 : decode code 373 = .ok (.bipush 32, 2) := by decide +kernel
theorem d_La_law_375 : decode code 375 = .ok (.lshl, 1) := by decide +kernel
theorem d_La_law_376 : decode code 376 = .ok (.aload_n 0, 1) := by decide +kernel
theorem d_La_law_377 : decode code 377 = .ok (.iload_n 3, 1) := by decide +kernel
theorem d_La_law_378 : decode code 378 = .ok (.iconst 4, 1) := by decide +kernel
theorem d_La_law_379 : decode code 379 = .ok (.iadd, 1) := by decide +kernel
theorem d_La_law_380 : decode code 380 = .ok (.iaload, 1) := by decide +kernel
theorem d_La_law_381 : decode code 381 = .ok (.i2l, 1) := by decide +kernel
theorem d_La_law_382 : decode code 382 = .ok (.ldc2_w 13, 3) := by decide +kernel
theorem d_La_law_385 : decode code 385 = .ok (.land, 1) := by decide +kernel
theorem d_La_law_386 : decode code 386 = .ok (.lor, 1) := by decide +kernel
theorem d_La_law_387 : decode code 387 = .ok (.invokevirtual 25, 3) := by decide +kernel
theorem d_La_law_390 : decode code 390 = .ok (.aload_n 2, 1) := by decide +kernel
theorem d_La_law_391 : decode code 391 = .ok (.aload_n 0, 1) := by decide +kernel
theorem d_La_law_392 : decode code 392 = .ok (.iload_n 3, 1) := by decide +kernel
theorem d_La_law_393 : decode code 393 = .ok (.iconst 1, 1) := by decide +kernel
theorem d_La_law_394 : decode code 394 = .ok (.iadd, 1) := by decide +kernel
theorem d_La_law_395 : decode code 395 = .ok (.iaload, 1) := by decide +kernel
theorem d_La_law_396 : decode code 396 = .ok (.aload_n 0, 1) := by decide +kernel
theorem d_La_law_397 : decode code 397 = .ok (.iload_n 3, 1) := by decide +kernel
theorem d_La_law_398 : decode code 398 = .ok (.iconst 2, 1) := by decide +kernel
theorem d_La_law_399 : decode code 399 = .ok (.iadd, 1) := by decide +kernel
theorem d_La_law_400 : decode code 400 = .ok (.iaload, 1) := by decide +kernel
theorem d_La_law_401 : decode code 401 = .ok (.aload_n 0, 1) := by decide +kernel
theorem d_La_law_402 : decode code 402 = .ok (.iload_n 3, 1) := by decide +kernel
theorem d_La_law_403 : decode code 403 = .ok (.iconst 3, 1) := by decide +kernel
theorem d_La_law_404 : decode code 404 = .ok (.iadd, 1) := by decide +kernel
theorem d_La_law_405 : decode code 405 = .ok (.iaload, 1) := by decide +kernel
theorem d_La_law_406 : decode code 406 = .ok (.i2l, 1) := by decide +kernel
theorem d_La_law_407 : decode code 407 = .ok (.bipush 32, 2) := by decide +kernel
theorem d_La_law_409 : decode code 409 = .ok (.lshl, 1) := by decide +kernel
theorem d_La_law_410 : decode code 410 = .ok (.aload_n 0, 1) := by decide +kernel
theorem d_La_law_411 : decode code 411 = .ok (.iload_n 3, 1) := by decide +kernel
theorem d_La_law_412 : decode code 412 = .ok (.iconst 4, 1) := by decide +kernel
theorem d_La_law_413 : decode code 413 = .ok (.iadd, 1) := by decide +kernel
theorem d_La_law_414 : decode code 414 = .ok (.iaload, 1) := by decide +kernel
theorem d_La_law_415 : decode code 415 = .ok (.i2l, 1) := by decide +kernel
theorem d_La_law_416 : decode code 416 = .ok (.ldc2_w 13, 3) := by decide +kernel
theorem d_La_law_419 : decode code 419 = .ok (.land, 1) := by decide +kernel
theorem d_La_law_420 : decode code 420 = .ok (.lor, 1) := by decide +kernel
theorem d_La_law_421 : decode code 421 = .ok (.invokevirtual 29, 3) := by decide +kernel
theorem d_La_law_424 : decode code 424 = .ok (.if_icmp .eq 487, 3) := by decide +kernel
theorem d_La_law_427 : decode code 427 = .ok (.iconst 0, 1) := by decide +kernel
theorem d_La_law_428 : decode code 428 = .ok (.ireturn, 1) := by decide +kernel
theorem d_La_law_429 : decode code 429 = .ok (.aload_n 1, 1) := by decide +kernel
theorem d_La_law_430 : decode code 430 = .ok (.aload_n 0, 1) := by decide +kernel
theorem d_La_law_431 : decode code 431 = .ok (.iload_n 3, 1) := by decide +kernel
theorem d_La_law_432 : decode code 432 = .ok (.iconst 1, 1) := by decide +kernel
theorem d_La_law_433 : decode code 433 = .ok (.iadd, 1) := by decide +kernel
theorem d_La_law_434 : decode code 434 = .ok (.iaload, 1) := by decide +kernel
theorem d_La_law_435 : decode code 435 = .ok (.invokevirtual 30, 3) := by decide +kernel
theorem d_La_law_438 : decode code 438 = .ok (.aload_n 2, 1) := by decide +kernel
theorem d_La_law_439 : decode code 439 = .ok (.aload_n 0, 1) := by decide +kernel
theorem d_La_law_440 : decode code 440 = .ok (.iload_n 3, 1) := by decide +kernel
theorem d_La_law_441 : decode code 441 = .ok (.iconst 1, 1) := by decide +kernel
theorem d_La_law_442 : decode code 442 = .ok (.iadd, 1) := by decide +kernel
theorem d_La_law_443 : decode code 443 = .ok (.iaload, 1) := by decide +kernel
theorem d_La_law_444 : decode code 444 = .ok (.invokevirtual 34, 3) := by decide +kernel
theorem d_La_law_447 : decode code 447 = .ok (.if_icmp .eq 464, 3) := by decide +kernel
theorem d_La_law_450 : decode code 450 = .ok (.iconst 0, 1) := by decide +kernel
theorem d_La_law_451 : decode code 451 = .ok (.ireturn, 1) := by decide +kernel
theorem d_La_law_452 : decode code 452 = .ok (.aload_n 1, 1) := by decide +kernel
theorem d_La_law_453 : decode code 453 = .ok (.aload_n 0, 1) := by decide +kernel
theorem d_La_law_454 : decode code 454 = .ok (.iload_n 3, 1) := by decide +kernel
theorem d_La_law_455 : decode code 455 = .ok (.iconst 1, 1) := by decide +kernel
theorem d_La_law_456 : decode code 456 = .ok (.iadd, 1) := by decide +kernel
theorem d_La_law_457 : decode code 457 = .ok (.iaload, 1) := by decide +kernel
theorem d_La_law_458 : decode code 458 = .ok (.aload_n 0, 1) := by decide +kernel
theorem d_La_law_459 : decode code 459 = .ok (.iload_n 3, 1) := by decide +kernel
theorem d_La_law_460 : decode code 460 = .ok (.iconst 2, 1) := by decide +kernel
theorem d_La_law_461 : decode code 461 = .ok (.iadd, 1) := by decide +kernel
theorem d_La_law_462 : decode code 462 = .ok (.iaload, 1) := by decide +kernel
theorem d_La_law_463 : decode code 463 = .ok (.i2l, 1) := by decide +kernel
theorem d_La_law_464 : decode code 464 = .ok (.bipush 32, 2) := by decide +kernel
theorem d_La_law_466 : decode code 466 = .ok (.lshl, 1) := by decide +kernel
theorem d_La_law_467 : decode code 467 = .ok (.aload_n 0, 1) := by decide +kernel
theorem d_La_law_468 : decode code 468 = .ok (.iload_n 3, 1) := by decide +kernel
theorem d_La_law_469 : decode code 469 = .ok (.iconst 3, 1) := by decide +kernel
theorem d_La_law_470 : decode code 470 = .ok (.iadd, 1) := by decide +kernel
theorem d_La_law_471 : decode code 471 = .ok (.iaload, 1) := by decide +kernel
theorem d_La_law_472 : decode code 472 = .ok (.i2l, 1) := by decide +kernel
theorem d_La_law_473 : decode code 473 = .ok (.ldc2_w 13, 3) := by decide +kernel
theorem d_La_law_476 : decode code 476 = .ok (.land, 1) := by decide +kernel
theorem d_La_law_477 : decode code 477 = .ok (.lor, 1) := by decide +kernel
theorem d_La_law_478 : decode code 478 = .ok (.invokevirtual 35, 3) := by decide +kernel
theorem d_La_law_481 : decode code 481 = .ok (.aload_n 2, 1) := by decide +kernel
theorem d_La_law_482 : decode code 482 = .ok (.aload_n 0, 1) := by decide +kernel
theorem d_La_law_483 : decode code 483 = .ok (.iload_n 3, 1) := by decide +kernel
theorem d_La_law_484 : decode code 484 = .ok (.iconst 1, 1) := by decide +kernel
theorem d_La_law_485 : decode code 485 = .ok (.iadd, 1) := by decide +kernel
theorem d_La_law_486 : decode code 486 = .ok (.iaload, 1) := by decide +kernel
theorem d_La_law_487 : decode code 487 = .ok (.aload_n 0, 1) := by decide +kernel
theorem d_La_law_488 : decode code 488 = .ok (.iload_n 3, 1) := by decide +kernel
theorem d_La_law_489 : decode code 489 = .ok (.iconst 2, 1) := by decide +kernel
theorem d_La_law_490 : decode code 490 = .ok (.iadd, 1) := by decide +kernel
theorem d_La_law_491 : decode code 491 = .ok (.iaload, 1) := by decide +kernel
theorem d_La_law_492 : decode code 492 = .ok (.i2l, 1) := by decide +kernel
theorem d_La_law_493 : decode code 493 = .ok (.bipush 32, 2) := by decide +kernel
theorem d_La_law_495 : decode code 495 = .ok (.lshl, 1) := by decide +kernel
theorem d_La_law_496 : decode code 496 = .ok (.aload_n 0, 1) := by decide +kernel
theorem d_La_law_497 : decode code 497 = .ok (.iload_n 3, 1) := by decide +kernel
theorem d_La_law_498 : decode code 498 = .ok (.iconst 3, 1) := by decide +kernel
theorem d_La_law_499 : decode code 499 = .ok (.iadd, 1) := by decide +kernel
theorem d_La_law_500 : decode code 500 = .ok (.iaload, 1) := by decide +kernel
theorem d_La_law_501 : decode code 501 = .ok (.i2l, 1) := by decide +kernel
theorem d_La_law_502 : decode code 502 = .ok (.ldc2_w 13, 3) := by decide +kernel
theorem d_La_law_505 : decode code 505 = .ok (.land, 1) := by decide +kernel
theorem d_La_law_506 : decode code 506 = .ok (.lor, 1) := by decide +kernel
theorem d_La_law_507 : decode code 507 = .ok (.invokevirtual 39, 3) := by decide +kernel
theorem d_La_law_510 : decode code 510 = .ok (.if_icmp .eq 401, 3) := by decide +kernel
theorem d_La_law_513 : decode code 513 = .ok (.iconst 0, 1) := by decide +kernel
theorem d_La_law_514 : decode code 514 = .ok (.ireturn, 1) := by decide +kernel
theorem d_La_law_515 : decode code 515 = .ok (.aload_n 1, 1) := by decide +kernel
theorem d_La_law_516 : decode code 516 = .ok (.aload_n 0, 1) := by decide +kernel
theorem d_La_law_517 : decode code 517 = .ok (.iload_n 3, 1) := by decide +kernel
theorem d_La_law_518 : decode code 518 = .ok (.iconst 1, 1) := by decide +kernel
theorem d_La_law_519 : decode code 519 = .ok (.iadd, 1) := by decide +kernel
theorem d_La_law_520 : decode code 520 = .ok (.iaload, 1) := by decide +kernel
theorem d_La_law_521 : decode code 521 = .ok (.i2l, 1) := by decide +kernel
theorem d_La_law_522 : decode code 522 = .ok (.bipush 32, 2) := by decide +kernel
theorem d_La_law_524 : decode code 524 = .ok (.lshl, 1) := by decide +kernel
theorem d_La_law_525 : decode code 525 = .ok (.aload_n 0, 1) := by decide +kernel
theorem d_La_law_526 : decode code 526 = .ok (.iload_n 3, 1) := by decide +kernel
theorem d_La_law_527 : decode code 527 = .ok (.iconst 2, 1) := by decide +kernel
theorem d_La_law_528 : decode code 528 = .ok (.iadd, 1) := by decide +kernel
theorem d_La_law_529 : decode code 529 = .ok (.iaload, 1) := by decide +kernel
theorem d_La_law_530 : decode code 530 = .ok (.i2l, 1) := by decide +kernel
theorem d_La_law_531 : decode code 531 = .ok (.ldc2_w 13, 3) := by decide +kernel
theorem d_La_law_534 : decode code 534 = .ok (.land, 1) := by decide +kernel
theorem d_La_law_535 : decode code 535 = .ok (.lor, 1) := by decide +kernel
theorem d_La_law_536 : decode code 536 = .ok (.invokevirtual 40, 3) := by decide +kernel
theorem d_La_law_539 : decode code 539 = .ok (.aload_n 2, 1) := by decide +kernel
theorem d_La_law_540 : decode code 540 = .ok (.aload_n 0, 1) := by decide +kernel
theorem d_La_law_541 : decode code 541 = .ok (.iload_n 3, 1) := by decide +kernel
theorem d_La_law_542 : decode code 542 = .ok (.iconst 1, 1) := by decide +kernel
theorem d_La_law_543 : decode code 543 = .ok (.iadd, 1) := by decide +kernel
theorem d_La_law_544 : decode code 544 = .ok (.iaload, 1) := by decide +kernel
theorem d_La_law_545 : decode code 545 = .ok (.i2l, 1) := by decide +kernel
theorem d_La_law_546 : decode code 546 = .ok (.bipush 32, 2) := by decide +kernel
theorem d_La_law_548 : decode code 548 = .ok (.lshl, 1) := by decide +kernel
theorem d_La_law_549 : decode code 549 = .ok (.aload_n 0, 1) := by decide +kernel
theorem d_La_law_550 : decode code 550 = .ok (.iload_n 3, 1) := by decide +kernel
theorem d_La_law_551 : decode code 551 = .ok (.iconst 2, 1) := by decide +kernel
theorem d_La_law_552 : decode code 552 = .ok (.iadd, 1) := by decide +kernel
theorem d_La_law_553 : decode code 553 = .ok (.iaload, 1) := by decide +kernel
theorem d_La_law_554 : decode code 554 = .ok (.i2l, 1) := by decide +kernel
theorem d_La_law_555 : decode code 555 = .ok (.ldc2_w 13, 3) := by decide +kernel
theorem d_La_law_558 : decode code 558 = .ok (.land, 1) := by decide +kernel
theorem d_La_law_559 : decode code 559 = .ok (.lor, 1) := by decide +kernel
theorem d_La_law_560 : decode code 560 = .ok (.invokevirtual 44, 3) := by decide +kernel
theorem d_La_law_563 : decode code 563 = .ok (.if_icmp .eq 348, 3) := by decide +kernel
theorem d_La_law_566 : decode code 566 = .ok (.iconst 0, 1) := by decide +kernel
theorem d_La_law_567 : decode code 567 = .ok (.ireturn, 1) := by decide +kernel
theorem d_La_law_568 : decode code 568 = .ok (.aload_n 1, 1) := by decide +kernel
theorem d_La_law_569 : decode code 569 = .ok (.aload_n 0, 1) := by decide +kernel
theorem d_La_law_570 : decode code 570 = .ok (.iload_n 3, 1) := by decide +kernel
theorem d_La_law_571 : decode code 571 = .ok (.iconst 1, 1) := by decide +kernel
theorem d_La_law_572 : decode code 572 = .ok (.iadd, 1) := by decide +kernel
theorem d_La_law_573 : decode code 573 = .ok (.iaload, 1) := by decide +kernel
theorem d_La_law_574 : decode code 574 = .ok (.aload_n 0, 1) := by decide +kernel
theorem d_La_law_575 : decode code 575 = .ok (.iload_n 3, 1) := by decide +kernel
theorem d_La_law_576 : decode code 576 = .ok (.iconst 2, 1) := by decide +kernel
theorem d_La_law_577 : decode code 577 = .ok (.iadd, 1) := by decide +kernel
theorem d_La_law_578 : decode code 578 = .ok (.iaload, 1) := by decide +kernel
theorem d_La_law_579 : decode code 579 = .ok (.i2l, 1) := by decide +kernel
theorem d_La_law_580 : decode code 580 = .ok (.bipush 32, 2) := by decide +kernel
theorem d_La_law_582 : decode code 582 = .ok (.lshl, 1) := by decide +kernel
theorem d_La_law_583 : decode code 583 = .ok (.aload_n 0, 1) := by decide +kernel
theorem d_La_law_584 : decode code 584 = .ok (.iload_n 3, 1) := by decide +kernel
theorem d_La_law_585 : decode code 585 = .ok (.iconst 3, 1) := by decide +kernel
theorem d_La_law_586 : decode code 586 = .ok (.iadd, 1) := by decide +kernel
theorem d_La_law_587 : decode code 587 = .ok (.iaload, 1) := by decide +kernel
theorem d_La_law_588 : decode code 588 = .ok (.i2l, 1) := by decide +kernel
theorem d_La_law_589 : decode code 589 = .ok (.ldc2_w 13, 3) := by decide +kernel
theorem d_La_law_592 : decode code 592 = .ok (.land, 1) := by decide +kernel
theorem d_La_law_593 : decode code 593 = .ok (.lor, 1) := by decide +kernel
theorem d_La_law_594 : decode code 594 = .ok (.invokevirtual 45, 3) := by decide +kernel
theorem d_La_law_597 : decode code 597 = .ok (.aload_n 2, 1) := by decide +kernel
theorem d_La_law_598 : decode code 598 = .ok (.aload_n 0, 1) := by decide +kernel
theorem d_La_law_599 : decode code 599 = .ok (.iload_n 3, 1) := by decide +kernel
theorem d_La_law_600 : decode code 600 = .ok (.iconst 1, 1) := by decide +kernel
theorem d_La_law_601 : decode code 601 = .ok (.iadd, 1) := by decide +kernel
theorem d_La_law_602 : decode code 602 = .ok (.iaload, 1) := by decide +kernel
theorem d_La_law_603 : decode code 603 = .ok (.aload_n 0, 1) := by decide +kernel
theorem d_La_law_604 : decode code 604 = .ok (.iload_n 3, 1) := by decide +kernel
theorem d_La_law_605 : decode code 605 = .ok (.iconst 2, 1) := by decide +kernel
theorem d_La_law_606 : decode code 606 = .ok (.iadd, 1) := by decide +kernel
theorem d_La_law_607 : decode code 607 = .ok (.iaload, 1) := by decide +kernel
theorem d_La_law_608 : decode code 608 = .ok (.i2l, 1) := by decide +kernel
theorem d_La_law_609 : decode code 609 = .ok (.bipush 32, 2) := by decide +kernel
theorem d_La_law_611 : decode code 611 = .ok (.lshl, 1) := by decide +kernel
theorem d_La_law_612 : decode code 612 = .ok (.aload_n 0, 1) := by decide +kernel
theorem d_La_law_613 : decode code 613 = .ok (.iload_n 3, 1) := by decide +kernel
theorem d_La_law_614 : decode code 614 = .ok (.iconst 3, 1) := by decide +kernel
theorem d_La_law_615 : decode code 615 = .ok (.iadd, 1) := by decide +kernel
theorem d_La_law_616 : decode code 616 = .ok (.iaload, 1) := by decide +kernel
theorem d_La_law_617 : decode code 617 = .ok (.i2l, 1) := by decide +kernel
theorem d_La_law_618 : decode code 618 = .ok (.ldc2_w 13, 3) := by decide +kernel
theorem d_La_law_621 : decode code 621 = .ok (.land, 1) := by decide +kernel
theorem d_La_law_622 : decode code 622 = .ok (.lor, 1) := by decide +kernel
theorem d_La_law_623 : decode code 623 = .ok (.invokevirtual 48, 3) := by decide +kernel
theorem d_La_law_626 : decode code 626 = .ok (.if_icmp .eq 285, 3) := by decide +kernel
theorem d_La_law_629 : decode code 629 = .ok (.iconst 0, 1) := by decide +kernel
theorem d_La_law_630 : decode code 630 = .ok (.ireturn, 1) := by decide +kernel
theorem d_La_law_631 : decode code 631 = .ok (.aload_n 1, 1) := by decide +kernel
theorem d_La_law_632 : decode code 632 = .ok (.invokevirtual 49, 3) := by decide +kernel
theorem d_La_law_635 : decode code 635 = .ok (.aload_n 2, 1) := by decide +kernel
theorem d_La_law_636 : decode code 636 = .ok (.invokevirtual 53, 3) := by decide +kernel
theorem d_La_law_639 : decode code 639 = .ok (.lcmp, 1) := by decide +kernel
theorem d_La_law_640 : decode code 640 = .ok (.ifCond .eq 271, 3) := by decide +kernel
theorem d_La_law_643 : decode code 643 = .ok (.iconst 0, 1) := by decide +kernel
theorem d_La_law_644 : decode code 644 = .ok (.ireturn, 1) := by decide +kernel
theorem d_La_law_645 : decode code 645 = .ok (.aload_n 1, 1) := by decide +kernel
theorem d_La_law_646 : decode code 646 = .ok (.aload_n 0, 1) := by decide +kernel
theorem d_La_law_647 : decode code 647 = .ok (.iload_n 3, 1) := by decide +kernel
theorem d_La_law_648 : decode code 648 = .ok (.iconst 1, 1) := by decide +kernel
theorem d_La_law_649 : decode code 649 = .ok (.iadd, 1) := by decide +kernel
theorem d_La_law_650 : decode code 650 = .ok (.iaload, 1) := by decide +kernel
theorem d_La_law_651 : decode code 651 = .ok (.i2l, 1) := by decide +kernel
theorem d_La_law_652 : decode code 652 = .ok (.bipush 32, 2) := by decide +kernel
theorem d_La_law_654 : decode code 654 = .ok (.lshl, 1) := by decide +kernel
theorem d_La_law_655 : decode code 655 = .ok (.aload_n 0, 1) := by decide +kernel
theorem d_La_law_656 : decode code 656 = .ok (.iload_n 3, 1) := by decide +kernel
theorem d_La_law_657 : decode code 657 = .ok (.iconst 2, 1) := by decide +kernel
theorem d_La_law_658 : decode code 658 = .ok (.iadd, 1) := by decide +kernel
theorem d_La_law_659 : decode code 659 = .ok (.iaload, 1) := by decide +kernel
theorem d_La_law_660 : decode code 660 = .ok (.i2l, 1) := by decide +kernel
theorem d_La_law_661 : decode code 661 = .ok (.ldc2_w 13, 3) := by decide +kernel
theorem d_La_law_664 : decode code 664 = .ok (.land, 1) := by decide +kernel
theorem d_La_law_665 : decode code 665 = .ok (.lor, 1) := by decide +kernel
theorem d_La_law_666 : decode code 666 = .ok (.invokevirtual 54, 3) := by decide +kernel
theorem d_La_law_669 : decode code 669 = .ok (.aload_n 2, 1) := by decide +kernel
theorem d_La_law_670 : decode code 670 = .ok (.aload_n 0, 1) := by decide +kernel
theorem d_La_law_671 : decode code 671 = .ok (.iload_n 3, 1) := by decide +kernel
theorem d_La_law_672 : decode code 672 = .ok (.iconst 1, 1) := by decide +kernel
theorem d_La_law_673 : decode code 673 = .ok (.iadd, 1) := by decide +kernel
theorem d_La_law_674 : decode code 674 = .ok (.iaload, 1) := by decide +kernel
theorem d_La_law_675 : decode code 675 = .ok (.i2l, 1) := by decide +kernel
theorem d_La_law_676 : decode code 676 = .ok (.bipush 32, 2) := by decide +kernel
theorem d_La_law_678 : decode code 678 = .ok (.lshl, 1) := by decide +kernel
theorem d_La_law_679 : decode code 679 = .ok (.aload_n 0, 1) := by decide +kernel
theorem d_La_law_680 : decode code 680 = .ok (.iload_n 3, 1) := by decide +kernel
theorem d_La_law_681 : decode code 681 = .ok (.iconst 2, 1) := by decide +kernel
theorem d_La_law_682 : decode code 682 = .ok (.iadd, 1) := by decide +kernel
theorem d_La_law_683 : decode code 683 = .ok (.iaload, 1) := by decide +kernel
theorem d_La_law_684 : decode code 684 = .ok (.i2l, 1) := by decide +kernel
theorem d_La_law_685 : decode code 685 = .ok (.ldc2_w 13, 3) := by decide +kernel
theorem d_La_law_688 : decode code 688 = .ok (.land, 1) := by decide +kernel
theorem d_La_law_689 : decode code 689 = .ok (.lor, 1) := by decide +kernel
theorem d_La_law_690 : decode code 690 = .ok (.invokevirtual 57, 3) := by decide +kernel
theorem d_La_law_693 : decode code 693 = .ok (.if_icmp .eq 218, 3) := by decide +kernel
theorem d_La_law_696 : decode code 696 = .ok (.iconst 0, 1) := by decide +kernel
theorem d_La_law_697 : decode code 697 = .ok (.ireturn, 1) := by decide +kernel
theorem d_La_law_698 : decode code 698 = .ok (.aload_n 1, 1) := by decide +kernel
theorem d_La_law_699 : decode code 699 = .ok (.aload_n 0, 1) := by decide +kernel
theorem d_La_law_700 : decode code 700 = .ok (.iload_n 3, 1) := by decide +kernel
theorem d_La_law_701 : decode code 701 = .ok (.iconst 1, 1) := by decide +kernel
theorem d_La_law_702 : decode code 702 = .ok (.iadd, 1) := by decide +kernel
theorem d_La_law_703 : decode code 703 = .ok (.iaload, 1) := by decide +kernel
theorem d_La_law_704 : decode code 704 = .ok (.invokevirtual 58, 3) := by decide +kernel
theorem d_La_law_707 : decode code 707 = .ok (.aload_n 2, 1) := by decide +kernel
theorem d_La_law_708 : decode code 708 = .ok (.aload_n 0, 1) := by decide +kernel
theorem d_La_law_709 : decode code 709 = .ok (.iload_n 3, 1) := by decide +kernel
theorem d_La_law_710 : decode code 710 = .ok (.iconst 1, 1) := by decide +kernel
theorem d_La_law_711 : decode code 711 = .ok (.iadd, 1) := by decide +kernel
theorem d_La_law_712 : decode code 712 = .ok (.iaload, 1) := by decide +kernel
theorem d_La_law_713 : decode code 713 = .ok (.invokevirtual 61, 3) := by decide +kernel
theorem d_La_law_716 : decode code 716 = .ok (.if_icmp .eq 195, 3) := by decide +kernel
theorem d_La_law_719 : decode code 719 = .ok (.iconst 0, 1) := by decide +kernel
theorem d_La_law_720 : decode code 720 = .ok (.ireturn, 1) := by decide +kernel
theorem d_La_law_721 : decode code 721 = .ok (.aload_n 1, 1) := by decide +kernel
theorem d_La_law_722 : decode code 722 = .ok (.aload_n 0, 1) := by decide +kernel
theorem d_La_law_723 : decode code 723 = .ok (.iload_n 3, 1) := by decide +kernel
theorem d_La_law_724 : decode code 724 = .ok (.iconst 1, 1) := by decide +kernel
theorem d_La_law_725 : decode code 725 = .ok (.iadd, 1) := by decide +kernel
theorem d_La_law_726 : decode code 726 = .ok (.iaload, 1) := by decide +kernel
theorem d_La_law_727 : decode code 727 = .ok (.invokevirtual 62, 3) := by decide +kernel
theorem d_La_law_730 : decode code 730 = .ok (.aload_n 2, 1) := by decide +kernel
theorem d_La_law_731 : decode code 731 = .ok (.aload_n 0, 1) := by decide +kernel
theorem d_La_law_732 : decode code 732 = .ok (.iload_n 3, 1) := by decide +kernel
theorem d_La_law_733 : decode code 733 = .ok (.iconst 1, 1) := by decide +kernel
theorem d_La_law_734 : decode code 734 = .ok (.iadd, 1) := by decide +kernel
theorem d_La_law_735 : decode code 735 = .ok (.iaload, 1) := by decide +kernel
theorem d_La_law_736 : decode code 736 = .ok (.invokevirtual 66, 3) := by decide +kernel
theorem d_La_law_739 : decode code 739 = .ok (.if_icmp .eq 172, 3) := by decide +kernel
theorem d_La_law_742 : decode code 742 = .ok (.iconst 0, 1) := by decide +kernel
theorem d_La_law_743 : decode code 743 = .ok (.ireturn, 1) := by decide +kernel
theorem d_La_law_744 : decode code 744 = .ok (.aload_n 1, 1) := by decide +kernel
theorem d_La_law_745 : decode code 745 = .ok (.invokevirtual 67, 3) := by decide +kernel
theorem d_La_law_748 : decode code 748 = .ok (.aload_n 2, 1) := by decide +kernel
theorem d_La_law_749 : decode code 749 = .ok (.invokevirtual 70, 3) := by decide +kernel
theorem d_La_law_752 : decode code 752 = .ok (.lcmp, 1) := by decide +kernel
theorem d_La_law_753 : decode code 753 = .ok (.ifCond .eq 158, 3) := by decide +kernel
theorem d_La_law_756 : decode code 756 = .ok (.iconst 0, 1) := by decide +kernel
theorem d_La_law_757 : decode code 757 = .ok (.ireturn, 1) := by decide +kernel
theorem d_La_law_758 : decode code 758 = .ok (.aload_n 1, 1) := by decide +kernel
theorem d_La_law_759 : decode code 759 = .ok (.invokevirtual 71, 3) := by decide +kernel
theorem d_La_law_762 : decode code 762 = .ok (.aload_n 2, 1) := by decide +kernel
theorem d_La_law_763 : decode code 763 = .ok (.invokevirtual 74, 3) := by decide +kernel
theorem d_La_law_766 : decode code 766 = .ok (.lcmp, 1) := by decide +kernel
theorem d_La_law_767 : decode code 767 = .ok (.ifCond .eq 144, 3) := by decide +kernel
theorem d_La_law_770 : decode code 770 = .ok (.iconst 0, 1) := by decide +kernel
theorem d_La_law_771 : decode code 771 = .ok (.ireturn, 1) := by decide +kernel
theorem d_La_law_772 : decode code 772 = .ok (.aload_n 1, 1) := by decide +kernel
theorem d_La_law_773 : decode code 773 = .ok (.invokevirtual 75, 3) := by decide +kernel
theorem d_La_law_776 : decode code 776 = .ok (.aload_n 2, 1) := by decide +kernel
theorem d_La_law_777 : decode code 777 = .ok (.invokevirtual 79, 3) := by decide +kernel
theorem d_La_law_780 : decode code 780 = .ok (.if_icmp .eq 131, 3) := by decide +kernel
theorem d_La_law_783 : decode code 783 = .ok (.iconst 0, 1) := by decide +kernel
theorem d_La_law_784 : decode code 784 = .ok (.ireturn, 1) := by decide +kernel
theorem d_La_law_785 : decode code 785 = .ok (.aload_n 1, 1) := by decide +kernel
theorem d_La_law_786 : decode code 786 = .ok (.aload_n 0, 1) := by decide +kernel
theorem d_La_law_787 : decode code 787 = .ok (.iload_n 3, 1) := by decide +kernel
theorem d_La_law_788 : decode code 788 = .ok (.iconst 1, 1) := by decide +kernel
theorem d_La_law_789 : decode code 789 = .ok (.iadd, 1) := by decide +kernel
theorem d_La_law_790 : decode code 790 = .ok (.iaload, 1) := by decide +kernel
theorem d_La_law_791 : decode code 791 = .ok (.invokevirtual 80, 3) := by decide +kernel
theorem d_La_law_794 : decode code 794 = .ok (.aload_n 2, 1) := by decide +kernel
theorem d_La_law_795 : decode code 795 = .ok (.aload_n 0, 1) := by decide +kernel
theorem d_La_law_796 : decode code 796 = .ok (.iload_n 3, 1) := by decide +kernel
theorem d_La_law_797 : decode code 797 = .ok (.iconst 1, 1) := by decide +kernel
theorem d_La_law_798 : decode code 798 = .ok (.iadd, 1) := by decide +kernel
theorem d_La_law_799 : decode code 799 = .ok (.iaload, 1) := by decide +kernel
theorem d_La_law_800 : decode code 800 = .ok (.invokevirtual 83, 3) := by decide +kernel
theorem d_La_law_803 : decode code 803 = .ok (.if_icmp .eq 108, 3) := by decide +kernel
theorem d_La_law_806 : decode code 806 = .ok (.iconst 0, 1) := by decide +kernel
theorem d_La_law_807 : decode code 807 = .ok (.ireturn, 1) := by decide +kernel
theorem d_La_law_808 : decode code 808 = .ok (.aload_n 1, 1) := by decide +kernel
theorem d_La_law_809 : decode code 809 = .ok (.aload_n 0, 1) := by decide +kernel
theorem d_La_law_810 : decode code 810 = .ok (.iload_n 3, 1) := by decide +kernel
theorem d_La_law_811 : decode code 811 = .ok (.iconst 1, 1) := by decide +kernel
theorem d_La_law_812 : decode code 812 = .ok (.iadd, 1) := by decide +kernel
theorem d_La_law_813 : decode code 813 = .ok (.iaload, 1) := by decide +kernel
theorem d_La_law_814 : decode code 814 = .ok (.invokevirtual 84, 3) := by decide +kernel
theorem d_La_law_817 : decode code 817 = .ok (.aload_n 2, 1) := by decide +kernel
theorem d_La_law_818 : decode code 818 = .ok (.aload_n 0, 1) := by decide +kernel
theorem d_La_law_819 : decode code 819 = .ok (.iload_n 3, 1) := by decide +kernel
theorem d_La_law_820 : decode code 820 = .ok (.iconst 1, 1) := by decide +kernel
theorem d_La_law_821 : decode code 821 = .ok (.iadd, 1) := by decide +kernel
theorem d_La_law_822 : decode code 822 = .ok (.iaload, 1) := by decide +kernel
theorem d_La_law_823 : decode code 823 = .ok (.invokevirtual 88, 3) := by decide +kernel
theorem d_La_law_826 : decode code 826 = .ok (.lcmp, 1) := by decide +kernel
theorem d_La_law_827 : decode code 827 = .ok (.ifCond .eq 84, 3) := by decide +kernel
theorem d_La_law_830 : decode code 830 = .ok (.iconst 0, 1) := by decide +kernel
theorem d_La_law_831 : decode code 831 = .ok (.ireturn, 1) := by decide +kernel
theorem d_La_law_832 : decode code 832 = .ok (.aload_n 1, 1) := by decide +kernel
theorem d_La_law_833 : decode code 833 = .ok (.aload_n 0, 1) := by decide +kernel
theorem d_La_law_834 : decode code 834 = .ok (.iload_n 3, 1) := by decide +kernel
theorem d_La_law_835 : decode code 835 = .ok (.iconst 1, 1) := by decide +kernel
theorem d_La_law_836 : decode code 836 = .ok (.iadd, 1) := by decide +kernel
theorem d_La_law_837 : decode code 837 = .ok (.iaload, 1) := by decide +kernel
theorem d_La_law_838 : decode code 838 = .ok (.invokevirtual 89, 3) := by decide +kernel
theorem d_La_law_841 : decode code 841 = .ok (.aload_n 2, 1) := by decide +kernel
theorem d_La_law_842 : decode code 842 = .ok (.aload_n 0, 1) := by decide +kernel
theorem d_La_law_843 : decode code 843 = .ok (.iload_n 3, 1) := by decide +kernel
theorem d_La_law_844 : decode code 844 = .ok (.iconst 1, 1) := by decide +kernel
theorem d_La_law_845 : decode code 845 = .ok (.iadd, 1) := by decide +kernel
theorem d_La_law_846 : decode code 846 = .ok (.iaload, 1) := by decide +kernel
theorem d_La_law_847 : decode code 847 = .ok (.invokevirtual 92, 3) := by decide +kernel
theorem d_La_law_850 : decode code 850 = .ok (.if_icmp .eq 61, 3) := by decide +kernel
theorem d_La_law_853 : decode code 853 = .ok (.iconst 0, 1) := by decide +kernel
theorem d_La_law_854 : decode code 854 = .ok (.ireturn, 1) := by decide +kernel
theorem d_La_law_855 : decode code 855 = .ok (.aload_n 1, 1) := by decide +kernel
theorem d_La_law_856 : decode code 856 = .ok (.aload_n 0, 1) := by decide +kernel
theorem d_La_law_857 : decode code 857 = .ok (.iload_n 3, 1) := by decide +kernel
theorem d_La_law_858 : decode code 858 = .ok (.iconst 1, 1) := by decide +kernel
theorem d_La_law_859 : decode code 859 = .ok (.iadd, 1) := by decide +kernel
theorem d_La_law_860 : decode code 860 = .ok (.iaload, 1) := by decide +kernel
theorem d_La_law_861 : decode code 861 = .ok (.invokevirtual 93, 3) := by decide +kernel
theorem d_La_law_864 : decode code 864 = .ok (.aload_n 2, 1) := by decide +kernel
theorem d_La_law_865 : decode code 865 = .ok (.aload_n 0, 1) := by decide +kernel
theorem d_La_law_866 : decode code 866 = .ok (.iload_n 3, 1) := by decide +kernel
theorem d_La_law_867 : decode code 867 = .ok (.iconst 1, 1) := by decide +kernel
theorem d_La_law_868 : decode code 868 = .ok (.iadd, 1) := by decide +kernel
theorem d_La_law_869 : decode code 869 = .ok (.iaload, 1) := by decide +kernel
theorem d_La_law_870 : decode code 870 = .ok (.invokevirtual 96, 3) := by decide +kernel
theorem d_La_law_873 : decode code 873 = .ok (.if_icmp .eq 38, 3) := by decide +kernel
theorem d_La_law_876 : decode code 876 = .ok (.iconst 0, 1) := by decide +kernel
theorem d_La_law_877 : decode code 877 = .ok (.ireturn, 1) := by decide +kernel
theorem d_La_law_878 : decode code 878 = .ok (.aload_n 1, 1) := by decide +kernel
theorem d_La_law_879 : decode code 879 = .ok (.aload_n 0, 1) := by decide +kernel
theorem d_La_law_880 : decode code 880 = .ok (.iload_n 3, 1) := by decide +kernel
theorem d_La_law_881 : decode code 881 = .ok (.iconst 1, 1) := by decide +kernel
theorem d_La_law_882 : decode code 882 = .ok (.iadd, 1) := by decide +kernel
theorem d_La_law_883 : decode code 883 = .ok (.iaload, 1) := by decide +kernel
theorem d_La_law_884 : decode code 884 = .ok (.aload_n 0, 1) := by decide +kernel
theorem d_La_law_885 : decode code 885 = .ok (.iload_n 3, 1) := by decide +kernel
theorem d_La_law_886 : decode code 886 = .ok (.iconst 2, 1) := by decide +kernel
theorem d_La_law_887 : decode code 887 = .ok (.iadd, 1) := by decide +kernel
theorem d_La_law_888 : decode code 888 = .ok (.iaload, 1) := by decide +kernel
theorem d_La_law_889 : decode code 889 = .ok (.invokevirtual 97, 3) := by decide +kernel
theorem d_La_law_892 : decode code 892 = .ok (.aload_n 2, 1) := by decide +kernel
theorem d_La_law_893 : decode code 893 = .ok (.aload_n 0, 1) := by decide +kernel
theorem d_La_law_894 : decode code 894 = .ok (.iload_n 3, 1) := by decide +kernel
theorem d_La_law_895 : decode code 895 = .ok (.iconst 1, 1) := by decide +kernel
theorem d_La_law_896 : decode code 896 = .ok (.iadd, 1) := by decide +kernel
theorem d_La_law_897 : decode code 897 = .ok (.iaload, 1) := by decide +kernel
theorem d_La_law_898 : decode code 898 = .ok (.aload_n 0, 1) := by decide +kernel
theorem d_La_law_899 : decode code 899 = .ok (.iload_n 3, 1) := by decide +kernel
theorem d_La_law_900 : decode code 900 = .ok (.iconst 2, 1) := by decide +kernel
theorem d_La_law_901 : decode code 901 = .ok (.iadd, 1) := by decide +kernel
theorem d_La_law_902 : decode code 902 = .ok (.iaload, 1) := by decide +kernel
theorem d_La_law_903 : decode code 903 = .ok (.invokevirtual 101, 3) := by decide +kernel
theorem d_La_law_906 : decode code 906 = .ok (.if_icmp .eq 5, 3) := by decide +kernel
theorem d_La_law_909 : decode code 909 = .ok (.iconst 0, 1) := by decide +kernel
theorem d_La_law_910 : decode code 910 = .ok (.ireturn, 1) := by decide +kernel
theorem d_La_law_911 : decode code 911 = .ok (.iinc 3 9, 3) := by decide +kernel
theorem d_La_law_914 : decode code 914 = .ok (.goto (-896), 3) := by decide +kernel
theorem d_La_law_917 : decode code 917 = .ok (.iconst 1, 1) := by decide +kernel
theorem d_La_law_918 : decode code 918 = .ok (.ireturn, 1) := by decide +kernel
end
section
set_option maxRecDepth 100000 in
theorem f_Si_12 : sx_F SC g_tbl "SiteChoice" 12 5 0 3 := ⟨"SiteChoice", T_Si, 6, rfl, la_Si, by decide, rfl, tb_ 194 (by decide +kernel) rfl⟩
set_option maxRecDepth 100000 in
theorem p_Si_12 : sx_Pf SC g_tbl "SiteChoice" 12 5 0 3 true (.object "SiteChoice$Town") := ⟨"SiteChoice", T_Si, 6, t_Si, rfl, la_Si, ty_Si, nm_Si, by decide, rfl, tb_ 194 (by decide +kernel) rfl, rfl, (fun _ => rfl), by decide +kernel⟩
set_option maxRecDepth 100000 in
theorem f_Si_19 : sx_F SC g_tbl "SiteChoice" 19 5 1 3 := ⟨"SiteChoice", T_Si, 6, rfl, la_Si, by decide, rfl, tb_ 195 (by decide +kernel) rfl⟩
set_option maxRecDepth 100000 in
theorem p_Si_19 : sx_Pf SC g_tbl "SiteChoice" 19 5 1 3 true (.object "SiteChoice$Search") := ⟨"SiteChoice", T_Si, 6, t_Si, rfl, la_Si, ty_Si, nm_Si, by decide, rfl, tb_ 195 (by decide +kernel) rfl, rfl, (fun _ => rfl), by decide +kernel⟩
set_option maxRecDepth 100000 in
theorem f_Si_26 : sx_F SC g_tbl "SiteChoice" 26 5 2 3 := ⟨"SiteChoice", T_Si, 6, rfl, la_Si, by decide, rfl, tb_ 196 (by decide +kernel) rfl⟩
set_option maxRecDepth 100000 in
theorem p_Si_26 : sx_Pf SC g_tbl "SiteChoice" 26 5 2 3 true (.object "SiteChoice$HeldPlan") := ⟨"SiteChoice", T_Si, 6, t_Si, rfl, la_Si, ty_Si, nm_Si, by decide, rfl, tb_ 196 (by decide +kernel) rfl, rfl, (fun _ => rfl), by decide +kernel⟩
set_option maxRecDepth 100000 in
theorem f_Si_33 : sx_F SC g_tbl "SiteChoice" 33 5 3 3 := ⟨"SiteChoice", T_Si, 6, rfl, la_Si, by decide, rfl, tb_ 197 (by decide +kernel) rfl⟩
set_option maxRecDepth 100000 in
theorem p_Si_33 : sx_Pf SC g_tbl "SiteChoice" 33 5 3 3 true (.object "SiteChoice$Unserved") := ⟨"SiteChoice", T_Si, 6, t_Si, rfl, la_Si, ty_Si, nm_Si, by decide, rfl, tb_ 197 (by decide +kernel) rfl, rfl, (fun _ => rfl), by decide +kernel⟩
set_option maxRecDepth 100000 in
theorem f_Si_40 : sx_F SC g_tbl "SiteChoice" 40 5 4 3 := ⟨"SiteChoice", T_Si, 6, rfl, la_Si, by decide, rfl, tb_ 198 (by decide +kernel) rfl⟩
set_option maxRecDepth 100000 in
theorem p_Si_40 : sx_Pf SC g_tbl "SiteChoice" 40 5 4 3 true (.object "SiteChoice$Calendar") := ⟨"SiteChoice", T_Si, 6, t_Si, rfl, la_Si, ty_Si, nm_Si, by decide, rfl, tb_ 198 (by decide +kernel) rfl, rfl, (fun _ => rfl), by decide +kernel⟩
set_option maxRecDepth 100000 in
theorem f_Si_44 : sx_F SC g_tbl "SiteChoice" 44 5 5 2 := ⟨"SiteChoice", T_Si, 6, rfl, la_Si, by decide, rfl, tb_ 199 (by decide +kernel) rfl⟩
set_option maxRecDepth 100000 in
theorem p_Si_44 : sx_Pf SC g_tbl "SiteChoice" 44 5 5 2 false (.boolean) := ⟨"SiteChoice", T_Si, 6, t_Si, rfl, la_Si, ty_Si, nm_Si, by decide, rfl, tb_ 199 (by decide +kernel) rfl, rfl, (fun h => by cases h), by decide +kernel⟩
set_option maxRecDepth 100000 in
theorem f_Si_48 : sx_F SC g_tbl "SiteChoice" 48 0 0 0 := ⟨"SiteChoice$Town", T_To, 12, rfl, la_To, by decide, rfl, tb_ 31 (by decide +kernel) rfl⟩
set_option maxRecDepth 100000 in
theorem f_Si_62 : sx_F SC g_tbl "SiteChoice" 62 0 1 0 := ⟨"SiteChoice$Town", T_To, 12, rfl, la_To, by decide, rfl, tb_ 36 (by decide +kernel) rfl⟩
set_option maxRecDepth 100000 in
theorem f_Si_84 : sx_F SC g_tbl "SiteChoice" 84 0 5 3 := ⟨"SiteChoice$Town", T_To, 12, rfl, la_To, by decide, rfl, tb_ 48 (by decide +kernel) rfl⟩
set_option maxRecDepth 100000 in
theorem f_Si_88 : sx_F SC g_tbl "SiteChoice" 88 0 11 3 := ⟨"SiteChoice$Town", T_To, 12, rfl, la_To, by decide, rfl, tb_ 59 (by decide +kernel) rfl⟩
set_option maxRecDepth 100000 in
theorem f_Si_94 : sx_F SC g_tbl "SiteChoice" 94 0 10 3 := ⟨"SiteChoice$Town", T_To, 12, rfl, la_To, by decide, rfl, tb_ 57 (by decide +kernel) rfl⟩
set_option maxRecDepth 100000 in
theorem p_Si_100 : sx_Pf SC g_tbl "SiteChoice" 100 0 2 1 false (.long) := ⟨"SiteChoice$Town", T_To, 12, t_To, rfl, la_To, ty_To, nm_To, by decide, rfl, tb_ 41 (by decide +kernel) rfl, rfl, (fun h => by cases h), by decide +kernel⟩
set_option maxRecDepth 100000 in
theorem f_Si_104 : sx_F SC g_tbl "SiteChoice" 104 0 4 3 := ⟨"SiteChoice$Town", T_To, 12, rfl, la_To, by decide, rfl, tb_ 46 (by decide +kernel) rfl⟩
set_option maxRecDepth 100000 in
theorem f_Si_131 : sx_F SC g_tbl "SiteChoice" 131 1 10 3 := ⟨"SiteChoice$Search", T_Se, 14, rfl, la_Se, by decide, rfl, tb_ 109 (by decide +kernel) rfl⟩
set_option maxRecDepth 100000 in
theorem f_Si_146 : sx_F SC g_tbl "SiteChoice" 146 2 0 2 := ⟨"SiteChoice$HeldPlan", T_He, 3, rfl, la_He, by decide, rfl, tb_ 150 (by decide +kernel) rfl⟩
set_option maxRecDepth 100000 in
theorem f_Si_149 : sx_F SC g_tbl "SiteChoice" 149 2 1 1 := ⟨"SiteChoice$HeldPlan", T_He, 3, rfl, la_He, by decide, rfl, tb_ 152 (by decide +kernel) rfl⟩
set_option maxRecDepth 100000 in
theorem f_Ca_9 : sx_F SC g_tbl "SiteChoice$Calendar" 9 4 0 0 := ⟨"SiteChoice$Calendar", T_Ca, 4, rfl, la_Ca, by decide, rfl, tb_ 181 (by decide +kernel) rfl⟩
set_option maxRecDepth 100000 in
theorem p_Ca_9 : sx_Pf SC g_tbl "SiteChoice$Calendar" 9 4 0 0 false (.int) := ⟨"SiteChoice$Calendar", T_Ca, 4, t_Ca, rfl, la_Ca, ty_Ca, nm_Ca, by decide, rfl, tb_ 181 (by decide +kernel) rfl, rfl, (fun h => by cases h), by decide +kernel⟩
set_option maxRecDepth 100000 in
theorem f_Ca_15 : sx_F SC g_tbl "SiteChoice$Calendar" 15 4 1 3 := ⟨"SiteChoice$Calendar", T_Ca, 4, rfl, la_Ca, by decide, rfl, tb_ 182 (by decide +kernel) rfl⟩
set_option maxRecDepth 100000 in
theorem p_Ca_15 : sx_Pf SC g_tbl "SiteChoice$Calendar" 15 4 1 3 true (.array .int) := ⟨"SiteChoice$Calendar", T_Ca, 4, t_Ca, rfl, la_Ca, ty_Ca, nm_Ca, by decide, rfl, tb_ 182 (by decide +kernel) rfl, rfl, (fun _ => rfl), by decide +kernel⟩
set_option maxRecDepth 100000 in
theorem f_Ca_21 : sx_F SC g_tbl "SiteChoice$Calendar" 21 4 2 3 := ⟨"SiteChoice$Calendar", T_Ca, 4, rfl, la_Ca, by decide, rfl, tb_ 183 (by decide +kernel) rfl⟩
set_option maxRecDepth 100000 in
theorem p_Ca_21 : sx_Pf SC g_tbl "SiteChoice$Calendar" 21 4 2 3 true (.array (.array .long)) := ⟨"SiteChoice$Calendar", T_Ca, 4, t_Ca, rfl, la_Ca, ty_Ca, nm_Ca, by decide, rfl, tb_ 183 (by decide +kernel) rfl, rfl, (fun _ => rfl), by decide +kernel⟩
set_option maxRecDepth 100000 in
theorem f_Ca_24 : sx_F SC g_tbl "SiteChoice$Calendar" 24 4 3 3 := ⟨"SiteChoice$Calendar", T_Ca, 4, rfl, la_Ca, by decide, rfl, tb_ 184 (by decide +kernel) rfl⟩
set_option maxRecDepth 100000 in
theorem p_Ca_24 : sx_Pf SC g_tbl "SiteChoice$Calendar" 24 4 3 3 true (.array (.array .long)) := ⟨"SiteChoice$Calendar", T_Ca, 4, t_Ca, rfl, la_Ca, ty_Ca, nm_Ca, by decide, rfl, tb_ 184 (by decide +kernel) rfl, rfl, (fun _ => rfl), by decide +kernel⟩
set_option maxRecDepth 100000 in
theorem f_Ca_33 : sx_F SC g_tbl "SiteChoice$Calendar" 33 0 1 0 := ⟨"SiteChoice$Town", T_To, 12, rfl, la_To, by decide, rfl, tb_ 37 (by decide +kernel) rfl⟩
set_option maxRecDepth 100000 in
theorem f_Ca_55 : sx_F SC g_tbl "SiteChoice$Calendar" 55 1 6 3 := ⟨"SiteChoice$Search", T_Se, 14, rfl, la_Se, by decide, rfl, tb_ 104 (by decide +kernel) rfl⟩
set_option maxRecDepth 100000 in
theorem f_Ca_62 : sx_F SC g_tbl "SiteChoice$Calendar" 62 1 5 3 := ⟨"SiteChoice$Search", T_Se, 14, rfl, la_Se, by decide, rfl, tb_ 102 (by decide +kernel) rfl⟩
set_option maxRecDepth 100000 in
theorem f_He_9 : sx_F SC g_tbl "SiteChoice$HeldPlan" 9 2 0 2 := ⟨"SiteChoice$HeldPlan", T_He, 3, rfl, la_He, by decide, rfl, tb_ 149 (by decide +kernel) rfl⟩
set_option maxRecDepth 100000 in
theorem p_He_9 : sx_Pf SC g_tbl "SiteChoice$HeldPlan" 9 2 0 2 false (.boolean) := ⟨"SiteChoice$HeldPlan", T_He, 3, t_He, rfl, la_He, ty_He, nm_He, by decide, rfl, tb_ 149 (by decide +kernel) rfl, rfl, (fun h => by cases h), by decide +kernel⟩
set_option maxRecDepth 100000 in
theorem f_He_15 : sx_F SC g_tbl "SiteChoice$HeldPlan" 15 2 1 1 := ⟨"SiteChoice$HeldPlan", T_He, 3, rfl, la_He, by decide, rfl, tb_ 151 (by decide +kernel) rfl⟩
set_option maxRecDepth 100000 in
theorem p_He_15 : sx_Pf SC g_tbl "SiteChoice$HeldPlan" 15 2 1 1 false (.long) := ⟨"SiteChoice$HeldPlan", T_He, 3, t_He, rfl, la_He, ty_He, nm_He, by decide, rfl, tb_ 151 (by decide +kernel) rfl, rfl, (fun h => by cases h), by decide +kernel⟩
set_option maxRecDepth 100000 in
theorem f_He_19 : sx_F SC g_tbl "SiteChoice$HeldPlan" 19 2 2 3 := ⟨"SiteChoice$HeldPlan", T_He, 3, rfl, la_He, by decide, rfl, tb_ 153 (by decide +kernel) rfl⟩
set_option maxRecDepth 100000 in
theorem p_He_19 : sx_Pf SC g_tbl "SiteChoice$HeldPlan" 19 2 2 3 true (.array .int) := ⟨"SiteChoice$HeldPlan", T_He, 3, t_He, rfl, la_He, ty_He, nm_He, by decide, rfl, tb_ 153 (by decide +kernel) rfl, rfl, (fun _ => rfl), by decide +kernel⟩
set_option maxRecDepth 100000 in
theorem f_He_33 : sx_F SC g_tbl "SiteChoice$HeldPlan" 33 0 0 0 := ⟨"SiteChoice$Town", T_To, 12, rfl, la_To, by decide, rfl, tb_ 33 (by decide +kernel) rfl⟩
set_option maxRecDepth 100000 in
theorem f_He_43 : sx_F SC g_tbl "SiteChoice$HeldPlan" 43 0 3 3 := ⟨"SiteChoice$Town", T_To, 12, rfl, la_To, by decide, rfl, tb_ 44 (by decide +kernel) rfl⟩
set_option maxRecDepth 100000 in
theorem f_He_47 : sx_F SC g_tbl "SiteChoice$HeldPlan" 47 0 5 3 := ⟨"SiteChoice$Town", T_To, 12, rfl, la_To, by decide, rfl, tb_ 49 (by decide +kernel) rfl⟩
set_option maxRecDepth 100000 in
theorem f_He_51 : sx_F SC g_tbl "SiteChoice$HeldPlan" 51 0 1 0 := ⟨"SiteChoice$Town", T_To, 12, rfl, la_To, by decide, rfl, tb_ 38 (by decide +kernel) rfl⟩
set_option maxRecDepth 100000 in
theorem f_Se_9 : sx_F SC g_tbl "SiteChoice$Search" 9 1 0 0 := ⟨"SiteChoice$Search", T_Se, 14, rfl, la_Se, by decide, rfl, tb_ 96 (by decide +kernel) rfl⟩
set_option maxRecDepth 100000 in
theorem p_Se_9 : sx_Pf SC g_tbl "SiteChoice$Search" 9 1 0 0 false (.int) := ⟨"SiteChoice$Search", T_Se, 14, t_Se, rfl, la_Se, ty_Se, nm_Se, by decide, rfl, tb_ 96 (by decide +kernel) rfl, rfl, (fun h => by cases h), by decide +kernel⟩
set_option maxRecDepth 100000 in
theorem f_Se_15 : sx_F SC g_tbl "SiteChoice$Search" 15 1 1 0 := ⟨"SiteChoice$Search", T_Se, 14, rfl, la_Se, by decide, rfl, tb_ 97 (by decide +kernel) rfl⟩
set_option maxRecDepth 100000 in
theorem p_Se_15 : sx_Pf SC g_tbl "SiteChoice$Search" 15 1 1 0 false (.int) := ⟨"SiteChoice$Search", T_Se, 14, t_Se, rfl, la_Se, ty_Se, nm_Se, by decide, rfl, tb_ 97 (by decide +kernel) rfl, rfl, (fun h => by cases h), by decide +kernel⟩
set_option maxRecDepth 100000 in
theorem f_Se_18 : sx_F SC g_tbl "SiteChoice$Search" 18 1 2 3 := ⟨"SiteChoice$Search", T_Se, 14, rfl, la_Se, by decide, rfl, tb_ 98 (by decide +kernel) rfl⟩
set_option maxRecDepth 100000 in
theorem p_Se_18 : sx_Pf SC g_tbl "SiteChoice$Search" 18 1 2 3 true (.array .long) := ⟨"SiteChoice$Search", T_Se, 14, t_Se, rfl, la_Se, ty_Se, nm_Se, by decide, rfl, tb_ 98 (by decide +kernel) rfl, rfl, (fun _ => rfl), by decide +kernel⟩
set_option maxRecDepth 100000 in
theorem f_Se_22 : sx_F SC g_tbl "SiteChoice$Search" 22 1 3 3 := ⟨"SiteChoice$Search", T_Se, 14, rfl, la_Se, by decide, rfl, tb_ 99 (by decide +kernel) rfl⟩
set_option maxRecDepth 100000 in
theorem p_Se_22 : sx_Pf SC g_tbl "SiteChoice$Search" 22 1 3 3 true (.array .long) := ⟨"SiteChoice$Search", T_Se, 14, t_Se, rfl, la_Se, ty_Se, nm_Se, by decide, rfl, tb_ 99 (by decide +kernel) rfl, rfl, (fun _ => rfl), by decide +kernel⟩
set_option maxRecDepth 100000 in
theorem f_Se_27 : sx_F SC g_tbl "SiteChoice$Search" 27 1 4 3 := ⟨"SiteChoice$Search", T_Se, 14, rfl, la_Se, by decide, rfl, tb_ 100 (by decide +kernel) rfl⟩
set_option maxRecDepth 100000 in
theorem p_Se_27 : sx_Pf SC g_tbl "SiteChoice$Search" 27 1 4 3 true (.array (.array .long)) := ⟨"SiteChoice$Search", T_Se, 14, t_Se, rfl, la_Se, ty_Se, nm_Se, by decide, rfl, tb_ 100 (by decide +kernel) rfl, rfl, (fun _ => rfl), by decide +kernel⟩
set_option maxRecDepth 100000 in
theorem f_Se_30 : sx_F SC g_tbl "SiteChoice$Search" 30 1 5 3 := ⟨"SiteChoice$Search", T_Se, 14, rfl, la_Se, by decide, rfl, tb_ 101 (by decide +kernel) rfl⟩
set_option maxRecDepth 100000 in
theorem p_Se_30 : sx_Pf SC g_tbl "SiteChoice$Search" 30 1 5 3 true (.array .boolean) := ⟨"SiteChoice$Search", T_Se, 14, t_Se, rfl, la_Se, ty_Se, nm_Se, by decide, rfl, tb_ 101 (by decide +kernel) rfl, rfl, (fun _ => rfl), by decide +kernel⟩
set_option maxRecDepth 100000 in
theorem f_Se_34 : sx_F SC g_tbl "SiteChoice$Search" 34 1 6 3 := ⟨"SiteChoice$Search", T_Se, 14, rfl, la_Se, by decide, rfl, tb_ 103 (by decide +kernel) rfl⟩
set_option maxRecDepth 100000 in
theorem p_Se_34 : sx_Pf SC g_tbl "SiteChoice$Search" 34 1 6 3 true (.array .long) := ⟨"SiteChoice$Search", T_Se, 14, t_Se, rfl, la_Se, ty_Se, nm_Se, by decide, rfl, tb_ 103 (by decide +kernel) rfl, rfl, (fun _ => rfl), by decide +kernel⟩
set_option maxRecDepth 100000 in
theorem f_Se_37 : sx_F SC g_tbl "SiteChoice$Search" 37 1 7 3 := ⟨"SiteChoice$Search", T_Se, 14, rfl, la_Se, by decide, rfl, tb_ 105 (by decide +kernel) rfl⟩
set_option maxRecDepth 100000 in
theorem p_Se_37 : sx_Pf SC g_tbl "SiteChoice$Search" 37 1 7 3 true (.array .long) := ⟨"SiteChoice$Search", T_Se, 14, t_Se, rfl, la_Se, ty_Se, nm_Se, by decide, rfl, tb_ 105 (by decide +kernel) rfl, rfl, (fun _ => rfl), by decide +kernel⟩
set_option maxRecDepth 100000 in
theorem f_Se_40 : sx_F SC g_tbl "SiteChoice$Search" 40 1 8 3 := ⟨"SiteChoice$Search", T_Se, 14, rfl, la_Se, by decide, rfl, tb_ 106 (by decide +kernel) rfl⟩
set_option maxRecDepth 100000 in
theorem p_Se_40 : sx_Pf SC g_tbl "SiteChoice$Search" 40 1 8 3 true (.array .long) := ⟨"SiteChoice$Search", T_Se, 14, t_Se, rfl, la_Se, ty_Se, nm_Se, by decide, rfl, tb_ 106 (by decide +kernel) rfl, rfl, (fun _ => rfl), by decide +kernel⟩
set_option maxRecDepth 100000 in
theorem f_Se_43 : sx_F SC g_tbl "SiteChoice$Search" 43 1 9 3 := ⟨"SiteChoice$Search", T_Se, 14, rfl, la_Se, by decide, rfl, tb_ 107 (by decide +kernel) rfl⟩
set_option maxRecDepth 100000 in
theorem p_Se_43 : sx_Pf SC g_tbl "SiteChoice$Search" 43 1 9 3 true (.array .int) := ⟨"SiteChoice$Search", T_Se, 14, t_Se, rfl, la_Se, ty_Se, nm_Se, by decide, rfl, tb_ 107 (by decide +kernel) rfl, rfl, (fun _ => rfl), by decide +kernel⟩
set_option maxRecDepth 100000 in
theorem f_Se_47 : sx_F SC g_tbl "SiteChoice$Search" 47 1 10 3 := ⟨"SiteChoice$Search", T_Se, 14, rfl, la_Se, by decide, rfl, tb_ 108 (by decide +kernel) rfl⟩
set_option maxRecDepth 100000 in
theorem p_Se_47 : sx_Pf SC g_tbl "SiteChoice$Search" 47 1 10 3 true (.array .int) := ⟨"SiteChoice$Search", T_Se, 14, t_Se, rfl, la_Se, ty_Se, nm_Se, by decide, rfl, tb_ 108 (by decide +kernel) rfl, rfl, (fun _ => rfl), by decide +kernel⟩
set_option maxRecDepth 100000 in
theorem f_Se_52 : sx_F SC g_tbl "SiteChoice$Search" 52 1 11 1 := ⟨"SiteChoice$Search", T_Se, 14, rfl, la_Se, by decide, rfl, tb_ 110 (by decide +kernel) rfl⟩
set_option maxRecDepth 100000 in
theorem p_Se_52 : sx_Pf SC g_tbl "SiteChoice$Search" 52 1 11 1 false (.long) := ⟨"SiteChoice$Search", T_Se, 14, t_Se, rfl, la_Se, ty_Se, nm_Se, by decide, rfl, tb_ 110 (by decide +kernel) rfl, rfl, (fun h => by cases h), by decide +kernel⟩
set_option maxRecDepth 100000 in
theorem f_Se_56 : sx_F SC g_tbl "SiteChoice$Search" 56 1 12 0 := ⟨"SiteChoice$Search", T_Se, 14, rfl, la_Se, by decide, rfl, tb_ 111 (by decide +kernel) rfl⟩
set_option maxRecDepth 100000 in
theorem p_Se_56 : sx_Pf SC g_tbl "SiteChoice$Search" 56 1 12 0 false (.int) := ⟨"SiteChoice$Search", T_Se, 14, t_Se, rfl, la_Se, ty_Se, nm_Se, by decide, rfl, tb_ 111 (by decide +kernel) rfl, rfl, (fun h => by cases h), by decide +kernel⟩
set_option maxRecDepth 100000 in
theorem f_Se_59 : sx_F SC g_tbl "SiteChoice$Search" 59 1 13 2 := ⟨"SiteChoice$Search", T_Se, 14, rfl, la_Se, by decide, rfl, tb_ 112 (by decide +kernel) rfl⟩
set_option maxRecDepth 100000 in
theorem p_Se_59 : sx_Pf SC g_tbl "SiteChoice$Search" 59 1 13 2 false (.boolean) := ⟨"SiteChoice$Search", T_Se, 14, t_Se, rfl, la_Se, ty_Se, nm_Se, by decide, rfl, tb_ 112 (by decide +kernel) rfl, rfl, (fun h => by cases h), by decide +kernel⟩
set_option maxRecDepth 100000 in
theorem f_Se_63 : sx_F SC g_tbl "SiteChoice$Search" 63 0 0 0 := ⟨"SiteChoice$Town", T_To, 12, rfl, la_To, by decide, rfl, tb_ 30 (by decide +kernel) rfl⟩
set_option maxRecDepth 100000 in
theorem f_Se_66 : sx_F SC g_tbl "SiteChoice$Search" 66 0 1 0 := ⟨"SiteChoice$Town", T_To, 12, rfl, la_To, by decide, rfl, tb_ 35 (by decide +kernel) rfl⟩
set_option maxRecDepth 100000 in
theorem f_Se_73 : sx_F SC g_tbl "SiteChoice$Search" 73 0 9 3 := ⟨"SiteChoice$Town", T_To, 12, rfl, la_To, by decide, rfl, tb_ 55 (by decide +kernel) rfl⟩
set_option maxRecDepth 100000 in
theorem f_Se_81 : sx_F SC g_tbl "SiteChoice$Search" 81 0 3 3 := ⟨"SiteChoice$Town", T_To, 12, rfl, la_To, by decide, rfl, tb_ 43 (by decide +kernel) rfl⟩
set_option maxRecDepth 100000 in
theorem f_Se_90 : sx_F SC g_tbl "SiteChoice$Search" 90 0 8 3 := ⟨"SiteChoice$Town", T_To, 12, rfl, la_To, by decide, rfl, tb_ 53 (by decide +kernel) rfl⟩
set_option maxRecDepth 100000 in
theorem f_Se_93 : sx_F SC g_tbl "SiteChoice$Search" 93 0 11 3 := ⟨"SiteChoice$Town", T_To, 12, rfl, la_To, by decide, rfl, tb_ 60 (by decide +kernel) rfl⟩
set_option maxRecDepth 100000 in
theorem f_Se_96 : sx_F SC g_tbl "SiteChoice$Search" 96 0 2 1 := ⟨"SiteChoice$Town", T_To, 12, rfl, la_To, by decide, rfl, tb_ 40 (by decide +kernel) rfl⟩
set_option maxRecDepth 100000 in
theorem f_To_9 : sx_F SC g_tbl "SiteChoice$Town" 9 0 0 0 := ⟨"SiteChoice$Town", T_To, 12, rfl, la_To, by decide, rfl, tb_ 29 (by decide +kernel) rfl⟩
set_option maxRecDepth 100000 in
theorem p_To_9 : sx_Pf SC g_tbl "SiteChoice$Town" 9 0 0 0 false (.int) := ⟨"SiteChoice$Town", T_To, 12, t_To, rfl, la_To, ty_To, nm_To, by decide, rfl, tb_ 29 (by decide +kernel) rfl, rfl, (fun h => by cases h), by decide +kernel⟩
set_option maxRecDepth 100000 in
theorem f_To_15 : sx_F SC g_tbl "SiteChoice$Town" 15 0 1 0 := ⟨"SiteChoice$Town", T_To, 12, rfl, la_To, by decide, rfl, tb_ 34 (by decide +kernel) rfl⟩
set_option maxRecDepth 100000 in
theorem p_To_15 : sx_Pf SC g_tbl "SiteChoice$Town" 15 0 1 0 false (.int) := ⟨"SiteChoice$Town", T_To, 12, t_To, rfl, la_To, ty_To, nm_To, by decide, rfl, tb_ 34 (by decide +kernel) rfl, rfl, (fun h => by cases h), by decide +kernel⟩
set_option maxRecDepth 100000 in
theorem p_To_20 : sx_Pf SC g_tbl "SiteChoice$Town" 20 0 2 1 false (.long) := ⟨"SiteChoice$Town", T_To, 12, t_To, rfl, la_To, ty_To, nm_To, by decide, rfl, tb_ 39 (by decide +kernel) rfl, rfl, (fun h => by cases h), by decide +kernel⟩
set_option maxRecDepth 100000 in
theorem f_To_24 : sx_F SC g_tbl "SiteChoice$Town" 24 0 3 3 := ⟨"SiteChoice$Town", T_To, 12, rfl, la_To, by decide, rfl, tb_ 42 (by decide +kernel) rfl⟩
set_option maxRecDepth 100000 in
theorem p_To_24 : sx_Pf SC g_tbl "SiteChoice$Town" 24 0 3 3 true (.array .long) := ⟨"SiteChoice$Town", T_To, 12, t_To, rfl, la_To, ty_To, nm_To, by decide, rfl, tb_ 42 (by decide +kernel) rfl, rfl, (fun _ => rfl), by decide +kernel⟩
set_option maxRecDepth 100000 in
theorem f_To_28 : sx_F SC g_tbl "SiteChoice$Town" 28 0 4 3 := ⟨"SiteChoice$Town", T_To, 12, rfl, la_To, by decide, rfl, tb_ 45 (by decide +kernel) rfl⟩
set_option maxRecDepth 100000 in
theorem p_To_28 : sx_Pf SC g_tbl "SiteChoice$Town" 28 0 4 3 true (.array .long) := ⟨"SiteChoice$Town", T_To, 12, t_To, rfl, la_To, ty_To, nm_To, by decide, rfl, tb_ 45 (by decide +kernel) rfl, rfl, (fun _ => rfl), by decide +kernel⟩
set_option maxRecDepth 100000 in
theorem f_To_33 : sx_F SC g_tbl "SiteChoice$Town" 33 0 5 3 := ⟨"SiteChoice$Town", T_To, 12, rfl, la_To, by decide, rfl, tb_ 47 (by decide +kernel) rfl⟩
set_option maxRecDepth 100000 in
theorem p_To_33 : sx_Pf SC g_tbl "SiteChoice$Town" 33 0 5 3 true (.array (.array .long)) := ⟨"SiteChoice$Town", T_To, 12, t_To, rfl, la_To, ty_To, nm_To, by decide, rfl, tb_ 47 (by decide +kernel) rfl, rfl, (fun _ => rfl), by decide +kernel⟩
set_option maxRecDepth 100000 in
theorem f_To_36 : sx_F SC g_tbl "SiteChoice$Town" 36 0 6 3 := ⟨"SiteChoice$Town", T_To, 12, rfl, la_To, by decide, rfl, tb_ 50 (by decide +kernel) rfl⟩
set_option maxRecDepth 100000 in
theorem p_To_36 : sx_Pf SC g_tbl "SiteChoice$Town" 36 0 6 3 true (.array .long) := ⟨"SiteChoice$Town", T_To, 12, t_To, rfl, la_To, ty_To, nm_To, by decide, rfl, tb_ 50 (by decide +kernel) rfl, rfl, (fun _ => rfl), by decide +kernel⟩
set_option maxRecDepth 100000 in
theorem f_To_39 : sx_F SC g_tbl "SiteChoice$Town" 39 0 7 3 := ⟨"SiteChoice$Town", T_To, 12, rfl, la_To, by decide, rfl, tb_ 51 (by decide +kernel) rfl⟩
set_option maxRecDepth 100000 in
theorem p_To_39 : sx_Pf SC g_tbl "SiteChoice$Town" 39 0 7 3 true (.array .long) := ⟨"SiteChoice$Town", T_To, 12, t_To, rfl, la_To, ty_To, nm_To, by decide, rfl, tb_ 51 (by decide +kernel) rfl, rfl, (fun _ => rfl), by decide +kernel⟩
set_option maxRecDepth 100000 in
theorem f_To_42 : sx_F SC g_tbl "SiteChoice$Town" 42 0 8 3 := ⟨"SiteChoice$Town", T_To, 12, rfl, la_To, by decide, rfl, tb_ 52 (by decide +kernel) rfl⟩
set_option maxRecDepth 100000 in
theorem p_To_42 : sx_Pf SC g_tbl "SiteChoice$Town" 42 0 8 3 true (.array .long) := ⟨"SiteChoice$Town", T_To, 12, t_To, rfl, la_To, ty_To, nm_To, by decide, rfl, tb_ 52 (by decide +kernel) rfl, rfl, (fun _ => rfl), by decide +kernel⟩
set_option maxRecDepth 100000 in
theorem f_To_45 : sx_F SC g_tbl "SiteChoice$Town" 45 0 9 3 := ⟨"SiteChoice$Town", T_To, 12, rfl, la_To, by decide, rfl, tb_ 54 (by decide +kernel) rfl⟩
set_option maxRecDepth 100000 in
theorem p_To_45 : sx_Pf SC g_tbl "SiteChoice$Town" 45 0 9 3 true (.array .long) := ⟨"SiteChoice$Town", T_To, 12, t_To, rfl, la_To, ty_To, nm_To, by decide, rfl, tb_ 54 (by decide +kernel) rfl, rfl, (fun _ => rfl), by decide +kernel⟩
set_option maxRecDepth 100000 in
theorem f_To_48 : sx_F SC g_tbl "SiteChoice$Town" 48 0 10 3 := ⟨"SiteChoice$Town", T_To, 12, rfl, la_To, by decide, rfl, tb_ 56 (by decide +kernel) rfl⟩
set_option maxRecDepth 100000 in
theorem p_To_48 : sx_Pf SC g_tbl "SiteChoice$Town" 48 0 10 3 true (.array .long) := ⟨"SiteChoice$Town", T_To, 12, t_To, rfl, la_To, ty_To, nm_To, by decide, rfl, tb_ 56 (by decide +kernel) rfl, rfl, (fun _ => rfl), by decide +kernel⟩
set_option maxRecDepth 100000 in
theorem f_To_51 : sx_F SC g_tbl "SiteChoice$Town" 51 0 11 3 := ⟨"SiteChoice$Town", T_To, 12, rfl, la_To, by decide, rfl, tb_ 58 (by decide +kernel) rfl⟩
set_option maxRecDepth 100000 in
theorem p_To_51 : sx_Pf SC g_tbl "SiteChoice$Town" 51 0 11 3 true (.array .boolean) := ⟨"SiteChoice$Town", T_To, 12, t_To, rfl, la_To, ty_To, nm_To, by decide, rfl, tb_ 58 (by decide +kernel) rfl, rfl, (fun _ => rfl), by decide +kernel⟩
set_option maxRecDepth 100000 in
theorem f_Un_9 : sx_F SC g_tbl "SiteChoice$Unserved" 9 3 0 0 := ⟨"SiteChoice$Unserved", T_Un, 2, rfl, la_Un, by decide, rfl, tb_ 167 (by decide +kernel) rfl⟩
set_option maxRecDepth 100000 in
theorem p_Un_9 : sx_Pf SC g_tbl "SiteChoice$Unserved" 9 3 0 0 false (.int) := ⟨"SiteChoice$Unserved", T_Un, 2, t_Un, rfl, la_Un, ty_Un, nm_Un, by decide, rfl, tb_ 167 (by decide +kernel) rfl, rfl, (fun h => by cases h), by decide +kernel⟩
set_option maxRecDepth 100000 in
theorem f_Un_15 : sx_F SC g_tbl "SiteChoice$Unserved" 15 3 1 3 := ⟨"SiteChoice$Unserved", T_Un, 2, rfl, la_Un, by decide, rfl, tb_ 168 (by decide +kernel) rfl⟩
set_option maxRecDepth 100000 in
theorem p_Un_15 : sx_Pf SC g_tbl "SiteChoice$Unserved" 15 3 1 3 true (.array .int) := ⟨"SiteChoice$Unserved", T_Un, 2, t_Un, rfl, la_Un, ty_Un, nm_Un, by decide, rfl, tb_ 168 (by decide +kernel) rfl, rfl, (fun _ => rfl), by decide +kernel⟩
set_option maxRecDepth 100000 in
theorem f_Un_19 : sx_F SC g_tbl "SiteChoice$Unserved" 19 0 0 0 := ⟨"SiteChoice$Town", T_To, 12, rfl, la_To, by decide, rfl, tb_ 32 (by decide +kernel) rfl⟩
set_option maxRecDepth 100000 in
theorem f_Mo_7 : sx_F SC g_tbl "SiteChoiceModel" 7 6 2 3 := ⟨"SiteChoiceModel", T_Mo, 25, rfl, la_Mo, by decide, rfl, tb_ 529 (by decide +kernel) rfl⟩
set_option maxRecDepth 100000 in
theorem p_Mo_7 : sx_Pf SC g_tbl "SiteChoiceModel" 7 6 2 3 true (.array .long) := ⟨"SiteChoiceModel", T_Mo, 25, t_Mo, rfl, la_Mo, ty_Mo, nm_Mo, by decide, rfl, tb_ 529 (by decide +kernel) rfl, rfl, (fun _ => rfl), by decide +kernel⟩
set_option maxRecDepth 100000 in
theorem f_Mo_13 : sx_F SC g_tbl "SiteChoiceModel" 13 6 3 3 := ⟨"SiteChoiceModel", T_Mo, 25, rfl, la_Mo, by decide, rfl, tb_ 530 (by decide +kernel) rfl⟩
set_option maxRecDepth 100000 in
theorem p_Mo_13 : sx_Pf SC g_tbl "SiteChoiceModel" 13 6 3 3 true (.array .long) := ⟨"SiteChoiceModel", T_Mo, 25, t_Mo, rfl, la_Mo, ty_Mo, nm_Mo, by decide, rfl, tb_ 530 (by decide +kernel) rfl, rfl, (fun _ => rfl), by decide +kernel⟩
set_option maxRecDepth 100000 in
theorem f_Mo_16 : sx_F SC g_tbl "SiteChoiceModel" 16 6 4 3 := ⟨"SiteChoiceModel", T_Mo, 25, rfl, la_Mo, by decide, rfl, tb_ 531 (by decide +kernel) rfl⟩
set_option maxRecDepth 100000 in
theorem p_Mo_16 : sx_Pf SC g_tbl "SiteChoiceModel" 16 6 4 3 true (.array .long) := ⟨"SiteChoiceModel", T_Mo, 25, t_Mo, rfl, la_Mo, ty_Mo, nm_Mo, by decide, rfl, tb_ 531 (by decide +kernel) rfl, rfl, (fun _ => rfl), by decide +kernel⟩
set_option maxRecDepth 100000 in
theorem f_Mo_19 : sx_F SC g_tbl "SiteChoiceModel" 19 6 5 3 := ⟨"SiteChoiceModel", T_Mo, 25, rfl, la_Mo, by decide, rfl, tb_ 532 (by decide +kernel) rfl⟩
set_option maxRecDepth 100000 in
theorem p_Mo_19 : sx_Pf SC g_tbl "SiteChoiceModel" 19 6 5 3 true (.array .long) := ⟨"SiteChoiceModel", T_Mo, 25, t_Mo, rfl, la_Mo, ty_Mo, nm_Mo, by decide, rfl, tb_ 532 (by decide +kernel) rfl, rfl, (fun _ => rfl), by decide +kernel⟩
set_option maxRecDepth 100000 in
theorem f_Mo_22 : sx_F SC g_tbl "SiteChoiceModel" 22 6 6 3 := ⟨"SiteChoiceModel", T_Mo, 25, rfl, la_Mo, by decide, rfl, tb_ 533 (by decide +kernel) rfl⟩
set_option maxRecDepth 100000 in
theorem p_Mo_22 : sx_Pf SC g_tbl "SiteChoiceModel" 22 6 6 3 true (.array .long) := ⟨"SiteChoiceModel", T_Mo, 25, t_Mo, rfl, la_Mo, ty_Mo, nm_Mo, by decide, rfl, tb_ 533 (by decide +kernel) rfl, rfl, (fun _ => rfl), by decide +kernel⟩
set_option maxRecDepth 100000 in
theorem f_Mo_25 : sx_F SC g_tbl "SiteChoiceModel" 25 6 7 3 := ⟨"SiteChoiceModel", T_Mo, 25, rfl, la_Mo, by decide, rfl, tb_ 534 (by decide +kernel) rfl⟩
set_option maxRecDepth 100000 in
theorem p_Mo_25 : sx_Pf SC g_tbl "SiteChoiceModel" 25 6 7 3 true (.array .long) := ⟨"SiteChoiceModel", T_Mo, 25, t_Mo, rfl, la_Mo, ty_Mo, nm_Mo, by decide, rfl, tb_ 534 (by decide +kernel) rfl, rfl, (fun _ => rfl), by decide +kernel⟩
set_option maxRecDepth 100000 in
theorem f_Mo_28 : sx_F SC g_tbl "SiteChoiceModel" 28 6 8 3 := ⟨"SiteChoiceModel", T_Mo, 25, rfl, la_Mo, by decide, rfl, tb_ 535 (by decide +kernel) rfl⟩
set_option maxRecDepth 100000 in
theorem p_Mo_28 : sx_Pf SC g_tbl "SiteChoiceModel" 28 6 8 3 true (.array .long) := ⟨"SiteChoiceModel", T_Mo, 25, t_Mo, rfl, la_Mo, ty_Mo, nm_Mo, by decide, rfl, tb_ 535 (by decide +kernel) rfl, rfl, (fun _ => rfl), by decide +kernel⟩
set_option maxRecDepth 100000 in
theorem f_Mo_31 : sx_F SC g_tbl "SiteChoiceModel" 31 6 9 3 := ⟨"SiteChoiceModel", T_Mo, 25, rfl, la_Mo, by decide, rfl, tb_ 536 (by decide +kernel) rfl⟩
set_option maxRecDepth 100000 in
theorem p_Mo_31 : sx_Pf SC g_tbl "SiteChoiceModel" 31 6 9 3 true (.array .boolean) := ⟨"SiteChoiceModel", T_Mo, 25, t_Mo, rfl, la_Mo, ty_Mo, nm_Mo, by decide, rfl, tb_ 536 (by decide +kernel) rfl, rfl, (fun _ => rfl), by decide +kernel⟩
set_option maxRecDepth 100000 in
theorem f_Mo_35 : sx_F SC g_tbl "SiteChoiceModel" 35 6 10 3 := ⟨"SiteChoiceModel", T_Mo, 25, rfl, la_Mo, by decide, rfl, tb_ 537 (by decide +kernel) rfl⟩
set_option maxRecDepth 100000 in
theorem p_Mo_35 : sx_Pf SC g_tbl "SiteChoiceModel" 35 6 10 3 true (.array .long) := ⟨"SiteChoiceModel", T_Mo, 25, t_Mo, rfl, la_Mo, ty_Mo, nm_Mo, by decide, rfl, tb_ 537 (by decide +kernel) rfl, rfl, (fun _ => rfl), by decide +kernel⟩
set_option maxRecDepth 100000 in
theorem f_Mo_40 : sx_F SC g_tbl "SiteChoiceModel" 40 6 11 1 := ⟨"SiteChoiceModel", T_Mo, 25, rfl, la_Mo, by decide, rfl, tb_ 538 (by decide +kernel) rfl⟩
set_option maxRecDepth 100000 in
theorem p_Mo_40 : sx_Pf SC g_tbl "SiteChoiceModel" 40 6 11 1 false (.long) := ⟨"SiteChoiceModel", T_Mo, 25, t_Mo, rfl, la_Mo, ty_Mo, nm_Mo, by decide, rfl, tb_ 538 (by decide +kernel) rfl, rfl, (fun h => by cases h), by decide +kernel⟩
set_option maxRecDepth 100000 in
theorem f_Mo_44 : sx_F SC g_tbl "SiteChoiceModel" 44 6 13 3 := ⟨"SiteChoiceModel", T_Mo, 25, rfl, la_Mo, by decide, rfl, tb_ 540 (by decide +kernel) rfl⟩
set_option maxRecDepth 100000 in
theorem p_Mo_44 : sx_Pf SC g_tbl "SiteChoiceModel" 44 6 13 3 true (.array .int) := ⟨"SiteChoiceModel", T_Mo, 25, t_Mo, rfl, la_Mo, ty_Mo, nm_Mo, by decide, rfl, tb_ 540 (by decide +kernel) rfl, rfl, (fun _ => rfl), by decide +kernel⟩
set_option maxRecDepth 100000 in
theorem f_Mo_48 : sx_F SC g_tbl "SiteChoiceModel" 48 6 18 3 := ⟨"SiteChoiceModel", T_Mo, 25, rfl, la_Mo, by decide, rfl, tb_ 545 (by decide +kernel) rfl⟩
set_option maxRecDepth 100000 in
theorem p_Mo_48 : sx_Pf SC g_tbl "SiteChoiceModel" 48 6 18 3 true (.array .int) := ⟨"SiteChoiceModel", T_Mo, 25, t_Mo, rfl, la_Mo, ty_Mo, nm_Mo, by decide, rfl, tb_ 545 (by decide +kernel) rfl, rfl, (fun _ => rfl), by decide +kernel⟩
set_option maxRecDepth 100000 in
theorem f_Mo_51 : sx_F SC g_tbl "SiteChoiceModel" 51 6 19 3 := ⟨"SiteChoiceModel", T_Mo, 25, rfl, la_Mo, by decide, rfl, tb_ 546 (by decide +kernel) rfl⟩
set_option maxRecDepth 100000 in
theorem p_Mo_51 : sx_Pf SC g_tbl "SiteChoiceModel" 51 6 19 3 true (.array .int) := ⟨"SiteChoiceModel", T_Mo, 25, t_Mo, rfl, la_Mo, ty_Mo, nm_Mo, by decide, rfl, tb_ 546 (by decide +kernel) rfl, rfl, (fun _ => rfl), by decide +kernel⟩
set_option maxRecDepth 100000 in
theorem f_Mo_54 : sx_F SC g_tbl "SiteChoiceModel" 54 6 20 3 := ⟨"SiteChoiceModel", T_Mo, 25, rfl, la_Mo, by decide, rfl, tb_ 547 (by decide +kernel) rfl⟩
set_option maxRecDepth 100000 in
theorem p_Mo_54 : sx_Pf SC g_tbl "SiteChoiceModel" 54 6 20 3 true (.array .long) := ⟨"SiteChoiceModel", T_Mo, 25, t_Mo, rfl, la_Mo, ty_Mo, nm_Mo, by decide, rfl, tb_ 547 (by decide +kernel) rfl, rfl, (fun _ => rfl), by decide +kernel⟩
set_option maxRecDepth 100000 in
theorem f_Mo_57 : sx_F SC g_tbl "SiteChoiceModel" 57 6 21 3 := ⟨"SiteChoiceModel", T_Mo, 25, rfl, la_Mo, by decide, rfl, tb_ 548 (by decide +kernel) rfl⟩
set_option maxRecDepth 100000 in
theorem p_Mo_57 : sx_Pf SC g_tbl "SiteChoiceModel" 57 6 21 3 true (.array .int) := ⟨"SiteChoiceModel", T_Mo, 25, t_Mo, rfl, la_Mo, ty_Mo, nm_Mo, by decide, rfl, tb_ 548 (by decide +kernel) rfl, rfl, (fun _ => rfl), by decide +kernel⟩
set_option maxRecDepth 100000 in
theorem f_Mo_60 : sx_F SC g_tbl "SiteChoiceModel" 60 6 22 3 := ⟨"SiteChoiceModel", T_Mo, 25, rfl, la_Mo, by decide, rfl, tb_ 549 (by decide +kernel) rfl⟩
set_option maxRecDepth 100000 in
theorem p_Mo_60 : sx_Pf SC g_tbl "SiteChoiceModel" 60 6 22 3 true (.array .long) := ⟨"SiteChoiceModel", T_Mo, 25, t_Mo, rfl, la_Mo, ty_Mo, nm_Mo, by decide, rfl, tb_ 549 (by decide +kernel) rfl, rfl, (fun _ => rfl), by decide +kernel⟩
set_option maxRecDepth 100000 in
theorem f_Mo_63 : sx_F SC g_tbl "SiteChoiceModel" 63 6 23 3 := ⟨"SiteChoiceModel", T_Mo, 25, rfl, la_Mo, by decide, rfl, tb_ 550 (by decide +kernel) rfl⟩
set_option maxRecDepth 100000 in
theorem p_Mo_63 : sx_Pf SC g_tbl "SiteChoiceModel" 63 6 23 3 true (.array .long) := ⟨"SiteChoiceModel", T_Mo, 25, t_Mo, rfl, la_Mo, ty_Mo, nm_Mo, by decide, rfl, tb_ 550 (by decide +kernel) rfl, rfl, (fun _ => rfl), by decide +kernel⟩
set_option maxRecDepth 100000 in
theorem f_Mo_66 : sx_F SC g_tbl "SiteChoiceModel" 66 6 24 3 := ⟨"SiteChoiceModel", T_Mo, 25, rfl, la_Mo, by decide, rfl, tb_ 551 (by decide +kernel) rfl⟩
set_option maxRecDepth 100000 in
theorem p_Mo_66 : sx_Pf SC g_tbl "SiteChoiceModel" 66 6 24 3 true (.array .long) := ⟨"SiteChoiceModel", T_Mo, 25, t_Mo, rfl, la_Mo, ty_Mo, nm_Mo, by decide, rfl, tb_ 551 (by decide +kernel) rfl, rfl, (fun _ => rfl), by decide +kernel⟩
set_option maxRecDepth 100000 in
theorem f_Mo_73 : sx_F SC g_tbl "SiteChoiceModel" 73 6 0 0 := ⟨"SiteChoiceModel", T_Mo, 25, rfl, la_Mo, by decide, rfl, tb_ 527 (by decide +kernel) rfl⟩
set_option maxRecDepth 100000 in
theorem p_Mo_73 : sx_Pf SC g_tbl "SiteChoiceModel" 73 6 0 0 false (.int) := ⟨"SiteChoiceModel", T_Mo, 25, t_Mo, rfl, la_Mo, ty_Mo, nm_Mo, by decide, rfl, tb_ 527 (by decide +kernel) rfl, rfl, (fun h => by cases h), by decide +kernel⟩
set_option maxRecDepth 100000 in
theorem f_Mo_77 : sx_F SC g_tbl "SiteChoiceModel" 77 6 1 0 := ⟨"SiteChoiceModel", T_Mo, 25, rfl, la_Mo, by decide, rfl, tb_ 528 (by decide +kernel) rfl⟩
set_option maxRecDepth 100000 in
theorem p_Mo_77 : sx_Pf SC g_tbl "SiteChoiceModel" 77 6 1 0 false (.int) := ⟨"SiteChoiceModel", T_Mo, 25, t_Mo, rfl, la_Mo, ty_Mo, nm_Mo, by decide, rfl, tb_ 528 (by decide +kernel) rfl, rfl, (fun h => by cases h), by decide +kernel⟩
set_option maxRecDepth 100000 in
theorem f_Mo_86 : sx_F SC g_tbl "SiteChoiceModel" 86 6 15 2 := ⟨"SiteChoiceModel", T_Mo, 25, rfl, la_Mo, by decide, rfl, tb_ 542 (by decide +kernel) rfl⟩
set_option maxRecDepth 100000 in
theorem p_Mo_86 : sx_Pf SC g_tbl "SiteChoiceModel" 86 6 15 2 false (.boolean) := ⟨"SiteChoiceModel", T_Mo, 25, t_Mo, rfl, la_Mo, ty_Mo, nm_Mo, by decide, rfl, tb_ 542 (by decide +kernel) rfl, rfl, (fun h => by cases h), by decide +kernel⟩
set_option maxRecDepth 100000 in
theorem f_Mo_140 : sx_F SC g_tbl "SiteChoiceModel" 140 6 16 0 := ⟨"SiteChoiceModel", T_Mo, 25, rfl, la_Mo, by decide, rfl, tb_ 543 (by decide +kernel) rfl⟩
set_option maxRecDepth 100000 in
theorem p_Mo_140 : sx_Pf SC g_tbl "SiteChoiceModel" 140 6 16 0 false (.int) := ⟨"SiteChoiceModel", T_Mo, 25, t_Mo, rfl, la_Mo, ty_Mo, nm_Mo, by decide, rfl, tb_ 543 (by decide +kernel) rfl, rfl, (fun h => by cases h), by decide +kernel⟩
set_option maxRecDepth 100000 in
theorem f_Mo_161 : sx_F SC g_tbl "SiteChoiceModel" 161 6 12 2 := ⟨"SiteChoiceModel", T_Mo, 25, rfl, la_Mo, by decide, rfl, tb_ 539 (by decide +kernel) rfl⟩
set_option maxRecDepth 100000 in
theorem p_Mo_161 : sx_Pf SC g_tbl "SiteChoiceModel" 161 6 12 2 false (.boolean) := ⟨"SiteChoiceModel", T_Mo, 25, t_Mo, rfl, la_Mo, ty_Mo, nm_Mo, by decide, rfl, tb_ 539 (by decide +kernel) rfl, rfl, (fun h => by cases h), by decide +kernel⟩
set_option maxRecDepth 100000 in
theorem f_Mo_171 : sx_F SC g_tbl "SiteChoiceModel" 171 6 14 1 := ⟨"SiteChoiceModel", T_Mo, 25, rfl, la_Mo, by decide, rfl, tb_ 541 (by decide +kernel) rfl⟩
set_option maxRecDepth 100000 in
theorem p_Mo_171 : sx_Pf SC g_tbl "SiteChoiceModel" 171 6 14 1 false (.long) := ⟨"SiteChoiceModel", T_Mo, 25, t_Mo, rfl, la_Mo, ty_Mo, nm_Mo, by decide, rfl, tb_ 541 (by decide +kernel) rfl, rfl, (fun h => by cases h), by decide +kernel⟩
set_option maxRecDepth 100000 in
theorem f_Mo_187 : sx_F SC g_tbl "SiteChoiceModel" 187 6 17 0 := ⟨"SiteChoiceModel", T_Mo, 25, rfl, la_Mo, by decide, rfl, tb_ 544 (by decide +kernel) rfl⟩
set_option maxRecDepth 100000 in
theorem p_Mo_187 : sx_Pf SC g_tbl "SiteChoiceModel" 187 6 17 0 false (.int) := ⟨"SiteChoiceModel", T_Mo, 25, t_Mo, rfl, la_Mo, ty_Mo, nm_Mo, by decide, rfl, tb_ 544 (by decide +kernel) rfl, rfl, (fun h => by cases h), by decide +kernel⟩
end
section
set_option maxRecDepth 100000 in
theorem gd_ : g_tbl.all goodWord = true := List.all_eq_true.mpr (fun w h => (List.mem_filter.mp h).2)
set_option maxRecDepth 100000 in
theorem gi_ {ws : List Cond} (h : ∀ w ∈ ws, w ∈ g_tbl) : GoodIn g_tbl ws := fun w hw => ⟨h w hw, good_of_word (List.all_eq_true.mp gd_ w (h w hw))⟩
set_option maxRecDepth 100000 in
theorem k_Si_init : Cond.code y_Si_init c_Si_init 1 none ∈ g_tbl := tb_ 16 rfl rfl
set_option maxRecDepth 100000 in
theorem u_Si_init : ∀ w ∈ w_Si_init, w ∈ g_tbl := fun w h => (List.mem_cons.mp h).elim (fun e => by rw [e]; exact k_Si_init) id
set_option maxRecDepth 100000 in
theorem k_Si_district : Cond.code y_Si_district c_Si_district 3 (some .int) ∈ g_tbl := tb_ 216 rfl rfl
set_option maxRecDepth 100000 in
theorem u_Si_district : ∀ w ∈ w_Si_district, w ∈ g_tbl := fun w h => (List.mem_cons.mp h).elim (fun e => by rw [e]; exact k_Si_district) id
set_option maxRecDepth 100000 in
theorem k_Si_place : Cond.code y_Si_place c_Si_place 9 (some .int) ∈ g_tbl := tb_ 233 rfl rfl
set_option maxRecDepth 100000 in
theorem u_Si_place : ∀ w ∈ w_Si_place, w ∈ g_tbl := fun w h => (List.mem_cons.mp h).elim (fun e => by rw [e]; exact k_Si_place) id
set_option maxRecDepth 100000 in
theorem k_Si_walk : Cond.code y_Si_walk c_Si_walk 5 (some .boolean) ∈ g_tbl := tb_ 244 rfl rfl
set_option maxRecDepth 100000 in
theorem u_Si_walk : ∀ w ∈ w_Si_walk, w ∈ g_tbl := fun w h => (List.mem_cons.mp h).elim (fun e => by rw [e]; exact k_Si_walk) id
set_option maxRecDepth 100000 in
theorem k_Si_bar : Cond.code y_Si_bar c_Si_bar 2 (some .boolean) ∈ g_tbl := tb_ 257 rfl rfl
set_option maxRecDepth 100000 in
theorem u_Si_bar : ∀ w ∈ w_Si_bar, w ∈ g_tbl := fun w h => (List.mem_cons.mp h).elim (fun e => by rw [e]; exact k_Si_bar) id
set_option maxRecDepth 100000 in
theorem k_Si_noise : Cond.code y_Si_noise c_Si_noise 4 (some .boolean) ∈ g_tbl := tb_ 261 rfl rfl
set_option maxRecDepth 100000 in
theorem u_Si_noise : ∀ w ∈ w_Si_noise, w ∈ g_tbl := fun w h => (List.mem_cons.mp h).elim (fun e => by rw [e]; exact k_Si_noise) id
set_option maxRecDepth 100000 in
theorem k_Si_budget : Cond.code y_Si_budget c_Si_budget 3 (some .boolean) ∈ g_tbl := tb_ 266 rfl rfl
set_option maxRecDepth 100000 in
theorem u_Si_budget : ∀ w ∈ w_Si_budget, w ∈ g_tbl := fun w h => (List.mem_cons.mp h).elim (fun e => by rw [e]; exact k_Si_budget) id
set_option maxRecDepth 100000 in
theorem k_Si_fair : Cond.code y_Si_fair c_Si_fair 4 (some .boolean) ∈ g_tbl := tb_ 271 rfl rfl
set_option maxRecDepth 100000 in
theorem u_Si_fair : ∀ w ∈ w_Si_fair, w ∈ g_tbl := fun w h => (List.mem_cons.mp h).elim (fun e => by rw [e]; exact k_Si_fair) id
set_option maxRecDepth 100000 in
theorem k_Si_ways : Cond.code y_Si_ways c_Si_ways 1 (some .long) ∈ g_tbl := tb_ 275 rfl rfl
set_option maxRecDepth 100000 in
theorem u_Si_ways : ∀ w ∈ w_Si_ways, w ∈ g_tbl := fun w h => (List.mem_cons.mp h).elim (fun e => by rw [e]; exact k_Si_ways) id
set_option maxRecDepth 100000 in
theorem k_Si_run : Cond.code y_Si_run c_Si_run 5 (some .int) ∈ g_tbl := tb_ 293 rfl rfl
set_option maxRecDepth 100000 in
theorem u_Si_run : ∀ w ∈ w_Si_run, w ∈ g_tbl := fun w h => (List.mem_cons.mp h).elim (fun e => by rw [e]; exact k_Si_run) id
set_option maxRecDepth 100000 in
theorem k_Si_chosen : Cond.code y_Si_chosen c_Si_chosen 2 (some .boolean) ∈ g_tbl := tb_ 409 rfl rfl
set_option maxRecDepth 100000 in
theorem u_Si_chosen : ∀ w ∈ w_Si_chosen, w ∈ g_tbl := fun w h => (List.mem_cons.mp h).elim (fun e => by rw [e]; exact k_Si_chosen) id
set_option maxRecDepth 100000 in
theorem k_Si_of : Cond.code y_Si_of c_Si_of 2 (some .int) ∈ g_tbl := tb_ 421 rfl rfl
set_option maxRecDepth 100000 in
theorem u_Si_of : ∀ w ∈ w_Si_of, w ∈ g_tbl := fun w h => (List.mem_cons.mp h).elim (fun e => by rw [e]; exact k_Si_of) id
set_option maxRecDepth 100000 in
theorem k_Si_sum : Cond.code y_Si_sum c_Si_sum 1 (some .long) ∈ g_tbl := tb_ 426 rfl rfl
set_option maxRecDepth 100000 in
theorem u_Si_sum : ∀ w ∈ w_Si_sum, w ∈ g_tbl := fun w h => (List.mem_cons.mp h).elim (fun e => by rw [e]; exact k_Si_sum) id
set_option maxRecDepth 100000 in
theorem k_Si_bound : Cond.code y_Si_bound c_Si_bound 1 (some .long) ∈ g_tbl := tb_ 430 rfl rfl
set_option maxRecDepth 100000 in
theorem u_Si_bound : ∀ w ∈ w_Si_bound, w ∈ g_tbl := fun w h => (List.mem_cons.mp h).elim (fun e => by rw [e]; exact k_Si_bound) id
set_option maxRecDepth 100000 in
theorem k_Si_proved : Cond.code y_Si_proved c_Si_proved 1 (some .boolean) ∈ g_tbl := tb_ 438 rfl rfl
set_option maxRecDepth 100000 in
theorem u_Si_proved : ∀ w ∈ w_Si_proved, w ∈ g_tbl := fun w h => (List.mem_cons.mp h).elim (fun e => by rw [e]; exact k_Si_proved) id
set_option maxRecDepth 100000 in
theorem k_Si_clash : Cond.code y_Si_clash c_Si_clash 2 (some .int) ∈ g_tbl := tb_ 442 rfl rfl
set_option maxRecDepth 100000 in
theorem u_Si_clash : ∀ w ∈ w_Si_clash, w ∈ g_tbl := fun w h => (List.mem_cons.mp h).elim (fun e => by rw [e]; exact k_Si_clash) id
set_option maxRecDepth 100000 in
theorem k_Si_gain : Cond.code y_Si_gain c_Si_gain 4 (some .long) ∈ g_tbl := tb_ 450 rfl rfl
set_option maxRecDepth 100000 in
theorem u_Si_gain : ∀ w ∈ w_Si_gain, w ∈ g_tbl := fun w h => (List.mem_cons.mp h).elim (fun e => by rw [e]; exact k_Si_gain) id
set_option maxRecDepth 100000 in
theorem k_Si_improve : Cond.code y_Si_improve c_Si_improve 4 (some .int) ∈ g_tbl := tb_ 454 rfl rfl
set_option maxRecDepth 100000 in
theorem u_Si_improve : ∀ w ∈ w_Si_improve, w ∈ g_tbl := fun w h => (List.mem_cons.mp h).elim (fun e => by rw [e]; exact k_Si_improve) id
set_option maxRecDepth 100000 in
theorem k_Si_years : Cond.code y_Si_years c_Si_years 2 (some .int) ∈ g_tbl := tb_ 480 rfl rfl
set_option maxRecDepth 100000 in
theorem u_Si_years : ∀ w ∈ w_Si_years, w ∈ g_tbl := fun w h => (List.mem_cons.mp h).elim (fun e => by rw [e]; exact k_Si_years) id
set_option maxRecDepth 100000 in
theorem k_Si_open : Cond.code y_Si_open c_Si_open 3 (some .int) ∈ g_tbl := tb_ 513 rfl rfl
set_option maxRecDepth 100000 in
theorem u_Si_open : ∀ w ∈ w_Si_open, w ∈ g_tbl := fun w h => (List.mem_cons.mp h).elim (fun e => by rw [e]; exact k_Si_open) id
set_option maxRecDepth 100000 in
theorem k_Si_isWithin : Cond.code y_Si_isWithin c_Si_isWithin 6 (some .boolean) ∈ g_tbl := tb_ 220 rfl rfl
set_option maxRecDepth 100000 in
theorem u_Si_isWithin : ∀ w ∈ w_Si_isWithin, w ∈ g_tbl := fun w h => (List.mem_cons.mp h).elim (fun e => by rw [e]; exact k_Si_isWithin) id
set_option maxRecDepth 100000 in
theorem k_Mo_init : Cond.code y_Mo_init c_Mo_init 2 none ∈ g_tbl := tb_ 522 rfl rfl
set_option maxRecDepth 100000 in
theorem u_Mo_init : ∀ w ∈ w_Mo_init, w ∈ g_tbl := fun w h => (List.mem_cons.mp h).elim (fun e => by rw [e]; exact k_Mo_init) id
set_option maxRecDepth 100000 in
theorem k_Mo_isDistrict : Cond.code y_Mo_isDistrict c_Mo_isDistrict 2 (some .boolean) ∈ g_tbl := tb_ 625 rfl rfl
set_option maxRecDepth 100000 in
theorem u_Mo_isDistrict : ∀ w ∈ w_Mo_isDistrict, w ∈ g_tbl := fun w h => (List.mem_cons.mp h).elim (fun e => by rw [e]; exact k_Mo_isDistrict) id
set_option maxRecDepth 100000 in
theorem k_Mo_isPlace : Cond.code y_Mo_isPlace c_Mo_isPlace 2 (some .boolean) ∈ g_tbl := tb_ 629 rfl rfl
set_option maxRecDepth 100000 in
theorem u_Mo_isPlace : ∀ w ∈ w_Mo_isPlace, w ∈ g_tbl := fun w h => (List.mem_cons.mp h).elim (fun e => by rw [e]; exact k_Mo_isPlace) id
set_option maxRecDepth 100000 in
theorem k_Mo_isIn : Cond.code y_Mo_isIn c_Mo_isIn 6 (some .boolean) ∈ g_tbl := tb_ 610 rfl rfl
set_option maxRecDepth 100000 in
theorem u_Mo_isIn : ∀ w ∈ w_Mo_isIn, w ∈ g_tbl := fun w h => (List.mem_cons.mp h).elim (fun e => by rw [e]; exact k_Mo_isIn) id
set_option maxRecDepth 100000 in
theorem k_Mo_district : Cond.code y_Mo_district c_Mo_district 3 (some .int) ∈ g_tbl := tb_ 606 rfl rfl
set_option maxRecDepth 100000 in
theorem u_Mo_district : ∀ w ∈ w_Mo_district, w ∈ g_tbl := fun w h => (List.mem_cons.mp h).elim (fun e => by rw [e]; exact k_Mo_district) id
set_option maxRecDepth 100000 in
theorem k_Mo_place : Cond.code y_Mo_place c_Mo_place 9 (some .int) ∈ g_tbl := tb_ 614 rfl rfl
set_option maxRecDepth 100000 in
theorem u_Mo_place : ∀ w ∈ w_Mo_place, w ∈ g_tbl := fun w h => (List.mem_cons.mp h).elim (fun e => by rw [e]; exact k_Mo_place) id
set_option maxRecDepth 100000 in
theorem k_Mo_walk : Cond.code y_Mo_walk c_Mo_walk 5 (some .boolean) ∈ g_tbl := tb_ 621 rfl rfl
set_option maxRecDepth 100000 in
theorem u_Mo_walk : ∀ w ∈ w_Mo_walk, w ∈ g_tbl := fun w h => (List.mem_cons.mp h).elim (fun e => by rw [e]; exact k_Mo_walk) id
set_option maxRecDepth 100000 in
theorem k_Mo_bar : Cond.code y_Mo_bar c_Mo_bar 2 (some .boolean) ∈ g_tbl := tb_ 633 rfl rfl
set_option maxRecDepth 100000 in
theorem u_Mo_bar : ∀ w ∈ w_Mo_bar, w ∈ g_tbl := fun w h => (List.mem_cons.mp h).elim (fun e => by rw [e]; exact k_Mo_bar) id
set_option maxRecDepth 100000 in
theorem k_Mo_noise : Cond.code y_Mo_noise c_Mo_noise 4 (some .boolean) ∈ g_tbl := tb_ 637 rfl rfl
set_option maxRecDepth 100000 in
theorem u_Mo_noise : ∀ w ∈ w_Mo_noise, w ∈ g_tbl := fun w h => (List.mem_cons.mp h).elim (fun e => by rw [e]; exact k_Mo_noise) id
set_option maxRecDepth 100000 in
theorem k_Mo_budget : Cond.code y_Mo_budget c_Mo_budget 3 (some .boolean) ∈ g_tbl := tb_ 642 rfl rfl
set_option maxRecDepth 100000 in
theorem u_Mo_budget : ∀ w ∈ w_Mo_budget, w ∈ g_tbl := fun w h => (List.mem_cons.mp h).elim (fun e => by rw [e]; exact k_Mo_budget) id
set_option maxRecDepth 100000 in
theorem k_Mo_fair : Cond.code y_Mo_fair c_Mo_fair 4 (some .boolean) ∈ g_tbl := tb_ 646 rfl rfl
set_option maxRecDepth 100000 in
theorem u_Mo_fair : ∀ w ∈ w_Mo_fair, w ∈ g_tbl := fun w h => (List.mem_cons.mp h).elim (fun e => by rw [e]; exact k_Mo_fair) id
set_option maxRecDepth 100000 in
theorem k_Mo_has : Cond.code y_Mo_has c_Mo_has 2 (some .boolean) ∈ g_tbl := tb_ 670 rfl rfl
set_option maxRecDepth 100000 in
theorem u_Mo_has : ∀ w ∈ w_Mo_has, w ∈ g_tbl := fun w h => (List.mem_cons.mp h).elim (fun e => by rw [e]; exact k_Mo_has) id
set_option maxRecDepth 100000 in
theorem k_Mo_canGo : Cond.code y_Mo_canGo c_Mo_canGo 5 (some .boolean) ∈ g_tbl := tb_ 654 rfl rfl
set_option maxRecDepth 100000 in
theorem u_Mo_canGo : ∀ w ∈ w_Mo_canGo, w ∈ g_tbl := fun w h => (List.mem_cons.mp h).elim (fun e => by rw [e]; exact k_Mo_canGo) id
set_option maxRecDepth 100000 in
theorem k_Mo_mayBeOpen : Cond.code y_Mo_mayBeOpen c_Mo_mayBeOpen 11 (some .boolean) ∈ g_tbl := tb_ 695 rfl rfl
set_option maxRecDepth 100000 in
theorem u_Mo_mayBeOpen : ∀ w ∈ w_Mo_mayBeOpen, w ∈ g_tbl := fun w h => (List.mem_cons.mp h).elim (fun e => by rw [e]; exact k_Mo_mayBeOpen) id
set_option maxRecDepth 100000 in
theorem k_Mo_askFor : Cond.code y_Mo_askFor c_Mo_askFor 5 none ∈ g_tbl := tb_ 667 rfl rfl
set_option maxRecDepth 100000 in
theorem u_Mo_askFor : ∀ w ∈ w_Mo_askFor, w ∈ g_tbl := fun w h => (List.mem_cons.mp h).elim (fun e => by rw [e]; exact k_Mo_askFor) id
set_option maxRecDepth 100000 in
theorem k_Mo_placesOf : Cond.code y_Mo_placesOf c_Mo_placesOf 4 (some .int) ∈ g_tbl := tb_ 691 rfl rfl
set_option maxRecDepth 100000 in
theorem u_Mo_placesOf : ∀ w ∈ w_Mo_placesOf, w ∈ g_tbl := fun w h => (List.mem_cons.mp h).elim (fun e => by rw [e]; exact k_Mo_placesOf) id
set_option maxRecDepth 100000 in
theorem k_Mo_fits : Cond.code y_Mo_fits c_Mo_fits 7 (some .boolean) ∈ g_tbl := tb_ 687 rfl rfl
set_option maxRecDepth 100000 in
theorem u_Mo_fits : ∀ w ∈ w_Mo_fits, w ∈ g_tbl := fun w h => (List.mem_cons.mp h).elim (fun e => by rw [e]; exact k_Mo_fits) id
set_option maxRecDepth 100000 in
theorem k_Mo_isPlan : Cond.code y_Mo_isPlan c_Mo_isPlan 4 (some .boolean) ∈ g_tbl := tb_ 683 rfl rfl
set_option maxRecDepth 100000 in
theorem u_Mo_isPlan : ∀ w ∈ w_Mo_isPlan, w ∈ g_tbl := fun w h => (List.mem_cons.mp h).elim (fun e => by rw [e]; exact k_Mo_isPlan) id
set_option maxRecDepth 100000 in
theorem k_Mo_sumOf : Cond.code y_Mo_sumOf c_Mo_sumOf 5 (some .long) ∈ g_tbl := tb_ 699 rfl rfl
set_option maxRecDepth 100000 in
theorem u_Mo_sumOf : ∀ w ∈ w_Mo_sumOf, w ∈ g_tbl := fun w h => (List.mem_cons.mp h).elim (fun e => by rw [e]; exact k_Mo_sumOf) id
set_option maxRecDepth 100000 in
theorem k_Mo_next : Cond.code y_Mo_next c_Mo_next 2 (some .boolean) ∈ g_tbl := tb_ 703 rfl rfl
set_option maxRecDepth 100000 in
theorem u_Mo_next : ∀ w ∈ w_Mo_next, w ∈ g_tbl := fun w h => (List.mem_cons.mp h).elim (fun e => by rw [e]; exact k_Mo_next) id
set_option maxRecDepth 100000 in
theorem k_Mo_search : Cond.code y_Mo_search c_Mo_search 9 (some .long) ∈ g_tbl := tb_ 675 rfl rfl
set_option maxRecDepth 100000 in
theorem u_Mo_search : ∀ w ∈ w_Mo_search, w ∈ g_tbl := fun w h => (List.mem_cons.mp h).elim (fun e => by rw [e]; exact k_Mo_search) id
set_option maxRecDepth 100000 in
theorem k_Mo_count : Cond.code y_Mo_count c_Mo_count 3 (some .int) ∈ g_tbl := tb_ 679 rfl rfl
set_option maxRecDepth 100000 in
theorem u_Mo_count : ∀ w ∈ w_Mo_count, w ∈ g_tbl := fun w h => (List.mem_cons.mp h).elim (fun e => by rw [e]; exact k_Mo_count) id
set_option maxRecDepth 100000 in
theorem k_Mo_all : Cond.code y_Mo_all c_Mo_all 1 (some .int) ∈ g_tbl := tb_ 663 rfl rfl
set_option maxRecDepth 100000 in
theorem u_Mo_all : ∀ w ∈ w_Mo_all, w ∈ g_tbl := fun w h => (List.mem_cons.mp h).elim (fun e => by rw [e]; exact k_Mo_all) id
set_option maxRecDepth 100000 in
theorem k_Mo_ways : Cond.code y_Mo_ways c_Mo_ways 7 (some .long) ∈ g_tbl := tb_ 650 rfl rfl
set_option maxRecDepth 100000 in
theorem u_Mo_ways : ∀ w ∈ w_Mo_ways, w ∈ g_tbl := fun w h => (List.mem_cons.mp h).elim (fun e => by rw [e]; exact k_Mo_ways) id
set_option maxRecDepth 100000 in
theorem k_Mo_size : Cond.code y_Mo_size c_Mo_size 3 (some .int) ∈ g_tbl := tb_ 710 rfl rfl
set_option maxRecDepth 100000 in
theorem u_Mo_size : ∀ w ∈ w_Mo_size, w ∈ g_tbl := fun w h => (List.mem_cons.mp h).elim (fun e => by rw [e]; exact k_Mo_size) id
set_option maxRecDepth 100000 in
theorem k_Mo_isBefore : Cond.code y_Mo_isBefore c_Mo_isBefore 3 (some .boolean) ∈ g_tbl := tb_ 713 rfl rfl
set_option maxRecDepth 100000 in
theorem u_Mo_isBefore : ∀ w ∈ w_Mo_isBefore, w ∈ g_tbl := fun w h => (List.mem_cons.mp h).elim (fun e => by rw [e]; exact k_Mo_isBefore) id
set_option maxRecDepth 100000 in
theorem k_Mo_findClash : Cond.code y_Mo_findClash c_Mo_findClash 3 none ∈ g_tbl := tb_ 707 rfl rfl
set_option maxRecDepth 100000 in
theorem u_Mo_findClash : ∀ w ∈ w_Mo_findClash, w ∈ g_tbl := fun w h => (List.mem_cons.mp h).elim (fun e => by rw [e]; exact k_Mo_findClash) id
set_option maxRecDepth 100000 in
theorem k_Mo_run : Cond.code y_Mo_run c_Mo_run 6 (some .int) ∈ g_tbl := tb_ 658 rfl rfl
set_option maxRecDepth 100000 in
theorem u_Mo_run : ∀ w ∈ w_Mo_run, w ∈ g_tbl := fun w h => (List.mem_cons.mp h).elim (fun e => by rw [e]; exact k_Mo_run) id
set_option maxRecDepth 100000 in
theorem k_Mo_chosen : Cond.code y_Mo_chosen c_Mo_chosen 4 (some .boolean) ∈ g_tbl := tb_ 717 rfl rfl
set_option maxRecDepth 100000 in
theorem u_Mo_chosen : ∀ w ∈ w_Mo_chosen, w ∈ g_tbl := fun w h => (List.mem_cons.mp h).elim (fun e => by rw [e]; exact k_Mo_chosen) id
set_option maxRecDepth 100000 in
theorem k_Mo_of : Cond.code y_Mo_of c_Mo_of 2 (some .int) ∈ g_tbl := tb_ 721 rfl rfl
set_option maxRecDepth 100000 in
theorem u_Mo_of : ∀ w ∈ w_Mo_of, w ∈ g_tbl := fun w h => (List.mem_cons.mp h).elim (fun e => by rw [e]; exact k_Mo_of) id
set_option maxRecDepth 100000 in
theorem k_Mo_sum : Cond.code y_Mo_sum c_Mo_sum 1 (some .long) ∈ g_tbl := tb_ 725 rfl rfl
set_option maxRecDepth 100000 in
theorem u_Mo_sum : ∀ w ∈ w_Mo_sum, w ∈ g_tbl := fun w h => (List.mem_cons.mp h).elim (fun e => by rw [e]; exact k_Mo_sum) id
set_option maxRecDepth 100000 in
theorem k_Mo_bound : Cond.code y_Mo_bound c_Mo_bound 9 (some .long) ∈ g_tbl := tb_ 729 rfl rfl
set_option maxRecDepth 100000 in
theorem u_Mo_bound : ∀ w ∈ w_Mo_bound, w ∈ g_tbl := fun w h => (List.mem_cons.mp h).elim (fun e => by rw [e]; exact k_Mo_bound) id
set_option maxRecDepth 100000 in
theorem k_Mo_proved : Cond.code y_Mo_proved c_Mo_proved 1 (some .boolean) ∈ g_tbl := tb_ 733 rfl rfl
set_option maxRecDepth 100000 in
theorem u_Mo_proved : ∀ w ∈ w_Mo_proved, w ∈ g_tbl := fun w h => (List.mem_cons.mp h).elim (fun e => by rw [e]; exact k_Mo_proved) id
set_option maxRecDepth 100000 in
theorem k_Mo_clash : Cond.code y_Mo_clash c_Mo_clash 4 (some .int) ∈ g_tbl := tb_ 737 rfl rfl
set_option maxRecDepth 100000 in
theorem u_Mo_clash : ∀ w ∈ w_Mo_clash, w ∈ g_tbl := fun w h => (List.mem_cons.mp h).elim (fun e => by rw [e]; exact k_Mo_clash) id
set_option maxRecDepth 100000 in
theorem k_Mo_gain : Cond.code y_Mo_gain c_Mo_gain 4 (some .long) ∈ g_tbl := tb_ 741 rfl rfl
set_option maxRecDepth 100000 in
theorem u_Mo_gain : ∀ w ∈ w_Mo_gain, w ∈ g_tbl := fun w h => (List.mem_cons.mp h).elim (fun e => by rw [e]; exact k_Mo_gain) id
set_option maxRecDepth 100000 in
theorem k_Mo_exchange : Cond.code y_Mo_exchange c_Mo_exchange 6 (some .boolean) ∈ g_tbl := tb_ 749 rfl rfl
set_option maxRecDepth 100000 in
theorem u_Mo_exchange : ∀ w ∈ w_Mo_exchange, w ∈ g_tbl := fun w h => (List.mem_cons.mp h).elim (fun e => by rw [e]; exact k_Mo_exchange) id
set_option maxRecDepth 100000 in
theorem k_Mo_improve : Cond.code y_Mo_improve c_Mo_improve 3 (some .int) ∈ g_tbl := tb_ 745 rfl rfl
set_option maxRecDepth 100000 in
theorem u_Mo_improve : ∀ w ∈ w_Mo_improve, w ∈ g_tbl := fun w h => (List.mem_cons.mp h).elim (fun e => by rw [e]; exact k_Mo_improve) id
set_option maxRecDepth 100000 in
theorem k_Mo_reckon : Cond.code y_Mo_reckon c_Mo_reckon 8 none ∈ g_tbl := tb_ 757 rfl rfl
set_option maxRecDepth 100000 in
theorem u_Mo_reckon : ∀ w ∈ w_Mo_reckon, w ∈ g_tbl := fun w h => (List.mem_cons.mp h).elim (fun e => by rw [e]; exact k_Mo_reckon) id
set_option maxRecDepth 100000 in
theorem k_Mo_yearCost : Cond.code y_Mo_yearCost c_Mo_yearCost 7 (some .long) ∈ g_tbl := tb_ 762 rfl rfl
set_option maxRecDepth 100000 in
theorem u_Mo_yearCost : ∀ w ∈ w_Mo_yearCost, w ∈ g_tbl := fun w h => (List.mem_cons.mp h).elim (fun e => by rw [e]; exact k_Mo_yearCost) id
set_option maxRecDepth 100000 in
theorem k_Mo_years : Cond.code y_Mo_years c_Mo_years 9 (some .int) ∈ g_tbl := tb_ 753 rfl rfl
set_option maxRecDepth 100000 in
theorem u_Mo_years : ∀ w ∈ w_Mo_years, w ∈ g_tbl := fun w h => (List.mem_cons.mp h).elim (fun e => by rw [e]; exact k_Mo_years) id
set_option maxRecDepth 100000 in
theorem k_Mo_open : Cond.code y_Mo_open c_Mo_open 3 (some .int) ∈ g_tbl := tb_ 766 rfl rfl
set_option maxRecDepth 100000 in
theorem u_Mo_open : ∀ w ∈ w_Mo_open, w ∈ g_tbl := fun w h => (List.mem_cons.mp h).elim (fun e => by rw [e]; exact k_Mo_open) id
set_option maxRecDepth 100000 in
theorem k_Ca_init : Cond.code y_Ca_init c_Ca_init 1 none ∈ g_tbl := tb_ 178 rfl rfl
set_option maxRecDepth 100000 in
theorem u_Ca_init : ∀ w ∈ w_Ca_init, w ∈ g_tbl := fun w h => (List.mem_cons.mp h).elim (fun e => by rw [e]; exact k_Ca_init) id
set_option maxRecDepth 100000 in
theorem k_Ca_isOpenIn : Cond.code y_Ca_isOpenIn c_Ca_isOpenIn 3 (some .int) ∈ g_tbl := tb_ 517 rfl rfl
set_option maxRecDepth 100000 in
theorem u_Ca_isOpenIn : ∀ w ∈ w_Ca_isOpenIn, w ∈ g_tbl := fun w h => (List.mem_cons.mp h).elim (fun e => by rw [e]; exact k_Ca_isOpenIn) id
set_option maxRecDepth 100000 in
theorem k_Ca_lookOver : Cond.code y_Ca_lookOver c_Ca_lookOver 6 (some .long) ∈ g_tbl := tb_ 485 rfl rfl
set_option maxRecDepth 100000 in
theorem u_Ca_lookOver : ∀ w ∈ w_Ca_lookOver, w ∈ g_tbl := fun w h => (List.mem_cons.mp h).elim (fun e => by rw [e]; exact k_Ca_lookOver) id
set_option maxRecDepth 100000 in
theorem k_Ca_reckonSums : Cond.code y_Ca_reckonSums c_Ca_reckonSums 7 none ∈ g_tbl := tb_ 490 rfl rfl
set_option maxRecDepth 100000 in
theorem u_Ca_reckonSums : ∀ w ∈ w_Ca_reckonSums, w ∈ g_tbl := fun w h => (List.mem_cons.mp h).elim (fun e => by rw [e]; exact k_Ca_reckonSums) id
set_option maxRecDepth 100000 in
theorem k_Ca_reckonOnward : Cond.code y_Ca_reckonOnward c_Ca_reckonOnward 6 none ∈ g_tbl := tb_ 497 rfl rfl
set_option maxRecDepth 100000 in
theorem u_Ca_reckonOnward : ∀ w ∈ w_Ca_reckonOnward, w ∈ g_tbl := fun w h => (List.mem_cons.mp h).elim (fun e => by rw [e]; exact k_Ca_reckonOnward) id
set_option maxRecDepth 100000 in
theorem k_Ca_withNext : Cond.code y_Ca_withNext c_Ca_withNext 6 (some .long) ∈ g_tbl := tb_ 501 rfl rfl
set_option maxRecDepth 100000 in
theorem u_Ca_withNext : ∀ w ∈ w_Ca_withNext, w ∈ g_tbl := fun w h => (List.mem_cons.mp h).elim (fun e => by rw [e]; exact k_Ca_withNext) id
set_option maxRecDepth 100000 in
theorem k_Ca_cheapestNext : Cond.code y_Ca_cheapestNext c_Ca_cheapestNext 11 (some .int) ∈ g_tbl := tb_ 505 rfl rfl
set_option maxRecDepth 100000 in
theorem u_Ca_cheapestNext : ∀ w ∈ w_Ca_cheapestNext, w ∈ g_tbl := fun w h => (List.mem_cons.mp h).elim (fun e => by rw [e]; exact k_Ca_cheapestNext) id
set_option maxRecDepth 100000 in
theorem k_Ca_hold : Cond.code y_Ca_hold c_Ca_hold 7 none ∈ g_tbl := tb_ 509 rfl rfl
set_option maxRecDepth 100000 in
theorem u_Ca_hold : ∀ w ∈ w_Ca_hold, w ∈ g_tbl := fun w h => (List.mem_cons.mp h).elim (fun e => by rw [e]; exact k_Ca_hold) id
set_option maxRecDepth 100000 in
theorem k_He_init : Cond.code y_He_init c_He_init 1 none ∈ g_tbl := tb_ 147 rfl rfl
set_option maxRecDepth 100000 in
theorem u_He_init : ∀ w ∈ w_He_init, w ∈ g_tbl := fun w h => (List.mem_cons.mp h).elim (fun e => by rw [e]; exact k_He_init) id
set_option maxRecDepth 100000 in
theorem k_He_drop : Cond.code y_He_drop c_He_drop 1 none ∈ g_tbl := tb_ 297 rfl rfl
set_option maxRecDepth 100000 in
theorem u_He_drop : ∀ w ∈ w_He_drop, w ∈ g_tbl := fun w h => (List.mem_cons.mp h).elim (fun e => by rw [e]; exact k_He_drop) id
set_option maxRecDepth 100000 in
theorem k_He_keep : Cond.code y_He_keep c_He_keep 4 none ∈ g_tbl := tb_ 404 rfl rfl
set_option maxRecDepth 100000 in
theorem u_He_keep : ∀ w ∈ w_He_keep, w ∈ g_tbl := fun w h => (List.mem_cons.mp h).elim (fun e => by rw [e]; exact k_He_keep) id
set_option maxRecDepth 100000 in
theorem k_He_placeFor : Cond.code y_He_placeFor c_He_placeFor 2 (some .int) ∈ g_tbl := tb_ 417 rfl rfl
set_option maxRecDepth 100000 in
theorem u_He_placeFor : ∀ w ∈ w_He_placeFor, w ∈ g_tbl := fun w h => (List.mem_cons.mp h).elim (fun e => by rw [e]; exact k_He_placeFor) id
set_option maxRecDepth 100000 in
theorem k_He_gives : Cond.code y_He_gives c_He_gives 3 (some .boolean) ∈ g_tbl := tb_ 413 rfl rfl
set_option maxRecDepth 100000 in
theorem u_He_gives : ∀ w ∈ w_He_gives, w ∈ g_tbl := fun w h => (List.mem_cons.mp h).elim (fun e => by rw [e]; exact k_He_gives) id
set_option maxRecDepth 100000 in
theorem k_He_reckonTotal : Cond.code y_He_reckonTotal c_He_reckonTotal 4 none ∈ g_tbl := tb_ 476 rfl rfl
set_option maxRecDepth 100000 in
theorem u_He_reckonTotal : ∀ w ∈ w_He_reckonTotal, w ∈ g_tbl := fun w h => (List.mem_cons.mp h).elim (fun e => by rw [e]; exact k_He_reckonTotal) id
set_option maxRecDepth 100000 in
theorem k_He_exchangeFirst : Cond.code y_He_exchangeFirst c_He_exchangeFirst 5 (some .boolean) ∈ g_tbl := tb_ 461 rfl rfl
set_option maxRecDepth 100000 in
theorem u_He_exchangeFirst : ∀ w ∈ w_He_exchangeFirst, w ∈ g_tbl := fun w h => (List.mem_cons.mp h).elim (fun e => by rw [e]; exact k_He_exchangeFirst) id
set_option maxRecDepth 100000 in
theorem k_He_exchange : Cond.code y_He_exchange c_He_exchange 8 (some .boolean) ∈ g_tbl := tb_ 465 rfl rfl
set_option maxRecDepth 100000 in
theorem u_He_exchange : ∀ w ∈ w_He_exchange, w ∈ g_tbl := fun w h => (List.mem_cons.mp h).elim (fun e => by rw [e]; exact k_He_exchange) id
set_option maxRecDepth 100000 in
theorem k_Se_init : Cond.code y_Se_init c_Se_init 1 none ∈ g_tbl := tb_ 92 rfl rfl
set_option maxRecDepth 100000 in
theorem u_Se_init : ∀ w ∈ w_Se_init, w ∈ g_tbl := fun w h => (List.mem_cons.mp h).elim (fun e => by rw [e]; exact k_Se_init) id
set_option maxRecDepth 100000 in
theorem k_Se_load : Cond.code y_Se_load c_Se_load 5 none ∈ g_tbl := tb_ 305 rfl rfl
set_option maxRecDepth 100000 in
theorem u_Se_load : ∀ w ∈ w_Se_load, w ∈ g_tbl := fun w h => (List.mem_cons.mp h).elim (fun e => by rw [e]; exact k_Se_load) id
set_option maxRecDepth 100000 in
theorem k_Se_loadNeedsOfYear : Cond.code y_Se_loadNeedsOfYear c_Se_loadNeedsOfYear 4 none ∈ g_tbl := tb_ 309 rfl rfl
set_option maxRecDepth 100000 in
theorem u_Se_loadNeedsOfYear : ∀ w ∈ w_Se_loadNeedsOfYear, w ∈ g_tbl := fun w h => (List.mem_cons.mp h).elim (fun e => by rw [e]; exact k_Se_loadNeedsOfYear) id
set_option maxRecDepth 100000 in
theorem k_Se_loadNeedsOfSet : Cond.code y_Se_loadNeedsOfSet c_Se_loadNeedsOfSet 4 none ∈ g_tbl := tb_ 387 rfl rfl
set_option maxRecDepth 100000 in
theorem u_Se_loadNeedsOfSet : ∀ w ∈ w_Se_loadNeedsOfSet, w ∈ g_tbl := fun w h => (List.mem_cons.mp h).elim (fun e => by rw [e]; exact k_Se_loadNeedsOfSet) id
set_option maxRecDepth 100000 in
theorem k_Se_loadSets : Cond.code y_Se_loadSets c_Se_loadSets 9 none ∈ g_tbl := tb_ 316 rfl rfl
set_option maxRecDepth 100000 in
theorem u_Se_loadSets : ∀ w ∈ w_Se_loadSets, w ∈ g_tbl := fun w h => (List.mem_cons.mp h).elim (fun e => by rw [e]; exact k_Se_loadSets) id
set_option maxRecDepth 100000 in
theorem k_Se_isAnyTooNear : Cond.code y_Se_isAnyTooNear c_Se_isAnyTooNear 4 (some .boolean) ∈ g_tbl := tb_ 319 rfl rfl
set_option maxRecDepth 100000 in
theorem u_Se_isAnyTooNear : ∀ w ∈ w_Se_isAnyTooNear, w ∈ g_tbl := fun w h => (List.mem_cons.mp h).elim (fun e => by rw [e]; exact k_Se_isAnyTooNear) id
set_option maxRecDepth 100000 in
theorem k_Se_leastSum : Cond.code y_Se_leastSum c_Se_leastSum 2 (some .long) ∈ g_tbl := tb_ 330 rfl rfl
set_option maxRecDepth 100000 in
theorem u_Se_leastSum : ∀ w ∈ w_Se_leastSum, w ∈ g_tbl := fun w h => (List.mem_cons.mp h).elim (fun e => by rw [e]; exact k_Se_leastSum) id
set_option maxRecDepth 100000 in
theorem k_Se_hasPlan : Cond.code y_Se_hasPlan c_Se_hasPlan 3 (some .boolean) ∈ g_tbl := tb_ 394 rfl rfl
set_option maxRecDepth 100000 in
theorem u_Se_hasPlan : ∀ w ∈ w_Se_hasPlan, w ∈ g_tbl := fun w h => (List.mem_cons.mp h).elim (fun e => by rw [e]; exact k_Se_hasPlan) id
set_option maxRecDepth 100000 in
theorem k_Se_leastThinkable : Cond.code y_Se_leastThinkable c_Se_leastThinkable 1 (some .long) ∈ g_tbl := tb_ 434 rfl rfl
set_option maxRecDepth 100000 in
theorem u_Se_leastThinkable : ∀ w ∈ w_Se_leastThinkable, w ∈ g_tbl := fun w h => (List.mem_cons.mp h).elim (fun e => by rw [e]; exact k_Se_leastThinkable) id
set_option maxRecDepth 100000 in
theorem k_Se_reckonLeastRest : Cond.code y_Se_reckonLeastRest c_Se_reckonLeastRest 4 (some .boolean) ∈ g_tbl := tb_ 334 rfl rfl
set_option maxRecDepth 100000 in
theorem u_Se_reckonLeastRest : ∀ w ∈ w_Se_reckonLeastRest, w ∈ g_tbl := fun w h => (List.mem_cons.mp h).elim (fun e => by rw [e]; exact k_Se_reckonLeastRest) id
set_option maxRecDepth 100000 in
theorem k_Se_nearestUsable : Cond.code y_Se_nearestUsable c_Se_nearestUsable 7 (some .long) ∈ g_tbl := tb_ 338 rfl rfl
set_option maxRecDepth 100000 in
theorem u_Se_nearestUsable : ∀ w ∈ w_Se_nearestUsable, w ∈ g_tbl := fun w h => (List.mem_cons.mp h).elim (fun e => by rw [e]; exact k_Se_nearestUsable) id
set_option maxRecDepth 100000 in
theorem k_Se_isUsable : Cond.code y_Se_isUsable c_Se_isUsable 2 (some .boolean) ∈ g_tbl := tb_ 342 rfl rfl
set_option maxRecDepth 100000 in
theorem u_Se_isUsable : ∀ w ∈ w_Se_isUsable, w ∈ g_tbl := fun w h => (List.mem_cons.mp h).elim (fun e => by rw [e]; exact k_Se_isUsable) id
set_option maxRecDepth 100000 in
theorem k_Se_give : Cond.code y_Se_give c_Se_give 6 none ∈ g_tbl := tb_ 352 rfl rfl
set_option maxRecDepth 100000 in
theorem u_Se_give : ∀ w ∈ w_Se_give, w ∈ g_tbl := fun w h => (List.mem_cons.mp h).elim (fun e => by rw [e]; exact k_Se_give) id
set_option maxRecDepth 100000 in
theorem k_Se_giveEachPlace : Cond.code y_Se_giveEachPlace c_Se_giveEachPlace 7 none ∈ g_tbl := tb_ 368 rfl rfl
set_option maxRecDepth 100000 in
theorem u_Se_giveEachPlace : ∀ w ∈ w_Se_giveEachPlace, w ∈ g_tbl := fun w h => (List.mem_cons.mp h).elim (fun e => by rw [e]; exact k_Se_giveEachPlace) id
set_option maxRecDepth 100000 in
theorem k_Se_nextWithNeed : Cond.code y_Se_nextWithNeed c_Se_nextWithNeed 3 (some .int) ∈ g_tbl := tb_ 356 rfl rfl
set_option maxRecDepth 100000 in
theorem u_Se_nextWithNeed : ∀ w ∈ w_Se_nextWithNeed, w ∈ g_tbl := fun w h => (List.mem_cons.mp h).elim (fun e => by rw [e]; exact k_Se_nextWithNeed) id
set_option maxRecDepth 100000 in
theorem k_Se_isHopeless : Cond.code y_Se_isHopeless c_Se_isHopeless 3 (some .boolean) ∈ g_tbl := tb_ 364 rfl rfl
set_option maxRecDepth 100000 in
theorem u_Se_isHopeless : ∀ w ∈ w_Se_isHopeless, w ∈ g_tbl := fun w h => (List.mem_cons.mp h).elim (fun e => by rw [e]; exact k_Se_isHopeless) id
set_option maxRecDepth 100000 in
theorem k_Se_canTake : Cond.code y_Se_canTake c_Se_canTake 3 (some .boolean) ∈ g_tbl := tb_ 372 rfl rfl
set_option maxRecDepth 100000 in
theorem u_Se_canTake : ∀ w ∈ w_Se_canTake, w ∈ g_tbl := fun w h => (List.mem_cons.mp h).elim (fun e => by rw [e]; exact k_Se_canTake) id
set_option maxRecDepth 100000 in
theorem k_Se_keepIfBetter : Cond.code y_Se_keepIfBetter c_Se_keepIfBetter 3 none ∈ g_tbl := tb_ 360 rfl rfl
set_option maxRecDepth 100000 in
theorem u_Se_keepIfBetter : ∀ w ∈ w_Se_keepIfBetter, w ∈ g_tbl := fun w h => (List.mem_cons.mp h).elim (fun e => by rw [e]; exact k_Se_keepIfBetter) id
set_option maxRecDepth 100000 in
theorem k_Se_isPlan : Cond.code y_Se_isPlan c_Se_isPlan 5 (some .boolean) ∈ g_tbl := tb_ 472 rfl rfl
set_option maxRecDepth 100000 in
theorem u_Se_isPlan : ∀ w ∈ w_Se_isPlan, w ∈ g_tbl := fun w h => (List.mem_cons.mp h).elim (fun e => by rw [e]; exact k_Se_isPlan) id
set_option maxRecDepth 100000 in
theorem k_To_init : Cond.code y_To_init c_To_init 1 none ∈ g_tbl := tb_ 24 rfl rfl
set_option maxRecDepth 100000 in
theorem u_To_init : ∀ w ∈ w_To_init, w ∈ g_tbl := fun w h => (List.mem_cons.mp h).elim (fun e => by rw [e]; exact k_To_init) id
set_option maxRecDepth 100000 in
theorem k_To_hasDistrict : Cond.code y_To_hasDistrict c_To_hasDistrict 2 (some .boolean) ∈ g_tbl := tb_ 248 rfl rfl
set_option maxRecDepth 100000 in
theorem u_To_hasDistrict : ∀ w ∈ w_To_hasDistrict, w ∈ g_tbl := fun w h => (List.mem_cons.mp h).elim (fun e => by rw [e]; exact k_To_hasDistrict) id
set_option maxRecDepth 100000 in
theorem k_To_hasPlace : Cond.code y_To_hasPlace c_To_hasPlace 2 (some .boolean) ∈ g_tbl := tb_ 252 rfl rfl
set_option maxRecDepth 100000 in
theorem u_To_hasPlace : ∀ w ∈ w_To_hasPlace, w ∈ g_tbl := fun w h => (List.mem_cons.mp h).elim (fun e => by rw [e]; exact k_To_hasPlace) id
set_option maxRecDepth 100000 in
theorem k_To_addDistrict : Cond.code y_To_addDistrict c_To_addDistrict 4 (some .int) ∈ g_tbl := tb_ 224 rfl rfl
set_option maxRecDepth 100000 in
theorem u_To_addDistrict : ∀ w ∈ w_To_addDistrict, w ∈ g_tbl := fun w h => (List.mem_cons.mp h).elim (fun e => by rw [e]; exact k_To_addDistrict) id
set_option maxRecDepth 100000 in
theorem k_To_addPlace : Cond.code y_To_addPlace c_To_addPlace 10 (some .int) ∈ g_tbl := tb_ 240 rfl rfl
set_option maxRecDepth 100000 in
theorem u_To_addPlace : ∀ w ∈ w_To_addPlace, w ∈ g_tbl := fun w h => (List.mem_cons.mp h).elim (fun e => by rw [e]; exact k_To_addPlace) id
set_option maxRecDepth 100000 in
theorem k_To_reach : Cond.code y_To_reach c_To_reach 5 (some .long) ∈ g_tbl := tb_ 287 rfl rfl
set_option maxRecDepth 100000 in
theorem u_To_reach : ∀ w ∈ w_To_reach, w ∈ g_tbl := fun w h => (List.mem_cons.mp h).elim (fun e => by rw [e]; exact k_To_reach) id
set_option maxRecDepth 100000 in
theorem k_To_countWays : Cond.code y_To_countWays c_To_countWays 4 (some .long) ∈ g_tbl := tb_ 279 rfl rfl
set_option maxRecDepth 100000 in
theorem u_To_countWays : ∀ w ∈ w_To_countWays, w ∈ g_tbl := fun w h => (List.mem_cons.mp h).elim (fun e => by rw [e]; exact k_To_countWays) id
set_option maxRecDepth 100000 in
theorem k_To_countReached : Cond.code y_To_countReached c_To_countReached 5 (some .long) ∈ g_tbl := tb_ 283 rfl rfl
set_option maxRecDepth 100000 in
theorem u_To_countReached : ∀ w ∈ w_To_countReached, w ∈ g_tbl := fun w h => (List.mem_cons.mp h).elim (fun e => by rw [e]; exact k_To_countReached) id
set_option maxRecDepth 100000 in
theorem k_To_isTooNear : Cond.code y_To_isTooNear c_To_isTooNear 9 (some .boolean) ∈ g_tbl := tb_ 323 rfl rfl
set_option maxRecDepth 100000 in
theorem u_To_isTooNear : ∀ w ∈ w_To_isTooNear, w ∈ g_tbl := fun w h => (List.mem_cons.mp h).elim (fun e => by rw [e]; exact k_To_isTooNear) id
set_option maxRecDepth 100000 in
theorem k_Un_init : Cond.code y_Un_init c_Un_init 1 none ∈ g_tbl := tb_ 165 rfl rfl
set_option maxRecDepth 100000 in
theorem u_Un_init : ∀ w ∈ w_Un_init, w ∈ g_tbl := fun w h => (List.mem_cons.mp h).elim (fun e => by rw [e]; exact k_Un_init) id
set_option maxRecDepth 100000 in
theorem k_Un_isIn : Cond.code y_Un_isIn c_Un_isIn 3 (some .boolean) ∈ g_tbl := tb_ 390 rfl rfl
set_option maxRecDepth 100000 in
theorem u_Un_isIn : ∀ w ∈ w_Un_isIn, w ∈ g_tbl := fun w h => (List.mem_cons.mp h).elim (fun e => by rw [e]; exact k_Un_isIn) id
set_option maxRecDepth 100000 in
theorem k_Un_forget : Cond.code y_Un_forget c_Un_forget 1 none ∈ g_tbl := tb_ 301 rfl rfl
set_option maxRecDepth 100000 in
theorem u_Un_forget : ∀ w ∈ w_Un_forget, w ∈ g_tbl := fun w h => (List.mem_cons.mp h).elim (fun e => by rw [e]; exact k_Un_forget) id
set_option maxRecDepth 100000 in
theorem k_Un_member : Cond.code y_Un_member c_Un_member 2 (some .int) ∈ g_tbl := tb_ 446 rfl rfl
set_option maxRecDepth 100000 in
theorem u_Un_member : ∀ w ∈ w_Un_member, w ∈ g_tbl := fun w h => (List.mem_cons.mp h).elim (fun e => by rw [e]; exact k_Un_member) id
set_option maxRecDepth 100000 in
theorem k_Un_find : Cond.code y_Un_find c_Un_find 6 none ∈ g_tbl := tb_ 377 rfl rfl
set_option maxRecDepth 100000 in
theorem u_Un_find : ∀ w ∈ w_Un_find, w ∈ g_tbl := fun w h => (List.mem_cons.mp h).elim (fun e => by rw [e]; exact k_Un_find) id
set_option maxRecDepth 100000 in
theorem k_Un_list : Cond.code y_Un_list c_Un_list 4 none ∈ g_tbl := tb_ 399 rfl rfl
set_option maxRecDepth 100000 in
theorem u_Un_list : ∀ w ∈ w_Un_list, w ∈ g_tbl := fun w h => (List.mem_cons.mp h).elim (fun e => by rw [e]; exact k_Un_list) id
set_option maxRecDepth 100000 in
theorem k_Ob_init : Cond.code y_Ob_init c_Ob_init 1 none ∈ g_tbl := tb_ 19 rfl rfl
set_option maxRecDepth 100000 in
theorem u_Ob_init : ∀ w ∈ w_Ob_init, w ∈ g_tbl := fun w h => (List.mem_cons.mp h).elim (fun e => by rw [e]; exact k_Ob_init) id
set_option maxRecDepth 100000 in
theorem k_In_bitCount : Cond.code y_In_bitCount c_In_bitCount 1 (some .int) ∈ g_tbl := tb_ 380 rfl rfl
set_option maxRecDepth 100000 in
theorem u_In_bitCount : ∀ w ∈ w_In_bitCount, w ∈ g_tbl := fun w h => (List.mem_cons.mp h).elim (fun e => by rw [e]; exact k_In_bitCount) id
set_option maxRecDepth 100000 in
theorem k_Ma_max : Cond.code y_Ma_max c_Ma_max 4 (some .long) ∈ g_tbl := tb_ 326 rfl rfl
set_option maxRecDepth 100000 in
theorem u_Ma_max : ∀ w ∈ w_Ma_max, w ∈ g_tbl := fun w h => (List.mem_cons.mp h).elim (fun e => by rw [e]; exact k_Ma_max) id
set_option maxRecDepth 100000 in
theorem k_Ma_min : Cond.code y_Ma_min c_Ma_min 2 (some .int) ∈ g_tbl := tb_ 457 rfl rfl
set_option maxRecDepth 100000 in
theorem u_Ma_min : ∀ w ∈ w_Ma_min, w ∈ g_tbl := fun w h => (List.mem_cons.mp h).elim (fun e => by rw [e]; exact k_Ma_min) id
set_option maxRecDepth 100000 in
theorem k_Ar_fill_ints : Cond.code y_Ar_fill_ints c_Ar_fill_ints 4 none ∈ g_tbl := tb_ 348 rfl rfl
set_option maxRecDepth 100000 in
theorem u_Ar_fill_ints : ∀ w ∈ w_Ar_fill_ints, w ∈ g_tbl := fun w h => (List.mem_cons.mp h).elim (fun e => by rw [e]; exact k_Ar_fill_ints) id
set_option maxRecDepth 100000 in
theorem k_Ar_fill_longs : Cond.code y_Ar_fill_longs c_Ar_fill_longs 5 none ∈ g_tbl := tb_ 229 rfl rfl
set_option maxRecDepth 100000 in
theorem u_Ar_fill_longs : ∀ w ∈ w_Ar_fill_longs, w ∈ g_tbl := fun w h => (List.mem_cons.mp h).elim (fun e => by rw [e]; exact k_Ar_fill_longs) id
set_option maxRecDepth 100000 in
theorem cv_Si_11 (E : sx_E) {cc : ByteArray} (C : sx_C SC g_tbl "SiteChoice" cc E) (rm : Room) (hR : rm.frames + 1 ≤ (sx_R E).frames ∧ 8 + (1 + 11) + rm.locals ≤ (sx_R E).locals) : CallB (sx_R E) (sx_s E) (sx_a E) "SiteChoice" 11 y_To_init c_To_init 1 none w_To_init rm rm.cells rm.slots 0 ∧ y_To_init.name = "<init>" ∧ (Cond.instanceMethod y_To_init).before (sx_a E) (sx_s E) = true := cwI 0 C.2.2.2.2.1 (gi_ u_To_init) rfl rfl rfl (C.2.2.2.2.1 _ (tb_ 2 (by decide +kernel) rfl)) (C.2.2.2.2.1 _ (tb_ 22 (by decide +kernel) rfl)) (C.2.2.2.2.1 _ (tb_ 23 (by decide +kernel) rfl)) rfl (by decide +kernel) hR
set_option maxRecDepth 100000 in
theorem cv_Si_18 (E : sx_E) {cc : ByteArray} (C : sx_C SC g_tbl "SiteChoice" cc E) (rm : Room) (hR : rm.frames + 1 ≤ (sx_R E).frames ∧ 8 + (1 + 11) + rm.locals ≤ (sx_R E).locals) : CallB (sx_R E) (sx_s E) (sx_a E) "SiteChoice" 18 y_Se_init c_Se_init 1 none w_Se_init rm rm.cells rm.slots 0 ∧ y_Se_init.name = "<init>" ∧ (Cond.instanceMethod y_Se_init).before (sx_a E) (sx_s E) = true := cwI 0 C.2.2.2.2.1 (gi_ u_Se_init) rfl rfl rfl (C.2.2.2.2.1 _ (tb_ 3 (by decide +kernel) rfl)) (C.2.2.2.2.1 _ (tb_ 90 (by decide +kernel) rfl)) (C.2.2.2.2.1 _ (tb_ 91 (by decide +kernel) rfl)) rfl (by decide +kernel) hR
set_option maxRecDepth 100000 in
theorem cv_Si_25 (E : sx_E) {cc : ByteArray} (C : sx_C SC g_tbl "SiteChoice" cc E) (rm : Room) (hR : rm.frames + 1 ≤ (sx_R E).frames ∧ 8 + (1 + 11) + rm.locals ≤ (sx_R E).locals) : CallB (sx_R E) (sx_s E) (sx_a E) "SiteChoice" 25 y_He_init c_He_init 1 none w_He_init rm rm.cells rm.slots 0 ∧ y_He_init.name = "<init>" ∧ (Cond.instanceMethod y_He_init).before (sx_a E) (sx_s E) = true := cwI 0 C.2.2.2.2.1 (gi_ u_He_init) rfl rfl rfl (C.2.2.2.2.1 _ (tb_ 4 (by decide +kernel) rfl)) (C.2.2.2.2.1 _ (tb_ 145 (by decide +kernel) rfl)) (C.2.2.2.2.1 _ (tb_ 146 (by decide +kernel) rfl)) rfl (by decide +kernel) hR
set_option maxRecDepth 100000 in
theorem cv_Si_32 (E : sx_E) {cc : ByteArray} (C : sx_C SC g_tbl "SiteChoice" cc E) (rm : Room) (hR : rm.frames + 1 ≤ (sx_R E).frames ∧ 8 + (1 + 11) + rm.locals ≤ (sx_R E).locals) : CallB (sx_R E) (sx_s E) (sx_a E) "SiteChoice" 32 y_Un_init c_Un_init 1 none w_Un_init rm rm.cells rm.slots 0 ∧ y_Un_init.name = "<init>" ∧ (Cond.instanceMethod y_Un_init).before (sx_a E) (sx_s E) = true := cwI 0 C.2.2.2.2.1 (gi_ u_Un_init) rfl rfl rfl (C.2.2.2.2.1 _ (tb_ 5 (by decide +kernel) rfl)) (C.2.2.2.2.1 _ (tb_ 163 (by decide +kernel) rfl)) (C.2.2.2.2.1 _ (tb_ 164 (by decide +kernel) rfl)) rfl (by decide +kernel) hR
set_option maxRecDepth 100000 in
theorem cv_Si_39 (E : sx_E) {cc : ByteArray} (C : sx_C SC g_tbl "SiteChoice" cc E) (rm : Room) (hR : rm.frames + 1 ≤ (sx_R E).frames ∧ 8 + (1 + 11) + rm.locals ≤ (sx_R E).locals) : CallB (sx_R E) (sx_s E) (sx_a E) "SiteChoice" 39 y_Ca_init c_Ca_init 1 none w_Ca_init rm rm.cells rm.slots 0 ∧ y_Ca_init.name = "<init>" ∧ (Cond.instanceMethod y_Ca_init).before (sx_a E) (sx_s E) = true := cwI 0 C.2.2.2.2.1 (gi_ u_Ca_init) rfl rfl rfl (C.2.2.2.2.1 _ (tb_ 6 (by decide +kernel) rfl)) (C.2.2.2.2.1 _ (tb_ 176 (by decide +kernel) rfl)) (C.2.2.2.2.1 _ (tb_ 177 (by decide +kernel) rfl)) rfl (by decide +kernel) hR
set_option maxRecDepth 100000 in
theorem gv_Si_54 : GoodIn g_tbl (va_wsS "SiteChoice" 54 y_Si_isWithin w_Si_isWithin) := gi_ (List.forall_mem_append.mpr ⟨List.forall_mem_cons.mpr ⟨tb_ 218 (by decide +kernel) rfl, List.forall_mem_cons.mpr ⟨tb_ 219 (by decide +kernel) rfl, List.forall_mem_cons.mpr ⟨tb_ 1 (by decide +kernel) rfl, fun _ h => absurd h List.not_mem_nil⟩⟩⟩, u_Si_isWithin⟩)
set_option maxRecDepth 100000 in
theorem cv_Si_54 (E : sx_E) {cc : ByteArray} (C : sx_C SC g_tbl "SiteChoice" cc E) (rm : Room) (hR : rm.frames + 1 ≤ (sx_R E).frames ∧ 8 + (6 + 11) + rm.locals ≤ (sx_R E).locals) : CallB (sx_R E) (sx_s E) (sx_a E) "SiteChoice" 54 y_Si_isWithin c_Si_isWithin 6 (some .boolean) w_Si_isWithin rm rm.cells rm.slots 3 ∧ (Cond.static y_Si_isWithin).before (sx_a E) (sx_s E) = true := va_cwS 3 C.2.2.2.2.1 gv_Si_54 rfl rfl rfl (by decide +kernel) hR
set_option maxRecDepth 100000 in
theorem gv_Si_58 : GoodIn g_tbl (wsV "SiteChoice" 58 "SiteChoice$Town" y_To_addDistrict w_To_addDistrict) := gi_ (List.forall_mem_append.mpr ⟨List.forall_mem_cons.mpr ⟨tb_ 221 (by decide +kernel) rfl, List.forall_mem_cons.mpr ⟨tb_ 222 (by decide +kernel) rfl, List.forall_mem_cons.mpr ⟨tb_ 223 (by decide +kernel) rfl, List.forall_mem_cons.mpr ⟨tb_ 2 (by decide +kernel) rfl, fun _ h => absurd h List.not_mem_nil⟩⟩⟩⟩, u_To_addDistrict⟩)
set_option maxRecDepth 100000 in
theorem cv_Si_58 (E : sx_E) {cc : ByteArray} (C : sx_C SC g_tbl "SiteChoice" cc E) (rm : Room) (hR : rm.frames + 1 ≤ (sx_R E).frames ∧ 8 + (4 + 11) + rm.locals ≤ (sx_R E).locals) : CallW (sx_R E) (sx_s E) (sx_a E) "SiteChoice" "SiteChoice$Town" 58 y_To_addDistrict c_To_addDistrict 4 (some .int) w_To_addDistrict rm rm.cells rm.slots 1 := cwV 1 C.2.2.2.2.1 gv_Si_58 rfl rfl rfl (by decide +kernel) hR
set_option maxRecDepth 100000 in
theorem gv_Si_71 : GoodIn g_tbl (wsV "SiteChoice" 71 "SiteChoice$Town" y_To_addPlace w_To_addPlace) := gi_ (List.forall_mem_append.mpr ⟨List.forall_mem_cons.mpr ⟨tb_ 237 (by decide +kernel) rfl, List.forall_mem_cons.mpr ⟨tb_ 238 (by decide +kernel) rfl, List.forall_mem_cons.mpr ⟨tb_ 239 (by decide +kernel) rfl, List.forall_mem_cons.mpr ⟨tb_ 2 (by decide +kernel) rfl, fun _ h => absurd h List.not_mem_nil⟩⟩⟩⟩, u_To_addPlace⟩)
set_option maxRecDepth 100000 in
theorem cv_Si_71 (E : sx_E) {cc : ByteArray} (C : sx_C SC g_tbl "SiteChoice" cc E) (rm : Room) (hR : rm.frames + 1 ≤ (sx_R E).frames ∧ 8 + (10 + 11) + rm.locals ≤ (sx_R E).locals) : CallW (sx_R E) (sx_s E) (sx_a E) "SiteChoice" "SiteChoice$Town" 71 y_To_addPlace c_To_addPlace 10 (some .int) w_To_addPlace rm rm.cells rm.slots 4 := cwV 4 C.2.2.2.2.1 gv_Si_71 rfl rfl rfl (by decide +kernel) hR
set_option maxRecDepth 100000 in
theorem gv_Si_75 : GoodIn g_tbl (wsV "SiteChoice" 75 "SiteChoice$Town" y_To_hasDistrict w_To_hasDistrict) := gi_ (List.forall_mem_append.mpr ⟨List.forall_mem_cons.mpr ⟨tb_ 245 (by decide +kernel) rfl, List.forall_mem_cons.mpr ⟨tb_ 246 (by decide +kernel) rfl, List.forall_mem_cons.mpr ⟨tb_ 247 (by decide +kernel) rfl, List.forall_mem_cons.mpr ⟨tb_ 2 (by decide +kernel) rfl, fun _ h => absurd h List.not_mem_nil⟩⟩⟩⟩, u_To_hasDistrict⟩)
set_option maxRecDepth 100000 in
theorem cv_Si_75 (E : sx_E) {cc : ByteArray} (C : sx_C SC g_tbl "SiteChoice" cc E) (rm : Room) (hR : rm.frames + 1 ≤ (sx_R E).frames ∧ 8 + (2 + 11) + rm.locals ≤ (sx_R E).locals) : CallW (sx_R E) (sx_s E) (sx_a E) "SiteChoice" "SiteChoice$Town" 75 y_To_hasDistrict c_To_hasDistrict 2 (some .boolean) w_To_hasDistrict rm rm.cells rm.slots 1 := cwV 1 C.2.2.2.2.1 gv_Si_75 rfl rfl rfl (by decide +kernel) hR
set_option maxRecDepth 100000 in
theorem gv_Si_79 : GoodIn g_tbl (wsV "SiteChoice" 79 "SiteChoice$Town" y_To_hasPlace w_To_hasPlace) := gi_ (List.forall_mem_append.mpr ⟨List.forall_mem_cons.mpr ⟨tb_ 249 (by decide +kernel) rfl, List.forall_mem_cons.mpr ⟨tb_ 250 (by decide +kernel) rfl, List.forall_mem_cons.mpr ⟨tb_ 251 (by decide +kernel) rfl, List.forall_mem_cons.mpr ⟨tb_ 2 (by decide +kernel) rfl, fun _ h => absurd h List.not_mem_nil⟩⟩⟩⟩, u_To_hasPlace⟩)
set_option maxRecDepth 100000 in
theorem cv_Si_79 (E : sx_E) {cc : ByteArray} (C : sx_C SC g_tbl "SiteChoice" cc E) (rm : Room) (hR : rm.frames + 1 ≤ (sx_R E).frames ∧ 8 + (2 + 11) + rm.locals ≤ (sx_R E).locals) : CallW (sx_R E) (sx_s E) (sx_a E) "SiteChoice" "SiteChoice$Town" 79 y_To_hasPlace c_To_hasPlace 2 (some .boolean) w_To_hasPlace rm rm.cells rm.slots 1 := cwV 1 C.2.2.2.2.1 gv_Si_79 rfl rfl rfl (by decide +kernel) hR
set_option maxRecDepth 100000 in
theorem gv_Si_107 : GoodIn g_tbl (wsV "SiteChoice" 107 "SiteChoice$Town" y_To_countWays w_To_countWays) := gi_ (List.forall_mem_append.mpr ⟨List.forall_mem_cons.mpr ⟨tb_ 276 (by decide +kernel) rfl, List.forall_mem_cons.mpr ⟨tb_ 277 (by decide +kernel) rfl, List.forall_mem_cons.mpr ⟨tb_ 278 (by decide +kernel) rfl, List.forall_mem_cons.mpr ⟨tb_ 2 (by decide +kernel) rfl, fun _ h => absurd h List.not_mem_nil⟩⟩⟩⟩, u_To_countWays⟩)
set_option maxRecDepth 100000 in
theorem cv_Si_107 (E : sx_E) {cc : ByteArray} (C : sx_C SC g_tbl "SiteChoice" cc E) (rm : Room) (hR : rm.frames + 1 ≤ (sx_R E).frames ∧ 8 + (4 + 11) + rm.locals ≤ (sx_R E).locals) : CallW (sx_R E) (sx_s E) (sx_a E) "SiteChoice" "SiteChoice$Town" 107 y_To_countWays c_To_countWays 4 (some .long) w_To_countWays rm rm.cells rm.slots 0 := cwV 0 C.2.2.2.2.1 gv_Si_107 rfl rfl rfl (by decide +kernel) hR
set_option maxRecDepth 100000 in
theorem gv_Si_111 : GoodIn g_tbl (wsV "SiteChoice" 111 "SiteChoice$HeldPlan" y_He_drop w_He_drop) := gi_ (List.forall_mem_append.mpr ⟨List.forall_mem_cons.mpr ⟨tb_ 294 (by decide +kernel) rfl, List.forall_mem_cons.mpr ⟨tb_ 295 (by decide +kernel) rfl, List.forall_mem_cons.mpr ⟨tb_ 296 (by decide +kernel) rfl, List.forall_mem_cons.mpr ⟨tb_ 4 (by decide +kernel) rfl, fun _ h => absurd h List.not_mem_nil⟩⟩⟩⟩, u_He_drop⟩)
set_option maxRecDepth 100000 in
theorem cv_Si_111 (E : sx_E) {cc : ByteArray} (C : sx_C SC g_tbl "SiteChoice" cc E) (rm : Room) (hR : rm.frames + 1 ≤ (sx_R E).frames ∧ 8 + (1 + 11) + rm.locals ≤ (sx_R E).locals) : CallW (sx_R E) (sx_s E) (sx_a E) "SiteChoice" "SiteChoice$HeldPlan" 111 y_He_drop c_He_drop 1 none w_He_drop rm rm.cells rm.slots 0 := cwV 0 C.2.2.2.2.1 gv_Si_111 rfl rfl rfl (by decide +kernel) hR
set_option maxRecDepth 100000 in
theorem gv_Si_114 : GoodIn g_tbl (wsV "SiteChoice" 114 "SiteChoice$Unserved" y_Un_forget w_Un_forget) := gi_ (List.forall_mem_append.mpr ⟨List.forall_mem_cons.mpr ⟨tb_ 298 (by decide +kernel) rfl, List.forall_mem_cons.mpr ⟨tb_ 299 (by decide +kernel) rfl, List.forall_mem_cons.mpr ⟨tb_ 300 (by decide +kernel) rfl, List.forall_mem_cons.mpr ⟨tb_ 5 (by decide +kernel) rfl, fun _ h => absurd h List.not_mem_nil⟩⟩⟩⟩, u_Un_forget⟩)
set_option maxRecDepth 100000 in
theorem cv_Si_114 (E : sx_E) {cc : ByteArray} (C : sx_C SC g_tbl "SiteChoice" cc E) (rm : Room) (hR : rm.frames + 1 ≤ (sx_R E).frames ∧ 8 + (1 + 11) + rm.locals ≤ (sx_R E).locals) : CallW (sx_R E) (sx_s E) (sx_a E) "SiteChoice" "SiteChoice$Unserved" 114 y_Un_forget c_Un_forget 1 none w_Un_forget rm rm.cells rm.slots 0 := cwV 0 C.2.2.2.2.1 gv_Si_114 rfl rfl rfl (by decide +kernel) hR
set_option maxRecDepth 100000 in
theorem gv_Si_117 : GoodIn g_tbl (wsV "SiteChoice" 117 "SiteChoice$Search" y_Se_load w_Se_load) := gi_ (List.forall_mem_append.mpr ⟨List.forall_mem_cons.mpr ⟨tb_ 302 (by decide +kernel) rfl, List.forall_mem_cons.mpr ⟨tb_ 303 (by decide +kernel) rfl, List.forall_mem_cons.mpr ⟨tb_ 304 (by decide +kernel) rfl, List.forall_mem_cons.mpr ⟨tb_ 3 (by decide +kernel) rfl, fun _ h => absurd h List.not_mem_nil⟩⟩⟩⟩, u_Se_load⟩)
set_option maxRecDepth 100000 in
theorem cv_Si_117 (E : sx_E) {cc : ByteArray} (C : sx_C SC g_tbl "SiteChoice" cc E) (rm : Room) (hR : rm.frames + 1 ≤ (sx_R E).frames ∧ 8 + (5 + 11) + rm.locals ≤ (sx_R E).locals) : CallW (sx_R E) (sx_s E) (sx_a E) "SiteChoice" "SiteChoice$Search" 117 y_Se_load c_Se_load 5 none w_Se_load rm rm.cells rm.slots 2 := cwV 2 C.2.2.2.2.1 gv_Si_117 rfl rfl rfl (by decide +kernel) hR
set_option maxRecDepth 100000 in
theorem gv_Si_121 : GoodIn g_tbl (wsV "SiteChoice" 121 "SiteChoice$Search" y_Se_leastSum w_Se_leastSum) := gi_ (List.forall_mem_append.mpr ⟨List.forall_mem_cons.mpr ⟨tb_ 327 (by decide +kernel) rfl, List.forall_mem_cons.mpr ⟨tb_ 328 (by decide +kernel) rfl, List.forall_mem_cons.mpr ⟨tb_ 329 (by decide +kernel) rfl, List.forall_mem_cons.mpr ⟨tb_ 3 (by decide +kernel) rfl, fun _ h => absurd h List.not_mem_nil⟩⟩⟩⟩, u_Se_leastSum⟩)
set_option maxRecDepth 100000 in
theorem cv_Si_121 (E : sx_E) {cc : ByteArray} (C : sx_C SC g_tbl "SiteChoice" cc E) (rm : Room) (hR : rm.frames + 1 ≤ (sx_R E).frames ∧ 8 + (2 + 11) + rm.locals ≤ (sx_R E).locals) : CallW (sx_R E) (sx_s E) (sx_a E) "SiteChoice" "SiteChoice$Search" 121 y_Se_leastSum c_Se_leastSum 2 (some .long) w_Se_leastSum rm rm.cells rm.slots 1 := cwV 1 C.2.2.2.2.1 gv_Si_121 rfl rfl rfl (by decide +kernel) hR
set_option maxRecDepth 100000 in
theorem gv_Si_127 : GoodIn g_tbl (wsV "SiteChoice" 127 "SiteChoice$Unserved" y_Un_find w_Un_find) := gi_ (List.forall_mem_append.mpr ⟨List.forall_mem_cons.mpr ⟨tb_ 374 (by decide +kernel) rfl, List.forall_mem_cons.mpr ⟨tb_ 375 (by decide +kernel) rfl, List.forall_mem_cons.mpr ⟨tb_ 376 (by decide +kernel) rfl, List.forall_mem_cons.mpr ⟨tb_ 5 (by decide +kernel) rfl, fun _ h => absurd h List.not_mem_nil⟩⟩⟩⟩, u_Un_find⟩)
set_option maxRecDepth 100000 in
theorem cv_Si_127 (E : sx_E) {cc : ByteArray} (C : sx_C SC g_tbl "SiteChoice" cc E) (rm : Room) (hR : rm.frames + 1 ≤ (sx_R E).frames ∧ 8 + (6 + 11) + rm.locals ≤ (sx_R E).locals) : CallW (sx_R E) (sx_s E) (sx_a E) "SiteChoice" "SiteChoice$Unserved" 127 y_Un_find c_Un_find 6 none w_Un_find rm rm.cells rm.slots 2 := cwV 2 C.2.2.2.2.1 gv_Si_127 rfl rfl rfl (by decide +kernel) hR
set_option maxRecDepth 100000 in
theorem gv_Si_135 : GoodIn g_tbl (wsV "SiteChoice" 135 "SiteChoice$HeldPlan" y_He_keep w_He_keep) := gi_ (List.forall_mem_append.mpr ⟨List.forall_mem_cons.mpr ⟨tb_ 401 (by decide +kernel) rfl, List.forall_mem_cons.mpr ⟨tb_ 402 (by decide +kernel) rfl, List.forall_mem_cons.mpr ⟨tb_ 403 (by decide +kernel) rfl, List.forall_mem_cons.mpr ⟨tb_ 4 (by decide +kernel) rfl, fun _ h => absurd h List.not_mem_nil⟩⟩⟩⟩, u_He_keep⟩)
set_option maxRecDepth 100000 in
theorem cv_Si_135 (E : sx_E) {cc : ByteArray} (C : sx_C SC g_tbl "SiteChoice" cc E) (rm : Room) (hR : rm.frames + 1 ≤ (sx_R E).frames ∧ 8 + (4 + 11) + rm.locals ≤ (sx_R E).locals) : CallW (sx_R E) (sx_s E) (sx_a E) "SiteChoice" "SiteChoice$HeldPlan" 135 y_He_keep c_He_keep 4 none w_He_keep rm rm.cells rm.slots 2 := cwV 2 C.2.2.2.2.1 gv_Si_135 rfl rfl rfl (by decide +kernel) hR
set_option maxRecDepth 100000 in
theorem gv_Si_139 : GoodIn g_tbl (wsV "SiteChoice" 139 "SiteChoice$HeldPlan" y_He_gives w_He_gives) := gi_ (List.forall_mem_append.mpr ⟨List.forall_mem_cons.mpr ⟨tb_ 410 (by decide +kernel) rfl, List.forall_mem_cons.mpr ⟨tb_ 411 (by decide +kernel) rfl, List.forall_mem_cons.mpr ⟨tb_ 412 (by decide +kernel) rfl, List.forall_mem_cons.mpr ⟨tb_ 4 (by decide +kernel) rfl, fun _ h => absurd h List.not_mem_nil⟩⟩⟩⟩, u_He_gives⟩)
set_option maxRecDepth 100000 in
theorem cv_Si_139 (E : sx_E) {cc : ByteArray} (C : sx_C SC g_tbl "SiteChoice" cc E) (rm : Room) (hR : rm.frames + 1 ≤ (sx_R E).frames ∧ 8 + (3 + 11) + rm.locals ≤ (sx_R E).locals) : CallW (sx_R E) (sx_s E) (sx_a E) "SiteChoice" "SiteChoice$HeldPlan" 139 y_He_gives c_He_gives 3 (some .boolean) w_He_gives rm rm.cells rm.slots 1 := cwV 1 C.2.2.2.2.1 gv_Si_139 rfl rfl rfl (by decide +kernel) hR
set_option maxRecDepth 100000 in
theorem gv_Si_142 : GoodIn g_tbl (wsV "SiteChoice" 142 "SiteChoice$HeldPlan" y_He_placeFor w_He_placeFor) := gi_ (List.forall_mem_append.mpr ⟨List.forall_mem_cons.mpr ⟨tb_ 422 (by decide +kernel) rfl, List.forall_mem_cons.mpr ⟨tb_ 415 (by decide +kernel) rfl, List.forall_mem_cons.mpr ⟨tb_ 416 (by decide +kernel) rfl, List.forall_mem_cons.mpr ⟨tb_ 4 (by decide +kernel) rfl, fun _ h => absurd h List.not_mem_nil⟩⟩⟩⟩, u_He_placeFor⟩)
set_option maxRecDepth 100000 in
theorem cv_Si_142 (E : sx_E) {cc : ByteArray} (C : sx_C SC g_tbl "SiteChoice" cc E) (rm : Room) (hR : rm.frames + 1 ≤ (sx_R E).frames ∧ 8 + (2 + 11) + rm.locals ≤ (sx_R E).locals) : CallW (sx_R E) (sx_s E) (sx_a E) "SiteChoice" "SiteChoice$HeldPlan" 142 y_He_placeFor c_He_placeFor 2 (some .int) w_He_placeFor rm rm.cells rm.slots 1 := cwV 1 C.2.2.2.2.1 gv_Si_142 rfl rfl rfl (by decide +kernel) hR
set_option maxRecDepth 100000 in
theorem gv_Si_152 : GoodIn g_tbl (wsV "SiteChoice" 152 "SiteChoice$Search" y_Se_leastThinkable w_Se_leastThinkable) := gi_ (List.forall_mem_append.mpr ⟨List.forall_mem_cons.mpr ⟨tb_ 431 (by decide +kernel) rfl, List.forall_mem_cons.mpr ⟨tb_ 432 (by decide +kernel) rfl, List.forall_mem_cons.mpr ⟨tb_ 433 (by decide +kernel) rfl, List.forall_mem_cons.mpr ⟨tb_ 3 (by decide +kernel) rfl, fun _ h => absurd h List.not_mem_nil⟩⟩⟩⟩, u_Se_leastThinkable⟩)
set_option maxRecDepth 100000 in
theorem cv_Si_152 (E : sx_E) {cc : ByteArray} (C : sx_C SC g_tbl "SiteChoice" cc E) (rm : Room) (hR : rm.frames + 1 ≤ (sx_R E).frames ∧ 8 + (1 + 11) + rm.locals ≤ (sx_R E).locals) : CallW (sx_R E) (sx_s E) (sx_a E) "SiteChoice" "SiteChoice$Search" 152 y_Se_leastThinkable c_Se_leastThinkable 1 (some .long) w_Se_leastThinkable rm rm.cells rm.slots 0 := cwV 0 C.2.2.2.2.1 gv_Si_152 rfl rfl rfl (by decide +kernel) hR
set_option maxRecDepth 100000 in
theorem gv_Si_155 : GoodIn g_tbl (wsV "SiteChoice" 155 "SiteChoice$Unserved" y_Un_member w_Un_member) := gi_ (List.forall_mem_append.mpr ⟨List.forall_mem_cons.mpr ⟨tb_ 443 (by decide +kernel) rfl, List.forall_mem_cons.mpr ⟨tb_ 444 (by decide +kernel) rfl, List.forall_mem_cons.mpr ⟨tb_ 445 (by decide +kernel) rfl, List.forall_mem_cons.mpr ⟨tb_ 5 (by decide +kernel) rfl, fun _ h => absurd h List.not_mem_nil⟩⟩⟩⟩, u_Un_member⟩)
set_option maxRecDepth 100000 in
theorem cv_Si_155 (E : sx_E) {cc : ByteArray} (C : sx_C SC g_tbl "SiteChoice" cc E) (rm : Room) (hR : rm.frames + 1 ≤ (sx_R E).frames ∧ 8 + (2 + 11) + rm.locals ≤ (sx_R E).locals) : CallW (sx_R E) (sx_s E) (sx_a E) "SiteChoice" "SiteChoice$Unserved" 155 y_Un_member c_Un_member 2 (some .int) w_Un_member rm rm.cells rm.slots 1 := cwV 1 C.2.2.2.2.1 gv_Si_155 rfl rfl rfl (by decide +kernel) hR
set_option maxRecDepth 100000 in
theorem gv_Si_164 : GoodIn g_tbl (wsV "SiteChoice" 164 "SiteChoice$HeldPlan" y_He_exchangeFirst w_He_exchangeFirst) := gi_ (List.forall_mem_append.mpr ⟨List.forall_mem_cons.mpr ⟨tb_ 458 (by decide +kernel) rfl, List.forall_mem_cons.mpr ⟨tb_ 459 (by decide +kernel) rfl, List.forall_mem_cons.mpr ⟨tb_ 460 (by decide +kernel) rfl, List.forall_mem_cons.mpr ⟨tb_ 4 (by decide +kernel) rfl, fun _ h => absurd h List.not_mem_nil⟩⟩⟩⟩, u_He_exchangeFirst⟩)
set_option maxRecDepth 100000 in
theorem cv_Si_164 (E : sx_E) {cc : ByteArray} (C : sx_C SC g_tbl "SiteChoice" cc E) (rm : Room) (hR : rm.frames + 1 ≤ (sx_R E).frames ∧ 8 + (5 + 11) + rm.locals ≤ (sx_R E).locals) : CallW (sx_R E) (sx_s E) (sx_a E) "SiteChoice" "SiteChoice$HeldPlan" 164 y_He_exchangeFirst c_He_exchangeFirst 5 (some .boolean) w_He_exchangeFirst rm rm.cells rm.slots 2 := cwV 2 C.2.2.2.2.1 gv_Si_164 rfl rfl rfl (by decide +kernel) hR
set_option maxRecDepth 100000 in
theorem gv_Si_168 : GoodIn g_tbl (wsV "SiteChoice" 168 "SiteChoice$HeldPlan" y_He_reckonTotal w_He_reckonTotal) := gi_ (List.forall_mem_append.mpr ⟨List.forall_mem_cons.mpr ⟨tb_ 473 (by decide +kernel) rfl, List.forall_mem_cons.mpr ⟨tb_ 474 (by decide +kernel) rfl, List.forall_mem_cons.mpr ⟨tb_ 475 (by decide +kernel) rfl, List.forall_mem_cons.mpr ⟨tb_ 4 (by decide +kernel) rfl, fun _ h => absurd h List.not_mem_nil⟩⟩⟩⟩, u_He_reckonTotal⟩)
set_option maxRecDepth 100000 in
theorem cv_Si_168 (E : sx_E) {cc : ByteArray} (C : sx_C SC g_tbl "SiteChoice" cc E) (rm : Room) (hR : rm.frames + 1 ≤ (sx_R E).frames ∧ 8 + (4 + 11) + rm.locals ≤ (sx_R E).locals) : CallW (sx_R E) (sx_s E) (sx_a E) "SiteChoice" "SiteChoice$HeldPlan" 168 y_He_reckonTotal c_He_reckonTotal 4 none w_He_reckonTotal rm rm.cells rm.slots 1 := cwV 1 C.2.2.2.2.1 gv_Si_168 rfl rfl rfl (by decide +kernel) hR
set_option maxRecDepth 100000 in
theorem gv_Si_174 : GoodIn g_tbl (wsV "SiteChoice" 174 "SiteChoice$Calendar" y_Ca_lookOver w_Ca_lookOver) := gi_ (List.forall_mem_append.mpr ⟨List.forall_mem_cons.mpr ⟨tb_ 482 (by decide +kernel) rfl, List.forall_mem_cons.mpr ⟨tb_ 483 (by decide +kernel) rfl, List.forall_mem_cons.mpr ⟨tb_ 484 (by decide +kernel) rfl, List.forall_mem_cons.mpr ⟨tb_ 6 (by decide +kernel) rfl, fun _ h => absurd h List.not_mem_nil⟩⟩⟩⟩, u_Ca_lookOver⟩)
set_option maxRecDepth 100000 in
theorem cv_Si_174 (E : sx_E) {cc : ByteArray} (C : sx_C SC g_tbl "SiteChoice" cc E) (rm : Room) (hR : rm.frames + 1 ≤ (sx_R E).frames ∧ 8 + (6 + 11) + rm.locals ≤ (sx_R E).locals) : CallW (sx_R E) (sx_s E) (sx_a E) "SiteChoice" "SiteChoice$Calendar" 174 y_Ca_lookOver c_Ca_lookOver 6 (some .long) w_Ca_lookOver rm rm.cells rm.slots 3 := cwV 3 C.2.2.2.2.1 gv_Si_174 rfl rfl rfl (by decide +kernel) hR
set_option maxRecDepth 100000 in
theorem gv_Si_178 : GoodIn g_tbl (wsV "SiteChoice" 178 "SiteChoice$Calendar" y_Ca_isOpenIn w_Ca_isOpenIn) := gi_ (List.forall_mem_append.mpr ⟨List.forall_mem_cons.mpr ⟨tb_ 514 (by decide +kernel) rfl, List.forall_mem_cons.mpr ⟨tb_ 515 (by decide +kernel) rfl, List.forall_mem_cons.mpr ⟨tb_ 516 (by decide +kernel) rfl, List.forall_mem_cons.mpr ⟨tb_ 6 (by decide +kernel) rfl, fun _ h => absurd h List.not_mem_nil⟩⟩⟩⟩, u_Ca_isOpenIn⟩)
set_option maxRecDepth 100000 in
theorem cv_Si_178 (E : sx_E) {cc : ByteArray} (C : sx_C SC g_tbl "SiteChoice" cc E) (rm : Room) (hR : rm.frames + 1 ≤ (sx_R E).frames ∧ 8 + (3 + 11) + rm.locals ≤ (sx_R E).locals) : CallW (sx_R E) (sx_s E) (sx_a E) "SiteChoice" "SiteChoice$Calendar" 178 y_Ca_isOpenIn c_Ca_isOpenIn 3 (some .int) w_Ca_isOpenIn rm rm.cells rm.slots 2 := cwV 2 C.2.2.2.2.1 gv_Si_178 rfl rfl rfl (by decide +kernel) hR
set_option maxRecDepth 100000 in
theorem gv_Mo_82 : GoodIn g_tbl (va_wsS "SiteChoiceModel" 82 y_Mo_isIn w_Mo_isIn) := gi_ (List.forall_mem_append.mpr ⟨List.forall_mem_cons.mpr ⟨tb_ 608 (by decide +kernel) rfl, List.forall_mem_cons.mpr ⟨tb_ 609 (by decide +kernel) rfl, List.forall_mem_cons.mpr ⟨tb_ 7 (by decide +kernel) rfl, fun _ h => absurd h List.not_mem_nil⟩⟩⟩, u_Mo_isIn⟩)
set_option maxRecDepth 100000 in
theorem cv_Mo_82 (E : sx_E) {cc : ByteArray} (C : sx_C SC g_tbl "SiteChoiceModel" cc E) (rm : Room) (hR : rm.frames + 1 ≤ (sx_R E).frames ∧ 8 + (6 + 11) + rm.locals ≤ (sx_R E).locals) : CallB (sx_R E) (sx_s E) (sx_a E) "SiteChoiceModel" 82 y_Mo_isIn c_Mo_isIn 6 (some .boolean) w_Mo_isIn rm rm.cells rm.slots 3 ∧ (Cond.static y_Mo_isIn).before (sx_a E) (sx_s E) = true := va_cwS 3 C.2.2.2.2.1 gv_Mo_82 rfl rfl rfl (by decide +kernel) hR
set_option maxRecDepth 100000 in
theorem gv_Mo_96 : GoodIn g_tbl (wsV "SiteChoiceModel" 96 "SiteChoiceModel" y_Mo_isDistrict w_Mo_isDistrict) := gi_ (List.forall_mem_append.mpr ⟨List.forall_mem_cons.mpr ⟨tb_ 622 (by decide +kernel) rfl, List.forall_mem_cons.mpr ⟨tb_ 624 (by decide +kernel) rfl, List.forall_mem_cons.mpr ⟨List.mem_filter.mpr ⟨List.mem_append_left _ (by decide +kernel), rfl⟩, List.forall_mem_cons.mpr ⟨tb_ 7 (by decide +kernel) rfl, fun _ h => absurd h List.not_mem_nil⟩⟩⟩⟩, u_Mo_isDistrict⟩)
set_option maxRecDepth 100000 in
theorem cv_Mo_96 (E : sx_E) {cc : ByteArray} (C : sx_C SC g_tbl "SiteChoiceModel" cc E) (rm : Room) (hR : rm.frames + 1 ≤ (sx_R E).frames ∧ 8 + (2 + 11) + rm.locals ≤ (sx_R E).locals) : CallW (sx_R E) (sx_s E) (sx_a E) "SiteChoiceModel" "SiteChoiceModel" 96 y_Mo_isDistrict c_Mo_isDistrict 2 (some .boolean) w_Mo_isDistrict rm rm.cells rm.slots 1 := cwV 1 C.2.2.2.2.1 gv_Mo_96 rfl rfl rfl (by decide +kernel) hR
set_option maxRecDepth 100000 in
theorem gv_Mo_100 : GoodIn g_tbl (wsV "SiteChoiceModel" 100 "SiteChoiceModel" y_Mo_isPlace w_Mo_isPlace) := gi_ (List.forall_mem_append.mpr ⟨List.forall_mem_cons.mpr ⟨tb_ 626 (by decide +kernel) rfl, List.forall_mem_cons.mpr ⟨tb_ 628 (by decide +kernel) rfl, List.forall_mem_cons.mpr ⟨List.mem_filter.mpr ⟨List.mem_append_left _ (by decide +kernel), rfl⟩, List.forall_mem_cons.mpr ⟨tb_ 7 (by decide +kernel) rfl, fun _ h => absurd h List.not_mem_nil⟩⟩⟩⟩, u_Mo_isPlace⟩)
set_option maxRecDepth 100000 in
theorem cv_Mo_100 (E : sx_E) {cc : ByteArray} (C : sx_C SC g_tbl "SiteChoiceModel" cc E) (rm : Room) (hR : rm.frames + 1 ≤ (sx_R E).frames ∧ 8 + (2 + 11) + rm.locals ≤ (sx_R E).locals) : CallW (sx_R E) (sx_s E) (sx_a E) "SiteChoiceModel" "SiteChoiceModel" 100 y_Mo_isPlace c_Mo_isPlace 2 (some .boolean) w_Mo_isPlace rm rm.cells rm.slots 1 := cwV 1 C.2.2.2.2.1 gv_Mo_100 rfl rfl rfl (by decide +kernel) hR
set_option maxRecDepth 100000 in
theorem gv_Mo_105 : GoodIn g_tbl (va_wsS "SiteChoiceModel" 105 y_Mo_has w_Mo_has) := gi_ (List.forall_mem_append.mpr ⟨List.forall_mem_cons.mpr ⟨tb_ 668 (by decide +kernel) rfl, List.forall_mem_cons.mpr ⟨tb_ 669 (by decide +kernel) rfl, List.forall_mem_cons.mpr ⟨tb_ 7 (by decide +kernel) rfl, fun _ h => absurd h List.not_mem_nil⟩⟩⟩, u_Mo_has⟩)
set_option maxRecDepth 100000 in
theorem cv_Mo_105 (E : sx_E) {cc : ByteArray} (C : sx_C SC g_tbl "SiteChoiceModel" cc E) (rm : Room) (hR : rm.frames + 1 ≤ (sx_R E).frames ∧ 8 + (2 + 11) + rm.locals ≤ (sx_R E).locals) : CallB (sx_R E) (sx_s E) (sx_a E) "SiteChoiceModel" 105 y_Mo_has c_Mo_has 2 (some .boolean) w_Mo_has rm rm.cells rm.slots 2 ∧ (Cond.static y_Mo_has).before (sx_a E) (sx_s E) = true := va_cwS 2 C.2.2.2.2.1 gv_Mo_105 rfl rfl rfl (by decide +kernel) hR
set_option maxRecDepth 100000 in
theorem gv_Mo_111 : GoodIn g_tbl (wsV "SiteChoiceModel" 111 "SiteChoiceModel" y_Mo_canGo w_Mo_canGo) := gi_ (List.forall_mem_append.mpr ⟨List.forall_mem_cons.mpr ⟨tb_ 651 (by decide +kernel) rfl, List.forall_mem_cons.mpr ⟨tb_ 653 (by decide +kernel) rfl, List.forall_mem_cons.mpr ⟨List.mem_filter.mpr ⟨List.mem_append_left _ (by decide +kernel), rfl⟩, List.forall_mem_cons.mpr ⟨tb_ 7 (by decide +kernel) rfl, fun _ h => absurd h List.not_mem_nil⟩⟩⟩⟩, u_Mo_canGo⟩)
set_option maxRecDepth 100000 in
theorem cv_Mo_111 (E : sx_E) {cc : ByteArray} (C : sx_C SC g_tbl "SiteChoiceModel" cc E) (rm : Room) (hR : rm.frames + 1 ≤ (sx_R E).frames ∧ 8 + (5 + 11) + rm.locals ≤ (sx_R E).locals) : CallW (sx_R E) (sx_s E) (sx_a E) "SiteChoiceModel" "SiteChoiceModel" 111 y_Mo_canGo c_Mo_canGo 5 (some .boolean) w_Mo_canGo rm rm.cells rm.slots 2 := cwV 2 C.2.2.2.2.1 gv_Mo_111 rfl rfl rfl (by decide +kernel) hR
set_option maxRecDepth 100000 in
theorem gv_Mo_114 : GoodIn g_tbl (wsV "SiteChoiceModel" 114 "SiteChoiceModel" y_Mo_fits w_Mo_fits) := gi_ (List.forall_mem_append.mpr ⟨List.forall_mem_cons.mpr ⟨tb_ 684 (by decide +kernel) rfl, List.forall_mem_cons.mpr ⟨tb_ 686 (by decide +kernel) rfl, List.forall_mem_cons.mpr ⟨List.mem_filter.mpr ⟨List.mem_append_left _ (by decide +kernel), rfl⟩, List.forall_mem_cons.mpr ⟨tb_ 7 (by decide +kernel) rfl, fun _ h => absurd h List.not_mem_nil⟩⟩⟩⟩, u_Mo_fits⟩)
set_option maxRecDepth 100000 in
theorem cv_Mo_114 (E : sx_E) {cc : ByteArray} (C : sx_C SC g_tbl "SiteChoiceModel" cc E) (rm : Room) (hR : rm.frames + 1 ≤ (sx_R E).frames ∧ 8 + (7 + 11) + rm.locals ≤ (sx_R E).locals) : CallW (sx_R E) (sx_s E) (sx_a E) "SiteChoiceModel" "SiteChoiceModel" 114 y_Mo_fits c_Mo_fits 7 (some .boolean) w_Mo_fits rm rm.cells rm.slots 2 := cwV 2 C.2.2.2.2.1 gv_Mo_114 rfl rfl rfl (by decide +kernel) hR
set_option maxRecDepth 100000 in
theorem gv_Mo_118 : GoodIn g_tbl (wsV "SiteChoiceModel" 118 "SiteChoiceModel" y_Mo_placesOf w_Mo_placesOf) := gi_ (List.forall_mem_append.mpr ⟨List.forall_mem_cons.mpr ⟨tb_ 688 (by decide +kernel) rfl, List.forall_mem_cons.mpr ⟨tb_ 690 (by decide +kernel) rfl, List.forall_mem_cons.mpr ⟨List.mem_filter.mpr ⟨List.mem_append_left _ (by decide +kernel), rfl⟩, List.forall_mem_cons.mpr ⟨tb_ 7 (by decide +kernel) rfl, fun _ h => absurd h List.not_mem_nil⟩⟩⟩⟩, u_Mo_placesOf⟩)
set_option maxRecDepth 100000 in
theorem cv_Mo_118 (E : sx_E) {cc : ByteArray} (C : sx_C SC g_tbl "SiteChoiceModel" cc E) (rm : Room) (hR : rm.frames + 1 ≤ (sx_R E).frames ∧ 8 + (4 + 11) + rm.locals ≤ (sx_R E).locals) : CallW (sx_R E) (sx_s E) (sx_a E) "SiteChoiceModel" "SiteChoiceModel" 118 y_Mo_placesOf c_Mo_placesOf 4 (some .int) w_Mo_placesOf rm rm.cells rm.slots 1 := cwV 1 C.2.2.2.2.1 gv_Mo_118 rfl rfl rfl (by decide +kernel) hR
set_option maxRecDepth 100000 in
theorem gv_Mo_122 : GoodIn g_tbl (wsV "SiteChoiceModel" 122 "SiteChoiceModel" y_Mo_mayBeOpen w_Mo_mayBeOpen) := gi_ (List.forall_mem_append.mpr ⟨List.forall_mem_cons.mpr ⟨tb_ 692 (by decide +kernel) rfl, List.forall_mem_cons.mpr ⟨tb_ 694 (by decide +kernel) rfl, List.forall_mem_cons.mpr ⟨List.mem_filter.mpr ⟨List.mem_append_left _ (by decide +kernel), rfl⟩, List.forall_mem_cons.mpr ⟨tb_ 7 (by decide +kernel) rfl, fun _ h => absurd h List.not_mem_nil⟩⟩⟩⟩, u_Mo_mayBeOpen⟩)
set_option maxRecDepth 100000 in
theorem cv_Mo_122 (E : sx_E) {cc : ByteArray} (C : sx_C SC g_tbl "SiteChoiceModel" cc E) (rm : Room) (hR : rm.frames + 1 ≤ (sx_R E).frames ∧ 8 + (11 + 11) + rm.locals ≤ (sx_R E).locals) : CallW (sx_R E) (sx_s E) (sx_a E) "SiteChoiceModel" "SiteChoiceModel" 122 y_Mo_mayBeOpen c_Mo_mayBeOpen 11 (some .boolean) w_Mo_mayBeOpen rm rm.cells rm.slots 2 := cwV 2 C.2.2.2.2.1 gv_Mo_122 rfl rfl rfl (by decide +kernel) hR
set_option maxRecDepth 100000 in
theorem gv_Mo_125 : GoodIn g_tbl (wsV "SiteChoiceModel" 125 "SiteChoiceModel" y_Mo_count w_Mo_count) := gi_ (List.forall_mem_append.mpr ⟨List.forall_mem_cons.mpr ⟨tb_ 676 (by decide +kernel) rfl, List.forall_mem_cons.mpr ⟨tb_ 678 (by decide +kernel) rfl, List.forall_mem_cons.mpr ⟨List.mem_filter.mpr ⟨List.mem_append_left _ (by decide +kernel), rfl⟩, List.forall_mem_cons.mpr ⟨tb_ 7 (by decide +kernel) rfl, fun _ h => absurd h List.not_mem_nil⟩⟩⟩⟩, u_Mo_count⟩)
set_option maxRecDepth 100000 in
theorem cv_Mo_125 (E : sx_E) {cc : ByteArray} (C : sx_C SC g_tbl "SiteChoiceModel" cc E) (rm : Room) (hR : rm.frames + 1 ≤ (sx_R E).frames ∧ 8 + (3 + 11) + rm.locals ≤ (sx_R E).locals) : CallW (sx_R E) (sx_s E) (sx_a E) "SiteChoiceModel" "SiteChoiceModel" 125 y_Mo_count c_Mo_count 3 (some .int) w_Mo_count rm rm.cells rm.slots 0 := cwV 0 C.2.2.2.2.1 gv_Mo_125 rfl rfl rfl (by decide +kernel) hR
set_option maxRecDepth 100000 in
theorem gv_Mo_129 : GoodIn g_tbl (wsV "SiteChoiceModel" 129 "SiteChoiceModel" y_Mo_isPlan w_Mo_isPlan) := gi_ (List.forall_mem_append.mpr ⟨List.forall_mem_cons.mpr ⟨tb_ 680 (by decide +kernel) rfl, List.forall_mem_cons.mpr ⟨tb_ 682 (by decide +kernel) rfl, List.forall_mem_cons.mpr ⟨List.mem_filter.mpr ⟨List.mem_append_left _ (by decide +kernel), rfl⟩, List.forall_mem_cons.mpr ⟨tb_ 7 (by decide +kernel) rfl, fun _ h => absurd h List.not_mem_nil⟩⟩⟩⟩, u_Mo_isPlan⟩)
set_option maxRecDepth 100000 in
theorem cv_Mo_129 (E : sx_E) {cc : ByteArray} (C : sx_C SC g_tbl "SiteChoiceModel" cc E) (rm : Room) (hR : rm.frames + 1 ≤ (sx_R E).frames ∧ 8 + (4 + 11) + rm.locals ≤ (sx_R E).locals) : CallW (sx_R E) (sx_s E) (sx_a E) "SiteChoiceModel" "SiteChoiceModel" 129 y_Mo_isPlan c_Mo_isPlan 4 (some .boolean) w_Mo_isPlan rm rm.cells rm.slots 2 := cwV 2 C.2.2.2.2.1 gv_Mo_129 rfl rfl rfl (by decide +kernel) hR
set_option maxRecDepth 100000 in
theorem gv_Mo_132 : GoodIn g_tbl (wsV "SiteChoiceModel" 132 "SiteChoiceModel" y_Mo_sumOf w_Mo_sumOf) := gi_ (List.forall_mem_append.mpr ⟨List.forall_mem_cons.mpr ⟨tb_ 696 (by decide +kernel) rfl, List.forall_mem_cons.mpr ⟨tb_ 698 (by decide +kernel) rfl, List.forall_mem_cons.mpr ⟨List.mem_filter.mpr ⟨List.mem_append_left _ (by decide +kernel), rfl⟩, List.forall_mem_cons.mpr ⟨tb_ 7 (by decide +kernel) rfl, fun _ h => absurd h List.not_mem_nil⟩⟩⟩⟩, u_Mo_sumOf⟩)
set_option maxRecDepth 100000 in
theorem cv_Mo_132 (E : sx_E) {cc : ByteArray} (C : sx_C SC g_tbl "SiteChoiceModel" cc E) (rm : Room) (hR : rm.frames + 1 ≤ (sx_R E).frames ∧ 8 + (5 + 11) + rm.locals ≤ (sx_R E).locals) : CallW (sx_R E) (sx_s E) (sx_a E) "SiteChoiceModel" "SiteChoiceModel" 132 y_Mo_sumOf c_Mo_sumOf 5 (some .long) w_Mo_sumOf rm rm.cells rm.slots 1 := cwV 1 C.2.2.2.2.1 gv_Mo_132 rfl rfl rfl (by decide +kernel) hR
set_option maxRecDepth 100000 in
theorem gv_Mo_136 : GoodIn g_tbl (wsV "SiteChoiceModel" 136 "SiteChoiceModel" y_Mo_next w_Mo_next) := gi_ (List.forall_mem_append.mpr ⟨List.forall_mem_cons.mpr ⟨tb_ 700 (by decide +kernel) rfl, List.forall_mem_cons.mpr ⟨tb_ 702 (by decide +kernel) rfl, List.forall_mem_cons.mpr ⟨List.mem_filter.mpr ⟨List.mem_append_left _ (by decide +kernel), rfl⟩, List.forall_mem_cons.mpr ⟨tb_ 7 (by decide +kernel) rfl, fun _ h => absurd h List.not_mem_nil⟩⟩⟩⟩, u_Mo_next⟩)
set_option maxRecDepth 100000 in
theorem cv_Mo_136 (E : sx_E) {cc : ByteArray} (C : sx_C SC g_tbl "SiteChoiceModel" cc E) (rm : Room) (hR : rm.frames + 1 ≤ (sx_R E).frames ∧ 8 + (2 + 11) + rm.locals ≤ (sx_R E).locals) : CallW (sx_R E) (sx_s E) (sx_a E) "SiteChoiceModel" "SiteChoiceModel" 136 y_Mo_next c_Mo_next 2 (some .boolean) w_Mo_next rm rm.cells rm.slots 0 := cwV 0 C.2.2.2.2.1 gv_Mo_136 rfl rfl rfl (by decide +kernel) hR
set_option maxRecDepth 100000 in
theorem gv_Mo_143 : GoodIn g_tbl (wsV "SiteChoiceModel" 143 "SiteChoiceModel" y_Mo_all w_Mo_all) := gi_ (List.forall_mem_append.mpr ⟨List.forall_mem_cons.mpr ⟨tb_ 660 (by decide +kernel) rfl, List.forall_mem_cons.mpr ⟨tb_ 662 (by decide +kernel) rfl, List.forall_mem_cons.mpr ⟨List.mem_filter.mpr ⟨List.mem_append_left _ (by decide +kernel), rfl⟩, List.forall_mem_cons.mpr ⟨tb_ 7 (by decide +kernel) rfl, fun _ h => absurd h List.not_mem_nil⟩⟩⟩⟩, u_Mo_all⟩)
set_option maxRecDepth 100000 in
theorem cv_Mo_143 (E : sx_E) {cc : ByteArray} (C : sx_C SC g_tbl "SiteChoiceModel" cc E) (rm : Room) (hR : rm.frames + 1 ≤ (sx_R E).frames ∧ 8 + (1 + 11) + rm.locals ≤ (sx_R E).locals) : CallW (sx_R E) (sx_s E) (sx_a E) "SiteChoiceModel" "SiteChoiceModel" 143 y_Mo_all c_Mo_all 1 (some .int) w_Mo_all rm rm.cells rm.slots 0 := cwV 0 C.2.2.2.2.1 gv_Mo_143 rfl rfl rfl (by decide +kernel) hR
set_option maxRecDepth 100000 in
theorem gv_Mo_146 : GoodIn g_tbl (va_wsS "SiteChoiceModel" 146 y_Mo_size w_Mo_size) := gi_ (List.forall_mem_append.mpr ⟨List.forall_mem_cons.mpr ⟨tb_ 708 (by decide +kernel) rfl, List.forall_mem_cons.mpr ⟨tb_ 709 (by decide +kernel) rfl, List.forall_mem_cons.mpr ⟨tb_ 7 (by decide +kernel) rfl, fun _ h => absurd h List.not_mem_nil⟩⟩⟩, u_Mo_size⟩)
set_option maxRecDepth 100000 in
theorem cv_Mo_146 (E : sx_E) {cc : ByteArray} (C : sx_C SC g_tbl "SiteChoiceModel" cc E) (rm : Room) (hR : rm.frames + 1 ≤ (sx_R E).frames ∧ 8 + (3 + 11) + rm.locals ≤ (sx_R E).locals) : CallB (sx_R E) (sx_s E) (sx_a E) "SiteChoiceModel" 146 y_Mo_size c_Mo_size 3 (some .int) w_Mo_size rm rm.cells rm.slots 1 ∧ (Cond.static y_Mo_size).before (sx_a E) (sx_s E) = true := va_cwS 1 C.2.2.2.2.1 gv_Mo_146 rfl rfl rfl (by decide +kernel) hR
set_option maxRecDepth 100000 in
theorem gv_Mo_150 : GoodIn g_tbl (va_wsS "SiteChoiceModel" 150 y_Mo_isBefore w_Mo_isBefore) := gi_ (List.forall_mem_append.mpr ⟨List.forall_mem_cons.mpr ⟨tb_ 711 (by decide +kernel) rfl, List.forall_mem_cons.mpr ⟨tb_ 712 (by decide +kernel) rfl, List.forall_mem_cons.mpr ⟨tb_ 7 (by decide +kernel) rfl, fun _ h => absurd h List.not_mem_nil⟩⟩⟩, u_Mo_isBefore⟩)
set_option maxRecDepth 100000 in
theorem cv_Mo_150 (E : sx_E) {cc : ByteArray} (C : sx_C SC g_tbl "SiteChoiceModel" cc E) (rm : Room) (hR : rm.frames + 1 ≤ (sx_R E).frames ∧ 8 + (3 + 11) + rm.locals ≤ (sx_R E).locals) : CallB (sx_R E) (sx_s E) (sx_a E) "SiteChoiceModel" 150 y_Mo_isBefore c_Mo_isBefore 3 (some .boolean) w_Mo_isBefore rm rm.cells rm.slots 2 ∧ (Cond.static y_Mo_isBefore).before (sx_a E) (sx_s E) = true := va_cwS 2 C.2.2.2.2.1 gv_Mo_150 rfl rfl rfl (by decide +kernel) hR
set_option maxRecDepth 100000 in
theorem gv_Mo_153 : GoodIn g_tbl (wsV "SiteChoiceModel" 153 "SiteChoiceModel" y_Mo_askFor w_Mo_askFor) := gi_ (List.forall_mem_append.mpr ⟨List.forall_mem_cons.mpr ⟨tb_ 664 (by decide +kernel) rfl, List.forall_mem_cons.mpr ⟨tb_ 666 (by decide +kernel) rfl, List.forall_mem_cons.mpr ⟨List.mem_filter.mpr ⟨List.mem_append_left _ (by decide +kernel), rfl⟩, List.forall_mem_cons.mpr ⟨tb_ 7 (by decide +kernel) rfl, fun _ h => absurd h List.not_mem_nil⟩⟩⟩⟩, u_Mo_askFor⟩)
set_option maxRecDepth 100000 in
theorem cv_Mo_153 (E : sx_E) {cc : ByteArray} (C : sx_C SC g_tbl "SiteChoiceModel" cc E) (rm : Room) (hR : rm.frames + 1 ≤ (sx_R E).frames ∧ 8 + (5 + 11) + rm.locals ≤ (sx_R E).locals) : CallW (sx_R E) (sx_s E) (sx_a E) "SiteChoiceModel" "SiteChoiceModel" 153 y_Mo_askFor c_Mo_askFor 5 none w_Mo_askFor rm rm.cells rm.slots 2 := cwV 2 C.2.2.2.2.1 gv_Mo_153 rfl rfl rfl (by decide +kernel) hR
set_option maxRecDepth 100000 in
theorem gv_Mo_157 : GoodIn g_tbl (wsV "SiteChoiceModel" 157 "SiteChoiceModel" y_Mo_search w_Mo_search) := gi_ (List.forall_mem_append.mpr ⟨List.forall_mem_cons.mpr ⟨tb_ 672 (by decide +kernel) rfl, List.forall_mem_cons.mpr ⟨tb_ 674 (by decide +kernel) rfl, List.forall_mem_cons.mpr ⟨List.mem_filter.mpr ⟨List.mem_append_left _ (by decide +kernel), rfl⟩, List.forall_mem_cons.mpr ⟨tb_ 7 (by decide +kernel) rfl, fun _ h => absurd h List.not_mem_nil⟩⟩⟩⟩, u_Mo_search⟩)
set_option maxRecDepth 100000 in
theorem cv_Mo_157 (E : sx_E) {cc : ByteArray} (C : sx_C SC g_tbl "SiteChoiceModel" cc E) (rm : Room) (hR : rm.frames + 1 ≤ (sx_R E).frames ∧ 8 + (9 + 11) + rm.locals ≤ (sx_R E).locals) : CallW (sx_R E) (sx_s E) (sx_a E) "SiteChoiceModel" "SiteChoiceModel" 157 y_Mo_search c_Mo_search 9 (some .long) w_Mo_search rm rm.cells rm.slots 2 := cwV 2 C.2.2.2.2.1 gv_Mo_157 rfl rfl rfl (by decide +kernel) hR
set_option maxRecDepth 100000 in
theorem gv_Mo_164 : GoodIn g_tbl (wsV "SiteChoiceModel" 164 "SiteChoiceModel" y_Mo_ways w_Mo_ways) := gi_ (List.forall_mem_append.mpr ⟨List.forall_mem_cons.mpr ⟨tb_ 659 (by decide +kernel) rfl, List.forall_mem_cons.mpr ⟨tb_ 648 (by decide +kernel) rfl, List.forall_mem_cons.mpr ⟨tb_ 649 (by decide +kernel) rfl, List.forall_mem_cons.mpr ⟨tb_ 7 (by decide +kernel) rfl, fun _ h => absurd h List.not_mem_nil⟩⟩⟩⟩, u_Mo_ways⟩)
set_option maxRecDepth 100000 in
theorem cv_Mo_164 (E : sx_E) {cc : ByteArray} (C : sx_C SC g_tbl "SiteChoiceModel" cc E) (rm : Room) (hR : rm.frames + 1 ≤ (sx_R E).frames ∧ 8 + (7 + 11) + rm.locals ≤ (sx_R E).locals) : CallW (sx_R E) (sx_s E) (sx_a E) "SiteChoiceModel" "SiteChoiceModel" 164 y_Mo_ways c_Mo_ways 7 (some .long) w_Mo_ways rm rm.cells rm.slots 0 := cwV 0 C.2.2.2.2.1 gv_Mo_164 rfl rfl rfl (by decide +kernel) hR
set_option maxRecDepth 100000 in
theorem gv_Mo_168 : GoodIn g_tbl (wsV "SiteChoiceModel" 168 "SiteChoiceModel" y_Mo_findClash w_Mo_findClash) := gi_ (List.forall_mem_append.mpr ⟨List.forall_mem_cons.mpr ⟨tb_ 704 (by decide +kernel) rfl, List.forall_mem_cons.mpr ⟨tb_ 706 (by decide +kernel) rfl, List.forall_mem_cons.mpr ⟨List.mem_filter.mpr ⟨List.mem_append_left _ (by decide +kernel), rfl⟩, List.forall_mem_cons.mpr ⟨tb_ 7 (by decide +kernel) rfl, fun _ h => absurd h List.not_mem_nil⟩⟩⟩⟩, u_Mo_findClash⟩)
set_option maxRecDepth 100000 in
theorem cv_Mo_168 (E : sx_E) {cc : ByteArray} (C : sx_C SC g_tbl "SiteChoiceModel" cc E) (rm : Room) (hR : rm.frames + 1 ≤ (sx_R E).frames ∧ 8 + (3 + 11) + rm.locals ≤ (sx_R E).locals) : CallW (sx_R E) (sx_s E) (sx_a E) "SiteChoiceModel" "SiteChoiceModel" 168 y_Mo_findClash c_Mo_findClash 3 none w_Mo_findClash rm rm.cells rm.slots 0 := cwV 0 C.2.2.2.2.1 gv_Mo_168 rfl rfl rfl (by decide +kernel) hR
set_option maxRecDepth 100000 in
theorem gv_Mo_174 : GoodIn g_tbl (wsV "SiteChoiceModel" 174 "SiteChoiceModel" y_Mo_exchange w_Mo_exchange) := gi_ (List.forall_mem_append.mpr ⟨List.forall_mem_cons.mpr ⟨tb_ 746 (by decide +kernel) rfl, List.forall_mem_cons.mpr ⟨tb_ 748 (by decide +kernel) rfl, List.forall_mem_cons.mpr ⟨List.mem_filter.mpr ⟨List.mem_append_left _ (by decide +kernel), rfl⟩, List.forall_mem_cons.mpr ⟨tb_ 7 (by decide +kernel) rfl, fun _ h => absurd h List.not_mem_nil⟩⟩⟩⟩, u_Mo_exchange⟩)
set_option maxRecDepth 100000 in
theorem cv_Mo_174 (E : sx_E) {cc : ByteArray} (C : sx_C SC g_tbl "SiteChoiceModel" cc E) (rm : Room) (hR : rm.frames + 1 ≤ (sx_R E).frames ∧ 8 + (6 + 11) + rm.locals ≤ (sx_R E).locals) : CallW (sx_R E) (sx_s E) (sx_a E) "SiteChoiceModel" "SiteChoiceModel" 174 y_Mo_exchange c_Mo_exchange 6 (some .boolean) w_Mo_exchange rm rm.cells rm.slots 0 := cwV 0 C.2.2.2.2.1 gv_Mo_174 rfl rfl rfl (by decide +kernel) hR
set_option maxRecDepth 100000 in
theorem gv_Mo_179 : GoodIn g_tbl (wsV "SiteChoiceModel" 179 "SiteChoiceModel" y_Mo_reckon w_Mo_reckon) := gi_ (List.forall_mem_append.mpr ⟨List.forall_mem_cons.mpr ⟨tb_ 754 (by decide +kernel) rfl, List.forall_mem_cons.mpr ⟨tb_ 756 (by decide +kernel) rfl, List.forall_mem_cons.mpr ⟨List.mem_filter.mpr ⟨List.mem_append_left _ (by decide +kernel), rfl⟩, List.forall_mem_cons.mpr ⟨tb_ 7 (by decide +kernel) rfl, fun _ h => absurd h List.not_mem_nil⟩⟩⟩⟩, u_Mo_reckon⟩)
set_option maxRecDepth 100000 in
theorem cv_Mo_179 (E : sx_E) {cc : ByteArray} (C : sx_C SC g_tbl "SiteChoiceModel" cc E) (rm : Room) (hR : rm.frames + 1 ≤ (sx_R E).frames ∧ 8 + (8 + 11) + rm.locals ≤ (sx_R E).locals) : CallW (sx_R E) (sx_s E) (sx_a E) "SiteChoiceModel" "SiteChoiceModel" 179 y_Mo_reckon c_Mo_reckon 8 none w_Mo_reckon rm rm.cells rm.slots 1 := cwV 1 C.2.2.2.2.1 gv_Mo_179 rfl rfl rfl (by decide +kernel) hR
set_option maxRecDepth 100000 in
theorem gv_Mo_183 : GoodIn g_tbl (wsV "SiteChoiceModel" 183 "SiteChoiceModel" y_Mo_yearCost w_Mo_yearCost) := gi_ (List.forall_mem_append.mpr ⟨List.forall_mem_cons.mpr ⟨tb_ 759 (by decide +kernel) rfl, List.forall_mem_cons.mpr ⟨tb_ 761 (by decide +kernel) rfl, List.forall_mem_cons.mpr ⟨List.mem_filter.mpr ⟨List.mem_append_left _ (by decide +kernel), rfl⟩, List.forall_mem_cons.mpr ⟨tb_ 7 (by decide +kernel) rfl, fun _ h => absurd h List.not_mem_nil⟩⟩⟩⟩, u_Mo_yearCost⟩)
set_option maxRecDepth 100000 in
theorem cv_Mo_183 (E : sx_E) {cc : ByteArray} (C : sx_C SC g_tbl "SiteChoiceModel" cc E) (rm : Room) (hR : rm.frames + 1 ≤ (sx_R E).frames ∧ 8 + (7 + 11) + rm.locals ≤ (sx_R E).locals) : CallW (sx_R E) (sx_s E) (sx_a E) "SiteChoiceModel" "SiteChoiceModel" 183 y_Mo_yearCost c_Mo_yearCost 7 (some .long) w_Mo_yearCost rm rm.cells rm.slots 3 := cwV 3 C.2.2.2.2.1 gv_Mo_183 rfl rfl rfl (by decide +kernel) hR
set_option maxRecDepth 100000 in
theorem gv_Ca_27 : GoodIn g_tbl (wsV "SiteChoice$Calendar" 27 "SiteChoice$Search" y_Se_load w_Se_load) := gi_ (List.forall_mem_append.mpr ⟨List.forall_mem_cons.mpr ⟨tb_ 486 (by decide +kernel) rfl, List.forall_mem_cons.mpr ⟨tb_ 303 (by decide +kernel) rfl, List.forall_mem_cons.mpr ⟨tb_ 304 (by decide +kernel) rfl, List.forall_mem_cons.mpr ⟨tb_ 3 (by decide +kernel) rfl, fun _ h => absurd h List.not_mem_nil⟩⟩⟩⟩, u_Se_load⟩)
set_option maxRecDepth 100000 in
theorem cv_Ca_27 (E : sx_E) {cc : ByteArray} (C : sx_C SC g_tbl "SiteChoice$Calendar" cc E) (rm : Room) (hR : rm.frames + 1 ≤ (sx_R E).frames ∧ 8 + (5 + 11) + rm.locals ≤ (sx_R E).locals) : CallW (sx_R E) (sx_s E) (sx_a E) "SiteChoice$Calendar" "SiteChoice$Search" 27 y_Se_load c_Se_load 5 none w_Se_load rm rm.cells rm.slots 2 := cwV 2 C.2.2.2.2.1 gv_Ca_27 rfl rfl rfl (by decide +kernel) hR
set_option maxRecDepth 100000 in
theorem gv_Ca_38 : GoodIn g_tbl (wsV "SiteChoice$Calendar" 38 "SiteChoice$Calendar" y_Ca_reckonSums w_Ca_reckonSums) := gi_ (List.forall_mem_append.mpr ⟨List.forall_mem_cons.mpr ⟨tb_ 487 (by decide +kernel) rfl, List.forall_mem_cons.mpr ⟨tb_ 489 (by decide +kernel) rfl, List.forall_mem_cons.mpr ⟨List.mem_filter.mpr ⟨List.mem_append_left _ (by decide +kernel), rfl⟩, List.forall_mem_cons.mpr ⟨tb_ 6 (by decide +kernel) rfl, fun _ h => absurd h List.not_mem_nil⟩⟩⟩⟩, u_Ca_reckonSums⟩)
set_option maxRecDepth 100000 in
theorem cv_Ca_38 (E : sx_E) {cc : ByteArray} (C : sx_C SC g_tbl "SiteChoice$Calendar" cc E) (rm : Room) (hR : rm.frames + 1 ≤ (sx_R E).frames ∧ 8 + (7 + 11) + rm.locals ≤ (sx_R E).locals) : CallW (sx_R E) (sx_s E) (sx_a E) "SiteChoice$Calendar" "SiteChoice$Calendar" 38 y_Ca_reckonSums c_Ca_reckonSums 7 none w_Ca_reckonSums rm rm.cells rm.slots 4 := cwV 4 C.2.2.2.2.1 gv_Ca_38 rfl rfl rfl (by decide +kernel) hR
set_option maxRecDepth 100000 in
theorem gv_Ca_42 : GoodIn g_tbl (wsV "SiteChoice$Calendar" 42 "SiteChoice$Calendar" y_Ca_reckonOnward w_Ca_reckonOnward) := gi_ (List.forall_mem_append.mpr ⟨List.forall_mem_cons.mpr ⟨tb_ 494 (by decide +kernel) rfl, List.forall_mem_cons.mpr ⟨tb_ 496 (by decide +kernel) rfl, List.forall_mem_cons.mpr ⟨List.mem_filter.mpr ⟨List.mem_append_left _ (by decide +kernel), rfl⟩, List.forall_mem_cons.mpr ⟨tb_ 6 (by decide +kernel) rfl, fun _ h => absurd h List.not_mem_nil⟩⟩⟩⟩, u_Ca_reckonOnward⟩)
set_option maxRecDepth 100000 in
theorem cv_Ca_42 (E : sx_E) {cc : ByteArray} (C : sx_C SC g_tbl "SiteChoice$Calendar" cc E) (rm : Room) (hR : rm.frames + 1 ≤ (sx_R E).frames ∧ 8 + (6 + 11) + rm.locals ≤ (sx_R E).locals) : CallW (sx_R E) (sx_s E) (sx_a E) "SiteChoice$Calendar" "SiteChoice$Calendar" 42 y_Ca_reckonOnward c_Ca_reckonOnward 6 none w_Ca_reckonOnward rm rm.cells rm.slots 3 := cwV 3 C.2.2.2.2.1 gv_Ca_42 rfl rfl rfl (by decide +kernel) hR
set_option maxRecDepth 100000 in
theorem gv_Ca_46 : GoodIn g_tbl (wsV "SiteChoice$Calendar" 46 "SiteChoice$Calendar" y_Ca_cheapestNext w_Ca_cheapestNext) := gi_ (List.forall_mem_append.mpr ⟨List.forall_mem_cons.mpr ⟨tb_ 502 (by decide +kernel) rfl, List.forall_mem_cons.mpr ⟨tb_ 504 (by decide +kernel) rfl, List.forall_mem_cons.mpr ⟨List.mem_filter.mpr ⟨List.mem_append_left _ (by decide +kernel), rfl⟩, List.forall_mem_cons.mpr ⟨tb_ 6 (by decide +kernel) rfl, fun _ h => absurd h List.not_mem_nil⟩⟩⟩⟩, u_Ca_cheapestNext⟩)
set_option maxRecDepth 100000 in
theorem cv_Ca_46 (E : sx_E) {cc : ByteArray} (C : sx_C SC g_tbl "SiteChoice$Calendar" cc E) (rm : Room) (hR : rm.frames + 1 ≤ (sx_R E).frames ∧ 8 + (11 + 11) + rm.locals ≤ (sx_R E).locals) : CallW (sx_R E) (sx_s E) (sx_a E) "SiteChoice$Calendar" "SiteChoice$Calendar" 46 y_Ca_cheapestNext c_Ca_cheapestNext 11 (some .int) w_Ca_cheapestNext rm rm.cells rm.slots 4 := cwV 4 C.2.2.2.2.1 gv_Ca_46 rfl rfl rfl (by decide +kernel) hR
set_option maxRecDepth 100000 in
theorem gv_Ca_52 : GoodIn g_tbl (wsV "SiteChoice$Calendar" 52 "SiteChoice$Calendar" y_Ca_hold w_Ca_hold) := gi_ (List.forall_mem_append.mpr ⟨List.forall_mem_cons.mpr ⟨tb_ 506 (by decide +kernel) rfl, List.forall_mem_cons.mpr ⟨tb_ 508 (by decide +kernel) rfl, List.forall_mem_cons.mpr ⟨List.mem_filter.mpr ⟨List.mem_append_left _ (by decide +kernel), rfl⟩, List.forall_mem_cons.mpr ⟨tb_ 6 (by decide +kernel) rfl, fun _ h => absurd h List.not_mem_nil⟩⟩⟩⟩, u_Ca_hold⟩)
set_option maxRecDepth 100000 in
theorem cv_Ca_52 (E : sx_E) {cc : ByteArray} (C : sx_C SC g_tbl "SiteChoice$Calendar" cc E) (rm : Room) (hR : rm.frames + 1 ≤ (sx_R E).frames ∧ 8 + (7 + 11) + rm.locals ≤ (sx_R E).locals) : CallW (sx_R E) (sx_s E) (sx_a E) "SiteChoice$Calendar" "SiteChoice$Calendar" 52 y_Ca_hold c_Ca_hold 7 none w_Ca_hold rm rm.cells rm.slots 3 := cwV 3 C.2.2.2.2.1 gv_Ca_52 rfl rfl rfl (by decide +kernel) hR
set_option maxRecDepth 100000 in
theorem gv_Ca_59 : GoodIn g_tbl (wsV "SiteChoice$Calendar" 59 "SiteChoice$Search" y_Se_loadNeedsOfYear w_Se_loadNeedsOfYear) := gi_ (List.forall_mem_append.mpr ⟨List.forall_mem_cons.mpr ⟨tb_ 491 (by decide +kernel) rfl, List.forall_mem_cons.mpr ⟨tb_ 307 (by decide +kernel) rfl, List.forall_mem_cons.mpr ⟨tb_ 308 (by decide +kernel) rfl, List.forall_mem_cons.mpr ⟨tb_ 3 (by decide +kernel) rfl, fun _ h => absurd h List.not_mem_nil⟩⟩⟩⟩, u_Se_loadNeedsOfYear⟩)
set_option maxRecDepth 100000 in
theorem cv_Ca_59 (E : sx_E) {cc : ByteArray} (C : sx_C SC g_tbl "SiteChoice$Calendar" cc E) (rm : Room) (hR : rm.frames + 1 ≤ (sx_R E).frames ∧ 8 + (4 + 11) + rm.locals ≤ (sx_R E).locals) : CallW (sx_R E) (sx_s E) (sx_a E) "SiteChoice$Calendar" "SiteChoice$Search" 59 y_Se_loadNeedsOfYear c_Se_loadNeedsOfYear 4 none w_Se_loadNeedsOfYear rm rm.cells rm.slots 2 := cwV 2 C.2.2.2.2.1 gv_Ca_59 rfl rfl rfl (by decide +kernel) hR
set_option maxRecDepth 100000 in
theorem gv_Ca_66 : GoodIn g_tbl (wsV "SiteChoice$Calendar" 66 "SiteChoice$Search" y_Se_leastSum w_Se_leastSum) := gi_ (List.forall_mem_append.mpr ⟨List.forall_mem_cons.mpr ⟨tb_ 492 (by decide +kernel) rfl, List.forall_mem_cons.mpr ⟨tb_ 328 (by decide +kernel) rfl, List.forall_mem_cons.mpr ⟨tb_ 329 (by decide +kernel) rfl, List.forall_mem_cons.mpr ⟨tb_ 3 (by decide +kernel) rfl, fun _ h => absurd h List.not_mem_nil⟩⟩⟩⟩, u_Se_leastSum⟩)
set_option maxRecDepth 100000 in
theorem cv_Ca_66 (E : sx_E) {cc : ByteArray} (C : sx_C SC g_tbl "SiteChoice$Calendar" cc E) (rm : Room) (hR : rm.frames + 1 ≤ (sx_R E).frames ∧ 8 + (2 + 11) + rm.locals ≤ (sx_R E).locals) : CallW (sx_R E) (sx_s E) (sx_a E) "SiteChoice$Calendar" "SiteChoice$Search" 66 y_Se_leastSum c_Se_leastSum 2 (some .long) w_Se_leastSum rm rm.cells rm.slots 1 := cwV 1 C.2.2.2.2.1 gv_Ca_66 rfl rfl rfl (by decide +kernel) hR
set_option maxRecDepth 100000 in
theorem gv_Ca_70 : GoodIn g_tbl (wsV "SiteChoice$Calendar" 70 "SiteChoice$Calendar" y_Ca_withNext w_Ca_withNext) := gi_ (List.forall_mem_append.mpr ⟨List.forall_mem_cons.mpr ⟨tb_ 498 (by decide +kernel) rfl, List.forall_mem_cons.mpr ⟨tb_ 500 (by decide +kernel) rfl, List.forall_mem_cons.mpr ⟨List.mem_filter.mpr ⟨List.mem_append_left _ (by decide +kernel), rfl⟩, List.forall_mem_cons.mpr ⟨tb_ 6 (by decide +kernel) rfl, fun _ h => absurd h List.not_mem_nil⟩⟩⟩⟩, u_Ca_withNext⟩)
set_option maxRecDepth 100000 in
theorem cv_Ca_70 (E : sx_E) {cc : ByteArray} (C : sx_C SC g_tbl "SiteChoice$Calendar" cc E) (rm : Room) (hR : rm.frames + 1 ≤ (sx_R E).frames ∧ 8 + (6 + 11) + rm.locals ≤ (sx_R E).locals) : CallW (sx_R E) (sx_s E) (sx_a E) "SiteChoice$Calendar" "SiteChoice$Calendar" 70 y_Ca_withNext c_Ca_withNext 6 (some .long) w_Ca_withNext rm rm.cells rm.slots 4 := cwV 4 C.2.2.2.2.1 gv_Ca_70 rfl rfl rfl (by decide +kernel) hR
set_option maxRecDepth 100000 in
theorem gv_He_29 : GoodIn g_tbl (wsV "SiteChoice$HeldPlan" 29 "SiteChoice$HeldPlan" y_He_placeFor w_He_placeFor) := gi_ (List.forall_mem_append.mpr ⟨List.forall_mem_cons.mpr ⟨tb_ 414 (by decide +kernel) rfl, List.forall_mem_cons.mpr ⟨tb_ 415 (by decide +kernel) rfl, List.forall_mem_cons.mpr ⟨tb_ 416 (by decide +kernel) rfl, List.forall_mem_cons.mpr ⟨tb_ 4 (by decide +kernel) rfl, fun _ h => absurd h List.not_mem_nil⟩⟩⟩⟩, u_He_placeFor⟩)
set_option maxRecDepth 100000 in
theorem cv_He_29 (E : sx_E) {cc : ByteArray} (C : sx_C SC g_tbl "SiteChoice$HeldPlan" cc E) (rm : Room) (hR : rm.frames + 1 ≤ (sx_R E).frames ∧ 8 + (2 + 11) + rm.locals ≤ (sx_R E).locals) : CallW (sx_R E) (sx_s E) (sx_a E) "SiteChoice$HeldPlan" "SiteChoice$HeldPlan" 29 y_He_placeFor c_He_placeFor 2 (some .int) w_He_placeFor rm rm.cells rm.slots 1 := cwV 1 C.2.2.2.2.1 gv_He_29 rfl rfl rfl (by decide +kernel) hR
set_option maxRecDepth 100000 in
theorem gv_He_39 : GoodIn g_tbl (wsV "SiteChoice$HeldPlan" 39 "SiteChoice$Town" y_To_hasPlace w_To_hasPlace) := gi_ (List.forall_mem_append.mpr ⟨List.forall_mem_cons.mpr ⟨tb_ 467 (by decide +kernel) rfl, List.forall_mem_cons.mpr ⟨tb_ 250 (by decide +kernel) rfl, List.forall_mem_cons.mpr ⟨tb_ 251 (by decide +kernel) rfl, List.forall_mem_cons.mpr ⟨tb_ 2 (by decide +kernel) rfl, fun _ h => absurd h List.not_mem_nil⟩⟩⟩⟩, u_To_hasPlace⟩)
set_option maxRecDepth 100000 in
theorem cv_He_39 (E : sx_E) {cc : ByteArray} (C : sx_C SC g_tbl "SiteChoice$HeldPlan" cc E) (rm : Room) (hR : rm.frames + 1 ≤ (sx_R E).frames ∧ 8 + (2 + 11) + rm.locals ≤ (sx_R E).locals) : CallW (sx_R E) (sx_s E) (sx_a E) "SiteChoice$HeldPlan" "SiteChoice$Town" 39 y_To_hasPlace c_To_hasPlace 2 (some .boolean) w_To_hasPlace rm rm.cells rm.slots 1 := cwV 1 C.2.2.2.2.1 gv_He_39 rfl rfl rfl (by decide +kernel) hR
set_option maxRecDepth 100000 in
theorem gv_He_54 : GoodIn g_tbl (wsV "SiteChoice$HeldPlan" 54 "SiteChoice$HeldPlan" y_He_exchange w_He_exchange) := gi_ (List.forall_mem_append.mpr ⟨List.forall_mem_cons.mpr ⟨tb_ 462 (by decide +kernel) rfl, List.forall_mem_cons.mpr ⟨tb_ 464 (by decide +kernel) rfl, List.forall_mem_cons.mpr ⟨List.mem_filter.mpr ⟨List.mem_append_left _ (by decide +kernel), rfl⟩, List.forall_mem_cons.mpr ⟨tb_ 4 (by decide +kernel) rfl, fun _ h => absurd h List.not_mem_nil⟩⟩⟩⟩, u_He_exchange⟩)
set_option maxRecDepth 100000 in
theorem cv_He_54 (E : sx_E) {cc : ByteArray} (C : sx_C SC g_tbl "SiteChoice$HeldPlan" cc E) (rm : Room) (hR : rm.frames + 1 ≤ (sx_R E).frames ∧ 8 + (8 + 11) + rm.locals ≤ (sx_R E).locals) : CallW (sx_R E) (sx_s E) (sx_a E) "SiteChoice$HeldPlan" "SiteChoice$HeldPlan" 54 y_He_exchange c_He_exchange 8 (some .boolean) w_He_exchange rm rm.cells rm.slots 4 := cwV 4 C.2.2.2.2.1 gv_He_54 rfl rfl rfl (by decide +kernel) hR
set_option maxRecDepth 100000 in
theorem gv_He_58 : GoodIn g_tbl (wsV "SiteChoice$HeldPlan" 58 "SiteChoice$Town" y_To_reach w_To_reach) := gi_ (List.forall_mem_append.mpr ⟨List.forall_mem_cons.mpr ⟨tb_ 466 (by decide +kernel) rfl, List.forall_mem_cons.mpr ⟨tb_ 285 (by decide +kernel) rfl, List.forall_mem_cons.mpr ⟨tb_ 286 (by decide +kernel) rfl, List.forall_mem_cons.mpr ⟨tb_ 2 (by decide +kernel) rfl, fun _ h => absurd h List.not_mem_nil⟩⟩⟩⟩, u_To_reach⟩)
set_option maxRecDepth 100000 in
theorem cv_He_58 (E : sx_E) {cc : ByteArray} (C : sx_C SC g_tbl "SiteChoice$HeldPlan" cc E) (rm : Room) (hR : rm.frames + 1 ≤ (sx_R E).frames ∧ 8 + (5 + 11) + rm.locals ≤ (sx_R E).locals) : CallW (sx_R E) (sx_s E) (sx_a E) "SiteChoice$HeldPlan" "SiteChoice$Town" 58 y_To_reach c_To_reach 5 (some .long) w_To_reach rm rm.cells rm.slots 2 := cwV 2 C.2.2.2.2.1 gv_He_58 rfl rfl rfl (by decide +kernel) hR
set_option maxRecDepth 100000 in
theorem gv_He_64 : GoodIn g_tbl (wsV "SiteChoice$HeldPlan" 64 "SiteChoice$Search" y_Se_isPlan w_Se_isPlan) := gi_ (List.forall_mem_append.mpr ⟨List.forall_mem_cons.mpr ⟨tb_ 469 (by decide +kernel) rfl, List.forall_mem_cons.mpr ⟨tb_ 470 (by decide +kernel) rfl, List.forall_mem_cons.mpr ⟨tb_ 471 (by decide +kernel) rfl, List.forall_mem_cons.mpr ⟨tb_ 3 (by decide +kernel) rfl, fun _ h => absurd h List.not_mem_nil⟩⟩⟩⟩, u_Se_isPlan⟩)
set_option maxRecDepth 100000 in
theorem cv_He_64 (E : sx_E) {cc : ByteArray} (C : sx_C SC g_tbl "SiteChoice$HeldPlan" cc E) (rm : Room) (hR : rm.frames + 1 ≤ (sx_R E).frames ∧ 8 + (5 + 11) + rm.locals ≤ (sx_R E).locals) : CallW (sx_R E) (sx_s E) (sx_a E) "SiteChoice$HeldPlan" "SiteChoice$Search" 64 y_Se_isPlan c_Se_isPlan 5 (some .boolean) w_Se_isPlan rm rm.cells rm.slots 1 := cwV 1 C.2.2.2.2.1 gv_He_64 rfl rfl rfl (by decide +kernel) hR
set_option maxRecDepth 100000 in
theorem gv_Se_67 : GoodIn g_tbl (wsV "SiteChoice$Search" 67 "SiteChoice$Search" y_Se_loadNeedsOfYear w_Se_loadNeedsOfYear) := gi_ (List.forall_mem_append.mpr ⟨List.forall_mem_cons.mpr ⟨tb_ 306 (by decide +kernel) rfl, List.forall_mem_cons.mpr ⟨tb_ 307 (by decide +kernel) rfl, List.forall_mem_cons.mpr ⟨tb_ 308 (by decide +kernel) rfl, List.forall_mem_cons.mpr ⟨tb_ 3 (by decide +kernel) rfl, fun _ h => absurd h List.not_mem_nil⟩⟩⟩⟩, u_Se_loadNeedsOfYear⟩)
set_option maxRecDepth 100000 in
theorem cv_Se_67 (E : sx_E) {cc : ByteArray} (C : sx_C SC g_tbl "SiteChoice$Search" cc E) (rm : Room) (hR : rm.frames + 1 ≤ (sx_R E).frames ∧ 8 + (4 + 11) + rm.locals ≤ (sx_R E).locals) : CallW (sx_R E) (sx_s E) (sx_a E) "SiteChoice$Search" "SiteChoice$Search" 67 y_Se_loadNeedsOfYear c_Se_loadNeedsOfYear 4 none w_Se_loadNeedsOfYear rm rm.cells rm.slots 2 := cwV 2 C.2.2.2.2.1 gv_Se_67 rfl rfl rfl (by decide +kernel) hR
set_option maxRecDepth 100000 in
theorem gv_Se_74 : GoodIn g_tbl (wsV "SiteChoice$Search" 74 "SiteChoice$Town" y_To_reach w_To_reach) := gi_ (List.forall_mem_append.mpr ⟨List.forall_mem_cons.mpr ⟨tb_ 312 (by decide +kernel) rfl, List.forall_mem_cons.mpr ⟨tb_ 285 (by decide +kernel) rfl, List.forall_mem_cons.mpr ⟨tb_ 286 (by decide +kernel) rfl, List.forall_mem_cons.mpr ⟨tb_ 2 (by decide +kernel) rfl, fun _ h => absurd h List.not_mem_nil⟩⟩⟩⟩, u_To_reach⟩)
set_option maxRecDepth 100000 in
theorem cv_Se_74 (E : sx_E) {cc : ByteArray} (C : sx_C SC g_tbl "SiteChoice$Search" cc E) (rm : Room) (hR : rm.frames + 1 ≤ (sx_R E).frames ∧ 8 + (5 + 11) + rm.locals ≤ (sx_R E).locals) : CallW (sx_R E) (sx_s E) (sx_a E) "SiteChoice$Search" "SiteChoice$Town" 74 y_To_reach c_To_reach 5 (some .long) w_To_reach rm rm.cells rm.slots 2 := cwV 2 C.2.2.2.2.1 gv_Se_74 rfl rfl rfl (by decide +kernel) hR
set_option maxRecDepth 100000 in
theorem gv_Se_78 : GoodIn g_tbl (wsV "SiteChoice$Search" 78 "SiteChoice$Search" y_Se_loadSets w_Se_loadSets) := gi_ (List.forall_mem_append.mpr ⟨List.forall_mem_cons.mpr ⟨tb_ 313 (by decide +kernel) rfl, List.forall_mem_cons.mpr ⟨tb_ 315 (by decide +kernel) rfl, List.forall_mem_cons.mpr ⟨List.mem_filter.mpr ⟨List.mem_append_left _ (by decide +kernel), rfl⟩, List.forall_mem_cons.mpr ⟨tb_ 3 (by decide +kernel) rfl, fun _ h => absurd h List.not_mem_nil⟩⟩⟩⟩, u_Se_loadSets⟩)
set_option maxRecDepth 100000 in
theorem cv_Se_78 (E : sx_E) {cc : ByteArray} (C : sx_C SC g_tbl "SiteChoice$Search" cc E) (rm : Room) (hR : rm.frames + 1 ≤ (sx_R E).frames ∧ 8 + (9 + 11) + rm.locals ≤ (sx_R E).locals) : CallW (sx_R E) (sx_s E) (sx_a E) "SiteChoice$Search" "SiteChoice$Search" 78 y_Se_loadSets c_Se_loadSets 9 none w_Se_loadSets rm rm.cells rm.slots 2 := cwV 2 C.2.2.2.2.1 gv_Se_78 rfl rfl rfl (by decide +kernel) hR
set_option maxRecDepth 100000 in
theorem gv_Se_84 : GoodIn g_tbl (va_wsS "SiteChoice$Search" 84 y_Un_isIn w_Un_isIn) := gi_ (List.forall_mem_append.mpr ⟨List.forall_mem_cons.mpr ⟨tb_ 388 (by decide +kernel) rfl, List.forall_mem_cons.mpr ⟨tb_ 389 (by decide +kernel) rfl, List.forall_mem_cons.mpr ⟨tb_ 5 (by decide +kernel) rfl, fun _ h => absurd h List.not_mem_nil⟩⟩⟩, u_Un_isIn⟩)
set_option maxRecDepth 100000 in
theorem cv_Se_84 (E : sx_E) {cc : ByteArray} (C : sx_C SC g_tbl "SiteChoice$Search" cc E) (rm : Room) (hR : rm.frames + 1 ≤ (sx_R E).frames ∧ 8 + (3 + 11) + rm.locals ≤ (sx_R E).locals) : CallB (sx_R E) (sx_s E) (sx_a E) "SiteChoice$Search" 84 y_Un_isIn c_Un_isIn 3 (some .boolean) w_Un_isIn rm rm.cells rm.slots 3 ∧ (Cond.static y_Un_isIn).before (sx_a E) (sx_s E) = true := va_cwS 3 C.2.2.2.2.1 gv_Se_84 rfl rfl rfl (by decide +kernel) hR
set_option maxRecDepth 100000 in
theorem gv_Se_99 : GoodIn g_tbl (va_wsS "SiteChoice$Search" 99 y_Se_isAnyTooNear w_Se_isAnyTooNear) := gi_ (List.forall_mem_append.mpr ⟨List.forall_mem_cons.mpr ⟨tb_ 317 (by decide +kernel) rfl, List.forall_mem_cons.mpr ⟨tb_ 318 (by decide +kernel) rfl, List.forall_mem_cons.mpr ⟨tb_ 3 (by decide +kernel) rfl, fun _ h => absurd h List.not_mem_nil⟩⟩⟩, u_Se_isAnyTooNear⟩)
set_option maxRecDepth 100000 in
theorem cv_Se_99 (E : sx_E) {cc : ByteArray} (C : sx_C SC g_tbl "SiteChoice$Search" cc E) (rm : Room) (hR : rm.frames + 1 ≤ (sx_R E).frames ∧ 8 + (4 + 11) + rm.locals ≤ (sx_R E).locals) : CallB (sx_R E) (sx_s E) (sx_a E) "SiteChoice$Search" 99 y_Se_isAnyTooNear c_Se_isAnyTooNear 4 (some .boolean) w_Se_isAnyTooNear rm rm.cells rm.slots 3 ∧ (Cond.static y_Se_isAnyTooNear).before (sx_a E) (sx_s E) = true := va_cwS 3 C.2.2.2.2.1 gv_Se_99 rfl rfl rfl (by decide +kernel) hR
set_option maxRecDepth 100000 in
theorem gv_Se_103 : GoodIn g_tbl (wsV "SiteChoice$Search" 103 "SiteChoice$Town" y_To_isTooNear w_To_isTooNear) := gi_ (List.forall_mem_append.mpr ⟨List.forall_mem_cons.mpr ⟨tb_ 320 (by decide +kernel) rfl, List.forall_mem_cons.mpr ⟨tb_ 321 (by decide +kernel) rfl, List.forall_mem_cons.mpr ⟨tb_ 322 (by decide +kernel) rfl, List.forall_mem_cons.mpr ⟨tb_ 2 (by decide +kernel) rfl, fun _ h => absurd h List.not_mem_nil⟩⟩⟩⟩, u_To_isTooNear⟩)
set_option maxRecDepth 100000 in
theorem cv_Se_103 (E : sx_E) {cc : ByteArray} (C : sx_C SC g_tbl "SiteChoice$Search" cc E) (rm : Room) (hR : rm.frames + 1 ≤ (sx_R E).frames ∧ 8 + (9 + 11) + rm.locals ≤ (sx_R E).locals) : CallW (sx_R E) (sx_s E) (sx_a E) "SiteChoice$Search" "SiteChoice$Town" 103 y_To_isTooNear c_To_isTooNear 9 (some .boolean) w_To_isTooNear rm rm.cells rm.slots 2 := cwV 2 C.2.2.2.2.1 gv_Se_103 rfl rfl rfl (by decide +kernel) hR
set_option maxRecDepth 100000 in
theorem gv_Se_107 : GoodIn g_tbl (wsV "SiteChoice$Search" 107 "SiteChoice$Search" y_Se_reckonLeastRest w_Se_reckonLeastRest) := gi_ (List.forall_mem_append.mpr ⟨List.forall_mem_cons.mpr ⟨tb_ 331 (by decide +kernel) rfl, List.forall_mem_cons.mpr ⟨tb_ 333 (by decide +kernel) rfl, List.forall_mem_cons.mpr ⟨List.mem_filter.mpr ⟨List.mem_append_left _ (by decide +kernel), rfl⟩, List.forall_mem_cons.mpr ⟨tb_ 3 (by decide +kernel) rfl, fun _ h => absurd h List.not_mem_nil⟩⟩⟩⟩, u_Se_reckonLeastRest⟩)
set_option maxRecDepth 100000 in
theorem cv_Se_107 (E : sx_E) {cc : ByteArray} (C : sx_C SC g_tbl "SiteChoice$Search" cc E) (rm : Room) (hR : rm.frames + 1 ≤ (sx_R E).frames ∧ 8 + (4 + 11) + rm.locals ≤ (sx_R E).locals) : CallW (sx_R E) (sx_s E) (sx_a E) "SiteChoice$Search" "SiteChoice$Search" 107 y_Se_reckonLeastRest c_Se_reckonLeastRest 4 (some .boolean) w_Se_reckonLeastRest rm rm.cells rm.slots 0 := cwV 0 C.2.2.2.2.1 gv_Se_107 rfl rfl rfl (by decide +kernel) hR
set_option maxRecDepth 100000 in
theorem gv_Se_117 : GoodIn g_tbl (va_wsS "SiteChoice$Search" 117 y_Ar_fill_ints w_Ar_fill_ints) := gi_ (List.forall_mem_append.mpr ⟨List.forall_mem_cons.mpr ⟨tb_ 346 (by decide +kernel) rfl, List.forall_mem_cons.mpr ⟨tb_ 347 (by decide +kernel) rfl, List.forall_mem_cons.mpr ⟨tb_ 8 (by decide +kernel) rfl, fun _ h => absurd h List.not_mem_nil⟩⟩⟩, u_Ar_fill_ints⟩)
set_option maxRecDepth 100000 in
theorem cv_Se_117 (E : sx_E) {cc : ByteArray} (C : sx_C SC g_tbl "SiteChoice$Search" cc E) (rm : Room) (hR : rm.frames + 1 ≤ (sx_R E).frames ∧ 8 + (4 + 11) + rm.locals ≤ (sx_R E).locals) : CallB (sx_R E) (sx_s E) (sx_a E) "SiteChoice$Search" 117 y_Ar_fill_ints c_Ar_fill_ints 4 none w_Ar_fill_ints rm rm.cells rm.slots 2 ∧ (Cond.static y_Ar_fill_ints).before (sx_a E) (sx_s E) = true := va_cwS 2 C.2.2.2.2.1 gv_Se_117 rfl rfl rfl (by decide +kernel) hR
set_option maxRecDepth 100000 in
theorem gv_Se_123 : GoodIn g_tbl (wsV "SiteChoice$Search" 123 "SiteChoice$Search" y_Se_give w_Se_give) := gi_ (List.forall_mem_append.mpr ⟨List.forall_mem_cons.mpr ⟨tb_ 349 (by decide +kernel) rfl, List.forall_mem_cons.mpr ⟨tb_ 351 (by decide +kernel) rfl, List.forall_mem_cons.mpr ⟨List.mem_filter.mpr ⟨List.mem_append_left _ (by decide +kernel), rfl⟩, List.forall_mem_cons.mpr ⟨tb_ 3 (by decide +kernel) rfl, fun _ h => absurd h List.not_mem_nil⟩⟩⟩⟩, u_Se_give⟩)
set_option maxRecDepth 100000 in
theorem cv_Se_123 (E : sx_E) {cc : ByteArray} (C : sx_C SC g_tbl "SiteChoice$Search" cc E) (rm : Room) (hR : rm.frames + 1 ≤ (sx_R E).frames ∧ 8 + (6 + 11) + rm.locals ≤ (sx_R E).locals) : CallW (sx_R E) (sx_s E) (sx_a E) "SiteChoice$Search" "SiteChoice$Search" 123 y_Se_give c_Se_give 6 none w_Se_give rm rm.cells rm.slots 3 := cwV 3 C.2.2.2.2.1 gv_Se_123 rfl rfl rfl (by decide +kernel) hR
set_option maxRecDepth 100000 in
theorem gv_Se_127 : GoodIn g_tbl (wsV "SiteChoice$Search" 127 "SiteChoice$Search" y_Se_leastSum w_Se_leastSum) := gi_ (List.forall_mem_append.mpr ⟨List.forall_mem_cons.mpr ⟨tb_ 395 (by decide +kernel) rfl, List.forall_mem_cons.mpr ⟨tb_ 328 (by decide +kernel) rfl, List.forall_mem_cons.mpr ⟨tb_ 329 (by decide +kernel) rfl, List.forall_mem_cons.mpr ⟨tb_ 3 (by decide +kernel) rfl, fun _ h => absurd h List.not_mem_nil⟩⟩⟩⟩, u_Se_leastSum⟩)
set_option maxRecDepth 100000 in
theorem cv_Se_127 (E : sx_E) {cc : ByteArray} (C : sx_C SC g_tbl "SiteChoice$Search" cc E) (rm : Room) (hR : rm.frames + 1 ≤ (sx_R E).frames ∧ 8 + (2 + 11) + rm.locals ≤ (sx_R E).locals) : CallW (sx_R E) (sx_s E) (sx_a E) "SiteChoice$Search" "SiteChoice$Search" 127 y_Se_leastSum c_Se_leastSum 2 (some .long) w_Se_leastSum rm rm.cells rm.slots 1 := cwV 1 C.2.2.2.2.1 gv_Se_127 rfl rfl rfl (by decide +kernel) hR
set_option maxRecDepth 100000 in
theorem gv_Se_131 : GoodIn g_tbl (wsV "SiteChoice$Search" 131 "SiteChoice$Search" y_Se_nearestUsable w_Se_nearestUsable) := gi_ (List.forall_mem_append.mpr ⟨List.forall_mem_cons.mpr ⟨tb_ 335 (by decide +kernel) rfl, List.forall_mem_cons.mpr ⟨tb_ 337 (by decide +kernel) rfl, List.forall_mem_cons.mpr ⟨List.mem_filter.mpr ⟨List.mem_append_left _ (by decide +kernel), rfl⟩, List.forall_mem_cons.mpr ⟨tb_ 3 (by decide +kernel) rfl, fun _ h => absurd h List.not_mem_nil⟩⟩⟩⟩, u_Se_nearestUsable⟩)
set_option maxRecDepth 100000 in
theorem cv_Se_131 (E : sx_E) {cc : ByteArray} (C : sx_C SC g_tbl "SiteChoice$Search" cc E) (rm : Room) (hR : rm.frames + 1 ≤ (sx_R E).frames ∧ 8 + (7 + 11) + rm.locals ≤ (sx_R E).locals) : CallW (sx_R E) (sx_s E) (sx_a E) "SiteChoice$Search" "SiteChoice$Search" 131 y_Se_nearestUsable c_Se_nearestUsable 7 (some .long) w_Se_nearestUsable rm rm.cells rm.slots 1 := cwV 1 C.2.2.2.2.1 gv_Se_131 rfl rfl rfl (by decide +kernel) hR
set_option maxRecDepth 100000 in
theorem gv_Se_134 : GoodIn g_tbl (wsV "SiteChoice$Search" 134 "SiteChoice$Search" y_Se_isUsable w_Se_isUsable) := gi_ (List.forall_mem_append.mpr ⟨List.forall_mem_cons.mpr ⟨tb_ 339 (by decide +kernel) rfl, List.forall_mem_cons.mpr ⟨tb_ 341 (by decide +kernel) rfl, List.forall_mem_cons.mpr ⟨List.mem_filter.mpr ⟨List.mem_append_left _ (by decide +kernel), rfl⟩, List.forall_mem_cons.mpr ⟨tb_ 3 (by decide +kernel) rfl, fun _ h => absurd h List.not_mem_nil⟩⟩⟩⟩, u_Se_isUsable⟩)
set_option maxRecDepth 100000 in
theorem cv_Se_134 (E : sx_E) {cc : ByteArray} (C : sx_C SC g_tbl "SiteChoice$Search" cc E) (rm : Room) (hR : rm.frames + 1 ≤ (sx_R E).frames ∧ 8 + (2 + 11) + rm.locals ≤ (sx_R E).locals) : CallW (sx_R E) (sx_s E) (sx_a E) "SiteChoice$Search" "SiteChoice$Search" 134 y_Se_isUsable c_Se_isUsable 2 (some .boolean) w_Se_isUsable rm rm.cells rm.slots 1 := cwV 1 C.2.2.2.2.1 gv_Se_134 rfl rfl rfl (by decide +kernel) hR
set_option maxRecDepth 100000 in
theorem gv_Se_138 : GoodIn g_tbl (wsV "SiteChoice$Search" 138 "SiteChoice$Search" y_Se_nextWithNeed w_Se_nextWithNeed) := gi_ (List.forall_mem_append.mpr ⟨List.forall_mem_cons.mpr ⟨tb_ 353 (by decide +kernel) rfl, List.forall_mem_cons.mpr ⟨tb_ 355 (by decide +kernel) rfl, List.forall_mem_cons.mpr ⟨List.mem_filter.mpr ⟨List.mem_append_left _ (by decide +kernel), rfl⟩, List.forall_mem_cons.mpr ⟨tb_ 3 (by decide +kernel) rfl, fun _ h => absurd h List.not_mem_nil⟩⟩⟩⟩, u_Se_nextWithNeed⟩)
set_option maxRecDepth 100000 in
theorem cv_Se_138 (E : sx_E) {cc : ByteArray} (C : sx_C SC g_tbl "SiteChoice$Search" cc E) (rm : Room) (hR : rm.frames + 1 ≤ (sx_R E).frames ∧ 8 + (3 + 11) + rm.locals ≤ (sx_R E).locals) : CallW (sx_R E) (sx_s E) (sx_a E) "SiteChoice$Search" "SiteChoice$Search" 138 y_Se_nextWithNeed c_Se_nextWithNeed 3 (some .int) w_Se_nextWithNeed rm rm.cells rm.slots 1 := cwV 1 C.2.2.2.2.1 gv_Se_138 rfl rfl rfl (by decide +kernel) hR
set_option maxRecDepth 100000 in
theorem gv_Se_142 : GoodIn g_tbl (wsV "SiteChoice$Search" 142 "SiteChoice$Search" y_Se_keepIfBetter w_Se_keepIfBetter) := gi_ (List.forall_mem_append.mpr ⟨List.forall_mem_cons.mpr ⟨tb_ 357 (by decide +kernel) rfl, List.forall_mem_cons.mpr ⟨tb_ 359 (by decide +kernel) rfl, List.forall_mem_cons.mpr ⟨List.mem_filter.mpr ⟨List.mem_append_left _ (by decide +kernel), rfl⟩, List.forall_mem_cons.mpr ⟨tb_ 3 (by decide +kernel) rfl, fun _ h => absurd h List.not_mem_nil⟩⟩⟩⟩, u_Se_keepIfBetter⟩)
set_option maxRecDepth 100000 in
theorem cv_Se_142 (E : sx_E) {cc : ByteArray} (C : sx_C SC g_tbl "SiteChoice$Search" cc E) (rm : Room) (hR : rm.frames + 1 ≤ (sx_R E).frames ∧ 8 + (3 + 11) + rm.locals ≤ (sx_R E).locals) : CallW (sx_R E) (sx_s E) (sx_a E) "SiteChoice$Search" "SiteChoice$Search" 142 y_Se_keepIfBetter c_Se_keepIfBetter 3 none w_Se_keepIfBetter rm rm.cells rm.slots 1 := cwV 1 C.2.2.2.2.1 gv_Se_142 rfl rfl rfl (by decide +kernel) hR
set_option maxRecDepth 100000 in
theorem gv_Se_146 : GoodIn g_tbl (wsV "SiteChoice$Search" 146 "SiteChoice$Search" y_Se_isHopeless w_Se_isHopeless) := gi_ (List.forall_mem_append.mpr ⟨List.forall_mem_cons.mpr ⟨tb_ 361 (by decide +kernel) rfl, List.forall_mem_cons.mpr ⟨tb_ 363 (by decide +kernel) rfl, List.forall_mem_cons.mpr ⟨List.mem_filter.mpr ⟨List.mem_append_left _ (by decide +kernel), rfl⟩, List.forall_mem_cons.mpr ⟨tb_ 3 (by decide +kernel) rfl, fun _ h => absurd h List.not_mem_nil⟩⟩⟩⟩, u_Se_isHopeless⟩)
set_option maxRecDepth 100000 in
theorem cv_Se_146 (E : sx_E) {cc : ByteArray} (C : sx_C SC g_tbl "SiteChoice$Search" cc E) (rm : Room) (hR : rm.frames + 1 ≤ (sx_R E).frames ∧ 8 + (3 + 11) + rm.locals ≤ (sx_R E).locals) : CallW (sx_R E) (sx_s E) (sx_a E) "SiteChoice$Search" "SiteChoice$Search" 146 y_Se_isHopeless c_Se_isHopeless 3 (some .boolean) w_Se_isHopeless rm rm.cells rm.slots 1 := cwV 1 C.2.2.2.2.1 gv_Se_146 rfl rfl rfl (by decide +kernel) hR
set_option maxRecDepth 100000 in
theorem gv_Se_150 : GoodIn g_tbl (wsV "SiteChoice$Search" 150 "SiteChoice$Search" y_Se_giveEachPlace w_Se_giveEachPlace) := gi_ (List.forall_mem_append.mpr ⟨List.forall_mem_cons.mpr ⟨tb_ 365 (by decide +kernel) rfl, List.forall_mem_cons.mpr ⟨tb_ 367 (by decide +kernel) rfl, List.forall_mem_cons.mpr ⟨List.mem_filter.mpr ⟨List.mem_append_left _ (by decide +kernel), rfl⟩, List.forall_mem_cons.mpr ⟨tb_ 3 (by decide +kernel) rfl, fun _ h => absurd h List.not_mem_nil⟩⟩⟩⟩, u_Se_giveEachPlace⟩)
set_option maxRecDepth 100000 in
theorem cv_Se_150 (E : sx_E) {cc : ByteArray} (C : sx_C SC g_tbl "SiteChoice$Search" cc E) (rm : Room) (hR : rm.frames + 1 ≤ (sx_R E).frames ∧ 8 + (7 + 11) + rm.locals ≤ (sx_R E).locals) : CallW (sx_R E) (sx_s E) (sx_a E) "SiteChoice$Search" "SiteChoice$Search" 150 y_Se_giveEachPlace c_Se_giveEachPlace 7 none w_Se_giveEachPlace rm rm.cells rm.slots 3 := cwV 3 C.2.2.2.2.1 gv_Se_150 rfl rfl rfl (by decide +kernel) hR
set_option maxRecDepth 100000 in
theorem gv_Se_153 : GoodIn g_tbl (wsV "SiteChoice$Search" 153 "SiteChoice$Search" y_Se_canTake w_Se_canTake) := gi_ (List.forall_mem_append.mpr ⟨List.forall_mem_cons.mpr ⟨tb_ 369 (by decide +kernel) rfl, List.forall_mem_cons.mpr ⟨tb_ 371 (by decide +kernel) rfl, List.forall_mem_cons.mpr ⟨List.mem_filter.mpr ⟨List.mem_append_left _ (by decide +kernel), rfl⟩, List.forall_mem_cons.mpr ⟨tb_ 3 (by decide +kernel) rfl, fun _ h => absurd h List.not_mem_nil⟩⟩⟩⟩, u_Se_canTake⟩)
set_option maxRecDepth 100000 in
theorem cv_Se_153 (E : sx_E) {cc : ByteArray} (C : sx_C SC g_tbl "SiteChoice$Search" cc E) (rm : Room) (hR : rm.frames + 1 ≤ (sx_R E).frames ∧ 8 + (3 + 11) + rm.locals ≤ (sx_R E).locals) : CallW (sx_R E) (sx_s E) (sx_a E) "SiteChoice$Search" "SiteChoice$Search" 153 y_Se_canTake c_Se_canTake 3 (some .boolean) w_Se_canTake rm rm.cells rm.slots 2 := cwV 2 C.2.2.2.2.1 gv_Se_153 rfl rfl rfl (by decide +kernel) hR
set_option maxRecDepth 100000 in
theorem gv_To_59 : GoodIn g_tbl (va_wsS "SiteChoice$Town" 59 y_Ar_fill_longs w_Ar_fill_longs) := gi_ (List.forall_mem_append.mpr ⟨List.forall_mem_cons.mpr ⟨tb_ 227 (by decide +kernel) rfl, List.forall_mem_cons.mpr ⟨tb_ 228 (by decide +kernel) rfl, List.forall_mem_cons.mpr ⟨tb_ 8 (by decide +kernel) rfl, fun _ h => absurd h List.not_mem_nil⟩⟩⟩, u_Ar_fill_longs⟩)
set_option maxRecDepth 100000 in
theorem cv_To_59 (E : sx_E) {cc : ByteArray} (C : sx_C SC g_tbl "SiteChoice$Town" cc E) (rm : Room) (hR : rm.frames + 1 ≤ (sx_R E).frames ∧ 8 + (5 + 11) + rm.locals ≤ (sx_R E).locals) : CallB (sx_R E) (sx_s E) (sx_a E) "SiteChoice$Town" 59 y_Ar_fill_longs c_Ar_fill_longs 5 none w_Ar_fill_longs rm rm.cells rm.slots 2 ∧ (Cond.static y_Ar_fill_longs).before (sx_a E) (sx_s E) = true := va_cwS 2 C.2.2.2.2.1 gv_To_59 rfl rfl rfl (by decide +kernel) hR
set_option maxRecDepth 100000 in
theorem gv_To_65 : GoodIn g_tbl (wsV "SiteChoice$Town" 65 "SiteChoice$Town" y_To_hasDistrict w_To_hasDistrict) := gi_ (List.forall_mem_append.mpr ⟨List.forall_mem_cons.mpr ⟨tb_ 288 (by decide +kernel) rfl, List.forall_mem_cons.mpr ⟨tb_ 246 (by decide +kernel) rfl, List.forall_mem_cons.mpr ⟨tb_ 247 (by decide +kernel) rfl, List.forall_mem_cons.mpr ⟨tb_ 2 (by decide +kernel) rfl, fun _ h => absurd h List.not_mem_nil⟩⟩⟩⟩, u_To_hasDistrict⟩)
set_option maxRecDepth 100000 in
theorem cv_To_65 (E : sx_E) {cc : ByteArray} (C : sx_C SC g_tbl "SiteChoice$Town" cc E) (rm : Room) (hR : rm.frames + 1 ≤ (sx_R E).frames ∧ 8 + (2 + 11) + rm.locals ≤ (sx_R E).locals) : CallW (sx_R E) (sx_s E) (sx_a E) "SiteChoice$Town" "SiteChoice$Town" 65 y_To_hasDistrict c_To_hasDistrict 2 (some .boolean) w_To_hasDistrict rm rm.cells rm.slots 1 := cwV 1 C.2.2.2.2.1 gv_To_65 rfl rfl rfl (by decide +kernel) hR
set_option maxRecDepth 100000 in
theorem gv_To_69 : GoodIn g_tbl (wsV "SiteChoice$Town" 69 "SiteChoice$Town" y_To_hasPlace w_To_hasPlace) := gi_ (List.forall_mem_append.mpr ⟨List.forall_mem_cons.mpr ⟨tb_ 289 (by decide +kernel) rfl, List.forall_mem_cons.mpr ⟨tb_ 250 (by decide +kernel) rfl, List.forall_mem_cons.mpr ⟨tb_ 251 (by decide +kernel) rfl, List.forall_mem_cons.mpr ⟨tb_ 2 (by decide +kernel) rfl, fun _ h => absurd h List.not_mem_nil⟩⟩⟩⟩, u_To_hasPlace⟩)
set_option maxRecDepth 100000 in
theorem cv_To_69 (E : sx_E) {cc : ByteArray} (C : sx_C SC g_tbl "SiteChoice$Town" cc E) (rm : Room) (hR : rm.frames + 1 ≤ (sx_R E).frames ∧ 8 + (2 + 11) + rm.locals ≤ (sx_R E).locals) : CallW (sx_R E) (sx_s E) (sx_a E) "SiteChoice$Town" "SiteChoice$Town" 69 y_To_hasPlace c_To_hasPlace 2 (some .boolean) w_To_hasPlace rm rm.cells rm.slots 1 := cwV 1 C.2.2.2.2.1 gv_To_69 rfl rfl rfl (by decide +kernel) hR
set_option maxRecDepth 100000 in
theorem gv_To_72 : GoodIn g_tbl (wsV "SiteChoice$Town" 72 "SiteChoice$Town" y_To_countReached w_To_countReached) := gi_ (List.forall_mem_append.mpr ⟨List.forall_mem_cons.mpr ⟨tb_ 280 (by decide +kernel) rfl, List.forall_mem_cons.mpr ⟨tb_ 282 (by decide +kernel) rfl, List.forall_mem_cons.mpr ⟨List.mem_filter.mpr ⟨List.mem_append_left _ (by decide +kernel), rfl⟩, List.forall_mem_cons.mpr ⟨tb_ 2 (by decide +kernel) rfl, fun _ h => absurd h List.not_mem_nil⟩⟩⟩⟩, u_To_countReached⟩)
set_option maxRecDepth 100000 in
theorem cv_To_72 (E : sx_E) {cc : ByteArray} (C : sx_C SC g_tbl "SiteChoice$Town" cc E) (rm : Room) (hR : rm.frames + 1 ≤ (sx_R E).frames ∧ 8 + (5 + 11) + rm.locals ≤ (sx_R E).locals) : CallW (sx_R E) (sx_s E) (sx_a E) "SiteChoice$Town" "SiteChoice$Town" 72 y_To_countReached c_To_countReached 5 (some .long) w_To_countReached rm rm.cells rm.slots 1 := cwV 1 C.2.2.2.2.1 gv_To_72 rfl rfl rfl (by decide +kernel) hR
set_option maxRecDepth 100000 in
theorem gv_To_76 : GoodIn g_tbl (wsV "SiteChoice$Town" 76 "SiteChoice$Town" y_To_reach w_To_reach) := gi_ (List.forall_mem_append.mpr ⟨List.forall_mem_cons.mpr ⟨tb_ 284 (by decide +kernel) rfl, List.forall_mem_cons.mpr ⟨tb_ 285 (by decide +kernel) rfl, List.forall_mem_cons.mpr ⟨tb_ 286 (by decide +kernel) rfl, List.forall_mem_cons.mpr ⟨tb_ 2 (by decide +kernel) rfl, fun _ h => absurd h List.not_mem_nil⟩⟩⟩⟩, u_To_reach⟩)
set_option maxRecDepth 100000 in
theorem cv_To_76 (E : sx_E) {cc : ByteArray} (C : sx_C SC g_tbl "SiteChoice$Town" cc E) (rm : Room) (hR : rm.frames + 1 ≤ (sx_R E).frames ∧ 8 + (5 + 11) + rm.locals ≤ (sx_R E).locals) : CallW (sx_R E) (sx_s E) (sx_a E) "SiteChoice$Town" "SiteChoice$Town" 76 y_To_reach c_To_reach 5 (some .long) w_To_reach rm rm.cells rm.slots 2 := cwV 2 C.2.2.2.2.1 gv_To_76 rfl rfl rfl (by decide +kernel) hR
set_option maxRecDepth 100000 in
theorem gv_Un_24 : GoodIn g_tbl (va_wsS "SiteChoice$Unserved" 24 y_In_bitCount w_In_bitCount) := gi_ (List.forall_mem_append.mpr ⟨List.forall_mem_cons.mpr ⟨tb_ 378 (by decide +kernel) rfl, List.forall_mem_cons.mpr ⟨tb_ 379 (by decide +kernel) rfl, List.forall_mem_cons.mpr ⟨tb_ 11 (by decide +kernel) rfl, fun _ h => absurd h List.not_mem_nil⟩⟩⟩, u_In_bitCount⟩)
set_option maxRecDepth 100000 in
theorem cv_Un_24 (E : sx_E) {cc : ByteArray} (C : sx_C SC g_tbl "SiteChoice$Unserved" cc E) (rm : Room) (hR : rm.frames + 1 ≤ (sx_R E).frames ∧ 8 + (1 + 11) + rm.locals ≤ (sx_R E).locals) : CallB (sx_R E) (sx_s E) (sx_a E) "SiteChoice$Unserved" 24 y_In_bitCount c_In_bitCount 1 (some .int) w_In_bitCount rm rm.cells rm.slots 1 ∧ (Cond.static y_In_bitCount).before (sx_a E) (sx_s E) = true := va_cwS 1 C.2.2.2.2.1 gv_Un_24 rfl rfl rfl (by decide +kernel) hR
set_option maxRecDepth 100000 in
theorem gv_Un_30 : GoodIn g_tbl (wsV "SiteChoice$Unserved" 30 "SiteChoice$Search" y_Se_loadNeedsOfSet w_Se_loadNeedsOfSet) := gi_ (List.forall_mem_append.mpr ⟨List.forall_mem_cons.mpr ⟨tb_ 384 (by decide +kernel) rfl, List.forall_mem_cons.mpr ⟨tb_ 385 (by decide +kernel) rfl, List.forall_mem_cons.mpr ⟨tb_ 386 (by decide +kernel) rfl, List.forall_mem_cons.mpr ⟨tb_ 3 (by decide +kernel) rfl, fun _ h => absurd h List.not_mem_nil⟩⟩⟩⟩, u_Se_loadNeedsOfSet⟩)
set_option maxRecDepth 100000 in
theorem cv_Un_30 (E : sx_E) {cc : ByteArray} (C : sx_C SC g_tbl "SiteChoice$Unserved" cc E) (rm : Room) (hR : rm.frames + 1 ≤ (sx_R E).frames ∧ 8 + (4 + 11) + rm.locals ≤ (sx_R E).locals) : CallW (sx_R E) (sx_s E) (sx_a E) "SiteChoice$Unserved" "SiteChoice$Search" 30 y_Se_loadNeedsOfSet c_Se_loadNeedsOfSet 4 none w_Se_loadNeedsOfSet rm rm.cells rm.slots 2 := cwV 2 C.2.2.2.2.1 gv_Un_30 rfl rfl rfl (by decide +kernel) hR
set_option maxRecDepth 100000 in
theorem gv_Un_36 : GoodIn g_tbl (wsV "SiteChoice$Unserved" 36 "SiteChoice$Search" y_Se_hasPlan w_Se_hasPlan) := gi_ (List.forall_mem_append.mpr ⟨List.forall_mem_cons.mpr ⟨tb_ 391 (by decide +kernel) rfl, List.forall_mem_cons.mpr ⟨tb_ 392 (by decide +kernel) rfl, List.forall_mem_cons.mpr ⟨tb_ 393 (by decide +kernel) rfl, List.forall_mem_cons.mpr ⟨tb_ 3 (by decide +kernel) rfl, fun _ h => absurd h List.not_mem_nil⟩⟩⟩⟩, u_Se_hasPlan⟩)
set_option maxRecDepth 100000 in
theorem cv_Un_36 (E : sx_E) {cc : ByteArray} (C : sx_C SC g_tbl "SiteChoice$Unserved" cc E) (rm : Room) (hR : rm.frames + 1 ≤ (sx_R E).frames ∧ 8 + (3 + 11) + rm.locals ≤ (sx_R E).locals) : CallW (sx_R E) (sx_s E) (sx_a E) "SiteChoice$Unserved" "SiteChoice$Search" 36 y_Se_hasPlan c_Se_hasPlan 3 (some .boolean) w_Se_hasPlan rm rm.cells rm.slots 0 := cwV 0 C.2.2.2.2.1 gv_Un_36 rfl rfl rfl (by decide +kernel) hR
set_option maxRecDepth 100000 in
theorem gv_Un_40 : GoodIn g_tbl (wsV "SiteChoice$Unserved" 40 "SiteChoice$Unserved" y_Un_list w_Un_list) := gi_ (List.forall_mem_append.mpr ⟨List.forall_mem_cons.mpr ⟨tb_ 396 (by decide +kernel) rfl, List.forall_mem_cons.mpr ⟨tb_ 398 (by decide +kernel) rfl, List.forall_mem_cons.mpr ⟨List.mem_filter.mpr ⟨List.mem_append_left _ (by decide +kernel), rfl⟩, List.forall_mem_cons.mpr ⟨tb_ 5 (by decide +kernel) rfl, fun _ h => absurd h List.not_mem_nil⟩⟩⟩⟩, u_Un_list⟩)
set_option maxRecDepth 100000 in
theorem cv_Un_40 (E : sx_E) {cc : ByteArray} (C : sx_C SC g_tbl "SiteChoice$Unserved" cc E) (rm : Room) (hR : rm.frames + 1 ≤ (sx_R E).frames ∧ 8 + (4 + 11) + rm.locals ≤ (sx_R E).locals) : CallW (sx_R E) (sx_s E) (sx_a E) "SiteChoice$Unserved" "SiteChoice$Unserved" 40 y_Un_list c_Un_list 4 none w_Un_list rm rm.cells rm.slots 2 := cwV 2 C.2.2.2.2.1 gv_Un_40 rfl rfl rfl (by decide +kernel) hR
set_option maxRecDepth 100000 in
theorem gv_Un_44 : GoodIn g_tbl (va_wsS "SiteChoice$Unserved" 44 y_Un_isIn w_Un_isIn) := gi_ (List.forall_mem_append.mpr ⟨List.forall_mem_cons.mpr ⟨tb_ 400 (by decide +kernel) rfl, List.forall_mem_cons.mpr ⟨tb_ 389 (by decide +kernel) rfl, List.forall_mem_cons.mpr ⟨tb_ 5 (by decide +kernel) rfl, fun _ h => absurd h List.not_mem_nil⟩⟩⟩, u_Un_isIn⟩)
set_option maxRecDepth 100000 in
theorem cv_Un_44 (E : sx_E) {cc : ByteArray} (C : sx_C SC g_tbl "SiteChoice$Unserved" cc E) (rm : Room) (hR : rm.frames + 1 ≤ (sx_R E).frames ∧ 8 + (3 + 11) + rm.locals ≤ (sx_R E).locals) : CallB (sx_R E) (sx_s E) (sx_a E) "SiteChoice$Unserved" 44 y_Un_isIn c_Un_isIn 3 (some .boolean) w_Un_isIn rm rm.cells rm.slots 3 ∧ (Cond.static y_Un_isIn).before (sx_a E) (sx_s E) = true := va_cwS 3 C.2.2.2.2.1 gv_Un_44 rfl rfl rfl (by decide +kernel) hR
set_option maxRecDepth 100000 in
theorem cv_La_9 (E : sx_E) {cc : ByteArray} (C : sx_C SC g_tbl "SiteChoiceLaw" cc E) (rm : Room) (hR : rm.frames + 1 ≤ (sx_R E).frames ∧ 8 + (1 + 11) + rm.locals ≤ (sx_R E).locals) : CallB (sx_R E) (sx_s E) (sx_a E) "SiteChoiceLaw" 9 y_Si_init c_Si_init 1 none w_Si_init rm rm.cells rm.slots 0 ∧ y_Si_init.name = "<init>" ∧ (Cond.instanceMethod y_Si_init).before (sx_a E) (sx_s E) = true := cwI 0 C.2.2.2.2.1 (gi_ u_Si_init) rfl rfl rfl (C.2.2.2.2.1 _ (tb_ 1 (by decide +kernel) rfl)) (C.2.2.2.2.1 _ (tb_ 14 (by decide +kernel) rfl)) (C.2.2.2.2.1 _ (tb_ 15 (by decide +kernel) rfl)) rfl (by decide +kernel) hR
set_option maxRecDepth 100000 in
theorem cv_La_12 (E : sx_E) {cc : ByteArray} (C : sx_C SC g_tbl "SiteChoiceLaw" cc E) (rm : Room) (hR : rm.frames + 1 ≤ (sx_R E).frames ∧ 8 + (2 + 11) + rm.locals ≤ (sx_R E).locals) : CallB (sx_R E) (sx_s E) (sx_a E) "SiteChoiceLaw" 12 y_Mo_init c_Mo_init 2 none w_Mo_init rm rm.cells rm.slots 0 ∧ y_Mo_init.name = "<init>" ∧ (Cond.instanceMethod y_Mo_init).before (sx_a E) (sx_s E) = true := cwI 0 C.2.2.2.2.1 (gi_ u_Mo_init) rfl rfl rfl (C.2.2.2.2.1 _ (tb_ 7 (by decide +kernel) rfl)) (C.2.2.2.2.1 _ (tb_ 520 (by decide +kernel) rfl)) (C.2.2.2.2.1 _ (tb_ 521 (by decide +kernel) rfl)) rfl (by decide +kernel) hR
set_option maxRecDepth 100000 in
theorem gv_La_15 : GoodIn g_tbl (wsV "SiteChoiceLaw" 15 "SiteChoice" y_Si_district w_Si_district) := gi_ (List.forall_mem_append.mpr ⟨List.forall_mem_cons.mpr ⟨tb_ 213 (by decide +kernel) rfl, List.forall_mem_cons.mpr ⟨tb_ 214 (by decide +kernel) rfl, List.forall_mem_cons.mpr ⟨tb_ 215 (by decide +kernel) rfl, List.forall_mem_cons.mpr ⟨tb_ 1 (by decide +kernel) rfl, fun _ h => absurd h List.not_mem_nil⟩⟩⟩⟩, u_Si_district⟩)
set_option maxRecDepth 100000 in
theorem cv_La_15 (E : sx_E) {cc : ByteArray} (C : sx_C SC g_tbl "SiteChoiceLaw" cc E) (rm : Room) (hR : rm.frames + 1 ≤ (sx_R E).frames ∧ 8 + (3 + 11) + rm.locals ≤ (sx_R E).locals) : CallW (sx_R E) (sx_s E) (sx_a E) "SiteChoiceLaw" "SiteChoice" 15 y_Si_district c_Si_district 3 (some .int) w_Si_district rm rm.cells rm.slots 1 := cwV 1 C.2.2.2.2.1 gv_La_15 rfl rfl rfl (by decide +kernel) hR
set_option maxRecDepth 100000 in
theorem gv_La_19 : GoodIn g_tbl (wsV "SiteChoiceLaw" 19 "SiteChoiceModel" y_Mo_district w_Mo_district) := gi_ (List.forall_mem_append.mpr ⟨List.forall_mem_cons.mpr ⟨tb_ 603 (by decide +kernel) rfl, List.forall_mem_cons.mpr ⟨tb_ 604 (by decide +kernel) rfl, List.forall_mem_cons.mpr ⟨tb_ 605 (by decide +kernel) rfl, List.forall_mem_cons.mpr ⟨tb_ 7 (by decide +kernel) rfl, fun _ h => absurd h List.not_mem_nil⟩⟩⟩⟩, u_Mo_district⟩)
set_option maxRecDepth 100000 in
theorem cv_La_19 (E : sx_E) {cc : ByteArray} (C : sx_C SC g_tbl "SiteChoiceLaw" cc E) (rm : Room) (hR : rm.frames + 1 ≤ (sx_R E).frames ∧ 8 + (3 + 11) + rm.locals ≤ (sx_R E).locals) : CallW (sx_R E) (sx_s E) (sx_a E) "SiteChoiceLaw" "SiteChoiceModel" 19 y_Mo_district c_Mo_district 3 (some .int) w_Mo_district rm rm.cells rm.slots 1 := cwV 1 C.2.2.2.2.1 gv_La_19 rfl rfl rfl (by decide +kernel) hR
set_option maxRecDepth 100000 in
theorem gv_La_20 : GoodIn g_tbl (wsV "SiteChoiceLaw" 20 "SiteChoice" y_Si_place w_Si_place) := gi_ (List.forall_mem_append.mpr ⟨List.forall_mem_cons.mpr ⟨tb_ 230 (by decide +kernel) rfl, List.forall_mem_cons.mpr ⟨tb_ 231 (by decide +kernel) rfl, List.forall_mem_cons.mpr ⟨tb_ 232 (by decide +kernel) rfl, List.forall_mem_cons.mpr ⟨tb_ 1 (by decide +kernel) rfl, fun _ h => absurd h List.not_mem_nil⟩⟩⟩⟩, u_Si_place⟩)
set_option maxRecDepth 100000 in
theorem cv_La_20 (E : sx_E) {cc : ByteArray} (C : sx_C SC g_tbl "SiteChoiceLaw" cc E) (rm : Room) (hR : rm.frames + 1 ≤ (sx_R E).frames ∧ 8 + (9 + 11) + rm.locals ≤ (sx_R E).locals) : CallW (sx_R E) (sx_s E) (sx_a E) "SiteChoiceLaw" "SiteChoice" 20 y_Si_place c_Si_place 9 (some .int) w_Si_place rm rm.cells rm.slots 4 := cwV 4 C.2.2.2.2.1 gv_La_20 rfl rfl rfl (by decide +kernel) hR
set_option maxRecDepth 100000 in
theorem gv_La_24 : GoodIn g_tbl (wsV "SiteChoiceLaw" 24 "SiteChoiceModel" y_Mo_place w_Mo_place) := gi_ (List.forall_mem_append.mpr ⟨List.forall_mem_cons.mpr ⟨tb_ 611 (by decide +kernel) rfl, List.forall_mem_cons.mpr ⟨tb_ 612 (by decide +kernel) rfl, List.forall_mem_cons.mpr ⟨tb_ 613 (by decide +kernel) rfl, List.forall_mem_cons.mpr ⟨tb_ 7 (by decide +kernel) rfl, fun _ h => absurd h List.not_mem_nil⟩⟩⟩⟩, u_Mo_place⟩)
set_option maxRecDepth 100000 in
theorem cv_La_24 (E : sx_E) {cc : ByteArray} (C : sx_C SC g_tbl "SiteChoiceLaw" cc E) (rm : Room) (hR : rm.frames + 1 ≤ (sx_R E).frames ∧ 8 + (9 + 11) + rm.locals ≤ (sx_R E).locals) : CallW (sx_R E) (sx_s E) (sx_a E) "SiteChoiceLaw" "SiteChoiceModel" 24 y_Mo_place c_Mo_place 9 (some .int) w_Mo_place rm rm.cells rm.slots 4 := cwV 4 C.2.2.2.2.1 gv_La_24 rfl rfl rfl (by decide +kernel) hR
set_option maxRecDepth 100000 in
theorem gv_La_25 : GoodIn g_tbl (wsV "SiteChoiceLaw" 25 "SiteChoice" y_Si_walk w_Si_walk) := gi_ (List.forall_mem_append.mpr ⟨List.forall_mem_cons.mpr ⟨tb_ 241 (by decide +kernel) rfl, List.forall_mem_cons.mpr ⟨tb_ 242 (by decide +kernel) rfl, List.forall_mem_cons.mpr ⟨tb_ 243 (by decide +kernel) rfl, List.forall_mem_cons.mpr ⟨tb_ 1 (by decide +kernel) rfl, fun _ h => absurd h List.not_mem_nil⟩⟩⟩⟩, u_Si_walk⟩)
set_option maxRecDepth 100000 in
theorem cv_La_25 (E : sx_E) {cc : ByteArray} (C : sx_C SC g_tbl "SiteChoiceLaw" cc E) (rm : Room) (hR : rm.frames + 1 ≤ (sx_R E).frames ∧ 8 + (5 + 11) + rm.locals ≤ (sx_R E).locals) : CallW (sx_R E) (sx_s E) (sx_a E) "SiteChoiceLaw" "SiteChoice" 25 y_Si_walk c_Si_walk 5 (some .boolean) w_Si_walk rm rm.cells rm.slots 3 := cwV 3 C.2.2.2.2.1 gv_La_25 rfl rfl rfl (by decide +kernel) hR
set_option maxRecDepth 100000 in
theorem gv_La_29 : GoodIn g_tbl (wsV "SiteChoiceLaw" 29 "SiteChoiceModel" y_Mo_walk w_Mo_walk) := gi_ (List.forall_mem_append.mpr ⟨List.forall_mem_cons.mpr ⟨tb_ 618 (by decide +kernel) rfl, List.forall_mem_cons.mpr ⟨tb_ 619 (by decide +kernel) rfl, List.forall_mem_cons.mpr ⟨tb_ 620 (by decide +kernel) rfl, List.forall_mem_cons.mpr ⟨tb_ 7 (by decide +kernel) rfl, fun _ h => absurd h List.not_mem_nil⟩⟩⟩⟩, u_Mo_walk⟩)
set_option maxRecDepth 100000 in
theorem cv_La_29 (E : sx_E) {cc : ByteArray} (C : sx_C SC g_tbl "SiteChoiceLaw" cc E) (rm : Room) (hR : rm.frames + 1 ≤ (sx_R E).frames ∧ 8 + (5 + 11) + rm.locals ≤ (sx_R E).locals) : CallW (sx_R E) (sx_s E) (sx_a E) "SiteChoiceLaw" "SiteChoiceModel" 29 y_Mo_walk c_Mo_walk 5 (some .boolean) w_Mo_walk rm rm.cells rm.slots 3 := cwV 3 C.2.2.2.2.1 gv_La_29 rfl rfl rfl (by decide +kernel) hR
set_option maxRecDepth 100000 in
theorem gv_La_30 : GoodIn g_tbl (wsV "SiteChoiceLaw" 30 "SiteChoice" y_Si_bar w_Si_bar) := gi_ (List.forall_mem_append.mpr ⟨List.forall_mem_cons.mpr ⟨tb_ 254 (by decide +kernel) rfl, List.forall_mem_cons.mpr ⟨tb_ 255 (by decide +kernel) rfl, List.forall_mem_cons.mpr ⟨tb_ 256 (by decide +kernel) rfl, List.forall_mem_cons.mpr ⟨tb_ 1 (by decide +kernel) rfl, fun _ h => absurd h List.not_mem_nil⟩⟩⟩⟩, u_Si_bar⟩)
set_option maxRecDepth 100000 in
theorem cv_La_30 (E : sx_E) {cc : ByteArray} (C : sx_C SC g_tbl "SiteChoiceLaw" cc E) (rm : Room) (hR : rm.frames + 1 ≤ (sx_R E).frames ∧ 8 + (2 + 11) + rm.locals ≤ (sx_R E).locals) : CallW (sx_R E) (sx_s E) (sx_a E) "SiteChoiceLaw" "SiteChoice" 30 y_Si_bar c_Si_bar 2 (some .boolean) w_Si_bar rm rm.cells rm.slots 1 := cwV 1 C.2.2.2.2.1 gv_La_30 rfl rfl rfl (by decide +kernel) hR
set_option maxRecDepth 100000 in
theorem gv_La_34 : GoodIn g_tbl (wsV "SiteChoiceLaw" 34 "SiteChoiceModel" y_Mo_bar w_Mo_bar) := gi_ (List.forall_mem_append.mpr ⟨List.forall_mem_cons.mpr ⟨tb_ 630 (by decide +kernel) rfl, List.forall_mem_cons.mpr ⟨tb_ 631 (by decide +kernel) rfl, List.forall_mem_cons.mpr ⟨tb_ 632 (by decide +kernel) rfl, List.forall_mem_cons.mpr ⟨tb_ 7 (by decide +kernel) rfl, fun _ h => absurd h List.not_mem_nil⟩⟩⟩⟩, u_Mo_bar⟩)
set_option maxRecDepth 100000 in
theorem cv_La_34 (E : sx_E) {cc : ByteArray} (C : sx_C SC g_tbl "SiteChoiceLaw" cc E) (rm : Room) (hR : rm.frames + 1 ≤ (sx_R E).frames ∧ 8 + (2 + 11) + rm.locals ≤ (sx_R E).locals) : CallW (sx_R E) (sx_s E) (sx_a E) "SiteChoiceLaw" "SiteChoiceModel" 34 y_Mo_bar c_Mo_bar 2 (some .boolean) w_Mo_bar rm rm.cells rm.slots 1 := cwV 1 C.2.2.2.2.1 gv_La_34 rfl rfl rfl (by decide +kernel) hR
set_option maxRecDepth 100000 in
theorem gv_La_35 : GoodIn g_tbl (wsV "SiteChoiceLaw" 35 "SiteChoice" y_Si_noise w_Si_noise) := gi_ (List.forall_mem_append.mpr ⟨List.forall_mem_cons.mpr ⟨tb_ 258 (by decide +kernel) rfl, List.forall_mem_cons.mpr ⟨tb_ 259 (by decide +kernel) rfl, List.forall_mem_cons.mpr ⟨tb_ 260 (by decide +kernel) rfl, List.forall_mem_cons.mpr ⟨tb_ 1 (by decide +kernel) rfl, fun _ h => absurd h List.not_mem_nil⟩⟩⟩⟩, u_Si_noise⟩)
set_option maxRecDepth 100000 in
theorem cv_La_35 (E : sx_E) {cc : ByteArray} (C : sx_C SC g_tbl "SiteChoiceLaw" cc E) (rm : Room) (hR : rm.frames + 1 ≤ (sx_R E).frames ∧ 8 + (4 + 11) + rm.locals ≤ (sx_R E).locals) : CallW (sx_R E) (sx_s E) (sx_a E) "SiteChoiceLaw" "SiteChoice" 35 y_Si_noise c_Si_noise 4 (some .boolean) w_Si_noise rm rm.cells rm.slots 2 := cwV 2 C.2.2.2.2.1 gv_La_35 rfl rfl rfl (by decide +kernel) hR
set_option maxRecDepth 100000 in
theorem gv_La_39 : GoodIn g_tbl (wsV "SiteChoiceLaw" 39 "SiteChoiceModel" y_Mo_noise w_Mo_noise) := gi_ (List.forall_mem_append.mpr ⟨List.forall_mem_cons.mpr ⟨tb_ 634 (by decide +kernel) rfl, List.forall_mem_cons.mpr ⟨tb_ 635 (by decide +kernel) rfl, List.forall_mem_cons.mpr ⟨tb_ 636 (by decide +kernel) rfl, List.forall_mem_cons.mpr ⟨tb_ 7 (by decide +kernel) rfl, fun _ h => absurd h List.not_mem_nil⟩⟩⟩⟩, u_Mo_noise⟩)
set_option maxRecDepth 100000 in
theorem cv_La_39 (E : sx_E) {cc : ByteArray} (C : sx_C SC g_tbl "SiteChoiceLaw" cc E) (rm : Room) (hR : rm.frames + 1 ≤ (sx_R E).frames ∧ 8 + (4 + 11) + rm.locals ≤ (sx_R E).locals) : CallW (sx_R E) (sx_s E) (sx_a E) "SiteChoiceLaw" "SiteChoiceModel" 39 y_Mo_noise c_Mo_noise 4 (some .boolean) w_Mo_noise rm rm.cells rm.slots 2 := cwV 2 C.2.2.2.2.1 gv_La_39 rfl rfl rfl (by decide +kernel) hR
set_option maxRecDepth 100000 in
theorem gv_La_40 : GoodIn g_tbl (wsV "SiteChoiceLaw" 40 "SiteChoice" y_Si_budget w_Si_budget) := gi_ (List.forall_mem_append.mpr ⟨List.forall_mem_cons.mpr ⟨tb_ 263 (by decide +kernel) rfl, List.forall_mem_cons.mpr ⟨tb_ 264 (by decide +kernel) rfl, List.forall_mem_cons.mpr ⟨tb_ 265 (by decide +kernel) rfl, List.forall_mem_cons.mpr ⟨tb_ 1 (by decide +kernel) rfl, fun _ h => absurd h List.not_mem_nil⟩⟩⟩⟩, u_Si_budget⟩)
set_option maxRecDepth 100000 in
theorem cv_La_40 (E : sx_E) {cc : ByteArray} (C : sx_C SC g_tbl "SiteChoiceLaw" cc E) (rm : Room) (hR : rm.frames + 1 ≤ (sx_R E).frames ∧ 8 + (3 + 11) + rm.locals ≤ (sx_R E).locals) : CallW (sx_R E) (sx_s E) (sx_a E) "SiteChoiceLaw" "SiteChoice" 40 y_Si_budget c_Si_budget 3 (some .boolean) w_Si_budget rm rm.cells rm.slots 1 := cwV 1 C.2.2.2.2.1 gv_La_40 rfl rfl rfl (by decide +kernel) hR
set_option maxRecDepth 100000 in
theorem gv_La_44 : GoodIn g_tbl (wsV "SiteChoiceLaw" 44 "SiteChoiceModel" y_Mo_budget w_Mo_budget) := gi_ (List.forall_mem_append.mpr ⟨List.forall_mem_cons.mpr ⟨tb_ 639 (by decide +kernel) rfl, List.forall_mem_cons.mpr ⟨tb_ 640 (by decide +kernel) rfl, List.forall_mem_cons.mpr ⟨tb_ 641 (by decide +kernel) rfl, List.forall_mem_cons.mpr ⟨tb_ 7 (by decide +kernel) rfl, fun _ h => absurd h List.not_mem_nil⟩⟩⟩⟩, u_Mo_budget⟩)
set_option maxRecDepth 100000 in
theorem cv_La_44 (E : sx_E) {cc : ByteArray} (C : sx_C SC g_tbl "SiteChoiceLaw" cc E) (rm : Room) (hR : rm.frames + 1 ≤ (sx_R E).frames ∧ 8 + (3 + 11) + rm.locals ≤ (sx_R E).locals) : CallW (sx_R E) (sx_s E) (sx_a E) "SiteChoiceLaw" "SiteChoiceModel" 44 y_Mo_budget c_Mo_budget 3 (some .boolean) w_Mo_budget rm rm.cells rm.slots 1 := cwV 1 C.2.2.2.2.1 gv_La_44 rfl rfl rfl (by decide +kernel) hR
set_option maxRecDepth 100000 in
theorem gv_La_45 : GoodIn g_tbl (wsV "SiteChoiceLaw" 45 "SiteChoice" y_Si_fair w_Si_fair) := gi_ (List.forall_mem_append.mpr ⟨List.forall_mem_cons.mpr ⟨tb_ 268 (by decide +kernel) rfl, List.forall_mem_cons.mpr ⟨tb_ 269 (by decide +kernel) rfl, List.forall_mem_cons.mpr ⟨tb_ 270 (by decide +kernel) rfl, List.forall_mem_cons.mpr ⟨tb_ 1 (by decide +kernel) rfl, fun _ h => absurd h List.not_mem_nil⟩⟩⟩⟩, u_Si_fair⟩)
set_option maxRecDepth 100000 in
theorem cv_La_45 (E : sx_E) {cc : ByteArray} (C : sx_C SC g_tbl "SiteChoiceLaw" cc E) (rm : Room) (hR : rm.frames + 1 ≤ (sx_R E).frames ∧ 8 + (4 + 11) + rm.locals ≤ (sx_R E).locals) : CallW (sx_R E) (sx_s E) (sx_a E) "SiteChoiceLaw" "SiteChoice" 45 y_Si_fair c_Si_fair 4 (some .boolean) w_Si_fair rm rm.cells rm.slots 2 := cwV 2 C.2.2.2.2.1 gv_La_45 rfl rfl rfl (by decide +kernel) hR
set_option maxRecDepth 100000 in
theorem gv_La_48 : GoodIn g_tbl (wsV "SiteChoiceLaw" 48 "SiteChoiceModel" y_Mo_fair w_Mo_fair) := gi_ (List.forall_mem_append.mpr ⟨List.forall_mem_cons.mpr ⟨tb_ 643 (by decide +kernel) rfl, List.forall_mem_cons.mpr ⟨tb_ 644 (by decide +kernel) rfl, List.forall_mem_cons.mpr ⟨tb_ 645 (by decide +kernel) rfl, List.forall_mem_cons.mpr ⟨tb_ 7 (by decide +kernel) rfl, fun _ h => absurd h List.not_mem_nil⟩⟩⟩⟩, u_Mo_fair⟩)
set_option maxRecDepth 100000 in
theorem cv_La_48 (E : sx_E) {cc : ByteArray} (C : sx_C SC g_tbl "SiteChoiceLaw" cc E) (rm : Room) (hR : rm.frames + 1 ≤ (sx_R E).frames ∧ 8 + (4 + 11) + rm.locals ≤ (sx_R E).locals) : CallW (sx_R E) (sx_s E) (sx_a E) "SiteChoiceLaw" "SiteChoiceModel" 48 y_Mo_fair c_Mo_fair 4 (some .boolean) w_Mo_fair rm rm.cells rm.slots 2 := cwV 2 C.2.2.2.2.1 gv_La_48 rfl rfl rfl (by decide +kernel) hR
set_option maxRecDepth 100000 in
theorem gv_La_49 : GoodIn g_tbl (wsV "SiteChoiceLaw" 49 "SiteChoice" y_Si_ways w_Si_ways) := gi_ (List.forall_mem_append.mpr ⟨List.forall_mem_cons.mpr ⟨tb_ 272 (by decide +kernel) rfl, List.forall_mem_cons.mpr ⟨tb_ 273 (by decide +kernel) rfl, List.forall_mem_cons.mpr ⟨tb_ 274 (by decide +kernel) rfl, List.forall_mem_cons.mpr ⟨tb_ 1 (by decide +kernel) rfl, fun _ h => absurd h List.not_mem_nil⟩⟩⟩⟩, u_Si_ways⟩)
set_option maxRecDepth 100000 in
theorem cv_La_49 (E : sx_E) {cc : ByteArray} (C : sx_C SC g_tbl "SiteChoiceLaw" cc E) (rm : Room) (hR : rm.frames + 1 ≤ (sx_R E).frames ∧ 8 + (1 + 11) + rm.locals ≤ (sx_R E).locals) : CallW (sx_R E) (sx_s E) (sx_a E) "SiteChoiceLaw" "SiteChoice" 49 y_Si_ways c_Si_ways 1 (some .long) w_Si_ways rm rm.cells rm.slots 0 := cwV 0 C.2.2.2.2.1 gv_La_49 rfl rfl rfl (by decide +kernel) hR
set_option maxRecDepth 100000 in
theorem gv_La_53 : GoodIn g_tbl (wsV "SiteChoiceLaw" 53 "SiteChoiceModel" y_Mo_ways w_Mo_ways) := gi_ (List.forall_mem_append.mpr ⟨List.forall_mem_cons.mpr ⟨tb_ 647 (by decide +kernel) rfl, List.forall_mem_cons.mpr ⟨tb_ 648 (by decide +kernel) rfl, List.forall_mem_cons.mpr ⟨tb_ 649 (by decide +kernel) rfl, List.forall_mem_cons.mpr ⟨tb_ 7 (by decide +kernel) rfl, fun _ h => absurd h List.not_mem_nil⟩⟩⟩⟩, u_Mo_ways⟩)
set_option maxRecDepth 100000 in
theorem cv_La_53 (E : sx_E) {cc : ByteArray} (C : sx_C SC g_tbl "SiteChoiceLaw" cc E) (rm : Room) (hR : rm.frames + 1 ≤ (sx_R E).frames ∧ 8 + (7 + 11) + rm.locals ≤ (sx_R E).locals) : CallW (sx_R E) (sx_s E) (sx_a E) "SiteChoiceLaw" "SiteChoiceModel" 53 y_Mo_ways c_Mo_ways 7 (some .long) w_Mo_ways rm rm.cells rm.slots 0 := cwV 0 C.2.2.2.2.1 gv_La_53 rfl rfl rfl (by decide +kernel) hR
set_option maxRecDepth 100000 in
theorem gv_La_54 : GoodIn g_tbl (wsV "SiteChoiceLaw" 54 "SiteChoice" y_Si_run w_Si_run) := gi_ (List.forall_mem_append.mpr ⟨List.forall_mem_cons.mpr ⟨tb_ 290 (by decide +kernel) rfl, List.forall_mem_cons.mpr ⟨tb_ 291 (by decide +kernel) rfl, List.forall_mem_cons.mpr ⟨tb_ 292 (by decide +kernel) rfl, List.forall_mem_cons.mpr ⟨tb_ 1 (by decide +kernel) rfl, fun _ h => absurd h List.not_mem_nil⟩⟩⟩⟩, u_Si_run⟩)
set_option maxRecDepth 100000 in
theorem cv_La_54 (E : sx_E) {cc : ByteArray} (C : sx_C SC g_tbl "SiteChoiceLaw" cc E) (rm : Room) (hR : rm.frames + 1 ≤ (sx_R E).frames ∧ 8 + (5 + 11) + rm.locals ≤ (sx_R E).locals) : CallW (sx_R E) (sx_s E) (sx_a E) "SiteChoiceLaw" "SiteChoice" 54 y_Si_run c_Si_run 5 (some .int) w_Si_run rm rm.cells rm.slots 1 := cwV 1 C.2.2.2.2.1 gv_La_54 rfl rfl rfl (by decide +kernel) hR
set_option maxRecDepth 100000 in
theorem gv_La_57 : GoodIn g_tbl (wsV "SiteChoiceLaw" 57 "SiteChoiceModel" y_Mo_run w_Mo_run) := gi_ (List.forall_mem_append.mpr ⟨List.forall_mem_cons.mpr ⟨tb_ 655 (by decide +kernel) rfl, List.forall_mem_cons.mpr ⟨tb_ 656 (by decide +kernel) rfl, List.forall_mem_cons.mpr ⟨tb_ 657 (by decide +kernel) rfl, List.forall_mem_cons.mpr ⟨tb_ 7 (by decide +kernel) rfl, fun _ h => absurd h List.not_mem_nil⟩⟩⟩⟩, u_Mo_run⟩)
set_option maxRecDepth 100000 in
theorem cv_La_57 (E : sx_E) {cc : ByteArray} (C : sx_C SC g_tbl "SiteChoiceLaw" cc E) (rm : Room) (hR : rm.frames + 1 ≤ (sx_R E).frames ∧ 8 + (6 + 11) + rm.locals ≤ (sx_R E).locals) : CallW (sx_R E) (sx_s E) (sx_a E) "SiteChoiceLaw" "SiteChoiceModel" 57 y_Mo_run c_Mo_run 6 (some .int) w_Mo_run rm rm.cells rm.slots 1 := cwV 1 C.2.2.2.2.1 gv_La_57 rfl rfl rfl (by decide +kernel) hR
set_option maxRecDepth 100000 in
theorem gv_La_58 : GoodIn g_tbl (wsV "SiteChoiceLaw" 58 "SiteChoice" y_Si_chosen w_Si_chosen) := gi_ (List.forall_mem_append.mpr ⟨List.forall_mem_cons.mpr ⟨tb_ 406 (by decide +kernel) rfl, List.forall_mem_cons.mpr ⟨tb_ 407 (by decide +kernel) rfl, List.forall_mem_cons.mpr ⟨tb_ 408 (by decide +kernel) rfl, List.forall_mem_cons.mpr ⟨tb_ 1 (by decide +kernel) rfl, fun _ h => absurd h List.not_mem_nil⟩⟩⟩⟩, u_Si_chosen⟩)
set_option maxRecDepth 100000 in
theorem cv_La_58 (E : sx_E) {cc : ByteArray} (C : sx_C SC g_tbl "SiteChoiceLaw" cc E) (rm : Room) (hR : rm.frames + 1 ≤ (sx_R E).frames ∧ 8 + (2 + 11) + rm.locals ≤ (sx_R E).locals) : CallW (sx_R E) (sx_s E) (sx_a E) "SiteChoiceLaw" "SiteChoice" 58 y_Si_chosen c_Si_chosen 2 (some .boolean) w_Si_chosen rm rm.cells rm.slots 1 := cwV 1 C.2.2.2.2.1 gv_La_58 rfl rfl rfl (by decide +kernel) hR
set_option maxRecDepth 100000 in
theorem gv_La_61 : GoodIn g_tbl (wsV "SiteChoiceLaw" 61 "SiteChoiceModel" y_Mo_chosen w_Mo_chosen) := gi_ (List.forall_mem_append.mpr ⟨List.forall_mem_cons.mpr ⟨tb_ 714 (by decide +kernel) rfl, List.forall_mem_cons.mpr ⟨tb_ 715 (by decide +kernel) rfl, List.forall_mem_cons.mpr ⟨tb_ 716 (by decide +kernel) rfl, List.forall_mem_cons.mpr ⟨tb_ 7 (by decide +kernel) rfl, fun _ h => absurd h List.not_mem_nil⟩⟩⟩⟩, u_Mo_chosen⟩)
set_option maxRecDepth 100000 in
theorem cv_La_61 (E : sx_E) {cc : ByteArray} (C : sx_C SC g_tbl "SiteChoiceLaw" cc E) (rm : Room) (hR : rm.frames + 1 ≤ (sx_R E).frames ∧ 8 + (4 + 11) + rm.locals ≤ (sx_R E).locals) : CallW (sx_R E) (sx_s E) (sx_a E) "SiteChoiceLaw" "SiteChoiceModel" 61 y_Mo_chosen c_Mo_chosen 4 (some .boolean) w_Mo_chosen rm rm.cells rm.slots 1 := cwV 1 C.2.2.2.2.1 gv_La_61 rfl rfl rfl (by decide +kernel) hR
set_option maxRecDepth 100000 in
theorem gv_La_62 : GoodIn g_tbl (wsV "SiteChoiceLaw" 62 "SiteChoice" y_Si_of w_Si_of) := gi_ (List.forall_mem_append.mpr ⟨List.forall_mem_cons.mpr ⟨tb_ 418 (by decide +kernel) rfl, List.forall_mem_cons.mpr ⟨tb_ 419 (by decide +kernel) rfl, List.forall_mem_cons.mpr ⟨tb_ 420 (by decide +kernel) rfl, List.forall_mem_cons.mpr ⟨tb_ 1 (by decide +kernel) rfl, fun _ h => absurd h List.not_mem_nil⟩⟩⟩⟩, u_Si_of⟩)
set_option maxRecDepth 100000 in
theorem cv_La_62 (E : sx_E) {cc : ByteArray} (C : sx_C SC g_tbl "SiteChoiceLaw" cc E) (rm : Room) (hR : rm.frames + 1 ≤ (sx_R E).frames ∧ 8 + (2 + 11) + rm.locals ≤ (sx_R E).locals) : CallW (sx_R E) (sx_s E) (sx_a E) "SiteChoiceLaw" "SiteChoice" 62 y_Si_of c_Si_of 2 (some .int) w_Si_of rm rm.cells rm.slots 1 := cwV 1 C.2.2.2.2.1 gv_La_62 rfl rfl rfl (by decide +kernel) hR
set_option maxRecDepth 100000 in
theorem gv_La_66 : GoodIn g_tbl (wsV "SiteChoiceLaw" 66 "SiteChoiceModel" y_Mo_of w_Mo_of) := gi_ (List.forall_mem_append.mpr ⟨List.forall_mem_cons.mpr ⟨tb_ 718 (by decide +kernel) rfl, List.forall_mem_cons.mpr ⟨tb_ 719 (by decide +kernel) rfl, List.forall_mem_cons.mpr ⟨tb_ 720 (by decide +kernel) rfl, List.forall_mem_cons.mpr ⟨tb_ 7 (by decide +kernel) rfl, fun _ h => absurd h List.not_mem_nil⟩⟩⟩⟩, u_Mo_of⟩)
set_option maxRecDepth 100000 in
theorem cv_La_66 (E : sx_E) {cc : ByteArray} (C : sx_C SC g_tbl "SiteChoiceLaw" cc E) (rm : Room) (hR : rm.frames + 1 ≤ (sx_R E).frames ∧ 8 + (2 + 11) + rm.locals ≤ (sx_R E).locals) : CallW (sx_R E) (sx_s E) (sx_a E) "SiteChoiceLaw" "SiteChoiceModel" 66 y_Mo_of c_Mo_of 2 (some .int) w_Mo_of rm rm.cells rm.slots 1 := cwV 1 C.2.2.2.2.1 gv_La_66 rfl rfl rfl (by decide +kernel) hR
set_option maxRecDepth 100000 in
theorem gv_La_67 : GoodIn g_tbl (wsV "SiteChoiceLaw" 67 "SiteChoice" y_Si_sum w_Si_sum) := gi_ (List.forall_mem_append.mpr ⟨List.forall_mem_cons.mpr ⟨tb_ 423 (by decide +kernel) rfl, List.forall_mem_cons.mpr ⟨tb_ 424 (by decide +kernel) rfl, List.forall_mem_cons.mpr ⟨tb_ 425 (by decide +kernel) rfl, List.forall_mem_cons.mpr ⟨tb_ 1 (by decide +kernel) rfl, fun _ h => absurd h List.not_mem_nil⟩⟩⟩⟩, u_Si_sum⟩)
set_option maxRecDepth 100000 in
theorem cv_La_67 (E : sx_E) {cc : ByteArray} (C : sx_C SC g_tbl "SiteChoiceLaw" cc E) (rm : Room) (hR : rm.frames + 1 ≤ (sx_R E).frames ∧ 8 + (1 + 11) + rm.locals ≤ (sx_R E).locals) : CallW (sx_R E) (sx_s E) (sx_a E) "SiteChoiceLaw" "SiteChoice" 67 y_Si_sum c_Si_sum 1 (some .long) w_Si_sum rm rm.cells rm.slots 0 := cwV 0 C.2.2.2.2.1 gv_La_67 rfl rfl rfl (by decide +kernel) hR
set_option maxRecDepth 100000 in
theorem gv_La_70 : GoodIn g_tbl (wsV "SiteChoiceLaw" 70 "SiteChoiceModel" y_Mo_sum w_Mo_sum) := gi_ (List.forall_mem_append.mpr ⟨List.forall_mem_cons.mpr ⟨tb_ 722 (by decide +kernel) rfl, List.forall_mem_cons.mpr ⟨tb_ 723 (by decide +kernel) rfl, List.forall_mem_cons.mpr ⟨tb_ 724 (by decide +kernel) rfl, List.forall_mem_cons.mpr ⟨tb_ 7 (by decide +kernel) rfl, fun _ h => absurd h List.not_mem_nil⟩⟩⟩⟩, u_Mo_sum⟩)
set_option maxRecDepth 100000 in
theorem cv_La_70 (E : sx_E) {cc : ByteArray} (C : sx_C SC g_tbl "SiteChoiceLaw" cc E) (rm : Room) (hR : rm.frames + 1 ≤ (sx_R E).frames ∧ 8 + (1 + 11) + rm.locals ≤ (sx_R E).locals) : CallW (sx_R E) (sx_s E) (sx_a E) "SiteChoiceLaw" "SiteChoiceModel" 70 y_Mo_sum c_Mo_sum 1 (some .long) w_Mo_sum rm rm.cells rm.slots 0 := cwV 0 C.2.2.2.2.1 gv_La_70 rfl rfl rfl (by decide +kernel) hR
set_option maxRecDepth 100000 in
theorem gv_La_71 : GoodIn g_tbl (wsV "SiteChoiceLaw" 71 "SiteChoice" y_Si_bound w_Si_bound) := gi_ (List.forall_mem_append.mpr ⟨List.forall_mem_cons.mpr ⟨tb_ 427 (by decide +kernel) rfl, List.forall_mem_cons.mpr ⟨tb_ 428 (by decide +kernel) rfl, List.forall_mem_cons.mpr ⟨tb_ 429 (by decide +kernel) rfl, List.forall_mem_cons.mpr ⟨tb_ 1 (by decide +kernel) rfl, fun _ h => absurd h List.not_mem_nil⟩⟩⟩⟩, u_Si_bound⟩)
set_option maxRecDepth 100000 in
theorem cv_La_71 (E : sx_E) {cc : ByteArray} (C : sx_C SC g_tbl "SiteChoiceLaw" cc E) (rm : Room) (hR : rm.frames + 1 ≤ (sx_R E).frames ∧ 8 + (1 + 11) + rm.locals ≤ (sx_R E).locals) : CallW (sx_R E) (sx_s E) (sx_a E) "SiteChoiceLaw" "SiteChoice" 71 y_Si_bound c_Si_bound 1 (some .long) w_Si_bound rm rm.cells rm.slots 0 := cwV 0 C.2.2.2.2.1 gv_La_71 rfl rfl rfl (by decide +kernel) hR
set_option maxRecDepth 100000 in
theorem gv_La_74 : GoodIn g_tbl (wsV "SiteChoiceLaw" 74 "SiteChoiceModel" y_Mo_bound w_Mo_bound) := gi_ (List.forall_mem_append.mpr ⟨List.forall_mem_cons.mpr ⟨tb_ 726 (by decide +kernel) rfl, List.forall_mem_cons.mpr ⟨tb_ 727 (by decide +kernel) rfl, List.forall_mem_cons.mpr ⟨tb_ 728 (by decide +kernel) rfl, List.forall_mem_cons.mpr ⟨tb_ 7 (by decide +kernel) rfl, fun _ h => absurd h List.not_mem_nil⟩⟩⟩⟩, u_Mo_bound⟩)
set_option maxRecDepth 100000 in
theorem cv_La_74 (E : sx_E) {cc : ByteArray} (C : sx_C SC g_tbl "SiteChoiceLaw" cc E) (rm : Room) (hR : rm.frames + 1 ≤ (sx_R E).frames ∧ 8 + (9 + 11) + rm.locals ≤ (sx_R E).locals) : CallW (sx_R E) (sx_s E) (sx_a E) "SiteChoiceLaw" "SiteChoiceModel" 74 y_Mo_bound c_Mo_bound 9 (some .long) w_Mo_bound rm rm.cells rm.slots 0 := cwV 0 C.2.2.2.2.1 gv_La_74 rfl rfl rfl (by decide +kernel) hR
set_option maxRecDepth 100000 in
theorem gv_La_75 : GoodIn g_tbl (wsV "SiteChoiceLaw" 75 "SiteChoice" y_Si_proved w_Si_proved) := gi_ (List.forall_mem_append.mpr ⟨List.forall_mem_cons.mpr ⟨tb_ 435 (by decide +kernel) rfl, List.forall_mem_cons.mpr ⟨tb_ 436 (by decide +kernel) rfl, List.forall_mem_cons.mpr ⟨tb_ 437 (by decide +kernel) rfl, List.forall_mem_cons.mpr ⟨tb_ 1 (by decide +kernel) rfl, fun _ h => absurd h List.not_mem_nil⟩⟩⟩⟩, u_Si_proved⟩)
set_option maxRecDepth 100000 in
theorem cv_La_75 (E : sx_E) {cc : ByteArray} (C : sx_C SC g_tbl "SiteChoiceLaw" cc E) (rm : Room) (hR : rm.frames + 1 ≤ (sx_R E).frames ∧ 8 + (1 + 11) + rm.locals ≤ (sx_R E).locals) : CallW (sx_R E) (sx_s E) (sx_a E) "SiteChoiceLaw" "SiteChoice" 75 y_Si_proved c_Si_proved 1 (some .boolean) w_Si_proved rm rm.cells rm.slots 0 := cwV 0 C.2.2.2.2.1 gv_La_75 rfl rfl rfl (by decide +kernel) hR
set_option maxRecDepth 100000 in
theorem gv_La_79 : GoodIn g_tbl (wsV "SiteChoiceLaw" 79 "SiteChoiceModel" y_Mo_proved w_Mo_proved) := gi_ (List.forall_mem_append.mpr ⟨List.forall_mem_cons.mpr ⟨tb_ 730 (by decide +kernel) rfl, List.forall_mem_cons.mpr ⟨tb_ 731 (by decide +kernel) rfl, List.forall_mem_cons.mpr ⟨tb_ 732 (by decide +kernel) rfl, List.forall_mem_cons.mpr ⟨tb_ 7 (by decide +kernel) rfl, fun _ h => absurd h List.not_mem_nil⟩⟩⟩⟩, u_Mo_proved⟩)
set_option maxRecDepth 100000 in
theorem cv_La_79 (E : sx_E) {cc : ByteArray} (C : sx_C SC g_tbl "SiteChoiceLaw" cc E) (rm : Room) (hR : rm.frames + 1 ≤ (sx_R E).frames ∧ 8 + (1 + 11) + rm.locals ≤ (sx_R E).locals) : CallW (sx_R E) (sx_s E) (sx_a E) "SiteChoiceLaw" "SiteChoiceModel" 79 y_Mo_proved c_Mo_proved 1 (some .boolean) w_Mo_proved rm rm.cells rm.slots 0 := cwV 0 C.2.2.2.2.1 gv_La_79 rfl rfl rfl (by decide +kernel) hR
set_option maxRecDepth 100000 in
theorem gv_La_80 : GoodIn g_tbl (wsV "SiteChoiceLaw" 80 "SiteChoice" y_Si_clash w_Si_clash) := gi_ (List.forall_mem_append.mpr ⟨List.forall_mem_cons.mpr ⟨tb_ 439 (by decide +kernel) rfl, List.forall_mem_cons.mpr ⟨tb_ 440 (by decide +kernel) rfl, List.forall_mem_cons.mpr ⟨tb_ 441 (by decide +kernel) rfl, List.forall_mem_cons.mpr ⟨tb_ 1 (by decide +kernel) rfl, fun _ h => absurd h List.not_mem_nil⟩⟩⟩⟩, u_Si_clash⟩)
set_option maxRecDepth 100000 in
theorem cv_La_80 (E : sx_E) {cc : ByteArray} (C : sx_C SC g_tbl "SiteChoiceLaw" cc E) (rm : Room) (hR : rm.frames + 1 ≤ (sx_R E).frames ∧ 8 + (2 + 11) + rm.locals ≤ (sx_R E).locals) : CallW (sx_R E) (sx_s E) (sx_a E) "SiteChoiceLaw" "SiteChoice" 80 y_Si_clash c_Si_clash 2 (some .int) w_Si_clash rm rm.cells rm.slots 1 := cwV 1 C.2.2.2.2.1 gv_La_80 rfl rfl rfl (by decide +kernel) hR
set_option maxRecDepth 100000 in
theorem gv_La_83 : GoodIn g_tbl (wsV "SiteChoiceLaw" 83 "SiteChoiceModel" y_Mo_clash w_Mo_clash) := gi_ (List.forall_mem_append.mpr ⟨List.forall_mem_cons.mpr ⟨tb_ 734 (by decide +kernel) rfl, List.forall_mem_cons.mpr ⟨tb_ 735 (by decide +kernel) rfl, List.forall_mem_cons.mpr ⟨tb_ 736 (by decide +kernel) rfl, List.forall_mem_cons.mpr ⟨tb_ 7 (by decide +kernel) rfl, fun _ h => absurd h List.not_mem_nil⟩⟩⟩⟩, u_Mo_clash⟩)
set_option maxRecDepth 100000 in
theorem cv_La_83 (E : sx_E) {cc : ByteArray} (C : sx_C SC g_tbl "SiteChoiceLaw" cc E) (rm : Room) (hR : rm.frames + 1 ≤ (sx_R E).frames ∧ 8 + (4 + 11) + rm.locals ≤ (sx_R E).locals) : CallW (sx_R E) (sx_s E) (sx_a E) "SiteChoiceLaw" "SiteChoiceModel" 83 y_Mo_clash c_Mo_clash 4 (some .int) w_Mo_clash rm rm.cells rm.slots 1 := cwV 1 C.2.2.2.2.1 gv_La_83 rfl rfl rfl (by decide +kernel) hR
set_option maxRecDepth 100000 in
theorem gv_La_84 : GoodIn g_tbl (wsV "SiteChoiceLaw" 84 "SiteChoice" y_Si_gain w_Si_gain) := gi_ (List.forall_mem_append.mpr ⟨List.forall_mem_cons.mpr ⟨tb_ 447 (by decide +kernel) rfl, List.forall_mem_cons.mpr ⟨tb_ 448 (by decide +kernel) rfl, List.forall_mem_cons.mpr ⟨tb_ 449 (by decide +kernel) rfl, List.forall_mem_cons.mpr ⟨tb_ 1 (by decide +kernel) rfl, fun _ h => absurd h List.not_mem_nil⟩⟩⟩⟩, u_Si_gain⟩)
set_option maxRecDepth 100000 in
theorem cv_La_84 (E : sx_E) {cc : ByteArray} (C : sx_C SC g_tbl "SiteChoiceLaw" cc E) (rm : Room) (hR : rm.frames + 1 ≤ (sx_R E).frames ∧ 8 + (4 + 11) + rm.locals ≤ (sx_R E).locals) : CallW (sx_R E) (sx_s E) (sx_a E) "SiteChoiceLaw" "SiteChoice" 84 y_Si_gain c_Si_gain 4 (some .long) w_Si_gain rm rm.cells rm.slots 1 := cwV 1 C.2.2.2.2.1 gv_La_84 rfl rfl rfl (by decide +kernel) hR
set_option maxRecDepth 100000 in
theorem gv_La_88 : GoodIn g_tbl (wsV "SiteChoiceLaw" 88 "SiteChoiceModel" y_Mo_gain w_Mo_gain) := gi_ (List.forall_mem_append.mpr ⟨List.forall_mem_cons.mpr ⟨tb_ 738 (by decide +kernel) rfl, List.forall_mem_cons.mpr ⟨tb_ 739 (by decide +kernel) rfl, List.forall_mem_cons.mpr ⟨tb_ 740 (by decide +kernel) rfl, List.forall_mem_cons.mpr ⟨tb_ 7 (by decide +kernel) rfl, fun _ h => absurd h List.not_mem_nil⟩⟩⟩⟩, u_Mo_gain⟩)
set_option maxRecDepth 100000 in
theorem cv_La_88 (E : sx_E) {cc : ByteArray} (C : sx_C SC g_tbl "SiteChoiceLaw" cc E) (rm : Room) (hR : rm.frames + 1 ≤ (sx_R E).frames ∧ 8 + (4 + 11) + rm.locals ≤ (sx_R E).locals) : CallW (sx_R E) (sx_s E) (sx_a E) "SiteChoiceLaw" "SiteChoiceModel" 88 y_Mo_gain c_Mo_gain 4 (some .long) w_Mo_gain rm rm.cells rm.slots 1 := cwV 1 C.2.2.2.2.1 gv_La_88 rfl rfl rfl (by decide +kernel) hR
set_option maxRecDepth 100000 in
theorem gv_La_89 : GoodIn g_tbl (wsV "SiteChoiceLaw" 89 "SiteChoice" y_Si_improve w_Si_improve) := gi_ (List.forall_mem_append.mpr ⟨List.forall_mem_cons.mpr ⟨tb_ 451 (by decide +kernel) rfl, List.forall_mem_cons.mpr ⟨tb_ 452 (by decide +kernel) rfl, List.forall_mem_cons.mpr ⟨tb_ 453 (by decide +kernel) rfl, List.forall_mem_cons.mpr ⟨tb_ 1 (by decide +kernel) rfl, fun _ h => absurd h List.not_mem_nil⟩⟩⟩⟩, u_Si_improve⟩)
set_option maxRecDepth 100000 in
theorem cv_La_89 (E : sx_E) {cc : ByteArray} (C : sx_C SC g_tbl "SiteChoiceLaw" cc E) (rm : Room) (hR : rm.frames + 1 ≤ (sx_R E).frames ∧ 8 + (4 + 11) + rm.locals ≤ (sx_R E).locals) : CallW (sx_R E) (sx_s E) (sx_a E) "SiteChoiceLaw" "SiteChoice" 89 y_Si_improve c_Si_improve 4 (some .int) w_Si_improve rm rm.cells rm.slots 1 := cwV 1 C.2.2.2.2.1 gv_La_89 rfl rfl rfl (by decide +kernel) hR
set_option maxRecDepth 100000 in
theorem gv_La_92 : GoodIn g_tbl (wsV "SiteChoiceLaw" 92 "SiteChoiceModel" y_Mo_improve w_Mo_improve) := gi_ (List.forall_mem_append.mpr ⟨List.forall_mem_cons.mpr ⟨tb_ 742 (by decide +kernel) rfl, List.forall_mem_cons.mpr ⟨tb_ 743 (by decide +kernel) rfl, List.forall_mem_cons.mpr ⟨tb_ 744 (by decide +kernel) rfl, List.forall_mem_cons.mpr ⟨tb_ 7 (by decide +kernel) rfl, fun _ h => absurd h List.not_mem_nil⟩⟩⟩⟩, u_Mo_improve⟩)
set_option maxRecDepth 100000 in
theorem cv_La_92 (E : sx_E) {cc : ByteArray} (C : sx_C SC g_tbl "SiteChoiceLaw" cc E) (rm : Room) (hR : rm.frames + 1 ≤ (sx_R E).frames ∧ 8 + (3 + 11) + rm.locals ≤ (sx_R E).locals) : CallW (sx_R E) (sx_s E) (sx_a E) "SiteChoiceLaw" "SiteChoiceModel" 92 y_Mo_improve c_Mo_improve 3 (some .int) w_Mo_improve rm rm.cells rm.slots 1 := cwV 1 C.2.2.2.2.1 gv_La_92 rfl rfl rfl (by decide +kernel) hR
set_option maxRecDepth 100000 in
theorem gv_La_93 : GoodIn g_tbl (wsV "SiteChoiceLaw" 93 "SiteChoice" y_Si_years w_Si_years) := gi_ (List.forall_mem_append.mpr ⟨List.forall_mem_cons.mpr ⟨tb_ 477 (by decide +kernel) rfl, List.forall_mem_cons.mpr ⟨tb_ 478 (by decide +kernel) rfl, List.forall_mem_cons.mpr ⟨tb_ 479 (by decide +kernel) rfl, List.forall_mem_cons.mpr ⟨tb_ 1 (by decide +kernel) rfl, fun _ h => absurd h List.not_mem_nil⟩⟩⟩⟩, u_Si_years⟩)
set_option maxRecDepth 100000 in
theorem cv_La_93 (E : sx_E) {cc : ByteArray} (C : sx_C SC g_tbl "SiteChoiceLaw" cc E) (rm : Room) (hR : rm.frames + 1 ≤ (sx_R E).frames ∧ 8 + (2 + 11) + rm.locals ≤ (sx_R E).locals) : CallW (sx_R E) (sx_s E) (sx_a E) "SiteChoiceLaw" "SiteChoice" 93 y_Si_years c_Si_years 2 (some .int) w_Si_years rm rm.cells rm.slots 1 := cwV 1 C.2.2.2.2.1 gv_La_93 rfl rfl rfl (by decide +kernel) hR
set_option maxRecDepth 100000 in
theorem gv_La_96 : GoodIn g_tbl (wsV "SiteChoiceLaw" 96 "SiteChoiceModel" y_Mo_years w_Mo_years) := gi_ (List.forall_mem_append.mpr ⟨List.forall_mem_cons.mpr ⟨tb_ 750 (by decide +kernel) rfl, List.forall_mem_cons.mpr ⟨tb_ 751 (by decide +kernel) rfl, List.forall_mem_cons.mpr ⟨tb_ 752 (by decide +kernel) rfl, List.forall_mem_cons.mpr ⟨tb_ 7 (by decide +kernel) rfl, fun _ h => absurd h List.not_mem_nil⟩⟩⟩⟩, u_Mo_years⟩)
set_option maxRecDepth 100000 in
theorem cv_La_96 (E : sx_E) {cc : ByteArray} (C : sx_C SC g_tbl "SiteChoiceLaw" cc E) (rm : Room) (hR : rm.frames + 1 ≤ (sx_R E).frames ∧ 8 + (9 + 11) + rm.locals ≤ (sx_R E).locals) : CallW (sx_R E) (sx_s E) (sx_a E) "SiteChoiceLaw" "SiteChoiceModel" 96 y_Mo_years c_Mo_years 9 (some .int) w_Mo_years rm rm.cells rm.slots 1 := cwV 1 C.2.2.2.2.1 gv_La_96 rfl rfl rfl (by decide +kernel) hR
set_option maxRecDepth 100000 in
theorem gv_La_97 : GoodIn g_tbl (wsV "SiteChoiceLaw" 97 "SiteChoice" y_Si_open w_Si_open) := gi_ (List.forall_mem_append.mpr ⟨List.forall_mem_cons.mpr ⟨tb_ 510 (by decide +kernel) rfl, List.forall_mem_cons.mpr ⟨tb_ 511 (by decide +kernel) rfl, List.forall_mem_cons.mpr ⟨tb_ 512 (by decide +kernel) rfl, List.forall_mem_cons.mpr ⟨tb_ 1 (by decide +kernel) rfl, fun _ h => absurd h List.not_mem_nil⟩⟩⟩⟩, u_Si_open⟩)
set_option maxRecDepth 100000 in
theorem cv_La_97 (E : sx_E) {cc : ByteArray} (C : sx_C SC g_tbl "SiteChoiceLaw" cc E) (rm : Room) (hR : rm.frames + 1 ≤ (sx_R E).frames ∧ 8 + (3 + 11) + rm.locals ≤ (sx_R E).locals) : CallW (sx_R E) (sx_s E) (sx_a E) "SiteChoiceLaw" "SiteChoice" 97 y_Si_open c_Si_open 3 (some .int) w_Si_open rm rm.cells rm.slots 2 := cwV 2 C.2.2.2.2.1 gv_La_97 rfl rfl rfl (by decide +kernel) hR
set_option maxRecDepth 100000 in
theorem gv_La_101 : GoodIn g_tbl (wsV "SiteChoiceLaw" 101 "SiteChoiceModel" y_Mo_open w_Mo_open) := gi_ (List.forall_mem_append.mpr ⟨List.forall_mem_cons.mpr ⟨tb_ 763 (by decide +kernel) rfl, List.forall_mem_cons.mpr ⟨tb_ 764 (by decide +kernel) rfl, List.forall_mem_cons.mpr ⟨tb_ 765 (by decide +kernel) rfl, List.forall_mem_cons.mpr ⟨tb_ 7 (by decide +kernel) rfl, fun _ h => absurd h List.not_mem_nil⟩⟩⟩⟩, u_Mo_open⟩)
set_option maxRecDepth 100000 in
theorem cv_La_101 (E : sx_E) {cc : ByteArray} (C : sx_C SC g_tbl "SiteChoiceLaw" cc E) (rm : Room) (hR : rm.frames + 1 ≤ (sx_R E).frames ∧ 8 + (3 + 11) + rm.locals ≤ (sx_R E).locals) : CallW (sx_R E) (sx_s E) (sx_a E) "SiteChoiceLaw" "SiteChoiceModel" 101 y_Mo_open c_Mo_open 3 (some .int) w_Mo_open rm rm.cells rm.slots 2 := cwV 2 C.2.2.2.2.1 gv_La_101 rfl rfl rfl (by decide +kernel) hR
end
section
/-! the world after both constructors: which cell is what, and what refers to what -/
def shL : Nat → Nat × Nat := fun k => match k with
  | 0 => (0, 5)
  | 1 => (0, 0)
  | 2 => (3, 6)
  | 3 => (3, 6)
  | 4 => (4, 6)
  | 5 => (3, 5)
  | 6 => (3, 5)
  | 7 => (3, 5)
  | 8 => (3, 5)
  | 9 => (3, 5)
  | 10 => (3, 5)
  | 11 => (3, 5)
  | 12 => (3, 5)
  | 13 => (3, 5)
  | 14 => (3, 5)
  | 15 => (3, 5)
  | 16 => (2, 5)
  | 17 => (0, 1)
  | 18 => (3, 6)
  | 19 => (3, 5)
  | 20 => (4, 6)
  | 21 => (3, 5)
  | 22 => (3, 5)
  | 23 => (3, 5)
  | 24 => (3, 5)
  | 25 => (3, 5)
  | 26 => (3, 5)
  | 27 => (2, 32)
  | 28 => (3, 32)
  | 29 => (3, 7)
  | 30 => (3, 5)
  | 31 => (1, 6)
  | 32 => (1, 6)
  | 33 => (0, 2)
  | 34 => (1, 6)
  | 35 => (0, 3)
  | 36 => (1, 6)
  | 37 => (0, 4)
  | 38 => (1, 6)
  | 39 => (4, 6)
  | 40 => (3, 32)
  | 41 => (3, 32)
  | 42 => (3, 32)
  | 43 => (3, 32)
  | 44 => (3, 32)
  | 45 => (3, 32)
  | 46 => (4, 6)
  | 47 => (3, 32)
  | 48 => (3, 32)
  | 49 => (3, 32)
  | 50 => (3, 32)
  | 51 => (3, 32)
  | 52 => (3, 32)
  | 53 => (0, 6)
  | 54 => (3, 6)
  | 55 => (3, 6)
  | 56 => (3, 5)
  | 57 => (3, 5)
  | 58 => (3, 5)
  | 59 => (3, 5)
  | 60 => (3, 5)
  | 61 => (2, 5)
  | 62 => (3, 30)
  | 63 => (1, 6)
  | 64 => (1, 6)
  | 65 => (1, 6)
  | 66 => (3, 6)
  | 67 => (1, 6)
  | 68 => (3, 192)
  | 69 => (3, 192)
  | 70 => (3, 224)
  | _ => (0, 0)
def rfL : Nat → Nat → Option Nat := fun k => match k with
  | 0 => fun j => match j with
    | 0 => some 1
    | 1 => some 17
    | 2 => some 33
    | 3 => some 35
    | 4 => some 37
    | _ => none
  | 1 => fun j => match j with
    | 3 => some 2
    | 4 => some 3
    | 5 => some 4
    | 6 => some 11
    | 7 => some 12
    | 8 => some 13
    | 9 => some 14
    | 10 => some 15
    | 11 => some 16
    | _ => none
  | 4 => fun j => if j < 6 then some (4 + 1 + j) else none
  | 17 => fun j => match j with
    | 2 => some 18
    | 3 => some 19
    | 4 => some 20
    | 5 => some 27
    | 6 => some 28
    | 7 => some 29
    | 8 => some 30
    | 9 => some 31
    | 10 => some 32
    | _ => none
  | 20 => fun j => if j < 6 then some (20 + 1 + j) else none
  | 33 => fun j => match j with
    | 2 => some 34
    | _ => none
  | 35 => fun j => match j with
    | 1 => some 36
    | _ => none
  | 37 => fun j => match j with
    | 1 => some 38
    | 2 => some 39
    | 3 => some 46
    | _ => none
  | 39 => fun j => if j < 6 then some (39 + 1 + j) else none
  | 46 => fun j => if j < 6 then some (46 + 1 + j) else none
  | 53 => fun j => match j with
    | 2 => some 54
    | 3 => some 55
    | 4 => some 56
    | 5 => some 57
    | 6 => some 58
    | 7 => some 59
    | 8 => some 60
    | 9 => some 61
    | 10 => some 62
    | 13 => some 63
    | 18 => some 64
    | 19 => some 65
    | 20 => some 66
    | 21 => some 67
    | 22 => some 68
    | 23 => some 69
    | 24 => some 70
    | _ => none
  | _ => fun _ => none
abbrev GL : sx_G := (71, shL, rfL)
theorem gl_4 : ∀ j, j < 6 → GL.2.1 (4 + 1 + j) = (3, 5) := by decide
theorem gl_20 : ∀ j, j < 6 → GL.2.1 (20 + 1 + j) = (3, 5) := by decide
theorem gl_39 : ∀ j, j < 6 → GL.2.1 (39 + 1 + j) = (3, 32) := by decide
theorem gl_46 : ∀ j, j < 6 → GL.2.1 (46 + 1 + j) = (3, 32) := by decide
abbrev rmk (f lo : Nat) : Room := { frames := f, cells := 0, slots := 0, locals := lo }
/-- an answer that is true or false -/
def bz (p : Prop) (r : Option sx_V) : Prop := ∃ b : Int, r = some (sx_I b) ∧ ((b = 1 ∧ p) ∨ (b = 0 ∧ ¬ p))
/-- what holds of the town's cells -/
def tw (M : sx_M0) : Prop := (0 ≤ M 1 0 ∧ M 1 0 ≤ 6) ∧ (0 ≤ M 1 1 ∧ M 1 1 ≤ 5) ∧ (0 ≤ M 1 2 ∧ M 1 2 ≤ 10000000) ∧ (∀ d, d < 6 → 0 ≤ M 2 d ∧ M 2 d ≤ 100) ∧ (∀ d, d < 6 → 0 ≤ M 3 d ∧ M 3 d ≤ 10000) ∧ (∀ d p, d < 6 → p < 5 → -1 ≤ M (4 + 1 + d) p ∧ M (4 + 1 + d) p ≤ 10000) ∧ (∀ p, p < 5 → -1000 ≤ M 11 p ∧ M 11 p ≤ 1000) ∧ (∀ p, p < 5 → -1000 ≤ M 12 p ∧ M 12 p ≤ 1000) ∧ (∀ p, p < 5 → 0 ≤ M 13 p ∧ M 13 p ≤ 1000000) ∧ (∀ p, p < 5 → 0 ≤ M 14 p ∧ M 14 p ≤ 1000) ∧ (∀ p, p < 5 → 0 ≤ M 15 p ∧ M 15 p ≤ 3000) ∧ (∀ p, p < 5 → M 16 p = 0 ∨ M 16 p = 1)
/-- the metres to a place that isn't barred and to which the district can go, or -1 -/
def rcS (M : sx_M0) (d p : Nat) : Int := if (d : Int) < M 1 0 ∧ (p : Int) < M 1 1 ∧ M 16 p = 0 ∧ M (4 + 1 + d) p ≠ -1 ∧ M (4 + 1 + d) p ≤ M 3 d then M (4 + 1 + d) p else -1
set_option maxRecDepth 100000 in
set_option maxHeartbeats 4000000 in
theorem ct_Si_isWithin (l : Launch) (D : va_G) (tc : Nat → ClassId) (M : sx_M0) (x lo hi : Int) (hx : sx_r64 x) (hlo : sx_r64 lo) (hhi : sx_r64 hi) : sx_Met SC l D tc y_Si_isWithin w_Si_isWithin (rmk 0 0) [sx_J (x), sx_J (lo), sx_J (hi)] GL M (fun r G' M' => G' = GL ∧ M' = M ∧ bz (lo ≤ x ∧ x ≤ hi) r) := by
  refine sx_enter (by decide) rfl (Nat.le_of_ble_eq_true rfl) (Ts := g_tbl) (fun _ h => List.mem_cons_of_mem _ h) (fun E C Rr hnm hnL => ?_)
  refine sx_lload_n C 0 d_Si_isWithin_0 rfl rfl ?_
  refine sx_lload_n C 1 d_Si_isWithin_1 rfl rfl ?_
  refine sx_lcmp_lt C 17 ⟨by omega, by omega⟩ ⟨by omega, by omega⟩ d_Si_isWithin_2 d_Si_isWithin_3 (by decide) (fun c3 => ?_) (fun c3 => ?_)
  · refine sx_iconst C d_Si_isWithin_17 ?_
    refine sx_zreturn C Rr (by omega) rfl d_Si_isWithin_18 ?_
    exact ⟨rfl, rfl, 0, rfl, Or.inr ⟨rfl, by omega⟩⟩
  · refine sx_lload_n C 0 d_Si_isWithin_6 rfl rfl ?_
    refine sx_lload C 2 d_Si_isWithin_7 rfl ?_
    refine sx_lcmp_gt C 17 ⟨by omega, by omega⟩ ⟨by omega, by omega⟩ d_Si_isWithin_9 d_Si_isWithin_10 (by decide) (fun c10 => ?_) (fun c10 => ?_)
    · refine sx_iconst C d_Si_isWithin_17 ?_
      refine sx_zreturn C Rr (by omega) rfl d_Si_isWithin_18 ?_
      exact ⟨rfl, rfl, 0, rfl, Or.inr ⟨rfl, by omega⟩⟩
    · refine sx_iconst C d_Si_isWithin_13 ?_
      refine sx_goto C 18 d_Si_isWithin_14 (by decide) ?_
      refine sx_zreturn C Rr (by omega) rfl d_Si_isWithin_18 ?_
      exact ⟨rfl, rfl, 1, rfl, Or.inl ⟨rfl, by omega⟩⟩
set_option maxRecDepth 100000 in
set_option maxHeartbeats 4000000 in
theorem ct_To_hasDistrict (l : Launch) (D : va_G) (tc : Nat → ClassId) (M : sx_M0) (hT : tw M) (x : Int) (hx : sx_r32 x) : sx_Met SC l D tc y_To_hasDistrict w_To_hasDistrict (rmk 0 0) [sx_A (1), sx_I (x)] GL M (fun r G' M' => G' = GL ∧ M' = M ∧ bz (0 ≤ x ∧ x < M 1 0) r) := by
  refine sx_enter (by decide) rfl (Nat.le_of_ble_eq_true rfl) (Ts := g_tbl) (fun _ h => List.mem_cons_of_mem _ h) (fun E C Rr hnm hnL => ?_)
  have h0 := hT.1
  have h1 := hT.2.1
  refine sx_iload_n C 1 d_To_hasDistrict_0 rfl rfl ?_
  refine sx_if_lt C 16 ⟨by omega, by omega⟩ d_To_hasDistrict_1 (by decide) (fun c1 => ?_) (fun c1 => ?_)
  · refine sx_iconst C d_To_hasDistrict_16 ?_
    refine sx_zreturn C Rr (by omega) rfl d_To_hasDistrict_17 ?_
    exact ⟨rfl, rfl, 0, rfl, Or.inr ⟨rfl, by omega⟩⟩
  · refine sx_iload_n C 1 d_To_hasDistrict_4 rfl rfl ?_
    refine sx_aload_n C 0 d_To_hasDistrict_5 rfl rfl ?_
    refine sx_geti C f_To_9 (by decide) rfl d_To_hasDistrict_6 ?_
    refine sx_icmp_ge C 16 ⟨by omega, by omega⟩ ⟨by omega, by omega⟩ d_To_hasDistrict_9 (by decide) (fun c9 => ?_) (fun c9 => ?_)
    · refine sx_iconst C d_To_hasDistrict_16 ?_
      refine sx_zreturn C Rr (by omega) rfl d_To_hasDistrict_17 ?_
      exact ⟨rfl, rfl, 0, rfl, Or.inr ⟨rfl, by omega⟩⟩
    · refine sx_iconst C d_To_hasDistrict_12 ?_
      refine sx_goto C 17 d_To_hasDistrict_13 (by decide) ?_
      refine sx_zreturn C Rr (by omega) rfl d_To_hasDistrict_17 ?_
      exact ⟨rfl, rfl, 1, rfl, Or.inl ⟨rfl, by omega⟩⟩
set_option maxRecDepth 100000 in
set_option maxHeartbeats 4000000 in
theorem ct_To_hasPlace (l : Launch) (D : va_G) (tc : Nat → ClassId) (M : sx_M0) (hT : tw M) (x : Int) (hx : sx_r32 x) : sx_Met SC l D tc y_To_hasPlace w_To_hasPlace (rmk 0 0) [sx_A (1), sx_I (x)] GL M (fun r G' M' => G' = GL ∧ M' = M ∧ bz (0 ≤ x ∧ x < M 1 1) r) := by
  refine sx_enter (by decide) rfl (Nat.le_of_ble_eq_true rfl) (Ts := g_tbl) (fun _ h => List.mem_cons_of_mem _ h) (fun E C Rr hnm hnL => ?_)
  have h0 := hT.1
  have h1 := hT.2.1
  refine sx_iload_n C 1 d_To_hasPlace_0 rfl rfl ?_
  refine sx_if_lt C 16 ⟨by omega, by omega⟩ d_To_hasPlace_1 (by decide) (fun c1 => ?_) (fun c1 => ?_)
  · refine sx_iconst C d_To_hasPlace_16 ?_
    refine sx_zreturn C Rr (by omega) rfl d_To_hasPlace_17 ?_
    exact ⟨rfl, rfl, 0, rfl, Or.inr ⟨rfl, by omega⟩⟩
  · refine sx_iload_n C 1 d_To_hasPlace_4 rfl rfl ?_
    refine sx_aload_n C 0 d_To_hasPlace_5 rfl rfl ?_
    refine sx_geti C f_To_15 (by decide) rfl d_To_hasPlace_6 ?_
    refine sx_icmp_ge C 16 ⟨by omega, by omega⟩ ⟨by omega, by omega⟩ d_To_hasPlace_9 (by decide) (fun c9 => ?_) (fun c9 => ?_)
    · refine sx_iconst C d_To_hasPlace_16 ?_
      refine sx_zreturn C Rr (by omega) rfl d_To_hasPlace_17 ?_
      exact ⟨rfl, rfl, 0, rfl, Or.inr ⟨rfl, by omega⟩⟩
    · refine sx_iconst C d_To_hasPlace_12 ?_
      refine sx_goto C 17 d_To_hasPlace_13 (by decide) ?_
      refine sx_zreturn C Rr (by omega) rfl d_To_hasPlace_17 ?_
      exact ⟨rfl, rfl, 1, rfl, Or.inl ⟨rfl, by omega⟩⟩
set_option maxRecDepth 100000 in
set_option maxHeartbeats 4000000 in
theorem ct_To_reach (l : Launch) (D : va_G) (tc : Nat → ClassId) (M : sx_M0) (hT : tw M) (d p : Nat) (hd : d ≤ 6) (hp : p ≤ 5) : sx_Met SC l D tc y_To_reach w_To_reach (rmk 1 40) [sx_A (1), sx_I (((d : Nat) : Int)), sx_I (((p : Nat) : Int))] GL M (fun r G' M' => G' = GL ∧ M' = M ∧ r = some (sx_J (rcS M d p))) := by
  refine sx_enter (by decide) rfl (Nat.le_of_ble_eq_true rfl) (Ts := g_tbl) (fun _ h => List.mem_cons_of_mem _ h) (fun E C Rr hnm hnL => ?_)
  have h0 := hT.1
  have h1 := hT.2.1
  refine sx_aload_n C 0 d_To_reach_0 rfl rfl ?_
  refine sx_iload_n C 1 d_To_reach_1 rfl rfl ?_
  refine sx_callV (n := 71) (As := [sx_I (((d : Nat) : Int))]) (st := []) C (ct_To_hasDistrict _ _ _ M hT ((d : Nat) : Int) (by constructor <;> omega)) rfl (by decide) rfl (cv_To_65 E C _ (by rw [Rr.2.2]; decide)) (Nat.le_of_ble_eq_true rfl) d_To_reach_2 (by rw [Rr.2.2]; decide) (by decide) rfl rfl rfl (fun r2 G2 M2 hpo _ => ?_)
  obtain ⟨e1, e2, b2, rfl, hb2⟩ := hpo
  rw [e1, e2]
  show sx_X SC E (0, 0) GL M 5 [(0, sx_A (1)), (1, sx_I (((d : Nat) : Int))), (2, sx_I (((p : Nat) : Int)))] [sx_I (b2)]
  refine sx_if_eq C 25 ⟨by omega, by omega⟩ d_To_reach_5 (by decide) (fun c5 => ?_) (fun c5 => ?_)
  · refine sx_ldc2 (v := (-1)) C (-1) (tb_ 226 (by decide +kernel) rfl) (by decide) d_To_reach_25 ?_
    refine sx_lreturn C Rr rfl d_To_reach_28 ?_
    exact ⟨rfl, rfl, by rw [rcS, if_neg (by omega)]⟩
  · refine sx_aload_n C 0 d_To_reach_8 rfl rfl ?_
    refine sx_iload_n C 2 d_To_reach_9 rfl rfl ?_
    refine sx_callV (n := 71) (As := [sx_I (((p : Nat) : Int))]) (st := []) C (ct_To_hasPlace _ _ _ M hT ((p : Nat) : Int) (by constructor <;> omega)) rfl (by decide) rfl (cv_To_69 E C _ (by rw [Rr.2.2]; decide)) (Nat.le_of_ble_eq_true rfl) d_To_reach_10 (by rw [Rr.2.2]; decide) (by decide) rfl rfl rfl (fun r10 G10 M10 hpo _ => ?_)
    obtain ⟨e1, e2, b10, rfl, hb10⟩ := hpo
    rw [e1, e2]
    show sx_X SC E (0, 0) GL M 13 [(0, sx_A (1)), (1, sx_I (((d : Nat) : Int))), (2, sx_I (((p : Nat) : Int)))] [sx_I (b10)]
    refine sx_if_eq C 25 ⟨by omega, by omega⟩ d_To_reach_13 (by decide) (fun c13 => ?_) (fun c13 => ?_)
    · refine sx_ldc2 (v := (-1)) C (-1) (tb_ 226 (by decide +kernel) rfl) (by decide) d_To_reach_25 ?_
      refine sx_lreturn C Rr rfl d_To_reach_28 ?_
      exact ⟨rfl, rfl, by rw [rcS, if_neg (by omega)]⟩
    · have h16 := hT.2.2.2.2.2.2.2.2.2.2.2 p (by omega)
      refine sx_aload_n C 0 d_To_reach_16 rfl rfl ?_
      refine sx_getr C f_To_51 16 (by decide) rfl rfl d_To_reach_17 ?_
      refine sx_iload_n C 2 d_To_reach_20 rfl rfl ?_
      refine sx_zaload C p (by decide) rfl rfl rfl (by omega) (by decide) d_To_reach_21 ?_
      refine sx_if_eq C 29 ⟨by omega, by omega⟩ d_To_reach_22 (by decide) (fun c22 => ?_) (fun c22 => ?_)
      · have hm := hT.2.2.2.2.2.1 d p (by omega) (by omega)
        have hq := hT.2.2.2.2.1 d (by omega)
        refine sx_aload_n C 0 d_To_reach_29 rfl rfl ?_
        refine sx_getr C f_To_33 4 (by decide) rfl rfl d_To_reach_30 ?_
        refine sx_iload_n C 1 d_To_reach_33 rfl rfl ?_
        refine sx_aaload C d (4 + 1 + d) (by decide) rfl rfl rfl (by omega) (by decide) (if_pos (by omega)) d_To_reach_34 ?_
        refine sx_iload_n C 2 d_To_reach_35 rfl rfl ?_
        refine sx_laload C p (by show (4 + 1 + d) < 71; omega) (gl_4 _ (by omega)) rfl rfl (by omega) (by decide) d_To_reach_36 ?_
        refine sx_lstore_n (lv' := [(3, sx_J (M (4 + 1 + d) p)), (0, sx_A (1)), (1, sx_I (((d : Nat) : Int))), (2, sx_I (((p : Nat) : Int)))]) C d_To_reach_37 rfl (by rw [hnL]; decide) rfl ?_
        refine sx_lload_n C 0 d_To_reach_38 rfl rfl ?_
        refine sx_ldc2 (v := (-1)) C (-1) (tb_ 226 (by decide +kernel) rfl) (by decide) d_To_reach_39 ?_
        refine sx_lcmp_eq C 61 ⟨by omega, by omega⟩ ⟨by omega, by omega⟩ d_To_reach_42 d_To_reach_43 (by decide) (fun c43 => ?_) (fun c43 => ?_)
        · refine sx_ldc2 (v := (-1)) C (-1) (tb_ 226 (by decide +kernel) rfl) (by decide) d_To_reach_61 ?_
          refine sx_lreturn C Rr rfl d_To_reach_64 ?_
          exact ⟨rfl, rfl, by rw [rcS, if_neg (by omega)]⟩
        · refine sx_lload_n C 0 d_To_reach_46 rfl rfl ?_
          refine sx_aload_n C 1 d_To_reach_47 rfl rfl ?_
          refine sx_getr C f_To_28 3 (by decide) rfl rfl d_To_reach_48 ?_
          refine sx_iload_n C 2 d_To_reach_51 rfl rfl ?_
          refine sx_laload C d (by decide) rfl rfl rfl (by omega) (by decide) d_To_reach_52 ?_
          refine sx_lcmp_gt C 61 ⟨by omega, by omega⟩ ⟨by omega, by omega⟩ d_To_reach_53 d_To_reach_54 (by decide) (fun c54 => ?_) (fun c54 => ?_)
          · refine sx_ldc2 (v := (-1)) C (-1) (tb_ 226 (by decide +kernel) rfl) (by decide) d_To_reach_61 ?_
            refine sx_lreturn C Rr rfl d_To_reach_64 ?_
            exact ⟨rfl, rfl, by rw [rcS, if_neg (by omega)]⟩
          · refine sx_lload_n C 0 d_To_reach_57 rfl rfl ?_
            refine sx_goto C 64 d_To_reach_58 (by decide) ?_
            refine sx_lreturn C Rr rfl d_To_reach_64 ?_
            exact ⟨rfl, rfl, by rw [rcS, if_pos (by omega)]⟩
      · refine sx_ldc2 (v := (-1)) C (-1) (tb_ 226 (by decide +kernel) rfl) (by decide) d_To_reach_25 ?_
        refine sx_lreturn C Rr rfl d_To_reach_28 ?_
        exact ⟨rfl, rfl, by rw [rcS, if_neg (by omega)]⟩
theorem rcS_bd {M : sx_M0} (hT : tw M) {d p : Nat} (hd : d < 6) (hp : p < 5) : -1 ≤ rcS M d p ∧ rcS M d p ≤ 10000 := by
  unfold rcS
  have := hT.2.2.2.2.2.1 d p hd hp
  split <;> omega
/-- of the first n places, how many are reached -/
def crS (M : sx_M0) (d : Nat) : Nat → Int
  | 0 => 0
  | p + 1 => crS M d p + (if rcS M d p = -1 then 0 else 1)
theorem crS_bd (M : sx_M0) (d : Nat) : ∀ n, 0 ≤ crS M d n ∧ crS M d n ≤ n
  | 0 => by simp [crS]
  | n + 1 => by
    have := crS_bd M d n
    unfold crS
    split <;> omega
set_option maxRecDepth 100000 in
set_option maxHeartbeats 4000000 in
theorem lp_To_countReached  (M : sx_M0) (hT : tw M) (d : Nat) (hd : d < 6) {E : sx_E} (C : sx_C SC g_tbl "SiteChoice$Town" c_To_countReached E) (Rr : sx_Ret SC (some .long) (rmk 2 80) (fun r G' M' => G' = GL ∧ M' = M ∧ r = some (sx_J (crS M d (M 1 1).toNat))) E) (hnL : sx_nL E = 5) : ∀ (nF : Nat) (p : Nat) (c : Int), (M 1 1).toNat - p < nF → c = crS M d p → p ≤ (M 1 1).toNat → sx_X SC E (0, 0) GL M 5 [(4, sx_I (((p : Nat) : Int))), (2, sx_J (c)), (0, sx_A (1)), (1, sx_I (((d : Nat) : Int)))] [] := by
  intro nF
  induction nF with
  | zero => intro p c h; omega
  | succ nF ih =>
    intro p c hn h1 h2
    have g1 := hT.2.1
    refine sx_iload C 0 d_To_countReached_5 rfl ?_
    refine sx_aload_n C 2 d_To_countReached_7 rfl rfl ?_
    refine sx_geti C f_To_15 (by decide) rfl d_To_countReached_8 ?_
    refine sx_icmp_ge C 38 ⟨by omega, by omega⟩ ⟨by omega, by omega⟩ d_To_countReached_11 (by decide) (fun c11 => ?_) (fun c11 => ?_)
    · refine sx_lload_n C 1 d_To_countReached_38 rfl rfl ?_
      refine sx_lreturn C Rr rfl d_To_countReached_39 ?_
      exact ⟨rfl, rfl, by rw [h1, show p = (M 1 1).toNat by omega]⟩
    · refine sx_aload_n C 2 d_To_countReached_14 rfl rfl ?_
      refine sx_iload_n C 3 d_To_countReached_15 rfl rfl ?_
      refine sx_iload C 0 d_To_countReached_16 rfl ?_
      refine sx_callV (n := 71) (As := [sx_I (((d : Nat) : Int)), sx_I (((p : Nat) : Int))]) (st := []) C (ct_To_reach _ _ _ M hT d p (by omega) (by omega)) rfl (by decide) rfl (cv_To_76 E C _ (by rw [Rr.2.2]; decide)) (Nat.le_of_ble_eq_true rfl) d_To_countReached_18 (by rw [Rr.2.2]; decide) (by decide) rfl rfl rfl (fun r18 G18 M18 hpo _ => ?_)
      obtain ⟨e1, e2, rfl⟩ := hpo
      rw [e1, e2]
      show sx_X SC E (0, 0) GL M 21 [(4, sx_I (((p : Nat) : Int))), (2, sx_J (c)), (0, sx_A (1)), (1, sx_I (((d : Nat) : Int)))] [sx_J (rcS M d p)]
      have hr := rcS_bd hT (d := d) (p := p) (by omega) (by omega)
      refine sx_ldc2 (v := (-1)) C (-1) (tb_ 226 (by decide +kernel) rfl) (by decide) d_To_countReached_21 ?_
      refine sx_lcmp_eq C 32 ⟨by omega, by omega⟩ ⟨by omega, by omega⟩ d_To_countReached_24 d_To_countReached_25 (by decide) (fun c25 => ?_) (fun c25 => ?_)
      · refine sx_iinc (lv' := [(4, sx_I (((p + 1 : Nat) : Int))), (2, sx_J (c)), (0, sx_A (1)), (1, sx_I (((d : Nat) : Int)))]) C 0 d_To_countReached_32 rfl (by rw [hnL]; decide) rfl ?_
        refine sx_goto C 5 d_To_countReached_35 (by decide) ?_
        refine sx_sub [0, 1, 2, 3] rfl ?_
        exact ih (p + 1) _ (by omega) (by simp [crS, h1, c25]) (by omega)
      · refine sx_lload_n C 1 d_To_countReached_28 rfl rfl ?_
        refine sx_lconst C 1 rfl d_To_countReached_29 ?_
        refine sx_ladd C d_To_countReached_30 ?_
        refine sx_lstore_n (lv' := [(2, sx_J (c + 1)), (4, sx_I (((p : Nat) : Int))), (0, sx_A (1)), (1, sx_I (((d : Nat) : Int)))]) C d_To_countReached_31 rfl (by rw [hnL]; decide) rfl ?_
        refine sx_iinc (lv' := [(4, sx_I (((p + 1 : Nat) : Int))), (2, sx_J (c + 1)), (0, sx_A (1)), (1, sx_I (((d : Nat) : Int)))]) C 1 d_To_countReached_32 rfl (by rw [hnL]; decide) rfl ?_
        refine sx_goto C 5 d_To_countReached_35 (by decide) ?_
        refine sx_sub [0, 1, 2, 3] rfl ?_
        exact ih (p + 1) _ (by omega) (by simp [crS, h1, c25]) (by omega)
set_option maxRecDepth 100000 in
set_option maxHeartbeats 4000000 in
theorem ct_To_countReached (l : Launch) (D : va_G) (tc : Nat → ClassId) (M : sx_M0) (hT : tw M) (d : Nat) (hd : d < 6) : sx_Met SC l D tc y_To_countReached w_To_countReached (rmk 2 80) [sx_A (1), sx_I (((d : Nat) : Int))] GL M (fun r G' M' => G' = GL ∧ M' = M ∧ r = some (sx_J (crS M d (M 1 1).toNat))) := by
  refine sx_enter (by decide) rfl (Nat.le_of_ble_eq_true rfl) (Ts := g_tbl) (fun _ h => List.mem_cons_of_mem _ h) (fun E C Rr hnm hnL => ?_)
  refine sx_lconst C 0 rfl d_To_countReached_0 ?_
  refine sx_lstore_n (lv' := [(2, sx_J (0)), (0, sx_A (1)), (1, sx_I (((d : Nat) : Int)))]) C d_To_countReached_1 rfl (by rw [hnL]; decide) rfl ?_
  refine sx_iconst C d_To_countReached_2 ?_
  refine sx_istore (lv' := [(4, sx_I (0)), (2, sx_J (0)), (0, sx_A (1)), (1, sx_I (((d : Nat) : Int)))]) C d_To_countReached_3 (by rw [hnL]; decide) rfl ?_
  refine sx_sub [0, 1, 2, 3] rfl ?_
  exact lp_To_countReached M hT d hd C Rr hnL _ 0 0 (Nat.lt_succ_self _) rfl (Nat.zero_le _)
/-- the ways of the first n districts -/
def wyS (M : sx_M0) : Nat → Int
  | 0 => 1
  | d + 1 => if 0 < M 2 d then wyS M d * crS M d (M 1 1).toNat else wyS M d
theorem wyS_nn (M : sx_M0) : ∀ n, 0 ≤ wyS M n
  | 0 => by simp [wyS]
  | n + 1 => by
    have h1 := wyS_nn M n
    have h2 := (crS_bd M n (M 1 1).toNat).1
    unfold wyS
    split
    · exact Int.mul_nonneg h1 h2
    · exact h1
set_option maxRecDepth 100000 in
set_option maxHeartbeats 4000000 in
theorem lp_To_countWays  (M : sx_M0) (hT : tw M) {E : sx_E} (C : sx_C SC g_tbl "SiteChoice$Town" c_To_countWays E) (Rr : sx_Ret SC (some .long) (rmk 3 120) (fun r G' M' => G' = GL ∧ M' = M ∧ r = some (sx_J (wyS M (M 1 0).toNat))) E) (hnL : sx_nL E = 4) : ∀ (nF : Nat) (d : Nat) (c : Int), (M 1 0).toNat - d < nF → c = wyS M d → d ≤ (M 1 0).toNat → sx_X SC E (0, 0) GL M 4 [(3, sx_I (((d : Nat) : Int))), (1, sx_J (c)), (0, sx_A (1))] [] := by
  intro nF
  induction nF with
  | zero => intro d c h; omega
  | succ nF ih =>
    intro d c hn h1 h2
    have g0 := hT.1
    have g1 := hT.2.1
    refine sx_iload_n C 0 d_To_countWays_4 rfl rfl ?_
    refine sx_aload_n C 2 d_To_countWays_5 rfl rfl ?_
    refine sx_geti C f_To_9 (by decide) rfl d_To_countWays_6 ?_
    refine sx_icmp_ge C 37 ⟨by omega, by omega⟩ ⟨by omega, by omega⟩ d_To_countWays_9 (by decide) (fun c9 => ?_) (fun c9 => ?_)
    · refine sx_lload_n C 1 d_To_countWays_37 rfl rfl ?_
      refine sx_lreturn C Rr rfl d_To_countWays_38 ?_
      exact ⟨rfl, rfl, by rw [h1, show d = (M 1 0).toNat by omega]⟩
    · have hN := hT.2.2.2.1 d (by omega)
      refine sx_aload_n C 2 d_To_countWays_12 rfl rfl ?_
      refine sx_getr C f_To_24 2 (by decide) rfl rfl d_To_countWays_13 ?_
      refine sx_iload_n C 0 d_To_countWays_16 rfl rfl ?_
      refine sx_laload C d (by decide) rfl rfl rfl (by omega) (by decide) d_To_countWays_17 ?_
      refine sx_lconst C 0 rfl d_To_countWays_18 ?_
      refine sx_lcmp_le C 31 ⟨by omega, by omega⟩ ⟨by omega, by omega⟩ d_To_countWays_19 d_To_countWays_20 (by decide) (fun c20 => ?_) (fun c20 => ?_)
      · refine sx_iinc (lv' := [(3, sx_I (((d + 1 : Nat) : Int))), (1, sx_J (c)), (0, sx_A (1))]) C 0 d_To_countWays_31 rfl (by rw [hnL]; decide) rfl ?_
        refine sx_goto C 4 d_To_countWays_34 (by decide) ?_
        refine sx_sub [0, 1, 2] rfl ?_
        exact ih (d + 1) _ (by omega) (by simp [wyS, h1]; omega) (by omega)
      · refine sx_lload_n C 1 d_To_countWays_23 rfl rfl ?_
        refine sx_aload_n C 2 d_To_countWays_24 rfl rfl ?_
        refine sx_iload_n C 0 d_To_countWays_25 rfl rfl ?_
        refine sx_callV (n := 71) (As := [sx_I (((d : Nat) : Int))]) (st := [sx_J (c)]) C (ct_To_countReached _ _ _ M hT d (by omega)) rfl (by decide) rfl (cv_To_72 E C _ (by rw [Rr.2.2]; decide)) (Nat.le_of_ble_eq_true rfl) d_To_countWays_26 (by rw [Rr.2.2]; decide) (by decide) rfl rfl rfl (fun r26 G26 M26 hpo _ => ?_)
        obtain ⟨e1, e2, rfl⟩ := hpo
        rw [e1, e2]
        show sx_X SC E (0, 0) GL M 29 [(3, sx_I (((d : Nat) : Int))), (1, sx_J (c)), (0, sx_A (1))] [sx_J (crS M d (M 1 1).toNat), sx_J (c)]
        refine sx_lmul C d_To_countWays_29 ?_
        refine sx_lstore_n (lv' := [(1, sx_J (c * (crS M d (M 1 1).toNat))), (3, sx_I (((d : Nat) : Int))), (0, sx_A (1))]) C d_To_countWays_30 rfl (by rw [hnL]; decide) rfl ?_
        refine sx_iinc (lv' := [(3, sx_I (((d + 1 : Nat) : Int))), (1, sx_J (c * (crS M d (M 1 1).toNat))), (0, sx_A (1))]) C 1 d_To_countWays_31 rfl (by rw [hnL]; decide) rfl ?_
        refine sx_goto C 4 d_To_countWays_34 (by decide) ?_
        refine sx_sub [0, 1, 2] rfl ?_
        exact ih (d + 1) _ (by omega) (by simp [wyS, h1]; omega) (by omega)
set_option maxRecDepth 100000 in
set_option maxHeartbeats 4000000 in
theorem ct_To_countWays (l : Launch) (D : va_G) (tc : Nat → ClassId) (M : sx_M0) (hT : tw M) : sx_Met SC l D tc y_To_countWays w_To_countWays (rmk 3 120) [sx_A (1)] GL M (fun r G' M' => G' = GL ∧ M' = M ∧ r = some (sx_J (wyS M (M 1 0).toNat))) := by
  refine sx_enter (by decide) rfl (Nat.le_of_ble_eq_true rfl) (Ts := g_tbl) (fun _ h => List.mem_cons_of_mem _ h) (fun E C Rr hnm hnL => ?_)
  refine sx_lconst C 1 rfl d_To_countWays_0 ?_
  refine sx_lstore_n (lv' := [(1, sx_J (1)), (0, sx_A (1))]) C d_To_countWays_1 rfl (by rw [hnL]; decide) rfl ?_
  refine sx_iconst C d_To_countWays_2 ?_
  refine sx_istore_n (lv' := [(3, sx_I (0)), (1, sx_J (1)), (0, sx_A (1))]) C d_To_countWays_3 rfl (by rw [hnL]; decide) rfl ?_
  refine sx_sub [0, 1, 2] rfl ?_
  exact lp_To_countWays M hT C Rr hnL _ 0 1 (Nat.lt_succ_self _) rfl (Nat.zero_le _)
theorem sq_bd {u b : Int} (h1 : -b ≤ u) (h2 : u ≤ b) : 0 ≤ u * u ∧ u * u ≤ b * b := by
  rcases Int.le_total 0 u with h | h
  · exact ⟨Int.mul_nonneg h h, Int.mul_le_mul h2 h2 h (by omega)⟩
  · have e : u * u = (-u) * (-u) := by rw [Int.neg_mul_neg]
    rw [e]
    exact ⟨Int.mul_nonneg (by omega) (by omega), Int.mul_le_mul (by omega) (by omega) (by omega) (by omega)⟩
def mxS (x y : Int) : Int := if y < x then x else y
def nrS (M : sx_M0) (p q : Nat) : Prop := (M 11 p - M 11 q) * (M 11 p - M 11 q) + (M 12 p - M 12 q) * (M 12 p - M 12 q) < mxS (M 15 p) (M 15 q) * mxS (M 15 p) (M 15 q)
set_option maxRecDepth 100000 in
set_option maxHeartbeats 4000000 in
theorem ct_To_isTooNear (l : Launch) (D : va_G) (tc : Nat → ClassId) (M : sx_M0) (hT : tw M) (p q : Nat) (hp : p < 5) (hq : q < 5) : sx_Met SC l D tc y_To_isTooNear w_To_isTooNear (rmk 1 40) [sx_A (1), sx_I (((p : Nat) : Int)), sx_I (((q : Nat) : Int))] GL M (fun r G' M' => G' = GL ∧ M' = M ∧ bz (nrS M p q) r) := by
  refine sx_enter (by decide) rfl (Nat.le_of_ble_eq_true rfl) (Ts := g_tbl) (fun _ h => List.mem_cons_of_mem _ h) (fun E C Rr hnm hnL => ?_)
  have x1 := hT.2.2.2.2.2.2.1 p hp
  have x2 := hT.2.2.2.2.2.2.1 q hq
  have y1 := hT.2.2.2.2.2.2.2.1 p hp
  have y2 := hT.2.2.2.2.2.2.2.1 q hq
  have l1 := hT.2.2.2.2.2.2.2.2.2.2.1 p hp
  have l2 := hT.2.2.2.2.2.2.2.2.2.2.1 q hq
  refine sx_aload_n C 0 d_To_isTooNear_0 rfl rfl ?_
  refine sx_getr C f_To_36 11 (by decide) rfl rfl d_To_isTooNear_1 ?_
  refine sx_iload_n C 1 d_To_isTooNear_4 rfl rfl ?_
  refine sx_laload C p (by decide) rfl rfl rfl (by omega) (by decide) d_To_isTooNear_5 ?_
  refine sx_aload_n C 0 d_To_isTooNear_6 rfl rfl ?_
  refine sx_getr C f_To_36 11 (by decide) rfl rfl d_To_isTooNear_7 ?_
  refine sx_iload_n C 2 d_To_isTooNear_10 rfl rfl ?_
  refine sx_laload C q (by decide) rfl rfl rfl (by omega) (by decide) d_To_isTooNear_11 ?_
  refine sx_lsub C d_To_isTooNear_12 ?_
  refine sx_lstore_n (lv' := [(3, sx_J ((M 11 p) - (M 11 q))), (0, sx_A (1)), (1, sx_I (((p : Nat) : Int))), (2, sx_I (((q : Nat) : Int)))]) C d_To_isTooNear_13 rfl (by rw [hnL]; decide) rfl ?_
  refine sx_aload_n C 1 d_To_isTooNear_14 rfl rfl ?_
  refine sx_getr C f_To_39 12 (by decide) rfl rfl d_To_isTooNear_15 ?_
  refine sx_iload_n C 2 d_To_isTooNear_18 rfl rfl ?_
  refine sx_laload C p (by decide) rfl rfl rfl (by omega) (by decide) d_To_isTooNear_19 ?_
  refine sx_aload_n C 1 d_To_isTooNear_20 rfl rfl ?_
  refine sx_getr C f_To_39 12 (by decide) rfl rfl d_To_isTooNear_21 ?_
  refine sx_iload_n C 3 d_To_isTooNear_24 rfl rfl ?_
  refine sx_laload C q (by decide) rfl rfl rfl (by omega) (by decide) d_To_isTooNear_25 ?_
  refine sx_lsub C d_To_isTooNear_26 ?_
  refine sx_lstore (lv' := [(5, sx_J ((M 12 p) - (M 12 q))), (3, sx_J ((M 11 p) - (M 11 q))), (0, sx_A (1)), (1, sx_I (((p : Nat) : Int))), (2, sx_I (((q : Nat) : Int)))]) C d_To_isTooNear_27 (by rw [hnL]; decide) rfl ?_
  refine sx_aload_n C 2 d_To_isTooNear_29 rfl rfl ?_
  refine sx_getr C f_To_48 15 (by decide) rfl rfl d_To_isTooNear_30 ?_
  refine sx_iload_n C 3 d_To_isTooNear_33 rfl rfl ?_
  refine sx_laload C p (by decide) rfl rfl rfl (by omega) (by decide) d_To_isTooNear_34 ?_
  refine sx_aload_n C 2 d_To_isTooNear_35 rfl rfl ?_
  refine sx_getr C f_To_48 15 (by decide) rfl rfl d_To_isTooNear_36 ?_
  refine sx_iload_n C 4 d_To_isTooNear_39 rfl rfl ?_
  refine sx_laload C q (by decide) rfl rfl rfl (by omega) (by decide) d_To_isTooNear_40 ?_
  refine sx_lmax C ⟨by omega, by omega⟩ ⟨by omega, by omega⟩ (tb_ 324 (by decide +kernel) rfl) (tb_ 325 (by decide +kernel) rfl) (tb_ 9 (by decide +kernel) rfl) (tb_ 326 rfl rfl) (by rw [Rr.2.2]; decide) (by rw [Rr.2.2]; decide) (by rw [Rr.2.2]; decide) (by rw [Rr.2.2]; decide) d_To_isTooNear_41 ?_
  generalize hz : (if M 15 q < M 15 p then M 15 p else M 15 q) = z
  refine sx_lstore (lv' := [(7, sx_J (z)), (5, sx_J ((M 12 p) - (M 12 q))), (3, sx_J ((M 11 p) - (M 11 q))), (0, sx_A (1)), (1, sx_I (((p : Nat) : Int))), (2, sx_I (((q : Nat) : Int)))]) C d_To_isTooNear_44 (by rw [hnL]; decide) rfl ?_
  refine sx_lload_n C 2 d_To_isTooNear_46 rfl rfl ?_
  refine sx_lload_n C 2 d_To_isTooNear_47 rfl rfl ?_
  refine sx_lmul C d_To_isTooNear_48 ?_
  refine sx_lload C 1 d_To_isTooNear_49 rfl ?_
  refine sx_lload C 1 d_To_isTooNear_51 rfl ?_
  refine sx_lmul C d_To_isTooNear_53 ?_
  refine sx_ladd C d_To_isTooNear_54 ?_
  refine sx_lload C 0 d_To_isTooNear_55 rfl ?_
  refine sx_lload C 0 d_To_isTooNear_57 rfl ?_
  refine sx_lmul C d_To_isTooNear_59 ?_
  have s1 := sq_bd (u := M 11 p - M 11 q) (b := 2000) (by omega) (by omega)
  have s2 := sq_bd (u := M 12 p - M 12 q) (b := 2000) (by omega) (by omega)
  have s3 := sq_bd (u := z) (b := 3000) (by rw [← hz]; split <;> omega) (by rw [← hz]; split <;> omega)
  refine sx_lcmp_ge C 68 ⟨by have := s1; have := s2; omega, by have := s1; have := s2; omega⟩ ⟨by have := s1; have := s2; omega, by have := s1; have := s2; omega⟩ d_To_isTooNear_60 d_To_isTooNear_61 (by decide) (fun c61 => ?_) (fun c61 => ?_)
  · refine sx_iconst C d_To_isTooNear_68 ?_
    refine sx_zreturn C Rr (by omega) rfl d_To_isTooNear_69 ?_
    exact ⟨rfl, rfl, 0, rfl, Or.inr ⟨rfl, by unfold nrS mxS; rw [hz]; omega⟩⟩
  · refine sx_iconst C d_To_isTooNear_64 ?_
    refine sx_goto C 69 d_To_isTooNear_65 (by decide) ?_
    refine sx_zreturn C Rr (by omega) rfl d_To_isTooNear_69 ?_
    exact ⟨rfl, rfl, 1, rfl, Or.inl ⟨rfl, by unfold nrS mxS; rw [hz]; omega⟩⟩
end
section
/-- the first n slots of cell k become v -/
def flS (M : sx_M0) (k n : Nat) (v : Int) : sx_M0 := fun a b => if a = k ∧ b < n then v else M a b
theorem flS_0 (M : sx_M0) (k : Nat) (v : Int) : flS M k 0 v = M := by
  funext a b
  simp [flS]
theorem flS_succ (M : sx_M0) (k n : Nat) (v : Int) : sx_up (flS M k n v) k n v = flS M k (n + 1) v := by
  funext a b
  unfold sx_up flS
  by_cases h : a = k
  · by_cases h2 : b = n
    · simp [h, h2]
    · have h3 : (b < n + 1) ↔ (b < n) := by omega
      simp [h, h2, h3]
  · simp [h]
set_option maxRecDepth 100000 in
set_option maxHeartbeats 4000000 in
theorem lp_Ar_fill_longs  (M : sx_M0) (k n : Nat) (v : Int) (hk : k < GL.1) (hs : GL.2.1 k = (3, n)) (hn9 : n < 2147483648) {E : sx_E} (C : sx_C SC g_tbl "java/util/Arrays" c_Ar_fill_longs E) (Rr : sx_Ret SC none (rmk 0 0) (fun r G' M' => G' = GL ∧ M' = flS M k n v ∧ r = none) E) (hnL : sx_nL E = 5) : ∀ (nF : Nat) (i : Nat), n - i < nF → i ≤ n → sx_X SC E (0, 0) GL (flS M k i v) 6 [(3, sx_I (((i : Nat) : Int))), (4, sx_I (((n : Nat) : Int))), (0, sx_A (k)), (1, sx_J (v))] [] := by
  intro nF
  induction nF with
  | zero => intro i h; omega
  | succ nF ih =>
    intro i hn h1
    refine sx_iload_n C 0 d_Ar_fill_longs_6 rfl rfl ?_
    refine sx_iload C 1 d_Ar_fill_longs_7 rfl ?_
    refine sx_icmp_ge C 22 ⟨by omega, by omega⟩ ⟨by omega, by omega⟩ d_Ar_fill_longs_9 (by decide) (fun c9 => ?_) (fun c9 => ?_)
    · refine sx_return C Rr rfl d_Ar_fill_longs_22 ?_
      exact ⟨rfl, by rw [show i = n by omega], rfl⟩
    · refine sx_aload_n C 2 d_Ar_fill_longs_12 rfl rfl ?_
      refine sx_iload_n C 0 d_Ar_fill_longs_13 rfl rfl ?_
      refine sx_lload_n C 3 d_Ar_fill_longs_14 rfl rfl ?_
      refine sx_lastore C i hk hs rfl rfl (by omega) hn9 d_Ar_fill_longs_15 ?_
      refine sx_iinc (lv' := [(3, sx_I (((i + 1 : Nat) : Int))), (4, sx_I (((n : Nat) : Int))), (0, sx_A (k)), (1, sx_J (v))]) C 0 d_Ar_fill_longs_16 rfl (by rw [hnL]; decide) rfl ?_
      refine sx_goto C 6 d_Ar_fill_longs_19 (by decide) ?_
      refine sx_sub [0, 1, 2, 3] rfl ?_
      rw [flS_succ]
      exact ih (i + 1) (by omega) (by omega)
set_option maxRecDepth 100000 in
set_option maxHeartbeats 4000000 in
theorem ct_Ar_fill_longs (l : Launch) (D : va_G) (tc : Nat → ClassId) (M : sx_M0) (k n : Nat) (v : Int) (hk : k < GL.1) (hs : GL.2.1 k = (3, n)) (hn9 : n < 2147483648) : sx_Met SC l D tc y_Ar_fill_longs w_Ar_fill_longs (rmk 0 0) [sx_A (k), sx_J (v)] GL M (fun r G' M' => G' = GL ∧ M' = flS M k n v ∧ r = none) := by
  refine sx_enter (by decide) rfl (Nat.le_of_ble_eq_true rfl) (Ts := g_tbl) (fun _ h => List.mem_cons_of_mem _ h) (fun E C Rr hnm hnL => ?_)
  refine sx_iconst C d_Ar_fill_longs_0 ?_
  refine sx_istore_n (lv' := [(3, sx_I (0)), (0, sx_A (k)), (1, sx_J (v))]) C d_Ar_fill_longs_1 rfl (by rw [hnL]; decide) rfl ?_
  refine sx_aload_n C 1 d_Ar_fill_longs_2 rfl rfl ?_
  refine sx_alen (C0 := C) hk hs rfl d_Ar_fill_longs_3 ?_
  refine sx_istore (lv' := [(4, sx_I (((n : Nat) : Int))), (3, sx_I (0)), (0, sx_A (k)), (1, sx_J (v))]) C d_Ar_fill_longs_4 (by rw [hnL]; decide) rfl ?_
  refine sx_sub [1, 0, 2, 3] rfl ?_
  have h0 := lp_Ar_fill_longs M k n v hk hs hn9 C Rr hnL _ 0 (Nat.lt_succ_self _) (Nat.zero_le _)
  rw [flS_0] at h0
  exact h0
set_option maxRecDepth 100000 in
set_option maxHeartbeats 4000000 in
theorem lp_Ar_fill_ints  (M : sx_M0) (k n : Nat) (v : Int) (hk : k < GL.1) (hs : GL.2.1 k = (1, n)) (hn9 : n < 2147483648) {E : sx_E} (C : sx_C SC g_tbl "java/util/Arrays" c_Ar_fill_ints E) (Rr : sx_Ret SC none (rmk 0 0) (fun r G' M' => G' = GL ∧ M' = flS M k n v ∧ r = none) E) (hnL : sx_nL E = 4) : ∀ (nF : Nat) (i : Nat), n - i < nF → i ≤ n → sx_X SC E (0, 0) GL (flS M k i v) 5 [(2, sx_I (((i : Nat) : Int))), (3, sx_I (((n : Nat) : Int))), (0, sx_A (k)), (1, sx_I (v))] [] := by
  intro nF
  induction nF with
  | zero => intro i h; omega
  | succ nF ih =>
    intro i hn h1
    refine sx_iload_n C 0 d_Ar_fill_ints_5 rfl rfl ?_
    refine sx_iload_n C 1 d_Ar_fill_ints_6 rfl rfl ?_
    refine sx_icmp_ge C 20 ⟨by omega, by omega⟩ ⟨by omega, by omega⟩ d_Ar_fill_ints_7 (by decide) (fun c7 => ?_) (fun c7 => ?_)
    · refine sx_return C Rr rfl d_Ar_fill_ints_20 ?_
      exact ⟨rfl, by rw [show i = n by omega], rfl⟩
    · refine sx_aload_n C 2 d_Ar_fill_ints_10 rfl rfl ?_
      refine sx_iload_n C 0 d_Ar_fill_ints_11 rfl rfl ?_
      refine sx_iload_n C 3 d_Ar_fill_ints_12 rfl rfl ?_
      refine sx_iastore C i hk hs rfl rfl (by omega) hn9 d_Ar_fill_ints_13 ?_
      refine sx_iinc (lv' := [(2, sx_I (((i + 1 : Nat) : Int))), (3, sx_I (((n : Nat) : Int))), (0, sx_A (k)), (1, sx_I (v))]) C 0 d_Ar_fill_ints_14 rfl (by rw [hnL]; decide) rfl ?_
      refine sx_goto C 5 d_Ar_fill_ints_17 (by decide) ?_
      refine sx_sub [0, 1, 2, 3] rfl ?_
      rw [flS_succ]
      exact ih (i + 1) (by omega) (by omega)
set_option maxRecDepth 100000 in
set_option maxHeartbeats 4000000 in
theorem ct_Ar_fill_ints (l : Launch) (D : va_G) (tc : Nat → ClassId) (M : sx_M0) (k n : Nat) (v : Int) (hk : k < GL.1) (hs : GL.2.1 k = (1, n)) (hn9 : n < 2147483648) : sx_Met SC l D tc y_Ar_fill_ints w_Ar_fill_ints (rmk 0 0) [sx_A (k), sx_I (v)] GL M (fun r G' M' => G' = GL ∧ M' = flS M k n v ∧ r = none) := by
  refine sx_enter (by decide) rfl (Nat.le_of_ble_eq_true rfl) (Ts := g_tbl) (fun _ h => List.mem_cons_of_mem _ h) (fun E C Rr hnm hnL => ?_)
  refine sx_iconst C d_Ar_fill_ints_0 ?_
  refine sx_istore_n (lv' := [(2, sx_I (0)), (0, sx_A (k)), (1, sx_I (v))]) C d_Ar_fill_ints_1 rfl (by rw [hnL]; decide) rfl ?_
  refine sx_aload_n C 1 d_Ar_fill_ints_2 rfl rfl ?_
  refine sx_alen (C0 := C) hk hs rfl d_Ar_fill_ints_3 ?_
  refine sx_istore_n (lv' := [(3, sx_I (((n : Nat) : Int))), (2, sx_I (0)), (0, sx_A (k)), (1, sx_I (v))]) C d_Ar_fill_ints_4 rfl (by rw [hnL]; decide) rfl ?_
  refine sx_sub [1, 0, 2, 3] rfl ?_
  have h0 := lp_Ar_fill_ints M k n v hk hs hn9 C Rr hnL _ 0 (Nat.lt_succ_self _) (Nat.zero_le _)
  rw [flS_0] at h0
  exact h0
end
section
/-! MATHEMATICS of the search: completions of a partial plan, their sums, their order; what a step of the search makes of the best so far -/
abbrev mt_J : Type := Nat × Nat × (Nat → Int) × (Nat → Nat → Int) × (Nat → Int) × Nat
/-- g completes the plan from district k on (n districts are left): s are the places opened so far, rl the room left -/
def CP (J : mt_J) : Nat → Nat → Nat → (Nat → Int) → (Nat → Int) → Prop
  | 0, _, _, _, _ => True
  | n + 1, k, s, rl, g => (J.2.2.1 k = 0 ∧ g k = -1 ∧ CP J n (k + 1) s rl g) ∨ (J.2.2.1 k ≠ 0 ∧ ∃ p : Nat, p < J.2.1 ∧ g k = (p : Int) ∧ J.2.2.2.2.2.testBit p = true ∧ J.2.2.2.1 k p ≠ -1 ∧ J.2.2.1 k ≤ rl p ∧ J.2.2.2.2.1 (s ||| 2 ^ p) = 1 ∧ CP J n (k + 1) (s ||| 2 ^ p) (fun q => if q = p then rl q - J.2.2.1 k else rl q) g)
def sm (J : mt_J) : Nat → Nat → (Nat → Int) → Int
  | 0, _, _ => 0
  | n + 1, k, g => (if J.2.2.1 k = 0 then 0 else J.2.2.1 k * J.2.2.2.1 k (g k).toNat) + sm J n (k + 1) g
def lx : Nat → Nat → (Nat → Int) → (Nat → Int) → Prop
  | 0, _, _, _ => True
  | n + 1, k, g, h => g k < h k ∨ (g k = h k ∧ lx n (k + 1) g h)
theorem CP_congr {J : mt_J} : ∀ {n k s : Nat} {rl g h : Nat → Int}, (∀ e, k ≤ e → g e = h e) → CP J n k s rl g → CP J n k s rl h
  | 0, _, _, _, _, _, _, _ => trivial
  | n + 1, k, s, rl, g, h, e, hc => by
    rcases hc with ⟨h1, h2, h3⟩ | ⟨h1, p, hp, h2, h3, h4, h5, h6, h7⟩
    · exact Or.inl ⟨h1, by rw [← e k (Nat.le_refl k)]; exact h2, CP_congr (fun x hx => e x (by omega)) h3⟩
    · exact Or.inr ⟨h1, p, hp, by rw [← e k (Nat.le_refl k)]; exact h2, h3, h4, h5, h6, CP_congr (fun x hx => e x (by omega)) h7⟩
theorem sm_congr {J : mt_J} : ∀ {n k : Nat} {g h : Nat → Int}, (∀ e, k ≤ e → g e = h e) → sm J n k g = sm J n k h
  | 0, _, _, _, _ => rfl
  | n + 1, k, g, h, e => by
    unfold sm
    rw [e k (Nat.le_refl k), sm_congr (fun x hx => e x (by omega))]
theorem lx_congr : ∀ {n k : Nat} {g h g' h' : Nat → Int}, (∀ e, k ≤ e → g e = g' e) → (∀ e, k ≤ e → h e = h' e) → lx n k g h → lx n k g' h'
  | 0, _, _, _, _, _, _, _, _ => trivial
  | n + 1, k, g, h, g', h', e1, e2, hl => by
    unfold lx at hl ⊢
    rw [← e1 k (Nat.le_refl k), ← e2 k (Nat.le_refl k)]
    rcases hl with h1 | ⟨h1, h2⟩
    · exact Or.inl h1
    · exact Or.inr ⟨h1, lx_congr (fun x hx => e1 x (by omega)) (fun x hx => e2 x (by omega)) h2⟩
theorem lx_refl : ∀ (n k : Nat) (g : Nat → Int), lx n k g g
  | 0, _, _ => trivial
  | n + 1, k, g => Or.inr ⟨rfl, lx_refl n (k + 1) g⟩
/-- what a part of the search makes of the best so far: S are the plans that it looks at -/
def Im (f : Int) (S : (Nat → Int) → Prop) (tot : (Nat → Int) → Int) (le : (Nat → Int) → (Nat → Int) → Prop) (ot : (Nat → Int) → Nat → Int) (bs : Int) (bg : Nat → Int) (bs' : Int) (bg' : Nat → Int) : Prop :=
  (bs' = bs ∧ (∀ d, d < 6 → bg' d = bg d) ∧ ∀ g, S g → bs ≠ -1 ∧ (f = 0 → bs ≤ tot g)) ∨
  (∃ g0, S g0 ∧ bs' = tot g0 ∧ (bs = -1 ∨ bs' < bs) ∧ (∀ d, d < 6 → bg' d = ot g0 d) ∧ (f = 0 → ∀ g, S g → bs' ≤ tot g ∧ (bs' = tot g → le g0 g)))
theorem Im_none {f : Int} {S : (Nat → Int) → Prop} {tot : (Nat → Int) → Int} {le : (Nat → Int) → (Nat → Int) → Prop} {ot : (Nat → Int) → Nat → Int} {bs : Int} {bg : Nat → Int} (h : ∀ g, S g → bs ≠ -1 ∧ (f = 0 → bs ≤ tot g)) : Im f S tot le ot bs bg bs bg := Or.inl ⟨rfl, fun _ _ => rfl, h⟩
theorem Im_comp {f : Int} {S1 S2 S : (Nat → Int) → Prop} {tot : (Nat → Int) → Int} {le : (Nat → Int) → (Nat → Int) → Prop} {ot : (Nat → Int) → Nat → Int} {bs b1 b2 : Int} {bg g1 g2 : Nat → Int} (hS : ∀ g, S g ↔ S1 g ∨ S2 g) (ht : ∀ g, S1 g → 0 ≤ tot g) (hle : ∀ g h, S1 g → S2 h → le g h) (h1 : Im f S1 tot le ot bs bg b1 g1) (h2 : Im f S2 tot le ot b1 g1 b2 g2) : Im f S tot le ot bs bg b2 g2 := by
  rcases h1 with ⟨e1, a1, c1⟩ | ⟨g0, s0, e1, d1, a1, c1⟩
  · subst e1
    rcases h2 with ⟨e2, a2, c2⟩ | ⟨h0, t0, e2, d2, a2, c2⟩
    · refine Or.inl ⟨e2, fun d hd => (a2 d hd).trans (a1 d hd), fun g hg => ?_⟩
      rcases (hS g).mp hg with h | h
      · exact c1 g h
      · exact c2 g h
    · refine Or.inr ⟨h0, (hS h0).mpr (Or.inr t0), e2, d2, a2, fun hf g hg => ?_⟩
      rcases (hS g).mp hg with h | h
      · have q := c1 g h
        have q2 := q.2 hf
        rcases d2 with d2 | d2
        · exact absurd d2 q.1
        · exact ⟨by omega, fun z => by omega⟩
      · exact c2 hf g h
  · rcases h2 with ⟨e2, a2, c2⟩ | ⟨h0, t0, e2, d2, a2, c2⟩
    · subst e2
      refine Or.inr ⟨g0, (hS g0).mpr (Or.inl s0), e1, d1, fun d hd => (a2 d hd).trans (a1 d hd), fun hf g hg => ?_⟩
      rcases (hS g).mp hg with h | h
      · exact c1 hf g h
      · exact ⟨(c2 g h).2 hf, fun _ => hle g0 g s0 h⟩
    · have q := ht g0 s0
      rcases d2 with d2 | d2
      · omega
      · refine Or.inr ⟨h0, (hS h0).mpr (Or.inr t0), e2, ?_, a2, fun hf g hg => ?_⟩
        · rcases d1 with d1 | d1
          · exact Or.inl d1
          · exact Or.inr (by omega)
        · rcases (hS g).mp hg with h | h
          · have := (c1 hf g h).1
            exact ⟨by omega, fun z => by omega⟩
          · exact c2 hf g h
/-- the same plans under other names -/
theorem Im_map {f : Int} {S S' : (Nat → Int) → Prop} {tot tot' : (Nat → Int) → Int} {le le' : (Nat → Int) → (Nat → Int) → Prop} {ot ot' : (Nat → Int) → Nat → Int} {bs b1 : Int} {bg g1 : Nat → Int} (to : (Nat → Int) → (Nat → Int)) (h1 : ∀ g, S g → S' (to g) ∧ tot' (to g) = tot g ∧ ∀ d, d < 6 → ot' (to g) d = ot g d) (h2 : ∀ g, S' g → S g ∧ tot' g = tot g) (h3 : ∀ g h, S g → S' h → le g h → le' (to g) h) (h : Im f S tot le ot bs bg b1 g1) : Im f S' tot' le' ot' bs bg b1 g1 := by
  rcases h with ⟨e1, a1, c1⟩ | ⟨g0, s0, e1, d1, a1, c1⟩
  · exact Or.inl ⟨e1, a1, fun g hg => by rw [(h2 g hg).2]; exact c1 g (h2 g hg).1⟩
  · obtain ⟨q1, q2, q3⟩ := h1 g0 s0
    refine Or.inr ⟨to g0, q1, by rw [q2]; exact e1, d1, fun d hd => by rw [q3 d hd]; exact a1 d hd, fun hf g hg => ?_⟩
    rw [(h2 g hg).2]
    exact ⟨(c1 hf g (h2 g hg).1).1, fun z => h3 g0 g s0 hg ((c1 hf g (h2 g hg).1).2 z)⟩
theorem Im_pre {f : Int} {S : (Nat → Int) → Prop} {tot : (Nat → Int) → Int} {le : (Nat → Int) → (Nat → Int) → Prop} {ot : (Nat → Int) → Nat → Int} {bs b1 : Int} {bg bg2 g1 g2 : Nat → Int} (e1 : ∀ d, d < 6 → bg2 d = bg d) (e2 : ∀ d, d < 6 → g2 d = g1 d) (h : Im f S tot le ot bs bg b1 g1) : Im f S tot le ot bs bg2 b1 g2 := by
  rcases h with ⟨a1, a2, a3⟩ | ⟨g0, s0, a1, a2, a3, a4⟩
  · exact Or.inl ⟨a1, fun d hd => by rw [e2 d hd, e1 d hd]; exact a2 d hd, a3⟩
  · exact Or.inr ⟨g0, s0, a1, a2, fun d hd => by rw [e2 d hd]; exact a3 d hd, a4⟩
end
section
/-- what holds of the search's cells -/
def sv (M : sx_M0) : Prop := (0 ≤ M 17 0 ∧ M 17 0 ≤ 6) ∧ (0 ≤ M 17 1 ∧ M 17 1 ≤ 5) ∧ (∀ d, d < 6 → 0 ≤ M 18 d ∧ M 18 d ≤ 150) ∧ (∀ d p, d < 6 → p < 5 → -1 ≤ M (20 + 1 + d) p ∧ M (20 + 1 + d) p ≤ 10000) ∧ (∀ s, s < 32 → M 27 s = 0 ∨ M 27 s = 1) ∧ (0 ≤ M 17 12 ∧ M 17 12 ≤ 31) ∧ (M 17 13 = 0 ∨ M 17 13 = 1) ∧ (∀ d, d < 7 → 0 ≤ M 29 d ∧ M 29 d ≤ 10000000) ∧ (-1 ≤ M 17 11 ∧ M 17 11 ≤ 100000000)
def jS (M : sx_M0) : mt_J := ((M 17 0).toNat, (M 17 1).toNat, fun d => M 18 d, fun d p => if d < 6 then M (20 + 1 + d) p else 0, fun s => M 27 s, (M 17 12).toNat)
theorem bit_n : ∀ u, u < 32 → ∀ p, p < 5 → (sx_and (sx_shr ((u : Nat) : Int) ((p : Nat) : Int)) 1 = 1 ∧ u.testBit p = true) ∨ (sx_and (sx_shr ((u : Nat) : Int) ((p : Nat) : Int)) 1 = 0 ∧ u.testBit p = false) := by decide +kernel
theorem bit_u (u : Int) (p : Nat) (h0 : 0 ≤ u) (h1 : u ≤ 31) (hp : p < 5) : (sx_and (sx_shr u ((p : Nat) : Int)) 1 = 1 ∧ u.toNat.testBit p = true) ∨ (sx_and (sx_shr u ((p : Nat) : Int)) 1 = 0 ∧ u.toNat.testBit p = false) := by
  have e : ((u.toNat : Nat) : Int) = u := by omega
  have h := bit_n u.toNat (by omega) p hp
  rw [e] at h
  exact h
theorem or_bit : ∀ s, s < 32 → ∀ p, p < 5 → sx_or ((s : Nat) : Int) (sx_shl 1 ((p : Nat) : Int)) = ((s ||| 2 ^ p : Nat) : Int) ∧ s ||| 2 ^ p < 32 := by decide +kernel
/-- the first district from k on (at most n further) with a need, or the end -/
def nwS (M : sx_M0) : Nat → Nat → Nat
  | 0, k => k
  | n + 1, k => if M 18 k = 0 then nwS M n (k + 1) else k
theorem nwS_z {M : sx_M0} {n k : Nat} (h : M 18 k = 0) : nwS M (n + 1) k = nwS M n (k + 1) := by
  show (if M 18 k = 0 then nwS M n (k + 1) else k) = _
  rw [if_pos h]
theorem nwS_bd (M : sx_M0) : ∀ n k, k ≤ nwS M n k ∧ nwS M n k ≤ k + n
  | 0, k => by simp [nwS]
  | n + 1, k => by
    unfold nwS
    have := nwS_bd M n (k + 1)
    split <;> omega
set_option maxRecDepth 100000 in
set_option maxHeartbeats 4000000 in
theorem ct_Se_isUsable (l : Launch) (D : va_G) (tc : Nat → ClassId) (M : sx_M0) (hV : sv M) (p : Nat) (hp : p < 5) : sx_Met SC l D tc y_Se_isUsable w_Se_isUsable (rmk 0 0) [sx_A (17), sx_I (((p : Nat) : Int))] GL M (fun r G' M' => G' = GL ∧ M' = M ∧ bz ((jS M).2.2.2.2.2.testBit p = true) r) := by
  refine sx_enter (by decide) rfl (Nat.le_of_ble_eq_true rfl) (Ts := g_tbl) (fun _ h => List.mem_cons_of_mem _ h) (fun E C Rr hnm hnL => ?_)
  refine sx_aload_n C 0 d_Se_isUsable_0 rfl rfl ?_
  refine sx_geti C f_Se_56 (by decide) rfl d_Se_isUsable_1 ?_
  refine sx_iload_n C 1 d_Se_isUsable_4 rfl rfl ?_
  refine sx_ishr C d_Se_isUsable_5 ?_
  refine sx_iconst C d_Se_isUsable_6 ?_
  refine sx_iand C d_Se_isUsable_7 ?_
  have hv := bit_u (M 17 12) p (hV.2.2.2.2.2.1.1) (hV.2.2.2.2.2.1.2) hp
  generalize (sx_and (sx_shr (M 17 12) ((p : Nat) : Int)) 1) = v at hv ⊢
  refine sx_iconst C d_Se_isUsable_8 ?_
  refine sx_icmp_ne C 16 ⟨by omega, by omega⟩ ⟨by omega, by omega⟩ d_Se_isUsable_9 (by decide) (fun c9 => ?_) (fun c9 => ?_)
  · refine sx_iconst C d_Se_isUsable_16 ?_
    refine sx_zreturn C Rr (by omega) rfl d_Se_isUsable_17 ?_
    exact ⟨rfl, rfl, 0, rfl, Or.inr ⟨rfl, by rcases hv with ⟨q1, q2⟩ | ⟨q1, q2⟩; omega; exact fun z => by (have z2 : (M 17 12).toNat.testBit p = true := z); rw [q2] at z2; cases z2⟩⟩
  · refine sx_iconst C d_Se_isUsable_12 ?_
    refine sx_goto C 17 d_Se_isUsable_13 (by decide) ?_
    refine sx_zreturn C Rr (by omega) rfl d_Se_isUsable_17 ?_
    exact ⟨rfl, rfl, 1, rfl, Or.inl ⟨rfl, by rcases hv with ⟨q1, q2⟩ | ⟨q1, q2⟩; exact q2; omega⟩⟩
set_option maxRecDepth 100000 in
set_option maxHeartbeats 4000000 in
theorem lp_Se_nextWithNeed  (M : sx_M0) (hV : sv M) (k : Nat) {E : sx_E} (C : sx_C SC g_tbl "SiteChoice$Search" c_Se_nextWithNeed E) (Rr : sx_Ret SC (some .int) (rmk 0 0) (fun r G' M' => G' = GL ∧ M' = M ∧ r = some (sx_I ((nwS M ((M 17 0).toNat - k) k : Nat) : Int))) E) (hnL : sx_nL E = 3) : ∀ (nF : Nat) (e : Nat), (M 17 0).toNat - e < nF → nwS M ((M 17 0).toNat - k) k = nwS M ((M 17 0).toNat - e) e → e ≤ (M 17 0).toNat → sx_X SC E (0, 0) GL M 2 [(2, sx_I (((e : Nat) : Int))), (0, sx_A (17)), (1, sx_I (((k : Nat) : Int)))] [] := by
  intro nF
  induction nF with
  | zero => intro e h; omega
  | succ nF ih =>
    intro e hn h1 h2
    have g0 := hV.1
    refine sx_iload_n C 0 d_Se_nextWithNeed_2 rfl rfl ?_
    refine sx_aload_n C 1 d_Se_nextWithNeed_3 rfl rfl ?_
    refine sx_geti C f_Se_9 (by decide) rfl d_Se_nextWithNeed_4 ?_
    refine sx_icmp_ge C 27 ⟨by omega, by omega⟩ ⟨by omega, by omega⟩ d_Se_nextWithNeed_7 (by decide) (fun c7 => ?_) (fun c7 => ?_)
    · refine sx_iload_n C 0 d_Se_nextWithNeed_27 rfl rfl ?_
      refine sx_ireturn C Rr rfl d_Se_nextWithNeed_28 ?_
      exact ⟨rfl, rfl, by rw [h1]; congr 3; rw [show (M 17 0).toNat - e = 0 by omega]; rfl⟩
    · have hN := hV.2.2.1 e (by omega)
      refine sx_aload_n C 1 d_Se_nextWithNeed_10 rfl rfl ?_
      refine sx_getr C f_Se_18 18 (by decide) rfl rfl d_Se_nextWithNeed_11 ?_
      refine sx_iload_n C 0 d_Se_nextWithNeed_14 rfl rfl ?_
      refine sx_laload C e (by decide) rfl rfl rfl (by omega) (by decide) d_Se_nextWithNeed_15 ?_
      refine sx_lconst C 0 rfl d_Se_nextWithNeed_16 ?_
      refine sx_lcmp_ne C 27 ⟨by omega, by omega⟩ ⟨by omega, by omega⟩ d_Se_nextWithNeed_17 d_Se_nextWithNeed_18 (by decide) (fun c18 => ?_) (fun c18 => ?_)
      · refine sx_iload_n C 0 d_Se_nextWithNeed_27 rfl rfl ?_
        refine sx_ireturn C Rr rfl d_Se_nextWithNeed_28 ?_
        exact ⟨rfl, rfl, by rw [h1]; congr 3; rw [show (M 17 0).toNat - e = (M 17 0).toNat - (e + 1) + 1 by omega]; unfold nwS; rw [if_neg c18]⟩
      · refine sx_iinc (lv' := [(2, sx_I (((e + 1 : Nat) : Int))), (0, sx_A (17)), (1, sx_I (((k : Nat) : Int)))]) C 0 d_Se_nextWithNeed_21 rfl (by rw [hnL]; decide) rfl ?_
        refine sx_goto C 2 d_Se_nextWithNeed_24 (by decide) ?_
        refine sx_sub [0, 1, 2] rfl ?_
        exact ih (e + 1) (by omega) (by rw [h1]; have hz : M 18 e = 0 := c18; rw [show (M 17 0).toNat - e = (M 17 0).toNat - (e + 1) + 1 by omega]; rw [nwS_z hz]) (by omega)
set_option maxRecDepth 100000 in
set_option maxHeartbeats 4000000 in
theorem ct_Se_nextWithNeed (l : Launch) (D : va_G) (tc : Nat → ClassId) (M : sx_M0) (hV : sv M) (k : Nat) (hk : k ≤ (M 17 0).toNat) : sx_Met SC l D tc y_Se_nextWithNeed w_Se_nextWithNeed (rmk 0 0) [sx_A (17), sx_I (((k : Nat) : Int))] GL M (fun r G' M' => G' = GL ∧ M' = M ∧ r = some (sx_I ((nwS M ((M 17 0).toNat - k) k : Nat) : Int))) := by
  refine sx_enter (by decide) rfl (Nat.le_of_ble_eq_true rfl) (Ts := g_tbl) (fun _ h => List.mem_cons_of_mem _ h) (fun E C Rr hnm hnL => ?_)
  refine sx_iload_n C 1 d_Se_nextWithNeed_0 rfl rfl ?_
  refine sx_istore_n (lv' := [(2, sx_I (((k : Nat) : Int))), (0, sx_A (17)), (1, sx_I (((k : Nat) : Int)))]) C d_Se_nextWithNeed_1 rfl (by rw [hnL]; decide) rfl ?_
  refine sx_sub [0, 1, 2] rfl ?_
  exact lp_Se_nextWithNeed M hV k C Rr hnL _ k (Nat.lt_succ_self _) rfl hk
set_option maxRecDepth 100000 in
set_option maxHeartbeats 4000000 in
theorem ct_Se_isHopeless (l : Launch) (D : va_G) (tc : Nat → ClassId) (M : sx_M0) (hV : sv M) (x : Int) (hx : sx_r64 x) : sx_Met SC l D tc y_Se_isHopeless w_Se_isHopeless (rmk 0 0) [sx_A (17), sx_J (x)] GL M (fun r G' M' => G' = GL ∧ M' = M ∧ bz (M 17 11 ≠ -1 ∧ (M 17 13 = 1 ∨ M 17 11 ≤ x)) r) := by
  refine sx_enter (by decide) rfl (Nat.le_of_ble_eq_true rfl) (Ts := g_tbl) (fun _ h => List.mem_cons_of_mem _ h) (fun E C Rr hnm hnL => ?_)
  have q1 := hV.2.2.2.2.2.2.1
  have q2 := hV.2.2.2.2.2.2.2.2
  refine sx_aload_n C 0 d_Se_isHopeless_0 rfl rfl ?_
  refine sx_getl C f_Se_52 (by decide) rfl d_Se_isHopeless_1 ?_
  refine sx_ldc2 (v := (-1)) C (-1) (tb_ 95 (by decide +kernel) rfl) (by decide) d_Se_isHopeless_4 ?_
  refine sx_lcmp_eq C 31 ⟨by omega, by omega⟩ ⟨by omega, by omega⟩ d_Se_isHopeless_7 d_Se_isHopeless_8 (by decide) (fun c8 => ?_) (fun c8 => ?_)
  · refine sx_iconst C d_Se_isHopeless_31 ?_
    refine sx_zreturn C Rr (by omega) rfl d_Se_isHopeless_32 ?_
    exact ⟨rfl, rfl, 0, rfl, Or.inr ⟨rfl, by omega⟩⟩
  · refine sx_aload_n C 0 d_Se_isHopeless_11 rfl rfl ?_
    refine sx_getz C f_Se_59 (by decide) rfl d_Se_isHopeless_12 ?_
    refine sx_if_ne C 27 ⟨by omega, by omega⟩ d_Se_isHopeless_15 (by decide) (fun c15 => ?_) (fun c15 => ?_)
    · refine sx_iconst C d_Se_isHopeless_27 ?_
      refine sx_goto C 32 d_Se_isHopeless_28 (by decide) ?_
      refine sx_zreturn C Rr (by omega) rfl d_Se_isHopeless_32 ?_
      exact ⟨rfl, rfl, 1, rfl, Or.inl ⟨rfl, by omega⟩⟩
    · refine sx_lload_n C 1 d_Se_isHopeless_18 rfl rfl ?_
      refine sx_aload_n C 0 d_Se_isHopeless_19 rfl rfl ?_
      refine sx_getl C f_Se_52 (by decide) rfl d_Se_isHopeless_20 ?_
      refine sx_lcmp_lt C 31 ⟨by omega, by omega⟩ ⟨by omega, by omega⟩ d_Se_isHopeless_23 d_Se_isHopeless_24 (by decide) (fun c24 => ?_) (fun c24 => ?_)
      · refine sx_iconst C d_Se_isHopeless_31 ?_
        refine sx_zreturn C Rr (by omega) rfl d_Se_isHopeless_32 ?_
        exact ⟨rfl, rfl, 0, rfl, Or.inr ⟨rfl, by omega⟩⟩
      · refine sx_iconst C d_Se_isHopeless_27 ?_
        refine sx_goto C 32 d_Se_isHopeless_28 (by decide) ?_
        refine sx_zreturn C Rr (by omega) rfl d_Se_isHopeless_32 ?_
        exact ⟨rfl, rfl, 1, rfl, Or.inl ⟨rfl, by omega⟩⟩
set_option maxRecDepth 100000 in
set_option maxHeartbeats 4000000 in
theorem ct_Se_canTake (l : Launch) (D : va_G) (tc : Nat → ClassId) (M : sx_M0) (hV : sv M) (hl : ∀ p, p < 5 → -1000 ≤ M 30 p ∧ M 30 p ≤ 1000) (p d : Nat) (hp : p < 5) (hd : d < 6) : sx_Met SC l D tc y_Se_canTake w_Se_canTake (rmk 1 40) [sx_A (17), sx_I (((p : Nat) : Int)), sx_I (((d : Nat) : Int))] GL M (fun r G' M' => G' = GL ∧ M' = M ∧ bz ((jS M).2.2.2.2.2.testBit p = true ∧ M (20 + 1 + d) p ≠ -1 ∧ M 18 d ≤ M 30 p) r) := by
  refine sx_enter (by decide) rfl (Nat.le_of_ble_eq_true rfl) (Ts := g_tbl) (fun _ h => List.mem_cons_of_mem _ h) (fun E C Rr hnm hnL => ?_)
  refine sx_aload_n C 0 d_Se_canTake_0 rfl rfl ?_
  refine sx_iload_n C 1 d_Se_canTake_1 rfl rfl ?_
  refine sx_callV (n := 71) (As := [sx_I (((p : Nat) : Int))]) (st := []) C (ct_Se_isUsable _ _ _ M hV p (by omega)) rfl (by decide) rfl (cv_Se_134 E C _ (by rw [Rr.2.2]; decide)) (Nat.le_of_ble_eq_true rfl) d_Se_canTake_2 (by rw [Rr.2.2]; decide) (by decide) rfl rfl rfl (fun r2 G2 M2 hpo _ => ?_)
  obtain ⟨e1, e2, b2, rfl, hb2⟩ := hpo
  rw [e1, e2]
  show sx_X SC E (0, 0) GL M 5 [(0, sx_A (17)), (1, sx_I (((p : Nat) : Int))), (2, sx_I (((d : Nat) : Int)))] [sx_I (b2)]
  refine sx_if_eq C 43 ⟨by omega, by omega⟩ d_Se_canTake_5 (by decide) (fun c5 => ?_) (fun c5 => ?_)
  · refine sx_iconst C d_Se_canTake_43 ?_
    refine sx_zreturn C Rr (by omega) rfl d_Se_canTake_44 ?_
    exact ⟨rfl, rfl, 0, rfl, Or.inr ⟨rfl, by rintro ⟨z1, z2, z3⟩; first | omega | (rcases hb2 with ⟨q1, q2⟩ | ⟨q1, q2⟩; omega; exact q2 z1)⟩⟩
  · have hR := hV.2.2.2.1 d p hd hp
    have hN := hV.2.2.1 d hd
    have hL := hl p hp
    refine sx_aload_n C 0 d_Se_canTake_8 rfl rfl ?_
    refine sx_getr C f_Se_27 20 (by decide) rfl rfl d_Se_canTake_9 ?_
    refine sx_iload_n C 2 d_Se_canTake_12 rfl rfl ?_
    refine sx_aaload C d (20 + 1 + d) (by decide) rfl rfl rfl (by omega) (by decide) (if_pos (by omega)) d_Se_canTake_13 ?_
    refine sx_iload_n C 1 d_Se_canTake_14 rfl rfl ?_
    refine sx_laload C p (by show (20 + 1 + d) < 71; omega) (gl_20 _ (by omega)) rfl rfl (by omega) (by decide) d_Se_canTake_15 ?_
    refine sx_ldc2 (v := (-1)) C (-1) (tb_ 95 (by decide +kernel) rfl) (by decide) d_Se_canTake_16 ?_
    refine sx_lcmp_eq C 43 ⟨by omega, by omega⟩ ⟨by omega, by omega⟩ d_Se_canTake_19 d_Se_canTake_20 (by decide) (fun c20 => ?_) (fun c20 => ?_)
    · refine sx_iconst C d_Se_canTake_43 ?_
      refine sx_zreturn C Rr (by omega) rfl d_Se_canTake_44 ?_
      exact ⟨rfl, rfl, 0, rfl, Or.inr ⟨rfl, by rintro ⟨z1, z2, z3⟩; first | omega | (rcases hb2 with ⟨q1, q2⟩ | ⟨q1, q2⟩; omega; exact q2 z1)⟩⟩
    · refine sx_aload_n C 0 d_Se_canTake_23 rfl rfl ?_
      refine sx_getr C f_Se_40 30 (by decide) rfl rfl d_Se_canTake_24 ?_
      refine sx_iload_n C 1 d_Se_canTake_27 rfl rfl ?_
      refine sx_laload C p (by decide) rfl rfl rfl (by omega) (by decide) d_Se_canTake_28 ?_
      refine sx_aload_n C 0 d_Se_canTake_29 rfl rfl ?_
      refine sx_getr C f_Se_18 18 (by decide) rfl rfl d_Se_canTake_30 ?_
      refine sx_iload_n C 2 d_Se_canTake_33 rfl rfl ?_
      refine sx_laload C d (by decide) rfl rfl rfl (by omega) (by decide) d_Se_canTake_34 ?_
      refine sx_lcmp_lt C 43 ⟨by omega, by omega⟩ ⟨by omega, by omega⟩ d_Se_canTake_35 d_Se_canTake_36 (by decide) (fun c36 => ?_) (fun c36 => ?_)
      · refine sx_iconst C d_Se_canTake_43 ?_
        refine sx_zreturn C Rr (by omega) rfl d_Se_canTake_44 ?_
        exact ⟨rfl, rfl, 0, rfl, Or.inr ⟨rfl, by rintro ⟨z1, z2, z3⟩; first | omega | (rcases hb2 with ⟨q1, q2⟩ | ⟨q1, q2⟩; omega; exact q2 z1)⟩⟩
      · refine sx_iconst C d_Se_canTake_39 ?_
        refine sx_goto C 44 d_Se_canTake_40 (by decide) ?_
        refine sx_zreturn C Rr (by omega) rfl d_Se_canTake_44 ?_
        exact ⟨rfl, rfl, 1, rfl, Or.inl ⟨rfl, by rcases hb2 with ⟨q1, q2⟩ | ⟨q1, q2⟩; exact ⟨q2, c20, by omega⟩; omega⟩⟩
def kbS (M : sx_M0) (x : Int) : sx_M0 := if M 17 11 = -1 ∨ x < M 17 11 then sx_cpy (sx_up M 17 11 x) 31 32 0 0 6 else M
set_option maxRecDepth 100000 in
set_option maxHeartbeats 4000000 in
theorem ct_Se_keepIfBetter (l : Launch) (D : va_G) (tc : Nat → ClassId) (M : sx_M0) (hV : sv M) (x : Int) (hx : sx_r64 x) : sx_Met SC l D tc y_Se_keepIfBetter w_Se_keepIfBetter (rmk 1 40) [sx_A (17), sx_J (x)] GL M (fun r G' M' => G' = GL ∧ M' = kbS M x ∧ r = none) := by
  refine sx_enter (by decide) rfl (Nat.le_of_ble_eq_true rfl) (Ts := g_tbl) (fun _ h => List.mem_cons_of_mem _ h) (fun E C Rr hnm hnL => ?_)
  have q2 := hV.2.2.2.2.2.2.2.2
  refine sx_aload_n C 0 d_Se_keepIfBetter_0 rfl rfl ?_
  refine sx_getl C f_Se_52 (by decide) rfl d_Se_keepIfBetter_1 ?_
  refine sx_ldc2 (v := (-1)) C (-1) (tb_ 95 (by decide +kernel) rfl) (by decide) d_Se_keepIfBetter_4 ?_
  refine sx_lcmp_eq C 20 ⟨by omega, by omega⟩ ⟨by omega, by omega⟩ d_Se_keepIfBetter_7 d_Se_keepIfBetter_8 (by decide) (fun c8 => ?_) (fun c8 => ?_)
  · refine sx_aload_n C 0 d_Se_keepIfBetter_20 rfl rfl ?_
    refine sx_lload_n C 1 d_Se_keepIfBetter_21 rfl rfl ?_
    refine sx_putl C p_Se_52 (by decide) rfl d_Se_keepIfBetter_22 ?_
    refine sx_aload_n C 0 d_Se_keepIfBetter_25 rfl rfl ?_
    refine sx_getr C f_Se_43 31 (by decide) rfl rfl d_Se_keepIfBetter_26 ?_
    refine sx_iconst C d_Se_keepIfBetter_29 ?_
    refine sx_aload_n C 0 d_Se_keepIfBetter_30 rfl rfl ?_
    refine sx_getr C f_Se_47 32 (by decide) rfl rfl d_Se_keepIfBetter_31 ?_
    refine sx_iconst C d_Se_keepIfBetter_34 ?_
    refine sx_bipush C d_Se_keepIfBetter_35 (by decide) ?_
    refine sx_copyI (sp := 0) (dp := 0) (n := 6) C (by decide) rfl (by decide) rfl rfl rfl rfl rfl (by decide) (by decide) (by decide) (by decide) (tb_ 343 (by decide +kernel) rfl) (tb_ 345 (by decide +kernel) rfl) (tb_ 344 (by decide +kernel) rfl) (tb_ 10 (by decide +kernel) rfl) (by rw [Rr.2.2]; decide) (by rw [Rr.2.2]; decide) d_Se_keepIfBetter_37 ?_
    refine sx_return C Rr rfl d_Se_keepIfBetter_40 ?_
    exact ⟨rfl, by rw [kbS, if_pos (by omega)], rfl⟩
  · refine sx_lload_n C 1 d_Se_keepIfBetter_11 rfl rfl ?_
    refine sx_aload_n C 0 d_Se_keepIfBetter_12 rfl rfl ?_
    refine sx_getl C f_Se_52 (by decide) rfl d_Se_keepIfBetter_13 ?_
    refine sx_lcmp_ge C 40 ⟨by omega, by omega⟩ ⟨by omega, by omega⟩ d_Se_keepIfBetter_16 d_Se_keepIfBetter_17 (by decide) (fun c17 => ?_) (fun c17 => ?_)
    · refine sx_return C Rr rfl d_Se_keepIfBetter_40 ?_
      exact ⟨rfl, by rw [kbS, if_neg (by omega)], rfl⟩
    · refine sx_aload_n C 0 d_Se_keepIfBetter_20 rfl rfl ?_
      refine sx_lload_n C 1 d_Se_keepIfBetter_21 rfl rfl ?_
      refine sx_putl C p_Se_52 (by decide) rfl d_Se_keepIfBetter_22 ?_
      refine sx_aload_n C 0 d_Se_keepIfBetter_25 rfl rfl ?_
      refine sx_getr C f_Se_43 31 (by decide) rfl rfl d_Se_keepIfBetter_26 ?_
      refine sx_iconst C d_Se_keepIfBetter_29 ?_
      refine sx_aload_n C 0 d_Se_keepIfBetter_30 rfl rfl ?_
      refine sx_getr C f_Se_47 32 (by decide) rfl rfl d_Se_keepIfBetter_31 ?_
      refine sx_iconst C d_Se_keepIfBetter_34 ?_
      refine sx_bipush C d_Se_keepIfBetter_35 (by decide) ?_
      refine sx_copyI (sp := 0) (dp := 0) (n := 6) C (by decide) rfl (by decide) rfl rfl rfl rfl rfl (by decide) (by decide) (by decide) (by decide) (tb_ 343 (by decide +kernel) rfl) (tb_ 345 (by decide +kernel) rfl) (tb_ 344 (by decide +kernel) rfl) (tb_ 10 (by decide +kernel) rfl) (by rw [Rr.2.2]; decide) (by rw [Rr.2.2]; decide) d_Se_keepIfBetter_37 ?_
      refine sx_return C Rr rfl d_Se_keepIfBetter_40 ?_
      exact ⟨rfl, by rw [kbS, if_pos (by omega)], rfl⟩
end
section
def dN (M : sx_M0) : Nat := (M 17 0).toNat
def LRok (M : sx_M0) : Prop := ∀ k, k ≤ dN M → ∀ s rl g, CP (jS M) (dN M - k) k s rl g → M 29 k ≤ sm (jS M) (dN M - k) k g
def otS (M : sx_M0) (k : Nat) (g : Nat → Int) : Nat → Int := fun d => if k ≤ d ∧ d < dN M then g d else M 31 d
def gFr (M M' : sx_M0) (k : Nat) : Prop := (∀ a, a ≠ 17 → a ≠ 31 → a ≠ 32 → M' a = M a) ∧ (∀ b, b ≠ 11 → M' 17 b = M 17 b) ∧ (∀ b, b < k → M' 31 b = M 31 b) ∧ (∀ b, M 18 b = 0 → M' 31 b = M 31 b) ∧ (∀ b, dN M ≤ b → M' 31 b = M 31 b) ∧ (-1 ≤ M' 17 11 ∧ M' 17 11 ≤ 100000000)
def gvP (M M' : sx_M0) (k s : Nat) (c : Int) : Prop := gFr M M' k ∧ Im (M 17 13) (CP (jS M) (dN M - k) k s (M 30)) (fun g => c + sm (jS M) (dN M - k) k g) (lx (dN M - k) k) (otS M k) (M 17 11) (M 32) (M' 17 11) (M' 32)
def gvI (M : sx_M0) (k s : Nat) (c : Int) : Prop := sv M ∧ LRok M ∧ (∀ p, p < 5 → 0 ≤ M 30 p ∧ M 30 p ≤ 1000) ∧ (∀ d, d < 6 → M 18 d = 0 → M 31 d = -1) ∧ k ≤ dN M ∧ s < 32 ∧ 0 ≤ c ∧ c ≤ 1500000 * (k : Int)
theorem gvP_up {M M' : sx_M0} {k s : Nat} {c : Int} (hk : k < dN M) (h0 : M 18 k = 0) (h31 : M 31 k = -1) (h : gvP M M' (k + 1) s c) : gvP M M' k s c := by
  obtain ⟨⟨f1, f2, f3, f4, f5, f6⟩, hI⟩ := h
  refine ⟨⟨f1, f2, fun b hb => f3 b (by omega), f4, f5, f6⟩, ?_⟩
  have en : dN M - k = dN M - (k + 1) + 1 := by omega
  rw [en]
  have hj : (jS M).2.2.1 k = 0 := h0
  refine Im_map (fun g => fun e => if e = k then -1 else g e) ?_ ?_ ?_ hI
  · intro g hg
    have hc : ∀ e, k + 1 ≤ e → g e = (fun e => if e = k then (-1 : Int) else g e) e := fun e he => by
      show g e = if e = k then -1 else g e
      rw [if_neg (by omega)]
    refine ⟨Or.inl ⟨hj, if_pos rfl, CP_congr hc hg⟩, ?_, fun d hd => ?_⟩
    · show c + ((if (jS M).2.2.1 k = 0 then 0 else _) + sm _ _ _ _) = _
      rw [if_pos hj, sm_congr (h := g) (fun e he => (hc e he).symm)]
      omega
    · unfold otS
      by_cases hdk : d = k
      · subst hdk
        rw [if_pos (⟨Nat.le_refl d, hk⟩ : d ≤ d ∧ d < dN M), if_neg (by omega : ¬ (d + 1 ≤ d ∧ d < dN M))]
        show (if d = d then (-1 : Int) else g d) = M 31 d
        rw [if_pos rfl]
        exact h31.symm
      · by_cases h1 : k + 1 ≤ d ∧ d < dN M
        · rw [if_pos h1, if_pos (⟨by omega, h1.2⟩ : k ≤ d ∧ d < dN M)]
          exact if_neg hdk
        · rw [if_neg h1, if_neg (by omega)]
  · intro g hg
    rcases hg with ⟨-, q2, q3⟩ | ⟨q1, -⟩
    · refine ⟨q3, ?_⟩
      show c + ((if (jS M).2.2.1 k = 0 then 0 else _) + sm _ _ _ _) = _
      rw [if_pos hj]
      omega
    · exact absurd hj q1
  · intro g h hg hh hl
    refine Or.inr ⟨?_, lx_congr (fun e he => ?_) (fun _ _ => rfl) hl⟩
    · rcases hh with ⟨-, q2, -⟩ | ⟨q1, -⟩
      · show (if k = k then (-1 : Int) else g k) = h k
        rw [if_pos rfl, q2]
      · exact absurd hj q1
    · show g e = if e = k then -1 else g e
      rw [if_neg (by omega)]
theorem gvP_nw {M M' : sx_M0} {s : Nat} {c : Int} (h31 : ∀ d, d < 6 → M 18 d = 0 → M 31 d = -1) (hD : dN M ≤ 6) : ∀ (n k : Nat), k + n = dN M → gvP M M' (nwS M n k) s c → gvP M M' k s c
  | 0, k, _, h => h
  | n + 1, k, e, h => by
    by_cases hz : M 18 k = 0
    · rw [nwS_z hz] at h
      exact gvP_up (by omega) hz (h31 k (by omega) hz) (gvP_nw h31 hD n (k + 1) (by omega) h)
    · have e2 : nwS M (n + 1) k = k := by
        show (if M 18 k = 0 then nwS M n (k + 1) else k) = k
        rw [if_neg hz]
      rw [e2] at h
      exact h
theorem nwS_at (M : sx_M0) : ∀ (n k : Nat), nwS M n k < k + n → M 18 (nwS M n k) ≠ 0
  | 0, k, h => by simp [nwS] at h
  | n + 1, k, h => by
    by_cases hz : M 18 k = 0
    · rw [nwS_z hz] at h ⊢
      exact nwS_at M n (k + 1) (by omega)
    · have e2 : nwS M (n + 1) k = k := by
        show (if M 18 k = 0 then nwS M n (k + 1) else k) = k
        rw [if_neg hz]
      rw [e2]
      exact hz
theorem kbS_fr {M : sx_M0} {c : Int} (hs : M 17 11 = -1 ∨ c < M 17 11) : (∀ a, a ≠ 17 → a ≠ 32 → kbS M c a = M a) ∧ (∀ b, b ≠ 11 → kbS M c 17 b = M 17 b) ∧ kbS M c 17 11 = c ∧ ∀ d, d < 6 → kbS M c 32 d = M 31 d := by
  unfold kbS
  rw [if_pos hs]
  refine ⟨fun a h1 h2 => ?_, fun b hb => ?_, ?_, fun d hd => ?_⟩
  · funext b
    simp [sx_cpy, sx_up, h1, h2]
  · simp [sx_cpy, sx_up, hb]
  · simp [sx_cpy, sx_up]
  · simp [sx_cpy, sx_up, hd]
/-- nothing is left to give: the plan is kept, if it is better -/
theorem gvP_end {M : sx_M0} {s : Nat} {c : Int} (hV : sv M) (hc0 : 0 ≤ c) (hc1 : c ≤ 100000000) (hs : s < 32) : gvP M (kbS M c) (dN M) s c := by
  have e0 : dN M - dN M = 0 := by omega
  by_cases h : M 17 11 = -1 ∨ c < M 17 11
  · obtain ⟨k1, k2, k3, k4⟩ := kbS_fr h
    refine ⟨⟨fun a h1 _ h3 => k1 a h1 h3, k2, fun b _ => by rw [k1 31 (by decide) (by decide)], fun b _ => by rw [k1 31 (by decide) (by decide)], fun b _ => by rw [k1 31 (by decide) (by decide)], by rw [k3]; omega⟩, ?_⟩
    rw [e0, k3]
    refine Or.inr ⟨fun _ => -1, trivial, by show c = c + 0; omega, h, fun d hd => ?_, fun _ g _ => ⟨by show c ≤ c + 0; omega, fun _ => trivial⟩⟩
    rw [k4 d hd]
    unfold otS
    rw [if_neg (by omega)]
  · have e : kbS M c = M := by
      unfold kbS
      rw [if_neg h]
    rw [e]
    have q := hV.2.2.2.2.2.2.2.2
    refine ⟨⟨fun _ _ _ _ => rfl, fun _ _ => rfl, fun _ _ => rfl, fun _ _ => rfl, fun _ _ => rfl, q⟩, Im_none fun g _ => ⟨by omega, fun _ => ?_⟩⟩
    rw [e0]
    show M 17 11 ≤ c + 0
    omega
/-- no plan from here on can be better -/
theorem gvP_hope {M : sx_M0} {k s : Nat} {c : Int} (hV : sv M) (hL : LRok M) (hk : k ≤ dN M) (h : M 17 11 ≠ -1 ∧ (M 17 13 = 1 ∨ M 17 11 ≤ c + M 29 k)) : gvP M M k s c := by
  refine ⟨⟨fun _ _ _ _ => rfl, fun _ _ => rfl, fun _ _ => rfl, fun _ _ => rfl, fun _ _ => rfl, hV.2.2.2.2.2.2.2.2⟩, Im_none fun g hg => ⟨h.1, fun hf => ?_⟩⟩
  have := hL k hk s (M 30) g hg
  show M 17 11 ≤ c + sm _ _ _ _
  omega

theorem jS_eq {M M' : sx_M0} (h17 : ∀ b, b ≠ 11 → M' 17 b = M 17 b) (h : ∀ a, a ≠ 17 → a ≠ 30 → a ≠ 31 → a ≠ 32 → M' a = M a) : jS M' = jS M := by
  unfold jS
  rw [h17 0 (by decide), h17 1 (by decide), h17 12 (by decide), h 18 (by decide) (by decide) (by decide) (by decide), h 27 (by decide) (by decide) (by decide) (by decide)]
  have e : (fun d p => if d < 6 then M' (20 + 1 + d) p else 0) = (fun d p => if d < 6 then M (20 + 1 + d) p else 0) := by
    funext d p
    by_cases hd : d < 6
    · rw [if_pos hd, if_pos hd, h (20 + 1 + d) (by omega) (by omega) (by omega) (by omega)]
    · rw [if_neg hd, if_neg hd]
  rw [e]
theorem dN_eq {M M' : sx_M0} (h17 : ∀ b, b ≠ 11 → M' 17 b = M 17 b) : dN M' = dN M := by
  unfold dN
  rw [h17 0 (by decide)]
theorem sm_nn {M : sx_M0} (hV : sv M) : ∀ {n k s : Nat} {rl g : Nat → Int}, k + n ≤ 6 → CP (jS M) n k s rl g → 0 ≤ sm (jS M) n k g
  | 0, _, _, _, _, _, _ => Int.le_refl 0
  | n + 1, k, s, rl, g, hk, h => by
    unfold sm
    rcases h with ⟨h1, -, h3⟩ | ⟨h1, p, hp, h2, -, h4, -, -, h7⟩
    · rw [if_pos h1]
      have := sm_nn hV (by omega) h3
      omega
    · rw [if_neg h1]
      have q := sm_nn hV (by omega) h7
      have hp5 : p < 5 := by
        have := hV.2.1
        have hp' : p < (M 17 1).toNat := hp
        omega
      have hr := hV.2.2.2.1 k p (by omega) hp5
      have e : (jS M).2.2.2.1 k p = M (20 + 1 + k) p := if_pos (by omega)
      have hn := (hV.2.2.1 k (by omega)).1
      rw [e] at h4
      rw [h2, Int.toNat_natCast, e]
      have : 0 ≤ (jS M).2.2.1 k * M (20 + 1 + k) p := Int.mul_nonneg hn (by omega)
      omega
/-- between two places of the loop: of the plans that give district d one of the first p places the best is kept -/
def gepI (M0 M : sx_M0) (d s : Nat) (c : Int) (p : Nat) : Prop := gFr M0 M d ∧ Im (M0 17 13) (fun g => CP (jS M0) (dN M0 - d) d s (M0 30) g ∧ g d < (p : Int)) (fun g => c + sm (jS M0) (dN M0 - d) d g) (lx (dN M0 - d) d) (otS M0 d) (M0 17 11) (M0 32) (M 17 11) (M 32)
theorem CP_head {J : mt_J} {n d s : Nat} {rl g : Nat → Int} (hn : J.2.2.1 d ≠ 0) (h : CP J (n + 1) d s rl g) : ∃ p : Nat, p < J.2.1 ∧ g d = (p : Int) ∧ J.2.2.2.2.2.testBit p = true ∧ J.2.2.2.1 d p ≠ -1 ∧ J.2.2.1 d ≤ rl p ∧ J.2.2.2.2.1 (s ||| 2 ^ p) = 1 ∧ CP J n (d + 1) (s ||| 2 ^ p) (fun q => if q = p then rl q - J.2.2.1 d else rl q) g := by
  rcases h with ⟨h1, -⟩ | ⟨-, h⟩
  · exact absurd h1 hn
  · exact h
theorem gep_0 {M0 : sx_M0} {d s : Nat} {c : Int} (hV : sv M0) (hd : d < dN M0) (hn : M0 18 d ≠ 0) : gepI M0 M0 d s c 0 := by
  refine ⟨⟨fun _ _ _ _ => rfl, fun _ _ => rfl, fun _ _ => rfl, fun _ _ => rfl, fun _ _ => rfl, hV.2.2.2.2.2.2.2.2⟩, Im_none fun g hg => ?_⟩
  obtain ⟨h1, h2⟩ := hg
  rw [show dN M0 - d = dN M0 - (d + 1) + 1 by omega] at h1
  obtain ⟨p, -, h3, -⟩ := CP_head hn h1
  omega
theorem gep_end {M0 M : sx_M0} {d s p : Nat} {c : Int} (hd : d < dN M0) (hn : M0 18 d ≠ 0) (hp : p = (M0 17 1).toNat) (h : gepI M0 M d s c p) : gvP M0 M d s c := by
  refine ⟨h.1, Im_map id (fun g hg => ⟨hg.1, rfl, fun _ _ => rfl⟩) (fun g hg => ⟨⟨hg, ?_⟩, rfl⟩) (fun _ _ _ _ q => q) h.2⟩
  rw [show dN M0 - d = dN M0 - (d + 1) + 1 by omega] at hg
  obtain ⟨q, h2, h3, -⟩ := CP_head hn hg
  have h2' : q < (M0 17 1).toNat := h2
  omega
theorem gep_skip {M0 M : sx_M0} {d s p : Nat} {c : Int} (hd : d < dN M0) (hd6 : d < 6) (hn : M0 18 d ≠ 0) (hno : ¬ ((jS M0).2.2.2.2.2.testBit p = true ∧ M0 (20 + 1 + d) p ≠ -1 ∧ M0 18 d ≤ M0 30 p ∧ M0 27 (s ||| 2 ^ p) = 1)) (h : gepI M0 M d s c p) : gepI M0 M d s c (p + 1) := by
  refine ⟨h.1, Im_map id (fun g hg => ⟨⟨hg.1, ?_⟩, rfl, fun _ _ => rfl⟩) (fun g hg => ⟨⟨hg.1, ?_⟩, rfl⟩) (fun _ _ _ _ q => q) h.2⟩
  · have := hg.2
    show g d < ((p + 1 : Nat) : Int)
    omega
  · obtain ⟨h1, h2⟩ := hg
    rw [show dN M0 - d = dN M0 - (d + 1) + 1 by omega] at h1
    obtain ⟨q, h3, h4, h5, h6, h7, h8, -⟩ := CP_head hn h1
    have e : (jS M0).2.2.2.1 d q = M0 (20 + 1 + d) q := if_pos hd6
    rw [e] at h6
    by_cases hq : q = p
    · subst hq
      exact absurd ⟨h5, h6, h7, h8⟩ hno
    · omega
theorem gep_take {M0 M M2 : sx_M0} {d s p : Nat} {c : Int} (hV : sv M0) (hd : d < dN M0) (hd6 : d < 6) (hp : p < (M0 17 1).toNat) (hn : M0 18 d ≠ 0) (hy : (jS M0).2.2.2.2.2.testBit p = true ∧ M0 (20 + 1 + d) p ≠ -1 ∧ M0 18 d ≤ M0 30 p ∧ M0 27 (s ||| 2 ^ p) = 1) (hc : 0 ≤ c) (h : gepI M0 M d s c p)
    (h2 : gvP (sx_up (sx_up M 30 p (M 30 p - M 18 d)) 31 d (p : Int)) M2 (d + 1) (s ||| 2 ^ p) (c + M 18 d * M (20 + 1 + d) p)) : gepI M0 (sx_up M2 30 p (M2 30 p + M2 18 d)) d s c (p + 1) := by
  obtain ⟨⟨f1, f2, f3, f4, f5, f6⟩, hI⟩ := h
  obtain ⟨⟨g1, g2, g3, g4, g5, g6⟩, hJ⟩ := h2
  have h30 : M 30 = M0 30 := f1 30 (by decide) (by decide) (by decide)
  have h18 : M 18 = M0 18 := f1 18 (by decide) (by decide) (by decide)
  generalize hM1 : sx_up (sx_up M 30 p (M 30 p - M 18 d)) 31 d (p : Int) = M1 at g1 g2 g3 g4 g5 hJ
  have m1 : ∀ a, a ≠ 30 → a ≠ 31 → M1 a = M a := fun a ha hb => by rw [← hM1, sx_up_ne hb, sx_up_ne ha]
  have m30 : M1 30 = fun q => if q = p then M0 30 q - M0 18 d else M0 30 q := by
    rw [← hM1, sx_up_ne (by decide)]
    funext q
    by_cases hq : q = p
    · subst hq
      rw [sx_up_at, if_pos rfl, h30, h18]
    · rw [sx_up_slot hq, if_neg hq, h30]
  have m31 : ∀ b, M1 31 b = if b = d then (p : Int) else M 31 b := fun b => by
    rw [← hM1]
    by_cases hb : b = d
    · subst hb
      rw [sx_up_at, if_pos rfl]
    · rw [sx_up_slot hb, if_neg hb, sx_up_ne (by decide)]
  have e17 : ∀ b, b ≠ 11 → M1 17 b = M0 17 b := fun b hb => by rw [m1 17 (by decide) (by decide)]; exact f2 b hb
  have eJ : jS M1 = jS M0 := jS_eq e17 (fun a h1 h2 h3 h4 => (m1 a h2 h3).trans (f1 a h1 h3 h4))
  have eD : dN M1 = dN M0 := dN_eq e17
  have eR : M (20 + 1 + d) = M0 (20 + 1 + d) := f1 _ (by omega) (by omega) (by omega)
  have x30 : sx_up M2 30 p (M2 30 p + M2 18 d) 30 = M0 30 := by
    have q1 : M2 30 = M1 30 := g1 30 (by decide) (by decide) (by decide)
    have q2 : M2 18 = M0 18 := (g1 18 (by decide) (by decide) (by decide)).trans ((m1 18 (by decide) (by decide)).trans h18)
    funext b
    by_cases hb : b = p
    · subst hb
      rw [sx_up_at, q1, q2, m30]
      show (if b = b then M0 30 b - M0 18 d else M0 30 b) + M0 18 d = M0 30 b
      rw [if_pos rfl]
      omega
    · rw [sx_up_slot hb, q1, m30]
      show (if b = p then M0 30 b - M0 18 d else M0 30 b) = M0 30 b
      rw [if_neg hb]
  have x17 : sx_up M2 30 p (M2 30 p + M2 18 d) 17 = M2 17 := sx_up_ne (by decide)
  have x31 : sx_up M2 30 p (M2 30 p + M2 18 d) 31 = M2 31 := sx_up_ne (by decide)
  have x32 : sx_up M2 30 p (M2 30 p + M2 18 d) 32 = M2 32 := sx_up_ne (by decide)
  refine ⟨⟨fun a h1 h2 h3 => ?_, fun b hb => ?_, fun b hb => ?_, fun b hb => ?_, fun b hb => ?_, by rw [x17]; exact g6⟩, ?_⟩
  · by_cases ha : a = 30
    · subst ha
      exact x30
    · rw [sx_up_ne ha, g1 a h1 h2 h3, m1 a ha h2]
      exact f1 a h1 h2 h3
  · rw [x17, g2 b hb]
    exact e17 b hb
  · rw [x31, g3 b (by omega), m31, if_neg (by omega)]
    exact f3 b hb
  · have hbd : b ≠ d := fun e => hn (by rw [← e]; exact hb)
    rw [x31, g4 b (by rw [m1 18 (by decide) (by decide), h18]; exact hb), m31, if_neg hbd]
    exact f4 b hb
  · rw [x31, g5 b (by rw [eD]; exact hb), m31, if_neg (by omega)]
    exact f5 b hb
  · rw [x17, x32]
    have en : dN M0 - d = dN M0 - (d + 1) + 1 := by omega
    have eP : (jS M0).2.2.2.1 d p = M0 (20 + 1 + d) p := if_pos hd6
    rw [eJ, eD, m30, h18, eR, e17 13 (by decide), m1 17 (by decide) (by decide), m1 32 (by decide) (by decide)] at hJ
    have hK : Im (M0 17 13) (fun g => CP (jS M0) (dN M0 - d) d s (M0 30) g ∧ g d = (p : Int)) (fun g => c + sm (jS M0) (dN M0 - d) d g) (lx (dN M0 - d) d) (otS M0 d) (M 17 11) (M 32) (M2 17 11) (M2 32) := by
      rw [en]
      refine Im_map (fun g => fun e => if e = d then (p : Int) else g e) ?_ ?_ ?_ hJ
      · intro g hg
        have hcg : ∀ e, d + 1 ≤ e → g e = (fun e => if e = d then (p : Int) else g e) e := fun e he => by
          show g e = if e = d then (p : Int) else g e
          rw [if_neg (by omega)]
        have hgd : (fun e => if e = d then (p : Int) else g e) d = (p : Int) := if_pos rfl
        refine ⟨⟨Or.inr ⟨hn, p, hp, hgd, hy.1, by rw [eP]; exact hy.2.1, hy.2.2.1, hy.2.2.2, CP_congr hcg hg⟩, hgd⟩, ?_, fun x hx => ?_⟩
        · show c + ((if (jS M0).2.2.1 d = 0 then 0 else (jS M0).2.2.1 d * (jS M0).2.2.2.1 d ((fun e => if e = d then (p : Int) else g e) d).toNat) + sm _ _ _ _) = _
          rw [if_neg (show ¬ (jS M0).2.2.1 d = 0 from hn), hgd, Int.toNat_natCast, eP, sm_congr (h := g) (fun e he => (hcg e he).symm)]
          show c + (M0 18 d * M0 (20 + 1 + d) p + _) = c + M0 18 d * M0 (20 + 1 + d) p + _
          omega
        · unfold otS
          rw [eD]
          by_cases hxd : x = d
          · subst hxd
            rw [if_pos (⟨Nat.le_refl x, hd⟩ : x ≤ x ∧ x < dN M0), if_neg (by omega : ¬ (x + 1 ≤ x ∧ x < dN M0)), m31, if_pos rfl]
            exact if_pos rfl
          · by_cases h1 : d + 1 ≤ x ∧ x < dN M0
            · rw [if_pos h1, if_pos (⟨by omega, h1.2⟩ : d ≤ x ∧ x < dN M0)]
              exact if_neg hxd
            · rw [if_neg h1, if_neg (by omega), m31, if_neg hxd]
              rcases Nat.lt_or_ge x d with q | q
              · exact (f3 x q).symm
              · exact (f5 x (by omega)).symm
      · intro g hg
        obtain ⟨q1, q2⟩ := hg
        obtain ⟨r, -, r3, -, -, -, -, r8⟩ := CP_head hn q1
        have er : r = p := by omega
        subst er
        refine ⟨r8, ?_⟩
        show c + ((if (jS M0).2.2.1 d = 0 then 0 else (jS M0).2.2.1 d * (jS M0).2.2.2.1 d (g d).toNat) + sm _ _ _ _) = c + M0 18 d * M0 (20 + 1 + d) r + _
        rw [if_neg (show ¬ (jS M0).2.2.1 d = 0 from hn), q2, Int.toNat_natCast, eP]
        show c + (M0 18 d * M0 (20 + 1 + d) r + _) = _
        omega
      · intro g h hg hh hl
        refine Or.inr ⟨?_, lx_congr (fun e he => ?_) (fun _ _ => rfl) hl⟩
        · show (if d = d then (p : Int) else g d) = h d
          rw [if_pos rfl, hh.2]
        · show g e = if e = d then (p : Int) else g e
          rw [if_neg (by omega)]
    have hD6 : dN M0 ≤ 6 := by
      have := hV.1
      unfold dN
      omega
    refine Im_comp (fun g => ?_) (fun g hg => ?_) (fun g h hg hh => ?_) hI hK
    · constructor
      · rintro ⟨q1, q2⟩
        have q2' : g d < ((p + 1 : Nat) : Int) := q2
        by_cases q3 : g d < (p : Int)
        · exact Or.inl ⟨q1, q3⟩
        · exact Or.inr ⟨q1, by omega⟩
      · rintro (⟨q1, q2⟩ | ⟨q1, q2⟩)
        · exact ⟨q1, by show g d < ((p + 1 : Nat) : Int); omega⟩
        · exact ⟨q1, by show g d < ((p + 1 : Nat) : Int); omega⟩
    · have := sm_nn hV (by omega) hg.1
      show 0 ≤ c + sm _ _ _ _
      omega
    · rw [en]
      exact Or.inl (by have := hg.2; have := hh.2; omega)

theorem sv_fr {M0 M : sx_M0} {k : Nat} (hV : sv M0) (h : gFr M0 M k) : sv M := by
  obtain ⟨f1, f2, -, -, -, f6⟩ := h
  unfold sv at hV ⊢
  rw [f2 0 (by decide), f2 1 (by decide), f2 12 (by decide), f2 13 (by decide), f1 18 (by decide) (by decide) (by decide), f1 27 (by decide) (by decide) (by decide), f1 29 (by decide) (by decide) (by decide)]
  refine ⟨hV.1, hV.2.1, hV.2.2.1, fun d p hd hp => ?_, hV.2.2.2.2.1, hV.2.2.2.2.2.1, hV.2.2.2.2.2.2.1, hV.2.2.2.2.2.2.2.1, f6⟩
  rw [f1 (20 + 1 + d) (by omega) (by omega) (by omega)]
  exact hV.2.2.2.1 d p hd hp
theorem mul_bd {a b : Int} (h1 : 0 ≤ a) (h2 : a ≤ 150) (h3 : 0 ≤ b) (h4 : b ≤ 10000) : 0 ≤ a * b ∧ a * b ≤ 1500000 := by
  refine ⟨Int.mul_nonneg h1 h3, ?_⟩
  have : a * b ≤ 150 * 10000 := Int.mul_le_mul h2 h4 h3 (by omega)
  omega
theorem gvI_take {M0 M : sx_M0} {d s p : Nat} {c : Int} (hI : gvI M0 d s c) (hF : gFr M0 M d) (hd : d < dN M0) (hp : p < 5) (hn : M0 18 d ≠ 0) (hr : M0 (20 + 1 + d) p ≠ -1) (hl : M0 18 d ≤ M0 30 p) : gvI (sx_up (sx_up M 30 p (M 30 p - M 18 d)) 31 d (p : Int)) (d + 1) (s ||| 2 ^ p) (c + M 18 d * M (20 + 1 + d) p) := by
  obtain ⟨hV, hL, h30, h31, hk, hs, hc0, hc1⟩ := hI
  have hVM := sv_fr hV hF
  obtain ⟨f1, f2, f3, f4, f5, f6⟩ := hF
  have e30 : M 30 = M0 30 := f1 30 (by decide) (by decide) (by decide)
  have e18 : M 18 = M0 18 := f1 18 (by decide) (by decide) (by decide)
  have hD6 : dN M0 ≤ 6 := by
    have := hV.1
    unfold dN
    omega
  have eR : M (20 + 1 + d) = M0 (20 + 1 + d) := f1 _ (by omega) (by omega) (by omega)
  generalize hM1 : sx_up (sx_up M 30 p (M 30 p - M 18 d)) 31 d (p : Int) = M1
  have m1 : ∀ a, a ≠ 30 → a ≠ 31 → M1 a = M a := fun a ha hb => by rw [← hM1, sx_up_ne hb, sx_up_ne ha]
  have m30 : ∀ q, M1 30 q = if q = p then M0 30 q - M0 18 d else M0 30 q := fun q => by
    rw [← hM1, sx_up_ne (by decide)]
    by_cases hq : q = p
    · subst hq
      rw [sx_up_at, if_pos rfl, e30, e18]
    · rw [sx_up_slot hq, if_neg hq, e30]
  have m31 : ∀ b, b ≠ d → M1 31 b = M 31 b := fun b hb => by rw [← hM1, sx_up_slot hb, sx_up_ne (by decide)]
  have e17 : ∀ b, b ≠ 11 → M1 17 b = M0 17 b := fun b hb => by rw [m1 17 (by decide) (by decide)]; exact f2 b hb
  have eJ : jS M1 = jS M0 := jS_eq e17 (fun a h1 h2 h3 h4 => (m1 a h2 h3).trans (f1 a h1 h3 h4))
  have eD : dN M1 = dN M0 := dN_eq e17
  refine ⟨?_, ?_, fun q hq => ?_, fun b hb h0 => ?_, by rw [eD]; omega, (or_bit s hs p hp).2, ?_, ?_⟩
  · unfold sv at hVM ⊢
    rw [m1 17 (by decide) (by decide), m1 18 (by decide) (by decide), m1 27 (by decide) (by decide), m1 29 (by decide) (by decide)]
    refine ⟨hVM.1, hVM.2.1, hVM.2.2.1, fun x y hx hy => ?_, hVM.2.2.2.2⟩
    rw [m1 (20 + 1 + x) (by omega) (by omega)]
    exact hVM.2.2.2.1 x y hx hy
  · intro k hk2 s2 rl2 g2 hg2
    rw [eJ, eD] at hg2 ⊢
    rw [eD] at hk2
    rw [m1 29 (by decide) (by decide), f1 29 (by decide) (by decide) (by decide)]
    exact hL k hk2 s2 rl2 g2 hg2
  · have := h30 q hq
    have hn0 := hV.2.2.1 d (by omega)
    rw [m30]
    by_cases hqp : q = p
    · subst hqp
      rw [if_pos rfl]
      omega
    · rw [if_neg hqp]
      exact this
  · rw [m1 18 (by decide) (by decide), e18] at h0
    have hbd : b ≠ d := fun e => hn (by rw [← e]; exact h0)
    rw [m31 b hbd, f4 b h0]
    exact h31 b hb h0
  · have q1 := hV.2.2.1 d (by omega)
    have q2 := hV.2.2.2.1 d p (by omega) hp
    rw [e18, eR]
    have := mul_bd q1.1 q1.2 (show 0 ≤ M0 (20 + 1 + d) p by omega) q2.2
    omega
  · have q1 := hV.2.2.1 d (by omega)
    have q2 := hV.2.2.2.1 d p (by omega) hp
    rw [e18, eR]
    have := mul_bd q1.1 q1.2 (show 0 ≤ M0 (20 + 1 + d) p by omega) q2.2
    show _ ≤ 1500000 * ((d + 1 : Nat) : Int)
    have e : ((d + 1 : Nat) : Int) = (d : Int) + 1 := rfl
    rw [e]
    omega
abbrev rmG (n : Nat) : Room := rmk (4 + 3 * n) (200 + 100 * n)
abbrev rmE (n : Nat) : Room := rmk (5 + 3 * n) (230 + 100 * n)
/-- the contract of give, with n districts left at most -/
def ctG (l : Launch) (D : va_G) (tc : Nat → ClassId) (n : Nat) : Prop := ∀ (M : sx_M0) (k s : Nat) (c : Int), gvI M k s c → dN M - k ≤ n → sx_Met SC l D tc y_Se_give w_Se_give (rmG n) [sx_A 17, sx_I ((k : Nat) : Int), sx_I ((s : Nat) : Int), sx_J c] GL M (fun r G' M' => G' = GL ∧ r = none ∧ gvP M M' k s c)
end
section
set_option maxRecDepth 100000 in
set_option maxHeartbeats 4000000 in
theorem lp_Se_giveEachPlace  {n : Nat} (hg : ∀ l D tc, ctG l D tc n) (M0 : sx_M0) (d s : Nat) (c : Int) (hI : gvI M0 d s c) (hd : d < dN M0) (hd6 : d < 6) (hnd : M0 18 d ≠ 0) (hm : dN M0 - d ≤ n + 1) {E : sx_E} (C : sx_C SC g_tbl "SiteChoice$Search" c_Se_giveEachPlace E) (Rr : sx_Ret SC none (rmE n) (fun r G' M' => G' = GL ∧ r = none ∧ gvP M0 M' d s c) E) (hnL : sx_nL E = 7) : ∀ (nF : Nat) (p : Nat) (M : sx_M0), (M0 17 1).toNat - p < nF → gepI M0 M d s c p → p ≤ (M0 17 1).toNat → sx_X SC E (0, 0) GL M 3 [(5, sx_I (((p : Nat) : Int))), (0, sx_A (17)), (1, sx_I (((d : Nat) : Int))), (2, sx_I (((s : Nat) : Int))), (3, sx_J (c))] [] := by
  intro nF
  induction nF with
  | zero => intro p M h; omega
  | succ nF ih =>
    intro p M hn h1 h2
    have hF := h1.1
    have hVM := sv_fr hI.1 hF
    have eP : M 17 1 = M0 17 1 := hF.2.1 1 (by decide)
    have g1 := hI.1.2.1
    have g0 := hI.1.1
    have e18 : M 18 = M0 18 := hF.1 18 (by decide) (by decide) (by decide)
    have e30 : M 30 = M0 30 := hF.1 30 (by decide) (by decide) (by decide)
    have e27 : M 27 = M0 27 := hF.1 27 (by decide) (by decide) (by decide)
    have eR : M (20 + 1 + d) = M0 (20 + 1 + d) := hF.1 _ (by omega) (by omega) (by omega)
    have eJ : jS M = jS M0 := jS_eq hF.2.1 (fun a h1 _ h3 h4 => hF.1 a h1 h3 h4)
    have hl : ∀ p, p < 5 → -1000 ≤ M 30 p ∧ M 30 p ≤ 1000 := fun p hp => by rw [e30]; have := hI.2.2.1 p hp; omega
    have hD1 : dN (sx_up (sx_up M 30 p (M 30 p - M 18 d)) 31 d (p : Int)) = dN M0 := dN_eq (fun b hb => by rw [sx_up_ne (by decide), sx_up_ne (by decide)]; exact hF.2.1 b hb)
    refine sx_iload C 0 d_Se_giveEachPlace_3 rfl ?_
    refine sx_aload_n C 1 d_Se_giveEachPlace_5 rfl rfl ?_
    refine sx_geti C f_Se_15 (by decide) rfl d_Se_giveEachPlace_6 ?_
    refine sx_icmp_ge C 113 ⟨by omega, by omega⟩ ⟨by omega, by omega⟩ d_Se_giveEachPlace_9 (by decide) (fun c9 => ?_) (fun c9 => ?_)
    · refine sx_return C Rr rfl d_Se_giveEachPlace_113 ?_
      exact ⟨rfl, rfl, gep_end hd hnd (by omega) h1⟩
    · refine sx_iload_n C 3 d_Se_giveEachPlace_12 rfl rfl ?_
      refine sx_iconst C d_Se_giveEachPlace_13 ?_
      refine sx_iload C 0 d_Se_giveEachPlace_14 rfl ?_
      refine sx_ishl C d_Se_giveEachPlace_16 ?_
      refine sx_ior C d_Se_giveEachPlace_17 ?_
      rw [(or_bit s hI.2.2.2.2.2.1 p (by omega)).1]
      have hs2 := (or_bit s hI.2.2.2.2.2.1 p (by omega)).2
      refine sx_istore (lv' := [(6, sx_I (((s ||| 2 ^ p : Nat) : Int))), (5, sx_I (((p : Nat) : Int))), (0, sx_A (17)), (1, sx_I (((d : Nat) : Int))), (2, sx_I (((s : Nat) : Int))), (3, sx_J (c))]) C d_Se_giveEachPlace_18 (by rw [hnL]; decide) rfl ?_
      refine sx_aload_n C 2 d_Se_giveEachPlace_20 rfl rfl ?_
      refine sx_iload C 1 d_Se_giveEachPlace_21 rfl ?_
      refine sx_iload_n C 3 d_Se_giveEachPlace_23 rfl rfl ?_
      refine sx_callV (n := 71) (As := [sx_I (((p : Nat) : Int)), sx_I (((d : Nat) : Int))]) (st := []) C (ct_Se_canTake _ _ _ M hVM hl p d (by omega) hd6) rfl (by decide) rfl (cv_Se_153 E C _ (by rw [Rr.2.2]; exact ⟨by dsimp only; omega, by dsimp only; omega⟩)) (Nat.le_of_ble_eq_true rfl) d_Se_giveEachPlace_24 (by rw [Rr.2.2]; exact ⟨Nat.le_refl _, Nat.le_refl _⟩) (by decide) rfl rfl rfl (fun r24 G24 M24 hpo _ => ?_)
      obtain ⟨e1, e2, b24, rfl, hb24⟩ := hpo
      rw [e1, e2]
      show sx_X SC E (0, 0) GL M 27 [(6, sx_I (((s ||| 2 ^ p : Nat) : Int))), (5, sx_I (((p : Nat) : Int))), (0, sx_A (17)), (1, sx_I (((d : Nat) : Int))), (2, sx_I (((s : Nat) : Int))), (3, sx_J (c))] [sx_I (b24)]
      refine sx_if_eq C 107 ⟨by omega, by omega⟩ d_Se_giveEachPlace_27 (by decide) (fun c27 => ?_) (fun c27 => ?_)
      · refine sx_iinc (lv' := [(5, sx_I (((p + 1 : Nat) : Int))), (6, sx_I (((s ||| 2 ^ p : Nat) : Int))), (0, sx_A (17)), (1, sx_I (((d : Nat) : Int))), (2, sx_I (((s : Nat) : Int))), (3, sx_J (c))]) C 1 d_Se_giveEachPlace_107 rfl (by rw [hnL]; decide) rfl ?_
        refine sx_goto C 3 d_Se_giveEachPlace_110 (by decide) ?_
        refine sx_sub [0, 2, 3, 4, 5] rfl ?_
        refine ih (p + 1) M (by omega) (gep_skip hd hd6 hnd ?_ h1) (by omega)
        rintro ⟨z1, z2, z3, z4⟩
        rcases hb24 with ⟨q1, q2⟩ | ⟨q1, q2⟩
        · rw [← e27] at z4; omega
        · exact q2 ⟨by rw [eJ]; exact z1, by rw [eR]; exact z2, by rw [e18, e30]; exact z3⟩
      · refine sx_aload_n C 2 d_Se_giveEachPlace_30 rfl rfl ?_
        refine sx_getr C f_Se_30 27 (by decide) rfl rfl d_Se_giveEachPlace_31 ?_
        have hmo := hVM.2.2.2.2.1 (s ||| 2 ^ p) hs2
        refine sx_iload C 0 d_Se_giveEachPlace_34 rfl ?_
        refine sx_zaload C (s ||| 2 ^ p) (by decide) rfl rfl rfl (by omega) (by decide) d_Se_giveEachPlace_36 ?_
        refine sx_if_eq C 107 ⟨by omega, by omega⟩ d_Se_giveEachPlace_37 (by decide) (fun c37 => ?_) (fun c37 => ?_)
        · refine sx_iinc (lv' := [(5, sx_I (((p + 1 : Nat) : Int))), (6, sx_I (((s ||| 2 ^ p : Nat) : Int))), (0, sx_A (17)), (1, sx_I (((d : Nat) : Int))), (2, sx_I (((s : Nat) : Int))), (3, sx_J (c))]) C 1 d_Se_giveEachPlace_107 rfl (by rw [hnL]; decide) rfl ?_
          refine sx_goto C 3 d_Se_giveEachPlace_110 (by decide) ?_
          refine sx_sub [0, 2, 3, 4, 5] rfl ?_
          refine ih (p + 1) M (by omega) (gep_skip hd hd6 hnd ?_ h1) (by omega)
          rintro ⟨z1, z2, z3, z4⟩
          rcases hb24 with ⟨q1, q2⟩ | ⟨q1, q2⟩
          · rw [← e27] at z4; omega
          · exact q2 ⟨by rw [eJ]; exact z1, by rw [eR]; exact z2, by rw [e18, e30]; exact z3⟩
        · have hy : (jS M).2.2.2.2.2.testBit p = true ∧ M (20 + 1 + d) p ≠ -1 ∧ M 18 d ≤ M 30 p := by
            rcases hb24 with ⟨q1, q2⟩ | ⟨q1, q2⟩
            · exact q2
            · omega
          refine sx_aload_n C 2 d_Se_giveEachPlace_40 rfl rfl ?_
          refine sx_getr C f_Se_40 30 (by decide) rfl rfl d_Se_giveEachPlace_41 ?_
          refine sx_iload C 1 d_Se_giveEachPlace_44 rfl ?_
          refine sx_dup2_11 C d_Se_giveEachPlace_46 rfl rfl ?_
          refine sx_laload C p (by decide) rfl rfl rfl (by omega) (by decide) d_Se_giveEachPlace_47 ?_
          refine sx_aload_n C 2 d_Se_giveEachPlace_48 rfl rfl ?_
          refine sx_getr C f_Se_18 18 (by decide) rfl rfl d_Se_giveEachPlace_49 ?_
          refine sx_iload_n C 3 d_Se_giveEachPlace_52 rfl rfl ?_
          refine sx_laload C d (by decide) rfl rfl rfl (by omega) (by decide) d_Se_giveEachPlace_53 ?_
          refine sx_lsub C d_Se_giveEachPlace_54 ?_
          refine sx_lastore C p (by decide) rfl rfl rfl (by omega) (by decide) d_Se_giveEachPlace_55 ?_
          refine sx_aload_n C 2 d_Se_giveEachPlace_56 rfl rfl ?_
          refine sx_getr C f_Se_43 31 (by decide) rfl rfl d_Se_giveEachPlace_57 ?_
          refine sx_iload_n C 3 d_Se_giveEachPlace_60 rfl rfl ?_
          refine sx_iload C 1 d_Se_giveEachPlace_61 rfl ?_
          refine sx_iastore C d (by decide) rfl rfl rfl (by omega) (by decide) d_Se_giveEachPlace_63 ?_
          refine sx_aload_n C 2 d_Se_giveEachPlace_64 rfl rfl ?_
          refine sx_iload_n C 3 d_Se_giveEachPlace_65 rfl rfl ?_
          refine sx_iconst C d_Se_giveEachPlace_66 ?_
          refine sx_iadd C d_Se_giveEachPlace_67 ?_
          refine sx_iload C 0 d_Se_giveEachPlace_68 rfl ?_
          refine sx_lload_n C 5 d_Se_giveEachPlace_70 rfl rfl ?_
          refine sx_aload_n C 2 d_Se_giveEachPlace_71 rfl rfl ?_
          refine sx_getr C f_Se_18 18 (by decide) rfl rfl d_Se_giveEachPlace_72 ?_
          refine sx_iload_n C 3 d_Se_giveEachPlace_75 rfl rfl ?_
          refine sx_laload C d (by decide) rfl rfl rfl (by omega) (by decide) d_Se_giveEachPlace_76 ?_
          rw [sx_up_ne (by decide), sx_up_ne (by decide)]
          refine sx_aload_n C 2 d_Se_giveEachPlace_77 rfl rfl ?_
          refine sx_getr C f_Se_27 20 (by decide) rfl rfl d_Se_giveEachPlace_78 ?_
          refine sx_iload_n C 3 d_Se_giveEachPlace_81 rfl rfl ?_
          refine sx_aaload C d (20 + 1 + d) (by decide) rfl rfl rfl (by omega) (by decide) (if_pos (by omega)) d_Se_giveEachPlace_82 ?_
          refine sx_iload C 1 d_Se_giveEachPlace_83 rfl ?_
          refine sx_laload C p (by show (20 + 1 + d) < 71; omega) (gl_20 _ (by omega)) rfl rfl (by omega) (by decide) d_Se_giveEachPlace_85 ?_
          rw [sx_up_ne (by omega), sx_up_ne (by omega)]
          refine sx_lmul C d_Se_giveEachPlace_86 ?_
          refine sx_ladd C d_Se_giveEachPlace_87 ?_
          refine sx_callV (n := 71) (As := [sx_I (((d : Nat) : Int) + 1), sx_I (((s ||| 2 ^ p : Nat) : Int)), sx_J (c + (M 18 d) * (M (20 + 1 + d) p))]) (st := []) C (hg _ _ _ _ (d + 1) (s ||| 2 ^ p) _ (gvI_take hI hF hd (by omega) hnd (by rw [← eR]; exact hy.2.1) (by rw [← e18, ← e30]; exact hy.2.2)) (by rw [hD1]; omega)) rfl (by decide) rfl (cv_Se_123 E C _ (by rw [Rr.2.2]; exact ⟨by dsimp only; omega, by dsimp only; omega⟩)) (Nat.le_of_ble_eq_true rfl) d_Se_giveEachPlace_88 (by rw [Rr.2.2]; exact ⟨Nat.le_refl _, Nat.le_refl _⟩) (by decide) rfl rfl rfl (fun r88 G88 M88 hpo _ => ?_)
          obtain ⟨e1, rfl, h88⟩ := hpo
          rw [e1]
          show sx_X SC E (0, 0) GL M88 91 [(6, sx_I (((s ||| 2 ^ p : Nat) : Int))), (5, sx_I (((p : Nat) : Int))), (0, sx_A (17)), (1, sx_I (((d : Nat) : Int))), (2, sx_I (((s : Nat) : Int))), (3, sx_J (c))] []
          refine sx_aload_n C 2 d_Se_giveEachPlace_91 rfl rfl ?_
          refine sx_getr C f_Se_40 30 (by decide) rfl rfl d_Se_giveEachPlace_92 ?_
          refine sx_iload C 1 d_Se_giveEachPlace_95 rfl ?_
          refine sx_dup2_11 C d_Se_giveEachPlace_97 rfl rfl ?_
          refine sx_laload C p (by decide) rfl rfl rfl (by omega) (by decide) d_Se_giveEachPlace_98 ?_
          refine sx_aload_n C 2 d_Se_giveEachPlace_99 rfl rfl ?_
          refine sx_getr C f_Se_18 18 (by decide) rfl rfl d_Se_giveEachPlace_100 ?_
          refine sx_iload_n C 3 d_Se_giveEachPlace_103 rfl rfl ?_
          refine sx_laload C d (by decide) rfl rfl rfl (by omega) (by decide) d_Se_giveEachPlace_104 ?_
          refine sx_ladd C d_Se_giveEachPlace_105 ?_
          refine sx_lastore C p (by decide) rfl rfl rfl (by omega) (by decide) d_Se_giveEachPlace_106 ?_
          refine sx_iinc (lv' := [(5, sx_I (((p + 1 : Nat) : Int))), (6, sx_I (((s ||| 2 ^ p : Nat) : Int))), (0, sx_A (17)), (1, sx_I (((d : Nat) : Int))), (2, sx_I (((s : Nat) : Int))), (3, sx_J (c))]) C 1 d_Se_giveEachPlace_107 rfl (by rw [hnL]; decide) rfl ?_
          refine sx_goto C 3 d_Se_giveEachPlace_110 (by decide) ?_
          refine sx_sub [0, 2, 3, 4, 5] rfl ?_
          exact ih (p + 1) _ (by omega) (gep_take hI.1 hd hd6 (by omega) hnd ⟨by rw [← eJ]; exact hy.1, by rw [← eR]; exact hy.2.1, by rw [← e18, ← e30]; exact hy.2.2, by rw [← e27]; omega⟩ hI.2.2.2.2.2.2.1 h1 h88) (by omega)
set_option maxRecDepth 100000 in
set_option maxHeartbeats 4000000 in
theorem ct_Se_giveEachPlace (l : Launch) (D : va_G) (tc : Nat → ClassId) {n : Nat} (hg : ∀ l D tc, ctG l D tc n) (M : sx_M0) (d s : Nat) (c : Int) (hI : gvI M d s c) (hd : d < dN M) (hd6 : d < 6) (hnd : M 18 d ≠ 0) (hm : dN M - d ≤ n + 1) : sx_Met SC l D tc y_Se_giveEachPlace w_Se_giveEachPlace (rmE n) [sx_A (17), sx_I (((d : Nat) : Int)), sx_I (((s : Nat) : Int)), sx_J (c)] GL M (fun r G' M' => G' = GL ∧ r = none ∧ gvP M M' d s c) := by
  refine sx_enter (by decide) rfl (Nat.le_of_ble_eq_true rfl) (Ts := g_tbl) (fun _ h => List.mem_cons_of_mem _ h) (fun E C Rr hnm hnL => ?_)
  refine sx_iconst C d_Se_giveEachPlace_0 ?_
  refine sx_istore (lv' := [(5, sx_I (0)), (0, sx_A (17)), (1, sx_I (((d : Nat) : Int))), (2, sx_I (((s : Nat) : Int))), (3, sx_J (c))]) C d_Se_giveEachPlace_1 (by rw [hnL]; decide) rfl ?_
  refine sx_sub [0, 1, 2, 3, 4] rfl ?_
  exact lp_Se_giveEachPlace hg M d s c hI hd hd6 hnd hm C Rr hnL _ 0 M (Nat.lt_succ_self _) (gep_0 hI.1 hd hnd) (Nat.zero_le _)
set_option maxRecDepth 100000 in
set_option maxHeartbeats 4000000 in
theorem ct_Se_give : ∀ (n : Nat) (l : Launch) (D : va_G) (tc : Nat → ClassId), ctG l D tc n := by
  intro n
  induction n with
  | zero =>
    intro l D tc M k s c hI hm
    refine sx_enter (by decide) rfl (Nat.le_of_ble_eq_true rfl) (Ts := g_tbl) (fun _ h => List.mem_cons_of_mem _ h) (fun E C Rr hnm hnL => ?_)
    have hV := hI.1
    have g0 := hV.1
    have hb := nwS_bd M (dN M - k) k
    have hkD := hI.2.2.2.2.1
    have hD6 : dN M ≤ 6 := by unfold dN; omega
    have hDe : ((dN M : Nat) : Int) = M 17 0 := by unfold dN; omega
    have hc0 := hI.2.2.2.2.2.2.1
    have hc1 := hI.2.2.2.2.2.2.2
    refine sx_aload_n C 0 d_Se_give_0 rfl rfl ?_
    refine sx_iload_n C 1 d_Se_give_1 rfl rfl ?_
    refine sx_callV (n := 71) (As := [sx_I (((k : Nat) : Int))]) (st := []) C (ct_Se_nextWithNeed _ _ _ M hV k hkD) rfl (by decide) rfl (cv_Se_138 E C _ (by rw [Rr.2.2]; exact ⟨by dsimp only; omega, by dsimp only; omega⟩)) (Nat.le_of_ble_eq_true rfl) d_Se_give_2 (by rw [Rr.2.2]; exact ⟨Nat.le_refl _, Nat.le_refl _⟩) (by decide) rfl rfl rfl (fun r2 G2 M2 hpo _ => ?_)
    obtain ⟨e1, e2, rfl⟩ := hpo
    rw [e1, e2]
    clear e1 e2
    show sx_X SC E (0, 0) GL M 5 [(0, sx_A (17)), (1, sx_I (((k : Nat) : Int))), (2, sx_I (((s : Nat) : Int))), (3, sx_J (c))] [sx_I (((nwS M (dN M - k) k : Nat) : Int))]
    refine sx_istore (lv' := [(5, sx_I (((nwS M (dN M - k) k : Nat) : Int))), (0, sx_A (17)), (1, sx_I (((k : Nat) : Int))), (2, sx_I (((s : Nat) : Int))), (3, sx_J (c))]) C d_Se_give_5 (by rw [hnL]; decide) rfl ?_
    refine sx_iload C 0 d_Se_give_7 rfl ?_
    refine sx_aload_n C 1 d_Se_give_9 rfl rfl ?_
    refine sx_geti C f_Se_9 (by decide) rfl d_Se_give_10 ?_
    refine sx_icmp_lt C 24 ⟨by omega, by omega⟩ ⟨by omega, by omega⟩ d_Se_give_13 (by decide) (fun c13 => ?_) (fun c13 => ?_)
    · exfalso; omega
    · refine sx_aload_n C 1 d_Se_give_16 rfl rfl ?_
      refine sx_lload_n C 4 d_Se_give_17 rfl rfl ?_
      refine sx_callV (n := 71) (As := [sx_J (c)]) (st := []) C (ct_Se_keepIfBetter _ _ _ M hV c (by constructor <;> omega)) rfl (by decide) rfl (cv_Se_142 E C _ (by rw [Rr.2.2]; exact ⟨by dsimp only; omega, by dsimp only; omega⟩)) (Nat.le_of_ble_eq_true rfl) d_Se_give_18 (by rw [Rr.2.2]; exact ⟨Nat.le_refl _, Nat.le_refl _⟩) (by decide) rfl rfl rfl (fun r18 G18 M18 hpo _ => ?_)
      obtain ⟨e1, e2, rfl⟩ := hpo
      rw [e1]
      show sx_X SC E (0, 0) GL M18 21 [(5, sx_I (((nwS M (dN M - k) k : Nat) : Int))), (0, sx_A (17)), (1, sx_I (((k : Nat) : Int))), (2, sx_I (((s : Nat) : Int))), (3, sx_J (c))] []
      refine sx_goto C 48 d_Se_give_21 (by decide) ?_
      refine sx_return C Rr rfl d_Se_give_48 ?_
      exact ⟨rfl, rfl, gvP_nw hI.2.2.2.1 hD6 (dN M - k) k (by omega) (by rw [e2, show nwS M (dN M - k) k = dN M by omega]; exact gvP_end hV hI.2.2.2.2.2.2.1 (by omega) hI.2.2.2.2.2.1)⟩
  | succ n hg =>
    intro l D tc M k s c hI hm
    refine sx_enter (by decide) rfl (Nat.le_of_ble_eq_true rfl) (Ts := g_tbl) (fun _ h => List.mem_cons_of_mem _ h) (fun E C Rr hnm hnL => ?_)
    have hV := hI.1
    have g0 := hV.1
    have hb := nwS_bd M (dN M - k) k
    have hkD := hI.2.2.2.2.1
    have hD6 : dN M ≤ 6 := by unfold dN; omega
    have hDe : ((dN M : Nat) : Int) = M 17 0 := by unfold dN; omega
    have hc0 := hI.2.2.2.2.2.2.1
    have hc1 := hI.2.2.2.2.2.2.2
    refine sx_aload_n C 0 d_Se_give_0 rfl rfl ?_
    refine sx_iload_n C 1 d_Se_give_1 rfl rfl ?_
    refine sx_callV (n := 71) (As := [sx_I (((k : Nat) : Int))]) (st := []) C (ct_Se_nextWithNeed _ _ _ M hV k hkD) rfl (by decide) rfl (cv_Se_138 E C _ (by rw [Rr.2.2]; exact ⟨by dsimp only; omega, by dsimp only; omega⟩)) (Nat.le_of_ble_eq_true rfl) d_Se_give_2 (by rw [Rr.2.2]; exact ⟨Nat.le_refl _, Nat.le_refl _⟩) (by decide) rfl rfl rfl (fun r2 G2 M2 hpo _ => ?_)
    obtain ⟨e1, e2, rfl⟩ := hpo
    rw [e1, e2]
    clear e1 e2
    show sx_X SC E (0, 0) GL M 5 [(0, sx_A (17)), (1, sx_I (((k : Nat) : Int))), (2, sx_I (((s : Nat) : Int))), (3, sx_J (c))] [sx_I (((nwS M (dN M - k) k : Nat) : Int))]
    refine sx_istore (lv' := [(5, sx_I (((nwS M (dN M - k) k : Nat) : Int))), (0, sx_A (17)), (1, sx_I (((k : Nat) : Int))), (2, sx_I (((s : Nat) : Int))), (3, sx_J (c))]) C d_Se_give_5 (by rw [hnL]; decide) rfl ?_
    refine sx_iload C 0 d_Se_give_7 rfl ?_
    refine sx_aload_n C 1 d_Se_give_9 rfl rfl ?_
    refine sx_geti C f_Se_9 (by decide) rfl d_Se_give_10 ?_
    refine sx_icmp_lt C 24 ⟨by omega, by omega⟩ ⟨by omega, by omega⟩ d_Se_give_13 (by decide) (fun c13 => ?_) (fun c13 => ?_)
    · have hlr := hV.2.2.2.2.2.2.2.1 (nwS M (dN M - k) k) (by omega)
      refine sx_aload_n C 1 d_Se_give_24 rfl rfl ?_
      refine sx_lload_n C 4 d_Se_give_25 rfl rfl ?_
      refine sx_aload_n C 1 d_Se_give_26 rfl rfl ?_
      refine sx_getr C f_Se_37 29 (by decide) rfl rfl d_Se_give_27 ?_
      refine sx_iload C 0 d_Se_give_30 rfl ?_
      refine sx_laload C (nwS M (dN M - k) k) (by decide) rfl rfl rfl (by omega) (by decide) d_Se_give_32 ?_
      refine sx_ladd C d_Se_give_33 ?_
      refine sx_callV (n := 71) (As := [sx_J (c + (M 29 (nwS M (dN M - k) k)))]) (st := []) C (ct_Se_isHopeless _ _ _ M hV _ (by constructor <;> omega)) rfl (by decide) rfl (cv_Se_146 E C _ (by rw [Rr.2.2]; exact ⟨by dsimp only; omega, by dsimp only; omega⟩)) (Nat.le_of_ble_eq_true rfl) d_Se_give_34 (by rw [Rr.2.2]; exact ⟨Nat.le_refl _, Nat.le_refl _⟩) (by decide) rfl rfl rfl (fun r34 G34 M34 hpo _ => ?_)
      obtain ⟨e1, e2, b34, rfl, hb34⟩ := hpo
      rw [e1, e2]
      show sx_X SC E (0, 0) GL M 37 [(5, sx_I (((nwS M (dN M - k) k : Nat) : Int))), (0, sx_A (17)), (1, sx_I (((k : Nat) : Int))), (2, sx_I (((s : Nat) : Int))), (3, sx_J (c))] [sx_I (b34)]
      refine sx_if_ne C 48 ⟨by omega, by omega⟩ d_Se_give_37 (by decide) (fun c37 => ?_) (fun c37 => ?_)
      · refine sx_return C Rr rfl d_Se_give_48 ?_
        exact ⟨rfl, rfl, gvP_nw hI.2.2.2.1 hD6 (dN M - k) k (by omega) (gvP_hope hV hI.2.1 (by omega) (by rcases hb34 with ⟨q1, q2⟩ | ⟨q1, q2⟩; exact q2; omega))⟩
      · have hz := nwS_at M (dN M - k) k (by omega)
        have hI2 : gvI M (nwS M (dN M - k) k) s c := ⟨hV, hI.2.1, hI.2.2.1, hI.2.2.2.1, by omega, hI.2.2.2.2.2.1, hc0, by omega⟩
        refine sx_aload_n C 1 d_Se_give_40 rfl rfl ?_
        refine sx_iload C 0 d_Se_give_41 rfl ?_
        refine sx_iload_n C 3 d_Se_give_43 rfl rfl ?_
        refine sx_lload_n C 4 d_Se_give_44 rfl rfl ?_
        refine sx_callV (n := 71) (As := [sx_I (((nwS M (dN M - k) k : Nat) : Int)), sx_I (((s : Nat) : Int)), sx_J (c)]) (st := []) C (ct_Se_giveEachPlace _ _ _ hg M _ s c hI2 (by omega) (by omega) hz (by omega)) rfl (by decide) rfl (cv_Se_150 E C _ (by rw [Rr.2.2]; exact ⟨by dsimp only; omega, by dsimp only; omega⟩)) (Nat.le_of_ble_eq_true rfl) d_Se_give_45 (by rw [Rr.2.2]; exact ⟨Nat.le_refl _, Nat.le_refl _⟩) (by decide) rfl rfl rfl (fun r45 G45 M45 hpo _ => ?_)
        obtain ⟨e1, rfl, h45⟩ := hpo
        rw [e1]
        show sx_X SC E (0, 0) GL M45 48 [(5, sx_I (((nwS M (dN M - k) k : Nat) : Int))), (0, sx_A (17)), (1, sx_I (((k : Nat) : Int))), (2, sx_I (((s : Nat) : Int))), (3, sx_J (c))] []
        refine sx_return C Rr rfl d_Se_give_48 ?_
        exact ⟨rfl, rfl, gvP_nw hI.2.2.2.1 hD6 (dN M - k) k (by omega) h45⟩
    · refine sx_aload_n C 1 d_Se_give_16 rfl rfl ?_
      refine sx_lload_n C 4 d_Se_give_17 rfl rfl ?_
      refine sx_callV (n := 71) (As := [sx_J (c)]) (st := []) C (ct_Se_keepIfBetter _ _ _ M hV c (by constructor <;> omega)) rfl (by decide) rfl (cv_Se_142 E C _ (by rw [Rr.2.2]; exact ⟨by dsimp only; omega, by dsimp only; omega⟩)) (Nat.le_of_ble_eq_true rfl) d_Se_give_18 (by rw [Rr.2.2]; exact ⟨Nat.le_refl _, Nat.le_refl _⟩) (by decide) rfl rfl rfl (fun r18 G18 M18 hpo _ => ?_)
      obtain ⟨e1, e2, rfl⟩ := hpo
      rw [e1]
      show sx_X SC E (0, 0) GL M18 21 [(5, sx_I (((nwS M (dN M - k) k : Nat) : Int))), (0, sx_A (17)), (1, sx_I (((k : Nat) : Int))), (2, sx_I (((s : Nat) : Int))), (3, sx_J (c))] []
      refine sx_goto C 48 d_Se_give_21 (by decide) ?_
      refine sx_return C Rr rfl d_Se_give_48 ?_
      exact ⟨rfl, rfl, gvP_nw hI.2.2.2.1 hD6 (dN M - k) k (by omega) (by rw [e2, show nwS M (dN M - k) k = dN M by omega]; exact gvP_end hV hI.2.2.2.2.2.2.1 (by omega) hI.2.2.2.2.2.1)⟩
end
section
/-- the nearest of the first n usable places, or -1 -/
def nuS (M : sx_M0) (d : Nat) : Nat → Int
  | 0 => -1
  | p + 1 => if (M 17 12).toNat.testBit p = true ∧ M (20 + 1 + d) p ≠ -1 ∧ (nuS M d p = -1 ∨ M (20 + 1 + d) p < nuS M d p) then M (20 + 1 + d) p else nuS M d p
theorem nuS_bd {M : sx_M0} (hV : sv M) {d : Nat} (hd : d < 6) : ∀ n, n ≤ 5 → -1 ≤ nuS M d n ∧ nuS M d n ≤ 10000
  | 0, _ => by simp [nuS]
  | n + 1, h => by
    have h1 := nuS_bd hV hd n (by omega)
    have h2 := hV.2.2.2.1 d n hd (by omega)
    unfold nuS
    split <;> omega
theorem nuS_le {M : sx_M0} {d : Nat} : ∀ n p, p < n → (M 17 12).toNat.testBit p = true → M (20 + 1 + d) p ≠ -1 → nuS M d n ≠ -1 ∧ nuS M d n ≤ M (20 + 1 + d) p
  | 0, p, h, _, _ => by omega
  | n + 1, p, h, h1, h2 => by
    unfold nuS
    by_cases e : p = n
    · subst e
      by_cases c : nuS M d p = -1 ∨ M (20 + 1 + d) p < nuS M d p
      · rw [if_pos ⟨h1, h2, c⟩]
        exact ⟨h2, Int.le_refl _⟩
      · rw [if_neg (fun q => c q.2.2)]
        exact ⟨fun q => c (Or.inl q), by omega⟩
    · have ih := nuS_le n p (by omega) h1 h2
      split
      next q => exact ⟨q.2.1, by rcases q.2.2 with z | z; exact absurd z ih.1; omega⟩
      next q => exact ih
theorem nuS_none {M : sx_M0} {d n : Nat} (h : nuS M d n = -1) : ∀ p, p < n → (M 17 12).toNat.testBit p = true → M (20 + 1 + d) p = -1 := fun p hp h1 => by
  by_cases h2 : M (20 + 1 + d) p = -1
  · exact h2
  · exact absurd h (nuS_le n p hp h1 h2).1
set_option maxRecDepth 100000 in
set_option maxHeartbeats 4000000 in
theorem lp_Se_nearestUsable  (M : sx_M0) (hV : sv M) (d : Nat) (hd : d < 6) {E : sx_E} (C : sx_C SC g_tbl "SiteChoice$Search" c_Se_nearestUsable E) (Rr : sx_Ret SC (some .long) (rmk 1 40) (fun r G' M' => G' = GL ∧ M' = M ∧ r = some (sx_J (nuS M d (M 17 1).toNat))) E) (hnL : sx_nL E = 7) : ∀ (nF : Nat) (p : Nat) (a : Int), (M 17 1).toNat - p < nF → a = nuS M d p → p ≤ (M 17 1).toNat → sx_X SC E (0, 0) GL M 7 [(4, sx_I (((p : Nat) : Int))), (2, sx_J (a)), (0, sx_A (17)), (1, sx_I (((d : Nat) : Int)))] [] := by
  intro nF
  induction nF with
  | zero => intro p a h; omega
  | succ nF ih =>
    intro p a hn h1 h2
    have g1 := hV.2.1
    have hb := nuS_bd hV hd p (by omega)
    refine sx_iload C 0 d_Se_nearestUsable_7 rfl ?_
    refine sx_aload_n C 2 d_Se_nearestUsable_9 rfl rfl ?_
    refine sx_geti C f_Se_15 (by decide) rfl d_Se_nearestUsable_10 ?_
    refine sx_icmp_ge C 75 ⟨by omega, by omega⟩ ⟨by omega, by omega⟩ d_Se_nearestUsable_13 (by decide) (fun c13 => ?_) (fun c13 => ?_)
    · refine sx_lload_n C 1 d_Se_nearestUsable_75 rfl rfl ?_
      refine sx_lreturn C Rr rfl d_Se_nearestUsable_76 ?_
      exact ⟨rfl, rfl, by rw [h1, show p = (M 17 1).toNat by omega]⟩
    · have hR := hV.2.2.2.1 d p hd (by omega)
      refine sx_aload_n C 2 d_Se_nearestUsable_16 rfl rfl ?_
      refine sx_iload C 0 d_Se_nearestUsable_17 rfl ?_
      refine sx_callV (n := 71) (As := [sx_I (((p : Nat) : Int))]) (st := []) C (ct_Se_isUsable _ _ _ M hV p (by omega)) rfl (by decide) rfl (cv_Se_134 E C _ (by rw [Rr.2.2]; decide)) (Nat.le_of_ble_eq_true rfl) d_Se_nearestUsable_19 (by rw [Rr.2.2]; decide) (by decide) rfl rfl rfl (fun r19 G19 M19 hpo _ => ?_)
      obtain ⟨e1, e2, b19, rfl, hb19⟩ := hpo
      rw [e1, e2]
      show sx_X SC E (0, 0) GL M 22 [(4, sx_I (((p : Nat) : Int))), (2, sx_J (a)), (0, sx_A (17)), (1, sx_I (((d : Nat) : Int)))] [sx_I (b19)]
      refine sx_if_eq C 37 ⟨by omega, by omega⟩ d_Se_nearestUsable_22 (by decide) (fun c22 => ?_) (fun c22 => ?_)
      · refine sx_ldc2 (v := (-1)) C (-1) (tb_ 95 (by decide +kernel) rfl) (by decide) d_Se_nearestUsable_37 ?_
        refine sx_lstore (lv' := [(5, sx_J ((-1))), (4, sx_I (((p : Nat) : Int))), (2, sx_J (a)), (0, sx_A (17)), (1, sx_I (((d : Nat) : Int)))]) C d_Se_nearestUsable_40 (by rw [hnL]; decide) rfl ?_
        refine sx_lload C 0 d_Se_nearestUsable_42 rfl ?_
        refine sx_ldc2 (v := (-1)) C (-1) (tb_ 95 (by decide +kernel) rfl) (by decide) d_Se_nearestUsable_44 ?_
        refine sx_lcmp_eq C 69 ⟨by omega, by omega⟩ ⟨by omega, by omega⟩ d_Se_nearestUsable_47 d_Se_nearestUsable_48 (by decide) (fun c48 => ?_) (fun c48 => ?_)
        · refine sx_iinc (lv' := [(4, sx_I (((p + 1 : Nat) : Int))), (5, sx_J ((-1))), (2, sx_J (a)), (0, sx_A (17)), (1, sx_I (((d : Nat) : Int)))]) C 1 d_Se_nearestUsable_69 rfl (by rw [hnL]; decide) rfl ?_
          refine sx_goto C 7 d_Se_nearestUsable_72 (by decide) ?_
          refine sx_sub [0, 2, 3, 4] rfl ?_
          exact ih (p + 1) _ (by omega) (by rw [h1, nuS, if_neg]; rintro ⟨z1, z2, z3⟩; first | omega | (rcases hb19 with ⟨q1, q2⟩ | ⟨q1, q2⟩ <;> first | omega | exact q2 z1)) (by omega)
        · refine sx_lload_n C 2 d_Se_nearestUsable_51 rfl rfl ?_
          refine sx_ldc2 (v := (-1)) C (-1) (tb_ 95 (by decide +kernel) rfl) (by decide) d_Se_nearestUsable_52 ?_
          refine sx_lcmp_eq C 66 ⟨by omega, by omega⟩ ⟨by omega, by omega⟩ d_Se_nearestUsable_55 d_Se_nearestUsable_56 (by decide) (fun c56 => ?_) (fun c56 => ?_)
          · refine sx_lload C 0 d_Se_nearestUsable_66 rfl ?_
            refine sx_lstore_n (lv' := [(2, sx_J ((-1))), (5, sx_J ((-1))), (4, sx_I (((p : Nat) : Int))), (0, sx_A (17)), (1, sx_I (((d : Nat) : Int)))]) C d_Se_nearestUsable_68 rfl (by rw [hnL]; decide) rfl ?_
            refine sx_iinc (lv' := [(4, sx_I (((p + 1 : Nat) : Int))), (2, sx_J ((-1))), (5, sx_J ((-1))), (0, sx_A (17)), (1, sx_I (((d : Nat) : Int)))]) C 2 d_Se_nearestUsable_69 rfl (by rw [hnL]; decide) rfl ?_
            refine sx_goto C 7 d_Se_nearestUsable_72 (by decide) ?_
            exact absurd rfl c48
          · refine sx_lload C 0 d_Se_nearestUsable_59 rfl ?_
            refine sx_lload_n C 2 d_Se_nearestUsable_61 rfl rfl ?_
            refine sx_lcmp_ge C 69 ⟨by omega, by omega⟩ ⟨by omega, by omega⟩ d_Se_nearestUsable_62 d_Se_nearestUsable_63 (by decide) (fun c63 => ?_) (fun c63 => ?_)
            · refine sx_iinc (lv' := [(4, sx_I (((p + 1 : Nat) : Int))), (5, sx_J ((-1))), (2, sx_J (a)), (0, sx_A (17)), (1, sx_I (((d : Nat) : Int)))]) C 1 d_Se_nearestUsable_69 rfl (by rw [hnL]; decide) rfl ?_
              refine sx_goto C 7 d_Se_nearestUsable_72 (by decide) ?_
              refine sx_sub [0, 2, 3, 4] rfl ?_
              exact ih (p + 1) _ (by omega) (by rw [h1, nuS, if_neg]; rintro ⟨z1, z2, z3⟩; first | omega | (rcases hb19 with ⟨q1, q2⟩ | ⟨q1, q2⟩ <;> first | omega | exact q2 z1)) (by omega)
            · refine sx_lload C 0 d_Se_nearestUsable_66 rfl ?_
              refine sx_lstore_n (lv' := [(2, sx_J ((-1))), (5, sx_J ((-1))), (4, sx_I (((p : Nat) : Int))), (0, sx_A (17)), (1, sx_I (((d : Nat) : Int)))]) C d_Se_nearestUsable_68 rfl (by rw [hnL]; decide) rfl ?_
              refine sx_iinc (lv' := [(4, sx_I (((p + 1 : Nat) : Int))), (2, sx_J ((-1))), (5, sx_J ((-1))), (0, sx_A (17)), (1, sx_I (((d : Nat) : Int)))]) C 2 d_Se_nearestUsable_69 rfl (by rw [hnL]; decide) rfl ?_
              refine sx_goto C 7 d_Se_nearestUsable_72 (by decide) ?_
              exact absurd rfl c48
      · refine sx_aload_n C 2 d_Se_nearestUsable_25 rfl rfl ?_
        refine sx_getr C f_Se_27 20 (by decide) rfl rfl d_Se_nearestUsable_26 ?_
        refine sx_iload_n C 3 d_Se_nearestUsable_29 rfl rfl ?_
        refine sx_aaload C d (20 + 1 + d) (by decide) rfl rfl rfl (by omega) (by decide) (if_pos (by omega)) d_Se_nearestUsable_30 ?_
        refine sx_iload C 0 d_Se_nearestUsable_31 rfl ?_
        refine sx_laload C p (by show (20 + 1 + d) < 71; omega) (gl_20 _ (by omega)) rfl rfl (by omega) (by decide) d_Se_nearestUsable_33 ?_
        refine sx_goto C 40 d_Se_nearestUsable_34 (by decide) ?_
        refine sx_lstore (lv' := [(5, sx_J (M (20 + 1 + d) p)), (4, sx_I (((p : Nat) : Int))), (2, sx_J (a)), (0, sx_A (17)), (1, sx_I (((d : Nat) : Int)))]) C d_Se_nearestUsable_40 (by rw [hnL]; decide) rfl ?_
        refine sx_lload C 0 d_Se_nearestUsable_42 rfl ?_
        refine sx_ldc2 (v := (-1)) C (-1) (tb_ 95 (by decide +kernel) rfl) (by decide) d_Se_nearestUsable_44 ?_
        refine sx_lcmp_eq C 69 ⟨by omega, by omega⟩ ⟨by omega, by omega⟩ d_Se_nearestUsable_47 d_Se_nearestUsable_48 (by decide) (fun c48 => ?_) (fun c48 => ?_)
        · refine sx_iinc (lv' := [(4, sx_I (((p + 1 : Nat) : Int))), (5, sx_J (M (20 + 1 + d) p)), (2, sx_J (a)), (0, sx_A (17)), (1, sx_I (((d : Nat) : Int)))]) C 1 d_Se_nearestUsable_69 rfl (by rw [hnL]; decide) rfl ?_
          refine sx_goto C 7 d_Se_nearestUsable_72 (by decide) ?_
          refine sx_sub [0, 2, 3, 4] rfl ?_
          exact ih (p + 1) _ (by omega) (by rw [h1, nuS, if_neg]; rintro ⟨z1, z2, z3⟩; first | omega | (rcases hb19 with ⟨q1, q2⟩ | ⟨q1, q2⟩ <;> first | omega | exact q2 z1)) (by omega)
        · refine sx_lload_n C 2 d_Se_nearestUsable_51 rfl rfl ?_
          refine sx_ldc2 (v := (-1)) C (-1) (tb_ 95 (by decide +kernel) rfl) (by decide) d_Se_nearestUsable_52 ?_
          refine sx_lcmp_eq C 66 ⟨by omega, by omega⟩ ⟨by omega, by omega⟩ d_Se_nearestUsable_55 d_Se_nearestUsable_56 (by decide) (fun c56 => ?_) (fun c56 => ?_)
          · refine sx_lload C 0 d_Se_nearestUsable_66 rfl ?_
            refine sx_lstore_n (lv' := [(2, sx_J (M (20 + 1 + d) p)), (5, sx_J (M (20 + 1 + d) p)), (4, sx_I (((p : Nat) : Int))), (0, sx_A (17)), (1, sx_I (((d : Nat) : Int)))]) C d_Se_nearestUsable_68 rfl (by rw [hnL]; decide) rfl ?_
            refine sx_iinc (lv' := [(4, sx_I (((p + 1 : Nat) : Int))), (2, sx_J (M (20 + 1 + d) p)), (5, sx_J (M (20 + 1 + d) p)), (0, sx_A (17)), (1, sx_I (((d : Nat) : Int)))]) C 2 d_Se_nearestUsable_69 rfl (by rw [hnL]; decide) rfl ?_
            refine sx_goto C 7 d_Se_nearestUsable_72 (by decide) ?_
            refine sx_sub [0, 1, 3, 4] rfl ?_
            exact ih (p + 1) _ (by omega) (by rw [nuS, if_pos]; exact ⟨by rcases hb19 with ⟨q1, q2⟩ | ⟨q1, q2⟩; exact q2; omega, by omega, by omega⟩) (by omega)
          · refine sx_lload C 0 d_Se_nearestUsable_59 rfl ?_
            refine sx_lload_n C 2 d_Se_nearestUsable_61 rfl rfl ?_
            refine sx_lcmp_ge C 69 ⟨by omega, by omega⟩ ⟨by omega, by omega⟩ d_Se_nearestUsable_62 d_Se_nearestUsable_63 (by decide) (fun c63 => ?_) (fun c63 => ?_)
            · refine sx_iinc (lv' := [(4, sx_I (((p + 1 : Nat) : Int))), (5, sx_J (M (20 + 1 + d) p)), (2, sx_J (a)), (0, sx_A (17)), (1, sx_I (((d : Nat) : Int)))]) C 1 d_Se_nearestUsable_69 rfl (by rw [hnL]; decide) rfl ?_
              refine sx_goto C 7 d_Se_nearestUsable_72 (by decide) ?_
              refine sx_sub [0, 2, 3, 4] rfl ?_
              exact ih (p + 1) _ (by omega) (by rw [h1, nuS, if_neg]; rintro ⟨z1, z2, z3⟩; first | omega | (rcases hb19 with ⟨q1, q2⟩ | ⟨q1, q2⟩ <;> first | omega | exact q2 z1)) (by omega)
            · refine sx_lload C 0 d_Se_nearestUsable_66 rfl ?_
              refine sx_lstore_n (lv' := [(2, sx_J (M (20 + 1 + d) p)), (5, sx_J (M (20 + 1 + d) p)), (4, sx_I (((p : Nat) : Int))), (0, sx_A (17)), (1, sx_I (((d : Nat) : Int)))]) C d_Se_nearestUsable_68 rfl (by rw [hnL]; decide) rfl ?_
              refine sx_iinc (lv' := [(4, sx_I (((p + 1 : Nat) : Int))), (2, sx_J (M (20 + 1 + d) p)), (5, sx_J (M (20 + 1 + d) p)), (0, sx_A (17)), (1, sx_I (((d : Nat) : Int)))]) C 2 d_Se_nearestUsable_69 rfl (by rw [hnL]; decide) rfl ?_
              refine sx_goto C 7 d_Se_nearestUsable_72 (by decide) ?_
              refine sx_sub [0, 1, 3, 4] rfl ?_
              exact ih (p + 1) _ (by omega) (by rw [nuS, if_pos]; exact ⟨by rcases hb19 with ⟨q1, q2⟩ | ⟨q1, q2⟩; exact q2; omega, by omega, by omega⟩) (by omega)
set_option maxRecDepth 100000 in
set_option maxHeartbeats 4000000 in
theorem ct_Se_nearestUsable (l : Launch) (D : va_G) (tc : Nat → ClassId) (M : sx_M0) (hV : sv M) (d : Nat) (hd : d < 6) : sx_Met SC l D tc y_Se_nearestUsable w_Se_nearestUsable (rmk 1 40) [sx_A (17), sx_I (((d : Nat) : Int))] GL M (fun r G' M' => G' = GL ∧ M' = M ∧ r = some (sx_J (nuS M d (M 17 1).toNat))) := by
  refine sx_enter (by decide) rfl (Nat.le_of_ble_eq_true rfl) (Ts := g_tbl) (fun _ h => List.mem_cons_of_mem _ h) (fun E C Rr hnm hnL => ?_)
  refine sx_ldc2 (v := (-1)) C (-1) (tb_ 95 (by decide +kernel) rfl) (by decide) d_Se_nearestUsable_0 ?_
  refine sx_lstore_n (lv' := [(2, sx_J ((-1))), (0, sx_A (17)), (1, sx_I (((d : Nat) : Int)))]) C d_Se_nearestUsable_3 rfl (by rw [hnL]; decide) rfl ?_
  refine sx_iconst C d_Se_nearestUsable_4 ?_
  refine sx_istore (lv' := [(4, sx_I (0)), (2, sx_J ((-1))), (0, sx_A (17)), (1, sx_I (((d : Nat) : Int)))]) C d_Se_nearestUsable_5 (by rw [hnL]; decide) rfl ?_
  refine sx_sub [0, 1, 2, 3] rfl ?_
  exact lp_Se_nearestUsable M hV d hd C Rr hnL _ 0 (-1) (Nat.lt_succ_self _) rfl (Nat.zero_le _)
/-- the least that the n districts from d on could add -/
def lrS (M : sx_M0) : Nat → Nat → Int
  | 0, _ => 0
  | n + 1, d => lrS M n (d + 1) + (if 0 < M 18 d then M 18 d * nuS M d (M 17 1).toNat else 0)
def rlI (M0 M : sx_M0) (e : Nat) : Prop := (∀ a, a ≠ 29 → M a = M0 a) ∧ (∀ d, d < 7 → 0 ≤ M 29 d ∧ M 29 d ≤ 10000000) ∧ (∀ d, e ≤ d → d < dN M0 → 0 < M0 18 d → nuS M0 d (M0 17 1).toNat ≠ -1) ∧ (∀ d, e ≤ d → d ≤ dN M0 → M 29 d = lrS M0 (dN M0 - d) d) ∧ M 29 e ≤ 1500000 * ((dN M0 : Int) - e)
theorem nuS_eq {M M' : sx_M0} (h : ∀ a, a ≠ 29 → M' a = M a) {d : Nat} (hd : d < 6) : ∀ n, nuS M' d n = nuS M d n
  | 0 => rfl
  | n + 1 => by
    unfold nuS
    rw [nuS_eq h hd n, h 17 (by decide), h (20 + 1 + d) (by omega)]
theorem sv_29 {M0 M : sx_M0} (hV : sv M0) (f1 : ∀ a, a ≠ 29 → M a = M0 a) (f2 : ∀ d, d < 7 → 0 ≤ M 29 d ∧ M 29 d ≤ 10000000) : sv M := by
  unfold sv at hV ⊢
  rw [f1 17 (by decide), f1 18 (by decide), f1 27 (by decide)]
  refine ⟨hV.1, hV.2.1, hV.2.2.1, fun d p hd hp => ?_, hV.2.2.2.2.1, hV.2.2.2.2.2.1, hV.2.2.2.2.2.2.1, f2, hV.2.2.2.2.2.2.2.2⟩
  rw [f1 (20 + 1 + d) (by omega)]
  exact hV.2.2.2.1 d p hd hp
theorem rl_0 {M : sx_M0} (hV : sv M) : rlI M (sx_up M 29 (dN M) 0) (dN M) := by
  have g0 := hV.1
  refine ⟨fun a ha => sx_up_ne ha, fun d hd => ?_, fun d h1 h2 => by omega, fun d h1 h2 => ?_, ?_⟩
  · by_cases e : d = dN M
    · subst e
      rw [sx_up_at]
      omega
    · rw [sx_up_slot e]
      exact hV.2.2.2.2.2.2.2.1 d hd
  · have e : d = dN M := by omega
    subst e
    rw [sx_up_at, Nat.sub_self]
    rfl
  · rw [sx_up_at]
    omega
theorem rl_no {M0 M : sx_M0} {m : Nat} (hV : sv M0) (hm : m < dN M0) (h0 : ¬ 0 < M0 18 m) (h : rlI M0 M (m + 1)) : rlI M0 (sx_up M 29 m (M 29 (m + 1))) m := by
  obtain ⟨f1, f2, f3, f4, f5⟩ := h
  have g0 := hV.1
  have hD : dN M0 ≤ 6 := by unfold dN; omega
  refine ⟨fun a ha => by rw [sx_up_ne ha]; exact f1 a ha, fun d hd => ?_, fun d h1 h2 h3 => ?_, fun d h1 h2 => ?_, ?_⟩
  · by_cases e : d = m
    · subst e
      rw [sx_up_at]
      exact f2 _ (by omega)
    · rw [sx_up_slot e]
      exact f2 d hd
  · by_cases e : d = m
    · subst e
      exact absurd h3 h0
    · exact f3 d (by omega) h2 h3
  · by_cases e : d = m
    · subst e
      rw [sx_up_at, f4 (d + 1) (by omega) (by omega), show dN M0 - d = dN M0 - (d + 1) + 1 by omega]
      show _ = lrS M0 _ (d + 1) + (if 0 < M0 18 d then _ else 0)
      rw [if_neg h0]
      omega
    · rw [sx_up_slot e]
      exact f4 d (by omega) h2
  · rw [sx_up_at]
    have e : ((m + 1 : Nat) : Int) = (m : Int) + 1 := rfl
    rw [e] at f5
    omega
theorem rl_yes {M0 M : sx_M0} {m : Nat} {x : Int} (hV : sv M0) (hm : m < dN M0) (h0 : 0 < M0 18 m) (hx : x = nuS M0 m (M0 17 1).toNat) (hx1 : x ≠ -1) (h : rlI M0 M (m + 1)) : rlI M0 (sx_up (sx_up M 29 m (M 29 (m + 1))) 29 m (M 29 (m + 1) + M0 18 m * x)) m := by
  obtain ⟨f1, f2, f3, f4, f5⟩ := h
  have g0 := hV.1
  have g1 := hV.2.1
  have hD : dN M0 ≤ 6 := by unfold dN; omega
  have hn := hV.2.2.1 m (by omega)
  have hb := nuS_bd hV (show m < 6 by omega) (M0 17 1).toNat (by omega)
  have hmul := mul_bd hn.1 hn.2 (show 0 ≤ x by omega) (by omega)
  have q := f2 (m + 1) (by omega)
  have e1 : ((m + 1 : Nat) : Int) = (m : Int) + 1 := rfl
  rw [e1] at f5
  refine ⟨fun a ha => by rw [sx_up_ne ha, sx_up_ne ha]; exact f1 a ha, fun d hd => ?_, fun d h1 h2 h3 => ?_, fun d h1 h2 => ?_, ?_⟩
  · by_cases e : d = m
    · subst e
      rw [sx_up_at]
      omega
    · rw [sx_up_slot e, sx_up_slot e]
      exact f2 d hd
  · by_cases e : d = m
    · subst e
      rw [← hx]
      exact hx1
    · exact f3 d (by omega) h2 h3
  · by_cases e : d = m
    · subst e
      rw [sx_up_at, f4 (d + 1) (by omega) (by omega), show dN M0 - d = dN M0 - (d + 1) + 1 by omega]
      show _ = lrS M0 _ (d + 1) + (if 0 < M0 18 d then _ else 0)
      rw [if_pos h0, hx]
    · rw [sx_up_slot e, sx_up_slot e]
      exact f4 d (by omega) h2
  · rw [sx_up_at]
    omega
set_option maxRecDepth 100000 in
set_option maxHeartbeats 4000000 in
theorem lp_Se_reckonLeastRest (M0 : sx_M0) (hV : sv M0) {E : sx_E} (C : sx_C SC g_tbl "SiteChoice$Search" c_Se_reckonLeastRest E) (Rr : sx_Ret SC (some .boolean) (rmk 2 80) (fun r G' M' => G' = GL ∧ ∃ b : Int, r = some (sx_I b) ∧ (∀ a, a ≠ 29 → M' a = M0 a) ∧ (∀ d, d < 7 → 0 ≤ M' 29 d ∧ M' 29 d ≤ 10000000) ∧ ((b = 1 ∧ rlI M0 M' 0) ∨ (b = 0 ∧ ∃ d, d < dN M0 ∧ 0 < M0 18 d ∧ nuS M0 d (M0 17 1).toNat = -1))) E) (hnL : sx_nL E = 4) : ∀ (e : Nat), e ≤ dN M0 → ∀ (M : sx_M0), rlI M0 M e → sx_X SC E (0, 0) GL M 17 [(1, sx_I (((e : Nat) : Int) - 1)), (0, sx_A (17))] [] := by
  intro e
  have g0 := hV.1
  have g1 := hV.2.1
  have hD : dN M0 ≤ 6 := by unfold dN; omega
  induction e with
  | zero =>
    intro _ M h1
    refine sx_iload_n C 0 d_Se_reckonLeastRest_17 rfl rfl ?_
    refine sx_if_lt C 85 ⟨by omega, by omega⟩ d_Se_reckonLeastRest_18 (by decide) (fun c18 => ?_) (fun c18 => ?_)
    · refine sx_iconst C d_Se_reckonLeastRest_85 ?_
      refine sx_zreturn C Rr (by omega) rfl d_Se_reckonLeastRest_86 ?_
      exact ⟨rfl, 1, rfl, h1.1, h1.2.1, Or.inl ⟨rfl, h1⟩⟩
    · exfalso; omega
  | succ m ih =>
    intro hm1 M h1
    have hm : m < dN M0 := hm1
    replace ih := ih (by omega)
    rw [show (((m + 1 : Nat) : Nat) : Int) - 1 = ((m : Nat) : Int) by omega]
    refine sx_iload_n C 0 d_Se_reckonLeastRest_17 rfl rfl ?_
    refine sx_if_lt C 85 ⟨by omega, by omega⟩ d_Se_reckonLeastRest_18 (by decide) (fun c18 => ?_) (fun c18 => ?_)
    · exfalso; omega
    · refine sx_aload_n C 1 d_Se_reckonLeastRest_21 rfl rfl ?_
      refine sx_getr C f_Se_37 29 (by decide) rfl rfl d_Se_reckonLeastRest_22 ?_
      refine sx_iload_n C 0 d_Se_reckonLeastRest_25 rfl rfl ?_
      refine sx_aload_n C 1 d_Se_reckonLeastRest_26 rfl rfl ?_
      refine sx_getr C f_Se_37 29 (by decide) rfl rfl d_Se_reckonLeastRest_27 ?_
      refine sx_iload_n C 0 d_Se_reckonLeastRest_30 rfl rfl ?_
      refine sx_iconst C d_Se_reckonLeastRest_31 ?_
      refine sx_iadd C d_Se_reckonLeastRest_32 ?_
      show sx_X SC E (0, 0) GL M 33 [(1, sx_I (((m : Nat) : Int))), (0, sx_A 17)] [sx_I (((m + 1 : Nat) : Int)), sx_A 29, sx_I (((m : Nat) : Int)), sx_A 29]
      refine sx_laload C (m + 1) (by decide) rfl rfl rfl (by omega) (by decide) d_Se_reckonLeastRest_33 ?_
      refine sx_lastore C m (by decide) rfl rfl rfl (by omega) (by decide) d_Se_reckonLeastRest_34 ?_
      refine sx_aload_n C 1 d_Se_reckonLeastRest_35 rfl rfl ?_
      refine sx_getr C f_Se_18 18 (by decide) rfl rfl d_Se_reckonLeastRest_36 ?_
      refine sx_iload_n C 0 d_Se_reckonLeastRest_39 rfl rfl ?_
      have f18 : M 18 = M0 18 := h1.1 18 (by decide)
      have hN := hV.2.2.1 m (by omega)
      refine sx_laload C m (by decide) rfl rfl rfl (by omega) (by decide) d_Se_reckonLeastRest_40 ?_
      rw [sx_up_ne (by decide), f18]
      refine sx_lconst C 0 rfl d_Se_reckonLeastRest_41 ?_
      refine sx_lcmp_le C 79 ⟨by omega, by omega⟩ ⟨by omega, by omega⟩ d_Se_reckonLeastRest_42 d_Se_reckonLeastRest_43 (by decide) (fun c43 => ?_) (fun c43 => ?_)
      · refine sx_iinc (lv' := [(1, sx_I (((m : Nat) : Int) + (-1))), (0, sx_A (17))]) C 0 d_Se_reckonLeastRest_79 rfl (by rw [hnL]; decide) rfl ?_
        refine sx_goto C 17 d_Se_reckonLeastRest_82 (by decide) ?_
        refine sx_sub [0, 1] rfl ?_
        rw [show ((m : Nat) : Int) + (-1) = ((m : Nat) : Int) - 1 from rfl]
        exact ih _ (rl_no hV hm (by omega) h1)
      · have hVM : sv (sx_up M 29 m (M 29 (m + 1))) := sv_29 hV (fun a ha => by rw [sx_up_ne ha]; exact h1.1 a ha) (fun d hd => by by_cases e : d = m; (subst e; rw [sx_up_at]; exact h1.2.1 _ (by omega)); (rw [sx_up_slot e]; exact h1.2.1 d hd))
        refine sx_aload_n C 1 d_Se_reckonLeastRest_46 rfl rfl ?_
        refine sx_iload_n C 0 d_Se_reckonLeastRest_47 rfl rfl ?_
        refine sx_callV (n := 71) (As := [sx_I (((m : Nat) : Int))]) (st := []) C (ct_Se_nearestUsable _ _ _ _ hVM m (by omega)) rfl (by decide) rfl (cv_Se_131 E C _ (by rw [Rr.2.2]; decide)) (Nat.le_of_ble_eq_true rfl) d_Se_reckonLeastRest_48 (by rw [Rr.2.2]; decide) (by decide) rfl rfl rfl (fun r48 G48 M48 hpo _ => ?_)
        obtain ⟨e1, e2, rfl⟩ := hpo
        rw [e1, e2]
        show sx_X SC E (0, 0) GL (sx_up M 29 m (M 29 (m + 1))) 51 [(1, sx_I (((m : Nat) : Int))), (0, sx_A (17))] [sx_J (nuS (sx_up M 29 m (M 29 (m + 1))) m ((sx_up M 29 m (M 29 (m + 1))) 17 1).toNat)]
        generalize hx : (nuS (sx_up M 29 m (M 29 (m + 1))) m ((sx_up M 29 m (M 29 (m + 1))) 17 1).toNat) = x
        refine sx_lstore_n (lv' := [(2, sx_J (x)), (1, sx_I (((m : Nat) : Int))), (0, sx_A (17))]) C d_Se_reckonLeastRest_51 rfl (by rw [hnL]; decide) rfl ?_
        have hx2 : x = nuS M0 m (M0 17 1).toNat := by rw [← hx, nuS_eq (M := M0) (fun a ha => by rw [sx_up_ne ha]; exact h1.1 a ha) (by omega), sx_up_ne (by decide), h1.1 17 (by decide)]
        have hbx := nuS_bd hV (show m < 6 by omega) (M0 17 1).toNat (by omega)
        refine sx_lload_n C 0 d_Se_reckonLeastRest_52 rfl rfl ?_
        refine sx_ldc2 (v := (-1)) C (-1) (tb_ 95 (by decide +kernel) rfl) (by decide) d_Se_reckonLeastRest_53 ?_
        refine sx_lcmp_ne C 62 ⟨by omega, by omega⟩ ⟨by omega, by omega⟩ d_Se_reckonLeastRest_56 d_Se_reckonLeastRest_57 (by decide) (fun c57 => ?_) (fun c57 => ?_)
        · refine sx_aload_n C 2 d_Se_reckonLeastRest_62 rfl rfl ?_
          refine sx_getr C f_Se_37 29 (by decide) rfl rfl d_Se_reckonLeastRest_63 ?_
          refine sx_iload_n C 1 d_Se_reckonLeastRest_66 rfl rfl ?_
          refine sx_dup2_11 C d_Se_reckonLeastRest_67 rfl rfl ?_
          refine sx_laload C m (by decide) rfl rfl rfl (by omega) (by decide) d_Se_reckonLeastRest_68 ?_
          rw [sx_up_at]
          refine sx_aload_n C 2 d_Se_reckonLeastRest_69 rfl rfl ?_
          refine sx_getr C f_Se_18 18 (by decide) rfl rfl d_Se_reckonLeastRest_70 ?_
          refine sx_iload_n C 1 d_Se_reckonLeastRest_73 rfl rfl ?_
          refine sx_laload C m (by decide) rfl rfl rfl (by omega) (by decide) d_Se_reckonLeastRest_74 ?_
          rw [sx_up_ne (by decide), f18]
          refine sx_lload_n C 0 d_Se_reckonLeastRest_75 rfl rfl ?_
          refine sx_lmul C d_Se_reckonLeastRest_76 ?_
          refine sx_ladd C d_Se_reckonLeastRest_77 ?_
          refine sx_lastore C m (by decide) rfl rfl rfl (by omega) (by decide) d_Se_reckonLeastRest_78 ?_
          refine sx_iinc (lv' := [(1, sx_I (((m : Nat) : Int) + (-1))), (2, sx_J (x)), (0, sx_A (17))]) C 1 d_Se_reckonLeastRest_79 rfl (by rw [hnL]; decide) rfl ?_
          refine sx_goto C 17 d_Se_reckonLeastRest_82 (by decide) ?_
          refine sx_sub [0, 2] rfl ?_
          rw [show ((m : Nat) : Int) + (-1) = ((m : Nat) : Int) - 1 from rfl]
          exact ih _ (rl_yes hV hm (by omega) hx2 (by omega) h1)
        · refine sx_iconst C d_Se_reckonLeastRest_60 ?_
          refine sx_zreturn C Rr (by omega) rfl d_Se_reckonLeastRest_61 ?_
          exact ⟨rfl, 0, rfl, fun a ha => by rw [sx_up_ne ha]; exact h1.1 a ha, fun d hd => by by_cases e : d = m; (subst e; rw [sx_up_at]; exact h1.2.1 _ (by omega)); (rw [sx_up_slot e]; exact h1.2.1 d hd), Or.inr ⟨rfl, m, hm, by omega, by rw [← hx2]; omega⟩⟩
set_option maxRecDepth 100000 in
set_option maxHeartbeats 4000000 in
theorem ct_Se_reckonLeastRest (l : Launch) (D : va_G) (tc : Nat → ClassId) (M : sx_M0) (hV : sv M) : sx_Met SC l D tc y_Se_reckonLeastRest w_Se_reckonLeastRest (rmk 2 80) [sx_A (17)] GL M (fun r G' M' => G' = GL ∧ ∃ b : Int, r = some (sx_I b) ∧ (∀ a, a ≠ 29 → M' a = M a) ∧ (∀ d, d < 7 → 0 ≤ M' 29 d ∧ M' 29 d ≤ 10000000) ∧ ((b = 1 ∧ rlI M M' 0) ∨ (b = 0 ∧ ∃ d, d < dN M ∧ 0 < M 18 d ∧ nuS M d (M 17 1).toNat = -1))) := by
  refine sx_enter (by decide) rfl (Nat.le_of_ble_eq_true rfl) (Ts := g_tbl) (fun _ h => List.mem_cons_of_mem _ h) (fun E C Rr hnm hnL => ?_)
  have g0 := hV.1
  have hD : dN M ≤ 6 := by unfold dN; omega
  refine sx_aload_n C 0 d_Se_reckonLeastRest_0 rfl rfl ?_
  refine sx_getr C f_Se_37 29 (by decide) rfl rfl d_Se_reckonLeastRest_1 ?_
  refine sx_aload_n C 0 d_Se_reckonLeastRest_4 rfl rfl ?_
  refine sx_geti C f_Se_9 (by decide) rfl d_Se_reckonLeastRest_5 ?_
  refine sx_lconst C 0 rfl d_Se_reckonLeastRest_8 ?_
  refine sx_lastore C (dN M) (by decide) rfl rfl (by unfold dN; omega) (by omega) (by decide) d_Se_reckonLeastRest_9 ?_
  refine sx_aload_n C 0 d_Se_reckonLeastRest_10 rfl rfl ?_
  refine sx_geti C f_Se_9 (by decide) rfl d_Se_reckonLeastRest_11 ?_
  refine sx_iconst C d_Se_reckonLeastRest_14 ?_
  refine sx_isub C d_Se_reckonLeastRest_15 ?_
  refine sx_istore_n (lv' := [(1, sx_I (((sx_up M 29 (dN M) 0) 17 0) - 1)), (0, sx_A (17))]) C d_Se_reckonLeastRest_16 rfl (by rw [hnL]; decide) rfl ?_
  rw [show (sx_up M 29 (dN M) 0) 17 0 - 1 = ((dN M : Nat) : Int) - 1 by rw [sx_up_ne (by decide)]; unfold dN; omega]
  refine sx_sub [0, 1] rfl ?_
  exact lp_Se_reckonLeastRest M hV C Rr hnL (dN M) (Nat.le_refl _) _ (rl_0 hV)
end
section
theorem lr_le {M : sx_M0} (hV : sv M) : ∀ {n k s : Nat} {rl g : Nat → Int}, k + n = dN M → (∀ d, k ≤ d → d < dN M → 0 < M 18 d → nuS M d (M 17 1).toNat ≠ -1) → CP (jS M) n k s rl g → lrS M n k ≤ sm (jS M) n k g
  | 0, _, _, _, _, _, _, _ => Int.le_refl 0
  | n + 1, k, s, rl, g, e, hu, h => by
    have g0 := hV.1
    have hD : dN M ≤ 6 := by unfold dN; omega
    have hn := hV.2.2.1 k (by omega)
    unfold lrS sm
    rcases h with ⟨h1, -, h3⟩ | ⟨h1, p, hp, h2, h3, h4, -, -, h7⟩
    · have h1' : M 18 k = 0 := h1
      have ih := lr_le hV (n := n) (k := k + 1) (by omega) (fun d hd => hu d (by omega)) h3
      rw [if_neg (show ¬ 0 < M 18 k by omega), if_pos h1]
      omega
    · have h1' : ¬ M 18 k = 0 := h1
      have ih := lr_le hV (n := n) (k := k + 1) (by omega) (fun d hd => hu d (by omega)) h7
      have hp' : p < (M 17 1).toNat := hp
      have ep : (jS M).2.2.2.1 k p = M (20 + 1 + k) p := if_pos (by omega)
      rw [ep] at h4
      have q := (nuS_le (d := k) (M 17 1).toNat p hp' h3 h4).2
      rw [if_pos (show 0 < M 18 k by omega), if_neg h1, h2, Int.toNat_natCast, ep]
      have : M 18 k * nuS M k (M 17 1).toNat ≤ M 18 k * M (20 + 1 + k) p := Int.mul_le_mul_of_nonneg_left q hn.1
      show lrS M n (k + 1) + M 18 k * nuS M k (M 17 1).toNat ≤ M 18 k * M (20 + 1 + k) p + sm (jS M) n (k + 1) g
      omega
theorem cp_at {M : sx_M0} (hV : sv M) {d : Nat} (hd : d < dN M) (hn : 0 < M 18 d) : ∀ {n k s : Nat} {rl g : Nat → Int}, k + n = dN M → k ≤ d → CP (jS M) n k s rl g → nuS M d (M 17 1).toNat ≠ -1
  | 0, k, _, _, _, e, h1, _ => by omega
  | n + 1, k, s, rl, g, e, hk, h => by
    have g0 := hV.1
    have hD : dN M ≤ 6 := by unfold dN; omega
    by_cases ek : k = d
    · subst ek
      rcases h with ⟨h1, -⟩ | ⟨-, p, hp, -, h3, h4, -⟩
      · have h1' : M 18 k = 0 := h1
        omega
      · have ep : (jS M).2.2.2.1 k p = M (20 + 1 + k) p := if_pos (by omega)
        rw [ep] at h4
        exact (nuS_le (d := k) (M 17 1).toNat p hp h3 h4).1
    · rcases h with ⟨-, -, h3⟩ | ⟨-, p, -, -, -, -, -, -, h7⟩
      · exact cp_at hV hd hn (by omega) (by omega) h3
      · exact cp_at hV hd hn (by omega) (by omega) h7
def jW (M : sx_M0) (W : Nat) : mt_J := ((M 17 0).toNat, (M 17 1).toNat, fun d => M 18 d, fun d p => if d < 6 then M (20 + 1 + d) p else 0, fun s => M 27 s, W)
/-- r is the least sum (or -1), bg its plan; with f = 1 any plan will do -/
def bstP (J : mt_J) (rl : Nat → Int) (f : Int) (r : Int) (bg : Nat → Int) : Prop := (r = -1 ∧ ∀ g, ¬ CP J J.1 0 0 rl g) ∨ (∃ g0, CP J J.1 0 0 rl g0 ∧ 0 ≤ r ∧ r = sm J J.1 0 g0 ∧ (∀ d, d < 6 → bg d = if d < J.1 then g0 d else -1) ∧ (f = 0 → ∀ g, CP J J.1 0 0 rl g → r ≤ sm J J.1 0 g ∧ (r = sm J J.1 0 g → lx J.1 0 g0 g)))
def lsF (M M' : sx_M0) : Prop := (∀ a, a ≠ 17 → a ≠ 29 → a ≠ 30 → a ≠ 31 → a ≠ 32 → M' a = M a) ∧ (∀ b, b ≠ 11 → b ≠ 12 → M' 17 b = M 17 b)
abbrev mW (M : sx_M0) (W : Nat) : sx_M0 := sx_up (sx_up M 17 11 (-1)) 17 12 (W : Int)
theorem mW_ne {M : sx_M0} {W a : Nat} (h : a ≠ 17) : mW M W a = M a := (sx_up_ne h).trans (sx_up_ne h)
theorem mW_17 {M : sx_M0} {W b : Nat} (h : b ≠ 11) (h2 : b ≠ 12) : mW M W 17 b = M 17 b := (sx_up_slot h2).trans (sx_up_slot h)
theorem mW_12 {M : sx_M0} {W : Nat} : mW M W 17 12 = (W : Int) := sx_up_at
theorem mW_11 {M : sx_M0} {W : Nat} : mW M W 17 11 = -1 := (sx_up_slot (by decide)).trans sx_up_at
theorem mW_j {M : sx_M0} {W : Nat} : jS (mW M W) = jW M W := by
  unfold jS jW
  rw [mW_17 (b := 0) (by decide) (by decide), mW_17 (b := 1) (by decide) (by decide), mW_12, mW_ne (a := 18) (by decide), mW_ne (a := 27) (by decide), Int.toNat_natCast]
  have e : (fun d p => if d < 6 then mW M W (20 + 1 + d) p else 0) = (fun d p => if d < 6 then M (20 + 1 + d) p else 0) := by
    funext d p
    by_cases hd : d < 6
    · rw [if_pos hd, if_pos hd, mW_ne (by omega)]
    · rw [if_neg hd, if_neg hd]
  rw [e]
theorem mW_sv {M : sx_M0} {W : Nat} (hV : sv M) (hW : W < 32) : sv (mW M W) := by
  unfold sv at hV ⊢
  rw [mW_17 (b := 0) (by decide) (by decide), mW_17 (b := 1) (by decide) (by decide), mW_17 (b := 13) (by decide) (by decide), mW_12, mW_11, mW_ne (a := 18) (by decide), mW_ne (a := 27) (by decide), mW_ne (a := 29) (by decide)]
  refine ⟨hV.1, hV.2.1, hV.2.2.1, fun d p hd hp => ?_, hV.2.2.2.2.1, by omega, hV.2.2.2.2.2.2.1, hV.2.2.2.2.2.2.2.1, by decide⟩
  rw [mW_ne (by omega)]
  exact hV.2.2.2.1 d p hd hp
abbrev m3 (M : sx_M0) : sx_M0 := flS (sx_cpy M 19 30 0 0 5) 31 6 (-1)
theorem m3_ne {M : sx_M0} {a : Nat} (h1 : a ≠ 30) (h2 : a ≠ 31) : m3 M a = M a := by
  funext b
  simp [flS, sx_cpy, h1, h2]
theorem m3_30 {M : sx_M0} {p : Nat} (hp : p < 5) : m3 M 30 p = M 19 p := by
  simp [flS, sx_cpy, hp]
theorem m3_31 {M : sx_M0} {d : Nat} (hd : d < 6) : m3 M 31 d = -1 := by
  simp [flS, hd]
theorem jS_eq2 {M M' : sx_M0} (h0 : M' 17 0 = M 17 0) (h1 : M' 17 1 = M 17 1) (h12 : M' 17 12 = M 17 12) (h18 : M' 18 = M 18) (h27 : M' 27 = M 27) (hr : ∀ d, d < 6 → M' (20 + 1 + d) = M (20 + 1 + d)) : jS M' = jS M := by
  unfold jS
  rw [h0, h1, h12, h18, h27]
  have e : (fun d p => if d < 6 then M' (20 + 1 + d) p else 0) = (fun d p => if d < 6 then M (20 + 1 + d) p else 0) := by
    funext d p
    by_cases hd : d < 6
    · rw [if_pos hd, if_pos hd, hr d hd]
    · rw [if_neg hd, if_neg hd]
  rw [e]
theorem m3_sv {M : sx_M0} (hV : sv M) : sv (m3 M) := by
  unfold sv at hV ⊢
  rw [m3_ne (a := 17) (by decide) (by decide), m3_ne (a := 18) (by decide) (by decide), m3_ne (a := 27) (by decide) (by decide), m3_ne (a := 29) (by decide) (by decide)]
  refine ⟨hV.1, hV.2.1, hV.2.2.1, fun d p hd hp => ?_, hV.2.2.2.2⟩
  rw [m3_ne (by omega) (by omega)]
  exact hV.2.2.2.1 d p hd hp
theorem m3_j {M : sx_M0} : jS (m3 M) = jS M := jS_eq2 (by rw [m3_ne (by decide) (by decide)]) (by rw [m3_ne (by decide) (by decide)]) (by rw [m3_ne (by decide) (by decide)]) (m3_ne (by decide) (by decide)) (m3_ne (by decide) (by decide)) (fun d hd => m3_ne (by omega) (by omega))
theorem ls_pre {M M2 : sx_M0} (hV : sv M) (hR : ∀ p, p < 5 → 0 ≤ M 19 p ∧ M 19 p ≤ 1000) (h : rlI M M2 0) : gvI (m3 M2) 0 0 0 := by
  have f := h.1
  have hV2 : sv M2 := sv_29 hV f h.2.1
  have eJ2 : jS M2 = jS M := jS_eq2 (by rw [f 17 (by decide)]) (by rw [f 17 (by decide)]) (by rw [f 17 (by decide)]) (f 18 (by decide)) (f 27 (by decide)) (fun d hd => f _ (by omega))
  have eD : dN (m3 M2) = dN M := by
    unfold dN
    rw [m3_ne (by decide) (by decide), f 17 (by decide)]
  refine ⟨m3_sv hV2, ?_, fun p hp => ?_, fun d hd _ => m3_31 hd, Nat.zero_le _, by decide, by decide, by decide⟩
  · intro k hk s rl g hg
    rw [m3_j, eJ2, eD] at hg ⊢
    rw [eD] at hk
    rw [m3_ne (by decide) (by decide), h.2.2.2.1 k (Nat.zero_le k) hk]
    exact lr_le hV (by omega) (fun d hd => h.2.2.1 d (Nat.zero_le d)) hg
  · rw [m3_30 hp, f 19 (by decide)]
    exact hR p hp
theorem CP_rl {J : mt_J} : ∀ {n k s : Nat} {rl rl' g : Nat → Int}, J.2.1 ≤ 5 → (∀ p, p < 5 → rl p = rl' p) → CP J n k s rl g → CP J n k s rl' g
  | 0, _, _, _, _, _, _, _, _ => trivial
  | n + 1, k, s, rl, rl', g, h5, e, h => by
    rcases h with ⟨h1, h2, h3⟩ | ⟨h1, p, hp, h2, h3, h4, h5', h6, h7⟩
    · exact Or.inl ⟨h1, h2, CP_rl h5 e h3⟩
    · refine Or.inr ⟨h1, p, hp, h2, h3, h4, by rw [← e p (by omega)]; exact h5', h6, CP_rl h5 (fun q hq => ?_) h7⟩
      show (if q = p then rl q - _ else rl q) = if q = p then rl' q - _ else rl' q
      rw [e q hq]
theorem ls_yes {M M2 M' : sx_M0} {W : Nat} (hV : sv M) (hW : W < 32) (h : rlI (mW M W) M2 0) (hg : gvP (m3 M2) M' 0 0 0) : lsF M M' ∧ sv M' ∧ bstP (jW M W) (M 19) (M 17 13) (M' 17 11) (M' 32) := by
  have f := h.1
  have hV1 := mW_sv hV hW
  have hV2 : sv M2 := sv_29 hV1 f h.2.1
  obtain ⟨hF, hI⟩ := hg
  have hV' := sv_fr (m3_sv hV2) hF
  have eJ : jS (m3 M2) = jW M W := by
    rw [m3_j, ← mW_j]
    exact jS_eq2 (by rw [f 17 (by decide)]) (by rw [f 17 (by decide)]) (by rw [f 17 (by decide)]) (f 18 (by decide)) (f 27 (by decide)) (fun d hd => f _ (by omega))
  have eD : dN (m3 M2) = (M 17 0).toNat := by
    unfold dN
    rw [m3_ne (by decide) (by decide), f 17 (by decide), mW_17 (by decide) (by decide)]
  have e17 : ∀ b, b ≠ 11 → b ≠ 12 → m3 M2 17 b = M 17 b := fun b h1 h2 => by rw [m3_ne (by decide) (by decide), f 17 (by decide), mW_17 h1 h2]
  have hP5 : (jW M W).2.1 ≤ 5 := by
    have := hV.2.1
    show (M 17 1).toNat ≤ 5
    omega
  refine ⟨⟨fun a h1 h2 h3 h4 h5 => ?_, fun b h1 h2 => ?_⟩, hV', ?_⟩
  · rw [hF.1 a h1 h4 h5, m3_ne h3 h4, f a h2, mW_ne h1]
  · rw [hF.2.1 b h1]
    exact e17 b h1 h2
  · have e11 : m3 M2 17 11 = -1 := by rw [m3_ne (by decide) (by decide), f 17 (by decide), mW_11]
    rw [eJ, eD, e11, e17 13 (by decide) (by decide), Nat.sub_zero] at hI
    have e30 : ∀ p, p < 5 → m3 M2 30 p = M 19 p := fun p hp => by rw [m3_30 hp, f 19 (by decide), mW_ne (by decide)]
    rcases hI with ⟨a1, a2, a3⟩ | ⟨g0, s0, a1, a2, a3, a4⟩
    · exact Or.inl ⟨a1, fun g hg => (a3 g (CP_rl hP5 (fun p hp => (e30 p hp).symm) hg)).1 rfl⟩
    · refine Or.inr ⟨g0, CP_rl hP5 e30 s0, ?_, by rw [a1]; exact Int.zero_add _, fun d hd => ?_, fun hf g hg => ?_⟩
      · have := sm_nn (m3_sv hV2) (n := (M 17 0).toNat) (k := 0) (by have := hV.1; omega) (by rw [eJ]; exact s0)
        rw [eJ] at this
        rw [a1]
        show (0 : Int) ≤ 0 + _
        omega
      · rw [a3 d hd]
        unfold otS
        rw [eD]
        by_cases hdd : d < (M 17 0).toNat
        · rw [if_pos ⟨Nat.zero_le d, hdd⟩]
          exact (if_pos hdd).symm
        · rw [if_neg (fun q => hdd q.2), m3_31 hd]
          exact (if_neg hdd).symm
      · have q := a4 hf g (CP_rl hP5 (fun p hp => (e30 p hp).symm) hg)
        have q1 : M' 17 11 ≤ 0 + sm (jW M W) (M 17 0).toNat 0 g := q.1
        refine ⟨by show M' 17 11 ≤ sm (jW M W) (M 17 0).toNat 0 g; omega, fun z => q.2 (z.trans ?_)⟩
        show sm (jW M W) (M 17 0).toNat 0 g = 0 + sm (jW M W) (M 17 0).toNat 0 g
        omega
theorem ls_no {M M2 : sx_M0} {W : Nat} (hV : sv M) (hW : W < 32) (f : ∀ a, a ≠ 29 → M2 a = mW M W a) (f2 : ∀ d, d < 7 → 0 ≤ M2 29 d ∧ M2 29 d ≤ 10000000) (h : ∃ d, d < dN (mW M W) ∧ 0 < mW M W 18 d ∧ nuS (mW M W) d (mW M W 17 1).toNat = -1) : lsF M M2 ∧ sv M2 ∧ bstP (jW M W) (M 19) (M 17 13) (M2 17 11) (M2 32) := by
  have hV1 := mW_sv hV hW
  have hV2 : sv M2 := sv_29 hV1 f f2
  refine ⟨⟨fun a h1 h2 _ _ _ => by rw [f a h2, mW_ne h1], fun b h1 h2 => by rw [f 17 (by decide), mW_17 h1 h2]⟩, hV2, Or.inl ⟨by rw [f 17 (by decide), mW_11], fun g hg => ?_⟩⟩
  obtain ⟨d, h1, h2, h3⟩ := h
  have eD : dN (mW M W) = (M 17 0).toNat := by
    unfold dN
    rw [mW_17 (by decide) (by decide)]
  refine cp_at hV1 h1 h2 (n := (M 17 0).toNat) (k := 0) (s := 0) (rl := M 19) (g := g) (by rw [eD]; omega) (Nat.zero_le d) ?_ h3
  rw [mW_j]
  exact hg
end
section
set_option maxRecDepth 100000 in
set_option maxHeartbeats 4000000 in
theorem ct_Se_leastSum (l : Launch) (D : va_G) (tc : Nat → ClassId) (M : sx_M0) (hV : sv M) (W : Nat) (hW : W < 32) (hR : ∀ p, p < 5 → 0 ≤ M 19 p ∧ M 19 p ≤ 1000) : sx_Met SC l D tc y_Se_leastSum w_Se_leastSum (rmk 24 900) [sx_A (17), sx_I (((W : Nat) : Int))] GL M (fun r G' M' => G' = GL ∧ ∃ x : Int, r = some (sx_J x) ∧ x = M' 17 11 ∧ lsF M M' ∧ sv M' ∧ bstP (jW M W) (M 19) (M 17 13) x (M' 32)) := by
  refine sx_enter (by decide) rfl (Nat.le_of_ble_eq_true rfl) (Ts := g_tbl) (fun _ h => List.mem_cons_of_mem _ h) (fun E C Rr hnm hnL => ?_)
  have g0 := hV.1
  refine sx_aload_n C 0 d_Se_leastSum_0 rfl rfl ?_
  refine sx_ldc2 (v := (-1)) C (-1) (tb_ 95 (by decide +kernel) rfl) (by decide) d_Se_leastSum_1 ?_
  refine sx_putl C p_Se_52 (by decide) rfl d_Se_leastSum_4 ?_
  refine sx_aload_n C 0 d_Se_leastSum_7 rfl rfl ?_
  refine sx_iload_n C 1 d_Se_leastSum_8 rfl rfl ?_
  refine sx_puti C p_Se_56 (by decide) rfl d_Se_leastSum_9 ?_
  refine sx_aload_n C 0 d_Se_leastSum_12 rfl rfl ?_
  refine sx_callV (n := 71) (As := []) (st := []) C (ct_Se_reckonLeastRest _ _ _ _ (mW_sv hV hW)) rfl (by decide) rfl (cv_Se_107 E C _ (by rw [Rr.2.2]; decide)) (Nat.le_of_ble_eq_true rfl) d_Se_leastSum_13 (by rw [Rr.2.2]; decide) (by decide) rfl rfl rfl (fun r13 G13 M13 hpo _ => ?_)
  obtain ⟨e1, b13, rfl, f13, k13, hb13⟩ := hpo
  rw [e1]
  show sx_X SC E (0, 0) GL M13 16 [(0, sx_A (17)), (1, sx_I (((W : Nat) : Int)))] [sx_I (b13)]
  refine sx_if_eq C 48 ⟨by omega, by omega⟩ d_Se_leastSum_16 (by decide) (fun c16 => ?_) (fun c16 => ?_)
  · refine sx_aload_n C 0 d_Se_leastSum_48 rfl rfl ?_
    refine sx_getl C f_Se_52 (by decide) rfl d_Se_leastSum_49 ?_
    refine sx_lreturn C Rr rfl d_Se_leastSum_52 ?_
    rcases hb13 with ⟨q1, q2⟩ | ⟨q1, q2⟩
    · exact absurd q1 (by omega)
    · exact ⟨rfl, _, rfl, rfl, ls_no hV hW f13 k13 q2⟩
  · have hrl : rlI (mW M W) M13 0 := by
      rcases hb13 with ⟨q1, q2⟩ | ⟨q1, q2⟩
      · exact q2
      · omega
    refine sx_aload_n C 0 d_Se_leastSum_19 rfl rfl ?_
    refine sx_getr C f_Se_22 19 (by decide) rfl rfl d_Se_leastSum_20 ?_
    refine sx_iconst C d_Se_leastSum_23 ?_
    refine sx_aload_n C 0 d_Se_leastSum_24 rfl rfl ?_
    refine sx_getr C f_Se_40 30 (by decide) rfl rfl d_Se_leastSum_25 ?_
    refine sx_iconst C d_Se_leastSum_28 ?_
    refine sx_iconst C d_Se_leastSum_29 ?_
    refine sx_copyL (sp := 0) (dp := 0) (n := 5) C (by decide) rfl (by decide) rfl rfl rfl rfl rfl (by decide) (by decide) (by decide) (by decide) (tb_ 343 (by decide +kernel) rfl) (tb_ 345 (by decide +kernel) rfl) (tb_ 344 (by decide +kernel) rfl) (tb_ 10 (by decide +kernel) rfl) (by rw [Rr.2.2]; decide) (by rw [Rr.2.2]; decide) d_Se_leastSum_30 ?_
    refine sx_aload_n C 0 d_Se_leastSum_33 rfl rfl ?_
    refine sx_getr C f_Se_43 31 (by decide) rfl rfl d_Se_leastSum_34 ?_
    refine sx_iconst C d_Se_leastSum_37 ?_
    refine sx_callS (n := 71) (As := [sx_A (31), sx_I (-1)]) (st := []) C (ct_Ar_fill_ints _ _ _ (sx_cpy M13 19 30 0 0 5) 31 6 (-1) (by decide) rfl (by decide)) (cv_Se_117 E C _ (by rw [Rr.2.2]; decide)) (Nat.le_of_ble_eq_true rfl) d_Se_leastSum_38 (by rw [Rr.2.2]; decide) (by decide) rfl rfl rfl (fun r38 G38 M38 hpo _ => ?_)
    obtain ⟨e1, e2, rfl⟩ := hpo
    rw [e1, e2]
    show sx_X SC E (0, 0) GL (m3 M13) 41 [(0, sx_A (17)), (1, sx_I (((W : Nat) : Int)))] []
    refine sx_aload_n C 0 d_Se_leastSum_41 rfl rfl ?_
    refine sx_iconst C d_Se_leastSum_42 ?_
    refine sx_iconst C d_Se_leastSum_43 ?_
    refine sx_lconst C 0 rfl d_Se_leastSum_44 ?_
    refine sx_callV (n := 71) (As := [sx_I (0), sx_I (0), sx_J (0)]) (st := []) C (ct_Se_give 6 _ _ _ (m3 M13) 0 0 0 (ls_pre (mW_sv hV hW) (fun p hp => by rw [mW_ne (by decide)]; exact hR p hp) hrl) (by unfold dN; rw [m3_ne (by decide) (by decide), f13 17 (by decide), mW_17 (by decide) (by decide)]; omega)) rfl (by decide) rfl (cv_Se_123 E C _ (by rw [Rr.2.2]; decide)) (Nat.le_of_ble_eq_true rfl) d_Se_leastSum_45 (by rw [Rr.2.2]; decide) (by decide) rfl rfl rfl (fun r45 G45 M45 hpo _ => ?_)
    obtain ⟨e1, rfl, h45⟩ := hpo
    rw [e1]
    show sx_X SC E (0, 0) GL M45 48 [(0, sx_A (17)), (1, sx_I (((W : Nat) : Int)))] []
    refine sx_aload_n C 0 d_Se_leastSum_48 rfl rfl ?_
    refine sx_getl C f_Se_52 (by decide) rfl d_Se_leastSum_49 ?_
    refine sx_lreturn C Rr rfl d_Se_leastSum_52 ?_
    exact ⟨rfl, _, rfl, rfl, ls_yes hV hW hrl h45⟩
theorem sv_f1 {M : sx_M0} {x : Int} (hV : sv M) (hx : x = 0 ∨ x = 1) : sv (sx_up M 17 13 x) := by
  unfold sv at hV ⊢
  rw [sx_up_at, sx_up_slot (b := 0) (by decide), sx_up_slot (b := 1) (by decide), sx_up_slot (b := 11) (by decide), sx_up_slot (b := 12) (by decide), sx_up_ne (a := 18) (by decide), sx_up_ne (a := 27) (by decide), sx_up_ne (a := 29) (by decide)]
  refine ⟨hV.1, hV.2.1, hV.2.2.1, fun d p hd hp => ?_, hV.2.2.2.2.1, hV.2.2.2.2.2.1, hx, hV.2.2.2.2.2.2.2.1, hV.2.2.2.2.2.2.2.2⟩
  rw [sx_up_ne (by omega)]
  exact hV.2.2.2.1 d p hd hp
theorem jW_f1 {M : sx_M0} {x : Int} {W : Nat} : jW (sx_up M 17 13 x) W = jW M W := by
  unfold jW
  rw [sx_up_slot (b := 0) (by decide), sx_up_slot (b := 1) (by decide), sx_up_ne (a := 18) (by decide), sx_up_ne (a := 27) (by decide)]
  have e : (fun d p => if d < 6 then sx_up M 17 13 x (20 + 1 + d) p else 0) = (fun d p => if d < 6 then M (20 + 1 + d) p else 0) := by
    funext d p
    by_cases hd : d < 6
    · rw [if_pos hd, if_pos hd, sx_up_ne (by omega)]
    · rw [if_neg hd, if_neg hd]
  rw [e]
def hpF (M M' : sx_M0) : Prop := (∀ a, a ≠ 17 → a ≠ 29 → a ≠ 30 → a ≠ 31 → a ≠ 32 → M' a = M a) ∧ (∀ b, b ≠ 11 → b ≠ 12 → M' 17 b = M 17 b)
theorem hp_F {M M1 : sx_M0} (h0 : M 17 13 = 0) (h : lsF (sx_up M 17 13 1) M1) : hpF M (sx_up M1 17 13 0) := by
  refine ⟨fun a h1 h2 h3 h4 h5 => by rw [sx_up_ne h1, h.1 a h1 h2 h3 h4 h5, sx_up_ne h1], fun b h1 h2 => ?_⟩
  by_cases e : b = 13
  · subst e
    rw [sx_up_at, h0]
  · rw [sx_up_slot e, h.2 b h1 h2, sx_up_slot e]
set_option maxRecDepth 100000 in
set_option maxHeartbeats 4000000 in
theorem ct_Se_hasPlan (l : Launch) (D : va_G) (tc : Nat → ClassId) (M : sx_M0) (hV : sv M) (h0 : M 17 13 = 0) (hR : ∀ p, p < 5 → 0 ≤ M 19 p ∧ M 19 p ≤ 1000) : sx_Met SC l D tc y_Se_hasPlan w_Se_hasPlan (rmk 25 950) [sx_A (17)] GL M (fun r G' M' => G' = GL ∧ hpF M M' ∧ sv M' ∧ bz (∃ g, CP (jW M 31) (jW M 31).1 0 0 (M 19) g) r) := by
  refine sx_enter (by decide) rfl (Nat.le_of_ble_eq_true rfl) (Ts := g_tbl) (fun _ h => List.mem_cons_of_mem _ h) (fun E C Rr hnm hnL => ?_)
  refine sx_aload_n C 0 d_Se_hasPlan_0 rfl rfl ?_
  refine sx_iconst C d_Se_hasPlan_1 ?_
  refine sx_putz C p_Se_59 (by omega) (by decide) rfl d_Se_hasPlan_2 ?_
  refine sx_aload_n C 0 d_Se_hasPlan_5 rfl rfl ?_
  refine sx_bipush C d_Se_hasPlan_6 (by decide) ?_
  refine sx_callV (n := 71) (As := [sx_I (31)]) (st := []) C (ct_Se_leastSum _ _ _ _ (sv_f1 hV (Or.inr rfl)) 31 (by decide) (fun p hp => by rw [sx_up_ne (by decide)]; exact hR p hp)) rfl (by decide) rfl (cv_Se_127 E C _ (by rw [Rr.2.2]; decide)) (Nat.le_of_ble_eq_true rfl) d_Se_hasPlan_8 (by rw [Rr.2.2]; decide) (by decide) rfl rfl rfl (fun r8 G8 M8 hpo _ => ?_)
  obtain ⟨e1, x, rfl, q2, q3, q4, q5⟩ := hpo
  rw [e1]
  rw [jW_f1, sx_up_ne (by decide), sx_up_at] at q5
  have q6 := q4.2.2.2.2.2.2.2.2
  show sx_X SC E (0, 0) GL M8 11 [(0, sx_A (17))] [sx_J (x)]
  refine sx_lstore_n (lv' := [(1, sx_J (x)), (0, sx_A (17))]) C d_Se_hasPlan_11 rfl (by rw [hnL]; decide) rfl ?_
  refine sx_aload_n C 1 d_Se_hasPlan_12 rfl rfl ?_
  refine sx_iconst C d_Se_hasPlan_13 ?_
  refine sx_putz C p_Se_59 (by omega) (by decide) rfl d_Se_hasPlan_14 ?_
  refine sx_lload_n C 0 d_Se_hasPlan_17 rfl rfl ?_
  refine sx_ldc2 (v := (-1)) C (-1) (tb_ 95 (by decide +kernel) rfl) (by decide) d_Se_hasPlan_18 ?_
  refine sx_lcmp_eq C 29 ⟨by omega, by omega⟩ ⟨by omega, by omega⟩ d_Se_hasPlan_21 d_Se_hasPlan_22 (by decide) (fun c22 => ?_) (fun c22 => ?_)
  · refine sx_iconst C d_Se_hasPlan_29 ?_
    refine sx_zreturn C Rr (by omega) rfl d_Se_hasPlan_30 ?_
    exact ⟨rfl, hp_F h0 q3, sv_f1 q4 (Or.inl rfl), 0, rfl, Or.inr ⟨rfl, by rintro ⟨g, hg⟩; rcases q5 with ⟨-, z⟩ | ⟨g0, -, z, -⟩; exact z g hg; omega⟩⟩
  · refine sx_iconst C d_Se_hasPlan_25 ?_
    refine sx_goto C 30 d_Se_hasPlan_26 (by decide) ?_
    refine sx_zreturn C Rr (by omega) rfl d_Se_hasPlan_30 ?_
    exact ⟨rfl, hp_F h0 q3, sv_f1 q4 (Or.inl rfl), 1, rfl, Or.inl ⟨rfl, by rcases q5 with ⟨z, -⟩ | ⟨g, z, -⟩; exact absurd z c22; exact ⟨g, z⟩⟩⟩
end
section
/-- the first n slots of cell k become those of f -/
def tfS (M : sx_M0) (k n : Nat) (f : Nat → Int) : sx_M0 := fun a b => if a = k ∧ b < n then f b else M a b
theorem tfS_0 (M : sx_M0) (k : Nat) (f : Nat → Int) : tfS M k 0 f = M := by
  funext a b
  simp [tfS]
theorem tfS_succ (M : sx_M0) (k n : Nat) (f : Nat → Int) {x : Int} (hx : x = f n) : sx_up (tfS M k n f) k n x = tfS M k (n + 1) f := by
  subst hx
  funext a b
  unfold sx_up tfS
  by_cases h : a = k
  · by_cases h2 : b = n
    · simp [h, h2]
    · have h3 : (b < n + 1) ↔ (b < n) := by omega
      simp [h, h2, h3]
  · simp [h]
theorem tfS_ne {M : sx_M0} {k n : Nat} {f : Nat → Int} {a : Nat} (h : a ≠ k) : tfS M k n f a = M a := by
  funext b
  simp [tfS, h]
theorem tfS_lt {M : sx_M0} {k n : Nat} {f : Nat → Int} {b : Nat} (h : b < n) : tfS M k n f k b = f b := by
  simp [tfS, h]
theorem tfS_ge {M : sx_M0} {k n : Nat} {f : Nat → Int} {b : Nat} (h : ¬ b < n) : tfS M k n f k b = M k b := by
  simp [tfS, h]
def nyS (M : sx_M0) (y : Int) (d : Nat) : Int := M 2 d + y * (M 2 d / 10)
theorem ny_bd {x y : Int} (h0 : 0 ≤ x) (h1 : x ≤ 100) (h2 : 0 ≤ y) (h3 : y ≤ 5) : 0 ≤ x + y * (x / 10) ∧ x + y * (x / 10) ≤ 150 ∧ 0 ≤ y * (x / 10) ∧ y * (x / 10) ≤ 50 := by
  have q1 : 0 ≤ x / 10 := by omega
  have q2 : x / 10 ≤ 10 := by omega
  have q3 : 0 ≤ y * (x / 10) := Int.mul_nonneg h2 q1
  have q4 : y * (x / 10) ≤ 5 * 10 := Int.mul_le_mul h3 q2 q1 (by omega)
  omega
set_option maxRecDepth 100000 in
set_option maxHeartbeats 4000000 in
theorem lp_Se_loadNeedsOfYear  (M : sx_M0) (hT : tw M) (h17 : 0 ≤ M 17 0 ∧ M 17 0 ≤ 6) (y : Nat) (hy : y ≤ 5) {E : sx_E} (C : sx_C SC g_tbl "SiteChoice$Search" c_Se_loadNeedsOfYear E) (Rr : sx_Ret SC none (rmk 0 0) (fun r G' M' => G' = GL ∧ M' = tfS M 18 (M 17 0).toNat (nyS M y) ∧ r = none) E) (hnL : sx_nL E = 4) : ∀ (nF : Nat) (d : Nat), (M 17 0).toNat - d < nF → d ≤ (M 17 0).toNat → sx_X SC E (0, 0) GL (tfS M 18 d (nyS M y)) 2 [(3, sx_I (((d : Nat) : Int))), (0, sx_A (17)), (1, sx_A (1)), (2, sx_I (((y : Nat) : Int)))] [] := by
  intro nF
  induction nF with
  | zero => intro d h; omega
  | succ nF ih =>
    intro d hn h1
    refine sx_iload_n C 0 d_Se_loadNeedsOfYear_2 rfl rfl ?_
    refine sx_aload_n C 1 d_Se_loadNeedsOfYear_3 rfl rfl ?_
    refine sx_geti C f_Se_9 (by decide) rfl d_Se_loadNeedsOfYear_4 ?_
    rw [tfS_ne (by decide)]
    refine sx_icmp_ge C 42 ⟨by omega, by omega⟩ ⟨by omega, by omega⟩ d_Se_loadNeedsOfYear_7 (by decide) (fun c7 => ?_) (fun c7 => ?_)
    · refine sx_return C Rr rfl d_Se_loadNeedsOfYear_42 ?_
      exact ⟨rfl, by rw [show d = (M 17 0).toNat by omega], rfl⟩
    · refine sx_aload_n C 1 d_Se_loadNeedsOfYear_10 rfl rfl ?_
      refine sx_getr C f_Se_18 18 (by decide) rfl rfl d_Se_loadNeedsOfYear_11 ?_
      refine sx_iload_n C 0 d_Se_loadNeedsOfYear_14 rfl rfl ?_
      refine sx_aload_n C 2 d_Se_loadNeedsOfYear_15 rfl rfl ?_
      have hN := hT.2.2.2.1 d (by omega)
      refine sx_getr C f_Se_81 2 (by decide) rfl rfl d_Se_loadNeedsOfYear_16 ?_
      refine sx_iload_n C 0 d_Se_loadNeedsOfYear_19 rfl rfl ?_
      refine sx_laload C d (by decide) rfl rfl rfl (by omega) (by decide) d_Se_loadNeedsOfYear_20 ?_
      rw [tfS_ne (by decide)]
      refine sx_iload_n C 3 d_Se_loadNeedsOfYear_21 rfl rfl ?_
      refine sx_i2l C ⟨by omega, by omega⟩ d_Se_loadNeedsOfYear_22 ?_
      refine sx_aload_n C 2 d_Se_loadNeedsOfYear_23 rfl rfl ?_
      refine sx_getr C f_Se_81 2 (by decide) rfl rfl d_Se_loadNeedsOfYear_24 ?_
      refine sx_iload_n C 0 d_Se_loadNeedsOfYear_27 rfl rfl ?_
      refine sx_laload C d (by decide) rfl rfl rfl (by omega) (by decide) d_Se_loadNeedsOfYear_28 ?_
      rw [tfS_ne (by decide)]
      refine sx_ldc2 (v := (10)) C (10) (tb_ 310 (by decide +kernel) rfl) (by decide) d_Se_loadNeedsOfYear_29 ?_
      refine sx_ldiv C (by omega) ⟨by omega, by omega⟩ (by omega) ⟨by omega, by omega⟩ d_Se_loadNeedsOfYear_32 ?_
      refine sx_lmul C d_Se_loadNeedsOfYear_33 ?_
      refine sx_ladd C d_Se_loadNeedsOfYear_34 ?_
      refine sx_lastore C d (by decide) rfl rfl rfl (by omega) (by decide) d_Se_loadNeedsOfYear_35 ?_
      refine sx_iinc (lv' := [(3, sx_I (((d + 1 : Nat) : Int))), (0, sx_A (17)), (1, sx_A (1)), (2, sx_I (((y : Nat) : Int)))]) C 0 d_Se_loadNeedsOfYear_36 rfl (by rw [hnL]; decide) rfl ?_
      refine sx_goto C 2 d_Se_loadNeedsOfYear_39 (by decide) ?_
      refine sx_sub [0, 1, 2, 3] rfl ?_
      rw [tfS_succ M 18 d (nyS M y) (x := M 2 d + ((y : Nat) : Int) * (M 2 d / 10)) rfl]
      exact ih (d + 1) (by omega) (by omega)
set_option maxRecDepth 100000 in
set_option maxHeartbeats 4000000 in
theorem ct_Se_loadNeedsOfYear (l : Launch) (D : va_G) (tc : Nat → ClassId) (M : sx_M0) (hT : tw M) (h17 : 0 ≤ M 17 0 ∧ M 17 0 ≤ 6) (y : Nat) (hy : y ≤ 5) : sx_Met SC l D tc y_Se_loadNeedsOfYear w_Se_loadNeedsOfYear (rmk 0 0) [sx_A (17), sx_A (1), sx_I (((y : Nat) : Int))] GL M (fun r G' M' => G' = GL ∧ M' = tfS M 18 (M 17 0).toNat (nyS M y) ∧ r = none) := by
  refine sx_enter (by decide) rfl (Nat.le_of_ble_eq_true rfl) (Ts := g_tbl) (fun _ h => List.mem_cons_of_mem _ h) (fun E C Rr hnm hnL => ?_)
  refine sx_iconst C d_Se_loadNeedsOfYear_0 ?_
  refine sx_istore_n (lv' := [(3, sx_I (0)), (0, sx_A (17)), (1, sx_A (1)), (2, sx_I (((y : Nat) : Int)))]) C d_Se_loadNeedsOfYear_1 rfl (by rw [hnL]; decide) rfl ?_
  refine sx_sub [0, 1, 2, 3] rfl ?_
  have h0 := lp_Se_loadNeedsOfYear M hT h17 y hy C Rr hnL _ 0 (Nat.lt_succ_self _) (Nat.zero_le _)
  rw [tfS_0] at h0
  exact h0
theorem in_bit : ∀ c, c < 64 → ∀ n, n < 7 → ∀ d, d < n → (sx_and (sx_shr ((c : Nat) : Int) (((n : Nat) : Int) - 1 - ((d : Nat) : Int))) 1 = 1 ∧ c.testBit (n - 1 - d) = true) ∨ (sx_and (sx_shr ((c : Nat) : Int) (((n : Nat) : Int) - 1 - ((d : Nat) : Int))) 1 = 0 ∧ c.testBit (n - 1 - d) = false) := by decide +kernel
set_option maxRecDepth 100000 in
set_option maxHeartbeats 4000000 in
theorem ct_Un_isIn (l : Launch) (D : va_G) (tc : Nat → ClassId) (M : sx_M0) (c n d : Nat) (hc : c < 64) (hn : n < 7) (hd : d < n) : sx_Met SC l D tc y_Un_isIn w_Un_isIn (rmk 0 0) [sx_I (((c : Nat) : Int)), sx_I (((d : Nat) : Int)), sx_I (((n : Nat) : Int))] GL M (fun r G' M' => G' = GL ∧ M' = M ∧ bz (c.testBit (n - 1 - d) = true) r) := by
  refine sx_enter (by decide) rfl (Nat.le_of_ble_eq_true rfl) (Ts := g_tbl) (fun _ h => List.mem_cons_of_mem _ h) (fun E C Rr hnm hnL => ?_)
  refine sx_iload_n C 0 d_Un_isIn_0 rfl rfl ?_
  refine sx_iload_n C 2 d_Un_isIn_1 rfl rfl ?_
  refine sx_iconst C d_Un_isIn_2 ?_
  refine sx_isub C d_Un_isIn_3 ?_
  refine sx_iload_n C 1 d_Un_isIn_4 rfl rfl ?_
  refine sx_isub C d_Un_isIn_5 ?_
  refine sx_ishr C d_Un_isIn_6 ?_
  refine sx_iconst C d_Un_isIn_7 ?_
  refine sx_iand C d_Un_isIn_8 ?_
  have hv := in_bit c hc n hn d hd
  generalize (sx_and (sx_shr ((c : Nat) : Int) (((n : Nat) : Int) - 1) - ((d : Nat) : Int)) 1) = v at hv ⊢
  refine sx_iconst C d_Un_isIn_9 ?_
  refine sx_icmp_ne C 17 ⟨by omega, by omega⟩ ⟨by omega, by omega⟩ d_Un_isIn_10 (by decide) (fun c10 => ?_) (fun c10 => ?_)
  · refine sx_iconst C d_Un_isIn_17 ?_
    refine sx_zreturn C Rr (by omega) rfl d_Un_isIn_18 ?_
    exact ⟨rfl, rfl, 0, rfl, Or.inr ⟨rfl, by rcases hv with ⟨q1, q2⟩ | ⟨q1, q2⟩; omega; rw [q2]; decide⟩⟩
  · refine sx_iconst C d_Un_isIn_13 ?_
    refine sx_goto C 18 d_Un_isIn_14 (by decide) ?_
    refine sx_zreturn C Rr (by omega) rfl d_Un_isIn_18 ?_
    exact ⟨rfl, rfl, 1, rfl, Or.inl ⟨rfl, by rcases hv with ⟨q1, q2⟩ | ⟨q1, q2⟩; exact q2; omega⟩⟩
def nsS (M : sx_M0) (c n : Nat) (d : Nat) : Int := if c.testBit (n - 1 - d) = true then M 2 d else 0
set_option maxRecDepth 100000 in
set_option maxHeartbeats 4000000 in
theorem lp_Se_loadNeedsOfSet  (M : sx_M0) (hT : tw M) (h17 : 0 ≤ M 17 0 ∧ M 17 0 ≤ 6) (c : Nat) (hc : c < 64) {E : sx_E} (C : sx_C SC g_tbl "SiteChoice$Search" c_Se_loadNeedsOfSet E) (Rr : sx_Ret SC none (rmk 1 40) (fun r G' M' => G' = GL ∧ M' = tfS M 18 (M 17 0).toNat (nsS M c (M 17 0).toNat) ∧ r = none) E) (hnL : sx_nL E = 4) : ∀ (nF : Nat) (d : Nat), (M 17 0).toNat - d < nF → d ≤ (M 17 0).toNat → sx_X SC E (0, 0) GL (tfS M 18 d (nsS M c (M 17 0).toNat)) 2 [(3, sx_I (((d : Nat) : Int))), (0, sx_A (17)), (1, sx_A (1)), (2, sx_I (((c : Nat) : Int)))] [] := by
  intro nF
  induction nF with
  | zero => intro d h; omega
  | succ nF ih =>
    intro d hn h1
    refine sx_iload_n C 0 d_Se_loadNeedsOfSet_2 rfl rfl ?_
    refine sx_aload_n C 1 d_Se_loadNeedsOfSet_3 rfl rfl ?_
    refine sx_geti C f_Se_9 (by decide) rfl d_Se_loadNeedsOfSet_4 ?_
    rw [tfS_ne (by decide)]
    refine sx_icmp_ge C 44 ⟨by omega, by omega⟩ ⟨by omega, by omega⟩ d_Se_loadNeedsOfSet_7 (by decide) (fun c7 => ?_) (fun c7 => ?_)
    · refine sx_return C Rr rfl d_Se_loadNeedsOfSet_44 ?_
      exact ⟨rfl, by rw [show d = (M 17 0).toNat by omega], rfl⟩
    · refine sx_aload_n C 1 d_Se_loadNeedsOfSet_10 rfl rfl ?_
      refine sx_getr C f_Se_18 18 (by decide) rfl rfl d_Se_loadNeedsOfSet_11 ?_
      refine sx_iload_n C 0 d_Se_loadNeedsOfSet_14 rfl rfl ?_
      refine sx_iload_n C 3 d_Se_loadNeedsOfSet_15 rfl rfl ?_
      refine sx_iload_n C 0 d_Se_loadNeedsOfSet_16 rfl rfl ?_
      refine sx_aload_n C 1 d_Se_loadNeedsOfSet_17 rfl rfl ?_
      refine sx_geti C f_Se_9 (by decide) rfl d_Se_loadNeedsOfSet_18 ?_
      rw [tfS_ne (by decide), show M 17 0 = (((M 17 0).toNat : Nat) : Int) by omega]
      rw [show (((((M 17 0).toNat : Nat) : Int)).toNat) = (M 17 0).toNat by omega]
      refine sx_callS (n := 71) (As := [sx_I (((c : Nat) : Int)), sx_I (((d : Nat) : Int)), sx_I ((((M 17 0).toNat : Nat) : Int))]) (st := [sx_I (((d : Nat) : Int)), sx_A (18)]) C (ct_Un_isIn _ _ _ _ c (M 17 0).toNat d hc (by omega) (by omega)) (cv_Se_84 E C _ (by rw [Rr.2.2]; decide)) (Nat.le_of_ble_eq_true rfl) d_Se_loadNeedsOfSet_21 (by rw [Rr.2.2]; decide) (by decide) rfl rfl rfl (fun r21 G21 M21 hpo _ => ?_)
      obtain ⟨e1, e2, b21, rfl, hb21⟩ := hpo
      rw [e1, e2]
      show sx_X SC E (0, 0) GL (tfS M 18 d (nsS M c (M 17 0).toNat)) 24 [(3, sx_I (((d : Nat) : Int))), (0, sx_A (17)), (1, sx_A (1)), (2, sx_I (((c : Nat) : Int)))] [sx_I (b21), sx_I (((d : Nat) : Int)), sx_A (18)]
      refine sx_if_eq C 36 ⟨by omega, by omega⟩ d_Se_loadNeedsOfSet_24 (by decide) (fun c24 => ?_) (fun c24 => ?_)
      · refine sx_lconst C 0 rfl d_Se_loadNeedsOfSet_36 ?_
        refine sx_lastore C d (by decide) rfl rfl rfl (by omega) (by decide) d_Se_loadNeedsOfSet_37 ?_
        refine sx_iinc (lv' := [(3, sx_I (((d + 1 : Nat) : Int))), (0, sx_A (17)), (1, sx_A (1)), (2, sx_I (((c : Nat) : Int)))]) C 0 d_Se_loadNeedsOfSet_38 rfl (by rw [hnL]; decide) rfl ?_
        refine sx_goto C 2 d_Se_loadNeedsOfSet_41 (by decide) ?_
        refine sx_sub [0, 1, 2, 3] rfl ?_
        rw [tfS_succ M 18 d (nsS M c (M 17 0).toNat) (by unfold nsS; rcases hb21 with ⟨q1, q2⟩ | ⟨q1, q2⟩; (first | omega | rw [if_pos q2]); (first | omega | rw [if_neg q2]))]
        exact ih (d + 1) (by omega) (by omega)
      · refine sx_aload_n C 2 d_Se_loadNeedsOfSet_27 rfl rfl ?_
        refine sx_getr C f_Se_81 2 (by decide) rfl rfl d_Se_loadNeedsOfSet_28 ?_
        refine sx_iload_n C 0 d_Se_loadNeedsOfSet_31 rfl rfl ?_
        refine sx_laload C d (by decide) rfl rfl rfl (by omega) (by decide) d_Se_loadNeedsOfSet_32 ?_
        rw [tfS_ne (by decide)]
        refine sx_goto C 37 d_Se_loadNeedsOfSet_33 (by decide) ?_
        refine sx_lastore C d (by decide) rfl rfl rfl (by omega) (by decide) d_Se_loadNeedsOfSet_37 ?_
        refine sx_iinc (lv' := [(3, sx_I (((d + 1 : Nat) : Int))), (0, sx_A (17)), (1, sx_A (1)), (2, sx_I (((c : Nat) : Int)))]) C 0 d_Se_loadNeedsOfSet_38 rfl (by rw [hnL]; decide) rfl ?_
        refine sx_goto C 2 d_Se_loadNeedsOfSet_41 (by decide) ?_
        refine sx_sub [0, 1, 2, 3] rfl ?_
        rw [tfS_succ M 18 d (nsS M c (M 17 0).toNat) (by unfold nsS; rcases hb21 with ⟨q1, q2⟩ | ⟨q1, q2⟩; (first | omega | rw [if_pos q2]); (first | omega | rw [if_neg q2]))]
        exact ih (d + 1) (by omega) (by omega)
set_option maxRecDepth 100000 in
set_option maxHeartbeats 4000000 in
theorem ct_Se_loadNeedsOfSet (l : Launch) (D : va_G) (tc : Nat → ClassId) (M : sx_M0) (hT : tw M) (h17 : 0 ≤ M 17 0 ∧ M 17 0 ≤ 6) (c : Nat) (hc : c < 64) : sx_Met SC l D tc y_Se_loadNeedsOfSet w_Se_loadNeedsOfSet (rmk 1 40) [sx_A (17), sx_A (1), sx_I (((c : Nat) : Int))] GL M (fun r G' M' => G' = GL ∧ M' = tfS M 18 (M 17 0).toNat (nsS M c (M 17 0).toNat) ∧ r = none) := by
  refine sx_enter (by decide) rfl (Nat.le_of_ble_eq_true rfl) (Ts := g_tbl) (fun _ h => List.mem_cons_of_mem _ h) (fun E C Rr hnm hnL => ?_)
  refine sx_iconst C d_Se_loadNeedsOfSet_0 ?_
  refine sx_istore_n (lv' := [(3, sx_I (0)), (0, sx_A (17)), (1, sx_A (1)), (2, sx_I (((c : Nat) : Int)))]) C d_Se_loadNeedsOfSet_1 rfl (by rw [hnL]; decide) rfl ?_
  refine sx_sub [0, 1, 2, 3] rfl ?_
  have h0 := lp_Se_loadNeedsOfSet M hT h17 c hc C Rr hnL _ 0 (Nat.lt_succ_self _) (Nat.zero_le _)
  rw [tfS_0] at h0
  exact h0
end
section
/-- no one of the first n places of s is too near to place p -/
def nbS (M : sx_M0) (s p : Nat) : Nat → Prop
  | 0 => True
  | q + 1 => nbS M s p q ∧ ¬ (s.testBit q = true ∧ nrS M q p)
/-- the cost of a place, if place f (-1: none) costs nothing -/
def coS (M : sx_M0) (f : Int) (p : Nat) : Int := if (p : Int) = f then 0 else M 13 p
def csS (M : sx_M0) (f : Int) (s : Nat) : Nat → Int
  | 0 => 0
  | p + 1 => csS M f s p + (if s.testBit p = true then coS M f p else 0)
/-- may the set of the first n places of s be open? -/
def moS (M : sx_M0) (f : Int) (s : Nat) : Nat → Prop
  | 0 => True
  | p + 1 => moS M f s p ∧ (s.testBit p = true → M 16 p = 0 ∧ csS M f s (p + 1) ≤ M 1 2 ∧ nbS M s p p)
noncomputable def b01 (p : Prop) : Int := @ite Int p (Classical.propDecidable p) 1 0
theorem b01_t {p : Prop} (h : p) : b01 p = 1 := by
  unfold b01
  rw [if_pos h]
theorem b01_f {p : Prop} (h : ¬ p) : b01 p = 0 := by
  unfold b01
  rw [if_neg h]
theorem b01_or (p : Prop) : b01 p = 0 ∨ b01 p = 1 := by
  by_cases h : p
  · exact Or.inr (b01_t h)
  · exact Or.inl (b01_f h)
theorem b01_1 {p : Prop} : b01 p = 1 ↔ p := by
  constructor
  · intro h
    by_cases q : p
    · exact q
    · rw [b01_f q] at h
      cases h
  · exact b01_t
theorem b01_c {p q : Prop} (h : p ↔ q) : b01 p = b01 q := by rw [propext h]
theorem nb_at {M : sx_M0} {s p : Nat} : ∀ {n q : Nat}, q < n → nbS M s p n → ¬ (s.testBit q = true ∧ nrS M q p)
  | 0, _, h, _ => by omega
  | n + 1, q, h, hn => by
    by_cases e : q = n
    · subst e
      exact hn.2
    · exact nb_at (by omega) hn.1
set_option maxRecDepth 100000 in
set_option maxHeartbeats 4000000 in
theorem lp_Se_isAnyTooNear  (M : sx_M0) (hT : tw M) (s p : Nat) (hs : s < 32) (hp : p < 5) {E : sx_E} (C : sx_C SC g_tbl "SiteChoice$Search" c_Se_isAnyTooNear E) (Rr : sx_Ret SC (some .boolean) (rmk 2 80) (fun r G' M' => G' = GL ∧ M' = M ∧ bz (¬ nbS M s p p) r) E) (hnL : sx_nL E = 4) : ∀ (nF : Nat) (q : Nat), p - q < nF → nbS M s p q → q ≤ p → sx_X SC E (0, 0) GL M 2 [(3, sx_I (((q : Nat) : Int))), (0, sx_A (1)), (1, sx_I (((s : Nat) : Int))), (2, sx_I (((p : Nat) : Int)))] [] := by
  intro nF
  induction nF with
  | zero => intro q h; omega
  | succ nF ih =>
    intro q hn h1 h2
    refine sx_iload_n C 0 d_Se_isAnyTooNear_2 rfl rfl ?_
    refine sx_iload_n C 3 d_Se_isAnyTooNear_3 rfl rfl ?_
    refine sx_icmp_ge C 33 ⟨by omega, by omega⟩ ⟨by omega, by omega⟩ d_Se_isAnyTooNear_4 (by decide) (fun c4 => ?_) (fun c4 => ?_)
    · refine sx_iconst C d_Se_isAnyTooNear_33 ?_
      refine sx_zreturn C Rr (by omega) rfl d_Se_isAnyTooNear_34 ?_
      exact ⟨rfl, rfl, 0, rfl, Or.inr ⟨rfl, fun z => z (by rw [show p = q by omega] at h1 ⊢; exact h1)⟩⟩
    · refine sx_iload_n C 2 d_Se_isAnyTooNear_7 rfl rfl ?_
      refine sx_iload_n C 0 d_Se_isAnyTooNear_8 rfl rfl ?_
      refine sx_ishr C d_Se_isAnyTooNear_9 ?_
      refine sx_iconst C d_Se_isAnyTooNear_10 ?_
      refine sx_iand C d_Se_isAnyTooNear_11 ?_
      have hv := bit_n s hs q (by omega)
      generalize (sx_and (sx_shr ((s : Nat) : Int) ((q : Nat) : Int)) 1) = v at hv ⊢
      refine sx_iconst C d_Se_isAnyTooNear_12 ?_
      refine sx_icmp_ne C 27 ⟨by omega, by omega⟩ ⟨by omega, by omega⟩ d_Se_isAnyTooNear_13 (by decide) (fun c13 => ?_) (fun c13 => ?_)
      · refine sx_iinc (lv' := [(3, sx_I (((q + 1 : Nat) : Int))), (0, sx_A (1)), (1, sx_I (((s : Nat) : Int))), (2, sx_I (((p : Nat) : Int)))]) C 0 d_Se_isAnyTooNear_27 rfl (by rw [hnL]; decide) rfl ?_
        refine sx_goto C 2 d_Se_isAnyTooNear_30 (by decide) ?_
        refine sx_sub [0, 1, 2, 3] rfl ?_
        exact ih (q + 1) (by omega) ⟨h1, by rintro ⟨z1, z2⟩; first | (rcases hv with ⟨y1, y2⟩ | ⟨y1, y2⟩; omega; rw [y2] at z1; cases z1) | (rcases hb19 with ⟨y1, y2⟩ | ⟨y1, y2⟩; omega; exact y2 z2)⟩ (by omega)
      · refine sx_aload_n C 1 d_Se_isAnyTooNear_16 rfl rfl ?_
        refine sx_iload_n C 0 d_Se_isAnyTooNear_17 rfl rfl ?_
        refine sx_iload_n C 3 d_Se_isAnyTooNear_18 rfl rfl ?_
        refine sx_callV (n := 71) (As := [sx_I (((q : Nat) : Int)), sx_I (((p : Nat) : Int))]) (st := []) C (ct_To_isTooNear _ _ _ M hT q p (by omega) (by omega)) rfl (by decide) rfl (cv_Se_103 E C _ (by rw [Rr.2.2]; decide)) (Nat.le_of_ble_eq_true rfl) d_Se_isAnyTooNear_19 (by rw [Rr.2.2]; decide) (by decide) rfl rfl rfl (fun r19 G19 M19 hpo _ => ?_)
        obtain ⟨e1, e2, b19, rfl, hb19⟩ := hpo
        rw [e1, e2]
        show sx_X SC E (0, 0) GL M 22 [(3, sx_I (((q : Nat) : Int))), (0, sx_A (1)), (1, sx_I (((s : Nat) : Int))), (2, sx_I (((p : Nat) : Int)))] [sx_I (b19)]
        refine sx_if_eq C 27 ⟨by omega, by omega⟩ d_Se_isAnyTooNear_22 (by decide) (fun c22 => ?_) (fun c22 => ?_)
        · refine sx_iinc (lv' := [(3, sx_I (((q + 1 : Nat) : Int))), (0, sx_A (1)), (1, sx_I (((s : Nat) : Int))), (2, sx_I (((p : Nat) : Int)))]) C 0 d_Se_isAnyTooNear_27 rfl (by rw [hnL]; decide) rfl ?_
          refine sx_goto C 2 d_Se_isAnyTooNear_30 (by decide) ?_
          refine sx_sub [0, 1, 2, 3] rfl ?_
          exact ih (q + 1) (by omega) ⟨h1, by rintro ⟨z1, z2⟩; first | (rcases hv with ⟨y1, y2⟩ | ⟨y1, y2⟩; omega; rw [y2] at z1; cases z1) | (rcases hb19 with ⟨y1, y2⟩ | ⟨y1, y2⟩; omega; exact y2 z2)⟩ (by omega)
        · refine sx_iconst C d_Se_isAnyTooNear_25 ?_
          refine sx_zreturn C Rr (by omega) rfl d_Se_isAnyTooNear_26 ?_
          refine ⟨rfl, rfl, 1, rfl, Or.inl ⟨rfl, fun z => ?_⟩⟩
          rcases hb19 with ⟨q1, q2⟩ | ⟨q1, q2⟩
          · exact nb_at (n := p) (q := q) (by omega) z ⟨by rcases hv with ⟨z1, z2⟩ | ⟨z1, z2⟩; exact z2; omega, q2⟩
          · omega
set_option maxRecDepth 100000 in
set_option maxHeartbeats 4000000 in
theorem ct_Se_isAnyTooNear (l : Launch) (D : va_G) (tc : Nat → ClassId) (M : sx_M0) (hT : tw M) (s p : Nat) (hs : s < 32) (hp : p < 5) : sx_Met SC l D tc y_Se_isAnyTooNear w_Se_isAnyTooNear (rmk 2 80) [sx_A (1), sx_I (((s : Nat) : Int)), sx_I (((p : Nat) : Int))] GL M (fun r G' M' => G' = GL ∧ M' = M ∧ bz (¬ nbS M s p p) r) := by
  refine sx_enter (by decide) rfl (Nat.le_of_ble_eq_true rfl) (Ts := g_tbl) (fun _ h => List.mem_cons_of_mem _ h) (fun E C Rr hnm hnL => ?_)
  refine sx_iconst C d_Se_isAnyTooNear_0 ?_
  refine sx_istore_n (lv' := [(3, sx_I (0)), (0, sx_A (1)), (1, sx_I (((s : Nat) : Int))), (2, sx_I (((p : Nat) : Int)))]) C d_Se_isAnyTooNear_1 rfl (by rw [hnL]; decide) rfl ?_
  refine sx_sub [0, 1, 2, 3] rfl ?_
  exact lp_Se_isAnyTooNear M hT s p hs hp C Rr hnL _ 0 (Nat.lt_succ_self _) trivial (Nat.zero_le _)
end
section
theorem tb_hi : ∀ p, p < 5 → ∀ b, b < 2 ^ p → ∀ q, q < 5 → ((2 ^ p + b).testBit q = (decide (q = p) || b.testBit q)) ∧ (p ≤ q → b.testBit q = false) := by decide +kernel
theorem shl_bit : ∀ p, p < 6 → sx_shl 1 ((p : Nat) : Int) = ((2 ^ p : Nat) : Int) := by decide +kernel
theorem or_add : ∀ p, p < 5 → ∀ b, b < 2 ^ p → sx_or ((b : Nat) : Int) ((2 ^ p : Nat) : Int) = ((2 ^ p + b : Nat) : Int) := by decide +kernel
theorem pow_5 : ∀ p, p < 5 → 2 ^ p ≤ 16 := by decide
theorem cs_congr {M : sx_M0} {f : Int} {s t : Nat} : ∀ {n : Nat}, (∀ q, q < n → s.testBit q = t.testBit q) → csS M f s n = csS M f t n
  | 0, _ => rfl
  | n + 1, h => by
    unfold csS
    rw [cs_congr (fun q hq => h q (by omega)), h n (by omega)]
theorem cs_hi {M : sx_M0} {f : Int} {s p : Nat} : ∀ {n : Nat}, p ≤ n → (∀ q, p ≤ q → q < n → s.testBit q = false) → csS M f s n = csS M f s p
  | 0, h, _ => by
    have : p = 0 := by omega
    rw [this]
  | n + 1, h, hb => by
    by_cases e : p = n + 1
    · rw [e]
    · show csS M f s n + (if s.testBit n = true then coS M f n else 0) = csS M f s p
      rw [hb n (by omega) (by omega), if_neg (by decide), cs_hi (n := n) (by omega) (fun q h1 h2 => hb q h1 (by omega))]
      exact Int.add_zero _
theorem nb_congr {M : sx_M0} {s t p : Nat} : ∀ {n : Nat}, (∀ q, q < n → s.testBit q = t.testBit q) → nbS M s p n → nbS M t p n
  | 0, _, _ => trivial
  | n + 1, h, hn => ⟨nb_congr (fun q hq => h q (by omega)) hn.1, by rw [← h n (by omega)]; exact hn.2⟩
theorem mo_congr {M : sx_M0} {f : Int} {s t : Nat} : ∀ {n : Nat}, (∀ q, q < n → s.testBit q = t.testBit q) → moS M f s n → moS M f t n
  | 0, _, _ => trivial
  | n + 1, h, hn => by
    refine ⟨mo_congr (fun q hq => h q (by omega)) hn.1, fun hb => ?_⟩
    rw [← h n (by omega)] at hb
    obtain ⟨h1, h2, h3⟩ := hn.2 hb
    exact ⟨h1, by rw [← cs_congr h]; exact h2, nb_congr (fun q hq => h q (by omega)) h3⟩
theorem mo_hi {M : sx_M0} {f : Int} {s p : Nat} : ∀ {n : Nat}, p ≤ n → (∀ q, p ≤ q → q < n → s.testBit q = false) → (moS M f s n ↔ moS M f s p)
  | 0, h, _ => by
    have : p = 0 := by omega
    rw [this]
  | n + 1, h, hb => by
    by_cases e : p = n + 1
    · rw [e]
    · rw [← mo_hi (n := n) (p := p) (by omega) (fun q h1 h2 => hb q h1 (by omega))]
      constructor
      · exact fun z => z.1
      · exact fun z => ⟨z, fun q => by rw [hb n (by omega) (by omega)] at q; cases q⟩
theorem cs_step {M : sx_M0} {f : Int} {p b : Nat} (hp : p < 5) (hb : b < 2 ^ p) : csS M f (2 ^ p + b) 5 = csS M f b 5 + coS M f p := by
  have h := tb_hi p hp b hb
  rw [cs_hi (s := 2 ^ p + b) (p := p + 1) (n := 5) (by omega) (fun q h1 h2 => by rw [(h q h2).1, (h q h2).2 (by omega)]; simp; omega), cs_hi (s := b) (p := p) (n := 5) (by omega) (fun q h1 h2 => (h q h2).2 h1)]
  show csS M f (2 ^ p + b) p + (if (2 ^ p + b).testBit p = true then coS M f p else 0) = _
  rw [if_pos (by rw [(h p hp).1]; simp), cs_congr (t := b) (fun q hq => by rw [(h q (by omega)).1]; simp; omega)]
theorem mo_step {M : sx_M0} {f : Int} {p b : Nat} (hp : p < 5) (hb : b < 2 ^ p) : moS M f (2 ^ p + b) 5 ↔ moS M f b 5 ∧ M 16 p = 0 ∧ csS M f b 5 + coS M f p ≤ M 1 2 ∧ nbS M b p p := by
  have h := tb_hi p hp b hb
  have hlo : ∀ q, q < p → (2 ^ p + b).testBit q = b.testBit q := fun q hq => by rw [(h q (by omega)).1]; simp; omega
  have hhi : ∀ q, p + 1 ≤ q → q < 5 → (2 ^ p + b).testBit q = false := fun q h1 h2 => by rw [(h q h2).1, (h q h2).2 (by omega)]; simp; omega
  have hp1 : (2 ^ p + b).testBit p = true := by rw [(h p hp).1]; simp
  rw [mo_hi (s := 2 ^ p + b) (p := p + 1) (n := 5) (by omega) hhi, mo_hi (s := b) (p := p) (n := 5) (by omega) (fun q h1 h2 => (h q h2).2 h1)]
  have e : csS M f (2 ^ p + b) (p + 1) = csS M f b 5 + coS M f p := by
    rw [← cs_hi (s := 2 ^ p + b) (p := p + 1) (n := 5) (by omega) hhi]
    exact cs_step hp hb
  constructor
  · rintro ⟨z1, z2⟩
    obtain ⟨y1, y2, y3⟩ := z2 hp1
    exact ⟨mo_congr hlo z1, y1, by rw [← e]; exact y2, nb_congr hlo y3⟩
  · rintro ⟨z1, z2, z3, z4⟩
    exact ⟨mo_congr (fun q hq => (hlo q hq).symm) z1, fun _ => ⟨z2, by rw [e]; exact z3, nb_congr (fun q hq => (hlo q hq).symm) z4⟩⟩
/-- the tables of the sets, the first n of them done -/
noncomputable def stS (M : sx_M0) (f : Int) (n : Nat) : sx_M0 := fun a b => if a = 28 ∧ b < n then csS M f b 5 else if a = 27 ∧ b < n then b01 (moS M f b 5) else M a b
theorem stS_ne {M : sx_M0} {f : Int} {n a : Nat} (h1 : a ≠ 27) (h2 : a ≠ 28) : stS M f n a = M a := by
  funext b
  simp [stS, h1, h2]
theorem stS_28 {M : sx_M0} {f : Int} {n b : Nat} (h : b < n) : stS M f n 28 b = csS M f b 5 := by
  simp [stS, h]
theorem stS_27 {M : sx_M0} {f : Int} {n b : Nat} (h : b < n) : stS M f n 27 b = b01 (moS M f b 5) := by
  simp [stS, h]
theorem st_up {M : sx_M0} {f x v : Int} {n : Nat} (hx : x = csS M f n 5) (hv : v = b01 (moS M f n 5)) : sx_up (sx_up (stS M f n) 28 n x) 27 n v = stS M f (n + 1) := by
  subst hx; subst hv
  funext a b
  unfold sx_up stS
  by_cases h8 : a = 28
  · subst h8
    by_cases h2 : b = n
    · simp [h2]
    · have h3 : (b < n + 1) ↔ (b < n) := by omega
      simp [h2, h3]
  · by_cases h7 : a = 27
    · subst h7
      by_cases h2 : b = n
      · simp [h2]
      · have h3 : (b < n + 1) ↔ (b < n) := by omega
        simp [h2, h3]
    · simp [h8, h7]
theorem st_1 {M : sx_M0} {f : Int} : sx_up (sx_up M 27 0 1) 28 0 0 = stS M f 1 := by
  have e1 : csS M f 0 5 = 0 := by simp [csS]
  have e2 : b01 (moS M f 0 5) = 1 := b01_t (by simp [moS])
  funext a b
  unfold sx_up stS
  by_cases h8 : a = 28
  · subst h8
    by_cases h2 : b = 0
    · subst h2
      simp [e1]
    · simp [h2]
  · by_cases h7 : a = 27
    · subst h7
      by_cases h2 : b = 0
      · subst h2
        simp [e2]
      · simp [h2]
    · simp [h8, h7]
theorem tw_fr {M M' : sx_M0} (h : ∀ a, a ≤ 16 → M' a = M a) (hT : tw M) : tw M' := by
  unfold tw at hT ⊢
  rw [h 1 (by decide), h 2 (by decide), h 3 (by decide), h 11 (by decide), h 12 (by decide), h 13 (by decide), h 14 (by decide), h 15 (by decide), h 16 (by decide)]
  refine ⟨hT.1, hT.2.1, hT.2.2.1, hT.2.2.2.1, hT.2.2.2.2.1, fun d p hd hp => ?_, hT.2.2.2.2.2.2⟩
  rw [h (4 + 1 + d) (by omega)]
  exact hT.2.2.2.2.2.1 d p hd hp
theorem nr_fr {M M' : sx_M0} (h : ∀ a, a ≤ 16 → M' a = M a) {p q : Nat} : nrS M' p q ↔ nrS M p q := by
  unfold nrS
  rw [h 11 (by decide), h 12 (by decide), h 15 (by decide)]
theorem nb_fr {M M' : sx_M0} (h : ∀ a, a ≤ 16 → M' a = M a) {s p : Nat} : ∀ {n : Nat}, nbS M' s p n ↔ nbS M s p n
  | 0 => Iff.rfl
  | n + 1 => by
    unfold nbS
    rw [nb_fr h, nr_fr h]
theorem cs_bd {M : sx_M0} (hT : tw M) {f : Int} {s : Nat} : ∀ {n : Nat}, n ≤ 5 → 0 ≤ csS M f s n ∧ csS M f s n ≤ 1000000 * (n : Int)
  | 0, _ => by simp [csS]
  | n + 1, h => by
    have h1 := cs_bd hT (f := f) (s := s) (n := n) (by omega)
    have h2 := hT.2.2.2.2.2.2.2.2.1 n (by omega)
    have e : ((n + 1 : Nat) : Int) = (n : Int) + 1 := rfl
    unfold csS coS
    rw [e]
    split
    · split <;> omega
    · omega

set_option maxRecDepth 100000 in
set_option maxHeartbeats 4000000 in
theorem lp2_Se_loadSets  (M : sx_M0) (hT : tw M) (f : Int) (hf : -1 ≤ f ∧ f ≤ 4) (p : Nat) (hp : p < 5) (c : Int) (hc : c = coS M f p) {E : sx_E} (C : sx_C SC g_tbl "SiteChoice$Search" c_Se_loadSets E) (Rr : sx_Ret SC none (rmk 3 120) (fun r G' M' => G' = GL ∧ M' = stS M f (2 ^ (M 17 1).toNat) ∧ r = none) E) (hnL : sx_nL E = 9) (hk : sx_X SC E (0, 0) GL (stS M f (2 ^ (p + 1))) 142 [(3, sx_I (((p : Nat) : Int))), (0, sx_A (17)), (1, sx_A (1)), (2, sx_I (f))] []) : ∀ (nF : Nat) (b : Nat), 2 ^ p - b < nF → b ≤ 2 ^ p → sx_X SC E (0, 0) GL (stS M f (2 ^ p + b)) 49 [(7, sx_I (((b : Nat) : Int))), (5, sx_J (c)), (4, sx_I (((2 ^ p : Nat) : Int))), (3, sx_I (((p : Nat) : Int))), (0, sx_A (17)), (1, sx_A (1)), (2, sx_I (f))] [] := by
  intro nF
  induction nF with
  | zero => intro b h; omega
  | succ nF ih =>
    intro b hn h1
    have h16 := pow_5 p hp
    have hlow : ∀ a, a ≤ 16 → (sx_up (stS M f (2 ^ p + b)) 28 (2 ^ p + b) (csS M f b 5 + c)) a = M a := fun a ha => by rw [sx_up_ne (by omega), stS_ne (by omega) (by omega)]
    refine sx_iload C 0 d_Se_loadSets_49 rfl ?_
    refine sx_iload C 2 d_Se_loadSets_51 rfl ?_
    refine sx_icmp_ge C 142 ⟨by omega, by omega⟩ ⟨by omega, by omega⟩ d_Se_loadSets_53 (by decide) (fun c53 => ?_) (fun c53 => ?_)
    · refine sx_sub [3, 4, 5, 6] rfl ?_
      rw [show 2 ^ p + b = 2 ^ (p + 1) by rw [Nat.pow_succ]; omega]
      exact hk
    · have h1b : b < 2 ^ p := by omega
      refine sx_iload C 0 d_Se_loadSets_56 rfl ?_
      refine sx_iload C 2 d_Se_loadSets_58 rfl ?_
      refine sx_ior C d_Se_loadSets_60 ?_
      rw [or_add p hp b (by omega)]
      refine sx_istore (lv' := [(8, sx_I (((2 ^ p + b : Nat) : Int))), (7, sx_I (((b : Nat) : Int))), (5, sx_J (c)), (4, sx_I (((2 ^ p : Nat) : Int))), (3, sx_I (((p : Nat) : Int))), (0, sx_A (17)), (1, sx_A (1)), (2, sx_I (f))]) C d_Se_loadSets_61 (by rw [hnL]; decide) rfl ?_
      refine sx_aload_n C 5 d_Se_loadSets_63 rfl rfl ?_
      refine sx_getr C f_Se_34 28 (by decide) rfl rfl d_Se_loadSets_64 ?_
      refine sx_iload C 0 d_Se_loadSets_67 rfl ?_
      refine sx_aload_n C 5 d_Se_loadSets_69 rfl rfl ?_
      refine sx_getr C f_Se_34 28 (by decide) rfl rfl d_Se_loadSets_70 ?_
      refine sx_iload C 1 d_Se_loadSets_73 rfl ?_
      refine sx_laload C b (by decide) rfl rfl rfl (by omega) (by decide) d_Se_loadSets_75 ?_
      rw [stS_28 (by omega)]
      refine sx_lload C 2 d_Se_loadSets_76 rfl ?_
      refine sx_ladd C d_Se_loadSets_78 ?_
      refine sx_lastore C (2 ^ p + b) (by decide) rfl rfl rfl (by omega) (by decide) d_Se_loadSets_79 ?_
      refine sx_aload_n C 5 d_Se_loadSets_80 rfl rfl ?_
      refine sx_getr C f_Se_30 27 (by decide) rfl rfl d_Se_loadSets_81 ?_
      refine sx_iload C 0 d_Se_loadSets_84 rfl ?_
      refine sx_aload_n C 5 d_Se_loadSets_86 rfl rfl ?_
      refine sx_getr C f_Se_30 27 (by decide) rfl rfl d_Se_loadSets_87 ?_
      refine sx_iload C 1 d_Se_loadSets_90 rfl ?_
      refine sx_zaload C b (by decide) rfl rfl rfl (by omega) (by decide) d_Se_loadSets_92 ?_
      rw [sx_up_ne (by decide), stS_27 (by omega)]
      have hb01 := b01_or (moS M f b 5)
      refine sx_if_eq C 134 ⟨by omega, by omega⟩ d_Se_loadSets_93 (by decide) (fun c93 => ?_) (fun c93 => ?_)
      · refine sx_iconst C d_Se_loadSets_134 ?_
        refine sx_zastore C (2 ^ p + b) (by omega) (by decide) rfl rfl rfl (by omega) (by decide) d_Se_loadSets_135 ?_
        refine sx_iinc (lv' := [(7, sx_I (((b + 1 : Nat) : Int))), (8, sx_I (((2 ^ p + b : Nat) : Int))), (5, sx_J (c)), (4, sx_I (((2 ^ p : Nat) : Int))), (3, sx_I (((p : Nat) : Int))), (0, sx_A (17)), (1, sx_A (1)), (2, sx_I (f))]) C 1 d_Se_loadSets_136 rfl (by rw [hnL]; decide) rfl ?_
        refine sx_goto C 49 d_Se_loadSets_139 (by decide) ?_
        refine sx_sub [0, 2, 3, 4, 5, 6, 7] rfl ?_
        rw [st_up (M := M) (f := f) (by rw [cs_step hp h1b, hc]) ((b01_f (fun z => by obtain ⟨z1, z2, z3, z4⟩ := (mo_step hp h1b).mp z; rw [← hc] at z3; first | (have z5 := b01_t z1; omega) | omega | (rcases hb124 with ⟨y1, y2⟩ | ⟨y1, y2⟩; exact y2 z4; omega))).symm)]
        exact ih (b + 1) (by omega) (by omega)
      · refine sx_aload_n C 6 d_Se_loadSets_96 rfl rfl ?_
        refine sx_getr C f_Se_93 16 (by decide) rfl rfl d_Se_loadSets_97 ?_
        refine sx_iload_n C 4 d_Se_loadSets_100 rfl rfl ?_
        refine sx_zaload C p (by decide) rfl rfl rfl (by omega) (by decide) d_Se_loadSets_101 ?_
        rw [sx_up_ne (by decide), stS_ne (by decide) (by decide)]
        have hbar := hT.2.2.2.2.2.2.2.2.2.2.2 p hp
        refine sx_if_ne C 134 ⟨by omega, by omega⟩ d_Se_loadSets_102 (by decide) (fun c102 => ?_) (fun c102 => ?_)
        · refine sx_iconst C d_Se_loadSets_134 ?_
          refine sx_zastore C (2 ^ p + b) (by omega) (by decide) rfl rfl rfl (by omega) (by decide) d_Se_loadSets_135 ?_
          refine sx_iinc (lv' := [(7, sx_I (((b + 1 : Nat) : Int))), (8, sx_I (((2 ^ p + b : Nat) : Int))), (5, sx_J (c)), (4, sx_I (((2 ^ p : Nat) : Int))), (3, sx_I (((p : Nat) : Int))), (0, sx_A (17)), (1, sx_A (1)), (2, sx_I (f))]) C 1 d_Se_loadSets_136 rfl (by rw [hnL]; decide) rfl ?_
          refine sx_goto C 49 d_Se_loadSets_139 (by decide) ?_
          refine sx_sub [0, 2, 3, 4, 5, 6, 7] rfl ?_
          rw [st_up (M := M) (f := f) (by rw [cs_step hp h1b, hc]) ((b01_f (fun z => by obtain ⟨z1, z2, z3, z4⟩ := (mo_step hp h1b).mp z; rw [← hc] at z3; first | (have z5 := b01_t z1; omega) | omega | (rcases hb124 with ⟨y1, y2⟩ | ⟨y1, y2⟩; exact y2 z4; omega))).symm)]
          exact ih (b + 1) (by omega) (by omega)
        · refine sx_aload_n C 5 d_Se_loadSets_105 rfl rfl ?_
          refine sx_getr C f_Se_34 28 (by decide) rfl rfl d_Se_loadSets_106 ?_
          refine sx_iload C 0 d_Se_loadSets_109 rfl ?_
          refine sx_laload C (2 ^ p + b) (by decide) rfl rfl rfl (by omega) (by decide) d_Se_loadSets_111 ?_
          have hcs := cs_bd hT (f := f) (s := b) (n := 5) (by omega)
          have hcb : 0 ≤ c ∧ c ≤ 1000000 := by rw [hc]; unfold coS; have := hT.2.2.2.2.2.2.2.2.1 p hp; split <;> omega
          have hce := hT.2.2.1
          rw [sx_up_at]
          refine sx_aload_n C 6 d_Se_loadSets_112 rfl rfl ?_
          refine sx_getl C f_Se_96 (by decide) rfl d_Se_loadSets_113 ?_
          rw [sx_up_ne (by decide), stS_ne (by decide) (by decide)]
          refine sx_lcmp_gt C 134 ⟨by omega, by omega⟩ ⟨by omega, by omega⟩ d_Se_loadSets_116 d_Se_loadSets_117 (by decide) (fun c117 => ?_) (fun c117 => ?_)
          · refine sx_iconst C d_Se_loadSets_134 ?_
            refine sx_zastore C (2 ^ p + b) (by omega) (by decide) rfl rfl rfl (by omega) (by decide) d_Se_loadSets_135 ?_
            refine sx_iinc (lv' := [(7, sx_I (((b + 1 : Nat) : Int))), (8, sx_I (((2 ^ p + b : Nat) : Int))), (5, sx_J (c)), (4, sx_I (((2 ^ p : Nat) : Int))), (3, sx_I (((p : Nat) : Int))), (0, sx_A (17)), (1, sx_A (1)), (2, sx_I (f))]) C 1 d_Se_loadSets_136 rfl (by rw [hnL]; decide) rfl ?_
            refine sx_goto C 49 d_Se_loadSets_139 (by decide) ?_
            refine sx_sub [0, 2, 3, 4, 5, 6, 7] rfl ?_
            rw [st_up (M := M) (f := f) (by rw [cs_step hp h1b, hc]) ((b01_f (fun z => by obtain ⟨z1, z2, z3, z4⟩ := (mo_step hp h1b).mp z; rw [← hc] at z3; first | (have z5 := b01_t z1; omega) | omega | (rcases hb124 with ⟨y1, y2⟩ | ⟨y1, y2⟩; exact y2 z4; omega))).symm)]
            exact ih (b + 1) (by omega) (by omega)
          · refine sx_aload_n C 6 d_Se_loadSets_120 rfl rfl ?_
            refine sx_iload C 1 d_Se_loadSets_121 rfl ?_
            refine sx_iload_n C 4 d_Se_loadSets_123 rfl rfl ?_
            refine sx_callS (n := 71) (As := [sx_A (1), sx_I (((b : Nat) : Int)), sx_I (((p : Nat) : Int))]) (st := [sx_I (((2 ^ p + b : Nat) : Int)), sx_A (27)]) C (ct_Se_isAnyTooNear _ _ _ _ (tw_fr hlow hT) b p (by omega) hp) (cv_Se_99 E C _ (by rw [Rr.2.2]; decide)) (Nat.le_of_ble_eq_true rfl) d_Se_loadSets_124 (by rw [Rr.2.2]; decide) (by decide) rfl rfl rfl (fun r124 G124 M124 hpo _ => ?_)
            obtain ⟨e1, e2, b124, rfl, hb124⟩ := hpo
            rw [e1, e2]
            rw [nb_fr hlow] at hb124
            show sx_X SC E (0, 0) GL (sx_up (stS M f (2 ^ p + b)) 28 (2 ^ p + b) ((csS M f b 5) + c)) 127 [(8, sx_I (((2 ^ p + b : Nat) : Int))), (7, sx_I (((b : Nat) : Int))), (5, sx_J (c)), (4, sx_I (((2 ^ p : Nat) : Int))), (3, sx_I (((p : Nat) : Int))), (0, sx_A (17)), (1, sx_A (1)), (2, sx_I (f))] [sx_I (b124), sx_I (((2 ^ p + b : Nat) : Int)), sx_A (27)]
            refine sx_if_ne C 134 ⟨by omega, by omega⟩ d_Se_loadSets_127 (by decide) (fun c127 => ?_) (fun c127 => ?_)
            · refine sx_iconst C d_Se_loadSets_134 ?_
              refine sx_zastore C (2 ^ p + b) (by omega) (by decide) rfl rfl rfl (by omega) (by decide) d_Se_loadSets_135 ?_
              refine sx_iinc (lv' := [(7, sx_I (((b + 1 : Nat) : Int))), (8, sx_I (((2 ^ p + b : Nat) : Int))), (5, sx_J (c)), (4, sx_I (((2 ^ p : Nat) : Int))), (3, sx_I (((p : Nat) : Int))), (0, sx_A (17)), (1, sx_A (1)), (2, sx_I (f))]) C 1 d_Se_loadSets_136 rfl (by rw [hnL]; decide) rfl ?_
              refine sx_goto C 49 d_Se_loadSets_139 (by decide) ?_
              refine sx_sub [0, 2, 3, 4, 5, 6, 7] rfl ?_
              rw [st_up (M := M) (f := f) (by rw [cs_step hp h1b, hc]) ((b01_f (fun z => by obtain ⟨z1, z2, z3, z4⟩ := (mo_step hp h1b).mp z; rw [← hc] at z3; first | (have z5 := b01_t z1; omega) | omega | (rcases hb124 with ⟨y1, y2⟩ | ⟨y1, y2⟩; exact y2 z4; omega))).symm)]
              exact ih (b + 1) (by omega) (by omega)
            · refine sx_iconst C d_Se_loadSets_130 ?_
              refine sx_goto C 135 d_Se_loadSets_131 (by decide) ?_
              refine sx_zastore C (2 ^ p + b) (by omega) (by decide) rfl rfl rfl (by omega) (by decide) d_Se_loadSets_135 ?_
              refine sx_iinc (lv' := [(7, sx_I (((b + 1 : Nat) : Int))), (8, sx_I (((2 ^ p + b : Nat) : Int))), (5, sx_J (c)), (4, sx_I (((2 ^ p : Nat) : Int))), (3, sx_I (((p : Nat) : Int))), (0, sx_A (17)), (1, sx_A (1)), (2, sx_I (f))]) C 1 d_Se_loadSets_136 rfl (by rw [hnL]; decide) rfl ?_
              refine sx_goto C 49 d_Se_loadSets_139 (by decide) ?_
              refine sx_sub [0, 2, 3, 4, 5, 6, 7] rfl ?_
              rw [st_up (M := M) (f := f) (by rw [cs_step hp h1b, hc]) ((b01_t ((mo_step hp h1b).mpr ⟨b01_1.mp (by omega), by omega, by rw [← hc]; omega, by rcases hb124 with ⟨y1, y2⟩ | ⟨y1, y2⟩; omega; exact Classical.byContradiction y2⟩)).symm)]
              exact ih (b + 1) (by omega) (by omega)
set_option maxRecDepth 100000 in
set_option maxHeartbeats 4000000 in
theorem lp_Se_loadSets  (M : sx_M0) (hT : tw M) (h17 : 0 ≤ M 17 1 ∧ M 17 1 ≤ 5) (f : Int) (hf : -1 ≤ f ∧ f ≤ 4) {E : sx_E} (C : sx_C SC g_tbl "SiteChoice$Search" c_Se_loadSets E) (Rr : sx_Ret SC none (rmk 3 120) (fun r G' M' => G' = GL ∧ M' = stS M f (2 ^ (M 17 1).toNat) ∧ r = none) E) (hnL : sx_nL E = 9) : ∀ (nF : Nat) (p : Nat), (M 17 1).toNat - p < nF → p ≤ (M 17 1).toNat → sx_X SC E (0, 0) GL (stS M f (2 ^ p)) 16 [(3, sx_I (((p : Nat) : Int))), (0, sx_A (17)), (1, sx_A (1)), (2, sx_I (f))] [] := by
  intro nF
  induction nF with
  | zero => intro p h; omega
  | succ nF ih =>
    intro p hn h1
    refine sx_iload_n C 0 d_Se_loadSets_16 rfl rfl ?_
    refine sx_aload_n C 1 d_Se_loadSets_17 rfl rfl ?_
    refine sx_geti C f_Se_15 (by decide) rfl d_Se_loadSets_18 ?_
    rw [stS_ne (by decide) (by decide)]
    refine sx_icmp_ge C 148 ⟨by omega, by omega⟩ ⟨by omega, by omega⟩ d_Se_loadSets_21 (by decide) (fun c21 => ?_) (fun c21 => ?_)
    · refine sx_return C Rr rfl d_Se_loadSets_148 ?_
      exact ⟨rfl, by rw [show p = (M 17 1).toNat by omega], rfl⟩
    · refine sx_iconst C d_Se_loadSets_24 ?_
      refine sx_iload_n C 0 d_Se_loadSets_25 rfl rfl ?_
      refine sx_ishl C d_Se_loadSets_26 ?_
      rw [shl_bit p (by omega)]
      refine sx_istore (lv' := [(4, sx_I (((2 ^ p : Nat) : Int))), (3, sx_I (((p : Nat) : Int))), (0, sx_A (17)), (1, sx_A (1)), (2, sx_I (f))]) C d_Se_loadSets_27 (by rw [hnL]; decide) rfl ?_
      refine sx_iload_n C 1 d_Se_loadSets_29 rfl rfl ?_
      refine sx_iload_n C 4 d_Se_loadSets_30 rfl rfl ?_
      refine sx_icmp_ne C 38 ⟨by omega, by omega⟩ ⟨by omega, by omega⟩ d_Se_loadSets_31 (by decide) (fun c31 => ?_) (fun c31 => ?_)
      · refine sx_aload_n C 3 d_Se_loadSets_38 rfl rfl ?_
        refine sx_getr C f_Se_90 13 (by decide) rfl rfl d_Se_loadSets_39 ?_
        refine sx_iload_n C 1 d_Se_loadSets_42 rfl rfl ?_
        refine sx_laload C p (by decide) rfl rfl rfl (by omega) (by decide) d_Se_loadSets_43 ?_
        rw [stS_ne (by decide) (by decide)]
        refine sx_lstore (lv' := [(5, sx_J (M 13 p)), (4, sx_I (((2 ^ p : Nat) : Int))), (3, sx_I (((p : Nat) : Int))), (0, sx_A (17)), (1, sx_A (1)), (2, sx_I (f))]) C d_Se_loadSets_44 (by rw [hnL]; decide) rfl ?_
        refine sx_iconst C d_Se_loadSets_46 ?_
        refine sx_istore (lv' := [(7, sx_I (0)), (5, sx_J (M 13 p)), (4, sx_I (((2 ^ p : Nat) : Int))), (3, sx_I (((p : Nat) : Int))), (0, sx_A (17)), (1, sx_A (1)), (2, sx_I (f))]) C d_Se_loadSets_47 (by rw [hnL]; decide) rfl ?_
        refine sx_sub [0, 1, 2, 3, 4, 5, 6] rfl ?_
        refine lp2_Se_loadSets M hT f hf p (by omega) _ (by unfold coS; rw [if_neg (by omega)]) C Rr hnL ?_ _ 0 (Nat.lt_succ_self _) (Nat.zero_le _)
        refine sx_iinc (lv' := [(3, sx_I (((p + 1 : Nat) : Int))), (0, sx_A (17)), (1, sx_A (1)), (2, sx_I (f))]) C 0 d_Se_loadSets_142 rfl (by rw [hnL]; decide) rfl ?_
        refine sx_goto C 16 d_Se_loadSets_145 (by decide) ?_
        refine sx_sub [0, 1, 2, 3] rfl ?_
        exact ih (p + 1) (by omega) (by omega)
      · refine sx_lconst C 0 rfl d_Se_loadSets_34 ?_
        refine sx_goto C 44 d_Se_loadSets_35 (by decide) ?_
        refine sx_lstore (lv' := [(5, sx_J (0)), (4, sx_I (((2 ^ p : Nat) : Int))), (3, sx_I (((p : Nat) : Int))), (0, sx_A (17)), (1, sx_A (1)), (2, sx_I (f))]) C d_Se_loadSets_44 (by rw [hnL]; decide) rfl ?_
        refine sx_iconst C d_Se_loadSets_46 ?_
        refine sx_istore (lv' := [(7, sx_I (0)), (5, sx_J (0)), (4, sx_I (((2 ^ p : Nat) : Int))), (3, sx_I (((p : Nat) : Int))), (0, sx_A (17)), (1, sx_A (1)), (2, sx_I (f))]) C d_Se_loadSets_47 (by rw [hnL]; decide) rfl ?_
        refine sx_sub [0, 1, 2, 3, 4, 5, 6] rfl ?_
        refine lp2_Se_loadSets M hT f hf p (by omega) _ (by unfold coS; rw [if_pos (by omega)]) C Rr hnL ?_ _ 0 (Nat.lt_succ_self _) (Nat.zero_le _)
        refine sx_iinc (lv' := [(3, sx_I (((p + 1 : Nat) : Int))), (0, sx_A (17)), (1, sx_A (1)), (2, sx_I (f))]) C 0 d_Se_loadSets_142 rfl (by rw [hnL]; decide) rfl ?_
        refine sx_goto C 16 d_Se_loadSets_145 (by decide) ?_
        refine sx_sub [0, 1, 2, 3] rfl ?_
        exact ih (p + 1) (by omega) (by omega)
set_option maxRecDepth 100000 in
set_option maxHeartbeats 4000000 in
theorem ct_Se_loadSets (l : Launch) (D : va_G) (tc : Nat → ClassId) (M : sx_M0) (hT : tw M) (h17 : 0 ≤ M 17 1 ∧ M 17 1 ≤ 5) (f : Int) (hf : -1 ≤ f ∧ f ≤ 4) : sx_Met SC l D tc y_Se_loadSets w_Se_loadSets (rmk 3 120) [sx_A (17), sx_A (1), sx_I (f)] GL M (fun r G' M' => G' = GL ∧ M' = stS M f (2 ^ (M 17 1).toNat) ∧ r = none) := by
  refine sx_enter (by decide) rfl (Nat.le_of_ble_eq_true rfl) (Ts := g_tbl) (fun _ h => List.mem_cons_of_mem _ h) (fun E C Rr hnm hnL => ?_)
  refine sx_aload_n C 0 d_Se_loadSets_0 rfl rfl ?_
  refine sx_getr C f_Se_30 27 (by decide) rfl rfl d_Se_loadSets_1 ?_
  refine sx_iconst C d_Se_loadSets_4 ?_
  refine sx_iconst C d_Se_loadSets_5 ?_
  refine sx_zastore C 0 (by omega) (by decide) rfl rfl rfl (by omega) (by decide) d_Se_loadSets_6 ?_
  refine sx_aload_n C 0 d_Se_loadSets_7 rfl rfl ?_
  refine sx_getr C f_Se_34 28 (by decide) rfl rfl d_Se_loadSets_8 ?_
  refine sx_iconst C d_Se_loadSets_11 ?_
  refine sx_lconst C 0 rfl d_Se_loadSets_12 ?_
  refine sx_lastore C 0 (by decide) rfl rfl rfl (by omega) (by decide) d_Se_loadSets_13 ?_
  refine sx_iconst C d_Se_loadSets_14 ?_
  refine sx_istore_n (lv' := [(3, sx_I (0)), (0, sx_A (17)), (1, sx_A (1)), (2, sx_I (f))]) C d_Se_loadSets_15 rfl (by rw [hnL]; decide) rfl ?_
  refine sx_sub [0, 1, 2, 3] rfl ?_
  have h0 := lp_Se_loadSets M hT h17 f hf C Rr hnL _ 0 (Nat.lt_succ_self _) (Nat.zero_le _)
  rw [st_1 (f := f)]
  exact h0
end
section
def rmS (M : sx_M0) (f : Int) (p : Nat) : Int := if (p : Int) = f then 600 else M 14 p
def ldS (M : sx_M0) (f : Int) (D p e q : Nat) : sx_M0 := fun a b => if a = 19 ∧ b < q then rmS M f b else if 21 ≤ a ∧ a < 21 + D ∧ (b < p ∨ (b = p ∧ a < 21 + e)) then rcS M (a - 21) b else M a b
theorem ld_0 (M : sx_M0) (f : Int) (D : Nat) : ldS M f D 0 0 0 = M := by
  funext a b
  unfold ldS
  rw [if_neg (by omega), if_neg (by omega)]
theorem ld_room (M : sx_M0) (f : Int) (D p : Nat) {x : Int} (hx : x = rmS M f p) : sx_up (ldS M f D p 0 p) 19 p x = ldS M f D p 0 (p + 1) := by
  subst hx
  funext a b
  unfold sx_up ldS
  by_cases h : a = 19
  · by_cases h2 : b = p
    · rw [if_pos ⟨h, h2⟩, if_pos ⟨h, by omega⟩, h2]
    · rw [if_neg (by omega)]
      by_cases h3 : b < p
      · rw [if_pos ⟨h, h3⟩, if_pos ⟨h, by omega⟩]
      · rw [if_neg (by omega), if_neg (by omega : ¬ (a = 19 ∧ b < p + 1))]
  · rw [if_neg (by omega), if_neg (by omega), if_neg (by omega : ¬ (a = 19 ∧ b < p + 1))]
theorem ld_rc (M : sx_M0) (f : Int) (D p e q : Nat) (he : e < D) {x : Int} (hx : x = rcS M e p) : sx_up (ldS M f D p e q) (20 + 1 + e) p x = ldS M f D p (e + 1) q := by
  subst hx
  funext a b
  unfold sx_up ldS
  by_cases h : a = 20 + 1 + e
  · by_cases h2 : b = p
    · rw [if_pos ⟨h, h2⟩, if_neg (by omega), if_pos (by omega), h2, show a - 21 = e by omega]
    · rw [if_neg (by omega)]
      by_cases h3 : b < p
      · rw [if_neg (by omega), if_pos (by omega), if_neg (by omega), if_pos (by omega)]
      · rw [if_neg (by omega), if_neg (by omega), if_neg (by omega), if_neg (by omega)]
  · rw [if_neg (by omega)]
    by_cases h1 : a = 19 ∧ b < q
    · rw [if_pos h1, if_pos h1]
    · rw [if_neg h1, if_neg h1]
      by_cases h3 : 21 ≤ a ∧ a < 21 + D ∧ (b < p ∨ (b = p ∧ a < 21 + e))
      · rw [if_pos h3, if_pos (by omega)]
      · rw [if_neg h3, if_neg (by omega)]
theorem ld_end (M : sx_M0) (f : Int) (D p q : Nat) : ldS M f D p D q = ldS M f D (p + 1) 0 q := by
  funext a b
  unfold ldS
  by_cases h1 : a = 19 ∧ b < q
  · rw [if_pos h1, if_pos h1]
  · rw [if_neg h1, if_neg h1]
    by_cases h3 : 21 ≤ a ∧ a < 21 + D ∧ (b < p ∨ (b = p ∧ a < 21 + D))
    · rw [if_pos h3, if_pos (by omega)]
    · rw [if_neg h3, if_neg (by omega)]
theorem ld_ne {M : sx_M0} {f : Int} {D p e q a : Nat} (hD : D ≤ 6) (h1 : a ≠ 19) (h2 : a < 21 ∨ 27 ≤ a) : ldS M f D p e q a = M a := by
  funext b
  unfold ldS
  rw [if_neg (by omega), if_neg (by omega)]
theorem rc_fr {M M' : sx_M0} (h : ∀ a, a ≤ 16 → M' a = M a) {d p : Nat} (hd : d < 6) : rcS M' d p = rcS M d p := by
  unfold rcS
  rw [h 1 (by decide), h 16 (by decide), h 3 (by decide), h (4 + 1 + d) (by omega)]
theorem cs_fr {M M' : sx_M0} (h : M' 13 = M 13) {f : Int} {s : Nat} : ∀ {n : Nat}, csS M' f s n = csS M f s n
  | 0 => rfl
  | n + 1 => by
    unfold csS coS
    rw [cs_fr h, h]
theorem mo_fr {M M' : sx_M0} (h : ∀ a, a ≤ 16 → M' a = M a) {f : Int} {s : Nat} : ∀ {n : Nat}, moS M' f s n ↔ moS M f s n
  | 0 => Iff.rfl
  | n + 1 => by
    unfold moS
    rw [mo_fr h, h 16 (by decide), h 1 (by decide), cs_fr (h 13 (by decide)), nb_fr h]
abbrev la (M : sx_M0) : sx_M0 := sx_up (sx_up M 17 0 (M 1 0)) 17 1 (M 1 1)
theorem la_ne {M : sx_M0} {a : Nat} (h : a ≠ 17) : la M a = M a := (sx_up_ne h).trans (sx_up_ne h)
theorem la_17 {M : sx_M0} {b : Nat} (h : b ≠ 0) (h1 : b ≠ 1) : la M 17 b = M 17 b := (sx_up_slot h1).trans (sx_up_slot h)
theorem la_0 {M : sx_M0} : la M 17 0 = M 1 0 := (sx_up_slot (by decide)).trans sx_up_at
theorem la_1 {M : sx_M0} : la M 17 1 = M 1 1 := sx_up_at
def lb (M : sx_M0) : sx_M0 := tfS (la M) 18 (la M 17 0).toNat (nyS (la M) 0)
theorem lb_ne {M : sx_M0} {a : Nat} (h : a ≠ 17) (h2 : a ≠ 18) : lb M a = M a := (tfS_ne h2).trans (la_ne h)
theorem lb_17 {M : sx_M0} : lb M 17 = la M 17 := tfS_ne (by decide)
def lc (M : sx_M0) (f : Int) : sx_M0 := ldS (lb M) f (M 1 0).toNat (M 1 1).toNat 0 (M 1 1).toNat
/-- the world behind load -/
noncomputable def ldM (M : sx_M0) (f : Int) : sx_M0 := stS (lc M f) f (2 ^ (M 1 1).toNat)
theorem lc_ne {M : sx_M0} (hT : tw M) {f : Int} {a : Nat} (h1 : a ≠ 17) (h2 : a ≠ 18) (h3 : a ≠ 19) (h4 : a < 21 ∨ 27 ≤ a) : lc M f a = M a := by
  have := hT.1
  unfold lc
  rw [ld_ne (by omega) h3 h4, lb_ne h1 h2]
theorem lc_17 {M : sx_M0} (hT : tw M) {f : Int} : lc M f 17 = la M 17 := by
  have := hT.1
  unfold lc
  rw [ld_ne (by omega) (by decide) (by decide), lb_17]
theorem ldM_ne {M : sx_M0} (hT : tw M) {f : Int} {a : Nat} (h : a < 17 ∨ 29 ≤ a ∨ a = 20) : ldM M f a = M a := by
  unfold ldM
  rw [stS_ne (by omega) (by omega), lc_ne hT (by omega) (by omega) (by omega) (by omega)]
theorem ldM_17 {M : sx_M0} (hT : tw M) {f : Int} : ldM M f 17 = la M 17 := by
  unfold ldM
  rw [stS_ne (by decide) (by decide), lc_17 hT]
theorem ldM_18 {M : sx_M0} (hT : tw M) {f : Int} {d : Nat} : ldM M f 18 d = if d < (M 1 0).toNat then M 2 d else M 18 d := by
  have := hT.1
  unfold ldM lc
  rw [stS_ne (by decide) (by decide), ld_ne (by omega) (by decide) (by decide)]
  unfold lb
  rw [la_0]
  by_cases h : d < (M 1 0).toNat
  · rw [tfS_lt h, if_pos h]
    unfold nyS
    rw [la_ne (by decide)]
    omega
  · rw [tfS_ge h, if_neg h, la_ne (by decide)]
theorem ldM_19 {M : sx_M0} {f : Int} {p : Nat} : ldM M f 19 p = if p < (M 1 1).toNat then rmS M f p else M 19 p := by
  unfold ldM
  rw [stS_ne (by decide) (by decide)]
  unfold lc ldS rmS
  by_cases h : p < (M 1 1).toNat
  · rw [if_pos ⟨rfl, h⟩, if_pos h, lb_ne (by decide) (by decide)]
  · rw [if_neg (fun q => h q.2), if_neg (by omega), if_neg h, lb_ne (by decide) (by decide)]
theorem ldM_21 {M : sx_M0} {f : Int} {d p : Nat} (hd : d < 6) : ldM M f (20 + 1 + d) p = if d < (M 1 0).toNat ∧ p < (M 1 1).toNat then rcS M d p else M (20 + 1 + d) p := by
  unfold ldM
  rw [stS_ne (by omega) (by omega)]
  unfold lc ldS
  rw [if_neg (by omega)]
  by_cases h : d < (M 1 0).toNat ∧ p < (M 1 1).toNat
  · rw [if_pos (by omega), if_pos h, show 20 + 1 + d - 21 = d by omega, rc_fr (fun a ha => lb_ne (by omega) (by omega)) hd]
  · rw [if_neg (by omega), if_neg h, lb_ne (by omega) (by omega)]
theorem ldM_27 {M : sx_M0} (hT : tw M) {f : Int} {s : Nat} : ldM M f 27 s = if s < 2 ^ (M 1 1).toNat then b01 (moS M f s 5) else M 27 s := by
  unfold ldM
  by_cases h : s < 2 ^ (M 1 1).toNat
  · rw [stS_27 h, if_pos h]
    exact b01_c (mo_fr (fun a ha => lc_ne hT (by omega) (by omega) (by omega) (by omega)))
  · rw [if_neg h]
    show (if 27 = 28 ∧ s < _ then _ else if 27 = 27 ∧ s < _ then _ else lc M f 27 s) = _
    rw [if_neg (by omega), if_neg (fun q => h q.2), lc_ne hT (by decide) (by decide) (by decide) (by decide)]
theorem ldM_28 {M : sx_M0} (hT : tw M) {f : Int} {s : Nat} (h : s < 2 ^ (M 1 1).toNat) : ldM M f 28 s = csS M f s 5 := by
  unfold ldM
  rw [stS_28 h]
  exact cs_fr (lc_ne hT (by decide) (by decide) (by decide) (by decide))
theorem rcS_bd2 {M : sx_M0} (hT : tw M) {d p : Nat} (hd : d < 6) (hp : p < 5) : -1 ≤ rcS M d p ∧ rcS M d p ≤ 10000 := rcS_bd hT hd hp
theorem ldM_sv {M : sx_M0} (hT : tw M) (hV : sv M) {f : Int} : sv (ldM M f) := by
  have g0 := hT.1
  have g1 := hT.2.1
  unfold sv
  rw [ldM_17 hT, la_0, la_1, la_17 (b := 11) (by decide) (by decide), la_17 (b := 12) (by decide) (by decide), la_17 (b := 13) (by decide) (by decide), ldM_ne (a := 29) hT (by decide)]
  refine ⟨by omega, by omega, fun d hd => ?_, fun d p hd hp => ?_, fun s hs => ?_, hV.2.2.2.2.2⟩
  · rw [ldM_18 hT]
    have q1 := hT.2.2.2.1 d hd
    have q2 := hV.2.2.1 d hd
    split <;> omega
  · rw [ldM_21 hd]
    have q1 := rcS_bd hT hd hp
    have q2 := hV.2.2.2.1 d p hd hp
    split <;> omega
  · rw [ldM_27 hT]
    split
    · exact b01_or _
    · exact hV.2.2.2.2.1 s hs

set_option maxRecDepth 100000 in
set_option maxHeartbeats 4000000 in
theorem lp2_Se_load  (M : sx_M0) (hT : tw M) (f : Int) (hf : -1 ≤ f ∧ f ≤ 4) (p : Nat) (hp : p < (M 1 1).toNat) {E : sx_E} (C : sx_C SC g_tbl "SiteChoice$Search" c_Se_load E) (Rr : sx_Ret SC none (rmk 4 160) (fun r G' M' => G' = GL ∧ M' = ldM M f ∧ r = none) E) (hnL : sx_nL E = 5) (hk : sx_X SC E (0, 0) GL (ldS (lb M) f (M 1 0).toNat (p + 1) 0 (p + 1)) 89 [(3, sx_I (((p : Nat) : Int))), (0, sx_A (17)), (1, sx_A (1)), (2, sx_I (f))] []) : ∀ (nF : Nat) (e : Nat), (M 1 0).toNat - e < nF → e ≤ (M 1 0).toNat → sx_X SC E (0, 0) GL (ldS (lb M) f (M 1 0).toNat p e (p + 1)) 58 [(4, sx_I (((e : Nat) : Int))), (3, sx_I (((p : Nat) : Int))), (0, sx_A (17)), (1, sx_A (1)), (2, sx_I (f))] [] := by
  intro nF
  induction nF with
  | zero => intro e h; omega
  | succ nF ih =>
    intro e hn h1
    have g0 := hT.1
    have g1 := hT.2.1
    have hlow : ∀ a, a ≤ 16 → (ldS (lb M) f (M 1 0).toNat p e (p + 1)) a = M a := fun a ha => by rw [ld_ne (by omega) (by omega) (by omega), lb_ne (by omega) (by omega)]
    refine sx_iload C 0 d_Se_load_58 rfl ?_
    refine sx_aload_n C 2 d_Se_load_60 rfl rfl ?_
    refine sx_geti C f_Se_9 (by decide) rfl d_Se_load_61 ?_
    rw [ld_ne (by omega) (by decide) (by decide), lb_17, la_0]
    refine sx_icmp_ge C 89 ⟨by omega, by omega⟩ ⟨by omega, by omega⟩ d_Se_load_64 (by decide) (fun c64 => ?_) (fun c64 => ?_)
    · refine sx_sub [1, 2, 3, 4] rfl ?_
      rw [show e = (M 1 0).toNat by omega, ld_end]
      exact hk
    · refine sx_aload_n C 2 d_Se_load_67 rfl rfl ?_
      refine sx_getr C f_Se_27 20 (by decide) rfl rfl d_Se_load_68 ?_
      refine sx_iload C 0 d_Se_load_71 rfl ?_
      refine sx_aaload C e (20 + 1 + e) (by decide) rfl rfl rfl (by omega) (by decide) (if_pos (by omega)) d_Se_load_73 ?_
      refine sx_iload_n C 1 d_Se_load_74 rfl rfl ?_
      refine sx_aload_n C 3 d_Se_load_75 rfl rfl ?_
      refine sx_iload C 0 d_Se_load_76 rfl ?_
      refine sx_iload_n C 1 d_Se_load_78 rfl rfl ?_
      refine sx_callV (n := 71) (As := [sx_I (((e : Nat) : Int)), sx_I (((p : Nat) : Int))]) (st := [sx_I (((p : Nat) : Int)), sx_A ((20 + 1 + e))]) C (ct_To_reach _ _ _ _ (tw_fr hlow hT) e p (by omega) (by omega)) rfl (by decide) rfl (cv_Se_74 E C _ (by rw [Rr.2.2]; decide)) (Nat.le_of_ble_eq_true rfl) d_Se_load_79 (by rw [Rr.2.2]; decide) (by decide) rfl (by simp [sx_ok]; omega) rfl (fun r79 G79 M79 hpo _ => ?_)
      obtain ⟨e1, e2, rfl⟩ := hpo
      rw [e1, e2]
      rw [rc_fr hlow (by omega)]
      show sx_X SC E (0, 0) GL (ldS (lb M) f (M 1 0).toNat p e (p + 1)) 82 [(4, sx_I (((e : Nat) : Int))), (3, sx_I (((p : Nat) : Int))), (0, sx_A (17)), (1, sx_A (1)), (2, sx_I (f))] [sx_J (rcS M e p), sx_I (((p : Nat) : Int)), sx_A ((20 + 1 + e))]
      refine sx_lastore C p (by show (20 + 1 + e) < 71; omega) (gl_20 _ (by omega)) rfl rfl (by omega) (by decide) d_Se_load_82 ?_
      refine sx_iinc (lv' := [(4, sx_I (((e + 1 : Nat) : Int))), (3, sx_I (((p : Nat) : Int))), (0, sx_A (17)), (1, sx_A (1)), (2, sx_I (f))]) C 0 d_Se_load_83 rfl (by rw [hnL]; decide) rfl ?_
      refine sx_goto C 58 d_Se_load_86 (by decide) ?_
      refine sx_sub [0, 1, 2, 3, 4] rfl ?_
      rw [ld_rc (lb M) f (M 1 0).toNat p e (p + 1) (by omega) (x := rcS M e p) (rc_fr (fun a ha => lb_ne (by omega) (by omega)) (by omega)).symm]
      exact ih (e + 1) (by omega) (by omega)
set_option maxRecDepth 100000 in
set_option maxHeartbeats 4000000 in
theorem lp_Se_load  (M : sx_M0) (hT : tw M) (f : Int) (hf : -1 ≤ f ∧ f ≤ 4) {E : sx_E} (C : sx_C SC g_tbl "SiteChoice$Search" c_Se_load E) (Rr : sx_Ret SC none (rmk 4 160) (fun r G' M' => G' = GL ∧ M' = ldM M f ∧ r = none) E) (hnL : sx_nL E = 5) : ∀ (nF : Nat) (p : Nat), (M 1 1).toNat - p < nF → p ≤ (M 1 1).toNat → sx_X SC E (0, 0) GL (ldS (lb M) f (M 1 0).toNat p 0 p) 24 [(3, sx_I (((p : Nat) : Int))), (0, sx_A (17)), (1, sx_A (1)), (2, sx_I (f))] [] := by
  intro nF
  induction nF with
  | zero => intro p h; omega
  | succ nF ih =>
    intro p hn h1
    have g0 := hT.1
    have g1 := hT.2.1
    have hlow : ∀ a, a ≤ 16 → (ldS (lb M) f (M 1 0).toNat p 0 p) a = M a := fun a ha => by rw [ld_ne (by omega) (by omega) (by omega), lb_ne (by omega) (by omega)]
    refine sx_iload_n C 0 d_Se_load_24 rfl rfl ?_
    refine sx_aload_n C 1 d_Se_load_25 rfl rfl ?_
    refine sx_geti C f_Se_15 (by decide) rfl d_Se_load_26 ?_
    rw [ld_ne (by omega) (by decide) (by decide), lb_17, la_1]
    refine sx_icmp_ge C 95 ⟨by omega, by omega⟩ ⟨by omega, by omega⟩ d_Se_load_29 (by decide) (fun c29 => ?_) (fun c29 => ?_)
    · refine sx_aload_n C 1 d_Se_load_95 rfl rfl ?_
      refine sx_aload_n C 2 d_Se_load_96 rfl rfl ?_
      refine sx_iload_n C 3 d_Se_load_97 rfl rfl ?_
      refine sx_callV (n := 71) (As := [sx_A (1), sx_I (f)]) (st := []) C (ct_Se_loadSets _ _ _ _ (tw_fr hlow hT) (by rw [ld_ne (by omega) (by decide) (by decide), lb_17, la_1]; omega) f hf) rfl (by decide) rfl (cv_Se_78 E C _ (by rw [Rr.2.2]; decide)) (Nat.le_of_ble_eq_true rfl) d_Se_load_98 (by rw [Rr.2.2]; decide) (by decide) rfl rfl rfl (fun r98 G98 M98 hpo _ => ?_)
      obtain ⟨e1, e2, rfl⟩ := hpo
      rw [e1, e2]
      show sx_X SC E (0, 0) GL (stS (ldS (lb M) f (M 1 0).toNat p 0 p) f (2 ^ ((ldS (lb M) f (M 1 0).toNat p 0 p) 17 1).toNat)) 101 [(3, sx_I (((p : Nat) : Int))), (0, sx_A (17)), (1, sx_A (1)), (2, sx_I (f))] []
      refine sx_return C Rr rfl d_Se_load_101 ?_
      refine ⟨rfl, ?_, rfl⟩
      rw [ld_ne (by omega) (by decide) (by decide), lb_17, la_1, show p = (M 1 1).toNat by omega]
      rfl
    · refine sx_aload_n C 1 d_Se_load_32 rfl rfl ?_
      refine sx_getr C f_Se_22 19 (by decide) rfl rfl d_Se_load_33 ?_
      refine sx_iload_n C 0 d_Se_load_36 rfl rfl ?_
      refine sx_iload_n C 0 d_Se_load_37 rfl rfl ?_
      refine sx_iload_n C 3 d_Se_load_38 rfl rfl ?_
      refine sx_icmp_ne C 48 ⟨by omega, by omega⟩ ⟨by omega, by omega⟩ d_Se_load_39 (by decide) (fun c39 => ?_) (fun c39 => ?_)
      · refine sx_aload_n C 2 d_Se_load_48 rfl rfl ?_
        refine sx_getr C f_Se_73 14 (by decide) rfl rfl d_Se_load_49 ?_
        refine sx_iload_n C 0 d_Se_load_52 rfl rfl ?_
        refine sx_laload C p (by decide) rfl rfl rfl (by omega) (by decide) d_Se_load_53 ?_
        rw [ld_ne (by omega) (by decide) (by decide), lb_ne (by decide) (by decide)]
        refine sx_lastore C p (by decide) rfl rfl rfl (by omega) (by decide) d_Se_load_54 ?_
        refine sx_iconst C d_Se_load_55 ?_
        refine sx_istore (lv' := [(4, sx_I (0)), (3, sx_I (((p : Nat) : Int))), (0, sx_A (17)), (1, sx_A (1)), (2, sx_I (f))]) C d_Se_load_56 (by rw [hnL]; decide) rfl ?_
        rw [ld_room (lb M) f (M 1 0).toNat p (by unfold rmS; rw [if_neg (by omega), lb_ne (by decide) (by decide)])]
        refine sx_sub [0, 1, 2, 3, 4] rfl ?_
        refine lp2_Se_load M hT f hf p (by omega) C Rr hnL ?_ _ 0 (Nat.lt_succ_self _) (Nat.zero_le _)
        refine sx_iinc (lv' := [(3, sx_I (((p + 1 : Nat) : Int))), (0, sx_A (17)), (1, sx_A (1)), (2, sx_I (f))]) C 0 d_Se_load_89 rfl (by rw [hnL]; decide) rfl ?_
        refine sx_goto C 24 d_Se_load_92 (by decide) ?_
        refine sx_sub [0, 1, 2, 3] rfl ?_
        exact ih (p + 1) (by omega) (by omega)
      · refine sx_ldc2 (v := (600)) C (600) (tb_ 311 (by decide +kernel) rfl) (by decide) d_Se_load_42 ?_
        refine sx_goto C 54 d_Se_load_45 (by decide) ?_
        refine sx_lastore C p (by decide) rfl rfl rfl (by omega) (by decide) d_Se_load_54 ?_
        refine sx_iconst C d_Se_load_55 ?_
        refine sx_istore (lv' := [(4, sx_I (0)), (3, sx_I (((p : Nat) : Int))), (0, sx_A (17)), (1, sx_A (1)), (2, sx_I (f))]) C d_Se_load_56 (by rw [hnL]; decide) rfl ?_
        rw [ld_room (lb M) f (M 1 0).toNat p (by unfold rmS; rw [if_pos (by omega)])]
        refine sx_sub [0, 1, 2, 3, 4] rfl ?_
        refine lp2_Se_load M hT f hf p (by omega) C Rr hnL ?_ _ 0 (Nat.lt_succ_self _) (Nat.zero_le _)
        refine sx_iinc (lv' := [(3, sx_I (((p + 1 : Nat) : Int))), (0, sx_A (17)), (1, sx_A (1)), (2, sx_I (f))]) C 0 d_Se_load_89 rfl (by rw [hnL]; decide) rfl ?_
        refine sx_goto C 24 d_Se_load_92 (by decide) ?_
        refine sx_sub [0, 1, 2, 3] rfl ?_
        exact ih (p + 1) (by omega) (by omega)
set_option maxRecDepth 100000 in
set_option maxHeartbeats 4000000 in
theorem ct_Se_load (l : Launch) (D : va_G) (tc : Nat → ClassId) (M : sx_M0) (hT : tw M) (f : Int) (hf : -1 ≤ f ∧ f ≤ 4) : sx_Met SC l D tc y_Se_load w_Se_load (rmk 4 160) [sx_A (17), sx_A (1), sx_I (f)] GL M (fun r G' M' => G' = GL ∧ M' = ldM M f ∧ r = none) := by
  refine sx_enter (by decide) rfl (Nat.le_of_ble_eq_true rfl) (Ts := g_tbl) (fun _ h => List.mem_cons_of_mem _ h) (fun E C Rr hnm hnL => ?_)
  have g0 := hT.1
  have g1 := hT.2.1
  refine sx_aload_n C 0 d_Se_load_0 rfl rfl ?_
  refine sx_aload_n C 1 d_Se_load_1 rfl rfl ?_
  refine sx_geti C f_Se_63 (by decide) rfl d_Se_load_2 ?_
  refine sx_puti C p_Se_9 (by decide) rfl d_Se_load_5 ?_
  refine sx_aload_n C 0 d_Se_load_8 rfl rfl ?_
  refine sx_aload_n C 1 d_Se_load_9 rfl rfl ?_
  refine sx_geti C f_Se_66 (by decide) rfl d_Se_load_10 ?_
  rw [sx_up_ne (by decide)]
  refine sx_puti C p_Se_15 (by decide) rfl d_Se_load_13 ?_
  refine sx_aload_n C 0 d_Se_load_16 rfl rfl ?_
  refine sx_aload_n C 1 d_Se_load_17 rfl rfl ?_
  refine sx_iconst C d_Se_load_18 ?_
  refine sx_callV (n := 71) (As := [sx_A (1), sx_I (0)]) (st := []) C (ct_Se_loadNeedsOfYear _ _ _ (la M) (tw_fr (fun a ha => la_ne (by omega)) hT) (by rw [la_0]; omega) 0 (by omega)) rfl (by decide) rfl (cv_Se_67 E C _ (by rw [Rr.2.2]; decide)) (Nat.le_of_ble_eq_true rfl) d_Se_load_19 (by rw [Rr.2.2]; decide) (by decide) rfl rfl rfl (fun r19 G19 M19 hpo _ => ?_)
  obtain ⟨e1, e2, rfl⟩ := hpo
  rw [e1, e2]
  show sx_X SC E (0, 0) GL (lb M) 22 [(0, sx_A (17)), (1, sx_A (1)), (2, sx_I (f))] []
  refine sx_iconst C d_Se_load_22 ?_
  refine sx_istore_n (lv' := [(3, sx_I (0)), (0, sx_A (17)), (1, sx_A (1)), (2, sx_I (f))]) C d_Se_load_23 rfl (by rw [hnL]; decide) rfl ?_
  refine sx_sub [0, 1, 2, 3] rfl ?_
  have h0 := lp_Se_load M hT f hf C Rr hnL _ 0 (Nat.lt_succ_self _) (Nat.zero_le _)
  rw [ld_0] at h0
  exact h0
end
section
/-- what holds of the plan held, of the set that can't be served, of the years held, of 'proved' -/
def hv (M : sx_M0) : Prop := (M 33 0 = 0 ∨ M 33 0 = 1) ∧ (∀ d, d < 6 → -1 ≤ M 34 d ∧ M 34 d ≤ 4) ∧ (-100000000 ≤ M 33 1 ∧ M 33 1 ≤ 100000000) ∧ (0 ≤ M 35 0 ∧ M 35 0 ≤ 6) ∧ (∀ d, d < 6 → 0 ≤ M 36 d ∧ M 36 d ≤ 5) ∧ (0 ≤ M 37 0 ∧ M 37 0 ≤ 6) ∧ (∀ d, d < 6 → 0 ≤ M 38 d ∧ M 38 d ≤ 31) ∧ (M 0 5 = 0 ∨ M 0 5 = 1)
theorem sx_upup (M : sx_M0) (k j : Nat) (x y : Int) : sx_up (sx_up M k j x) k j y = sx_up M k j y := by
  funext a b
  unfold sx_up
  by_cases h : a = k ∧ b = j
  · rw [if_pos h, if_pos h]
  · rw [if_neg h, if_neg h, if_neg h]
set_option maxRecDepth 100000 in
set_option maxHeartbeats 4000000 in
theorem ct_He_drop (l : Launch) (D : va_G) (tc : Nat → ClassId) (M : sx_M0) : sx_Met SC l D tc y_He_drop w_He_drop (rmk 0 0) [sx_A (33)] GL M (fun r G' M' => G' = GL ∧ M' = sx_up M 33 0 0 ∧ r = none) := by
  refine sx_enter (by decide) rfl (Nat.le_of_ble_eq_true rfl) (Ts := g_tbl) (fun _ h => List.mem_cons_of_mem _ h) (fun E C Rr hnm hnL => ?_)
  refine sx_aload_n C 0 d_He_drop_0 rfl rfl ?_
  refine sx_iconst C d_He_drop_1 ?_
  refine sx_putz C p_He_9 (by omega) (by decide) rfl d_He_drop_2 ?_
  refine sx_return C Rr rfl d_He_drop_5 ?_
  exact ⟨rfl, rfl, rfl⟩
set_option maxRecDepth 100000 in
set_option maxHeartbeats 4000000 in
theorem ct_Un_forget (l : Launch) (D : va_G) (tc : Nat → ClassId) (M : sx_M0) : sx_Met SC l D tc y_Un_forget w_Un_forget (rmk 0 0) [sx_A (35)] GL M (fun r G' M' => G' = GL ∧ M' = sx_up M 35 0 0 ∧ r = none) := by
  refine sx_enter (by decide) rfl (Nat.le_of_ble_eq_true rfl) (Ts := g_tbl) (fun _ h => List.mem_cons_of_mem _ h) (fun E C Rr hnm hnL => ?_)
  refine sx_aload_n C 0 d_Un_forget_0 rfl rfl ?_
  refine sx_iconst C d_Un_forget_1 ?_
  refine sx_puti C p_Un_9 (by decide) rfl d_Un_forget_2 ?_
  refine sx_return C Rr rfl d_Un_forget_5 ?_
  exact ⟨rfl, rfl, rfl⟩
set_option maxRecDepth 100000 in
set_option maxHeartbeats 4000000 in
theorem ct_He_keep (l : Launch) (D : va_G) (tc : Nat → ClassId) (M : sx_M0) (x : Int) : sx_Met SC l D tc y_He_keep w_He_keep (rmk 1 40) [sx_A (33), sx_A (32), sx_J (x)] GL M (fun r G' M' => G' = GL ∧ M' = sx_cpy (sx_up (sx_up M 33 0 1) 33 1 x) 32 34 0 0 6 ∧ r = none) := by
  refine sx_enter (by decide) rfl (Nat.le_of_ble_eq_true rfl) (Ts := g_tbl) (fun _ h => List.mem_cons_of_mem _ h) (fun E C Rr hnm hnL => ?_)
  refine sx_aload_n C 0 d_He_keep_0 rfl rfl ?_
  refine sx_iconst C d_He_keep_1 ?_
  refine sx_putz C p_He_9 (by omega) (by decide) rfl d_He_keep_2 ?_
  refine sx_aload_n C 0 d_He_keep_5 rfl rfl ?_
  refine sx_lload_n C 2 d_He_keep_6 rfl rfl ?_
  refine sx_putl C p_He_15 (by decide) rfl d_He_keep_7 ?_
  refine sx_aload_n C 1 d_He_keep_10 rfl rfl ?_
  refine sx_iconst C d_He_keep_11 ?_
  refine sx_aload_n C 0 d_He_keep_12 rfl rfl ?_
  refine sx_getr C f_He_19 34 (by decide) rfl rfl d_He_keep_13 ?_
  refine sx_iconst C d_He_keep_16 ?_
  refine sx_bipush C d_He_keep_17 (by decide) ?_
  refine sx_copyI (sp := 0) (dp := 0) (n := 6) C (by decide) rfl (by decide) rfl rfl rfl rfl rfl (by decide) (by decide) (by decide) (by decide) (tb_ 405 (by decide +kernel) rfl) (tb_ 345 (by decide +kernel) rfl) (tb_ 344 (by decide +kernel) rfl) (tb_ 10 (by decide +kernel) rfl) (by rw [Rr.2.2]; decide) (by rw [Rr.2.2]; decide) d_He_keep_19 ?_
  refine sx_return C Rr rfl d_He_keep_22 ?_
  exact ⟨rfl, rfl, rfl⟩
def pfS (M : sx_M0) (x : Int) : Int := if M 33 0 = 1 ∧ 0 ≤ x ∧ x < 6 then M 34 x.toNat else -1
set_option maxRecDepth 100000 in
set_option maxHeartbeats 4000000 in
theorem ct_He_placeFor (l : Launch) (D : va_G) (tc : Nat → ClassId) (M : sx_M0) (hH : hv M) (x : Int) (hx : sx_r32 x) : sx_Met SC l D tc y_He_placeFor w_He_placeFor (rmk 0 0) [sx_A (33), sx_I (x)] GL M (fun r G' M' => G' = GL ∧ M' = M ∧ r = some (sx_I (pfS M x))) := by
  refine sx_enter (by decide) rfl (Nat.le_of_ble_eq_true rfl) (Ts := g_tbl) (fun _ h => List.mem_cons_of_mem _ h) (fun E C Rr hnm hnL => ?_)
  have h0 := hH.1
  refine sx_aload_n C 0 d_He_placeFor_0 rfl rfl ?_
  refine sx_getz C f_He_9 (by decide) rfl d_He_placeFor_1 ?_
  refine sx_if_eq C 26 ⟨by omega, by omega⟩ d_He_placeFor_4 (by decide) (fun c4 => ?_) (fun c4 => ?_)
  · refine sx_iconst C d_He_placeFor_26 ?_
    refine sx_ireturn C Rr rfl d_He_placeFor_27 ?_
    exact ⟨rfl, rfl, by unfold pfS; rw [if_neg (by omega)]⟩
  · refine sx_iload_n C 1 d_He_placeFor_7 rfl rfl ?_
    refine sx_if_lt C 26 ⟨by omega, by omega⟩ d_He_placeFor_8 (by decide) (fun c8 => ?_) (fun c8 => ?_)
    · refine sx_iconst C d_He_placeFor_26 ?_
      refine sx_ireturn C Rr rfl d_He_placeFor_27 ?_
      exact ⟨rfl, rfl, by unfold pfS; rw [if_neg (by omega)]⟩
    · refine sx_iload_n C 1 d_He_placeFor_11 rfl rfl ?_
      refine sx_bipush C d_He_placeFor_12 (by decide) ?_
      refine sx_icmp_ge C 26 ⟨by omega, by omega⟩ ⟨by omega, by omega⟩ d_He_placeFor_14 (by decide) (fun c14 => ?_) (fun c14 => ?_)
      · refine sx_iconst C d_He_placeFor_26 ?_
        refine sx_ireturn C Rr rfl d_He_placeFor_27 ?_
        exact ⟨rfl, rfl, by unfold pfS; rw [if_neg (by omega)]⟩
      · refine sx_aload_n C 0 d_He_placeFor_17 rfl rfl ?_
        refine sx_getr C f_He_19 34 (by decide) rfl rfl d_He_placeFor_18 ?_
        refine sx_iload_n C 1 d_He_placeFor_21 rfl rfl ?_
        refine sx_iaload C x.toNat (by decide) rfl rfl (by omega) (by omega) (by decide) d_He_placeFor_22 ?_
        refine sx_goto C 27 d_He_placeFor_23 (by decide) ?_
        refine sx_ireturn C Rr rfl d_He_placeFor_27 ?_
        exact ⟨rfl, rfl, by unfold pfS; rw [if_pos (by omega)]⟩
theorem pfS_bd {M : sx_M0} (hH : hv M) (x : Int) : -1 ≤ pfS M x ∧ pfS M x ≤ 4 := by
  unfold pfS
  split
  next h => exact hH.2.1 x.toNat (by omega)
  next => omega
set_option maxRecDepth 100000 in
set_option maxHeartbeats 4000000 in
theorem lp_He_gives  (M : sx_M0) (hH : hv M) (x : Int) (hx : sx_r32 x) {E : sx_E} (C : sx_C SC g_tbl "SiteChoice$HeldPlan" c_He_gives E) (Rr : sx_Ret SC (some .boolean) (rmk 1 40) (fun r G' M' => G' = GL ∧ M' = M ∧ bz (∃ d : Nat, d < 6 ∧ pfS M (d : Int) = x) r) E) (hnL : sx_nL E = 3) : ∀ (nF : Nat) (d : Nat), 6 - d < nF → (∀ e : Nat, e < d → ¬ pfS M (e : Int) = x) → d ≤ 6 → sx_X SC E (0, 0) GL M 2 [(2, sx_I (((d : Nat) : Int))), (0, sx_A (33)), (1, sx_I (x))] [] := by
  intro nF
  induction nF with
  | zero => intro d h; omega
  | succ nF ih =>
    intro d hn h1 h2
    refine sx_iload_n C 0 d_He_gives_2 rfl rfl ?_
    refine sx_bipush C d_He_gives_3 (by decide) ?_
    refine sx_icmp_ge C 25 ⟨by omega, by omega⟩ ⟨by omega, by omega⟩ d_He_gives_5 (by decide) (fun c5 => ?_) (fun c5 => ?_)
    · refine sx_iconst C d_He_gives_25 ?_
      refine sx_zreturn C Rr (by omega) rfl d_He_gives_26 ?_
      exact ⟨rfl, rfl, 0, rfl, Or.inr ⟨rfl, by rintro ⟨e, h3, h4⟩; exact h1 e (by omega) h4⟩⟩
    · refine sx_aload_n C 1 d_He_gives_8 rfl rfl ?_
      refine sx_iload_n C 0 d_He_gives_9 rfl rfl ?_
      refine sx_callV (n := 71) (As := [sx_I (((d : Nat) : Int))]) (st := []) C (ct_He_placeFor _ _ _ M hH ((d : Nat) : Int) (by constructor <;> omega)) rfl (by decide) rfl (cv_He_29 E C _ (by rw [Rr.2.2]; decide)) (Nat.le_of_ble_eq_true rfl) d_He_gives_10 (by rw [Rr.2.2]; decide) (by decide) rfl rfl rfl (fun r10 G10 M10 hpo _ => ?_)
      obtain ⟨e1, e2, rfl⟩ := hpo
      rw [e1, e2]
      show sx_X SC E (0, 0) GL M 13 [(2, sx_I (((d : Nat) : Int))), (0, sx_A (33)), (1, sx_I (x))] [sx_I (pfS M ((d : Nat) : Int))]
      have hp := pfS_bd hH ((d : Nat) : Int)
      refine sx_iload_n C 2 d_He_gives_13 rfl rfl ?_
      refine sx_icmp_ne C 19 ⟨by omega, by omega⟩ ⟨by omega, by omega⟩ d_He_gives_14 (by decide) (fun c14 => ?_) (fun c14 => ?_)
      · refine sx_iinc (lv' := [(2, sx_I (((d + 1 : Nat) : Int))), (0, sx_A (33)), (1, sx_I (x))]) C 0 d_He_gives_19 rfl (by rw [hnL]; decide) rfl ?_
        refine sx_goto C 2 d_He_gives_22 (by decide) ?_
        refine sx_sub [0, 1, 2] rfl ?_
        exact ih (d + 1) (by omega) (fun e he => by rcases Nat.lt_or_ge e d with q | q; exact h1 e q; rw [show e = d by omega]; exact c14) (by omega)
      · refine sx_iconst C d_He_gives_17 ?_
        refine sx_zreturn C Rr (by omega) rfl d_He_gives_18 ?_
        exact ⟨rfl, rfl, 1, rfl, Or.inl ⟨rfl, d, by omega, by omega⟩⟩
set_option maxRecDepth 100000 in
set_option maxHeartbeats 4000000 in
theorem ct_He_gives (l : Launch) (D : va_G) (tc : Nat → ClassId) (M : sx_M0) (hH : hv M) (x : Int) (hx : sx_r32 x) : sx_Met SC l D tc y_He_gives w_He_gives (rmk 1 40) [sx_A (33), sx_I (x)] GL M (fun r G' M' => G' = GL ∧ M' = M ∧ bz (∃ d : Nat, d < 6 ∧ pfS M (d : Int) = x) r) := by
  refine sx_enter (by decide) rfl (Nat.le_of_ble_eq_true rfl) (Ts := g_tbl) (fun _ h => List.mem_cons_of_mem _ h) (fun E C Rr hnm hnL => ?_)
  refine sx_iconst C d_He_gives_0 ?_
  refine sx_istore_n (lv' := [(2, sx_I (0)), (0, sx_A (33)), (1, sx_I (x))]) C d_He_gives_1 rfl (by rw [hnL]; decide) rfl ?_
  refine sx_sub [0, 1, 2] rfl ?_
  exact lp_He_gives M hH x hx C Rr hnL _ 0 (Nat.lt_succ_self _) (fun e he => by omega) (Nat.zero_le _)
def rt1 (M : sx_M0) (d : Nat) : Int := if 0 ≤ M 34 d ∧ M 34 d < M 1 1 then M 2 d * M (4 + 1 + d) (M 34 d).toNat else 0
def rtS (M : sx_M0) : Nat → Int
  | 0 => 0
  | d + 1 => rtS M d + rt1 M d
theorem mul_bd2 {a b : Int} (h1 : 0 ≤ a) (h2 : a ≤ 150) (h3 : -1 ≤ b) (h4 : b ≤ 10000) : -150 ≤ a * b ∧ a * b ≤ 1500000 := by
  by_cases h : 0 ≤ b
  · have := mul_bd h1 h2 h h4
    omega
  · have e : b = -1 := by omega
    rw [e]
    omega
theorem rt1_bd {M : sx_M0} (hT : tw M) {d : Nat} (hd : d < 6) : -150 ≤ rt1 M d ∧ rt1 M d ≤ 1500000 := by
  unfold rt1
  have g1 := hT.2.1
  have h1 := hT.2.2.2.1 d hd
  split
  next h =>
    have h2 := hT.2.2.2.2.2.1 d (M 34 d).toNat hd (by omega)
    exact mul_bd2 h1.1 (by omega) h2.1 h2.2
  next => omega
set_option maxRecDepth 100000 in
set_option maxHeartbeats 4000000 in
theorem lp_He_reckonTotal  (M : sx_M0) (hT : tw M) (hH : hv M) {E : sx_E} (C : sx_C SC g_tbl "SiteChoice$HeldPlan" c_He_reckonTotal E) (Rr : sx_Ret SC none (rmk 1 40) (fun r G' M' => G' = GL ∧ M' = sx_up M 33 1 (rtS M (M 1 0).toNat) ∧ r = none) E) (hnL : sx_nL E = 4) : ∀ (nF : Nat) (d : Nat) (x : Int), (M 1 0).toNat - d < nF → x = rtS M d → d ≤ (M 1 0).toNat → sx_X SC E (0, 0) GL (sx_up M 33 1 x) 7 [(2, sx_I (((d : Nat) : Int))), (0, sx_A (33)), (1, sx_A (1))] [] := by
  intro nF
  induction nF with
  | zero => intro d x h; omega
  | succ nF ih =>
    intro d x hn h1 h2
    have g0 := hT.1
    have g1 := hT.2.1
    refine sx_iload_n C 0 d_He_reckonTotal_7 rfl rfl ?_
    refine sx_aload_n C 2 d_He_reckonTotal_8 rfl rfl ?_
    refine sx_geti C f_He_33 (by decide) rfl d_He_reckonTotal_9 ?_
    rw [sx_up_ne (by decide)]
    refine sx_icmp_ge C 60 ⟨by omega, by omega⟩ ⟨by omega, by omega⟩ d_He_reckonTotal_12 (by decide) (fun c12 => ?_) (fun c12 => ?_)
    · refine sx_return C Rr rfl d_He_reckonTotal_60 ?_
      exact ⟨rfl, by rw [h1, show d = (M 1 0).toNat by omega], rfl⟩
    · refine sx_aload_n C 1 d_He_reckonTotal_15 rfl rfl ?_
      refine sx_getr C f_He_19 34 (by decide) rfl rfl d_He_reckonTotal_16 ?_
      refine sx_iload_n C 0 d_He_reckonTotal_19 rfl rfl ?_
      refine sx_iaload C d (by decide) rfl rfl rfl (by omega) (by decide) d_He_reckonTotal_20 ?_
      have h34 := hH.2.1 d (by omega)
      rw [sx_up_ne (by decide)]
      refine sx_istore_n (lv' := [(3, sx_I (M 34 d)), (2, sx_I (((d : Nat) : Int))), (0, sx_A (33)), (1, sx_A (1))]) C d_He_reckonTotal_21 rfl (by rw [hnL]; decide) rfl ?_
      refine sx_aload_n C 3 d_He_reckonTotal_22 rfl rfl ?_
      refine sx_iload_n C 0 d_He_reckonTotal_23 rfl rfl ?_
      refine sx_callV (n := 71) (As := [sx_I (M 34 d)]) (st := []) C (ct_To_hasPlace _ _ _ _ (tw_fr (fun a ha => sx_up_ne (by omega)) hT) (M 34 d) (by constructor <;> omega)) rfl (by decide) rfl (cv_He_39 E C _ (by rw [Rr.2.2]; decide)) (Nat.le_of_ble_eq_true rfl) d_He_reckonTotal_24 (by rw [Rr.2.2]; decide) (by decide) rfl rfl rfl (fun r24 G24 M24 hpo _ => ?_)
      obtain ⟨e1, e2, b24, rfl, hb24⟩ := hpo
      rw [e1, e2]
      rw [sx_up_ne (by decide)] at hb24
      show sx_X SC E (0, 0) GL (sx_up M 33 1 x) 27 [(3, sx_I (M 34 d)), (2, sx_I (((d : Nat) : Int))), (0, sx_A (33)), (1, sx_A (1))] [sx_I (b24)]
      refine sx_if_eq C 54 ⟨by omega, by omega⟩ d_He_reckonTotal_27 (by decide) (fun c27 => ?_) (fun c27 => ?_)
      · refine sx_iinc (lv' := [(2, sx_I (((d + 1 : Nat) : Int))), (3, sx_I (M 34 d)), (0, sx_A (33)), (1, sx_A (1))]) C 1 d_He_reckonTotal_54 rfl (by rw [hnL]; decide) rfl ?_
        refine sx_goto C 7 d_He_reckonTotal_57 (by decide) ?_
        refine sx_sub [0, 2, 3] rfl ?_
        exact ih (d + 1) _ (by omega) (by rw [h1]; show _ = rtS M d + rt1 M d; unfold rt1; rw [if_neg (by rcases hb24 with ⟨q1, q2⟩ | ⟨q1, q2⟩; omega; exact q2)]; omega) (by omega)
      · have hq : 0 ≤ M 34 d ∧ M 34 d < M 1 1 := by rcases hb24 with ⟨q1, q2⟩ | ⟨q1, q2⟩; exact q2; omega
        refine sx_aload_n C 2 d_He_reckonTotal_30 rfl rfl ?_
        refine sx_dup C d_He_reckonTotal_31 rfl ?_
        refine sx_getl C f_He_15 (by decide) rfl d_He_reckonTotal_32 ?_
        rw [sx_up_at]
        refine sx_aload_n C 3 d_He_reckonTotal_35 rfl rfl ?_
        refine sx_getr C f_He_43 2 (by decide) rfl rfl d_He_reckonTotal_36 ?_
        refine sx_iload_n C 1 d_He_reckonTotal_39 rfl rfl ?_
        refine sx_laload C d (by decide) rfl rfl rfl (by omega) (by decide) d_He_reckonTotal_40 ?_
        rw [sx_up_ne (by decide)]
        refine sx_aload_n C 3 d_He_reckonTotal_41 rfl rfl ?_
        refine sx_getr C f_He_47 4 (by decide) rfl rfl d_He_reckonTotal_42 ?_
        refine sx_iload_n C 1 d_He_reckonTotal_45 rfl rfl ?_
        refine sx_aaload C d (4 + 1 + d) (by decide) rfl rfl rfl (by omega) (by decide) (if_pos (by omega)) d_He_reckonTotal_46 ?_
        refine sx_iload_n C 0 d_He_reckonTotal_47 rfl rfl ?_
        refine sx_laload C (M 34 d).toNat (by show (4 + 1 + d) < 71; omega) (gl_4 _ (by omega)) rfl (by omega) (by omega) (by decide) d_He_reckonTotal_48 ?_
        rw [sx_up_ne (by omega)]
        refine sx_lmul C d_He_reckonTotal_49 ?_
        refine sx_ladd C d_He_reckonTotal_50 ?_
        refine sx_putl C p_He_15 (by decide) rfl d_He_reckonTotal_51 ?_
        refine sx_iinc (lv' := [(2, sx_I (((d + 1 : Nat) : Int))), (3, sx_I (M 34 d)), (0, sx_A (33)), (1, sx_A (1))]) C 1 d_He_reckonTotal_54 rfl (by rw [hnL]; decide) rfl ?_
        refine sx_goto C 7 d_He_reckonTotal_57 (by decide) ?_
        refine sx_sub [0, 2, 3] rfl ?_
        rw [sx_upup]
        exact ih (d + 1) _ (by omega) (by rw [h1]; show _ = rtS M d + rt1 M d; unfold rt1; rw [if_pos (by rcases hb24 with ⟨q1, q2⟩ | ⟨q1, q2⟩; exact q2; omega)]) (by omega)
set_option maxRecDepth 100000 in
set_option maxHeartbeats 4000000 in
theorem ct_He_reckonTotal (l : Launch) (D : va_G) (tc : Nat → ClassId) (M : sx_M0) (hT : tw M) (hH : hv M) : sx_Met SC l D tc y_He_reckonTotal w_He_reckonTotal (rmk 1 40) [sx_A (33), sx_A (1)] GL M (fun r G' M' => G' = GL ∧ M' = sx_up M 33 1 (rtS M (M 1 0).toNat) ∧ r = none) := by
  refine sx_enter (by decide) rfl (Nat.le_of_ble_eq_true rfl) (Ts := g_tbl) (fun _ h => List.mem_cons_of_mem _ h) (fun E C Rr hnm hnL => ?_)
  refine sx_aload_n C 0 d_He_reckonTotal_0 rfl rfl ?_
  refine sx_lconst C 0 rfl d_He_reckonTotal_1 ?_
  refine sx_putl C p_He_15 (by decide) rfl d_He_reckonTotal_2 ?_
  refine sx_iconst C d_He_reckonTotal_5 ?_
  refine sx_istore_n (lv' := [(2, sx_I (0)), (0, sx_A (33)), (1, sx_A (1))]) C d_He_reckonTotal_6 rfl (by rw [hnL]; decide) rfl ?_
  refine sx_sub [0, 1, 2] rfl ?_
  exact lp_He_reckonTotal M hT hH C Rr hnL _ 0 0 (Nat.lt_succ_self _) rfl (Nat.zero_le _)
def mbS (M : sx_M0) (k : Int) : Int := if 0 ≤ k ∧ k < M 35 0 then M 36 k.toNat else -1
set_option maxRecDepth 100000 in
set_option maxHeartbeats 4000000 in
theorem ct_Un_member (l : Launch) (D : va_G) (tc : Nat → ClassId) (M : sx_M0) (hH : hv M) (k : Int) (hx : sx_r32 k) : sx_Met SC l D tc y_Un_member w_Un_member (rmk 0 0) [sx_A (35), sx_I (k)] GL M (fun r G' M' => G' = GL ∧ M' = M ∧ r = some (sx_I (mbS M k))) := by
  refine sx_enter (by decide) rfl (Nat.le_of_ble_eq_true rfl) (Ts := g_tbl) (fun _ h => List.mem_cons_of_mem _ h) (fun E C Rr hnm hnL => ?_)
  have h0 := hH.2.2.2.1
  refine sx_iload_n C 1 d_Un_member_0 rfl rfl ?_
  refine sx_if_lt C 21 ⟨by omega, by omega⟩ d_Un_member_1 (by decide) (fun c1 => ?_) (fun c1 => ?_)
  · refine sx_iconst C d_Un_member_21 ?_
    refine sx_ireturn C Rr rfl d_Un_member_22 ?_
    exact ⟨rfl, rfl, by unfold mbS; rw [if_neg (by omega)]⟩
  · refine sx_iload_n C 1 d_Un_member_4 rfl rfl ?_
    refine sx_aload_n C 0 d_Un_member_5 rfl rfl ?_
    refine sx_geti C f_Un_9 (by decide) rfl d_Un_member_6 ?_
    refine sx_icmp_ge C 21 ⟨by omega, by omega⟩ ⟨by omega, by omega⟩ d_Un_member_9 (by decide) (fun c9 => ?_) (fun c9 => ?_)
    · refine sx_iconst C d_Un_member_21 ?_
      refine sx_ireturn C Rr rfl d_Un_member_22 ?_
      exact ⟨rfl, rfl, by unfold mbS; rw [if_neg (by omega)]⟩
    · refine sx_aload_n C 0 d_Un_member_12 rfl rfl ?_
      refine sx_getr C f_Un_15 36 (by decide) rfl rfl d_Un_member_13 ?_
      refine sx_iload_n C 1 d_Un_member_16 rfl rfl ?_
      refine sx_iaload C k.toNat (by decide) rfl rfl (by omega) (by omega) (by decide) d_Un_member_17 ?_
      refine sx_goto C 22 d_Un_member_18 (by decide) ?_
      refine sx_ireturn C Rr rfl d_Un_member_22 ?_
      exact ⟨rfl, rfl, by unfold mbS; rw [if_pos (by omega)]⟩
theorem bit_v : ∀ u, u < 32 → ∀ p, p < 5 → sx_and (sx_shr ((u : Nat) : Int) ((p : Nat) : Int)) 1 = if u.testBit p = true then 1 else 0 := by decide +kernel
def opS (M : sx_M0) (p y : Int) : Int := if 0 ≤ y ∧ y < M 37 0 ∧ 0 ≤ p ∧ p < 5 then (if (M 38 y.toNat).toNat.testBit p.toNat = true then 1 else 0) else -1
set_option maxRecDepth 100000 in
set_option maxHeartbeats 4000000 in
theorem ct_Ca_isOpenIn (l : Launch) (D : va_G) (tc : Nat → ClassId) (M : sx_M0) (hH : hv M) (p y : Int) (hx : sx_r32 p) (hy : sx_r32 y) : sx_Met SC l D tc y_Ca_isOpenIn w_Ca_isOpenIn (rmk 0 0) [sx_A (37), sx_I (p), sx_I (y)] GL M (fun r G' M' => G' = GL ∧ M' = M ∧ r = some (sx_I (opS M p y))) := by
  refine sx_enter (by decide) rfl (Nat.le_of_ble_eq_true rfl) (Ts := g_tbl) (fun _ h => List.mem_cons_of_mem _ h) (fun E C Rr hnm hnL => ?_)
  have h0 := hH.2.2.2.2.2.1
  refine sx_iload_n C 2 d_Ca_isOpenIn_0 rfl rfl ?_
  refine sx_if_lt C 21 ⟨by omega, by omega⟩ d_Ca_isOpenIn_1 (by decide) (fun c1 => ?_) (fun c1 => ?_)
  · refine sx_iconst C d_Ca_isOpenIn_21 ?_
    refine sx_ireturn C Rr rfl d_Ca_isOpenIn_22 ?_
    exact ⟨rfl, rfl, by unfold opS; rw [if_neg (by omega)]⟩
  · refine sx_iload_n C 2 d_Ca_isOpenIn_4 rfl rfl ?_
    refine sx_aload_n C 0 d_Ca_isOpenIn_5 rfl rfl ?_
    refine sx_geti C f_Ca_9 (by decide) rfl d_Ca_isOpenIn_6 ?_
    refine sx_icmp_ge C 21 ⟨by omega, by omega⟩ ⟨by omega, by omega⟩ d_Ca_isOpenIn_9 (by decide) (fun c9 => ?_) (fun c9 => ?_)
    · refine sx_iconst C d_Ca_isOpenIn_21 ?_
      refine sx_ireturn C Rr rfl d_Ca_isOpenIn_22 ?_
      exact ⟨rfl, rfl, by unfold opS; rw [if_neg (by omega)]⟩
    · refine sx_iload_n C 1 d_Ca_isOpenIn_12 rfl rfl ?_
      refine sx_if_lt C 21 ⟨by omega, by omega⟩ d_Ca_isOpenIn_13 (by decide) (fun c13 => ?_) (fun c13 => ?_)
      · refine sx_iconst C d_Ca_isOpenIn_21 ?_
        refine sx_ireturn C Rr rfl d_Ca_isOpenIn_22 ?_
        exact ⟨rfl, rfl, by unfold opS; rw [if_neg (by omega)]⟩
      · refine sx_iload_n C 1 d_Ca_isOpenIn_16 rfl rfl ?_
        refine sx_iconst C d_Ca_isOpenIn_17 ?_
        refine sx_icmp_lt C 23 ⟨by omega, by omega⟩ ⟨by omega, by omega⟩ d_Ca_isOpenIn_18 (by decide) (fun c18 => ?_) (fun c18 => ?_)
        · refine sx_aload_n C 0 d_Ca_isOpenIn_23 rfl rfl ?_
          refine sx_getr C f_Ca_15 38 (by decide) rfl rfl d_Ca_isOpenIn_24 ?_
          refine sx_iload_n C 2 d_Ca_isOpenIn_27 rfl rfl ?_
          refine sx_iaload C y.toNat (by decide) rfl rfl (by omega) (by omega) (by decide) d_Ca_isOpenIn_28 ?_
          refine sx_iload_n C 1 d_Ca_isOpenIn_29 rfl rfl ?_
          refine sx_ishr C d_Ca_isOpenIn_30 ?_
          refine sx_iconst C d_Ca_isOpenIn_31 ?_
          refine sx_iand C d_Ca_isOpenIn_32 ?_
          refine sx_ireturn C Rr rfl d_Ca_isOpenIn_33 ?_
          refine ⟨rfl, rfl, ?_⟩
          have e1 := hH.2.2.2.2.2.2.1 y.toNat (by omega)
          have e2 := bit_v (M 38 y.toNat).toNat (by omega) p.toNat (by omega)
          rw [show (((M 38 y.toNat).toNat : Nat) : Int) = M 38 y.toNat by omega, show ((p.toNat : Nat) : Int) = p by omega] at e2
          unfold opS
          rw [e2, if_pos (by omega : 0 ≤ y ∧ y < M 37 0 ∧ 0 ≤ p ∧ p < 5)]
        · refine sx_iconst C d_Ca_isOpenIn_21 ?_
          refine sx_ireturn C Rr rfl d_Ca_isOpenIn_22 ?_
          exact ⟨rfl, rfl, by unfold opS; rw [if_neg (by omega)]⟩
def adM (M : sx_M0) (x : Int) : sx_M0 := sx_up (flS (sx_up (sx_up M 2 (M 1 0).toNat x) 3 (M 1 0).toNat 10000) (4 + 1 + (M 1 0).toNat) 5 (-1)) 1 0 (M 1 0 + 1)
def apM (M : sx_M0) (x y c r : Int) : sx_M0 := sx_up (sx_up (sx_up (sx_up (sx_up M 11 (M 1 1).toNat x) 12 (M 1 1).toNat y) 13 (M 1 1).toNat c) 14 (M 1 1).toNat r) 1 1 (M 1 1 + 1)
set_option maxRecDepth 100000 in
set_option maxHeartbeats 4000000 in
theorem ct_To_addDistrict (l : Launch) (D : va_G) (tc : Nat → ClassId) (M : sx_M0) (hT : tw M) (h6 : M 1 0 < 6) (x : Int) : sx_Met SC l D tc y_To_addDistrict w_To_addDistrict (rmk 1 40) [sx_A (1), sx_J (x)] GL M (fun r G' M' => G' = GL ∧ M' = adM M x ∧ r = some (sx_I (M 1 0))) := by
  refine sx_enter (by decide) rfl (Nat.le_of_ble_eq_true rfl) (Ts := g_tbl) (fun _ h => List.mem_cons_of_mem _ h) (fun E C Rr hnm hnL => ?_)
  have g0 := hT.1
  refine sx_aload_n C 0 d_To_addDistrict_0 rfl rfl ?_
  refine sx_geti C f_To_9 (by decide) rfl d_To_addDistrict_1 ?_
  refine sx_istore_n (lv' := [(3, sx_I (M 1 0)), (0, sx_A (1)), (1, sx_J (x))]) C d_To_addDistrict_4 rfl (by rw [hnL]; decide) rfl ?_
  refine sx_iload_n C 0 d_To_addDistrict_5 rfl rfl ?_
  refine sx_bipush C d_To_addDistrict_6 (by decide) ?_
  refine sx_icmp_lt C 13 ⟨by omega, by omega⟩ ⟨by omega, by omega⟩ d_To_addDistrict_8 (by decide) (fun c8 => ?_) (fun c8 => ?_)
  · refine sx_aload_n C 1 d_To_addDistrict_13 rfl rfl ?_
    refine sx_getr C f_To_24 2 (by decide) rfl rfl d_To_addDistrict_14 ?_
    refine sx_iload_n C 0 d_To_addDistrict_17 rfl rfl ?_
    refine sx_lload_n C 2 d_To_addDistrict_18 rfl rfl ?_
    refine sx_lastore C (M 1 0).toNat (by decide) rfl rfl (by omega) (by omega) (by decide) d_To_addDistrict_19 ?_
    refine sx_aload_n C 1 d_To_addDistrict_20 rfl rfl ?_
    refine sx_getr C f_To_28 3 (by decide) rfl rfl d_To_addDistrict_21 ?_
    refine sx_iload_n C 0 d_To_addDistrict_24 rfl rfl ?_
    refine sx_ldc2 (v := (10000)) C (10000) (tb_ 225 (by decide +kernel) rfl) (by decide) d_To_addDistrict_25 ?_
    refine sx_lastore C (M 1 0).toNat (by decide) rfl rfl (by omega) (by omega) (by decide) d_To_addDistrict_28 ?_
    refine sx_aload_n C 1 d_To_addDistrict_29 rfl rfl ?_
    refine sx_getr C f_To_33 4 (by decide) rfl rfl d_To_addDistrict_30 ?_
    refine sx_iload_n C 0 d_To_addDistrict_33 rfl rfl ?_
    refine sx_aaload C (M 1 0).toNat (4 + 1 + (M 1 0).toNat) (by decide) rfl rfl (by omega) (by omega) (by decide) (if_pos (by omega)) d_To_addDistrict_34 ?_
    refine sx_ldc2 (v := (-1)) C (-1) (tb_ 226 (by decide +kernel) rfl) (by decide) d_To_addDistrict_35 ?_
    refine sx_callS (n := 71) (As := [sx_A ((4 + 1 + (M 1 0).toNat)), sx_J ((-1))]) (st := []) C (ct_Ar_fill_longs _ _ _ _ (4 + 1 + (M 1 0).toNat) 5 (-1) (by show 4 + 1 + (M 1 0).toNat < 71; omega) (gl_4 _ (by omega)) (by decide)) (cv_To_59 E C _ (by rw [Rr.2.2]; decide)) (Nat.le_of_ble_eq_true rfl) d_To_addDistrict_38 (by rw [Rr.2.2]; decide) (by decide) rfl rfl rfl (fun r38 G38 M38 hpo _ => ?_)
    obtain ⟨e1, e2, rfl⟩ := hpo
    rw [e1, e2]
    show sx_X SC E (0, 0) GL (flS (sx_up (sx_up M 2 (M 1 0).toNat x) 3 (M 1 0).toNat 10000) (4 + 1 + (M 1 0).toNat) 5 (-1)) 41 [(3, sx_I (M 1 0)), (0, sx_A (1)), (1, sx_J (x))] []
    refine sx_aload_n C 1 d_To_addDistrict_41 rfl rfl ?_
    refine sx_iload_n C 0 d_To_addDistrict_42 rfl rfl ?_
    refine sx_iconst C d_To_addDistrict_43 ?_
    refine sx_iadd C d_To_addDistrict_44 ?_
    refine sx_puti C p_To_9 (by decide) rfl d_To_addDistrict_45 ?_
    refine sx_iload_n C 0 d_To_addDistrict_48 rfl rfl ?_
    refine sx_ireturn C Rr rfl d_To_addDistrict_49 ?_
    exact ⟨rfl, rfl, rfl⟩
  · exfalso; omega
set_option maxRecDepth 100000 in
set_option maxHeartbeats 4000000 in
theorem ct_To_addPlace (l : Launch) (D : va_G) (tc : Nat → ClassId) (M : sx_M0) (hT : tw M) (h5 : M 1 1 < 5) (x y c q : Int) : sx_Met SC l D tc y_To_addPlace w_To_addPlace (rmk 0 0) [sx_A (1), sx_J (x), sx_J (y), sx_J (c), sx_J (q)] GL M (fun r G' M' => G' = GL ∧ M' = apM M x y c q ∧ r = some (sx_I (M 1 1))) := by
  refine sx_enter (by decide) rfl (Nat.le_of_ble_eq_true rfl) (Ts := g_tbl) (fun _ h => List.mem_cons_of_mem _ h) (fun E C Rr hnm hnL => ?_)
  have g1 := hT.2.1
  refine sx_aload_n C 0 d_To_addPlace_0 rfl rfl ?_
  refine sx_geti C f_To_15 (by decide) rfl d_To_addPlace_1 ?_
  refine sx_istore (lv' := [(9, sx_I (M 1 1)), (0, sx_A (1)), (1, sx_J (x)), (3, sx_J (y)), (5, sx_J (c)), (7, sx_J (q))]) C d_To_addPlace_4 (by rw [hnL]; decide) rfl ?_
  refine sx_iload C 0 d_To_addPlace_6 rfl ?_
  refine sx_iconst C d_To_addPlace_8 ?_
  refine sx_icmp_lt C 14 ⟨by omega, by omega⟩ ⟨by omega, by omega⟩ d_To_addPlace_9 (by decide) (fun c9 => ?_) (fun c9 => ?_)
  · refine sx_aload_n C 1 d_To_addPlace_14 rfl rfl ?_
    refine sx_getr C f_To_36 11 (by decide) rfl rfl d_To_addPlace_15 ?_
    refine sx_iload C 0 d_To_addPlace_18 rfl ?_
    refine sx_lload_n C 2 d_To_addPlace_20 rfl rfl ?_
    refine sx_lastore C (M 1 1).toNat (by decide) rfl rfl (by omega) (by omega) (by decide) d_To_addPlace_21 ?_
    refine sx_aload_n C 1 d_To_addPlace_22 rfl rfl ?_
    refine sx_getr C f_To_39 12 (by decide) rfl rfl d_To_addPlace_23 ?_
    refine sx_iload C 0 d_To_addPlace_26 rfl ?_
    refine sx_lload_n C 3 d_To_addPlace_28 rfl rfl ?_
    refine sx_lastore C (M 1 1).toNat (by decide) rfl rfl (by omega) (by omega) (by decide) d_To_addPlace_29 ?_
    refine sx_aload_n C 1 d_To_addPlace_30 rfl rfl ?_
    refine sx_getr C f_To_42 13 (by decide) rfl rfl d_To_addPlace_31 ?_
    refine sx_iload C 0 d_To_addPlace_34 rfl ?_
    refine sx_lload C 4 d_To_addPlace_36 rfl ?_
    refine sx_lastore C (M 1 1).toNat (by decide) rfl rfl (by omega) (by omega) (by decide) d_To_addPlace_38 ?_
    refine sx_aload_n C 1 d_To_addPlace_39 rfl rfl ?_
    refine sx_getr C f_To_45 14 (by decide) rfl rfl d_To_addPlace_40 ?_
    refine sx_iload C 0 d_To_addPlace_43 rfl ?_
    refine sx_lload C 5 d_To_addPlace_45 rfl ?_
    refine sx_lastore C (M 1 1).toNat (by decide) rfl rfl (by omega) (by omega) (by decide) d_To_addPlace_47 ?_
    refine sx_aload_n C 1 d_To_addPlace_48 rfl rfl ?_
    refine sx_iload C 0 d_To_addPlace_49 rfl ?_
    refine sx_iconst C d_To_addPlace_51 ?_
    refine sx_iadd C d_To_addPlace_52 ?_
    refine sx_puti C p_To_15 (by decide) rfl d_To_addPlace_53 ?_
    refine sx_iload C 0 d_To_addPlace_56 rfl ?_
    refine sx_ireturn C Rr rfl d_To_addPlace_58 ?_
    exact ⟨rfl, rfl, rfl⟩
  · exfalso; omega
theorem u31_sv {M : sx_M0} (hV : sv M) : sv (sx_up M 17 12 31) := by
  unfold sv at hV ⊢
  rw [sx_up_at, sx_up_slot (b := 0) (by decide), sx_up_slot (b := 1) (by decide), sx_up_slot (b := 11) (by decide), sx_up_slot (b := 13) (by decide), sx_up_ne (a := 18) (by decide), sx_up_ne (a := 27) (by decide), sx_up_ne (a := 29) (by decide)]
  refine ⟨hV.1, hV.2.1, hV.2.2.1, fun d p hd hp => ?_, hV.2.2.2.2.1, by decide, hV.2.2.2.2.2.2.1, hV.2.2.2.2.2.2.2.1, hV.2.2.2.2.2.2.2.2⟩
  rw [sx_up_ne (by omega)]
  exact hV.2.2.2.1 d p hd hp
abbrev u31 (M : sx_M0) : sx_M0 := sx_up M 17 12 31
set_option maxRecDepth 100000 in
set_option maxHeartbeats 4000000 in
theorem ct_Se_leastThinkable (l : Launch) (D : va_G) (tc : Nat → ClassId) (M : sx_M0) (hV : sv M) : sx_Met SC l D tc y_Se_leastThinkable w_Se_leastThinkable (rmk 3 120) [sx_A (17)] GL M (fun r G' M' => G' = GL ∧ ∃ x : Int, r = some (sx_J x) ∧ (∀ a, a ≠ 29 → M' a = u31 M a) ∧ sv M' ∧ ((x = lrS (u31 M) (dN M) 0 ∧ ∀ d, d < dN M → 0 < M 18 d → nuS (u31 M) d (M 17 1).toNat ≠ -1) ∨ (x = -1 ∧ ∃ d, d < dN M ∧ 0 < M 18 d ∧ nuS (u31 M) d (M 17 1).toNat = -1))) := by
  refine sx_enter (by decide) rfl (Nat.le_of_ble_eq_true rfl) (Ts := g_tbl) (fun _ h => List.mem_cons_of_mem _ h) (fun E C Rr hnm hnL => ?_)
  refine sx_aload_n C 0 d_Se_leastThinkable_0 rfl rfl ?_
  refine sx_bipush C d_Se_leastThinkable_1 (by decide) ?_
  refine sx_puti C p_Se_56 (by decide) rfl d_Se_leastThinkable_3 ?_
  refine sx_aload_n C 0 d_Se_leastThinkable_6 rfl rfl ?_
  refine sx_callV (n := 71) (As := []) (st := []) C (ct_Se_reckonLeastRest _ _ _ (u31 M) (u31_sv hV)) rfl (by decide) rfl (cv_Se_107 E C _ (by rw [Rr.2.2]; decide)) (Nat.le_of_ble_eq_true rfl) d_Se_leastThinkable_7 (by rw [Rr.2.2]; decide) (by decide) rfl rfl rfl (fun r7 G7 M7 hpo _ => ?_)
  obtain ⟨e1, b7, rfl, f7, k7, hb7⟩ := hpo
  rw [e1]
  show sx_X SC E (0, 0) GL M7 10 [(0, sx_A (17))] [sx_I (b7)]
  refine sx_if_eq C 22 ⟨by omega, by omega⟩ d_Se_leastThinkable_10 (by decide) (fun c10 => ?_) (fun c10 => ?_)
  · refine sx_ldc2 (v := (-1)) C (-1) (tb_ 95 (by decide +kernel) rfl) (by decide) d_Se_leastThinkable_22 ?_
    refine sx_lreturn C Rr rfl d_Se_leastThinkable_25 ?_
    rcases hb7 with ⟨q1, q2⟩ | ⟨q1, q2⟩
    · exact absurd q1 (by omega)
    · rw [show dN (u31 M) = dN M from congrArg Int.toNat (sx_up_slot (by decide)), show u31 M 18 = M 18 from sx_up_ne (by decide), show u31 M 17 1 = M 17 1 from sx_up_slot (by decide)] at q2
      exact ⟨rfl, _, rfl, f7, sv_29 (u31_sv hV) f7 k7, Or.inr ⟨rfl, q2⟩⟩
  · refine sx_aload_n C 0 d_Se_leastThinkable_13 rfl rfl ?_
    refine sx_getr C f_Se_37 29 (by decide) rfl rfl d_Se_leastThinkable_14 ?_
    refine sx_iconst C d_Se_leastThinkable_17 ?_
    refine sx_laload C 0 (by decide) rfl rfl rfl (by omega) (by decide) d_Se_leastThinkable_18 ?_
    refine sx_goto C 25 d_Se_leastThinkable_19 (by decide) ?_
    refine sx_lreturn C Rr rfl d_Se_leastThinkable_25 ?_
    rcases hb7 with ⟨q1, q2⟩ | ⟨q1, q2⟩
    · have q4 := q2.2.2.2.1 0 (Nat.le_refl 0) (Nat.zero_le _)
      have q3 := q2.2.2.1
      rw [show dN (u31 M) = dN M from congrArg Int.toNat (sx_up_slot (by decide)), show u31 M 18 = M 18 from sx_up_ne (by decide), show u31 M 17 1 = M 17 1 from sx_up_slot (by decide)] at q3
      rw [show dN (u31 M) = dN M from congrArg Int.toNat (sx_up_slot (by decide)), Nat.sub_zero] at q4
      exact ⟨rfl, _, rfl, f7, sv_29 (u31_sv hV) f7 k7, Or.inl ⟨q4, fun d h1 h2 => q3 d (Nat.zero_le d) h1 h2⟩⟩
    · exact absurd q1 (by omega)
end
