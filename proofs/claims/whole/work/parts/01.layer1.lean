/-! THE LAYER: a world of numbered cells. Every cell of the system has a number ('name') k < G.1; G.2.1 k says what it is ((0, ci): an object of class ci; (a + 1, n): an array of n of the a-th array type), G.2.2 k j is the name in a reference slot, M k j the number in any other slot. Values are unbounded ints. -/
abbrev sx_V : Type := Int ⊕ Int ⊕ Option Nat ⊕ Nat
abbrev sx_I (x : Int) : sx_V := .inl x
abbrev sx_J (x : Int) : sx_V := .inr (.inl x)
abbrev sx_A (k : Nat) : sx_V := .inr (.inr (.inl (some k)))
abbrev sx_N : sx_V := .inr (.inr (.inl none))
/-- a cell outside the world, by its address -/
abbrev sx_B (a : Nat) : sx_V := .inr (.inr (.inr a))
abbrev sx_G : Type := Nat × (Nat → Nat × Nat) × (Nat → Nat → Option Nat)
abbrev sx_M0 : Type := Nat → Nat → Int
abbrev sx_S : Type := List vw_C × (Nat → List Nat) × List FieldType
def sx_cv (ad : Nat → Nat) (v : sx_V) : Value := match v with
  | .inl x => .int (Int32.ofInt x)
  | .inr (.inl x) => .long (Int64.ofInt x)
  | .inr (.inr (.inl r)) => va_rf (r.map ad)
  | .inr (.inr (.inr a)) => .ref a
def sx_wide (v : sx_V) : Bool := match v with
  | .inr (.inl _) => true
  | _ => false
theorem sx_cat (ad : Nat → Nat) (v : sx_V) : ((sx_cv ad v).category == 2) = sx_wide v := by
  rcases v with x | x | r | a
  · rfl
  · rfl
  · cases r <;> rfl
  · rfl
theorem sx_cat1 (ad : Nat → Nat) (v : sx_V) (h : sx_wide v = false) : (sx_cv ad v).category = 1 := by
  rcases v with x | x | r | a
  · rfl
  · cases h
  · cases r <;> rfl
  · rfl
theorem sx_cat2 (ad : Nat → Nat) (v : sx_V) (h : sx_wide v = true) : (sx_cv ad v).category = 2 := by
  rcases v with x | x | r | a
  · cases h
  · rfl
  · cases h
  · cases h
/-- what a field of type t (0: int, 1: long, 2: boolean, 3 and more: a reference) holds -/
def sx_av (t : Nat) (x : Int) (r : Option Nat) : sx_V := match t with
  | 0 => .inl x
  | 1 => .inr (.inl x)
  | 2 => .inl x
  | _ => .inr (.inr (.inl r))
def sx_arr (t : Option FieldType) (n : Nat) (ad : Nat → Nat) (m : Nat → Int) (r : Nat → Option Nat) : vp_A := match t with
  | some .long => (n, .inr (.inl (fun j => Int64.ofInt (m j))))
  | some (.object _) => (n, .inr (.inr (.inr (.inr (fun j => (r j).map ad)))))
  | some (.array _) => (n, .inr (.inr (.inr (.inr (fun j => (r j).map ad)))))
  | _ => (n, .inl (fun j => Int32.ofInt (m j)))
def sx_fs (ft : List Nat) (ad : Nat → Nat) (m : Nat → Int) (r : Nat → Option Nat) : List Value := ft.mapIdx (fun j t => sx_cv ad (sx_av t (m j) (r j)))
def sx_cell (S : sx_S) (tc : Nat → ClassId) (ad : Nat → Nat) (sh : Nat × Nat) (m : Nat → Int) (r : Nat → Option Nat) : va_E := match sh.1 with
  | 0 => .inr (sh.2, sx_fs (S.2.1 sh.2) ad m r)
  | a + 1 => .inl (tc a, sx_arr S.2.2[a]? sh.2 ad m r)
def sx_w (S : sx_S) (tc : Nat → ClassId) (ad : Nat → Nat) (G : sx_G) (M : sx_M0) : va_W := (List.range G.1).map fun k => (ad k, sx_cell S tc ad (G.2.1 k) (M k) (G.2.2 k))
def sx_ty (S : sx_S) (tc : Nat → ClassId) : List (ClassId × FieldType) := S.2.2.mapIdx fun i t => (tc i, t)
/-- one slot changed -/
def sx_up (M : sx_M0) (k j : Nat) (x : Int) : sx_M0 := fun a b => if a = k ∧ b = j then x else M a b
def sx_upR (R : Nat → Nat → Option Nat) (k j : Nat) (x : Option Nat) : Nat → Nat → Option Nat := fun a b => if a = k ∧ b = j then x else R a b
theorem sx_up_ne {M : sx_M0} {k j : Nat} {x : Int} {a : Nat} (h : a ≠ k) : sx_up M k j x a = M a := by
  funext b
  simp [sx_up, h]
theorem sx_up_at {M : sx_M0} {k j : Nat} {x : Int} : sx_up M k j x k j = x := by simp [sx_up]
theorem sx_up_slot {M : sx_M0} {k j : Nat} {x : Int} {b : Nat} (h : b ≠ j) : sx_up M k j x k b = M k b := by simp [sx_up, h]
theorem sx_upR_ne {M : Nat → Nat → Option Nat} {k j : Nat} {x : Option Nat} {a : Nat} (h : a ≠ k) : sx_upR M k j x a = M a := by
  funext b
  simp [sx_upR, h]
theorem sx_upR_at {M : Nat → Nat → Option Nat} {k j : Nat} {x : Option Nat} : sx_upR M k j x k j = x := by simp [sx_upR]
theorem sx_upR_slot {M : Nat → Nat → Option Nat} {k j : Nat} {x : Option Nat} {b : Nat} (h : b ≠ j) : sx_upR M k j x k b = M k b := by simp [sx_upR, h]
theorem sx_w_get {S : sx_S} {tc : Nat → ClassId} {ad : Nat → Nat} {G : sx_G} {M : sx_M0} {k : Nat} (hk : k < G.1) : (sx_w S tc ad G M)[k]? = some (ad k, sx_cell S tc ad (G.2.1 k) (M k) (G.2.2 k)) := by
  simp [sx_w, hk]
theorem sx_w_in {S : sx_S} {tc : Nat → ClassId} {ad : Nat → Nat} {G : sx_G} {M : sx_M0} {k : Nat} {q : Nat × va_E} (h : (sx_w S tc ad G M)[k]? = some q) : k < G.1 ∧ q = (ad k, sx_cell S tc ad (G.2.1 k) (M k) (G.2.2 k)) := by
  have hk : k < G.1 := by
    have := (List.getElem?_eq_some_iff.mp h).1
    simpa [sx_w] using this
  rw [sx_w_get hk] at h
  exact ⟨hk, (Option.some.inj h).symm⟩
theorem sx_w_set {S : sx_S} {tc : Nat → ClassId} {ad : Nat → Nat} {G G' : sx_G} {M M' : sx_M0} {k : Nat} {e : va_E} (hk : k < G.1) (h1 : G'.1 = G.1) (h2 : G'.2.1 = G.2.1) (hR : ∀ a, a ≠ k → G'.2.2 a = G.2.2 a) (hM : ∀ a, a ≠ k → M' a = M a) (he : e = sx_cell S tc ad (G.2.1 k) (M' k) (G'.2.2 k)) : (sx_w S tc ad G M).set k (ad k, e) = sx_w S tc ad G' M' := by
  subst he
  apply List.ext_getElem?
  intro j
  by_cases hj : j = k
  · subst hj
    rw [List.getElem?_set_self (by simpa [sx_w] using hk), sx_w_get (by rw [h1]; exact hk), h2]
  · rw [List.getElem?_set_ne (Ne.symm hj)]
    by_cases hl : j < G.1
    · rw [sx_w_get hl, sx_w_get (by rw [h1]; exact hl), h2, hM j hj, hR j hj]
    · have e1 : (sx_w S tc ad G M)[j]? = none := by simp [sx_w]; omega
      have e2 : (sx_w S tc ad G' M')[j]? = none := by simp [sx_w]; omega
      rw [e1, e2]
theorem sx_fs_get {ft : List Nat} {ad : Nat → Nat} {m : Nat → Int} {r : Nat → Option Nat} {j t : Nat} (h : ft[j]? = some t) : (sx_fs ft ad m r)[j]? = some (sx_cv ad (sx_av t (m j) (r j))) := by
  simp [sx_fs, List.getElem?_mapIdx, h]
theorem sx_fs_set {ft : List Nat} {ad : Nat → Nat} {m m' : Nat → Int} {r r' : Nat → Option Nat} {j t : Nat} {v : Value} (h : ft[j]? = some t) (hm : ∀ i, i ≠ j → m' i = m i) (hr : ∀ i, i ≠ j → r' i = r i) (hv : v = sx_cv ad (sx_av t (m' j) (r' j))) : (sx_fs ft ad m r).set j v = sx_fs ft ad m' r' := by
  subst hv
  apply List.ext_getElem?
  intro i
  by_cases hi : i = j
  · subst hi
    have hl : i < (sx_fs ft ad m r).length := by
      have := (List.getElem?_eq_some_iff.mp h).1
      simpa [sx_fs] using this
    rw [List.getElem?_set_self hl, sx_fs_get h]
  · rw [List.getElem?_set_ne (Ne.symm hi)]
    simp only [sx_fs, List.getElem?_mapIdx]
    rw [hm i hi, hr i hi]
theorem sx_ty_get {S : sx_S} {tc : Nat → ClassId} {a : Nat} {t : FieldType} (h : S.2.2[a]? = some t) : (sx_ty S tc)[a]? = some (tc a, t) := by
  simp [sx_ty, List.getElem?_mapIdx, h]
/-- a method's (or the law's) own surroundings -/
abbrev sx_E : Type := (Program × Launch × Env × Room × State × MethodId × Array Value × List Frame × Method × Code) × ((Nat → Prop) × va_G × (Nat → ClassId) × (Nat → Nat) × Nat × Nat × (State → Prop))
abbrev sx_p (E : sx_E) : Program := E.1.1
abbrev sx_l (E : sx_E) : Launch := E.1.2.1
abbrev sx_e (E : sx_E) : Env := E.1.2.2.1
abbrev sx_R (E : sx_E) : Room := E.1.2.2.2.1
abbrev sx_s (E : sx_E) : State := E.1.2.2.2.2.1
abbrev sx_m (E : sx_E) : MethodId := E.1.2.2.2.2.2.1
abbrev sx_a (E : sx_E) : Array Value := E.1.2.2.2.2.2.2.1
abbrev sx_b (E : sx_E) : List Frame := E.1.2.2.2.2.2.2.2.1
abbrev sx_me (E : sx_E) : Method := E.1.2.2.2.2.2.2.2.2.1
abbrev sx_c (E : sx_E) : Code := E.1.2.2.2.2.2.2.2.2.2
abbrev sx_AA (E : sx_E) : Nat → Prop := E.2.1
abbrev sx_D (E : sx_E) : va_G := E.2.2.1
abbrev sx_tc (E : sx_E) : Nat → ClassId := E.2.2.2.1
abbrev sx_ad (E : sx_E) : Nat → Nat := E.2.2.2.2.1
abbrev sx_sz (E : sx_E) : Nat := E.2.2.2.2.2.1
abbrev sx_nL (E : sx_E) : Nat := E.2.2.2.2.2.2.1
abbrev sx_Q (E : sx_E) : State → Prop := E.2.2.2.2.2.2.2
abbrev sx_W (E : sx_E) (H : Heap) (locs : List Loc) (cells slots : Nat) (g : JFrame) : Prop := W (sx_p E) (sx_l E) (sx_e E) (sx_R E) (sx_s E) (sx_m E) (sx_a E) (sx_b E) (sx_me E) (sx_c E) H locs cells slots (sx_Q E) g
abbrev sx_lv (ad : Nat → Nat) (lv : List (Nat × sx_V)) : List (Nat × Value) := lv.map fun q => (q.1, sx_cv ad q.2)
/-- THE JUDGEMENT: at pc, with these locals and this stack, over this world, the machine comes to an end that E's Q allows -/
def sx_X (S : sx_S) (E : sx_E) (cs : Nat × Nat) (G : sx_G) (M : sx_M0) (pc : Nat) (lv : List (Nat × sx_V)) (st : List sx_V) : Prop :=
  ∀ (H : Heap) (locs : List Loc) (ls : Array Slot) (ad : Nat → Nat), va_P (sx_D E) S.1 (sx_w S (sx_tc E) ad G M) H → va_D (sx_AA E) (sx_w S (sx_tc E) ad G M) → va_S (sx_AA E) (sx_s E).heap H locs → sx_sz E ≤ G.1 → (∀ k, k < sx_sz E → ad k = sx_ad E k) → lv_has ls (sx_nL E) (sx_lv ad lv) →
    sx_W E H locs cs.1 cs.2 (F0 (sx_m E) pc ls (st.map (sx_cv ad)))
/-- long[][] has been created -/
def sx_O (U : State) : Prop := (Cond.arrayOver (.array .long)).before #[] U = true
theorem sx_O.moved {u U : State} (hvm : u.vm.Alike U.vm) (h : sx_O u) : sx_O U := by
  have hb : ∀ comp : ClassId, (U.vm.classes.findIdx? fun (x : Class) => match x.kind with | .array component _ => component == comp | _ => false) = (u.vm.classes.findIdx? fun (x : Class) => match x.kind with | .array component _ => component == comp | _ => false) := by
    intro comp
    have e1 := va_idx_bare U.vm comp
    have e2 := va_idx_bare u.vm comp
    have e3 : U.vm.bare = u.vm.bare := by first | exact hvm.bare_eq | exact hvm.bare_eq.symm
    rw [e3] at e1
    exact e1.symm.trans e2
  unfold sx_O Cond.before Cond.holds at h ⊢
  simp only [Cond.value, hvm.findClass, beq_iff_eq, Option.bind_eq_some_iff, Option.map_eq_some_iff] at h ⊢
  obtain ⟨comp, h1, c, h2, k, h3, h4⟩ := h
  obtain ⟨k', hk', he⟩ := hvm.2.2 _ _ h3
  exact ⟨comp, h1, c, (hb comp).trans h2, k', hk', by rw [he]; exact h4⟩
/-- what the surroundings give -/
def sx_C (S : sx_S) (Ts : List Cond) (own : String) (cc : ByteArray) (E : sx_E) : Prop :=
  (sx_p E).tables.exec = Jvm.exec ∧ (sx_c E).code = cc ∧ (sx_c E).maxLocals = sx_nL E ∧ (sx_s E).vm.findClass own = some (sx_m E).cls ∧ (∀ w ∈ Ts, w.before (sx_a E) (sx_s E) = true) ∧ ((sx_me E).locks = false ∧ sx_O (sx_s E)) ∧ va_K (sx_D E) S.1 (sx_ty S (sx_tc E)) (sx_s E) ∧ (∀ q, (sx_s E).heap.size ≤ q → sx_AA E q)
section SXR
variable {S : sx_S} {E : sx_E} {cs : Nat × Nat} {G : sx_G} {M : sx_M0} {pc : Nat} {lv : List (Nat × sx_V)} {st : List sx_V} {Ts : List Cond} {own : String} {cc : ByteArray}
-- constants
theorem sx_iconst (C : sx_C S Ts own cc E) {n : Int} (hd : decode cc pc = .ok (.iconst n, 1)) (k : sx_X S E cs G M (pc + 1) lv (sx_I n :: st)) : sx_X S E cs G M pc lv st :=
  fun H locs ls ad hP hD hS hz ha hl => lv_iconst C.1 C.2.1 hd rfl (k H locs ls ad hP hD hS hz ha hl)
theorem sx_bipush (C : sx_C S Ts own cc E) {n : Int} (hd : decode cc pc = .ok (.bipush n, 2)) (hv : (Int8.ofInt n).toInt32 = Int32.ofInt n) (k : sx_X S E cs G M (pc + 2) lv (sx_I n :: st)) : sx_X S E cs G M pc lv st :=
  fun H locs ls ad hP hD hS hz ha hl => lv_bipush C.1 C.2.1 hd hv (k H locs ls ad hP hD hS hz ha hl)
theorem sx_sipush (C : sx_C S Ts own cc E) {n : Int} (hd : decode cc pc = .ok (.sipush n, 3)) (hv : (Int16.ofInt n).toInt32 = Int32.ofInt n) (k : sx_X S E cs G M (pc + 3) lv (sx_I n :: st)) : sx_X S E cs G M pc lv st :=
  fun H locs ls ad hP hD hS hz ha hl => lv_sipush C.1 C.2.1 hd hv (k H locs ls ad hP hD hS hz ha hl)
theorem sx_lconst (C : sx_C S Ts own cc E) {n : Fin 2} (x : Int) (hv : x = (n.val : Int)) (hd : decode cc pc = .ok (.lconst n, 1)) (k : sx_X S E cs G M (pc + 1) lv (sx_J x :: st)) : sx_X S E cs G M pc lv st := by
  subst hv
  exact fun H locs ls ad hP hD hS hz ha hl => lv_lconst C.1 C.2.1 hd (Int64.ofInt_eq_ofNat).symm (k H locs ls ad hP hD hS hz ha hl)
theorem sx_ldc (C : sx_C S Ts own cc E) {idx : Nat} {v : Int32} (x : Int) (hw : Cond.constant own idx v ∈ Ts) (hv : Int32.ofInt x = v) (hd : decode cc pc = .ok (.ldc idx, 2)) (k : sx_X S E cs G M (pc + 2) lv (sx_I x :: st)) : sx_X S E cs G M pc lv st := by
  subst hv
  exact fun H locs ls ad hP hD hS hz ha hl => lv_ldc C.1 C.2.1 C.2.2.2.1 (C.2.2.2.2.1 _ hw) hd (k H locs ls ad hP hD hS hz ha hl)
theorem sx_ldc2 (C : sx_C S Ts own cc E) {idx : Nat} {v : Int64} (x : Int) (hw : Cond.constantLong own idx v ∈ Ts) (hv : Int64.ofInt x = v) (hd : decode cc pc = .ok (.ldc2_w idx, 3)) (k : sx_X S E cs G M (pc + 3) lv (sx_J x :: st)) : sx_X S E cs G M pc lv st := by
  subst hv
  exact fun H locs ls ad hP hD hS hz ha hl => lv_ldc2 C.1 C.2.1 C.2.2.2.1 (C.2.2.2.2.1 _ hw) hd (k H locs ls ad hP hD hS hz ha hl)
theorem sx_null (C : sx_C S Ts own cc E) (hd : decode cc pc = .ok (.aconst_null, 1)) (k : sx_X S E cs G M (pc + 1) lv (sx_N :: st)) : sx_X S E cs G M pc lv st :=
  fun H locs ls ad hP hD hS hz ha hl => lv_null C.1 C.2.1 hd (k H locs ls ad hP hD hS hz ha hl)
-- locals
theorem sx_lv_at {ad : Nat → Nat} {ls : Array Slot} {nL : Nat} (h : lv_has ls nL (sx_lv ad lv)) (j : Nat) {i : Nat} {v : sx_V} (hj : lv[j]? = some (i, v)) : ls[i]? = some (.val (sx_cv ad v)) := by
  refine lv_at h j ?_
  simp [sx_lv, hj]
theorem sx_iload_n (C : sx_C S Ts own cc E) (j : Nat) {n : Fin 4} {i : Nat} {x : Int} (hd : decode cc pc = .ok (.iload_n n, 1)) (hi : (n : Nat) = i) (hj : lv[j]? = some (i, sx_I x)) (k : sx_X S E cs G M (pc + 1) lv (sx_I x :: st)) : sx_X S E cs G M pc lv st :=
  fun H locs ls ad hP hD hS hz ha hl => lv_iload_n C.1 C.2.1 hd hi (sx_lv_at hl j hj) (k H locs ls ad hP hD hS hz ha hl)
theorem sx_iload (C : sx_C S Ts own cc E) (j : Nat) {i : Nat} {x : Int} (hd : decode cc pc = .ok (.iload i, 2)) (hj : lv[j]? = some (i, sx_I x)) (k : sx_X S E cs G M (pc + 2) lv (sx_I x :: st)) : sx_X S E cs G M pc lv st :=
  fun H locs ls ad hP hD hS hz ha hl => lv_iload C.1 C.2.1 hd (sx_lv_at hl j hj) (k H locs ls ad hP hD hS hz ha hl)
theorem sx_lload_n (C : sx_C S Ts own cc E) (j : Nat) {n : Fin 4} {i : Nat} {x : Int} (hd : decode cc pc = .ok (.lload_n n, 1)) (hi : (n : Nat) = i) (hj : lv[j]? = some (i, sx_J x)) (k : sx_X S E cs G M (pc + 1) lv (sx_J x :: st)) : sx_X S E cs G M pc lv st :=
  fun H locs ls ad hP hD hS hz ha hl => lv_lload_n C.1 C.2.1 hd hi (sx_lv_at hl j hj) (k H locs ls ad hP hD hS hz ha hl)
theorem sx_lload (C : sx_C S Ts own cc E) (j : Nat) {i : Nat} {x : Int} (hd : decode cc pc = .ok (.lload i, 2)) (hj : lv[j]? = some (i, sx_J x)) (k : sx_X S E cs G M (pc + 2) lv (sx_J x :: st)) : sx_X S E cs G M pc lv st :=
  fun H locs ls ad hP hD hS hz ha hl => lv_lload C.1 C.2.1 hd (sx_lv_at hl j hj) (k H locs ls ad hP hD hS hz ha hl)
theorem sx_aload_n (C : sx_C S Ts own cc E) (j : Nat) {n : Fin 4} {i x : Nat} (hd : decode cc pc = .ok (.aload_n n, 1)) (hi : (n : Nat) = i) (hj : lv[j]? = some (i, sx_A x)) (k : sx_X S E cs G M (pc + 1) lv (sx_A x :: st)) : sx_X S E cs G M pc lv st :=
  fun H locs ls ad hP hD hS hz ha hl => lv_aload_n C.1 C.2.1 hd hi (sx_lv_at hl j hj) (k H locs ls ad hP hD hS hz ha hl)
theorem sx_aload (C : sx_C S Ts own cc E) (j : Nat) {i x : Nat} (hd : decode cc pc = .ok (.aload i, 2)) (hj : lv[j]? = some (i, sx_A x)) (k : sx_X S E cs G M (pc + 2) lv (sx_A x :: st)) : sx_X S E cs G M pc lv st :=
  fun H locs ls ad hP hD hS hz ha hl => lv_aload C.1 C.2.1 hd (sx_lv_at hl j hj) (k H locs ls ad hP hD hS hz ha hl)
theorem sx_bload_n (C : sx_C S Ts own cc E) (j : Nat) {n : Fin 4} {i x : Nat} (hd : decode cc pc = .ok (.aload_n n, 1)) (hi : (n : Nat) = i) (hj : lv[j]? = some (i, sx_B x)) (k : sx_X S E cs G M (pc + 1) lv (sx_B x :: st)) : sx_X S E cs G M pc lv st :=
  fun H locs ls ad hP hD hS hz ha hl => lv_aload_n C.1 C.2.1 hd hi (sx_lv_at hl j hj) (k H locs ls ad hP hD hS hz ha hl)
def sx_st1 (i : Nat) (v : sx_V) (lv : List (Nat × sx_V)) : List (Nat × sx_V) := (i, v) :: lv.filter (fun q => !(q.1 == i) && !(q.1 + 1 == i && sx_wide q.2))
def sx_st2 (i : Nat) (v : sx_V) (lv : List (Nat × sx_V)) : List (Nat × sx_V) := (i, v) :: lv.filter (fun q => !(q.1 == i) && (!(q.1 == i + 1) && !(q.1 + 1 == i && sx_wide q.2)))
theorem sx_st1_eq (ad : Nat → Nat) (i : Nat) (v : sx_V) (lv : List (Nat × sx_V)) : (i, sx_cv ad v) :: (sx_lv ad lv).filter (fun q => !(q.1 == i) && !(q.1 + 1 == i && q.2.category == 2)) = sx_lv ad (sx_st1 i v lv) := by
  simp only [sx_lv, sx_st1, List.map_cons, List.filter_map]
  congr 3
  funext q
  simp only [Function.comp, sx_cat]
theorem sx_st2_eq (ad : Nat → Nat) (i : Nat) (v : sx_V) (lv : List (Nat × sx_V)) : (i, sx_cv ad v) :: (sx_lv ad lv).filter (fun q => !(q.1 == i) && (!(q.1 == i + 1) && !(q.1 + 1 == i && q.2.category == 2))) = sx_lv ad (sx_st2 i v lv) := by
  simp only [sx_lv, sx_st2, List.map_cons, List.filter_map]
  congr 3
  funext q
  simp only [Function.comp, sx_cat]
theorem sx_istore_n (C : sx_C S Ts own cc E) {n : Fin 4} {i : Nat} {x : Int} {lv' : List (Nat × sx_V)} (hd : decode cc pc = .ok (.istore_n n, 1)) (hi : (n : Nat) = i) (hn : i < sx_nL E) (hv : sx_st1 i (sx_I x) lv = lv') (k : sx_X S E cs G M (pc + 1) lv' st) : sx_X S E cs G M pc lv (sx_I x :: st) := by
  subst hv
  exact fun H locs ls ad hP hD hS hz ha hl => lv_istore_n C.1 C.2.1 hd hi hl hn (sx_st1_eq ad i (sx_I x) lv) (fun ls' hl' => k H locs ls' ad hP hD hS hz ha hl')
theorem sx_istore (C : sx_C S Ts own cc E) {i : Nat} {x : Int} {lv' : List (Nat × sx_V)} (hd : decode cc pc = .ok (.istore i, 2)) (hn : i < sx_nL E) (hv : sx_st1 i (sx_I x) lv = lv') (k : sx_X S E cs G M (pc + 2) lv' st) : sx_X S E cs G M pc lv (sx_I x :: st) := by
  subst hv
  exact fun H locs ls ad hP hD hS hz ha hl => lv_istore C.1 C.2.1 hd hl hn (sx_st1_eq ad i (sx_I x) lv) (fun ls' hl' => k H locs ls' ad hP hD hS hz ha hl')
theorem sx_lstore_n (C : sx_C S Ts own cc E) {n : Fin 4} {i : Nat} {x : Int} {lv' : List (Nat × sx_V)} (hd : decode cc pc = .ok (.lstore_n n, 1)) (hi : (n : Nat) = i) (hn : i + 1 < sx_nL E) (hv : sx_st2 i (sx_J x) lv = lv') (k : sx_X S E cs G M (pc + 1) lv' st) : sx_X S E cs G M pc lv (sx_J x :: st) := by
  subst hv
  exact fun H locs ls ad hP hD hS hz ha hl => lv_lstore_n C.1 C.2.1 hd hi hl hn (sx_st2_eq ad i (sx_J x) lv) (fun ls' hl' => k H locs ls' ad hP hD hS hz ha hl')
theorem sx_lstore (C : sx_C S Ts own cc E) {i : Nat} {x : Int} {lv' : List (Nat × sx_V)} (hd : decode cc pc = .ok (.lstore i, 2)) (hn : i + 1 < sx_nL E) (hv : sx_st2 i (sx_J x) lv = lv') (k : sx_X S E cs G M (pc + 2) lv' st) : sx_X S E cs G M pc lv (sx_J x :: st) := by
  subst hv
  exact fun H locs ls ad hP hD hS hz ha hl => lv_lstore C.1 C.2.1 hd hl hn (sx_st2_eq ad i (sx_J x) lv) (fun ls' hl' => k H locs ls' ad hP hD hS hz ha hl')
theorem sx_astore_n (C : sx_C S Ts own cc E) {n : Fin 4} {i x : Nat} {lv' : List (Nat × sx_V)} (hd : decode cc pc = .ok (.astore_n n, 1)) (hi : (n : Nat) = i) (hn : i < sx_nL E) (hv : sx_st1 i (sx_A x) lv = lv') (k : sx_X S E cs G M (pc + 1) lv' st) : sx_X S E cs G M pc lv (sx_A x :: st) := by
  subst hv
  exact fun H locs ls ad hP hD hS hz ha hl => lv_astore_n C.1 C.2.1 hd hi hl hn (sx_st1_eq ad i (sx_A x) lv) (fun ls' hl' => k H locs ls' ad hP hD hS hz ha hl')
theorem sx_astore (C : sx_C S Ts own cc E) {i x : Nat} {lv' : List (Nat × sx_V)} (hd : decode cc pc = .ok (.astore i, 2)) (hn : i < sx_nL E) (hv : sx_st1 i (sx_A x) lv = lv') (k : sx_X S E cs G M (pc + 2) lv' st) : sx_X S E cs G M pc lv (sx_A x :: st) := by
  subst hv
  exact fun H locs ls ad hP hD hS hz ha hl => lv_astore C.1 C.2.1 hd hl hn (sx_st1_eq ad i (sx_A x) lv) (fun ls' hl' => k H locs ls' ad hP hD hS hz ha hl')
theorem sx_iinc (C : sx_C S Ts own cc E) (j : Nat) {i : Nat} {n x : Int} {lv' : List (Nat × sx_V)} (hd : decode cc pc = .ok (.iinc i n, 3)) (hj : lv[j]? = some (i, sx_I x)) (hn : i < sx_nL E) (hv : sx_st1 i (sx_I (x + n)) lv = lv') (k : sx_X S E cs G M (pc + 3) lv' st) : sx_X S E cs G M pc lv st := by
  subst hv
  exact fun H locs ls ad hP hD hS hz ha hl => lv_iinc C.1 C.2.1 hd hl (k := j) (x := Int32.ofInt x) (by simp [sx_lv, hj, sx_cv]) (Int32.ofInt_add x n).symm hn (sx_st1_eq ad i (sx_I (x + n)) lv) (fun ls' hl' => k H locs ls' ad hP hD hS hz ha hl')
/-- fewer locals, in any order -/
theorem sx_sub (ks : List Nat) {lv' : List (Nat × sx_V)} (h : ks.filterMap (fun k => lv[k]?) = lv') (k : sx_X S E cs G M pc lv' st) : sx_X S E cs G M pc lv st := by
  subst h
  refine fun H locs ls ad hP hD hS hz ha hl => k H locs ls ad hP hD hS hz ha ⟨hl.1, hl.2.1, fun q hq => ?_⟩
  obtain ⟨q0, h0, rfl⟩ := List.mem_map.mp hq
  obtain ⟨i, -, hi⟩ := List.mem_filterMap.mp h0
  exact hl.2.2 _ (List.mem_map.mpr ⟨q0, List.mem_of_getElem? hi, rfl⟩)
end SXR
