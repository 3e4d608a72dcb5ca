section
/-! THE LAYER: a world of numbered cells. Every cell of the system has a number ('name') k < G.1; G.2.1 k says what it is ((0, ci): an object of class ci; (a + 1, n): an array of n of the a-th array type), G.2.2 k j is the name in a reference slot, M k j the number in any other slot. Values are unbounded ints. -/
abbrev sx_V : Type := Int ⊕ Int ⊕ Option Nat ⊕ Nat
abbrev sx_I (x : Int) : sx_V := .inl x
abbrev sx_J (x : Int) : sx_V := .inr (.inl x)
abbrev sx_A (k : Nat) : sx_V := .inr (.inr (.inl (some k)))
abbrev sx_N : sx_V := .inr (.inr (.inl none))
/-- a cell outside the world, by its address -/
abbrev sx_B (a : Nat) : sx_V := .inr (.inr (.inr a))
abbrev sx_G : Type := Nat × (Nat → Nat × Nat) × (Nat → Nat → Option Nat)
abbrev sx_M0 : Type := Nat → Nat → Int
abbrev sx_S : Type := List vw_C × (Nat → List Nat) × List FieldType
def sx_cv (ad : Nat → Nat) (v : sx_V) : Value := match v with
  | .inl x => .int (Int32.ofInt x)
  | .inr (.inl x) => .long (Int64.ofInt x)
  | .inr (.inr (.inl r)) => va_rf (r.map ad)
  | .inr (.inr (.inr a)) => .ref a
def sx_wide (v : sx_V) : Bool := match v with
  | .inr (.inl _) => true
  | _ => false
theorem sx_cat (ad : Nat → Nat) (v : sx_V) : ((sx_cv ad v).category == 2) = sx_wide v := by
  rcases v with x | x | r | a
  · rfl
  · rfl
  · cases r <;> rfl
  · rfl
theorem sx_cat1 (ad : Nat → Nat) (v : sx_V) (h : sx_wide v = false) : (sx_cv ad v).category = 1 := by
  rcases v with x | x | r | a
  · rfl
  · cases h
  · cases r <;> rfl
  · rfl
theorem sx_cat2 (ad : Nat → Nat) (v : sx_V) (h : sx_wide v = true) : (sx_cv ad v).category = 2 := by
  rcases v with x | x | r | a
  · cases h
  · rfl
  · cases h
  · cases h
/-- what a field of type t (0: int, 1: long, 2: boolean, 3 and more: a reference) holds -/
def sx_av (t : Nat) (x : Int) (r : Option Nat) : sx_V := match t with
  | 0 => .inl x
  | 1 => .inr (.inl x)
  | 2 => .inl x
  | _ => .inr (.inr (.inl r))
def sx_arr (t : Option FieldType) (n : Nat) (ad : Nat → Nat) (m : Nat → Int) (r : Nat → Option Nat) : vp_A := match t with
  | some .long => (n, .inr (.inl (fun j => Int64.ofInt (m j))))
  | some (.object _) => (n, .inr (.inr (.inr (.inr (fun j => (r j).map ad)))))
  | some (.array _) => (n, .inr (.inr (.inr (.inr (fun j => (r j).map ad)))))
  | _ => (n, .inl (fun j => Int32.ofInt (m j)))
def sx_fs (ft : List Nat) (ad : Nat → Nat) (m : Nat → Int) (r : Nat → Option Nat) : List Value := ft.mapIdx (fun j t => sx_cv ad (sx_av t (m j) (r j)))
def sx_cell (S : sx_S) (tc : Nat → ClassId) (ad : Nat → Nat) (sh : Nat × Nat) (m : Nat → Int) (r : Nat → Option Nat) : va_E := match sh.1 with
  | 0 => .inr (sh.2, sx_fs (S.2.1 sh.2) ad m r)
  | a + 1 => .inl (tc a, sx_arr S.2.2[a]? sh.2 ad m r)
def sx_w (S : sx_S) (tc : Nat → ClassId) (ad : Nat → Nat) (G : sx_G) (M : sx_M0) : va_W := (List.range G.1).map fun k => (ad k, sx_cell S tc ad (G.2.1 k) (M k) (G.2.2 k))
def sx_ty (S : sx_S) (tc : Nat → ClassId) : List (ClassId × FieldType) := S.2.2.mapIdx fun i t => (tc i, t)
/-- one slot changed -/
def sx_up (M : sx_M0) (k j : Nat) (x : Int) : sx_M0 := fun a b => if a = k ∧ b = j then x else M a b
def sx_upR (R : Nat → Nat → Option Nat) (k j : Nat) (x : Option Nat) : Nat → Nat → Option Nat := fun a b => if a = k ∧ b = j then x else R a b
theorem sx_up_ne {M : sx_M0} {k j : Nat} {x : Int} {a : Nat} (h : a ≠ k) : sx_up M k j x a = M a := by
  funext b
  simp [sx_up, h]
theorem sx_up_at {M : sx_M0} {k j : Nat} {x : Int} : sx_up M k j x k j = x := by simp [sx_up]
theorem sx_up_slot {M : sx_M0} {k j : Nat} {x : Int} {b : Nat} (h : b ≠ j) : sx_up M k j x k b = M k b := by simp [sx_up, h]
theorem sx_upR_ne {M : Nat → Nat → Option Nat} {k j : Nat} {x : Option Nat} {a : Nat} (h : a ≠ k) : sx_upR M k j x a = M a := by
  funext b
  simp [sx_upR, h]
theorem sx_upR_at {M : Nat → Nat → Option Nat} {k j : Nat} {x : Option Nat} : sx_upR M k j x k j = x := by simp [sx_upR]
theorem sx_upR_slot {M : Nat → Nat → Option Nat} {k j : Nat} {x : Option Nat} {b : Nat} (h : b ≠ j) : sx_upR M k j x k b = M k b := by simp [sx_upR, h]
theorem sx_w_get {S : sx_S} {tc : Nat → ClassId} {ad : Nat → Nat} {G : sx_G} {M : sx_M0} {k : Nat} (hk : k < G.1) : (sx_w S tc ad G M)[k]? = some (ad k, sx_cell S tc ad (G.2.1 k) (M k) (G.2.2 k)) := by
  simp [sx_w, hk]
theorem sx_w_in {S : sx_S} {tc : Nat → ClassId} {ad : Nat → Nat} {G : sx_G} {M : sx_M0} {k : Nat} {q : Nat × va_E} (h : (sx_w S tc ad G M)[k]? = some q) : k < G.1 ∧ q = (ad k, sx_cell S tc ad (G.2.1 k) (M k) (G.2.2 k)) := by
  have hk : k < G.1 := by
    have := (List.getElem?_eq_some_iff.mp h).1
    simpa [sx_w] using this
  rw [sx_w_get hk] at h
  exact ⟨hk, (Option.some.inj h).symm⟩
theorem sx_w_set {S : sx_S} {tc : Nat → ClassId} {ad : Nat → Nat} {G G' : sx_G} {M M' : sx_M0} {k : Nat} {e : va_E} (hk : k < G.1) (h1 : G'.1 = G.1) (h2 : G'.2.1 = G.2.1) (hR : ∀ a, a ≠ k → G'.2.2 a = G.2.2 a) (hM : ∀ a, a ≠ k → M' a = M a) (he : e = sx_cell S tc ad (G.2.1 k) (M' k) (G'.2.2 k)) : (sx_w S tc ad G M).set k (ad k, e) = sx_w S tc ad G' M' := by
  subst he
  apply List.ext_getElem?
  intro j
  by_cases hj : j = k
  · subst hj
    rw [List.getElem?_set_self (by simpa [sx_w] using hk), sx_w_get (by rw [h1]; exact hk), h2]
  · rw [List.getElem?_set_ne (Ne.symm hj)]
    by_cases hl : j < G.1
    · rw [sx_w_get hl, sx_w_get (by rw [h1]; exact hl), h2, hM j hj, hR j hj]
    · have e1 : (sx_w S tc ad G M)[j]? = none := by simp [sx_w]; omega
      have e2 : (sx_w S tc ad G' M')[j]? = none := by simp [sx_w]; omega
      rw [e1, e2]
theorem sx_fs_get {ft : List Nat} {ad : Nat → Nat} {m : Nat → Int} {r : Nat → Option Nat} {j t : Nat} (h : ft[j]? = some t) : (sx_fs ft ad m r)[j]? = some (sx_cv ad (sx_av t (m j) (r j))) := by
  simp [sx_fs, List.getElem?_mapIdx, h]
theorem sx_fs_set {ft : List Nat} {ad : Nat → Nat} {m m' : Nat → Int} {r r' : Nat → Option Nat} {j t : Nat} {v : Value} (h : ft[j]? = some t) (hm : ∀ i, i ≠ j → m' i = m i) (hr : ∀ i, i ≠ j → r' i = r i) (hv : v = sx_cv ad (sx_av t (m' j) (r' j))) : (sx_fs ft ad m r).set j v = sx_fs ft ad m' r' := by
  subst hv
  apply List.ext_getElem?
  intro i
  by_cases hi : i = j
  · subst hi
    have hl : i < (sx_fs ft ad m r).length := by
      have := (List.getElem?_eq_some_iff.mp h).1
      simpa [sx_fs] using this
    rw [List.getElem?_set_self hl, sx_fs_get h]
  · rw [List.getElem?_set_ne (Ne.symm hi)]
    simp only [sx_fs, List.getElem?_mapIdx]
    rw [hm i hi, hr i hi]
theorem sx_ty_get {S : sx_S} {tc : Nat → ClassId} {a : Nat} {t : FieldType} (h : S.2.2[a]? = some t) : (sx_ty S tc)[a]? = some (tc a, t) := by
  simp [sx_ty, List.getElem?_mapIdx, h]
/-- a method's (or the law's) own surroundings -/
abbrev sx_E : Type := (Program × Launch × Env × Room × State × MethodId × Array Value × List Frame × Method × Code) × ((Nat → Prop) × va_G × (Nat → ClassId) × (Nat → Nat) × Nat × Nat × (State → Prop))
abbrev sx_p (E : sx_E) : Program := E.1.1
abbrev sx_l (E : sx_E) : Launch := E.1.2.1
abbrev sx_e (E : sx_E) : Env := E.1.2.2.1
abbrev sx_R (E : sx_E) : Room := E.1.2.2.2.1
abbrev sx_s (E : sx_E) : State := E.1.2.2.2.2.1
abbrev sx_m (E : sx_E) : MethodId := E.1.2.2.2.2.2.1
abbrev sx_a (E : sx_E) : Array Value := E.1.2.2.2.2.2.2.1
abbrev sx_b (E : sx_E) : List Frame := E.1.2.2.2.2.2.2.2.1
abbrev sx_me (E : sx_E) : Method := E.1.2.2.2.2.2.2.2.2.1
abbrev sx_c (E : sx_E) : Code := E.1.2.2.2.2.2.2.2.2.2
abbrev sx_AA (E : sx_E) : Nat → Prop := E.2.1
abbrev sx_D (E : sx_E) : va_G := E.2.2.1
abbrev sx_tc (E : sx_E) : Nat → ClassId := E.2.2.2.1
abbrev sx_ad (E : sx_E) : Nat → Nat := E.2.2.2.2.1
abbrev sx_sz (E : sx_E) : Nat := E.2.2.2.2.2.1
abbrev sx_nL (E : sx_E) : Nat := E.2.2.2.2.2.2.1
abbrev sx_Q (E : sx_E) : State → Prop := E.2.2.2.2.2.2.2
abbrev sx_W (E : sx_E) (H : Heap) (locs : List Loc) (cells slots : Nat) (g : JFrame) : Prop := W (sx_p E) (sx_l E) (sx_e E) (sx_R E) (sx_s E) (sx_m E) (sx_a E) (sx_b E) (sx_me E) (sx_c E) H locs cells slots (sx_Q E) g
abbrev sx_lv (ad : Nat → Nat) (lv : List (Nat × sx_V)) : List (Nat × Value) := lv.map fun q => (q.1, sx_cv ad q.2)
/-- THE JUDGEMENT: at pc, with these locals and this stack, over this world, the machine comes to an end that E's Q allows -/
def sx_X (S : sx_S) (E : sx_E) (cs : Nat × Nat) (G : sx_G) (M : sx_M0) (pc : Nat) (lv : List (Nat × sx_V)) (st : List sx_V) : Prop :=
  ∀ (H : Heap) (locs : List Loc) (ls : Array Slot) (ad : Nat → Nat), va_P (sx_D E) S.1 (sx_w S (sx_tc E) ad G M) H → va_D (sx_AA E) (sx_w S (sx_tc E) ad G M) → va_S (sx_AA E) (sx_s E).heap H locs → sx_sz E ≤ G.1 → (∀ k, k < sx_sz E → ad k = sx_ad E k) → lv_has ls (sx_nL E) (sx_lv ad lv) →
    sx_W E H locs cs.1 cs.2 (F0 (sx_m E) pc ls (st.map (sx_cv ad)))
/-- what the surroundings give -/
def sx_C (S : sx_S) (Ts : List Cond) (own : String) (cc : ByteArray) (E : sx_E) : Prop :=
  (sx_p E).tables.exec = Jvm.exec ∧ (sx_c E).code = cc ∧ (sx_c E).maxLocals = sx_nL E ∧ (sx_s E).vm.findClass own = some (sx_m E).cls ∧ (∀ w ∈ Ts, w.before (sx_a E) (sx_s E) = true) ∧ (sx_me E).locks = false ∧ va_K (sx_D E) S.1 (sx_ty S (sx_tc E)) (sx_s E) ∧ (∀ q, (sx_s E).heap.size ≤ q → sx_AA E q)
section SXR
variable {S : sx_S} {E : sx_E} {cs : Nat × Nat} {G : sx_G} {M : sx_M0} {pc : Nat} {lv : List (Nat × sx_V)} {st : List sx_V} {Ts : List Cond} {own : String} {cc : ByteArray}
-- constants
theorem sx_iconst (C : sx_C S Ts own cc E) {n : Int} (hd : decode cc pc = .ok (.iconst n, 1)) (k : sx_X S E cs G M (pc + 1) lv (sx_I n :: st)) : sx_X S E cs G M pc lv st :=
  fun H locs ls ad hP hD hS hz ha hl => lv_iconst C.1 C.2.1 hd rfl (k H locs ls ad hP hD hS hz ha hl)
theorem sx_bipush (C : sx_C S Ts own cc E) {n : Int} (hd : decode cc pc = .ok (.bipush n, 2)) (hv : (Int8.ofInt n).toInt32 = Int32.ofInt n) (k : sx_X S E cs G M (pc + 2) lv (sx_I n :: st)) : sx_X S E cs G M pc lv st :=
  fun H locs ls ad hP hD hS hz ha hl => lv_bipush C.1 C.2.1 hd hv (k H locs ls ad hP hD hS hz ha hl)
theorem sx_sipush (C : sx_C S Ts own cc E) {n : Int} (hd : decode cc pc = .ok (.sipush n, 3)) (hv : (Int16.ofInt n).toInt32 = Int32.ofInt n) (k : sx_X S E cs G M (pc + 3) lv (sx_I n :: st)) : sx_X S E cs G M pc lv st :=
  fun H locs ls ad hP hD hS hz ha hl => lv_sipush C.1 C.2.1 hd hv (k H locs ls ad hP hD hS hz ha hl)
theorem sx_lconst (C : sx_C S Ts own cc E) {n : Fin 2} (x : Int) (hv : x = (n.val : Int)) (hd : decode cc pc = .ok (.lconst n, 1)) (k : sx_X S E cs G M (pc + 1) lv (sx_J x :: st)) : sx_X S E cs G M pc lv st := by
  subst hv
  exact fun H locs ls ad hP hD hS hz ha hl => lv_lconst C.1 C.2.1 hd (Int64.ofInt_eq_ofNat).symm (k H locs ls ad hP hD hS hz ha hl)
theorem sx_ldc (C : sx_C S Ts own cc E) {idx : Nat} {v : Int32} (x : Int) (hw : Cond.constant own idx v ∈ Ts) (hv : Int32.ofInt x = v) (hd : decode cc pc = .ok (.ldc idx, 2)) (k : sx_X S E cs G M (pc + 2) lv (sx_I x :: st)) : sx_X S E cs G M pc lv st := by
  subst hv
  exact fun H locs ls ad hP hD hS hz ha hl => lv_ldc C.1 C.2.1 C.2.2.2.1 (C.2.2.2.2.1 _ hw) hd (k H locs ls ad hP hD hS hz ha hl)
theorem sx_ldc2 (C : sx_C S Ts own cc E) {idx : Nat} {v : Int64} (x : Int) (hw : Cond.constantLong own idx v ∈ Ts) (hv : Int64.ofInt x = v) (hd : decode cc pc = .ok (.ldc2_w idx, 3)) (k : sx_X S E cs G M (pc + 3) lv (sx_J x :: st)) : sx_X S E cs G M pc lv st := by
  subst hv
  exact fun H locs ls ad hP hD hS hz ha hl => lv_ldc2 C.1 C.2.1 C.2.2.2.1 (C.2.2.2.2.1 _ hw) hd (k H locs ls ad hP hD hS hz ha hl)
theorem sx_null (C : sx_C S Ts own cc E) (hd : decode cc pc = .ok (.aconst_null, 1)) (k : sx_X S E cs G M (pc + 1) lv (sx_N :: st)) : sx_X S E cs G M pc lv st :=
  fun H locs ls ad hP hD hS hz ha hl => lv_null C.1 C.2.1 hd (k H locs ls ad hP hD hS hz ha hl)
-- locals
theorem sx_lv_at {ad : Nat → Nat} {ls : Array Slot} {nL : Nat} (h : lv_has ls nL (sx_lv ad lv)) (j : Nat) {i : Nat} {v : sx_V} (hj : lv[j]? = some (i, v)) : ls[i]? = some (.val (sx_cv ad v)) := by
  refine lv_at h j ?_
  simp [sx_lv, hj]
theorem sx_iload_n (C : sx_C S Ts own cc E) (j : Nat) {n : Fin 4} {i : Nat} {x : Int} (hd : decode cc pc = .ok (.iload_n n, 1)) (hi : (n : Nat) = i) (hj : lv[j]? = some (i, sx_I x)) (k : sx_X S E cs G M (pc + 1) lv (sx_I x :: st)) : sx_X S E cs G M pc lv st :=
  fun H locs ls ad hP hD hS hz ha hl => lv_iload_n C.1 C.2.1 hd hi (sx_lv_at hl j hj) (k H locs ls ad hP hD hS hz ha hl)
theorem sx_iload (C : sx_C S Ts own cc E) (j : Nat) {i : Nat} {x : Int} (hd : decode cc pc = .ok (.iload i, 2)) (hj : lv[j]? = some (i, sx_I x)) (k : sx_X S E cs G M (pc + 2) lv (sx_I x :: st)) : sx_X S E cs G M pc lv st :=
  fun H locs ls ad hP hD hS hz ha hl => lv_iload C.1 C.2.1 hd (sx_lv_at hl j hj) (k H locs ls ad hP hD hS hz ha hl)
theorem sx_lload_n (C : sx_C S Ts own cc E) (j : Nat) {n : Fin 4} {i : Nat} {x : Int} (hd : decode cc pc = .ok (.lload_n n, 1)) (hi : (n : Nat) = i) (hj : lv[j]? = some (i, sx_J x)) (k : sx_X S E cs G M (pc + 1) lv (sx_J x :: st)) : sx_X S E cs G M pc lv st :=
  fun H locs ls ad hP hD hS hz ha hl => lv_lload_n C.1 C.2.1 hd hi (sx_lv_at hl j hj) (k H locs ls ad hP hD hS hz ha hl)
theorem sx_lload (C : sx_C S Ts own cc E) (j : Nat) {i : Nat} {x : Int} (hd : decode cc pc = .ok (.lload i, 2)) (hj : lv[j]? = some (i, sx_J x)) (k : sx_X S E cs G M (pc + 2) lv (sx_J x :: st)) : sx_X S E cs G M pc lv st :=
  fun H locs ls ad hP hD hS hz ha hl => lv_lload C.1 C.2.1 hd (sx_lv_at hl j hj) (k H locs ls ad hP hD hS hz ha hl)
theorem sx_aload_n (C : sx_C S Ts own cc E) (j : Nat) {n : Fin 4} {i x : Nat} (hd : decode cc pc = .ok (.aload_n n, 1)) (hi : (n : Nat) = i) (hj : lv[j]? = some (i, sx_A x)) (k : sx_X S E cs G M (pc + 1) lv (sx_A x :: st)) : sx_X S E cs G M pc lv st :=
  fun H locs ls ad hP hD hS hz ha hl => lv_aload_n C.1 C.2.1 hd hi (sx_lv_at hl j hj) (k H locs ls ad hP hD hS hz ha hl)
theorem sx_aload (C : sx_C S Ts own cc E) (j : Nat) {i x : Nat} (hd : decode cc pc = .ok (.aload i, 2)) (hj : lv[j]? = some (i, sx_A x)) (k : sx_X S E cs G M (pc + 2) lv (sx_A x :: st)) : sx_X S E cs G M pc lv st :=
  fun H locs ls ad hP hD hS hz ha hl => lv_aload C.1 C.2.1 hd (sx_lv_at hl j hj) (k H locs ls ad hP hD hS hz ha hl)
theorem sx_bload_n (C : sx_C S Ts own cc E) (j : Nat) {n : Fin 4} {i x : Nat} (hd : decode cc pc = .ok (.aload_n n, 1)) (hi : (n : Nat) = i) (hj : lv[j]? = some (i, sx_B x)) (k : sx_X S E cs G M (pc + 1) lv (sx_B x :: st)) : sx_X S E cs G M pc lv st :=
  fun H locs ls ad hP hD hS hz ha hl => lv_aload_n C.1 C.2.1 hd hi (sx_lv_at hl j hj) (k H locs ls ad hP hD hS hz ha hl)
def sx_st1 (i : Nat) (v : sx_V) (lv : List (Nat × sx_V)) : List (Nat × sx_V) := (i, v) :: lv.filter (fun q => !(q.1 == i) && !(q.1 + 1 == i && sx_wide q.2))
def sx_st2 (i : Nat) (v : sx_V) (lv : List (Nat × sx_V)) : List (Nat × sx_V) := (i, v) :: lv.filter (fun q => !(q.1 == i) && (!(q.1 == i + 1) && !(q.1 + 1 == i && sx_wide q.2)))
theorem sx_st1_eq (ad : Nat → Nat) (i : Nat) (v : sx_V) (lv : List (Nat × sx_V)) : (i, sx_cv ad v) :: (sx_lv ad lv).filter (fun q => !(q.1 == i) && !(q.1 + 1 == i && q.2.category == 2)) = sx_lv ad (sx_st1 i v lv) := by
  simp only [sx_lv, sx_st1, List.map_cons, List.filter_map]
  congr 3
  funext q
  simp only [Function.comp, sx_cat]
theorem sx_st2_eq (ad : Nat → Nat) (i : Nat) (v : sx_V) (lv : List (Nat × sx_V)) : (i, sx_cv ad v) :: (sx_lv ad lv).filter (fun q => !(q.1 == i) && (!(q.1 == i + 1) && !(q.1 + 1 == i && q.2.category == 2))) = sx_lv ad (sx_st2 i v lv) := by
  simp only [sx_lv, sx_st2, List.map_cons, List.filter_map]
  congr 3
  funext q
  simp only [Function.comp, sx_cat]
theorem sx_istore_n (C : sx_C S Ts own cc E) {n : Fin 4} {i : Nat} {x : Int} {lv' : List (Nat × sx_V)} (hd : decode cc pc = .ok (.istore_n n, 1)) (hi : (n : Nat) = i) (hn : i < sx_nL E) (hv : sx_st1 i (sx_I x) lv = lv') (k : sx_X S E cs G M (pc + 1) lv' st) : sx_X S E cs G M pc lv (sx_I x :: st) := by
  subst hv
  exact fun H locs ls ad hP hD hS hz ha hl => lv_istore_n C.1 C.2.1 hd hi hl hn (sx_st1_eq ad i (sx_I x) lv) (fun ls' hl' => k H locs ls' ad hP hD hS hz ha hl')
theorem sx_istore (C : sx_C S Ts own cc E) {i : Nat} {x : Int} {lv' : List (Nat × sx_V)} (hd : decode cc pc = .ok (.istore i, 2)) (hn : i < sx_nL E) (hv : sx_st1 i (sx_I x) lv = lv') (k : sx_X S E cs G M (pc + 2) lv' st) : sx_X S E cs G M pc lv (sx_I x :: st) := by
  subst hv
  exact fun H locs ls ad hP hD hS hz ha hl => lv_istore C.1 C.2.1 hd hl hn (sx_st1_eq ad i (sx_I x) lv) (fun ls' hl' => k H locs ls' ad hP hD hS hz ha hl')
theorem sx_lstore_n (C : sx_C S Ts own cc E) {n : Fin 4} {i : Nat} {x : Int} {lv' : List (Nat × sx_V)} (hd : decode cc pc = .ok (.lstore_n n, 1)) (hi : (n : Nat) = i) (hn : i + 1 < sx_nL E) (hv : sx_st2 i (sx_J x) lv = lv') (k : sx_X S E cs G M (pc + 1) lv' st) : sx_X S E cs G M pc lv (sx_J x :: st) := by
  subst hv
  exact fun H locs ls ad hP hD hS hz ha hl => lv_lstore_n C.1 C.2.1 hd hi hl hn (sx_st2_eq ad i (sx_J x) lv) (fun ls' hl' => k H locs ls' ad hP hD hS hz ha hl')
theorem sx_lstore (C : sx_C S Ts own cc E) {i : Nat} {x : Int} {lv' : List (Nat × sx_V)} (hd : decode cc pc = .ok (.lstore i, 2)) (hn : i + 1 < sx_nL E) (hv : sx_st2 i (sx_J x) lv = lv') (k : sx_X S E cs G M (pc + 2) lv' st) : sx_X S E cs G M pc lv (sx_J x :: st) := by
  subst hv
  exact fun H locs ls ad hP hD hS hz ha hl => lv_lstore C.1 C.2.1 hd hl hn (sx_st2_eq ad i (sx_J x) lv) (fun ls' hl' => k H locs ls' ad hP hD hS hz ha hl')
theorem sx_astore_n (C : sx_C S Ts own cc E) {n : Fin 4} {i x : Nat} {lv' : List (Nat × sx_V)} (hd : decode cc pc = .ok (.astore_n n, 1)) (hi : (n : Nat) = i) (hn : i < sx_nL E) (hv : sx_st1 i (sx_A x) lv = lv') (k : sx_X S E cs G M (pc + 1) lv' st) : sx_X S E cs G M pc lv (sx_A x :: st) := by
  subst hv
  exact fun H locs ls ad hP hD hS hz ha hl => lv_astore_n C.1 C.2.1 hd hi hl hn (sx_st1_eq ad i (sx_A x) lv) (fun ls' hl' => k H locs ls' ad hP hD hS hz ha hl')
theorem sx_astore (C : sx_C S Ts own cc E) {i x : Nat} {lv' : List (Nat × sx_V)} (hd : decode cc pc = .ok (.astore i, 2)) (hn : i < sx_nL E) (hv : sx_st1 i (sx_A x) lv = lv') (k : sx_X S E cs G M (pc + 2) lv' st) : sx_X S E cs G M pc lv (sx_A x :: st) := by
  subst hv
  exact fun H locs ls ad hP hD hS hz ha hl => lv_astore C.1 C.2.1 hd hl hn (sx_st1_eq ad i (sx_A x) lv) (fun ls' hl' => k H locs ls' ad hP hD hS hz ha hl')
theorem sx_iinc (C : sx_C S Ts own cc E) (j : Nat) {i : Nat} {n x : Int} {lv' : List (Nat × sx_V)} (hd : decode cc pc = .ok (.iinc i n, 3)) (hj : lv[j]? = some (i, sx_I x)) (hn : i < sx_nL E) (hv : sx_st1 i (sx_I (x + n)) lv = lv') (k : sx_X S E cs G M (pc + 3) lv' st) : sx_X S E cs G M pc lv st := by
  subst hv
  exact fun H locs ls ad hP hD hS hz ha hl => lv_iinc C.1 C.2.1 hd hl (k := j) (x := Int32.ofInt x) (by simp [sx_lv, hj, sx_cv]) (Int32.ofInt_add x n).symm hn (sx_st1_eq ad i (sx_I (x + n)) lv) (fun ls' hl' => k H locs ls' ad hP hD hS hz ha hl')
/-- fewer locals, in any order -/
theorem sx_sub (ks : List Nat) {lv' : List (Nat × sx_V)} (h : ks.filterMap (fun k => lv[k]?) = lv') (k : sx_X S E cs G M pc lv' st) : sx_X S E cs G M pc lv st := by
  subst h
  refine fun H locs ls ad hP hD hS hz ha hl => k H locs ls ad hP hD hS hz ha ⟨hl.1, hl.2.1, fun q hq => ?_⟩
  obtain ⟨q0, h0, rfl⟩ := List.mem_map.mp hq
  obtain ⟨i, -, hi⟩ := List.mem_filterMap.mp h0
  exact hl.2.2 _ (List.mem_map.mpr ⟨q0, List.mem_of_getElem? hi, rfl⟩)
end SXR
end
section
section SXA
variable {S : sx_S} {E : sx_E} {cs : Nat × Nat} {G : sx_G} {M : sx_M0} {pc : Nat} {lv : List (Nat × sx_V)} {st : List sx_V} {Ts : List Cond} {own : String} {cc : ByteArray} {x y : Int}
abbrev sx_r32 (x : Int) : Prop := -2147483648 ≤ x ∧ x ≤ 2147483647
abbrev sx_r64 (x : Int) : Prop := -9223372036854775808 ≤ x ∧ x ≤ 9223372036854775807
theorem sx_t32 {x : Int} (h : sx_r32 x) : (Int32.ofInt x).toInt = x := Int32.toInt_ofInt_of_le (by have := h.1; omega) (by have := h.2; omega)
theorem sx_t64 {x : Int} (h : sx_r64 x) : (Int64.ofInt x).toInt = x := Int64.toInt_ofInt_of_le (by have := h.1; omega) (by have := h.2; omega)
theorem sx_lt32 {x y : Int} (hx : sx_r32 x) (hy : sx_r32 y) : Int32.ofInt x < Int32.ofInt y ↔ x < y := by rw [Int32.lt_iff_toInt_lt, sx_t32 hx, sx_t32 hy]
theorem sx_le32 {x y : Int} (hx : sx_r32 x) (hy : sx_r32 y) : Int32.ofInt x ≤ Int32.ofInt y ↔ x ≤ y := by rw [Int32.le_iff_toInt_le, sx_t32 hx, sx_t32 hy]
theorem sx_eq32 {x y : Int} (hx : sx_r32 x) (hy : sx_r32 y) : Int32.ofInt x = Int32.ofInt y ↔ x = y := by rw [← Int32.toInt_inj, sx_t32 hx, sx_t32 hy]
theorem sx_lt64 {x y : Int} (hx : sx_r64 x) (hy : sx_r64 y) : Int64.ofInt x < Int64.ofInt y ↔ x < y := by rw [Int64.lt_iff_toInt_lt, sx_t64 hx, sx_t64 hy]
theorem sx_le64 {x y : Int} (hx : sx_r64 x) (hy : sx_r64 y) : Int64.ofInt x ≤ Int64.ofInt y ↔ x ≤ y := by rw [Int64.le_iff_toInt_le, sx_t64 hx, sx_t64 hy]
theorem sx_eq64 {x y : Int} (hx : sx_r64 x) (hy : sx_r64 y) : Int64.ofInt x = Int64.ofInt y ↔ x = y := by rw [← Int64.toInt_inj, sx_t64 hx, sx_t64 hy]
theorem sx_z32 : Int32.ofInt 0 = 0 := by decide
theorem sx_r0 : sx_r32 0 := by constructor <;> decide
-- arithmetic
theorem sx_iadd (C : sx_C S Ts own cc E) (hd : decode cc pc = .ok (.iadd, 1)) (k : sx_X S E cs G M (pc + 1) lv (sx_I (x + y) :: st)) : sx_X S E cs G M pc lv (sx_I y :: sx_I x :: st) :=
  fun H locs ls ad hP hD hS hz ha hl => lv_iadd C.1 C.2.1 hd (by have h := k H locs ls ad hP hD hS hz ha hl; rw [← Int32.ofInt_add]; exact h)
theorem sx_isub (C : sx_C S Ts own cc E) (hd : decode cc pc = .ok (.isub, 1)) (k : sx_X S E cs G M (pc + 1) lv (sx_I (x - y) :: st)) : sx_X S E cs G M pc lv (sx_I y :: sx_I x :: st) :=
  fun H locs ls ad hP hD hS hz ha hl => lv_isub C.1 C.2.1 hd (by have h := k H locs ls ad hP hD hS hz ha hl; rw [← Int32.ofInt_sub]; exact h)
theorem sx_imul (C : sx_C S Ts own cc E) (hd : decode cc pc = .ok (.imul, 1)) (k : sx_X S E cs G M (pc + 1) lv (sx_I (x * y) :: st)) : sx_X S E cs G M pc lv (sx_I y :: sx_I x :: st) :=
  fun H locs ls ad hP hD hS hz ha hl => lv_imul C.1 C.2.1 hd (by have h := k H locs ls ad hP hD hS hz ha hl; rw [← Int32.ofInt_mul]; exact h)
theorem sx_ladd (C : sx_C S Ts own cc E) (hd : decode cc pc = .ok (.ladd, 1)) (k : sx_X S E cs G M (pc + 1) lv (sx_J (x + y) :: st)) : sx_X S E cs G M pc lv (sx_J y :: sx_J x :: st) :=
  fun H locs ls ad hP hD hS hz ha hl => lv_ladd C.1 C.2.1 hd (by have h := k H locs ls ad hP hD hS hz ha hl; rw [← Int64.ofInt_add]; exact h)
theorem sx_lsub (C : sx_C S Ts own cc E) (hd : decode cc pc = .ok (.lsub, 1)) (k : sx_X S E cs G M (pc + 1) lv (sx_J (x - y) :: st)) : sx_X S E cs G M pc lv (sx_J y :: sx_J x :: st) :=
  fun H locs ls ad hP hD hS hz ha hl => lv_lsub C.1 C.2.1 hd (by have h := k H locs ls ad hP hD hS hz ha hl; rw [← Int64.ofInt_sub]; exact h)
theorem sx_lmul (C : sx_C S Ts own cc E) (hd : decode cc pc = .ok (.lmul, 1)) (k : sx_X S E cs G M (pc + 1) lv (sx_J (x * y) :: st)) : sx_X S E cs G M pc lv (sx_J y :: sx_J x :: st) :=
  fun H locs ls ad hP hD hS hz ha hl => lv_lmul C.1 C.2.1 hd (by have h := k H locs ls ad hP hD hS hz ha hl; rw [← Int64.ofInt_mul]; exact h)
theorem sx_div64 {x y : Int} (hx : 0 ≤ x) (hx2 : sx_r64 x) (hy : 0 < y) (hy2 : sx_r64 y) : Int64.ofInt x / Int64.ofInt y = Int64.ofInt (x / y) := by
  have h1 : 0 ≤ x / y := Int.ediv_nonneg hx (Int.le_of_lt hy)
  have h2 : x / y ≤ x := Int.ediv_le_self y hx
  apply Int64.toInt_inj.mp
  rw [sx_t64 ⟨by omega, Int.le_trans h2 hx2.2⟩, Int64.toInt_div, sx_t64 hx2, sx_t64 hy2, Int.tdiv_eq_ediv_of_nonneg hx]
  apply Int.bmod_eq_of_le <;> have := hx2.2 <;> omega
theorem sx_div32 {x y : Int} (hx : 0 ≤ x) (hx2 : sx_r32 x) (hy : 0 < y) (hy2 : sx_r32 y) : Int32.ofInt x / Int32.ofInt y = Int32.ofInt (x / y) := by
  have h1 : 0 ≤ x / y := Int.ediv_nonneg hx (Int.le_of_lt hy)
  have h2 : x / y ≤ x := Int.ediv_le_self y hx
  apply Int32.toInt_inj.mp
  rw [sx_t32 ⟨by omega, Int.le_trans h2 hx2.2⟩, Int32.toInt_div, sx_t32 hx2, sx_t32 hy2, Int.tdiv_eq_ediv_of_nonneg hx]
  apply Int.bmod_eq_of_le <;> have := hx2.2 <;> omega
theorem sx_ldiv (C : sx_C S Ts own cc E) (hx : 0 ≤ x) (hx2 : sx_r64 x) (hy : 0 < y) (hy2 : sx_r64 y) (hd : decode cc pc = .ok (.ldiv, 1)) (k : sx_X S E cs G M (pc + 1) lv (sx_J (x / y) :: st)) : sx_X S E cs G M pc lv (sx_J y :: sx_J x :: st) :=
  fun H locs ls ad hP hD hS hz ha hl => lv_ldiv C.1 C.2.1 hd (fun h => by have h3 := (sx_eq64 hy2 (show sx_r64 0 by constructor <;> decide)).mp h; omega) (by have h := k H locs ls ad hP hD hS hz ha hl; rw [sx_div64 hx hx2 hy hy2]; exact h)
theorem sx_idiv (C : sx_C S Ts own cc E) (hx : 0 ≤ x) (hx2 : sx_r32 x) (hy : 0 < y) (hy2 : sx_r32 y) (hd : decode cc pc = .ok (.idiv, 1)) (k : sx_X S E cs G M (pc + 1) lv (sx_I (x / y) :: st)) : sx_X S E cs G M pc lv (sx_I y :: sx_I x :: st) :=
  fun H locs ls ad hP hD hS hz ha hl => lv_idiv C.1 C.2.1 hd (fun h => by have h3 := (sx_eq32 hy2 sx_r0).mp h; omega) (by have h := k H locs ls ad hP hD hS hz ha hl; rw [sx_div32 hx hx2 hy hy2]; exact h)
def sx_and (x y : Int) : Int := (Int32.ofInt x &&& Int32.ofInt y).toInt
def sx_or (x y : Int) : Int := (Int32.ofInt x ||| Int32.ofInt y).toInt
def sx_xor (x y : Int) : Int := (Int32.ofInt x ^^^ Int32.ofInt y).toInt
def sx_shl (x y : Int) : Int := (Int32.ofInt x <<< (Int32.ofInt y &&& 31)).toInt
def sx_shr (x y : Int) : Int := (Int32.ofInt x >>> (Int32.ofInt y &&& 31)).toInt
def sx_ushr (x y : Int) : Int := (((Int32.ofInt x).toUInt32 >>> ((Int32.ofInt y).toUInt32 &&& Int32.toUInt32 31)).toInt32).toInt
theorem sx_iand (C : sx_C S Ts own cc E) (hd : decode cc pc = .ok (.iand, 1)) (k : sx_X S E cs G M (pc + 1) lv (sx_I (sx_and x y) :: st)) : sx_X S E cs G M pc lv (sx_I y :: sx_I x :: st) :=
  fun H locs ls ad hP hD hS hz ha hl => lv_iand C.1 C.2.1 hd (by have h := k H locs ls ad hP hD hS hz ha hl; simp only [List.map_cons, sx_cv, sx_and, Int32.ofInt_toInt] at h; exact h)
theorem sx_ior (C : sx_C S Ts own cc E) (hd : decode cc pc = .ok (.ior, 1)) (k : sx_X S E cs G M (pc + 1) lv (sx_I (sx_or x y) :: st)) : sx_X S E cs G M pc lv (sx_I y :: sx_I x :: st) :=
  fun H locs ls ad hP hD hS hz ha hl => lv_ior C.1 C.2.1 hd (by have h := k H locs ls ad hP hD hS hz ha hl; simp only [List.map_cons, sx_cv, sx_or, Int32.ofInt_toInt] at h; exact h)
theorem sx_ixor (C : sx_C S Ts own cc E) (hd : decode cc pc = .ok (.ixor, 1)) (k : sx_X S E cs G M (pc + 1) lv (sx_I (sx_xor x y) :: st)) : sx_X S E cs G M pc lv (sx_I y :: sx_I x :: st) :=
  fun H locs ls ad hP hD hS hz ha hl => lv_ixor C.1 C.2.1 hd (by have h := k H locs ls ad hP hD hS hz ha hl; simp only [List.map_cons, sx_cv, sx_xor, Int32.ofInt_toInt] at h; exact h)
theorem sx_ishl (C : sx_C S Ts own cc E) (hd : decode cc pc = .ok (.ishl, 1)) (k : sx_X S E cs G M (pc + 1) lv (sx_I (sx_shl x y) :: st)) : sx_X S E cs G M pc lv (sx_I y :: sx_I x :: st) :=
  fun H locs ls ad hP hD hS hz ha hl => lv_ishl C.1 C.2.1 hd (by have h := k H locs ls ad hP hD hS hz ha hl; simp only [List.map_cons, sx_cv, sx_shl, Int32.ofInt_toInt] at h; exact h)
theorem sx_ishr (C : sx_C S Ts own cc E) (hd : decode cc pc = .ok (.ishr, 1)) (k : sx_X S E cs G M (pc + 1) lv (sx_I (sx_shr x y) :: st)) : sx_X S E cs G M pc lv (sx_I y :: sx_I x :: st) :=
  fun H locs ls ad hP hD hS hz ha hl => lv_ishr C.1 C.2.1 hd (by have h := k H locs ls ad hP hD hS hz ha hl; simp only [List.map_cons, sx_cv, sx_shr, Int32.ofInt_toInt] at h; exact h)
theorem sx_iushr (C : sx_C S Ts own cc E) (hd : decode cc pc = .ok (.iushr, 1)) (k : sx_X S E cs G M (pc + 1) lv (sx_I (sx_ushr x y) :: st)) : sx_X S E cs G M pc lv (sx_I y :: sx_I x :: st) :=
  fun H locs ls ad hP hD hS hz ha hl => lv_iushr C.1 C.2.1 hd rfl (by have h := k H locs ls ad hP hD hS hz ha hl; simp only [List.map_cons, sx_cv, sx_ushr, Int32.ofInt_toInt] at h; exact h)
theorem sx_i2l (C : sx_C S Ts own cc E) (h32 : sx_r32 x) (hd : decode cc pc = .ok (.i2l, 1)) (k : sx_X S E cs G M (pc + 1) lv (sx_J x :: st)) : sx_X S E cs G M pc lv (sx_I x :: st) :=
  fun H locs ls ad hP hD hS hz ha hl => lv_i2l C.1 C.2.1 hd (v := Int64.ofInt x) (by
    apply Int64.toInt_inj.mp
    rw [Int32.toInt_toInt64, sx_t32 h32, sx_t64 ⟨by have := h32.1; omega, by have := h32.2; omega⟩]) (k H locs ls ad hP hD hS hz ha hl)
theorem sx_l2i (C : sx_C S Ts own cc E) (hd : decode cc pc = .ok (.l2i, 1)) (k : sx_X S E cs G M (pc + 1) lv (sx_I x :: st)) : sx_X S E cs G M pc lv (sx_J x :: st) :=
  fun H locs ls ad hP hD hS hz ha hl => lv_l2i C.1 C.2.1 hd (v := Int32.ofInt x) Int64.toInt32_ofInt (k H locs ls ad hP hD hS hz ha hl)
-- the stack
theorem sx_dup (C : sx_C S Ts own cc E) {v : sx_V} (hd : decode cc pc = .ok (.dup, 1)) (hv : sx_wide v = false) (k : sx_X S E cs G M (pc + 1) lv (v :: v :: st)) : sx_X S E cs G M pc lv (v :: st) :=
  fun H locs ls ad hP hD hS hz ha hl => lv_dup C.1 C.2.1 hd (sx_cat1 ad v hv) (k H locs ls ad hP hD hS hz ha hl)
theorem sx_pop (C : sx_C S Ts own cc E) {v : sx_V} (hd : decode cc pc = .ok (.pop, 1)) (hv : sx_wide v = false) (k : sx_X S E cs G M (pc + 1) lv st) : sx_X S E cs G M pc lv (v :: st) :=
  fun H locs ls ad hP hD hS hz ha hl => lv_pop C.1 C.2.1 hd (sx_cat1 ad v hv) (k H locs ls ad hP hD hS hz ha hl)
theorem sx_pop2 (C : sx_C S Ts own cc E) {v : sx_V} (hd : decode cc pc = .ok (.pop2, 1)) (hv : sx_wide v = true) (k : sx_X S E cs G M (pc + 1) lv st) : sx_X S E cs G M pc lv (v :: st) :=
  fun H locs ls ad hP hD hS hz ha hl => lv_pop2_2 C.1 C.2.1 hd (sx_cat2 ad v hv) (k H locs ls ad hP hD hS hz ha hl)
theorem sx_dup2_11 (C : sx_C S Ts own cc E) {v w : sx_V} (hd : decode cc pc = .ok (.dup2, 1)) (hv : sx_wide v = false) (hw : sx_wide w = false) (k : sx_X S E cs G M (pc + 1) lv (v :: w :: v :: w :: st)) : sx_X S E cs G M pc lv (v :: w :: st) :=
  fun H locs ls ad hP hD hS hz ha hl => lv_dup2_11 C.1 C.2.1 hd (sx_cat1 ad v hv) (sx_cat1 ad w hw) (k H locs ls ad hP hD hS hz ha hl)
theorem sx_dup2_2 (C : sx_C S Ts own cc E) {v : sx_V} (hd : decode cc pc = .ok (.dup2, 1)) (hv : sx_wide v = true) (k : sx_X S E cs G M (pc + 1) lv (v :: v :: st)) : sx_X S E cs G M pc lv (v :: st) :=
  fun H locs ls ad hP hD hS hz ha hl => lv_dup2_2 C.1 C.2.1 hd (sx_cat2 ad v hv) (k H locs ls ad hP hD hS hz ha hl)
theorem sx_dup_x1 (C : sx_C S Ts own cc E) {v w : sx_V} (hd : decode cc pc = .ok (.dup_x1, 1)) (hv : sx_wide v = false) (hw : sx_wide w = false) (k : sx_X S E cs G M (pc + 1) lv (v :: w :: v :: st)) : sx_X S E cs G M pc lv (v :: w :: st) :=
  fun H locs ls ad hP hD hS hz ha hl => lv_dup_x1 C.1 C.2.1 hd (sx_cat1 ad v hv) (sx_cat1 ad w hw) (k H locs ls ad hP hD hS hz ha hl)
theorem sx_dup_x2 (C : sx_C S Ts own cc E) {v w u : sx_V} (hd : decode cc pc = .ok (.dup_x2, 1)) (hv : sx_wide v = false) (hw : sx_wide w = false) (hu : sx_wide u = false) (k : sx_X S E cs G M (pc + 1) lv (v :: w :: u :: v :: st)) : sx_X S E cs G M pc lv (v :: w :: u :: st) :=
  fun H locs ls ad hP hD hS hz ha hl => lv_dup_x2 C.1 C.2.1 hd (sx_cat1 ad v hv) (sx_cat1 ad w hw) (sx_cat1 ad u hu) (k H locs ls ad hP hD hS hz ha hl)
theorem sx_dup2_x1 (C : sx_C S Ts own cc E) {v w : sx_V} (hd : decode cc pc = .ok (.dup2_x1, 1)) (hv : sx_wide v = true) (hw : sx_wide w = false) (k : sx_X S E cs G M (pc + 1) lv (v :: w :: v :: st)) : sx_X S E cs G M pc lv (v :: w :: st) :=
  fun H locs ls ad hP hD hS hz ha hl => lv_dup2_x1_2 C.1 C.2.1 hd (sx_cat2 ad v hv) (sx_cat1 ad w hw) (k H locs ls ad hP hD hS hz ha hl)
theorem sx_dup2_x2 (C : sx_C S Ts own cc E) {v w u : sx_V} (hd : decode cc pc = .ok (.dup2_x2, 1)) (hv : sx_wide v = true) (hw : sx_wide w = false) (hu : sx_wide u = false) (k : sx_X S E cs G M (pc + 1) lv (v :: w :: u :: v :: st)) : sx_X S E cs G M pc lv (v :: w :: u :: st) :=
  fun H locs ls ad hP hD hS hz ha hl => lv_dup2_x2_2 C.1 C.2.1 hd (sx_cat2 ad v hv) (sx_cat1 ad w hw) (sx_cat1 ad u hu) (k H locs ls ad hP hD hS hz ha hl)
-- branches
theorem sx_goto (C : sx_C S Ts own cc E) {off : Int} (tgt : Nat) (hd : decode cc pc = .ok (.goto off, 3)) (ht : (pc : Int) + off = (tgt : Int)) (k : sx_X S E cs G M tgt lv st) : sx_X S E cs G M pc lv st :=
  fun H locs ls ad hP hD hS hz ha hl => lv_goto C.1 C.2.1 hd ht (k H locs ls ad hP hD hS hz ha hl)
theorem sx_icmp_eq (C : sx_C S Ts own cc E) {off : Int} (tgt : Nat) (hx : sx_r32 x) (hy : sx_r32 y) (hd : decode cc pc = .ok (.if_icmp .eq off, 3)) (ht : (pc : Int) + off = (tgt : Int)) (kt : x = y → sx_X S E cs G M tgt lv st) (kf : ¬ x = y → sx_X S E cs G M (pc + 3) lv st) : sx_X S E cs G M pc lv (sx_I y :: sx_I x :: st) :=
  fun H locs ls ad hP hD hS hz ha hl => lv_icmp_eq C.1 C.2.1 hd ht (fun h => (fun h => kt ((sx_eq32 hx hy).mp h)) h H locs ls ad hP hD hS hz ha hl) (fun h => (fun h => kf (fun q => h ((sx_eq32 hx hy).mpr q))) h H locs ls ad hP hD hS hz ha hl)
theorem sx_icmp_ne (C : sx_C S Ts own cc E) {off : Int} (tgt : Nat) (hx : sx_r32 x) (hy : sx_r32 y) (hd : decode cc pc = .ok (.if_icmp .ne off, 3)) (ht : (pc : Int) + off = (tgt : Int)) (kt : ¬ x = y → sx_X S E cs G M tgt lv st) (kf : x = y → sx_X S E cs G M (pc + 3) lv st) : sx_X S E cs G M pc lv (sx_I y :: sx_I x :: st) :=
  fun H locs ls ad hP hD hS hz ha hl => lv_icmp_ne C.1 C.2.1 hd ht (fun h => (fun h => kt (fun q => h ((sx_eq32 hx hy).mpr q))) h H locs ls ad hP hD hS hz ha hl) (fun h => (fun h => kf ((sx_eq32 hx hy).mp h)) h H locs ls ad hP hD hS hz ha hl)
theorem sx_icmp_lt (C : sx_C S Ts own cc E) {off : Int} (tgt : Nat) (hx : sx_r32 x) (hy : sx_r32 y) (hd : decode cc pc = .ok (.if_icmp .lt off, 3)) (ht : (pc : Int) + off = (tgt : Int)) (kt : x < y → sx_X S E cs G M tgt lv st) (kf : ¬ x < y → sx_X S E cs G M (pc + 3) lv st) : sx_X S E cs G M pc lv (sx_I y :: sx_I x :: st) :=
  fun H locs ls ad hP hD hS hz ha hl => lv_icmp_lt C.1 C.2.1 hd ht (fun h => (fun h => kt ((sx_lt32 hx hy).mp h)) h H locs ls ad hP hD hS hz ha hl) (fun h => (fun h => kf (fun q => h ((sx_lt32 hx hy).mpr q))) h H locs ls ad hP hD hS hz ha hl)
theorem sx_icmp_ge (C : sx_C S Ts own cc E) {off : Int} (tgt : Nat) (hx : sx_r32 x) (hy : sx_r32 y) (hd : decode cc pc = .ok (.if_icmp .ge off, 3)) (ht : (pc : Int) + off = (tgt : Int)) (kt : y ≤ x → sx_X S E cs G M tgt lv st) (kf : ¬ y ≤ x → sx_X S E cs G M (pc + 3) lv st) : sx_X S E cs G M pc lv (sx_I y :: sx_I x :: st) :=
  fun H locs ls ad hP hD hS hz ha hl => lv_icmp_ge C.1 C.2.1 hd ht (fun h => (fun h => kt ((sx_le32 hy hx).mp h)) h H locs ls ad hP hD hS hz ha hl) (fun h => (fun h => kf (fun q => h ((sx_le32 hy hx).mpr q))) h H locs ls ad hP hD hS hz ha hl)
theorem sx_icmp_gt (C : sx_C S Ts own cc E) {off : Int} (tgt : Nat) (hx : sx_r32 x) (hy : sx_r32 y) (hd : decode cc pc = .ok (.if_icmp .gt off, 3)) (ht : (pc : Int) + off = (tgt : Int)) (kt : y < x → sx_X S E cs G M tgt lv st) (kf : ¬ y < x → sx_X S E cs G M (pc + 3) lv st) : sx_X S E cs G M pc lv (sx_I y :: sx_I x :: st) :=
  fun H locs ls ad hP hD hS hz ha hl => lv_icmp_gt C.1 C.2.1 hd ht (fun h => (fun h => kt ((sx_lt32 hy hx).mp h)) h H locs ls ad hP hD hS hz ha hl) (fun h => (fun h => kf (fun q => h ((sx_lt32 hy hx).mpr q))) h H locs ls ad hP hD hS hz ha hl)
theorem sx_icmp_le (C : sx_C S Ts own cc E) {off : Int} (tgt : Nat) (hx : sx_r32 x) (hy : sx_r32 y) (hd : decode cc pc = .ok (.if_icmp .le off, 3)) (ht : (pc : Int) + off = (tgt : Int)) (kt : x ≤ y → sx_X S E cs G M tgt lv st) (kf : ¬ x ≤ y → sx_X S E cs G M (pc + 3) lv st) : sx_X S E cs G M pc lv (sx_I y :: sx_I x :: st) :=
  fun H locs ls ad hP hD hS hz ha hl => lv_icmp_le C.1 C.2.1 hd ht (fun h => (fun h => kt ((sx_le32 hx hy).mp h)) h H locs ls ad hP hD hS hz ha hl) (fun h => (fun h => kf (fun q => h ((sx_le32 hx hy).mpr q))) h H locs ls ad hP hD hS hz ha hl)
theorem sx_if_eq (C : sx_C S Ts own cc E) {off : Int} (tgt : Nat) (hx : sx_r32 x) (hd : decode cc pc = .ok (.ifCond .eq off, 3)) (ht : (pc : Int) + off = (tgt : Int)) (kt : x = 0 → sx_X S E cs G M tgt lv st) (kf : ¬ x = 0 → sx_X S E cs G M (pc + 3) lv st) : sx_X S E cs G M pc lv (sx_I x :: st) :=
  fun H locs ls ad hP hD hS hz ha hl => lv_if_eq C.1 C.2.1 hd ht (fun h => (fun h => kt ((sx_eq32 hx sx_r0).mp h)) h H locs ls ad hP hD hS hz ha hl) (fun h => (fun h => kf (fun q => h ((sx_eq32 hx sx_r0).mpr q))) h H locs ls ad hP hD hS hz ha hl)
theorem sx_if_ne (C : sx_C S Ts own cc E) {off : Int} (tgt : Nat) (hx : sx_r32 x) (hd : decode cc pc = .ok (.ifCond .ne off, 3)) (ht : (pc : Int) + off = (tgt : Int)) (kt : ¬ x = 0 → sx_X S E cs G M tgt lv st) (kf : x = 0 → sx_X S E cs G M (pc + 3) lv st) : sx_X S E cs G M pc lv (sx_I x :: st) :=
  fun H locs ls ad hP hD hS hz ha hl => lv_if_ne C.1 C.2.1 hd ht (fun h => (fun h => kt (fun q => h ((sx_eq32 hx sx_r0).mpr q))) h H locs ls ad hP hD hS hz ha hl) (fun h => (fun h => kf ((sx_eq32 hx sx_r0).mp h)) h H locs ls ad hP hD hS hz ha hl)
theorem sx_if_lt (C : sx_C S Ts own cc E) {off : Int} (tgt : Nat) (hx : sx_r32 x) (hd : decode cc pc = .ok (.ifCond .lt off, 3)) (ht : (pc : Int) + off = (tgt : Int)) (kt : x < 0 → sx_X S E cs G M tgt lv st) (kf : ¬ x < 0 → sx_X S E cs G M (pc + 3) lv st) : sx_X S E cs G M pc lv (sx_I x :: st) :=
  fun H locs ls ad hP hD hS hz ha hl => lv_if_lt C.1 C.2.1 hd ht (fun h => (fun h => kt ((sx_lt32 hx sx_r0).mp h)) h H locs ls ad hP hD hS hz ha hl) (fun h => (fun h => kf (fun q => h ((sx_lt32 hx sx_r0).mpr q))) h H locs ls ad hP hD hS hz ha hl)
theorem sx_if_ge (C : sx_C S Ts own cc E) {off : Int} (tgt : Nat) (hx : sx_r32 x) (hd : decode cc pc = .ok (.ifCond .ge off, 3)) (ht : (pc : Int) + off = (tgt : Int)) (kt : 0 ≤ x → sx_X S E cs G M tgt lv st) (kf : ¬ 0 ≤ x → sx_X S E cs G M (pc + 3) lv st) : sx_X S E cs G M pc lv (sx_I x :: st) :=
  fun H locs ls ad hP hD hS hz ha hl => lv_if_ge C.1 C.2.1 hd ht (fun h => (fun h => kt ((sx_le32 sx_r0 hx).mp h)) h H locs ls ad hP hD hS hz ha hl) (fun h => (fun h => kf (fun q => h ((sx_le32 sx_r0 hx).mpr q))) h H locs ls ad hP hD hS hz ha hl)
theorem sx_if_gt (C : sx_C S Ts own cc E) {off : Int} (tgt : Nat) (hx : sx_r32 x) (hd : decode cc pc = .ok (.ifCond .gt off, 3)) (ht : (pc : Int) + off = (tgt : Int)) (kt : 0 < x → sx_X S E cs G M tgt lv st) (kf : ¬ 0 < x → sx_X S E cs G M (pc + 3) lv st) : sx_X S E cs G M pc lv (sx_I x :: st) :=
  fun H locs ls ad hP hD hS hz ha hl => lv_if_gt C.1 C.2.1 hd ht (fun h => (fun h => kt ((sx_lt32 sx_r0 hx).mp h)) h H locs ls ad hP hD hS hz ha hl) (fun h => (fun h => kf (fun q => h ((sx_lt32 sx_r0 hx).mpr q))) h H locs ls ad hP hD hS hz ha hl)
theorem sx_if_le (C : sx_C S Ts own cc E) {off : Int} (tgt : Nat) (hx : sx_r32 x) (hd : decode cc pc = .ok (.ifCond .le off, 3)) (ht : (pc : Int) + off = (tgt : Int)) (kt : x ≤ 0 → sx_X S E cs G M tgt lv st) (kf : ¬ x ≤ 0 → sx_X S E cs G M (pc + 3) lv st) : sx_X S E cs G M pc lv (sx_I x :: st) :=
  fun H locs ls ad hP hD hS hz ha hl => lv_if_le C.1 C.2.1 hd ht (fun h => (fun h => kt ((sx_le32 hx sx_r0).mp h)) h H locs ls ad hP hD hS hz ha hl) (fun h => (fun h => kf (fun q => h ((sx_le32 hx sx_r0).mpr q))) h H locs ls ad hP hD hS hz ha hl)
theorem sx_lcmp_eq (C : sx_C S Ts own cc E) {off : Int} (tgt : Nat) (hx : sx_r64 x) (hy : sx_r64 y) (hd : decode cc pc = .ok (.lcmp, 1)) (hd2 : decode cc (pc + 1) = .ok (.ifCond .eq off, 3)) (ht : ((pc + 1 : Nat) : Int) + off = (tgt : Int)) (kt : x = y → sx_X S E cs G M tgt lv st) (kf : ¬ x = y → sx_X S E cs G M (pc + 4) lv st) : sx_X S E cs G M pc lv (sx_J y :: sx_J x :: st) :=
  fun H locs ls ad hP hD hS hz ha hl => W.lcmp C.1 C.2.1 hd (lv_if_eq C.1 C.2.1 hd2 ht (fun h => (fun h => kt ((sx_eq64 hx hy).mp ((lg_cmp_eq _ _).mp h))) h H locs ls ad hP hD hS hz ha hl) (fun h => (fun h => kf (fun q => h ((lg_cmp_eq _ _).mpr ((sx_eq64 hx hy).mpr q)))) h H locs ls ad hP hD hS hz ha hl))
theorem sx_lcmp_ne (C : sx_C S Ts own cc E) {off : Int} (tgt : Nat) (hx : sx_r64 x) (hy : sx_r64 y) (hd : decode cc pc = .ok (.lcmp, 1)) (hd2 : decode cc (pc + 1) = .ok (.ifCond .ne off, 3)) (ht : ((pc + 1 : Nat) : Int) + off = (tgt : Int)) (kt : ¬ x = y → sx_X S E cs G M tgt lv st) (kf : x = y → sx_X S E cs G M (pc + 4) lv st) : sx_X S E cs G M pc lv (sx_J y :: sx_J x :: st) :=
  fun H locs ls ad hP hD hS hz ha hl => W.lcmp C.1 C.2.1 hd (lv_if_ne C.1 C.2.1 hd2 ht (fun h => (fun h => kt (fun q => h ((lg_cmp_eq _ _).mpr ((sx_eq64 hx hy).mpr q)))) h H locs ls ad hP hD hS hz ha hl) (fun h => (fun h => kf ((sx_eq64 hx hy).mp ((lg_cmp_eq _ _).mp h))) h H locs ls ad hP hD hS hz ha hl))
theorem sx_lcmp_lt (C : sx_C S Ts own cc E) {off : Int} (tgt : Nat) (hx : sx_r64 x) (hy : sx_r64 y) (hd : decode cc pc = .ok (.lcmp, 1)) (hd2 : decode cc (pc + 1) = .ok (.ifCond .lt off, 3)) (ht : ((pc + 1 : Nat) : Int) + off = (tgt : Int)) (kt : x < y → sx_X S E cs G M tgt lv st) (kf : ¬ x < y → sx_X S E cs G M (pc + 4) lv st) : sx_X S E cs G M pc lv (sx_J y :: sx_J x :: st) :=
  fun H locs ls ad hP hD hS hz ha hl => W.lcmp C.1 C.2.1 hd (lv_if_lt C.1 C.2.1 hd2 ht (fun h => (fun h => kt ((sx_lt64 hx hy).mp ((lg_cmp_lt _ _).mp h))) h H locs ls ad hP hD hS hz ha hl) (fun h => (fun h => kf (fun q => h ((lg_cmp_lt _ _).mpr ((sx_lt64 hx hy).mpr q)))) h H locs ls ad hP hD hS hz ha hl))
theorem sx_lcmp_ge (C : sx_C S Ts own cc E) {off : Int} (tgt : Nat) (hx : sx_r64 x) (hy : sx_r64 y) (hd : decode cc pc = .ok (.lcmp, 1)) (hd2 : decode cc (pc + 1) = .ok (.ifCond .ge off, 3)) (ht : ((pc + 1 : Nat) : Int) + off = (tgt : Int)) (kt : y ≤ x → sx_X S E cs G M tgt lv st) (kf : ¬ y ≤ x → sx_X S E cs G M (pc + 4) lv st) : sx_X S E cs G M pc lv (sx_J y :: sx_J x :: st) :=
  fun H locs ls ad hP hD hS hz ha hl => W.lcmp C.1 C.2.1 hd (lv_if_ge C.1 C.2.1 hd2 ht (fun h => (fun h => kt ((sx_le64 hy hx).mp ((lg_cmp_ge _ _).mp h))) h H locs ls ad hP hD hS hz ha hl) (fun h => (fun h => kf (fun q => h ((lg_cmp_ge _ _).mpr ((sx_le64 hy hx).mpr q)))) h H locs ls ad hP hD hS hz ha hl))
theorem sx_lcmp_gt (C : sx_C S Ts own cc E) {off : Int} (tgt : Nat) (hx : sx_r64 x) (hy : sx_r64 y) (hd : decode cc pc = .ok (.lcmp, 1)) (hd2 : decode cc (pc + 1) = .ok (.ifCond .gt off, 3)) (ht : ((pc + 1 : Nat) : Int) + off = (tgt : Int)) (kt : y < x → sx_X S E cs G M tgt lv st) (kf : ¬ y < x → sx_X S E cs G M (pc + 4) lv st) : sx_X S E cs G M pc lv (sx_J y :: sx_J x :: st) :=
  fun H locs ls ad hP hD hS hz ha hl => W.lcmp C.1 C.2.1 hd (lv_if_gt C.1 C.2.1 hd2 ht (fun h => (fun h => kt ((sx_lt64 hy hx).mp ((lg_cmp_gt _ _).mp h))) h H locs ls ad hP hD hS hz ha hl) (fun h => (fun h => kf (fun q => h ((lg_cmp_gt _ _).mpr ((sx_lt64 hy hx).mpr q)))) h H locs ls ad hP hD hS hz ha hl))
theorem sx_lcmp_le (C : sx_C S Ts own cc E) {off : Int} (tgt : Nat) (hx : sx_r64 x) (hy : sx_r64 y) (hd : decode cc pc = .ok (.lcmp, 1)) (hd2 : decode cc (pc + 1) = .ok (.ifCond .le off, 3)) (ht : ((pc + 1 : Nat) : Int) + off = (tgt : Int)) (kt : x ≤ y → sx_X S E cs G M tgt lv st) (kf : ¬ x ≤ y → sx_X S E cs G M (pc + 4) lv st) : sx_X S E cs G M pc lv (sx_J y :: sx_J x :: st) :=
  fun H locs ls ad hP hD hS hz ha hl => W.lcmp C.1 C.2.1 hd (lv_if_le C.1 C.2.1 hd2 ht (fun h => (fun h => kt ((sx_le64 hx hy).mp ((lg_cmp_le _ _).mp h))) h H locs ls ad hP hD hS hz ha hl) (fun h => (fun h => kf (fun q => h ((lg_cmp_le _ _).mpr ((sx_le64 hx hy).mpr q)))) h H locs ls ad hP hD hS hz ha hl))
end SXA
end
section
/-- a field reference: in a method of 'own', constant 'idx' is slot j, of type t, of class ci -/
def sx_F (S : sx_S) (Ts : List Cond) (own : String) (idx ci j t : Nat) : Prop :=
  ∃ (Cn : String) (T : u_T) (N : Nat), S.1[ci]? = some (Cn, T, N) ∧ (∀ w ∈ u_ws Cn T N, w ∈ Ts) ∧ j < N ∧ (S.2.1 ci)[j]? = some t ∧ Cond.fieldLink own idx (T j).1 (T j).2.1 (T j).2.2.1 ∈ Ts
def sx_Pf (S : sx_S) (Ts : List Cond) (own : String) (idx ci j t : Nat) (fin : Bool) (ty : FieldType) : Prop :=
  ∃ (Cn : String) (T : u_T) (N : Nat) (ty0 : Nat → FieldType), S.1[ci]? = some (Cn, T, N) ∧ (∀ w ∈ u_ws Cn T N, w ∈ Ts) ∧ (∀ k, k < N → parseFieldDescriptor (T k).2.2.1 = some (ty0 k)) ∧ (∀ a, a < N → ∀ b, b < N → a ≠ b → (T a).2.1 ≠ (T b).2.1) ∧ j < N ∧ (S.2.1 ci)[j]? = some t ∧ Cond.fieldLink own idx (T j).1 (T j).2.1 (T j).2.2.1 ∈ Ts ∧ (T j).2.2.2 = fin ∧ (fin = true → (T j).1 = own) ∧ parseFieldDescriptor (T j).2.2.1 = some ty
section SXM
variable {S : sx_S} {E : sx_E} {cs : Nat × Nat} {G : sx_G} {M : sx_M0} {pc : Nat} {lv : List (Nat × sx_V)} {st : List sx_V} {Ts : List Cond} {own : String} {cc : ByteArray} {idx ci j t : Nat} {k : Nat}
theorem sx_obj {tc : Nat → ClassId} {ad : Nat → Nat} (hk : k < G.1) (hs : G.2.1 k = (0, ci)) : (sx_w S tc ad G M)[k]? = some (ad k, .inr (ci, sx_fs (S.2.1 ci) ad (M k) (G.2.2 k))) := by
  rw [sx_w_get hk, hs]
  rfl
theorem sx_get (C : sx_C S Ts own cc E) (F : sx_F S Ts own idx ci j t) (hk : k < G.1) (hs : G.2.1 k = (0, ci)) (hd : decode cc pc = .ok (.getfield idx, 3)) (kk : sx_X S E cs G M (pc + 3) lv (sx_av t (M k j) (G.2.2 k j) :: st)) : sx_X S E cs G M pc lv (sx_A k :: st) := by
  obtain ⟨Cn, T, N, hc, hin, hj, hft, hlink⟩ := F
  intro H locs ls ad hP hD hS hz ha hl
  exact va_get (D := sx_D E) C.1 C.2.1 C.2.2.2.2.1 hin C.2.2.2.1 C.2.2.2.2.2.2.1 hP k (sx_obj hk hs) hc j hj (C.2.2.2.2.1 _ hlink) (fun _ h => h) (sx_fs_get hft) hd (kk H locs ls ad hP hD hS hz ha hl)
theorem sx_geti (C : sx_C S Ts own cc E) (F : sx_F S Ts own idx ci j 0) (hk : k < G.1) (hs : G.2.1 k = (0, ci)) (hd : decode cc pc = .ok (.getfield idx, 3)) (kk : sx_X S E cs G M (pc + 3) lv (sx_I (M k j) :: st)) : sx_X S E cs G M pc lv (sx_A k :: st) := sx_get C F hk hs hd kk
theorem sx_getz (C : sx_C S Ts own cc E) (F : sx_F S Ts own idx ci j 2) (hk : k < G.1) (hs : G.2.1 k = (0, ci)) (hd : decode cc pc = .ok (.getfield idx, 3)) (kk : sx_X S E cs G M (pc + 3) lv (sx_I (M k j) :: st)) : sx_X S E cs G M pc lv (sx_A k :: st) := sx_get C F hk hs hd kk
theorem sx_getl (C : sx_C S Ts own cc E) (F : sx_F S Ts own idx ci j 1) (hk : k < G.1) (hs : G.2.1 k = (0, ci)) (hd : decode cc pc = .ok (.getfield idx, 3)) (kk : sx_X S E cs G M (pc + 3) lv (sx_J (M k j) :: st)) : sx_X S E cs G M pc lv (sx_A k :: st) := sx_get C F hk hs hd kk
theorem sx_getr (C : sx_C S Ts own cc E) (F : sx_F S Ts own idx ci j 3) (r : Nat) (hk : k < G.1) (hs : G.2.1 k = (0, ci)) (hr : G.2.2 k j = some r) (hd : decode cc pc = .ok (.getfield idx, 3)) (kk : sx_X S E cs G M (pc + 3) lv (sx_A r :: st)) : sx_X S E cs G M pc lv (sx_A k :: st) := by
  refine sx_get C F hk hs hd ?_
  rw [hr]
  exact kk
theorem sx_put0 (C : sx_C S Ts own cc E) {ty : FieldType} (F : sx_Pf S Ts own idx ci j t false ty) (hk : k < G.1) (hs : G.2.1 k = (0, ci)) (hd : decode cc pc = .ok (.putfield idx, 3)) {v : sx_V} {G' : sx_G} {M' : sx_M0} (hG1 : G'.1 = G.1) (hG2 : G'.2.1 = G.2.1) (hM : ∀ a, a ≠ k → M' a = M a) (hR : ∀ a, a ≠ k → G'.2.2 a = G.2.2 a) (hm : ∀ i, i ≠ j → M' k i = M k i) (hr : ∀ i, i ≠ j → G'.2.2 k i = G.2.2 k i) (hv : v = sx_av t (M' k j) (G'.2.2 k j)) (hn : ∀ ad, narrow ty (sx_cv ad v) = sx_cv ad v) (hf : ∀ ad, fits ty (sx_cv ad v) = true)
    (kk : sx_X S E cs G' M' (pc + 3) lv st) : sx_X S E cs G M pc lv (v :: sx_A k :: st) := by
  obtain ⟨Cn, T, N, ty0, hc, hin, hty, hnm, hj, hft, hlink, hfin, -, hpd⟩ := F
  intro H locs ls ad hP hD hS hz ha hl
  have hlen : j < (sx_fs (S.2.1 ci) ad (M k) (G.2.2 k)).length := by
    have := (List.getElem?_eq_some_iff.mp hft).1
    simpa [sx_fs] using this
  refine va_put (D := sx_D E) C.1 C.2.1 C.2.2.2.2.1 hin ty0 hty hnm C.2.2.2.1 C.2.2.2.2.2.2.1 hP hD hS k (sx_obj hk hs) hc j hj (C.2.2.2.2.1 _ hlink) (fun _ h => h) hfin hpd (hn ad) (hf ad) hlen hd (fun H1 locs1 hP1 hD1 hS1 => ?_)
  have e : (sx_w S (sx_tc E) ad G M).set k (ad k, .inr (ci, (sx_fs (S.2.1 ci) ad (M k) (G.2.2 k)).set j (sx_cv ad v))) = sx_w S (sx_tc E) ad G' M' :=
    sx_w_set hk hG1 hG2 hR hM (by rw [hs, sx_fs_set (m' := M' k) (r' := G'.2.2 k) hft hm hr (by rw [hv])]; rfl)
  rw [e] at hP1 hD1
  exact kk H1 locs1 ls ad hP1 hD1 hS1 (by rw [hG1]; exact hz) ha hl
theorem sx_putF0 (C : sx_C S Ts own cc E) (hini : (sx_me E).name = "<init>") {ty : FieldType} (F : sx_Pf S Ts own idx ci j t true ty) (hk : k < G.1) (hs : G.2.1 k = (0, ci)) (hd : decode cc pc = .ok (.putfield idx, 3)) {v : sx_V} {G' : sx_G} {M' : sx_M0} (hG1 : G'.1 = G.1) (hG2 : G'.2.1 = G.2.1) (hM : ∀ a, a ≠ k → M' a = M a) (hR : ∀ a, a ≠ k → G'.2.2 a = G.2.2 a) (hm : ∀ i, i ≠ j → M' k i = M k i) (hr : ∀ i, i ≠ j → G'.2.2 k i = G.2.2 k i) (hv : v = sx_av t (M' k j) (G'.2.2 k j)) (hn : ∀ ad, narrow ty (sx_cv ad v) = sx_cv ad v) (hf : ∀ ad, fits ty (sx_cv ad v) = true)
    (kk : sx_X S E cs G' M' (pc + 3) lv st) : sx_X S E cs G M pc lv (v :: sx_A k :: st) := by
  obtain ⟨Cn, T, N, ty0, hc, hin, hty, hnm, hj, hft, hlink, hfin, hdecl, hpd⟩ := F
  intro H locs ls ad hP hD hS hz ha hl
  have hlen : j < (sx_fs (S.2.1 ci) ad (M k) (G.2.2 k)).length := by
    have := (List.getElem?_eq_some_iff.mp hft).1
    simpa [sx_fs] using this
  refine va_putF (D := sx_D E) C.1 C.2.1 C.2.2.2.2.1 hin ty0 hty hnm C.2.2.2.1 C.2.2.2.2.2.2.1 hP hD hS k (sx_obj hk hs) hc j hj (C.2.2.2.2.1 _ hlink) (fun _ h => h) hfin hini (hdecl rfl) hpd (hn ad) (hf ad) hlen hd (fun H1 locs1 hP1 hD1 hS1 => ?_)
  have e : (sx_w S (sx_tc E) ad G M).set k (ad k, .inr (ci, (sx_fs (S.2.1 ci) ad (M k) (G.2.2 k)).set j (sx_cv ad v))) = sx_w S (sx_tc E) ad G' M' :=
    sx_w_set hk hG1 hG2 hR hM (by rw [hs, sx_fs_set (m' := M' k) (r' := G'.2.2 k) hft hm hr (by rw [hv])]; rfl)
  rw [e] at hP1 hD1
  exact kk H1 locs1 ls ad hP1 hD1 hS1 (by rw [hG1]; exact hz) ha hl
theorem sx_puti (C : sx_C S Ts own cc E) (F : sx_Pf S Ts own idx ci j 0 false .int) {x : Int} (hk : k < G.1) (hs : G.2.1 k = (0, ci)) (hd : decode cc pc = .ok (.putfield idx, 3)) (kk : sx_X S E cs G (sx_up M k j x) (pc + 3) lv st) : sx_X S E cs G M pc lv (sx_I x :: sx_A k :: st) :=
  sx_put0 C F hk hs hd (M' := sx_up M k j x) rfl rfl (fun _ h => sx_up_ne h) (fun _ _ => rfl) (fun _ h => sx_up_slot h) (fun _ _ => rfl) (by rw [sx_up_at]; rfl) (fun _ => rfl) (fun _ => rfl) kk
theorem sx_putl (C : sx_C S Ts own cc E) (F : sx_Pf S Ts own idx ci j 1 false .long) {x : Int} (hk : k < G.1) (hs : G.2.1 k = (0, ci)) (hd : decode cc pc = .ok (.putfield idx, 3)) (kk : sx_X S E cs G (sx_up M k j x) (pc + 3) lv st) : sx_X S E cs G M pc lv (sx_J x :: sx_A k :: st) :=
  sx_put0 C F hk hs hd (M' := sx_up M k j x) rfl rfl (fun _ h => sx_up_ne h) (fun _ _ => rfl) (fun _ h => sx_up_slot h) (fun _ _ => rfl) (by rw [sx_up_at]; rfl) (fun _ => rfl) (fun _ => rfl) kk
theorem sx_bit {x : Int} (h : x = 0 ∨ x = 1) : narrow .boolean (.int (Int32.ofInt x)) = .int (Int32.ofInt x) ∧ fits .boolean (.int (Int32.ofInt x)) = true := by
  rcases h with rfl | rfl <;> decide
theorem sx_putz (C : sx_C S Ts own cc E) (F : sx_Pf S Ts own idx ci j 2 false .boolean) {x : Int} (hx : x = 0 ∨ x = 1) (hk : k < G.1) (hs : G.2.1 k = (0, ci)) (hd : decode cc pc = .ok (.putfield idx, 3)) (kk : sx_X S E cs G (sx_up M k j x) (pc + 3) lv st) : sx_X S E cs G M pc lv (sx_I x :: sx_A k :: st) :=
  sx_put0 C F hk hs hd (M' := sx_up M k j x) rfl rfl (fun _ h => sx_up_ne h) (fun _ _ => rfl) (fun _ h => sx_up_slot h) (fun _ _ => rfl) (by rw [sx_up_at]; rfl) (fun _ => (sx_bit hx).1) (fun _ => (sx_bit hx).2) kk
theorem sx_putFr (C : sx_C S Ts own cc E) (hini : (sx_me E).name = "<init>") {ty : FieldType} (F : sx_Pf S Ts own idx ci j 3 true ty) {x : Nat} (hty : (∃ n, ty = .object n) ∨ ∃ n, ty = .array n) (hk : k < G.1) (hs : G.2.1 k = (0, ci)) (hd : decode cc pc = .ok (.putfield idx, 3)) (kk : sx_X S E cs (G.1, G.2.1, sx_upR G.2.2 k j (some x)) M (pc + 3) lv st) : sx_X S E cs G M pc lv (sx_A x :: sx_A k :: st) :=
  sx_putF0 C hini F hk hs hd (G' := (G.1, G.2.1, sx_upR G.2.2 k j (some x))) (M' := M) rfl rfl (fun _ _ => rfl) (fun _ h => sx_upR_ne h) (fun _ _ => rfl) (fun _ h => sx_upR_slot h) (by show _ = sx_av 3 _ (sx_upR G.2.2 k j (some x) k j); rw [sx_upR_at]; rfl) (fun _ => by rcases hty with ⟨n, rfl⟩ | ⟨n, rfl⟩ <;> rfl) (fun _ => by rcases hty with ⟨n, rfl⟩ | ⟨n, rfl⟩ <;> rfl) kk
-- arrays
theorem sx_nI (j : Nat) : Int32.ofInt (j : Int) = nI j := Int32.ofInt_eq_ofNat
theorem sx_idx {j n : Nat} (hj : j < n) (hn : n < 2147483648) : vp_in (Int32.ofInt (j : Int)) n := by rw [sx_nI]; exact vp_in_nI hj (by omega)
theorem sx_clamp {j : Nat} (hn : j < 2147483648) : (Int32.ofInt (j : Int)).toNatClampNeg = j := by rw [sx_nI]; exact nI_clamp (by omega)
theorem sx_arrL {tc : Nat → ClassId} {ad : Nat → Nat} {a n : Nat} (hk : k < G.1) (hs : G.2.1 k = (a + 1, n)) (ht : S.2.2[a]? = some .long) : (sx_w S tc ad G M)[k]? = some (ad k, .inl (tc a, n, .inr (.inl (fun j => Int64.ofInt (M k j))))) := by
  rw [sx_w_get hk, hs]
  simp only [sx_cell, ht, sx_arr]
theorem sx_arrI {tc : Nat → ClassId} {ad : Nat → Nat} {a n : Nat} (hk : k < G.1) (hs : G.2.1 k = (a + 1, n)) (ht : S.2.2[a]? = some .int) : (sx_w S tc ad G M)[k]? = some (ad k, .inl (tc a, n, .inl (fun j => Int32.ofInt (M k j)))) := by
  rw [sx_w_get hk, hs]
  simp only [sx_cell, ht, sx_arr]
theorem sx_arrZ {tc : Nat → ClassId} {ad : Nat → Nat} {a n : Nat} (hk : k < G.1) (hs : G.2.1 k = (a + 1, n)) (ht : S.2.2[a]? = some .boolean) : (sx_w S tc ad G M)[k]? = some (ad k, .inl (tc a, n, .inl (fun j => Int32.ofInt (M k j)))) := by
  rw [sx_w_get hk, hs]
  simp only [sx_cell, ht, sx_arr]
theorem sx_arrR {tc : Nat → ClassId} {ad : Nat → Nat} {a n : Nat} {t : FieldType} (hk : k < G.1) (hs : G.2.1 k = (a + 1, n)) (ht : S.2.2[a]? = some (.array t)) : (sx_w S tc ad G M)[k]? = some (ad k, .inl (tc a, n, .inr (.inr (.inr (.inr (fun j => (G.2.2 k j).map ad)))))) := by
  rw [sx_w_get hk, hs]
  simp only [sx_cell, ht, sx_arr]
theorem sx_laload (C : sx_C S Ts own cc E) {a n : Nat} {i : Int} (j : Nat) (hk : k < G.1) (hs : G.2.1 k = (a + 1, n)) (ht : S.2.2[a]? = some .long) (hi : i = (j : Int)) (hj : j < n) (hn : n < 2147483648) (hd : decode cc pc = .ok (.laload, 1)) (kk : sx_X S E cs G M (pc + 1) lv (sx_J (M k j) :: st)) : sx_X S E cs G M pc lv (sx_I i :: sx_A k :: st) := by
  subst hi
  intro H locs ls ad hP hD hS hz ha hl
  refine va_lald (D := sx_D E) C.1 C.2.1 C.2.2.2.2.2.2.1 hP k a (sx_arrL hk hs ht) (sx_ty_get ht) (sx_idx hj hn) hd ?_
  rw [sx_clamp (by omega)]
  exact kk H locs ls ad hP hD hS hz ha hl
theorem sx_iaload (C : sx_C S Ts own cc E) {a n : Nat} {i : Int} (j : Nat) (hk : k < G.1) (hs : G.2.1 k = (a + 1, n)) (ht : S.2.2[a]? = some .int) (hi : i = (j : Int)) (hj : j < n) (hn : n < 2147483648) (hd : decode cc pc = .ok (.iaload, 1)) (kk : sx_X S E cs G M (pc + 1) lv (sx_I (M k j) :: st)) : sx_X S E cs G M pc lv (sx_I i :: sx_A k :: st) := by
  subst hi
  intro H locs ls ad hP hD hS hz ha hl
  refine va_iald (D := sx_D E) C.1 C.2.1 C.2.2.2.2.2.2.1 hP k a (sx_arrI hk hs ht) (sx_ty_get ht) (sx_idx hj hn) hd ?_
  rw [sx_clamp (by omega)]
  exact kk H locs ls ad hP hD hS hz ha hl
theorem sx_zaload (C : sx_C S Ts own cc E) {a n : Nat} {i : Int} (j : Nat) (hk : k < G.1) (hs : G.2.1 k = (a + 1, n)) (ht : S.2.2[a]? = some .boolean) (hi : i = (j : Int)) (hj : j < n) (hn : n < 2147483648) (hd : decode cc pc = .ok (.baload, 1)) (kk : sx_X S E cs G M (pc + 1) lv (sx_I (M k j) :: st)) : sx_X S E cs G M pc lv (sx_I i :: sx_A k :: st) := by
  subst hi
  intro H locs ls ad hP hD hS hz ha hl
  refine va_zald (D := sx_D E) C.1 C.2.1 C.2.2.2.2.2.2.1 hP k a (sx_arrZ hk hs ht) (sx_ty_get ht) (sx_idx hj hn) hd ?_
  rw [sx_clamp (by omega)]
  exact kk H locs ls ad hP hD hS hz ha hl
theorem sx_aaload (C : sx_C S Ts own cc E) {a n : Nat} {i : Int} {t : FieldType} (j r : Nat) (hk : k < G.1) (hs : G.2.1 k = (a + 1, n)) (ht : S.2.2[a]? = some (.array t)) (hi : i = (j : Int)) (hj : j < n) (hn : n < 2147483648) (hr : G.2.2 k j = some r) (hd : decode cc pc = .ok (.aaload, 1)) (kk : sx_X S E cs G M (pc + 1) lv (sx_A r :: st)) : sx_X S E cs G M pc lv (sx_I i :: sx_A k :: st) := by
  subst hi
  intro H locs ls ad hP hD hS hz ha hl
  have hin := sx_idx hj hn
  refine W.aald (v := va_rf ((G.2.2 k j).map ad)) (ty := .array t) C.1 C.2.1 (hP k _ (sx_arrR hk hs ht)) ((C.2.2.2.2.2.2.1.2 a _ (sx_ty_get ht)).1 n (fun j => va_rf ((G.2.2 k j).map ad))) rfl (fun q => by cases q) (by show ¬ (_ < 0 ∨ (arrV _ _ _).slots.size ≤ _); rw [arrV_size]; exact hin) (by show (arrV _ _ _).slots[_]? = _; rw [sx_clamp (by omega), arrV_read _ _ hj]) rfl rfl hd ?_
  rw [hr]
  exact kk H locs ls ad hP hD hS hz ha hl
theorem sx_alen {C0 : sx_C S Ts own cc E} {a n : Nat} {t : FieldType} (hk : k < G.1) (hs : G.2.1 k = (a + 1, n)) (ht : S.2.2[a]? = some t) (hd : decode cc pc = .ok (.arraylength, 1)) (kk : sx_X S E cs G M (pc + 1) lv (sx_I (n : Int) :: st)) : sx_X S E cs G M pc lv (sx_A k :: st) := by
  intro H locs ls ad hP hD hS hz ha hl
  have he : (sx_w S (sx_tc E) ad G M)[k]? = some (ad k, .inl (sx_tc E a, sx_arr (some t) n ad (M k) (G.2.2 k))) := by
    rw [sx_w_get hk, hs]
    simp only [sx_cell, ht]
  refine va_alen (D := sx_D E) C0.1 C0.2.1 C0.2.2.2.2.2.2.1 hP k a he (sx_ty_get ht) (v := Int32.ofInt (n : Int)) ?_ hd (kk H locs ls ad hP hD hS hz ha hl)
  rw [Int32.ofInt_eq_ofNat]
  unfold sx_arr
  split <;> rfl
theorem sx_lastore (C : sx_C S Ts own cc E) {a n : Nat} {i x : Int} (j : Nat) (hk : k < G.1) (hs : G.2.1 k = (a + 1, n)) (ht : S.2.2[a]? = some .long) (hi : i = (j : Int)) (hj : j < n) (hn : n < 2147483648) (hd : decode cc pc = .ok (.lastore, 1)) (kk : sx_X S E cs G (sx_up M k j x) (pc + 1) lv st) : sx_X S E cs G M pc lv (sx_J x :: sx_I i :: sx_A k :: st) := by
  subst hi
  intro H locs ls ad hP hD hS hz ha hl
  refine va_last (D := sx_D E) C.1 C.2.1 C.2.2.2.2.2.2.1 hP hD hS k a (sx_arrL hk hs ht) (sx_ty_get ht) (sx_idx hj hn) hd (fun H1 locs1 hP1 hD1 hS1 => ?_)
  rw [sx_clamp (by omega)] at hP1 hD1
  have e : (sx_w S (sx_tc E) ad G M).set k (ad k, .inl (sx_tc E a, n, .inr (.inl (vp_updL (fun b => Int64.ofInt (M k b)) j (Int64.ofInt x))))) = sx_w S (sx_tc E) ad G (sx_up M k j x) :=
    sx_w_set hk rfl rfl (fun _ _ => rfl) (fun _ h => sx_up_ne h) (by
      rw [hs]
      simp only [sx_cell, ht, sx_arr]
      congr 5
      funext b
      by_cases hb : b = j
      · subst hb; rw [sx_up_at]; simp [vp_updL]
      · rw [sx_up_slot hb]; simp [vp_updL, hb])
  rw [e] at hP1 hD1
  exact kk H1 locs1 ls ad hP1 hD1 hS1 hz ha hl
theorem sx_iastore (C : sx_C S Ts own cc E) {a n : Nat} {i x : Int} (j : Nat) (hk : k < G.1) (hs : G.2.1 k = (a + 1, n)) (ht : S.2.2[a]? = some .int) (hi : i = (j : Int)) (hj : j < n) (hn : n < 2147483648) (hd : decode cc pc = .ok (.iastore, 1)) (kk : sx_X S E cs G (sx_up M k j x) (pc + 1) lv st) : sx_X S E cs G M pc lv (sx_I x :: sx_I i :: sx_A k :: st) := by
  subst hi
  intro H locs ls ad hP hD hS hz ha hl
  refine va_iast (D := sx_D E) C.1 C.2.1 C.2.2.2.2.2.2.1 hP hD hS k a (sx_arrI hk hs ht) (sx_ty_get ht) (sx_idx hj hn) hd (fun H1 locs1 hP1 hD1 hS1 => ?_)
  rw [sx_clamp (by omega)] at hP1 hD1
  have e : (sx_w S (sx_tc E) ad G M).set k (ad k, .inl (sx_tc E a, n, .inl (upd (fun b => Int32.ofInt (M k b)) j (Int32.ofInt x)))) = sx_w S (sx_tc E) ad G (sx_up M k j x) :=
    sx_w_set hk rfl rfl (fun _ _ => rfl) (fun _ h => sx_up_ne h) (by
      rw [hs]
      simp only [sx_cell, ht, sx_arr]
      congr 4
      funext b
      by_cases hb : b = j
      · subst hb; rw [sx_up_at]; simp [upd]
      · rw [sx_up_slot hb]; simp [upd, hb])
  rw [e] at hP1 hD1
  exact kk H1 locs1 ls ad hP1 hD1 hS1 hz ha hl
theorem sx_narZ {x : Int} (h : x = 0 ∨ x = 1) : vp_nar .boolean (Int32.ofInt x) = Int32.ofInt x := by
  rcases h with rfl | rfl <;> decide
theorem sx_zastore (C : sx_C S Ts own cc E) {a n : Nat} {i x : Int} (j : Nat) (hx : x = 0 ∨ x = 1) (hk : k < G.1) (hs : G.2.1 k = (a + 1, n)) (ht : S.2.2[a]? = some .boolean) (hi : i = (j : Int)) (hj : j < n) (hn : n < 2147483648) (hd : decode cc pc = .ok (.bastore, 1)) (kk : sx_X S E cs G (sx_up M k j x) (pc + 1) lv st) : sx_X S E cs G M pc lv (sx_I x :: sx_I i :: sx_A k :: st) := by
  subst hi
  intro H locs ls ad hP hD hS hz ha hl
  refine va_zast (D := sx_D E) C.1 C.2.1 C.2.2.2.2.2.2.1 hP hD hS k a (sx_arrZ hk hs ht) (sx_ty_get ht) (sx_idx hj hn) hd (fun H1 locs1 hP1 hD1 hS1 => ?_)
  rw [sx_clamp (by omega), sx_narZ hx] at hP1 hD1
  have e : (sx_w S (sx_tc E) ad G M).set k (ad k, .inl (sx_tc E a, n, .inl (upd (fun b => Int32.ofInt (M k b)) j (Int32.ofInt x)))) = sx_w S (sx_tc E) ad G (sx_up M k j x) :=
    sx_w_set hk rfl rfl (fun _ _ => rfl) (fun _ h => sx_up_ne h) (by
      rw [hs]
      simp only [sx_cell, ht, sx_arr]
      congr 4
      funext b
      by_cases hb : b = j
      · subst hb; rw [sx_up_at]; simp [upd]
      · rw [sx_up_slot hb]; simp [upd, hb])
  rw [e] at hP1 hD1
  exact kk H1 locs1 ls ad hP1 hD1 hS1 hz ha hl
end SXM
end
section
def sx_wd (v : sx_V) : Nat := if sx_wide v = true then 2 else 1
theorem sx_wd_cat (ad : Nat → Nat) (v : sx_V) : (sx_cv ad v).category = sx_wd v := by
  rcases v with x | x | r | a
  · rfl
  · rfl
  · cases r <;> rfl
  · rfl
theorem sx_wds (ad : Nat → Nat) (st : List sx_V) : ((st.map (sx_cv ad)).map fun v => v.category) = st.map sx_wd := by
  rw [List.map_map]
  exact List.map_congr_left (fun v _ => sx_wd_cat ad v)
def sx_args : Nat → List sx_V → List (Nat × sx_V)
  | _, [] => []
  | i, v :: vs => (i, v) :: sx_args (if sx_wide v = true then i + 2 else i + 1) vs
theorem sx_args_eq (ad : Nat → Nat) : ∀ (vs : List sx_V) (i : Nat), lv_args i (vs.map (sx_cv ad)) = sx_lv ad (sx_args i vs)
  | [], _ => rfl
  | v :: vs, i => by
    have h : (if (sx_cv ad v).category = 2 then i + 2 else i + 1) = (if sx_wide v = true then i + 2 else i + 1) := by
      rw [sx_wd_cat]
      unfold sx_wd
      cases sx_wide v <;> rfl
    show (i, sx_cv ad v) :: lv_args (if (sx_cv ad v).category = 2 then i + 2 else i + 1) (vs.map (sx_cv ad)) = _
    rw [h, sx_args_eq ad vs]
    rfl
theorem sx_slots (ad : Nat → Nat) : ∀ (vs : List sx_V), (lg_sl (vs.map (sx_cv ad))).length = (vs.map sx_wd).sum
  | [] => rfl
  | v :: vs => by
    have h := sx_slots ad vs
    have hc := sx_wd_cat ad v
    show (List.flatMap _ (sx_cv ad v :: vs.map (sx_cv ad))).length = _
    rw [List.flatMap_cons, List.length_append]
    have h2 : (List.flatMap (fun v => if v.category = 2 then [Slot.val v, Slot.second] else [Slot.val v]) (vs.map (sx_cv ad))).length = (vs.map sx_wd).sum := h
    rw [h2, List.map_cons, List.sum_cons]
    congr 1
    rw [hc]
    unfold sx_wd
    cases sx_wide v <;> rfl
/-- a contract's end, and its start -/
def sx_Qc (S : sx_S) (D : va_G) (tc : Nat → ClassId) (ad0 : Nat → Nat) (sz0 : Nat) (A : Nat → Prop) (Po : Option sx_V → sx_G → sx_M0 → Prop) : Array Value → State → Outcome → State → Prop := fun _ st oc t =>
  (∃ (r : Option sx_V) (G : sx_G) (M : sx_M0) (ad : Nat → Nat), oc = .returned (r.map (sx_cv ad)) ∧ Po r G M ∧ sz0 ≤ G.1 ∧ (∀ k, k < sz0 → ad k = ad0 k) ∧ va_P D S.1 (sx_w S tc ad G M) t.heap ∧ va_K D S.1 (sx_ty S tc) t ∧ va_D A (sx_w S tc ad G M)) ∧ va_F A st t
def sx_Pc (S : sx_S) (D : va_G) (tc : Nat → ClassId) (ad : Nat → Nat) (hs : Nat) (args : List sx_V) (G : sx_G) (M : sx_M0) : Array Value → State → Prop :=
  va_Pc (args.map (sx_cv ad)) (fun U => U.heap.size = hs ∧ va_P D S.1 (sx_w S tc ad G M) U.heap ∧ va_K D S.1 (sx_ty S tc) U ∧ va_D (fun _ => True) (sx_w S tc ad G M))
/-- THE CONTRACT: called with these arguments over this world, method y answers r and leaves the world G', M', with Po r G' M' -/
def sx_Met (S : sx_S) (l : Launch) (D : va_G) (tc : Nat → ClassId) (y : MethodName) (ws : List Cond) (rm : Room) (args : List sx_V) (G : sx_G) (M : sx_M0) (Po : Option sx_V → sx_G → sx_M0 → Prop) : Prop :=
  ∀ (ad : Nat → Nat) (hs : Nat), Met l y ws rm (sx_Pc S D tc ad hs args G M) (sx_Qc S D tc ad G.1 (va_A (sx_w S tc ad G M) hs) Po) rm.cells rm.slots (va_A (sx_w S tc ad G M) hs)
def sx_Ret (S : sx_S) (ret : Option FieldType) (rm : Room) (Po : Option sx_V → sx_G → sx_M0 → Prop) (E : sx_E) : Prop :=
  (sx_me E).sig.returnType = ret ∧ sx_Q E = MQ (sx_b E) (sx_Qc S (sx_D E) (sx_tc E) (sx_ad E) (sx_sz E) (sx_AA E) Po) (sx_a E) (sx_s E) rm.cells rm.slots (sx_AA E) ∧ sx_R E = rm
theorem sx_enter {S : sx_S} {l : Launch} {D : va_G} {tc : Nat → ClassId} {y : MethodName} {ws ws' : List Cond} {rm : Room} {cc : ByteArray} {maxL : Nat} {ret : Option FieldType} {args : List sx_V} {G : sx_G} {M : sx_M0} {Po : Option sx_V → sx_G → sx_M0 → Prop} (hy : plainName y.cls = true) (hw : ws = Cond.code y cc maxL ret :: ws') (hn : (args.map sx_wd).sum ≤ maxL)
    (body : ∀ E : sx_E, sx_C S ws y.cls cc E → sx_Ret S ret rm Po E → (sx_me E).name = y.name → sx_nL E = maxL → sx_X S E (0, 0) G M 0 (sx_args 0 args) []) : sx_Met S l D tc y ws rm args G M Po := by
  intro ad hs
  refine Met.ofW (cc := cc) (maxL := maxL) (ret := ret) hy hw ?_
  intro p e s m args' below meth c s₁ B hml hv
  obtain ⟨rfl, hsz, hP, hK, hD0⟩ := hv
  have hl := lv_entry (args.map (sx_cv ad)) (n := maxL) (by rw [sx_slots]; exact hn)
  rw [sx_args_eq] at hl
  rw [lg_entry_eq]
  exact body ((p, l, e, rm, s, m, (args.map (sx_cv ad)).toArray, below, meth, c), (va_A (sx_w S tc ad G M) hs, D, tc, ad, G.1, maxL, MQ below (sx_Qc S D tc ad G.1 (va_A (sx_w S tc ad G M) hs) Po) (args.map (sx_cv ad)).toArray s rm.cells rm.slots (va_A (sx_w S tc ad G M) hs)))
    ⟨B.exec, B.bytes, hml, findClass_of_methodNamed B.named, atoms_spec (ws := ws) B.pre, B.notSynchronized, hK, fun q h => Or.inr (by rw [← hsz]; exact h)⟩ ⟨B.returns, rfl, rfl⟩ (name_of_methodNamed B.named B.method).1 rfl s.heap [] _ ad hP hD0.self va_S.rf (Nat.le_refl _) (fun _ _ => rfl) hl
def sx_ok (n : Nat) (v : sx_V) : Bool := match v with
  | .inr (.inr (.inl (some k))) => decide (k < n)
  | _ => true
theorem sx_ok_cv {n n' : Nat} {ad ad' : Nat → Nat} (h : ∀ k, k < n → ad' k = ad k) (hn : n' ≤ n) {v : sx_V} (hv : sx_ok n' v = true) : sx_cv ad' v = sx_cv ad v := by
  rcases v with x | x | r | a
  · rfl
  · rfl
  · cases r with
    | none => rfl
    | some k =>
      have hk : k < n' := of_decide_eq_true hv
      show va_rf (some (ad' k)) = va_rf (some (ad k))
      rw [h k (Nat.lt_of_lt_of_le hk hn)]
  · rfl
section SXC
variable {S : sx_S} {E : sx_E} {cs : Nat × Nat} {G : sx_G} {M : sx_M0} {pc : Nat} {lv : List (Nat × sx_V)} {st : List sx_V} {Ts : List Cond} {own : String} {cc : ByteArray} {rm rm0 : Room} {Po Po0 : Option sx_V → sx_G → sx_M0 → Prop}
theorem sx_widen {c2 : Nat × Nat} (h1 : cs.1 ≤ c2.1) (h2 : cs.2 ≤ c2.2) (k : sx_X S E c2 G M pc lv st) : sx_X S E cs G M pc lv st :=
  fun H locs ls ad hP hD hS hz ha hl => W.widen h1 h2 (k H locs ls ad hP hD hS hz ha hl)
-- returns
theorem sx_post (C : sx_C S Ts own cc E) {H : Heap} {locs : List Loc} {ad : Nat → Nat} (hP : va_P (sx_D E) S.1 (sx_w S (sx_tc E) ad G M) H) (hD : va_D (sx_AA E) (sx_w S (sx_tc E) ad G M)) (hS : va_S (sx_AA E) (sx_s E).heap H locs) (hz : sx_sz E ≤ G.1) (ha : ∀ k, k < sx_sz E → ad k = sx_ad E k) (r : Option sx_V) (hpo : Po r G M) : ∀ t : State, t.heap = H → (sx_s E).WarmedH t.vm → sx_Qc S (sx_D E) (sx_tc E) (sx_ad E) (sx_sz E) (sx_AA E) Po (sx_a E) (sx_s E) (.returned (r.map (sx_cv ad))) t :=
  fun t ht hW => ⟨⟨r, G, M, ad, rfl, hpo, hz, ha, by rw [ht]; exact hP, va_K.moved hW.alike C.2.2.2.2.2.2.1, hD⟩, hS.F ht⟩
theorem sx_ireturn (C : sx_C S Ts own cc E) (Rr : sx_Ret S (some .int) rm Po E) {x : Int} (hcs : cs = (rm.cells, rm.slots)) (hd : decode cc pc = .ok (.ireturn, 1)) (hpo : Po (some (sx_I x)) G M) : sx_X S E cs G M pc lv [sx_I x] := by
  subst hcs
  intro H locs ls ad hP hD hS hz ha hl
  delta sx_W
  rw [Rr.2.1]
  exact W.iret (v := Int32.ofInt x) C.1 C.2.1 Rr.1 (sx_post C hP hD hS hz ha (some (sx_I x)) hpo) hS.2.2 hd C.2.2.2.2.2.1
theorem sx_zreturn (C : sx_C S Ts own cc E) (Rr : sx_Ret S (some .boolean) rm Po E) {x : Int} (hx : x = 0 ∨ x = 1) (hcs : cs = (rm.cells, rm.slots)) (hd : decode cc pc = .ok (.ireturn, 1)) (hpo : Po (some (sx_I x)) G M) : sx_X S E cs G M pc lv [sx_I x] := by
  subst hcs
  intro H locs ls ad hP hD hS hz ha hl
  delta sx_W
  rw [Rr.2.1]
  exact W.zret (v := Int32.ofInt x) (ty := .boolean) C.1 C.2.1 Rr.1 (sx_bit hx).1 (sx_post C hP hD hS hz ha (some (sx_I x)) hpo) hS.2.2 hd C.2.2.2.2.2.1
theorem sx_lreturn (C : sx_C S Ts own cc E) (Rr : sx_Ret S (some .long) rm Po E) {x : Int} (hcs : cs = (rm.cells, rm.slots)) (hd : decode cc pc = .ok (.lreturn, 1)) (hpo : Po (some (sx_J x)) G M) : sx_X S E cs G M pc lv [sx_J x] := by
  subst hcs
  intro H locs ls ad hP hD hS hz ha hl
  delta sx_W
  rw [Rr.2.1]
  exact W.lret (v := Int64.ofInt x) C.1 C.2.1 Rr.1 (sx_post C hP hD hS hz ha (some (sx_J x)) hpo) hS.2.2 hd C.2.2.2.2.2.1
theorem sx_return (C : sx_C S Ts own cc E) (Rr : sx_Ret S none rm Po E) (hcs : cs = (rm.cells, rm.slots)) (hd : decode cc pc = .ok (.return_, 1)) (hpo : Po none G M) : sx_X S E cs G M pc lv [] := by
  subst hcs
  intro H locs ls ad hP hD hS hz ha hl
  delta sx_W
  rw [Rr.2.1]
  exact W.vret C.1 C.2.1 Rr.1 (sx_post C hP hD hS hz ha none hpo) hS.2.2 hd C.2.2.2.2.2.1
-- calls
theorem sx_blind {D : va_G} {tc : Nat → ClassId} {ad : Nat → Nat} {hs : Nat} {args : List sx_V} : FrameBlind (sx_Pc S D tc ad hs args G M) := fun a U g mk q => by
  obtain ⟨q0, q1, qP, qK, qD⟩ := q
  exact ⟨q0, q1, qP, va_K.moved (u := U) (U := U.calling g mk a) (Vm.Alike.refl U.vm) qK, qD⟩
theorem sx_go (C : sx_C S Ts own cc E) {H : Heap} {locs : List Loc} {ls : Array Slot} {ad : Nat → Nat} {st0 : List Value} {a : Array Value} (hD : va_D (sx_AA E) (sx_w S (sx_tc E) ad G M)) (hS : va_S (sx_AA E) (sx_s E).heap H locs) (hz : sx_sz E ≤ G.1) (ha : ∀ k, k < sx_sz E → ad k = sx_ad E k) (hl : lv_has ls (sx_nL E) (sx_lv ad lv))
    (hrun : va_Run (sx_p E) (sx_l E) (sx_e E) (sx_R E) (sx_s E) (sx_m E) (sx_a E) (sx_b E) (sx_me E) (sx_c E) H locs cs.1 cs.2 rm.cells rm.slots (F0 (sx_m E) pc ls st0) (st.map (sx_cv ad)) (sx_Qc S (sx_D E) (sx_tc E) ad G.1 (va_A (sx_w S (sx_tc E) ad G M) H.size) Po a) (va_A (sx_w S (sx_tc E) ad G M) H.size))
    {n : Nat} (hn : n ≤ G.1) (hlo : lv.all (fun q => sx_ok n q.2) = true) (hso : st.all (sx_ok n) = true)
    (kk : ∀ (r : Option sx_V) (G' : sx_G) (M' : sx_M0), Po r G' M' → G.1 ≤ G'.1 → sx_X S E (cs.1 + rm.cells, cs.2 + rm.slots) G' M' (pc + 3) lv (r.toList ++ st)) : sx_W E H locs cs.1 cs.2 (F0 (sx_m E) pc ls st0) := by
  intro T hT X
  obtain ⟨v, st₀, t, T', L, h0, X', hL, e1, e2, ⟨⟨r, G', M', ad', hv, hpo, hsz, hext, hP1, hK1, hD1⟩, hz1, hk1⟩, stp⟩ := hrun T hT X
  have hfree : ∀ q, va_A (sx_w S (sx_tc E) ad G M) H.size q → sx_AA E q := fun q h => by
    rcases h with ⟨k, e, h⟩ | h
    · exact hD.2 k (q, e) h
    · exact C.2.2.2.2.2.2.2 q (Nat.le_trans hS.1 h)
  rw [h0] at hz1 hk1
  have hv' : v = r.map (sx_cv ad') := by injection hv
  subst hv'
  have hS' : va_S (sx_AA E) (sx_s E).heap T'.heap (locs ++ L) := ⟨Nat.le_trans hS.1 (by rw [e1]; exact hz1), fun q h1 h2 => by rw [e1, hk1 q (Nat.lt_of_lt_of_le h1 hS.1) (fun z => h2 (hfree q z))]; exact hS.2.1 q h1 h2, fun q hq => by
      rcases List.mem_append.mp hq with h | h
      · exact hS.2.2 q h
      · exact hfree _ (hL q h)⟩
  have hlv : sx_lv ad' lv = sx_lv ad lv := List.map_congr_left (fun q hq => by
    rw [sx_ok_cv hext hn (List.all_eq_true.mp hlo q hq)])
  have hst : st.map (sx_cv ad') = st.map (sx_cv ad) := List.map_congr_left (fun q hq => sx_ok_cv hext hn (List.all_eq_true.mp hso q hq))
  obtain ⟨t2, a1, b1⟩ := kk r G' M' hpo hsz T'.heap (locs ++ L) ls ad' (by rw [e1]; exact hP1) (hD1.weaken (fun _ q _ h => hfree q.1 h)) hS' (Nat.le_trans hz hsz) (fun k hk => (hext k (Nat.lt_of_lt_of_le hk hz)).trans (ha k hk)) (by rw [hlv]; exact hl) T' rfl X'
  refine ⟨t2, stp t2 ?_, b1⟩
  have e3 : (r.toList).map (sx_cv ad') = (r.map (sx_cv ad')).toList := by cases r <;> rfl
  rw [List.map_append, hst, e3] at a1
  exact a1
variable {y : MethodName} {ws : List Cond} {As : List sx_V} {idx maxL : Nat} {bytes : ByteArray} {ret : Option FieldType}
theorem sx_callV (C : sx_C S Ts own cc E) {b ci N : Nat} {Cn : String} {T : u_T} (hM : sx_Met S (sx_l E) (sx_D E) (sx_tc E) y ws rm (sx_A b :: As) G M Po) (hc : S.1[ci]? = some (Cn, T, N)) (hb : b < G.1) (hs : G.2.1 b = (0, ci))
    (cw : CallW (sx_R E) (sx_s E) (sx_a E) own Cn idx y bytes maxL ret ws rm rm.cells rm.slots As.length) (hw : (st.map sx_wd).sum ≤ 8) (hd : decode cc pc = .ok (.invokevirtual idx, 3)) (hf : cs.1 + rm.cells ≤ (sx_R E).cells ∧ cs.2 + rm.slots ≤ (sx_R E).slots)
    {n : Nat} (hn : n ≤ G.1) (hlo : lv.all (fun q => sx_ok n q.2) = true) (hso : st.all (sx_ok n) = true) {st0 : List sx_V} (h0 : st0 = As.reverse ++ sx_A b :: st)
    (kk : ∀ (r : Option sx_V) (G' : sx_G) (M' : sx_M0), Po r G' M' → G.1 ≤ G'.1 → sx_X S E (cs.1 + rm.cells, cs.2 + rm.slots) G' M' (pc + 3) lv (r.toList ++ st)) : sx_X S E cs G M pc lv st0 := by
  subst h0
  intro H locs ls ad hP hD hS hz ha hl
  refine sx_go C hD hS hz ha hl (va_runV (As := As.map (sx_cv ad)) (rest := st.map (sx_cv ad)) (b := ad b) (nL := sx_nL E) ⟨C.1, C.2.1, C.2.2.1, C.2.2.2.1, C.2.2.2.2.1⟩ (hM ad H.size) cw ⟨sx_blind, va_recv C.2.2.2.2.2.2.1 hP hc (sx_obj hb hs), fun U hU hW => ⟨rfl, by rw [hU], by rw [hU]; exact hP, va_K.moved hW.alike C.2.2.2.2.2.2.1, hD.weaken (fun _ _ _ _ => trivial)⟩⟩ rfl (by simp) hl.1 ?_ ?_ hd hf) hn hlo hso kk
  · show List.map (sx_cv ad) (As.reverse ++ sx_A b :: st) = _
    rw [List.map_append, List.map_reverse]
    rfl
  · exact lv_room (by rw [sx_wds]; exact hw)
theorem sx_callS (C : sx_C S Ts own cc E) (hM : sx_Met S (sx_l E) (sx_D E) (sx_tc E) y ws rm As G M Po)
    (cw : CallB (sx_R E) (sx_s E) (sx_a E) own idx y bytes maxL ret ws rm rm.cells rm.slots As.length ∧ (Cond.static y).before (sx_a E) (sx_s E) = true) (hw : (st.map sx_wd).sum ≤ 8) (hd : decode cc pc = .ok (.invokestatic idx, 3)) (hf : cs.1 + rm.cells ≤ (sx_R E).cells ∧ cs.2 + rm.slots ≤ (sx_R E).slots)
    {n : Nat} (hn : n ≤ G.1) (hlo : lv.all (fun q => sx_ok n q.2) = true) (hso : st.all (sx_ok n) = true) {st0 : List sx_V} (h0 : st0 = As.reverse ++ st)
    (kk : ∀ (r : Option sx_V) (G' : sx_G) (M' : sx_M0), Po r G' M' → G.1 ≤ G'.1 → sx_X S E (cs.1 + rm.cells, cs.2 + rm.slots) G' M' (pc + 3) lv (r.toList ++ st)) : sx_X S E cs G M pc lv st0 := by
  subst h0
  intro H locs ls ad hP hD hS hz ha hl
  refine sx_go C hD hS hz ha hl (va_runS (As := As.map (sx_cv ad)) (rest := st.map (sx_cv ad)) (nL := sx_nL E) ⟨C.1, C.2.1, C.2.2.1, C.2.2.2.1, C.2.2.2.2.1⟩ (hM ad H.size) cw ⟨sx_blind, fun U hU hW => ⟨rfl, by rw [hU], by rw [hU]; exact hP, va_K.moved hW.alike C.2.2.2.2.2.2.1, hD.weaken (fun _ _ _ _ => trivial)⟩⟩ rfl (by simp) hl.1 ?_ ?_ hd hf) hn hlo hso kk
  · show List.map (sx_cv ad) (As.reverse ++ st) = _
    rw [List.map_append, List.map_reverse]
  · exact lv_room (by rw [sx_wds]; exact hw)
theorem sx_callI (C : sx_C S Ts own cc E) {b : Nat} (hM : sx_Met S (sx_l E) (sx_D E) (sx_tc E) y ws rm (sx_A b :: As) G M Po)
    (cw : CallB (sx_R E) (sx_s E) (sx_a E) own idx y bytes maxL none ws rm rm.cells rm.slots As.length ∧ y.name = "<init>" ∧ (Cond.instanceMethod y).before (sx_a E) (sx_s E) = true) (hw : (st.map sx_wd).sum ≤ 8) (hd : decode cc pc = .ok (.invokespecial idx, 3)) (hf : cs.1 + rm.cells ≤ (sx_R E).cells ∧ cs.2 + rm.slots ≤ (sx_R E).slots)
    {n : Nat} (hn : n ≤ G.1) (hlo : lv.all (fun q => sx_ok n q.2) = true) (hso : st.all (sx_ok n) = true) {st0 : List sx_V} (h0 : st0 = As.reverse ++ sx_A b :: st)
    (kk : ∀ (r : Option sx_V) (G' : sx_G) (M' : sx_M0), Po r G' M' → G.1 ≤ G'.1 → sx_X S E (cs.1 + rm.cells, cs.2 + rm.slots) G' M' (pc + 3) lv (r.toList ++ st)) : sx_X S E cs G M pc lv st0 := by
  subst h0
  intro H locs ls ad hP hD hS hz ha hl
  refine sx_go C hD hS hz ha hl (va_runI (As := As.map (sx_cv ad)) (rest := st.map (sx_cv ad)) (b := ad b) (nL := sx_nL E) ⟨C.1, C.2.1, C.2.2.1, C.2.2.2.1, C.2.2.2.2.1⟩ (hM ad H.size) cw ⟨sx_blind, fun U hU hW => ⟨rfl, by rw [hU], by rw [hU]; exact hP, va_K.moved hW.alike C.2.2.2.2.2.2.1, hD.weaken (fun _ _ _ _ => trivial)⟩⟩ rfl (by simp) hl.1 ?_ ?_ hd hf) hn hlo hso kk
  · show List.map (sx_cv ad) (As.reverse ++ sx_A b :: st) = _
    rw [List.map_append, List.map_reverse]
    rfl
  · exact lv_room (by rw [sx_wds]; exact hw)
theorem sx_objInit (C : sx_C S Ts own cc E) {b : Nat} (h1 : Cond.methodLink own idx Lib.objectInit ∈ Ts) (h2 : Cond.instanceMethod Lib.objectInit ∈ Ts) (h3 : Cond.code Lib.objectInit ⟨#[0xb1]⟩ 1 none ∈ Ts) (hd : decode cc pc = .ok (.invokespecial idx, 3)) (hf : 1 ≤ (sx_R E).frames) (hlo : (st.map sx_wd).sum + 12 ≤ (sx_R E).locals) (kk : sx_X S E cs G M (pc + 3) lv st) : sx_X S E cs G M pc lv (sx_A b :: st) := by
  intro H locs ls ad hP hD hS hz ha hl
  refine W.objInit C.1 C.2.1 C.2.2.2.1 (C.2.2.2.2.1 _ h1) (C.2.2.2.2.1 _ h2) (C.2.2.2.2.1 _ h3) (a := ad b) (rest := st.map (sx_cv ad)) rfl (by rw [C.2.2.1]; exact hl.1) rfl hd hf ?_ (kk H locs ls ad hP hD hS hz ha hl)
  show 2 * 0 + _ + 12 ≤ _
  rw [sx_wds]
  omega
end SXC
end
section
/-- the references in a world are to cells of it -/
def sx_cl (G : sx_G) : Prop := ∀ k j r, k < G.1 → G.2.2 k j = some r → r < G.1
def sx_gp (G : sx_G) (sh : Nat × Nat) : sx_G := (G.1 + 1, va_up G.2.1 G.1 sh, va_up G.2.2 G.1 (fun _ => none))
def sx_mp (G : sx_G) (M : sx_M0) : sx_M0 := va_up M G.1 (fun _ => 0)
theorem sx_cell_ad {S : sx_S} {tc : Nat → ClassId} {ad ad' : Nat → Nat} {sh : Nat × Nat} {m : Nat → Int} {R : Nat → Option Nat} (h : ∀ j r, R j = some r → ad' r = ad r) : sx_cell S tc ad' sh m R = sx_cell S tc ad sh m R := by
  have e : ∀ j, (R j).map ad' = (R j).map ad := by
    intro j
    cases hj : R j with
    | none => rfl
    | some r => simp [h j r hj]
  have e2 : ∀ (j t : Nat), sx_cv ad' (sx_av t (m j) (R j)) = sx_cv ad (sx_av t (m j) (R j)) := by
    intro j t
    unfold sx_av
    split
    · rfl
    · rfl
    · rfl
    · show va_rf ((R j).map ad') = va_rf ((R j).map ad)
      rw [e]
  obtain ⟨a, n⟩ := sh
  cases a with
  | zero =>
    show Sum.inr (n, sx_fs (S.2.1 n) ad' m R) = Sum.inr (n, sx_fs (S.2.1 n) ad m R)
    simp only [sx_fs, e2]
  | succ a =>
    show Sum.inl (tc a, sx_arr S.2.2[a]? n ad' m R) = Sum.inl (tc a, sx_arr S.2.2[a]? n ad m R)
    unfold sx_arr
    simp only [e]
theorem sx_w_push {S : sx_S} {tc : Nat → ClassId} {ad : Nat → Nat} {G : sx_G} {M : sx_M0} {q : Nat} {sh : Nat × Nat} {e : va_E} (hcl : sx_cl G) (he : e = sx_cell S tc ad sh (fun _ => 0) (fun _ => none)) : sx_w S tc ad G M ++ [(q, e)] = sx_w S tc (va_up ad G.1 q) (sx_gp G sh) (sx_mp G M) := by
  subst he
  unfold sx_w
  show _ = (List.range (G.1 + 1)).map _
  rw [List.range_succ, List.map_append, List.map_singleton]
  congr 1
  · apply List.map_congr_left
    intro k hk
    have hk' : k < G.1 := List.mem_range.mp hk
    have hne : k ≠ G.1 := Nat.ne_of_lt hk'
    show _ = (va_up ad G.1 q k, sx_cell S tc (va_up ad G.1 q) (va_up G.2.1 G.1 sh k) (va_up M G.1 (fun _ => 0) k) (va_up G.2.2 G.1 (fun _ => none) k))
    rw [va_up_ne _ _ hne, va_up_ne _ _ hne, va_up_ne _ _ hne, va_up_ne _ _ hne]
    rw [sx_cell_ad (fun j r hr => va_up_ne ad q (Nat.ne_of_lt (hcl k j r hk' hr)))]
  · show _ = [(va_up ad G.1 q G.1, sx_cell S tc (va_up ad G.1 q) (va_up G.2.1 G.1 sh G.1) (va_up M G.1 (fun _ => 0) G.1) (va_up G.2.2 G.1 (fun _ => none) G.1))]
    rw [va_up_self, va_up_self, va_up_self, va_up_self]
    rw [sx_cell_ad (ad := ad) (ad' := va_up ad G.1 q) (fun j r hr => by cases hr)]
theorem sx_cl_gp {G : sx_G} {sh : Nat × Nat} (h : sx_cl G) : sx_cl (sx_gp G sh) := by
  intro k j r hk hr
  show r < G.1 + 1
  by_cases hk' : k = G.1
  · subst hk'
    have : va_up G.2.2 G.1 (fun _ => none) G.1 j = some r := hr
    rw [va_up_self] at this
    cases this
  · have h2 : va_up G.2.2 G.1 (fun _ => none) k j = some r := hr
    rw [va_up_ne _ _ hk'] at h2
    have h3 : k < G.1 + 1 := hk
    have := h k j r (by omega) h2
    omega
theorem sx_cl_up {G : sx_G} {k j r : Nat} (h : sx_cl G) (hr : r < G.1) : sx_cl (G.1, G.2.1, sx_upR G.2.2 k j (some r)) := by
  intro a b c ha hc
  have hc' : (if a = k ∧ b = j then some r else G.2.2 a b) = some c := hc
  show c < G.1
  split at hc'
  · cases hc'; exact hr
  · exact h a b c ha hc'
section SXN
variable {S : sx_S} {E : sx_E} {cs : Nat × Nat} {G : sx_G} {M : sx_M0} {pc : Nat} {lv : List (Nat × sx_V)} {st : List sx_V} {Ts : List Cond} {own : String} {cc : ByteArray} {idx : Nat}
theorem sx_goN {H1 : Heap} {locs : List Loc} {ls : Array Slot} {ad : Nat → Nat} {q pc' : Nat} {sh : Nat × Nat} {e : va_E} {c2 : Nat × Nat} (hcl : sx_cl G) (he : e = sx_cell S (sx_tc E) ad sh (fun _ => 0) (fun _ => none)) (hP1 : va_P (sx_D E) S.1 (sx_w S (sx_tc E) ad G M ++ [(q, e)]) H1) (hD1 : va_D (sx_AA E) (sx_w S (sx_tc E) ad G M ++ [(q, e)])) (hS1 : va_S (sx_AA E) (sx_s E).heap H1 locs) (hz : sx_sz E ≤ G.1) (ha : ∀ k, k < sx_sz E → ad k = sx_ad E k) (hl : lv_has ls (sx_nL E) (sx_lv ad lv))
    {n : Nat} (hn : n ≤ G.1) (hlo : lv.all (fun q => sx_ok n q.2) = true) (hso : st.all (sx_ok n) = true)
    (kk : sx_X S E c2 (sx_gp G sh) (sx_mp G M) pc' lv (sx_A G.1 :: st)) : sx_W E H1 locs c2.1 c2.2 (F0 (sx_m E) pc' ls (.ref q :: st.map (sx_cv ad))) := by
  rw [sx_w_push hcl he] at hP1 hD1
  have hext : ∀ k, k < G.1 → va_up ad G.1 q k = ad k := fun k hk => va_up_ne _ _ (Nat.ne_of_lt hk)
  have hlv : sx_lv (va_up ad G.1 q) lv = sx_lv ad lv := List.map_congr_left (fun x hx => by
    rw [sx_ok_cv hext hn (List.all_eq_true.mp hlo x hx)])
  have hst : st.map (sx_cv (va_up ad G.1 q)) = st.map (sx_cv ad) := List.map_congr_left (fun x hx => sx_ok_cv hext hn (List.all_eq_true.mp hso x hx))
  have h := kk H1 locs ls (va_up ad G.1 q) hP1 hD1 hS1 (Nat.le_succ_of_le hz) (fun k hk => (hext k (Nat.lt_of_lt_of_le hk hz)).trans (ha k hk)) (by rw [hlv]; exact hl)
  have e3 : (sx_A G.1 :: st).map (sx_cv (va_up ad G.1 q)) = .ref q :: st.map (sx_cv ad) := by
    rw [List.map_cons, hst]
    show Value.ref (va_up ad G.1 q G.1) :: _ = _
    rw [va_up_self]
  rw [e3] at h
  exact h
theorem sx_new (C : sx_C S Ts own cc E) {ci N : Nat} {Cn : String} {T : u_T} (hc : S.1[ci]? = some (Cn, T, N)) (hin : ∀ w ∈ u_ws Cn T N, w ∈ Ts) (ty0 : Nat → FieldType) (hty : ∀ k, k < N → parseFieldDescriptor (T k).2.2.1 = some (ty0 k)) (h1 : Cond.classLink own idx Cn ∈ Ts) (h2 : Cond.instantiable Cn N ∈ Ts) (h3 : Cond.initialized Cn ∈ Ts) (hdef : ∀ j, j < N → ∃ t, (S.2.1 ci)[j]? = some t ∧ defaultValue (ty0 j) = sx_cv id (sx_av t 0 none)) (hcells : cs.1 + 1 ≤ (sx_R E).cells) (hslots : cs.2 + N ≤ (sx_R E).slots) (hd : decode cc pc = .ok (.new idx, 3))
    (hcl : sx_cl G) {n : Nat} (hn : n ≤ G.1) (hlo : lv.all (fun q => sx_ok n q.2) = true) (hso : st.all (sx_ok n) = true)
    (kk : sx_X S E (cs.1 + 1, cs.2 + N) (sx_gp G (0, ci)) (sx_mp G M) (pc + 3) lv (sx_A G.1 :: st)) : sx_X S E cs G M pc lv st := by
  intro H locs ls ad hP hD hS hz ha hl
  refine va_new (D := sx_D E) (ci := ci) (fs := sx_fs (S.2.1 ci) ad (fun _ => 0) (fun _ => none)) (C := Cn) (T := T) (N := N) C.1 C.2.1 C.2.2.2.2.1 hin ty0 hty C.2.2.2.1 (C.2.2.2.2.1 _ h1) (C.2.2.2.2.1 _ h2) (C.2.2.2.2.1 _ h3) C.2.2.2.2.2.2.1 hP hD hS C.2.2.2.2.2.2.2 hc (fun j hj => ?_) hcells hslots hd (fun q H1 hP1 hD1 hS1 => ?_)
  · obtain ⟨t, ht, hdv⟩ := hdef j hj
    unfold vp_V
    have e : sx_cv ad (sx_av t 0 none) = sx_cv id (sx_av t 0 none) := by
      unfold sx_av
      split <;> rfl
    rw [List.getD_eq_getElem?_getD, sx_fs_get ht, hdv]
    exact e.symm
  · exact sx_goN hcl rfl hP1 hD1 hS1 hz ha hl hn hlo hso kk
theorem sx_newa (C : sx_C S Ts own cc E) {a N : Nat} {x : Int} {atype : ArrayType} {ty : FieldType} (hty : newarray.typeOf atype = ty) (ht : S.2.2[a]? = some ty) (hprim : ty = .int ∨ ty = .long ∨ ty = .boolean) (h1 : Cond.arrayClass ty ∈ Ts) (hx : x = (N : Int)) (hN : N < 1048576) (hcells : cs.1 + 1 ≤ (sx_R E).cells) (hslots : cs.2 + N ≤ (sx_R E).slots) (hd : decode cc pc = .ok (.newarray atype, 2))
    (hcl : sx_cl G) {n : Nat} (hn : n ≤ G.1) (hlo : lv.all (fun q => sx_ok n q.2) = true) (hso : st.all (sx_ok n) = true)
    (kk : sx_X S E (cs.1 + 1, cs.2 + N) (sx_gp G (a + 1, N)) (sx_mp G M) (pc + 2) lv (sx_A G.1 :: st)) : sx_X S E cs G M pc lv (sx_I x :: st) := by
  subst hx
  intro H locs ls ad hP hD hS hz ha hl
  have hcb : componentBytes ty ≤ 8 := by rcases hprim with rfl | rfl | rfl <;> decide
  refine va_newa (D := sx_D E) (n := Int32.ofInt (N : Int)) (N' := N) (a0 := sx_arr (some ty) N ad (fun _ => 0) (fun _ => none)) C.1 C.2.1 (by rw [hty]; exact C.2.2.2.2.1 _ h1) hty C.2.2.2.2.2.2.1 hP hD hS C.2.2.2.2.2.2.2 (fun cA => ?_) ?_ (sx_clamp (by omega)) ?_ hcells hslots hd (fun q cA H1 hK1 hP1 hD1 hS1 => ?_)
  · rcases hprim with rfl | rfl | rfl <;> rfl
  · rw [sx_nI]; exact nI_pos (by omega)
  · have := Nat.mul_le_mul_left N hcb
    omega
  · have e1 := (hK1.2 (sx_ty S (sx_tc E)).length (cA, ty) (by simp)).2
    have e2 := (C.2.2.2.2.2.2.1.2 a _ (sx_ty_get ht)).2
    have e3 : cA = sx_tc E a := by
      rcases hprim with rfl | rfl | rfl <;> exact Option.some.inj (e1.symm.trans e2)
    subst e3
    refine sx_goN (sh := (a + 1, N)) hcl ?_ hP1 hD1 hS1 hz ha hl hn hlo hso kk
    show _ = Sum.inl (sx_tc E a, sx_arr S.2.2[a]? N ad (fun _ => 0) (fun _ => none))
    rw [ht]
-- the library's own
theorem sx_lmax (C : sx_C S Ts own cc E) {x y : Int} (hx : sx_r64 x) (hy : sx_r64 y) (h1 : Cond.methodLink own idx Lib.MathLoose.max_long.x ∈ Ts) (h2 : Cond.static Lib.MathLoose.max_long.x ∈ Ts) (h3 : Cond.initialized "java/lang/Math" ∈ Ts) (h4 : Cond.code Lib.MathLoose.max_long.x Lib.MathLoose.max_long.code 4 (some .long) ∈ Ts) (hf : 1 ≤ (sx_R E).frames) (hlo : (st.map sx_wd).sum + 15 ≤ (sx_R E).locals) (hc : cs.1 ≤ (sx_R E).cells) (hs : cs.2 ≤ (sx_R E).slots) (hd : decode cc pc = .ok (.invokestatic idx, 3))
    (kk : sx_X S E cs G M (pc + 3) lv (sx_J (if y < x then x else y) :: st)) : sx_X S E cs G M pc lv (sx_J y :: sx_J x :: st) := by
  intro H locs ls ad hP hD hS hz ha hl
  refine va_mmax_long C.1 C.2.1 (by rw [C.2.2.1]; exact hl.1.symm) C.2.2.2.1 (C.2.2.2.2.1 _ h1) (C.2.2.2.2.1 _ h2) (C.2.2.2.2.1 _ h3) (C.2.2.2.2.1 _ h4) hf (by rw [sx_wds]; exact hlo) hc hs hd ?_
  have e : (if Int64.ofInt y < Int64.ofInt x then Int64.ofInt x else Int64.ofInt y) = Int64.ofInt (if y < x then x else y) := by
    by_cases h : y < x
    · rw [if_pos h, if_pos ((sx_lt64 hy hx).mpr h)]
    · rw [if_neg h, if_neg (fun q => h ((sx_lt64 hy hx).mp q))]
  rw [e]
  exact kk H locs ls ad hP hD hS hz ha hl
theorem sx_imin (C : sx_C S Ts own cc E) {x y : Int} (hx : sx_r32 x) (hy : sx_r32 y) (h1 : Cond.methodLink own idx Lib.Math.min.name ∈ Ts) (h2 : Cond.static Lib.Math.min.name ∈ Ts) (h3 : Cond.initialized "java/lang/Math" ∈ Ts) (h4 : Cond.code Lib.Math.min.name Lib.Math.min.code 2 (some .int) ∈ Ts) (hf : 1 ≤ (sx_R E).frames) (hlo : (st.map sx_wd).sum + 13 ≤ (sx_R E).locals) (hc : cs.1 ≤ (sx_R E).cells) (hs : cs.2 ≤ (sx_R E).slots) (hd : decode cc pc = .ok (.invokestatic idx, 3))
    (kk : sx_X S E cs G M (pc + 3) lv (sx_I (if y < x then y else x) :: st)) : sx_X S E cs G M pc lv (sx_I y :: sx_I x :: st) := by
  intro H locs ls ad hP hD hS hz ha hl
  refine va_mmin C.1 C.2.1 (by rw [C.2.2.1]; exact hl.1.symm) C.2.2.2.1 (C.2.2.2.2.1 _ h1) (C.2.2.2.2.1 _ h2) (C.2.2.2.2.1 _ h3) (C.2.2.2.2.1 _ h4) hf (by rw [sx_wds]; exact hlo) hc hs hd ?_
  have e : (if Int32.ofInt y < Int32.ofInt x then Int32.ofInt y else Int32.ofInt x) = Int32.ofInt (if y < x then y else x) := by
    by_cases h : y < x
    · rw [if_pos h, if_pos ((sx_lt32 hy hx).mpr h)]
    · rw [if_neg h, if_neg (fun q => h ((sx_lt32 hy hx).mp q))]
  rw [e]
  exact kk H locs ls ad hP hD hS hz ha hl
/-- n slots of cell k0 from sp on laid into cell k1 from dp on -/
def sx_cpy (M : sx_M0) (k0 k1 sp dp n : Nat) : sx_M0 := fun a b => if a = k1 ∧ dp ≤ b ∧ b < dp + n then M k0 (sp + (b - dp)) else M a b
theorem sx_copyI (C : sx_C S Ts own cc E) {k0 k1 a n0 n1 : Nat} {sp dp n : Nat} {isp idp iN : Int} (hk0 : k0 < G.1) (hs0 : G.2.1 k0 = (a + 1, n0)) (hk1 : k1 < G.1) (hs1 : G.2.1 k1 = (a + 1, n1)) (ht : S.2.2[a]? = some .int) (hsp : isp = (sp : Int)) (hdp : idp = (dp : Int)) (hN : iN = (n : Int)) (h5 : sp + n ≤ n0) (h6 : dp + n ≤ n1) (h7 : n0 < 2147483648) (h8 : n1 < 2147483648)
    (h1 : Cond.methodLink own idx arraycopyName ∈ Ts) (h2 : Cond.native arraycopyName ∈ Ts) (h3 : Cond.static arraycopyName ∈ Ts) (h4 : Cond.initialized "java/lang/System" ∈ Ts) (hf : 1 ≤ (sx_R E).frames) (hlo : (st.map sx_wd).sum + (nativeFrameWords "java/lang/System" "arraycopy" 5 + 11) ≤ (sx_R E).locals) (hd : decode cc pc = .ok (.invokestatic idx, 3))
    (kk : sx_X S E cs G (sx_cpy M k0 k1 sp dp n) (pc + 3) lv st) : sx_X S E cs G M pc lv (sx_I iN :: sx_I idp :: sx_A k1 :: sx_I isp :: sx_A k0 :: st) := by
  subst hsp; subst hdp; subst hN
  intro H locs ls ad hP hD hS hz ha hl
  have c1 : (Int32.ofInt (sp : Int)).toNatClampNeg = sp := sx_clamp (by omega)
  have c2 : (Int32.ofInt (dp : Int)).toNatClampNeg = dp := sx_clamp (by omega)
  have c3 : (Int32.ofInt (n : Int)).toNatClampNeg = n := sx_clamp (by omega)
  refine va_copyi (D := sx_D E) C.1 C.2.1 (by rw [C.2.2.1]; exact hl.1.symm) C.2.2.2.1 (C.2.2.2.2.1 _ h1) (C.2.2.2.2.1 _ h2) (C.2.2.2.2.1 _ h3) (C.2.2.2.2.1 _ h4) C.2.2.2.2.2.2.1 hP hD hS k0 k1 a a (sx_arrI hk0 hs0 ht) (sx_arrI hk1 hs1 ht) (sx_ty_get ht) (sx_ty_get ht) rfl (by rw [sx_nI]; exact nI_pos (by omega)) (by rw [sx_nI]; exact nI_pos (by omega)) (by rw [sx_nI]; exact nI_pos (by omega)) (by rw [c1, c3]; exact h5) (by rw [c2, c3]; exact h6) (fun i _ => rfl) hf (by rw [sx_wds]; exact hlo) hd (fun H1 locs1 hP1 hD1 hS1 => ?_)
  rw [c1, c2, c3] at hP1 hD1
  have e : (sx_w S (sx_tc E) ad G M).set k1 (ad k1, .inl (sx_tc E a, n1, .inl (va_cpy (fun b => Int32.ofInt (M k0 b)) (fun b => Int32.ofInt (M k1 b)) sp dp n))) = sx_w S (sx_tc E) ad G (sx_cpy M k0 k1 sp dp n) :=
    sx_w_set hk1 rfl rfl (fun _ _ => rfl) (fun b hb => by funext x; simp [sx_cpy, hb]) (by
      rw [hs1]
      simp only [sx_cell, ht, sx_arr]
      congr 4
      funext b
      unfold va_cpy sx_cpy
      by_cases hb : dp ≤ b ∧ b < dp + n
      · rw [if_pos hb, if_pos ⟨rfl, hb⟩]
      · rw [if_neg hb, if_neg (fun q => hb q.2)])
  rw [e] at hP1 hD1
  exact kk H1 locs1 ls ad hP1 hD1 hS1 hz ha hl
theorem sx_copyL (C : sx_C S Ts own cc E) {k0 k1 a n0 n1 : Nat} {sp dp n : Nat} {isp idp iN : Int} (hk0 : k0 < G.1) (hs0 : G.2.1 k0 = (a + 1, n0)) (hk1 : k1 < G.1) (hs1 : G.2.1 k1 = (a + 1, n1)) (ht : S.2.2[a]? = some .long) (hsp : isp = (sp : Int)) (hdp : idp = (dp : Int)) (hN : iN = (n : Int)) (h5 : sp + n ≤ n0) (h6 : dp + n ≤ n1) (h7 : n0 < 2147483648) (h8 : n1 < 2147483648)
    (h1 : Cond.methodLink own idx arraycopyName ∈ Ts) (h2 : Cond.native arraycopyName ∈ Ts) (h3 : Cond.static arraycopyName ∈ Ts) (h4 : Cond.initialized "java/lang/System" ∈ Ts) (hf : 1 ≤ (sx_R E).frames) (hlo : (st.map sx_wd).sum + (nativeFrameWords "java/lang/System" "arraycopy" 5 + 11) ≤ (sx_R E).locals) (hd : decode cc pc = .ok (.invokestatic idx, 3))
    (kk : sx_X S E cs G (sx_cpy M k0 k1 sp dp n) (pc + 3) lv st) : sx_X S E cs G M pc lv (sx_I iN :: sx_I idp :: sx_A k1 :: sx_I isp :: sx_A k0 :: st) := by
  subst hsp; subst hdp; subst hN
  intro H locs ls ad hP hD hS hz ha hl
  have c1 : (Int32.ofInt (sp : Int)).toNatClampNeg = sp := sx_clamp (by omega)
  have c2 : (Int32.ofInt (dp : Int)).toNatClampNeg = dp := sx_clamp (by omega)
  have c3 : (Int32.ofInt (n : Int)).toNatClampNeg = n := sx_clamp (by omega)
  refine va_copyl (D := sx_D E) C.1 C.2.1 (by rw [C.2.2.1]; exact hl.1.symm) C.2.2.2.1 (C.2.2.2.2.1 _ h1) (C.2.2.2.2.1 _ h2) (C.2.2.2.2.1 _ h3) (C.2.2.2.2.1 _ h4) C.2.2.2.2.2.2.1 hP hD hS k0 k1 a a (sx_arrL hk0 hs0 ht) (sx_arrL hk1 hs1 ht) (sx_ty_get ht) (sx_ty_get ht) rfl (by rw [sx_nI]; exact nI_pos (by omega)) (by rw [sx_nI]; exact nI_pos (by omega)) (by rw [sx_nI]; exact nI_pos (by omega)) (by rw [c1, c3]; exact h5) (by rw [c2, c3]; exact h6) (fun i _ => rfl) hf (by rw [sx_wds]; exact hlo) hd (fun H1 locs1 hP1 hD1 hS1 => ?_)
  rw [c1, c2, c3] at hP1 hD1
  have e : (sx_w S (sx_tc E) ad G M).set k1 (ad k1, .inl (sx_tc E a, n1, .inr (.inl (va_cpy (fun b => Int64.ofInt (M k0 b)) (fun b => Int64.ofInt (M k1 b)) sp dp n)))) = sx_w S (sx_tc E) ad G (sx_cpy M k0 k1 sp dp n) :=
    sx_w_set hk1 rfl rfl (fun _ _ => rfl) (fun b hb => by funext x; simp [sx_cpy, hb]) (by
      rw [hs1]
      simp only [sx_cell, ht, sx_arr]
      congr 5
      funext b
      unfold va_cpy sx_cpy
      by_cases hb : dp ≤ b ∧ b < dp + n
      · rw [if_pos hb, if_pos ⟨rfl, hb⟩]
      · rw [if_neg hb, if_neg (fun q => hb q.2)])
  rw [e] at hP1 hD1
  exact kk H1 locs1 ls ad hP1 hD1 hS1 hz ha hl
end SXN
end
