section SXA
variable {S : sx_S} {E : sx_E} {cs : Nat × Nat} {G : sx_G} {M : sx_M0} {pc : Nat} {lv : List (Nat × sx_V)} {st : List sx_V} {Ts : List Cond} {own : String} {cc : ByteArray} {x y : Int}
abbrev sx_r32 (x : Int) : Prop := -2147483648 ≤ x ∧ x ≤ 2147483647
abbrev sx_r64 (x : Int) : Prop := -9223372036854775808 ≤ x ∧ x ≤ 9223372036854775807
theorem sx_t32 {x : Int} (h : sx_r32 x) : (Int32.ofInt x).toInt = x := Int32.toInt_ofInt_of_le (by have := h.1; omega) (by have := h.2; omega)
theorem sx_t64 {x : Int} (h : sx_r64 x) : (Int64.ofInt x).toInt = x := Int64.toInt_ofInt_of_le (by have := h.1; omega) (by have := h.2; omega)
theorem sx_lt32 {x y : Int} (hx : sx_r32 x) (hy : sx_r32 y) : Int32.ofInt x < Int32.ofInt y ↔ x < y := by rw [Int32.lt_iff_toInt_lt, sx_t32 hx, sx_t32 hy]
theorem sx_le32 {x y : Int} (hx : sx_r32 x) (hy : sx_r32 y) : Int32.ofInt x ≤ Int32.ofInt y ↔ x ≤ y := by rw [Int32.le_iff_toInt_le, sx_t32 hx, sx_t32 hy]
theorem sx_eq32 {x y : Int} (hx : sx_r32 x) (hy : sx_r32 y) : Int32.ofInt x = Int32.ofInt y ↔ x = y := by rw [← Int32.toInt_inj, sx_t32 hx, sx_t32 hy]
theorem sx_lt64 {x y : Int} (hx : sx_r64 x) (hy : sx_r64 y) : Int64.ofInt x < Int64.ofInt y ↔ x < y := by rw [Int64.lt_iff_toInt_lt, sx_t64 hx, sx_t64 hy]
theorem sx_le64 {x y : Int} (hx : sx_r64 x) (hy : sx_r64 y) : Int64.ofInt x ≤ Int64.ofInt y ↔ x ≤ y := by rw [Int64.le_iff_toInt_le, sx_t64 hx, sx_t64 hy]
theorem sx_eq64 {x y : Int} (hx : sx_r64 x) (hy : sx_r64 y) : Int64.ofInt x = Int64.ofInt y ↔ x = y := by rw [← Int64.toInt_inj, sx_t64 hx, sx_t64 hy]
theorem sx_z32 : Int32.ofInt 0 = 0 := by decide
theorem sx_r0 : sx_r32 0 := by constructor <;> decide
-- arithmetic
theorem sx_iadd (C : sx_C S Ts own cc E) (hd : decode cc pc = .ok (.iadd, 1)) (k : sx_X S E cs G M (pc + 1) lv (sx_I (x + y) :: st)) : sx_X S E cs G M pc lv (sx_I y :: sx_I x :: st) :=
  fun H locs ls ad hP hD hS hz ha hl => lv_iadd C.1 C.2.1 hd (by have h := k H locs ls ad hP hD hS hz ha hl; rw [← Int32.ofInt_add]; exact h)
theorem sx_isub (C : sx_C S Ts own cc E) (hd : decode cc pc = .ok (.isub, 1)) (k : sx_X S E cs G M (pc + 1) lv (sx_I (x - y) :: st)) : sx_X S E cs G M pc lv (sx_I y :: sx_I x :: st) :=
  fun H locs ls ad hP hD hS hz ha hl => lv_isub C.1 C.2.1 hd (by have h := k H locs ls ad hP hD hS hz ha hl; rw [← Int32.ofInt_sub]; exact h)
theorem sx_imul (C : sx_C S Ts own cc E) (hd : decode cc pc = .ok (.imul, 1)) (k : sx_X S E cs G M (pc + 1) lv (sx_I (x * y) :: st)) : sx_X S E cs G M pc lv (sx_I y :: sx_I x :: st) :=
  fun H locs ls ad hP hD hS hz ha hl => lv_imul C.1 C.2.1 hd (by have h := k H locs ls ad hP hD hS hz ha hl; rw [← Int32.ofInt_mul]; exact h)
theorem sx_ladd (C : sx_C S Ts own cc E) (hd : decode cc pc = .ok (.ladd, 1)) (k : sx_X S E cs G M (pc + 1) lv (sx_J (x + y) :: st)) : sx_X S E cs G M pc lv (sx_J y :: sx_J x :: st) :=
  fun H locs ls ad hP hD hS hz ha hl => lv_ladd C.1 C.2.1 hd (by have h := k H locs ls ad hP hD hS hz ha hl; rw [← Int64.ofInt_add]; exact h)
theorem sx_lsub (C : sx_C S Ts own cc E) (hd : decode cc pc = .ok (.lsub, 1)) (k : sx_X S E cs G M (pc + 1) lv (sx_J (x - y) :: st)) : sx_X S E cs G M pc lv (sx_J y :: sx_J x :: st) :=
  fun H locs ls ad hP hD hS hz ha hl => lv_lsub C.1 C.2.1 hd (by have h := k H locs ls ad hP hD hS hz ha hl; rw [← Int64.ofInt_sub]; exact h)
theorem sx_lmul (C : sx_C S Ts own cc E) (hd : decode cc pc = .ok (.lmul, 1)) (k : sx_X S E cs G M (pc + 1) lv (sx_J (x * y) :: st)) : sx_X S E cs G M pc lv (sx_J y :: sx_J x :: st) :=
  fun H locs ls ad hP hD hS hz ha hl => lv_lmul C.1 C.2.1 hd (by have h := k H locs ls ad hP hD hS hz ha hl; rw [← Int64.ofInt_mul]; exact h)
theorem sx_div64 {x y : Int} (hx : 0 ≤ x) (hx2 : sx_r64 x) (hy : 0 < y) (hy2 : sx_r64 y) : Int64.ofInt x / Int64.ofInt y = Int64.ofInt (x / y) := by
  have h1 : 0 ≤ x / y := Int.ediv_nonneg hx (Int.le_of_lt hy)
  have h2 : x / y ≤ x := Int.ediv_le_self y hx
  apply Int64.toInt_inj.mp
  rw [sx_t64 ⟨by omega, Int.le_trans h2 hx2.2⟩, Int64.toInt_div, sx_t64 hx2, sx_t64 hy2, Int.tdiv_eq_ediv_of_nonneg hx]
  apply Int.bmod_eq_of_le <;> have := hx2.2 <;> omega
theorem sx_div32 {x y : Int} (hx : 0 ≤ x) (hx2 : sx_r32 x) (hy : 0 < y) (hy2 : sx_r32 y) : Int32.ofInt x / Int32.ofInt y = Int32.ofInt (x / y) := by
  have h1 : 0 ≤ x / y := Int.ediv_nonneg hx (Int.le_of_lt hy)
  have h2 : x / y ≤ x := Int.ediv_le_self y hx
  apply Int32.toInt_inj.mp
  rw [sx_t32 ⟨by omega, Int.le_trans h2 hx2.2⟩, Int32.toInt_div, sx_t32 hx2, sx_t32 hy2, Int.tdiv_eq_ediv_of_nonneg hx]
  apply Int.bmod_eq_of_le <;> have := hx2.2 <;> omega
theorem sx_ldiv (C : sx_C S Ts own cc E) (hx : 0 ≤ x) (hx2 : sx_r64 x) (hy : 0 < y) (hy2 : sx_r64 y) (hd : decode cc pc = .ok (.ldiv, 1)) (k : sx_X S E cs G M (pc + 1) lv (sx_J (x / y) :: st)) : sx_X S E cs G M pc lv (sx_J y :: sx_J x :: st) :=
  fun H locs ls ad hP hD hS hz ha hl => lv_ldiv C.1 C.2.1 hd (fun h => by have h3 := (sx_eq64 hy2 (show sx_r64 0 by constructor <;> decide)).mp h; omega) (by have h := k H locs ls ad hP hD hS hz ha hl; rw [sx_div64 hx hx2 hy hy2]; exact h)
theorem sx_idiv (C : sx_C S Ts own cc E) (hx : 0 ≤ x) (hx2 : sx_r32 x) (hy : 0 < y) (hy2 : sx_r32 y) (hd : decode cc pc = .ok (.idiv, 1)) (k : sx_X S E cs G M (pc + 1) lv (sx_I (x / y) :: st)) : sx_X S E cs G M pc lv (sx_I y :: sx_I x :: st) :=
  fun H locs ls ad hP hD hS hz ha hl => lv_idiv C.1 C.2.1 hd (fun h => by have h3 := (sx_eq32 hy2 sx_r0).mp h; omega) (by have h := k H locs ls ad hP hD hS hz ha hl; rw [sx_div32 hx hx2 hy hy2]; exact h)
def sx_and (x y : Int) : Int := (Int32.ofInt x &&& Int32.ofInt y).toInt
def sx_or (x y : Int) : Int := (Int32.ofInt x ||| Int32.ofInt y).toInt
def sx_xor (x y : Int) : Int := (Int32.ofInt x ^^^ Int32.ofInt y).toInt
def sx_shl (x y : Int) : Int := (Int32.ofInt x <<< (Int32.ofInt y &&& 31)).toInt
def sx_shr (x y : Int) : Int := (Int32.ofInt x >>> (Int32.ofInt y &&& 31)).toInt
def sx_ushr (x y : Int) : Int := (((Int32.ofInt x).toUInt32 >>> ((Int32.ofInt y).toUInt32 &&& Int32.toUInt32 31)).toInt32).toInt
theorem sx_iand (C : sx_C S Ts own cc E) (hd : decode cc pc = .ok (.iand, 1)) (k : sx_X S E cs G M (pc + 1) lv (sx_I (sx_and x y) :: st)) : sx_X S E cs G M pc lv (sx_I y :: sx_I x :: st) :=
  fun H locs ls ad hP hD hS hz ha hl => lv_iand C.1 C.2.1 hd (by have h := k H locs ls ad hP hD hS hz ha hl; simp only [List.map_cons, sx_cv, sx_and, Int32.ofInt_toInt] at h; exact h)
theorem sx_ior (C : sx_C S Ts own cc E) (hd : decode cc pc = .ok (.ior, 1)) (k : sx_X S E cs G M (pc + 1) lv (sx_I (sx_or x y) :: st)) : sx_X S E cs G M pc lv (sx_I y :: sx_I x :: st) :=
  fun H locs ls ad hP hD hS hz ha hl => lv_ior C.1 C.2.1 hd (by have h := k H locs ls ad hP hD hS hz ha hl; simp only [List.map_cons, sx_cv, sx_or, Int32.ofInt_toInt] at h; exact h)
theorem sx_ixor (C : sx_C S Ts own cc E) (hd : decode cc pc = .ok (.ixor, 1)) (k : sx_X S E cs G M (pc + 1) lv (sx_I (sx_xor x y) :: st)) : sx_X S E cs G M pc lv (sx_I y :: sx_I x :: st) :=
  fun H locs ls ad hP hD hS hz ha hl => lv_ixor C.1 C.2.1 hd (by have h := k H locs ls ad hP hD hS hz ha hl; simp only [List.map_cons, sx_cv, sx_xor, Int32.ofInt_toInt] at h; exact h)
theorem sx_ishl (C : sx_C S Ts own cc E) (hd : decode cc pc = .ok (.ishl, 1)) (k : sx_X S E cs G M (pc + 1) lv (sx_I (sx_shl x y) :: st)) : sx_X S E cs G M pc lv (sx_I y :: sx_I x :: st) :=
  fun H locs ls ad hP hD hS hz ha hl => lv_ishl C.1 C.2.1 hd (by have h := k H locs ls ad hP hD hS hz ha hl; simp only [List.map_cons, sx_cv, sx_shl, Int32.ofInt_toInt] at h; exact h)
theorem sx_ishr (C : sx_C S Ts own cc E) (hd : decode cc pc = .ok (.ishr, 1)) (k : sx_X S E cs G M (pc + 1) lv (sx_I (sx_shr x y) :: st)) : sx_X S E cs G M pc lv (sx_I y :: sx_I x :: st) :=
  fun H locs ls ad hP hD hS hz ha hl => lv_ishr C.1 C.2.1 hd (by have h := k H locs ls ad hP hD hS hz ha hl; simp only [List.map_cons, sx_cv, sx_shr, Int32.ofInt_toInt] at h; exact h)
theorem sx_iushr (C : sx_C S Ts own cc E) (hd : decode cc pc = .ok (.iushr, 1)) (k : sx_X S E cs G M (pc + 1) lv (sx_I (sx_ushr x y) :: st)) : sx_X S E cs G M pc lv (sx_I y :: sx_I x :: st) :=
  fun H locs ls ad hP hD hS hz ha hl => lv_iushr C.1 C.2.1 hd rfl (by have h := k H locs ls ad hP hD hS hz ha hl; simp only [List.map_cons, sx_cv, sx_ushr, Int32.ofInt_toInt] at h; exact h)
theorem sx_i2l (C : sx_C S Ts own cc E) (h32 : sx_r32 x) (hd : decode cc pc = .ok (.i2l, 1)) (k : sx_X S E cs G M (pc + 1) lv (sx_J x :: st)) : sx_X S E cs G M pc lv (sx_I x :: st) :=
  fun H locs ls ad hP hD hS hz ha hl => lv_i2l C.1 C.2.1 hd (v := Int64.ofInt x) (by
    apply Int64.toInt_inj.mp
    rw [Int32.toInt_toInt64, sx_t32 h32, sx_t64 ⟨by have := h32.1; omega, by have := h32.2; omega⟩]) (k H locs ls ad hP hD hS hz ha hl)
theorem sx_l2i (C : sx_C S Ts own cc E) (hd : decode cc pc = .ok (.l2i, 1)) (k : sx_X S E cs G M (pc + 1) lv (sx_I x :: st)) : sx_X S E cs G M pc lv (sx_J x :: st) :=
  fun H locs ls ad hP hD hS hz ha hl => lv_l2i C.1 C.2.1 hd (v := Int32.ofInt x) Int64.toInt32_ofInt (k H locs ls ad hP hD hS hz ha hl)
-- the stack
theorem sx_dup (C : sx_C S Ts own cc E) {v : sx_V} (hd : decode cc pc = .ok (.dup, 1)) (hv : sx_wide v = false) (k : sx_X S E cs G M (pc + 1) lv (v :: v :: st)) : sx_X S E cs G M pc lv (v :: st) :=
  fun H locs ls ad hP hD hS hz ha hl => lv_dup C.1 C.2.1 hd (sx_cat1 ad v hv) (k H locs ls ad hP hD hS hz ha hl)
theorem sx_pop (C : sx_C S Ts own cc E) {v : sx_V} (hd : decode cc pc = .ok (.pop, 1)) (hv : sx_wide v = false) (k : sx_X S E cs G M (pc + 1) lv st) : sx_X S E cs G M pc lv (v :: st) :=
  fun H locs ls ad hP hD hS hz ha hl => lv_pop C.1 C.2.1 hd (sx_cat1 ad v hv) (k H locs ls ad hP hD hS hz ha hl)
theorem sx_pop2 (C : sx_C S Ts own cc E) {v : sx_V} (hd : decode cc pc = .ok (.pop2, 1)) (hv : sx_wide v = true) (k : sx_X S E cs G M (pc + 1) lv st) : sx_X S E cs G M pc lv (v :: st) :=
  fun H locs ls ad hP hD hS hz ha hl => lv_pop2_2 C.1 C.2.1 hd (sx_cat2 ad v hv) (k H locs ls ad hP hD hS hz ha hl)
theorem sx_dup2_11 (C : sx_C S Ts own cc E) {v w : sx_V} (hd : decode cc pc = .ok (.dup2, 1)) (hv : sx_wide v = false) (hw : sx_wide w = false) (k : sx_X S E cs G M (pc + 1) lv (v :: w :: v :: w :: st)) : sx_X S E cs G M pc lv (v :: w :: st) :=
  fun H locs ls ad hP hD hS hz ha hl => lv_dup2_11 C.1 C.2.1 hd (sx_cat1 ad v hv) (sx_cat1 ad w hw) (k H locs ls ad hP hD hS hz ha hl)
theorem sx_dup2_2 (C : sx_C S Ts own cc E) {v : sx_V} (hd : decode cc pc = .ok (.dup2, 1)) (hv : sx_wide v = true) (k : sx_X S E cs G M (pc + 1) lv (v :: v :: st)) : sx_X S E cs G M pc lv (v :: st) :=
  fun H locs ls ad hP hD hS hz ha hl => lv_dup2_2 C.1 C.2.1 hd (sx_cat2 ad v hv) (k H locs ls ad hP hD hS hz ha hl)
theorem sx_dup_x1 (C : sx_C S Ts own cc E) {v w : sx_V} (hd : decode cc pc = .ok (.dup_x1, 1)) (hv : sx_wide v = false) (hw : sx_wide w = false) (k : sx_X S E cs G M (pc + 1) lv (v :: w :: v :: st)) : sx_X S E cs G M pc lv (v :: w :: st) :=
  fun H locs ls ad hP hD hS hz ha hl => lv_dup_x1 C.1 C.2.1 hd (sx_cat1 ad v hv) (sx_cat1 ad w hw) (k H locs ls ad hP hD hS hz ha hl)
theorem sx_dup_x2 (C : sx_C S Ts own cc E) {v w u : sx_V} (hd : decode cc pc = .ok (.dup_x2, 1)) (hv : sx_wide v = false) (hw : sx_wide w = false) (hu : sx_wide u = false) (k : sx_X S E cs G M (pc + 1) lv (v :: w :: u :: v :: st)) : sx_X S E cs G M pc lv (v :: w :: u :: st) :=
  fun H locs ls ad hP hD hS hz ha hl => lv_dup_x2 C.1 C.2.1 hd (sx_cat1 ad v hv) (sx_cat1 ad w hw) (sx_cat1 ad u hu) (k H locs ls ad hP hD hS hz ha hl)
theorem sx_dup2_x1 (C : sx_C S Ts own cc E) {v w : sx_V} (hd : decode cc pc = .ok (.dup2_x1, 1)) (hv : sx_wide v = true) (hw : sx_wide w = false) (k : sx_X S E cs G M (pc + 1) lv (v :: w :: v :: st)) : sx_X S E cs G M pc lv (v :: w :: st) :=
  fun H locs ls ad hP hD hS hz ha hl => lv_dup2_x1_2 C.1 C.2.1 hd (sx_cat2 ad v hv) (sx_cat1 ad w hw) (k H locs ls ad hP hD hS hz ha hl)
theorem sx_dup2_x2 (C : sx_C S Ts own cc E) {v w u : sx_V} (hd : decode cc pc = .ok (.dup2_x2, 1)) (hv : sx_wide v = true) (hw : sx_wide w = false) (hu : sx_wide u = false) (k : sx_X S E cs G M (pc + 1) lv (v :: w :: u :: v :: st)) : sx_X S E cs G M pc lv (v :: w :: u :: st) :=
  fun H locs ls ad hP hD hS hz ha hl => lv_dup2_x2_2 C.1 C.2.1 hd (sx_cat2 ad v hv) (sx_cat1 ad w hw) (sx_cat1 ad u hu) (k H locs ls ad hP hD hS hz ha hl)
-- branches
theorem sx_goto (C : sx_C S Ts own cc E) {off : Int} (tgt : Nat) (hd : decode cc pc = .ok (.goto off, 3)) (ht : (pc : Int) + off = (tgt : Int)) (k : sx_X S E cs G M tgt lv st) : sx_X S E cs G M pc lv st :=
  fun H locs ls ad hP hD hS hz ha hl => lv_goto C.1 C.2.1 hd ht (k H locs ls ad hP hD hS hz ha hl)
theorem sx_icmp_eq (C : sx_C S Ts own cc E) {off : Int} (tgt : Nat) (hx : sx_r32 x) (hy : sx_r32 y) (hd : decode cc pc = .ok (.if_icmp .eq off, 3)) (ht : (pc : Int) + off = (tgt : Int)) (kt : x = y → sx_X S E cs G M tgt lv st) (kf : ¬ x = y → sx_X S E cs G M (pc + 3) lv st) : sx_X S E cs G M pc lv (sx_I y :: sx_I x :: st) :=
  fun H locs ls ad hP hD hS hz ha hl => lv_icmp_eq C.1 C.2.1 hd ht (fun h => (fun h => kt ((sx_eq32 hx hy).mp h)) h H locs ls ad hP hD hS hz ha hl) (fun h => (fun h => kf (fun q => h ((sx_eq32 hx hy).mpr q))) h H locs ls ad hP hD hS hz ha hl)
theorem sx_icmp_ne (C : sx_C S Ts own cc E) {off : Int} (tgt : Nat) (hx : sx_r32 x) (hy : sx_r32 y) (hd : decode cc pc = .ok (.if_icmp .ne off, 3)) (ht : (pc : Int) + off = (tgt : Int)) (kt : ¬ x = y → sx_X S E cs G M tgt lv st) (kf : x = y → sx_X S E cs G M (pc + 3) lv st) : sx_X S E cs G M pc lv (sx_I y :: sx_I x :: st) :=
  fun H locs ls ad hP hD hS hz ha hl => lv_icmp_ne C.1 C.2.1 hd ht (fun h => (fun h => kt (fun q => h ((sx_eq32 hx hy).mpr q))) h H locs ls ad hP hD hS hz ha hl) (fun h => (fun h => kf ((sx_eq32 hx hy).mp h)) h H locs ls ad hP hD hS hz ha hl)
theorem sx_icmp_lt (C : sx_C S Ts own cc E) {off : Int} (tgt : Nat) (hx : sx_r32 x) (hy : sx_r32 y) (hd : decode cc pc = .ok (.if_icmp .lt off, 3)) (ht : (pc : Int) + off = (tgt : Int)) (kt : x < y → sx_X S E cs G M tgt lv st) (kf : ¬ x < y → sx_X S E cs G M (pc + 3) lv st) : sx_X S E cs G M pc lv (sx_I y :: sx_I x :: st) :=
  fun H locs ls ad hP hD hS hz ha hl => lv_icmp_lt C.1 C.2.1 hd ht (fun h => (fun h => kt ((sx_lt32 hx hy).mp h)) h H locs ls ad hP hD hS hz ha hl) (fun h => (fun h => kf (fun q => h ((sx_lt32 hx hy).mpr q))) h H locs ls ad hP hD hS hz ha hl)
theorem sx_icmp_ge (C : sx_C S Ts own cc E) {off : Int} (tgt : Nat) (hx : sx_r32 x) (hy : sx_r32 y) (hd : decode cc pc = .ok (.if_icmp .ge off, 3)) (ht : (pc : Int) + off = (tgt : Int)) (kt : y ≤ x → sx_X S E cs G M tgt lv st) (kf : ¬ y ≤ x → sx_X S E cs G M (pc + 3) lv st) : sx_X S E cs G M pc lv (sx_I y :: sx_I x :: st) :=
  fun H locs ls ad hP hD hS hz ha hl => lv_icmp_ge C.1 C.2.1 hd ht (fun h => (fun h => kt ((sx_le32 hy hx).mp h)) h H locs ls ad hP hD hS hz ha hl) (fun h => (fun h => kf (fun q => h ((sx_le32 hy hx).mpr q))) h H locs ls ad hP hD hS hz ha hl)
theorem sx_icmp_gt (C : sx_C S Ts own cc E) {off : Int} (tgt : Nat) (hx : sx_r32 x) (hy : sx_r32 y) (hd : decode cc pc = .ok (.if_icmp .gt off, 3)) (ht : (pc : Int) + off = (tgt : Int)) (kt : y < x → sx_X S E cs G M tgt lv st) (kf : ¬ y < x → sx_X S E cs G M (pc + 3) lv st) : sx_X S E cs G M pc lv (sx_I y :: sx_I x :: st) :=
  fun H locs ls ad hP hD hS hz ha hl => lv_icmp_gt C.1 C.2.1 hd ht (fun h => (fun h => kt ((sx_lt32 hy hx).mp h)) h H locs ls ad hP hD hS hz ha hl) (fun h => (fun h => kf (fun q => h ((sx_lt32 hy hx).mpr q))) h H locs ls ad hP hD hS hz ha hl)
theorem sx_icmp_le (C : sx_C S Ts own cc E) {off : Int} (tgt : Nat) (hx : sx_r32 x) (hy : sx_r32 y) (hd : decode cc pc = .ok (.if_icmp .le off, 3)) (ht : (pc : Int) + off = (tgt : Int)) (kt : x ≤ y → sx_X S E cs G M tgt lv st) (kf : ¬ x ≤ y → sx_X S E cs G M (pc + 3) lv st) : sx_X S E cs G M pc lv (sx_I y :: sx_I x :: st) :=
  fun H locs ls ad hP hD hS hz ha hl => lv_icmp_le C.1 C.2.1 hd ht (fun h => (fun h => kt ((sx_le32 hx hy).mp h)) h H locs ls ad hP hD hS hz ha hl) (fun h => (fun h => kf (fun q => h ((sx_le32 hx hy).mpr q))) h H locs ls ad hP hD hS hz ha hl)
theorem sx_if_eq (C : sx_C S Ts own cc E) {off : Int} (tgt : Nat) (hx : sx_r32 x) (hd : decode cc pc = .ok (.ifCond .eq off, 3)) (ht : (pc : Int) + off = (tgt : Int)) (kt : x = 0 → sx_X S E cs G M tgt lv st) (kf : ¬ x = 0 → sx_X S E cs G M (pc + 3) lv st) : sx_X S E cs G M pc lv (sx_I x :: st) :=
  fun H locs ls ad hP hD hS hz ha hl => lv_if_eq C.1 C.2.1 hd ht (fun h => (fun h => kt ((sx_eq32 hx sx_r0).mp h)) h H locs ls ad hP hD hS hz ha hl) (fun h => (fun h => kf (fun q => h ((sx_eq32 hx sx_r0).mpr q))) h H locs ls ad hP hD hS hz ha hl)
theorem sx_if_ne (C : sx_C S Ts own cc E) {off : Int} (tgt : Nat) (hx : sx_r32 x) (hd : decode cc pc = .ok (.ifCond .ne off, 3)) (ht : (pc : Int) + off = (tgt : Int)) (kt : ¬ x = 0 → sx_X S E cs G M tgt lv st) (kf : x = 0 → sx_X S E cs G M (pc + 3) lv st) : sx_X S E cs G M pc lv (sx_I x :: st) :=
  fun H locs ls ad hP hD hS hz ha hl => lv_if_ne C.1 C.2.1 hd ht (fun h => (fun h => kt (fun q => h ((sx_eq32 hx sx_r0).mpr q))) h H locs ls ad hP hD hS hz ha hl) (fun h => (fun h => kf ((sx_eq32 hx sx_r0).mp h)) h H locs ls ad hP hD hS hz ha hl)
theorem sx_if_lt (C : sx_C S Ts own cc E) {off : Int} (tgt : Nat) (hx : sx_r32 x) (hd : decode cc pc = .ok (.ifCond .lt off, 3)) (ht : (pc : Int) + off = (tgt : Int)) (kt : x < 0 → sx_X S E cs G M tgt lv st) (kf : ¬ x < 0 → sx_X S E cs G M (pc + 3) lv st) : sx_X S E cs G M pc lv (sx_I x :: st) :=
  fun H locs ls ad hP hD hS hz ha hl => lv_if_lt C.1 C.2.1 hd ht (fun h => (fun h => kt ((sx_lt32 hx sx_r0).mp h)) h H locs ls ad hP hD hS hz ha hl) (fun h => (fun h => kf (fun q => h ((sx_lt32 hx sx_r0).mpr q))) h H locs ls ad hP hD hS hz ha hl)
theorem sx_if_ge (C : sx_C S Ts own cc E) {off : Int} (tgt : Nat) (hx : sx_r32 x) (hd : decode cc pc = .ok (.ifCond .ge off, 3)) (ht : (pc : Int) + off = (tgt : Int)) (kt : 0 ≤ x → sx_X S E cs G M tgt lv st) (kf : ¬ 0 ≤ x → sx_X S E cs G M (pc + 3) lv st) : sx_X S E cs G M pc lv (sx_I x :: st) :=
  fun H locs ls ad hP hD hS hz ha hl => lv_if_ge C.1 C.2.1 hd ht (fun h => (fun h => kt ((sx_le32 sx_r0 hx).mp h)) h H locs ls ad hP hD hS hz ha hl) (fun h => (fun h => kf (fun q => h ((sx_le32 sx_r0 hx).mpr q))) h H locs ls ad hP hD hS hz ha hl)
theorem sx_if_gt (C : sx_C S Ts own cc E) {off : Int} (tgt : Nat) (hx : sx_r32 x) (hd : decode cc pc = .ok (.ifCond .gt off, 3)) (ht : (pc : Int) + off = (tgt : Int)) (kt : 0 < x → sx_X S E cs G M tgt lv st) (kf : ¬ 0 < x → sx_X S E cs G M (pc + 3) lv st) : sx_X S E cs G M pc lv (sx_I x :: st) :=
  fun H locs ls ad hP hD hS hz ha hl => lv_if_gt C.1 C.2.1 hd ht (fun h => (fun h => kt ((sx_lt32 sx_r0 hx).mp h)) h H locs ls ad hP hD hS hz ha hl) (fun h => (fun h => kf (fun q => h ((sx_lt32 sx_r0 hx).mpr q))) h H locs ls ad hP hD hS hz ha hl)
theorem sx_if_le (C : sx_C S Ts own cc E) {off : Int} (tgt : Nat) (hx : sx_r32 x) (hd : decode cc pc = .ok (.ifCond .le off, 3)) (ht : (pc : Int) + off = (tgt : Int)) (kt : x ≤ 0 → sx_X S E cs G M tgt lv st) (kf : ¬ x ≤ 0 → sx_X S E cs G M (pc + 3) lv st) : sx_X S E cs G M pc lv (sx_I x :: st) :=
  fun H locs ls ad hP hD hS hz ha hl => lv_if_le C.1 C.2.1 hd ht (fun h => (fun h => kt ((sx_le32 hx sx_r0).mp h)) h H locs ls ad hP hD hS hz ha hl) (fun h => (fun h => kf (fun q => h ((sx_le32 hx sx_r0).mpr q))) h H locs ls ad hP hD hS hz ha hl)
theorem sx_lcmp_eq (C : sx_C S Ts own cc E) {off : Int} (tgt : Nat) (hx : sx_r64 x) (hy : sx_r64 y) (hd : decode cc pc = .ok (.lcmp, 1)) (hd2 : decode cc (pc + 1) = .ok (.ifCond .eq off, 3)) (ht : ((pc + 1 : Nat) : Int) + off = (tgt : Int)) (kt : x = y → sx_X S E cs G M tgt lv st) (kf : ¬ x = y → sx_X S E cs G M (pc + 4) lv st) : sx_X S E cs G M pc lv (sx_J y :: sx_J x :: st) :=
  fun H locs ls ad hP hD hS hz ha hl => W.lcmp C.1 C.2.1 hd (lv_if_eq C.1 C.2.1 hd2 ht (fun h => (fun h => kt ((sx_eq64 hx hy).mp ((lg_cmp_eq _ _).mp h))) h H locs ls ad hP hD hS hz ha hl) (fun h => (fun h => kf (fun q => h ((lg_cmp_eq _ _).mpr ((sx_eq64 hx hy).mpr q)))) h H locs ls ad hP hD hS hz ha hl))
theorem sx_lcmp_ne (C : sx_C S Ts own cc E) {off : Int} (tgt : Nat) (hx : sx_r64 x) (hy : sx_r64 y) (hd : decode cc pc = .ok (.lcmp, 1)) (hd2 : decode cc (pc + 1) = .ok (.ifCond .ne off, 3)) (ht : ((pc + 1 : Nat) : Int) + off = (tgt : Int)) (kt : ¬ x = y → sx_X S E cs G M tgt lv st) (kf : x = y → sx_X S E cs G M (pc + 4) lv st) : sx_X S E cs G M pc lv (sx_J y :: sx_J x :: st) :=
  fun H locs ls ad hP hD hS hz ha hl => W.lcmp C.1 C.2.1 hd (lv_if_ne C.1 C.2.1 hd2 ht (fun h => (fun h => kt (fun q => h ((lg_cmp_eq _ _).mpr ((sx_eq64 hx hy).mpr q)))) h H locs ls ad hP hD hS hz ha hl) (fun h => (fun h => kf ((sx_eq64 hx hy).mp ((lg_cmp_eq _ _).mp h))) h H locs ls ad hP hD hS hz ha hl))
theorem sx_lcmp_lt (C : sx_C S Ts own cc E) {off : Int} (tgt : Nat) (hx : sx_r64 x) (hy : sx_r64 y) (hd : decode cc pc = .ok (.lcmp, 1)) (hd2 : decode cc (pc + 1) = .ok (.ifCond .lt off, 3)) (ht : ((pc + 1 : Nat) : Int) + off = (tgt : Int)) (kt : x < y → sx_X S E cs G M tgt lv st) (kf : ¬ x < y → sx_X S E cs G M (pc + 4) lv st) : sx_X S E cs G M pc lv (sx_J y :: sx_J x :: st) :=
  fun H locs ls ad hP hD hS hz ha hl => W.lcmp C.1 C.2.1 hd (lv_if_lt C.1 C.2.1 hd2 ht (fun h => (fun h => kt ((sx_lt64 hx hy).mp ((lg_cmp_lt _ _).mp h))) h H locs ls ad hP hD hS hz ha hl) (fun h => (fun h => kf (fun q => h ((lg_cmp_lt _ _).mpr ((sx_lt64 hx hy).mpr q)))) h H locs ls ad hP hD hS hz ha hl))
theorem sx_lcmp_ge (C : sx_C S Ts own cc E) {off : Int} (tgt : Nat) (hx : sx_r64 x) (hy : sx_r64 y) (hd : decode cc pc = .ok (.lcmp, 1)) (hd2 : decode cc (pc + 1) = .ok (.ifCond .ge off, 3)) (ht : ((pc + 1 : Nat) : Int) + off = (tgt : Int)) (kt : y ≤ x → sx_X S E cs G M tgt lv st) (kf : ¬ y ≤ x → sx_X S E cs G M (pc + 4) lv st) : sx_X S E cs G M pc lv (sx_J y :: sx_J x :: st) :=
  fun H locs ls ad hP hD hS hz ha hl => W.lcmp C.1 C.2.1 hd (lv_if_ge C.1 C.2.1 hd2 ht (fun h => (fun h => kt ((sx_le64 hy hx).mp ((lg_cmp_ge _ _).mp h))) h H locs ls ad hP hD hS hz ha hl) (fun h => (fun h => kf (fun q => h ((lg_cmp_ge _ _).mpr ((sx_le64 hy hx).mpr q)))) h H locs ls ad hP hD hS hz ha hl))
theorem sx_lcmp_gt (C : sx_C S Ts own cc E) {off : Int} (tgt : Nat) (hx : sx_r64 x) (hy : sx_r64 y) (hd : decode cc pc = .ok (.lcmp, 1)) (hd2 : decode cc (pc + 1) = .ok (.ifCond .gt off, 3)) (ht : ((pc + 1 : Nat) : Int) + off = (tgt : Int)) (kt : y < x → sx_X S E cs G M tgt lv st) (kf : ¬ y < x → sx_X S E cs G M (pc + 4) lv st) : sx_X S E cs G M pc lv (sx_J y :: sx_J x :: st) :=
  fun H locs ls ad hP hD hS hz ha hl => W.lcmp C.1 C.2.1 hd (lv_if_gt C.1 C.2.1 hd2 ht (fun h => (fun h => kt ((sx_lt64 hy hx).mp ((lg_cmp_gt _ _).mp h))) h H locs ls ad hP hD hS hz ha hl) (fun h => (fun h => kf (fun q => h ((lg_cmp_gt _ _).mpr ((sx_lt64 hy hx).mpr q)))) h H locs ls ad hP hD hS hz ha hl))
theorem sx_lcmp_le (C : sx_C S Ts own cc E) {off : Int} (tgt : Nat) (hx : sx_r64 x) (hy : sx_r64 y) (hd : decode cc pc = .ok (.lcmp, 1)) (hd2 : decode cc (pc + 1) = .ok (.ifCond .le off, 3)) (ht : ((pc + 1 : Nat) : Int) + off = (tgt : Int)) (kt : x ≤ y → sx_X S E cs G M tgt lv st) (kf : ¬ x ≤ y → sx_X S E cs G M (pc + 4) lv st) : sx_X S E cs G M pc lv (sx_J y :: sx_J x :: st) :=
  fun H locs ls ad hP hD hS hz ha hl => W.lcmp C.1 C.2.1 hd (lv_if_le C.1 C.2.1 hd2 ht (fun h => (fun h => kt ((sx_le64 hx hy).mp ((lg_cmp_le _ _).mp h))) h H locs ls ad hP hD hS hz ha hl) (fun h => (fun h => kf (fun q => h ((lg_cmp_le _ _).mpr ((sx_le64 hx hy).mpr q)))) h H locs ls ad hP hD hS hz ha hl))
end SXA
