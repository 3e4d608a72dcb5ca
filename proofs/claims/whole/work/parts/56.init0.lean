/-! the world as it is made, and the rules that only constructors and the law use -/
section SXW
variable {S : sx_S} {E : sx_E} {cs : Nat × Nat} {G : sx_G} {M : sx_M0} {pc : Nat} {lv : List (Nat × sx_V)} {st : List sx_V} {Ts : List Cond} {own : String} {cc : ByteArray}
/-- two descriptions of one world -/
theorem sx_Xw {G' : sx_G} {M' : sx_M0} (h1 : G'.1 = G.1) (h : ∀ k, k < G.1 → G'.2.1 k = G.2.1 k ∧ G'.2.2 k = G.2.2 k ∧ M' k = M k) (kk : sx_X S E cs G' M' pc lv st) : sx_X S E cs G M pc lv st := by
  have e : ∀ ad : Nat → Nat, sx_w S (sx_tc E) ad G M = sx_w S (sx_tc E) ad G' M' := fun ad => by
    unfold sx_w
    rw [h1]
    apply List.map_congr_left
    intro k hk
    obtain ⟨a1, a2, a3⟩ := h k (List.mem_range.mp hk)
    rw [a1, a2, a3]
  intro H locs ls ad hP hD hS hz ha hl
  rw [e ad] at hP hD
  exact kk H locs ls ad hP hD hS (by rw [h1]; exact hz) ha hl
def sx_lsh (x y : Int) : Int := (Int64.ofInt x <<< ((Int32.ofInt y).toInt64 &&& 63)).toInt
def sx_lan (x y : Int) : Int := (Int64.ofInt x &&& Int64.ofInt y).toInt
def sx_lo (x y : Int) : Int := (Int64.ofInt x ||| Int64.ofInt y).toInt
theorem sx_lshl (C : sx_C S Ts own cc E) {x y : Int} (hd : decode cc pc = .ok (.lshl, 1)) (k : sx_X S E cs G M (pc + 1) lv (sx_J (sx_lsh x y) :: st)) : sx_X S E cs G M pc lv (sx_I y :: sx_J x :: st) :=
  fun H locs ls ad hP hD hS hz ha hl => lv_lshl C.1 C.2.1 hd rfl (by have h := k H locs ls ad hP hD hS hz ha hl; simp only [List.map_cons, sx_cv, sx_lsh, Int64.ofInt_toInt] at h; exact h)
theorem sx_land (C : sx_C S Ts own cc E) {x y : Int} (hd : decode cc pc = .ok (.land, 1)) (k : sx_X S E cs G M (pc + 1) lv (sx_J (sx_lan x y) :: st)) : sx_X S E cs G M pc lv (sx_J y :: sx_J x :: st) :=
  fun H locs ls ad hP hD hS hz ha hl => lv_land C.1 C.2.1 hd (by have h := k H locs ls ad hP hD hS hz ha hl; simp only [List.map_cons, sx_cv, sx_lan, Int64.ofInt_toInt] at h; exact h)
theorem sx_lor (C : sx_C S Ts own cc E) {x y : Int} (hd : decode cc pc = .ok (.lor, 1)) (k : sx_X S E cs G M (pc + 1) lv (sx_J (sx_lo x y) :: st)) : sx_X S E cs G M pc lv (sx_J y :: sx_J x :: st) :=
  fun H locs ls ad hP hD hS hz ha hl => lv_lor C.1 C.2.1 hd (by have h := k H locs ls ad hP hD hS hz ha hl; simp only [List.map_cons, sx_cv, sx_lo, Int64.ofInt_toInt] at h; exact h)
theorem sx_i64 (v : Int64) : sx_r64 v.toInt := ⟨Int64.le_toInt v, by have := Int64.toInt_lt v; omega⟩
theorem sx_i32 (v : Int32) : sx_r32 v.toInt := ⟨Int32.le_toInt v, by have := Int32.toInt_lt v; omega⟩
theorem sx_lo_r (x y : Int) : sx_r64 (sx_lo x y) := sx_i64 _
theorem sx_and31 (x : Int) : 0 ≤ sx_and x 31 ∧ sx_and x 31 ≤ 31 := by
  have h : ∀ v : Int32, 0 ≤ (v &&& 31).toInt ∧ (v &&& 31).toInt ≤ 31 := by
    intro v
    have e : (v &&& 31).toInt = (v.toBitVec &&& 31#32).toInt := rfl
    have q : (v.toBitVec &&& 31#32).toNat ≤ 31 := by
      rw [BitVec.toNat_and]
      exact Nat.and_le_right
    rw [e, BitVec.toInt_eq_toNat_of_lt (by omega)]
    omega
  exact h (Int32.ofInt x)
theorem sx_tabIn (C : sx_C S Ts own cc E) {dflt lo hi : Int} {offs : Array Int} {len : Nat} {x : Int} {off : Int} (tgt : Nat) (hx : sx_r32 x) (hd : decode cc pc = .ok (.tableswitch dflt lo hi offs, len)) (h1 : ¬ x < lo) (h2 : ¬ hi < x) (ho : offs[(x - lo).toNat]? = some off) (ht : (pc : Int) + off = (tgt : Int)) (k : sx_X S E cs G M tgt lv st) : sx_X S E cs G M pc lv (sx_I x :: st) :=
  fun H locs ls ad hP hD hS hz ha hl => lv_tableIn C.1 C.2.1 (x := Int32.ofInt x) hd (by rw [sx_t32 hx]; exact h1) (by rw [sx_t32 hx]; exact h2) (by rw [sx_t32 hx]; exact ho) ht (k H locs ls ad hP hD hS hz ha hl)
theorem sx_tabOut (C : sx_C S Ts own cc E) {dflt lo hi : Int} {offs : Array Int} {len : Nat} {x : Int} (tgt : Nat) (hx : sx_r32 x) (hd : decode cc pc = .ok (.tableswitch dflt lo hi offs, len)) (h : x < lo ∨ hi < x) (ht : (pc : Int) + dflt = (tgt : Int)) (k : sx_X S E cs G M tgt lv st) : sx_X S E cs G M pc lv (sx_I x :: st) :=
  fun H locs ls ad hP hD hS hz ha hl => lv_tableOut C.1 C.2.1 (x := Int32.ofInt x) hd (by rw [sx_t32 hx]; exact h) ht (k H locs ls ad hP hD hS hz ha hl)
theorem sx_cmpI (C : sx_C S Ts own cc E) {off : Int} (tgt : Nat) {x y : Int} (e : x = y) (hd : decode cc pc = .ok (.if_icmp .eq off, 3)) (ht : (pc : Int) + off = (tgt : Int)) (kt : sx_X S E cs G M tgt lv st) : sx_X S E cs G M pc lv (sx_I y :: sx_I x :: st) := by
  subst e
  exact fun H locs ls ad hP hD hS hz ha hl => lv_icmp_eq C.1 C.2.1 hd ht (fun _ => kt H locs ls ad hP hD hS hz ha hl) (fun h => absurd rfl h)
theorem sx_cmpL (C : sx_C S Ts own cc E) {off : Int} (tgt : Nat) {x y : Int} (e : x = y) (hd : decode cc pc = .ok (.lcmp, 1)) (hd2 : decode cc (pc + 1) = .ok (.ifCond .eq off, 3)) (ht : ((pc + 1 : Nat) : Int) + off = (tgt : Int)) (kt : sx_X S E cs G M tgt lv st) : sx_X S E cs G M pc lv (sx_J y :: sx_J x :: st) := by
  subst e
  exact fun H locs ls ad hP hD hS hz ha hl => W.lcmp C.1 C.2.1 hd (lv_if_eq C.1 C.2.1 hd2 ht (fun _ => kt H locs ls ad hP hD hS hz ha hl) (fun h => absurd ((lg_cmp_eq _ _).mpr rfl) h))
/-- the law's script: its address, length, words -/
def sx_scr (E : sx_E) (b L : Nat) (xs : Nat → Int32) : Prop := va_X b L xs (sx_s E) (sx_s E).heap ∧ b < (sx_s E).heap.size ∧ ¬ sx_AA E b ∧ L < 2147483648
theorem sx_sld (C : sx_C S Ts own cc E) {b L : Nat} {xs : Nat → Int32} (hX : sx_scr E b L xs) {i : Int} (j : Nat) (hi : i = (j : Int)) (hj : j < L) (hd : decode cc pc = .ok (.iaload, 1)) (kk : sx_X S E cs G M (pc + 1) lv (sx_I (xs j).toInt :: st)) : sx_X S E cs G M pc lv (sx_I i :: sx_B b :: st) := by
  subst hi
  intro H locs ls ad hP hD hS hz ha hl
  refine va_sld C.1 C.2.1 hX.1 hX.2.1 hX.2.2.1 hS (i := Int32.ofInt (j : Int)) (sx_idx hj hX.2.2.2) hd ?_
  rw [sx_clamp (by have := hX.2.2.2; omega)]
  have h := kk H locs ls ad hP hD hS hz ha hl
  simp only [List.map_cons, sx_cv, Int32.ofInt_toInt] at h
  exact h
theorem sx_slen (C : sx_C S Ts own cc E) {b L : Nat} {xs : Nat → Int32} (hX : sx_scr E b L xs) (hd : decode cc pc = .ok (.arraylength, 1)) (kk : sx_X S E cs G M (pc + 1) lv (sx_I (L : Int) :: st)) : sx_X S E cs G M pc lv (sx_B b :: st) := by
  intro H locs ls ad hP hD hS hz ha hl
  refine va_slen C.1 C.2.1 hX.1 hX.2.1 hX.2.2.1 hS hd ?_
  have h := kk H locs ls ad hP hD hS hz ha hl
  simp only [List.map_cons, sx_cv, Int32.ofInt_eq_ofNat] at h
  exact h
end SXW
/-! the stages of the making: n cells are there, of cell 0 the first i0 fields are set, of cell k the first i1 -/
def rW (n i0 k i1 : Nat) : Nat → Nat → Option Nat := fun a b => if a < n ∧ (a = 0 → b < i0) ∧ (a = k → b < i1) then rfL a b else none
abbrev gW (n i0 k i1 : Nat) : sx_G := (n, shL, rW n i0 k i1)
theorem rf_hi (a b : Nat) (h : 25 ≤ b) : rfL a b = none := by
  obtain ⟨c, rfl⟩ : ∃ c, b = c + 25 := ⟨b - 25, by omega⟩
  unfold rfL
  split <;> first
    | rfl
    | (show (if c + 25 < 6 then _ else none) = none; rw [if_neg (by omega)])
theorem rW_hi (n i0 k i1 a b : Nat) (h : 25 ≤ b) : rW n i0 k i1 a b = none := by
  unfold rW
  rw [rf_hi a b h, ite_self]
def clB (n i0 k i1 : Nat) : Bool := (List.range n).all fun a => (List.range 25).all fun b => match rW n i0 k i1 a b with | none => true | some r => decide (r < n)
theorem cl_of {n i0 k i1 : Nat} (h : clB n i0 k i1 = true) : sx_cl (gW n i0 k i1) := by
  intro a b r ha hr
  have hr' : rW n i0 k i1 a b = some r := hr
  by_cases hb : b < 25
  · have q := List.all_eq_true.mp (List.all_eq_true.mp h a (List.mem_range.mpr ha)) b (List.mem_range.mpr hb)
    rw [hr'] at q
    exact of_decide_eq_true q
  · rw [rW_hi n i0 k i1 a b (by omega)] at hr'
    cases hr'
theorem rW_eq {n i0 k i1 n' i0' k' i1' a : Nat} (h : ∀ b, b < 25 → rW n' i0' k' i1' a b = rW n i0 k i1 a b) : rW n' i0' k' i1' a = rW n i0 k i1 a := by
  funext b
  by_cases hb : b < 25
  · exact h b hb
  · rw [rW_hi _ _ _ _ a b (by omega), rW_hi _ _ _ _ a b (by omega)]
section GI
variable {E : sx_E} {cs : Nat × Nat} {M : sx_M0} {pc : Nat} {lv : List (Nat × sx_V)} {st : List sx_V} {n i0 k i1 : Nat}
/-- a cell more; of the object on hand as much is set as before -/
theorem gi_arr {sh : Nat × Nat} (hs : shL n = sh) (hM : M n = fun _ => 0) (hz : ∀ b, b < 25 → rW (n + 1) i0 k i1 n b = none) (kk : sx_X SC E cs (gW (n + 1) i0 k i1) M pc lv st) : sx_X SC E cs (sx_gp (gW n i0 k i1) sh) (sx_mp (gW n i0 k i1) M) pc lv st := by
  refine sx_Xw (G' := gW (n + 1) i0 k i1) (M' := M) rfl (fun a ha => ?_) kk
  have ha' : a < n + 1 := ha
  by_cases e : a = n
  · subst e
    refine ⟨?_, ?_, ?_⟩
    · show shL a = va_up shL a sh a
      rw [va_up_self, hs]
    · show rW (a + 1) i0 k i1 a = va_up _ a (fun _ => none) a
      rw [va_up_self]
      funext b
      by_cases hb : b < 25
      · exact hz b hb
      · exact rW_hi _ _ _ _ a b (by omega)
    · show M a = va_up M a (fun _ => 0) a
      rw [va_up_self, hM]
  · refine ⟨?_, ?_, ?_⟩
    · show shL a = va_up shL n sh a
      rw [va_up_ne _ _ e]
    · show rW (n + 1) i0 k i1 a = va_up (rW n i0 k i1) n (fun _ => none) a
      rw [va_up_ne _ _ e]
      funext b
      unfold rW
      by_cases c : (a = 0 → b < i0) ∧ (a = k → b < i1)
      · rw [if_pos ⟨by omega, c⟩, if_pos ⟨by omega, c⟩]
      · rw [if_neg (fun z => c z.2), if_neg (fun z => c z.2)]
    · show M a = va_up M n (fun _ => 0) a
      rw [va_up_ne _ _ e]
/-- a new object; the one that was on hand is whole -/
theorem gi_new {sh : Nat × Nat} (hs : shL n = sh) (hM : M n = fun _ => 0) (hk : ∀ b, b < 25 → i1 ≤ b → rfL k b = none) (kk : sx_X SC E cs (gW (n + 1) i0 n 0) M pc lv st) : sx_X SC E cs (sx_gp (gW n i0 k i1) sh) (sx_mp (gW n i0 k i1) M) pc lv st := by
  refine sx_Xw (G' := gW (n + 1) i0 n 0) (M' := M) rfl (fun a ha => ?_) kk
  have ha' : a < n + 1 := ha
  by_cases e : a = n
  · subst e
    refine ⟨?_, ?_, ?_⟩
    · show shL a = va_up shL a sh a
      rw [va_up_self, hs]
    · show rW (a + 1) i0 a 0 a = va_up _ a (fun _ => none) a
      rw [va_up_self]
      funext b
      unfold rW
      rw [if_neg (fun z => Nat.not_lt_zero b (z.2.2 rfl))]
    · show M a = va_up M a (fun _ => 0) a
      rw [va_up_self, hM]
  · refine ⟨?_, ?_, ?_⟩
    · show shL a = va_up shL n sh a
      rw [va_up_ne _ _ e]
    · show rW (n + 1) i0 n 0 a = va_up (rW n i0 k i1) n (fun _ => none) a
      rw [va_up_ne _ _ e]
      refine rW_eq (fun b hb => ?_)
      unfold rW
      by_cases c : a = 0 → b < i0
      · rw [if_pos ⟨by omega, c, fun z => absurd z e⟩]
        by_cases c2 : a = k → b < i1
        · rw [if_pos ⟨by omega, c, c2⟩]
        · rw [if_neg (fun z => c2 z.2.2)]
          have e1 : a = k := Classical.byContradiction (fun z => c2 (fun y => absurd y z))
          rw [e1]
          exact hk b hb (Nat.not_lt.mp (fun z => c2 (fun _ => z)))
      · rw [if_neg (fun z => c z.2.1), if_neg (fun z => c z.2.1)]
    · show M a = va_up M n (fun _ => 0) a
      rw [va_up_ne _ _ e]
/-- a row of rows -/
theorem gi_grid {K : Nat} (hs : shL n = (3 + 1, 6)) (hs2 : ∀ j, j < 6 → shL (n + 1 + j) = (2 + 1, K)) (hr : ∀ b, b < 25 → rfL n b = if b < 6 then some (n + 1 + b) else none) (hz : ∀ j, j < 6 → ∀ b, b < 25 → rfL (n + 1 + j) b = none) (hk : k < n) (h0 : 0 < n) (hM : ∀ j, j < 7 → M (n + j) = fun _ => 0) (kk : sx_X SC E cs (gW (n + 7) i0 k i1) M pc lv st) : sx_X SC E cs (sx_gm (gW n i0 k i1) 3 2 6 K) (sx_mm (gW n i0 k i1) M) pc lv st := by
  refine sx_Xw (G' := gW (n + 7) i0 k i1) (M' := M) (by show n + 7 = n + 1 + 6; omega) (fun a ha => ?_) kk
  have ha' : a < n + 1 + 6 := ha
  show shL a = (if a < n then shL a else if a = n then (3 + 1, 6) else (2 + 1, K)) ∧ rW (n + 7) i0 k i1 a = (if a < n then rW n i0 k i1 a else if a = n then (fun j => if j < 6 then some (n + 1 + j) else none) else fun _ => none) ∧ M a = (if a < n then M a else fun _ => 0)
  by_cases e : a < n
  · rw [if_pos e, if_pos e, if_pos e]
    refine ⟨rfl, ?_, rfl⟩
    funext b
    unfold rW
    by_cases c : (a = 0 → b < i0) ∧ (a = k → b < i1)
    · rw [if_pos ⟨by omega, c⟩, if_pos ⟨by omega, c⟩]
    · rw [if_neg (fun z => c z.2), if_neg (fun z => c z.2)]
  · rw [if_neg e, if_neg e, if_neg e]
    have hM1 : M a = fun _ => 0 := by
      have := hM (a - n) (by omega)
      rw [show n + (a - n) = a by omega] at this
      exact this
    have hw : ∀ b, rW (n + 7) i0 k i1 a b = rfL a b := fun b => by
      unfold rW
      rw [if_pos ⟨by omega, fun z => by omega, fun z => by omega⟩]
    by_cases e2 : a = n
    · rw [if_pos e2, if_pos e2]
      subst e2
      refine ⟨hs, ?_, hM1⟩
      funext b
      rw [hw b]
      by_cases hb : b < 25
      · exact hr b hb
      · rw [rf_hi _ _ (by omega), if_neg (by omega)]
    · rw [if_neg e2, if_neg e2]
      have ea : n + 1 + (a - n - 1) = a := by omega
      refine ⟨?_, ?_, hM1⟩
      · have := hs2 (a - n - 1) (by omega)
        rw [ea] at this
        exact this
      · funext b
        rw [hw b]
        by_cases hb : b < 25
        · have := hz (a - n - 1) (by omega) b hb
          rw [ea] at this
          exact this
        · exact rf_hi _ _ (by omega)
/-- a field of the object on hand is set -/
theorem gi_put {j x : Nat} (hb : ∀ b, b < 25 → i1 ≤ b → b < j → rfL k b = none) (hj : rfL k j = some x) (hkn : k < n) (h0 : k ≠ 0) (hi : i1 ≤ j) (kk : sx_X SC E cs (gW n i0 k (j + 1)) M pc lv st) : sx_X SC E cs ((gW n i0 k i1).1, (gW n i0 k i1).2.1, sx_upR (gW n i0 k i1).2.2 k j (some x)) M pc lv st := by
  refine sx_Xw (G' := gW n i0 k (j + 1)) (M' := M) rfl (fun a ha => ⟨rfl, ?_, rfl⟩) kk
  have ha' : a < n := ha
  show rW n i0 k (j + 1) a = sx_upR (rW n i0 k i1) k j (some x) a
  by_cases e : a = k
  · subst e
    funext b
    by_cases e2 : b = j
    · subst e2
      rw [sx_upR_at]
      unfold rW
      rw [if_pos ⟨ha', fun z => absurd z h0, fun _ => by omega⟩]
      exact hj
    · rw [sx_upR_slot e2]
      unfold rW
      by_cases c : b < i1
      · rw [if_pos ⟨ha', fun z => absurd z h0, fun _ => by omega⟩, if_pos ⟨ha', fun z => absurd z h0, fun _ => c⟩]
      · have r0 : (if a < n ∧ (a = 0 → b < i0) ∧ (a = a → b < i1) then rfL a b else none) = none := if_neg (fun z => c (z.2.2 rfl))
        rw [r0]
        by_cases c2 : b < j
        · rw [if_pos ⟨ha', fun z => absurd z h0, fun _ => by omega⟩]
          by_cases h25 : b < 25
          · exact hb b h25 (by omega) c2
          · exact rf_hi _ _ (by omega)
        · rw [if_neg (fun z => by have := z.2.2 rfl; omega)]
  · rw [sx_upR_ne e]
    funext b
    unfold rW
    by_cases c : a = 0 → b < i0
    · rw [if_pos ⟨ha', c, fun z => absurd z e⟩, if_pos ⟨ha', c, fun z => absurd z e⟩]
    · rw [if_neg (fun z => c z.2.1), if_neg (fun z => c z.2.1)]
/-- a field of cell 0 is set -/
theorem gi_put0 {x : Nat} (hj : rfL 0 i0 = some x) (hn : 0 < n) (h0 : k ≠ 0) (kk : sx_X SC E cs (gW n (i0 + 1) k i1) M pc lv st) : sx_X SC E cs ((gW n i0 k i1).1, (gW n i0 k i1).2.1, sx_upR (gW n i0 k i1).2.2 0 i0 (some x)) M pc lv st := by
  refine sx_Xw (G' := gW n (i0 + 1) k i1) (M' := M) rfl (fun a ha => ⟨rfl, ?_, rfl⟩) kk
  have ha' : a < n := ha
  show rW n (i0 + 1) k i1 a = sx_upR (rW n i0 k i1) 0 i0 (some x) a
  by_cases e : a = 0
  · subst e
    funext b
    by_cases e2 : b = i0
    · subst e2
      rw [sx_upR_at]
      unfold rW
      rw [if_pos ⟨ha', fun _ => by omega, fun z => absurd z.symm h0⟩]
      exact hj
    · rw [sx_upR_slot e2]
      unfold rW
      by_cases c : b < i0
      · rw [if_pos ⟨ha', fun _ => by omega, fun z => absurd z.symm h0⟩, if_pos ⟨ha', fun _ => c, fun z => absurd z.symm h0⟩]
      · rw [if_neg (fun z => by have := z.2.1 rfl; omega), if_neg (fun z => c (z.2.1 rfl))]
  · rw [sx_upR_ne e]
    funext b
    unfold rW
    by_cases c : a = k → b < i1
    · rw [if_pos ⟨ha', fun z => absurd z e, c⟩, if_pos ⟨ha', fun z => absurd z e, c⟩]
    · rw [if_neg (fun z => c z.2.2), if_neg (fun z => c z.2.2)]
/-- all is made -/
theorem gi_all (kk : sx_X SC E cs GL M pc lv st) : sx_X SC E cs (gW 71 5 53 25) M pc lv st := by
  refine sx_Xw (G' := GL) (M' := M) rfl (fun a ha => ⟨rfl, ?_, rfl⟩) kk
  have ha' : a < 71 := ha
  show rfL a = rW 71 5 53 25 a
  funext b
  by_cases hb : b < 25
  · unfold rW
    by_cases c : a = 0 → b < 5
    · rw [if_pos ⟨ha', c, fun _ => hb⟩]
    · rw [if_neg (fun z => c z.2.1)]
      have e1 : a = 0 := Classical.byContradiction (fun z => c (fun y => absurd y z))
      subst e1
      have : ∀ b, b < 25 → 5 ≤ b → rfL 0 b = none := by decide
      exact this b hb (Nat.not_lt.mp (fun z => c (fun _ => z)))
  · rw [rW_hi _ _ _ _ a b (by omega), rf_hi _ _ (by omega)]
end GI
abbrev rmc (f c s lo : Nat) : Room := { frames := f, cells := c, slots := s, locals := lo }
abbrev mZ : sx_M0 := fun _ _ => 0
def mT : sx_M0 := sx_up mZ 1 2 10000000
def mS : sx_M0 := sx_up mT 17 11 (-1)
theorem up_0 {M : sx_M0} {k j : Nat} {x : Int} (h : M k j = x) : sx_up M k j x = M := by
  funext a b
  unfold sx_up
  by_cases e : a = k ∧ b = j
  · rw [if_pos e, e.1, e.2, h]
  · rw [if_neg e]
theorem mT_0 {a : Nat} (h : a ≠ 1) : mT a = fun _ => 0 := sx_up_ne h
theorem mS_0 {a : Nat} (h : a ≠ 1) (h2 : a ≠ 17) : mS a = fun _ => 0 := (sx_up_ne h2).trans (mT_0 h)
def mB : sx_M0 := sx_up mS 53 11 10000000
theorem mB_0 {a : Nat} (h : a ≠ 1) (h2 : a ≠ 17) (h3 : a ≠ 53) : mB a = fun _ => 0 := (sx_up_ne h3).trans (mS_0 h h2)
def mL1 (t : Nat) : sx_M0 := fun a b => if a = 55 ∧ b < t then 10000 else mB a b
def mL2 (t : Nat) : sx_M0 := fun a b => if a = 62 ∧ b < t then -1 else mL1 6 a b
theorem mL1_0 : mL1 0 = mB := by
  funext a b
  unfold mL1
  rw [if_neg (by omega)]
theorem mL2_0 : mL2 0 = mL1 6 := by
  funext a b
  unfold mL2
  rw [if_neg (by omega)]
theorem mL1_s (t : Nat) : sx_up (mL1 t) 55 t 10000 = mL1 (t + 1) := by
  funext a b
  unfold sx_up mL1
  by_cases e : a = 55 ∧ b = t
  · rw [if_pos e, if_pos (by omega)]
  · rw [if_neg e]
    by_cases e2 : a = 55 ∧ b < t
    · rw [if_pos e2, if_pos (by omega)]
    · rw [if_neg e2, if_neg (by omega)]
theorem mL2_s (t : Nat) : sx_up (mL2 t) 62 t (-1) = mL2 (t + 1) := by
  funext a b
  unfold sx_up mL2
  by_cases e : a = 62 ∧ b = t
  · rw [if_pos e, if_pos (by omega)]
  · rw [if_neg e]
    by_cases e2 : a = 62 ∧ b < t
    · rw [if_pos e2, if_pos (by omega)]
    · rw [if_neg e2, if_neg (by omega)]
/-- what both sides hold at first -/
abbrev mI : sx_M0 := mL2 30
theorem mI_0 {a : Nat} (h : a ≠ 1) (h2 : a ≠ 17) (h3 : a ≠ 53) (h4 : a ≠ 55) (h5 : a ≠ 62) : mI a = fun _ => 0 := by
  funext b
  show (if a = 62 ∧ b < 30 then -1 else if a = 55 ∧ b < 6 then 10000 else mB a b) = 0
  rw [if_neg (fun z => h5 z.1), if_neg (fun z => h4 z.1), mB_0 h h2 h3]
theorem mI_1 {b : Nat} (h : b ≠ 2) : mI 1 b = 0 := by
  show (if 1 = 62 ∧ b < 30 then -1 else if 1 = 55 ∧ b < 6 then 10000 else if 1 = 53 ∧ b = 11 then 10000000 else if 1 = 17 ∧ b = 11 then -1 else if 1 = 1 ∧ b = 2 then 10000000 else (0 : Int)) = 0
  rw [if_neg (by omega), if_neg (by omega), if_neg (by omega), if_neg (by omega), if_neg (by omega)]
theorem mI_17 {b : Nat} (h : b ≠ 11) : mI 17 b = 0 := by
  show (if 17 = 62 ∧ b < 30 then -1 else if 17 = 55 ∧ b < 6 then 10000 else if 17 = 53 ∧ b = 11 then 10000000 else if 17 = 17 ∧ b = 11 then -1 else if 17 = 1 ∧ b = 2 then 10000000 else (0 : Int)) = 0
  rw [if_neg (by omega), if_neg (by omega), if_neg (by omega), if_neg (by omega), if_neg (by omega)]
theorem mI_53 {b : Nat} (h : b ≠ 11) : mI 53 b = 0 := by
  show (if 53 = 62 ∧ b < 30 then -1 else if 53 = 55 ∧ b < 6 then 10000 else if 53 = 53 ∧ b = 11 then 10000000 else if 53 = 17 ∧ b = 11 then -1 else if 53 = 1 ∧ b = 2 then 10000000 else (0 : Int)) = 0
  rw [if_neg (by omega), if_neg (by omega), if_neg (by omega), if_neg (by omega), if_neg (by omega)]
theorem mI_b : mI 1 2 = 10000000 ∧ mI 17 11 = -1 ∧ mI 53 11 = 10000000 := ⟨rfl, rfl, rfl⟩
theorem rl_mI : rl mI := by
  obtain ⟨b1, b2, b3⟩ := mI_b
  have z : ∀ a b, a ≠ 1 → a ≠ 17 → a ≠ 53 → a ≠ 55 → a ≠ 62 → mI a b = 0 := fun a b h1 h2 h3 h4 h5 => by rw [mI_0 h1 h2 h3 h4 h5]
  have t0 : mI 1 0 = 0 := mI_1 (by decide)
  have t1 : mI 1 1 = 0 := mI_1 (by decide)
  refine ⟨⟨?_, ?_, ?_, mI_17 (by decide), fun p hp => by rw [z 19 p (by decide) (by decide) (by decide) (by decide) (by decide)]; omega⟩, ?_, ?_, ?_, ?_, ?_, ?_⟩
  · refine ⟨by omega, by omega, by omega, fun d hd => ?_, fun d hd => ?_, fun d p hd hp => ?_, fun p hp => ?_, fun p hp => ?_, fun p hp => ?_, fun p hp => ?_, fun p hp => ?_, fun p hp => ?_⟩
    · rw [z 2 d (by decide) (by decide) (by decide) (by decide) (by decide)]; omega
    · rw [z 3 d (by decide) (by decide) (by decide) (by decide) (by decide)]; omega
    · rw [z (4 + 1 + d) p (by omega) (by omega) (by omega) (by omega) (by omega)]; omega
    · rw [z 11 p (by decide) (by decide) (by decide) (by decide) (by decide)]; omega
    · rw [z 12 p (by decide) (by decide) (by decide) (by decide) (by decide)]; omega
    · rw [z 13 p (by decide) (by decide) (by decide) (by decide) (by decide)]; omega
    · rw [z 14 p (by decide) (by decide) (by decide) (by decide) (by decide)]; omega
    · rw [z 15 p (by decide) (by decide) (by decide) (by decide) (by decide)]; omega
    · rw [z 16 p (by decide) (by decide) (by decide) (by decide) (by decide)]; omega
  · have s0 : mI 17 0 = 0 := mI_17 (by decide)
    have s1 : mI 17 1 = 0 := mI_17 (by decide)
    have s12 : mI 17 12 = 0 := mI_17 (by decide)
    have s13 : mI 17 13 = 0 := mI_17 (by decide)
    refine ⟨by omega, by omega, fun d hd => ?_, fun d p hd hp => ?_, fun s hs => ?_, by omega, by omega, fun d hd => ?_, by omega⟩
    · rw [z 18 d (by decide) (by decide) (by decide) (by decide) (by decide)]; omega
    · rw [z (20 + 1 + d) p (by omega) (by omega) (by omega) (by omega) (by omega)]; omega
    · rw [z 27 s (by decide) (by decide) (by decide) (by decide) (by decide)]; omega
    · rw [z 29 d (by decide) (by decide) (by decide) (by decide) (by decide)]; omega
  · have h0 := z 33 0 (by decide) (by decide) (by decide) (by decide) (by decide)
    have h1 := z 33 1 (by decide) (by decide) (by decide) (by decide) (by decide)
    have h2 := z 35 0 (by decide) (by decide) (by decide) (by decide) (by decide)
    have h3 := z 37 0 (by decide) (by decide) (by decide) (by decide) (by decide)
    have h4 := z 0 5 (by decide) (by decide) (by decide) (by decide) (by decide)
    refine ⟨by omega, fun d hd => ?_, by omega, by omega, fun d hd => ?_, by omega, fun d hd => ?_, by omega⟩
    · rw [z 34 d (by decide) (by decide) (by decide) (by decide) (by decide)]; omega
    · rw [z 36 d (by decide) (by decide) (by decide) (by decide) (by decide)]; omega
    · rw [z 38 d (by decide) (by decide) (by decide) (by decide) (by decide)]; omega
  · have q0 : mI 53 0 = 0 := mI_53 (by decide)
    have q1 : mI 53 1 = 0 := mI_53 (by decide)
    unfold rT
    rw [t0, t1, q0, q1, b1, b3]
    refine ⟨rfl, rfl, rfl, fun d hd => by rw [z 54 d (by decide) (by decide) (by decide) (by decide) (by decide), z 2 d (by decide) (by decide) (by decide) (by decide) (by decide)], fun d hd => ?_, fun d p hd hp => ?_, fun p hp => ⟨by rw [z 56 p (by decide) (by decide) (by decide) (by decide) (by decide), z 11 p (by decide) (by decide) (by decide) (by decide) (by decide)], by rw [z 57 p (by decide) (by decide) (by decide) (by decide) (by decide), z 12 p (by decide) (by decide) (by decide) (by decide) (by decide)], by rw [z 58 p (by decide) (by decide) (by decide) (by decide) (by decide), z 13 p (by decide) (by decide) (by decide) (by decide) (by decide)], by rw [z 59 p (by decide) (by decide) (by decide) (by decide) (by decide), z 14 p (by decide) (by decide) (by decide) (by decide) (by decide)], by rw [z 60 p (by decide) (by decide) (by decide) (by decide) (by decide), z 15 p (by decide) (by decide) (by decide) (by decide) (by decide)], by rw [z 61 p (by decide) (by decide) (by decide) (by decide) (by decide), z 16 p (by decide) (by decide) (by decide) (by decide) (by decide)]⟩⟩ <;> (exfalso; omega)
  · intro d hd _
    refine ⟨?_, fun p hp => ?_⟩
    · show (if 55 = 62 ∧ d < 30 then -1 else if 55 = 55 ∧ d < 6 then 10000 else mB 55 d) = 10000
      rw [if_neg (by omega), if_pos (by omega)]
    · show (if 62 = 62 ∧ 5 * d + p < 30 then (-1 : Int) else mL1 6 62 (5 * d + p)) = -1
      rw [if_pos (by omega)]
  · have h0 := z 33 0 (by decide) (by decide) (by decide) (by decide) (by decide)
    have q12 : mI 53 12 = 0 := mI_53 (by decide)
    refine ⟨by rw [h0, q12], fun e => by omega, fun d hd => ?_⟩
    rw [z 63 d (by decide) (by decide) (by decide) (by decide) (by decide)]; omega
  · rw [z 0 5 (by decide) (by decide) (by decide) (by decide) (by decide)]
    exact mI_53 (by decide)
  · exact rC_0 (mI_53 (by decide)) (z 35 0 (by decide) (by decide) (by decide) (by decide) (by decide))
  · have h3 := z 37 0 (by decide) (by decide) (by decide) (by decide) (by decide)
    refine ⟨by rw [h3]; exact mI_53 (by decide), fun j hj => by omega⟩
