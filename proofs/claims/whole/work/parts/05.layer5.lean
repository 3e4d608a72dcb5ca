/-- the references in a world are to cells of it -/
def sx_cl (G : sx_G) : Prop := ∀ k j r, k < G.1 → G.2.2 k j = some r → r < G.1
def sx_gp (G : sx_G) (sh : Nat × Nat) : sx_G := (G.1 + 1, va_up G.2.1 G.1 sh, va_up G.2.2 G.1 (fun _ => none))
def sx_mp (G : sx_G) (M : sx_M0) : sx_M0 := va_up M G.1 (fun _ => 0)
theorem sx_cell_ad {S : sx_S} {tc : Nat → ClassId} {ad ad' : Nat → Nat} {sh : Nat × Nat} {m : Nat → Int} {R : Nat → Option Nat} (h : ∀ j r, R j = some r → ad' r = ad r) : sx_cell S tc ad' sh m R = sx_cell S tc ad sh m R := by
  have e : ∀ j, (R j).map ad' = (R j).map ad := by
    intro j
    cases hj : R j with
    | none => rfl
    | some r => simp [h j r hj]
  have e2 : ∀ (j t : Nat), sx_cv ad' (sx_av t (m j) (R j)) = sx_cv ad (sx_av t (m j) (R j)) := by
    intro j t
    unfold sx_av
    split
    · rfl
    · rfl
    · rfl
    · show va_rf ((R j).map ad') = va_rf ((R j).map ad)
      rw [e]
  obtain ⟨a, n⟩ := sh
  cases a with
  | zero =>
    show Sum.inr (n, sx_fs (S.2.1 n) ad' m R) = Sum.inr (n, sx_fs (S.2.1 n) ad m R)
    simp only [sx_fs, e2]
  | succ a =>
    show Sum.inl (tc a, sx_arr S.2.2[a]? n ad' m R) = Sum.inl (tc a, sx_arr S.2.2[a]? n ad m R)
    unfold sx_arr
    simp only [e]
theorem sx_w_push {S : sx_S} {tc : Nat → ClassId} {ad : Nat → Nat} {G : sx_G} {M : sx_M0} {q : Nat} {sh : Nat × Nat} {e : va_E} (hcl : sx_cl G) (he : e = sx_cell S tc ad sh (fun _ => 0) (fun _ => none)) : sx_w S tc ad G M ++ [(q, e)] = sx_w S tc (va_up ad G.1 q) (sx_gp G sh) (sx_mp G M) := by
  subst he
  unfold sx_w
  show _ = (List.range (G.1 + 1)).map _
  rw [List.range_succ, List.map_append, List.map_singleton]
  congr 1
  · apply List.map_congr_left
    intro k hk
    have hk' : k < G.1 := List.mem_range.mp hk
    have hne : k ≠ G.1 := Nat.ne_of_lt hk'
    show _ = (va_up ad G.1 q k, sx_cell S tc (va_up ad G.1 q) (va_up G.2.1 G.1 sh k) (va_up M G.1 (fun _ => 0) k) (va_up G.2.2 G.1 (fun _ => none) k))
    rw [va_up_ne _ _ hne, va_up_ne _ _ hne, va_up_ne _ _ hne, va_up_ne _ _ hne]
    rw [sx_cell_ad (fun j r hr => va_up_ne ad q (Nat.ne_of_lt (hcl k j r hk' hr)))]
  · show _ = [(va_up ad G.1 q G.1, sx_cell S tc (va_up ad G.1 q) (va_up G.2.1 G.1 sh G.1) (va_up M G.1 (fun _ => 0) G.1) (va_up G.2.2 G.1 (fun _ => none) G.1))]
    rw [va_up_self, va_up_self, va_up_self, va_up_self]
    rw [sx_cell_ad (ad := ad) (ad' := va_up ad G.1 q) (fun j r hr => by cases hr)]
theorem sx_cl_gp {G : sx_G} {sh : Nat × Nat} (h : sx_cl G) : sx_cl (sx_gp G sh) := by
  intro k j r hk hr
  show r < G.1 + 1
  by_cases hk' : k = G.1
  · subst hk'
    have : va_up G.2.2 G.1 (fun _ => none) G.1 j = some r := hr
    rw [va_up_self] at this
    cases this
  · have h2 : va_up G.2.2 G.1 (fun _ => none) k j = some r := hr
    rw [va_up_ne _ _ hk'] at h2
    have h3 : k < G.1 + 1 := hk
    have := h k j r (by omega) h2
    omega
theorem sx_cl_up {G : sx_G} {k j r : Nat} (h : sx_cl G) (hr : r < G.1) : sx_cl (G.1, G.2.1, sx_upR G.2.2 k j (some r)) := by
  intro a b c ha hc
  have hc' : (if a = k ∧ b = j then some r else G.2.2 a b) = some c := hc
  show c < G.1
  split at hc'
  · cases hc'; exact hr
  · exact h a b c ha hc'
section SXN
variable {S : sx_S} {E : sx_E} {cs : Nat × Nat} {G : sx_G} {M : sx_M0} {pc : Nat} {lv : List (Nat × sx_V)} {st : List sx_V} {Ts : List Cond} {own : String} {cc : ByteArray} {idx : Nat}
theorem sx_goN {H1 : Heap} {locs : List Loc} {ls : Array Slot} {ad : Nat → Nat} {q pc' : Nat} {sh : Nat × Nat} {e : va_E} {c2 : Nat × Nat} (hcl : sx_cl G) (he : e = sx_cell S (sx_tc E) ad sh (fun _ => 0) (fun _ => none)) (hP1 : va_P (sx_D E) S.1 (sx_w S (sx_tc E) ad G M ++ [(q, e)]) H1) (hD1 : va_D (sx_AA E) (sx_w S (sx_tc E) ad G M ++ [(q, e)])) (hS1 : va_S (sx_AA E) (sx_s E).heap H1 locs) (hz : sx_sz E ≤ G.1) (ha : ∀ k, k < sx_sz E → ad k = sx_ad E k) (hl : lv_has ls (sx_nL E) (sx_lv ad lv))
    {n : Nat} (hn : n ≤ G.1) (hlo : lv.all (fun q => sx_ok n q.2) = true) (hso : st.all (sx_ok n) = true)
    (kk : sx_X S E c2 (sx_gp G sh) (sx_mp G M) pc' lv (sx_A G.1 :: st)) : sx_W E H1 locs c2.1 c2.2 (F0 (sx_m E) pc' ls (.ref q :: st.map (sx_cv ad))) := by
  rw [sx_w_push hcl he] at hP1 hD1
  have hext : ∀ k, k < G.1 → va_up ad G.1 q k = ad k := fun k hk => va_up_ne _ _ (Nat.ne_of_lt hk)
  have hlv : sx_lv (va_up ad G.1 q) lv = sx_lv ad lv := List.map_congr_left (fun x hx => by
    rw [sx_ok_cv hext hn (List.all_eq_true.mp hlo x hx)])
  have hst : st.map (sx_cv (va_up ad G.1 q)) = st.map (sx_cv ad) := List.map_congr_left (fun x hx => sx_ok_cv hext hn (List.all_eq_true.mp hso x hx))
  have h := kk H1 locs ls (va_up ad G.1 q) hP1 hD1 hS1 (Nat.le_succ_of_le hz) (fun k hk => (hext k (Nat.lt_of_lt_of_le hk hz)).trans (ha k hk)) (by rw [hlv]; exact hl)
  have e3 : (sx_A G.1 :: st).map (sx_cv (va_up ad G.1 q)) = .ref q :: st.map (sx_cv ad) := by
    rw [List.map_cons, hst]
    show Value.ref (va_up ad G.1 q G.1) :: _ = _
    rw [va_up_self]
  rw [e3] at h
  exact h
theorem sx_new (C : sx_C S Ts own cc E) {ci N : Nat} {Cn : String} {T : u_T} (hc : S.1[ci]? = some (Cn, T, N)) (hin : ∀ w ∈ u_ws Cn T N, w ∈ Ts) (ty0 : Nat → FieldType) (hty : ∀ k, k < N → parseFieldDescriptor (T k).2.2.1 = some (ty0 k)) (h1 : Cond.classLink own idx Cn ∈ Ts) (h2 : Cond.instantiable Cn N ∈ Ts) (h3 : Cond.initialized Cn ∈ Ts) (hdef : ∀ j, j < N → ∃ t, (S.2.1 ci)[j]? = some t ∧ defaultValue (ty0 j) = sx_cv id (sx_av t 0 none)) (hcells : cs.1 + 1 ≤ (sx_R E).cells) (hslots : cs.2 + N ≤ (sx_R E).slots) (hd : decode cc pc = .ok (.new idx, 3))
    (hcl : sx_cl G) {n : Nat} (hn : n ≤ G.1) (hlo : lv.all (fun q => sx_ok n q.2) = true) (hso : st.all (sx_ok n) = true)
    (kk : sx_X S E (cs.1 + 1, cs.2 + N) (sx_gp G (0, ci)) (sx_mp G M) (pc + 3) lv (sx_A G.1 :: st)) : sx_X S E cs G M pc lv st := by
  intro H locs ls ad hP hD hS hz ha hl
  refine va_new (D := sx_D E) (ci := ci) (fs := sx_fs (S.2.1 ci) ad (fun _ => 0) (fun _ => none)) (C := Cn) (T := T) (N := N) C.1 C.2.1 C.2.2.2.2.1 hin ty0 hty C.2.2.2.1 (C.2.2.2.2.1 _ h1) (C.2.2.2.2.1 _ h2) (C.2.2.2.2.1 _ h3) C.2.2.2.2.2.2.1 hP hD hS C.2.2.2.2.2.2.2 hc (fun j hj => ?_) hcells hslots hd (fun q H1 hP1 hD1 hS1 => ?_)
  · obtain ⟨t, ht, hdv⟩ := hdef j hj
    unfold vp_V
    have e : sx_cv ad (sx_av t 0 none) = sx_cv id (sx_av t 0 none) := by
      unfold sx_av
      split <;> rfl
    rw [List.getD_eq_getElem?_getD, sx_fs_get ht, hdv]
    exact e.symm
  · exact sx_goN hcl rfl hP1 hD1 hS1 hz ha hl hn hlo hso kk
theorem sx_newa (C : sx_C S Ts own cc E) {a N : Nat} {x : Int} {atype : ArrayType} {ty : FieldType} (hty : newarray.typeOf atype = ty) (ht : S.2.2[a]? = some ty) (hprim : ty = .int ∨ ty = .long ∨ ty = .boolean) (h1 : Cond.arrayClass ty ∈ Ts) (hx : x = (N : Int)) (hN : N < 1048576) (hcells : cs.1 + 1 ≤ (sx_R E).cells) (hslots : cs.2 + N ≤ (sx_R E).slots) (hd : decode cc pc = .ok (.newarray atype, 2))
    (hcl : sx_cl G) {n : Nat} (hn : n ≤ G.1) (hlo : lv.all (fun q => sx_ok n q.2) = true) (hso : st.all (sx_ok n) = true)
    (kk : sx_X S E (cs.1 + 1, cs.2 + N) (sx_gp G (a + 1, N)) (sx_mp G M) (pc + 2) lv (sx_A G.1 :: st)) : sx_X S E cs G M pc lv (sx_I x :: st) := by
  subst hx
  intro H locs ls ad hP hD hS hz ha hl
  have hcb : componentBytes ty ≤ 8 := by rcases hprim with rfl | rfl | rfl <;> decide
  refine va_newa (D := sx_D E) (n := Int32.ofInt (N : Int)) (N' := N) (a0 := sx_arr (some ty) N ad (fun _ => 0) (fun _ => none)) C.1 C.2.1 (by rw [hty]; exact C.2.2.2.2.1 _ h1) hty C.2.2.2.2.2.2.1 hP hD hS C.2.2.2.2.2.2.2 (fun cA => ?_) ?_ (sx_clamp (by omega)) ?_ hcells hslots hd (fun q cA H1 hK1 hP1 hD1 hS1 => ?_)
  · rcases hprim with rfl | rfl | rfl <;> rfl
  · rw [sx_nI]; exact nI_pos (by omega)
  · have := Nat.mul_le_mul_left N hcb
    omega
  · have e1 := (hK1.2 (sx_ty S (sx_tc E)).length (cA, ty) (by simp)).2
    have e2 := (C.2.2.2.2.2.2.1.2 a _ (sx_ty_get ht)).2
    have e3 : cA = sx_tc E a := by
      rcases hprim with rfl | rfl | rfl <;> exact Option.some.inj (e1.symm.trans e2)
    subst e3
    refine sx_goN (sh := (a + 1, N)) hcl ?_ hP1 hD1 hS1 hz ha hl hn hlo hso kk
    show _ = Sum.inl (sx_tc E a, sx_arr S.2.2[a]? N ad (fun _ => 0) (fun _ => none))
    rw [ht]
-- the library's own
theorem sx_lmax (C : sx_C S Ts own cc E) {x y : Int} (hx : sx_r64 x) (hy : sx_r64 y) (h1 : Cond.methodLink own idx Lib.MathLoose.max_long.x ∈ Ts) (h2 : Cond.static Lib.MathLoose.max_long.x ∈ Ts) (h3 : Cond.initialized "java/lang/Math" ∈ Ts) (h4 : Cond.code Lib.MathLoose.max_long.x Lib.MathLoose.max_long.code 4 (some .long) ∈ Ts) (hf : 1 ≤ (sx_R E).frames) (hlo : (st.map sx_wd).sum + 15 ≤ (sx_R E).locals) (hc : cs.1 ≤ (sx_R E).cells) (hs : cs.2 ≤ (sx_R E).slots) (hd : decode cc pc = .ok (.invokestatic idx, 3))
    (kk : sx_X S E cs G M (pc + 3) lv (sx_J (if y < x then x else y) :: st)) : sx_X S E cs G M pc lv (sx_J y :: sx_J x :: st) := by
  intro H locs ls ad hP hD hS hz ha hl
  refine va_mmax_long C.1 C.2.1 (by rw [C.2.2.1]; exact hl.1.symm) C.2.2.2.1 (C.2.2.2.2.1 _ h1) (C.2.2.2.2.1 _ h2) (C.2.2.2.2.1 _ h3) (C.2.2.2.2.1 _ h4) hf (by rw [sx_wds]; exact hlo) hc hs hd ?_
  have e : (if Int64.ofInt y < Int64.ofInt x then Int64.ofInt x else Int64.ofInt y) = Int64.ofInt (if y < x then x else y) := by
    by_cases h : y < x
    · rw [if_pos h, if_pos ((sx_lt64 hy hx).mpr h)]
    · rw [if_neg h, if_neg (fun q => h ((sx_lt64 hy hx).mp q))]
  rw [e]
  exact kk H locs ls ad hP hD hS hz ha hl
theorem sx_imin (C : sx_C S Ts own cc E) {x y : Int} (hx : sx_r32 x) (hy : sx_r32 y) (h1 : Cond.methodLink own idx Lib.Math.min.name ∈ Ts) (h2 : Cond.static Lib.Math.min.name ∈ Ts) (h3 : Cond.initialized "java/lang/Math" ∈ Ts) (h4 : Cond.code Lib.Math.min.name Lib.Math.min.code 2 (some .int) ∈ Ts) (hf : 1 ≤ (sx_R E).frames) (hlo : (st.map sx_wd).sum + 13 ≤ (sx_R E).locals) (hc : cs.1 ≤ (sx_R E).cells) (hs : cs.2 ≤ (sx_R E).slots) (hd : decode cc pc = .ok (.invokestatic idx, 3))
    (kk : sx_X S E cs G M (pc + 3) lv (sx_I (if y < x then y else x) :: st)) : sx_X S E cs G M pc lv (sx_I y :: sx_I x :: st) := by
  intro H locs ls ad hP hD hS hz ha hl
  refine va_mmin C.1 C.2.1 (by rw [C.2.2.1]; exact hl.1.symm) C.2.2.2.1 (C.2.2.2.2.1 _ h1) (C.2.2.2.2.1 _ h2) (C.2.2.2.2.1 _ h3) (C.2.2.2.2.1 _ h4) hf (by rw [sx_wds]; exact hlo) hc hs hd ?_
  have e : (if Int32.ofInt y < Int32.ofInt x then Int32.ofInt y else Int32.ofInt x) = Int32.ofInt (if y < x then y else x) := by
    by_cases h : y < x
    · rw [if_pos h, if_pos ((sx_lt32 hy hx).mpr h)]
    · rw [if_neg h, if_neg (fun q => h ((sx_lt32 hy hx).mp q))]
  rw [e]
  exact kk H locs ls ad hP hD hS hz ha hl
/-- n slots of cell k0 from sp on laid into cell k1 from dp on -/
def sx_cpy (M : sx_M0) (k0 k1 sp dp n : Nat) : sx_M0 := fun a b => if a = k1 ∧ dp ≤ b ∧ b < dp + n then M k0 (sp + (b - dp)) else M a b
theorem sx_copyI (C : sx_C S Ts own cc E) {k0 k1 a n0 n1 : Nat} {sp dp n : Nat} {isp idp iN : Int} (hk0 : k0 < G.1) (hs0 : G.2.1 k0 = (a + 1, n0)) (hk1 : k1 < G.1) (hs1 : G.2.1 k1 = (a + 1, n1)) (ht : S.2.2[a]? = some .int) (hsp : isp = (sp : Int)) (hdp : idp = (dp : Int)) (hN : iN = (n : Int)) (h5 : sp + n ≤ n0) (h6 : dp + n ≤ n1) (h7 : n0 < 2147483648) (h8 : n1 < 2147483648)
    (h1 : Cond.methodLink own idx arraycopyName ∈ Ts) (h2 : Cond.native arraycopyName ∈ Ts) (h3 : Cond.static arraycopyName ∈ Ts) (h4 : Cond.initialized "java/lang/System" ∈ Ts) (hf : 1 ≤ (sx_R E).frames) (hlo : (st.map sx_wd).sum + (nativeFrameWords "java/lang/System" "arraycopy" 5 + 11) ≤ (sx_R E).locals) (hd : decode cc pc = .ok (.invokestatic idx, 3))
    (kk : sx_X S E cs G (sx_cpy M k0 k1 sp dp n) (pc + 3) lv st) : sx_X S E cs G M pc lv (sx_I iN :: sx_I idp :: sx_A k1 :: sx_I isp :: sx_A k0 :: st) := by
  subst hsp; subst hdp; subst hN
  intro H locs ls ad hP hD hS hz ha hl
  have c1 : (Int32.ofInt (sp : Int)).toNatClampNeg = sp := sx_clamp (by omega)
  have c2 : (Int32.ofInt (dp : Int)).toNatClampNeg = dp := sx_clamp (by omega)
  have c3 : (Int32.ofInt (n : Int)).toNatClampNeg = n := sx_clamp (by omega)
  refine va_copyi (D := sx_D E) C.1 C.2.1 (by rw [C.2.2.1]; exact hl.1.symm) C.2.2.2.1 (C.2.2.2.2.1 _ h1) (C.2.2.2.2.1 _ h2) (C.2.2.2.2.1 _ h3) (C.2.2.2.2.1 _ h4) C.2.2.2.2.2.2.1 hP hD hS k0 k1 a a (sx_arrI hk0 hs0 ht) (sx_arrI hk1 hs1 ht) (sx_ty_get ht) (sx_ty_get ht) rfl (by rw [sx_nI]; exact nI_pos (by omega)) (by rw [sx_nI]; exact nI_pos (by omega)) (by rw [sx_nI]; exact nI_pos (by omega)) (by rw [c1, c3]; exact h5) (by rw [c2, c3]; exact h6) (fun i _ => rfl) hf (by rw [sx_wds]; exact hlo) hd (fun H1 locs1 hP1 hD1 hS1 => ?_)
  rw [c1, c2, c3] at hP1 hD1
  have e : (sx_w S (sx_tc E) ad G M).set k1 (ad k1, .inl (sx_tc E a, n1, .inl (va_cpy (fun b => Int32.ofInt (M k0 b)) (fun b => Int32.ofInt (M k1 b)) sp dp n))) = sx_w S (sx_tc E) ad G (sx_cpy M k0 k1 sp dp n) :=
    sx_w_set hk1 rfl rfl (fun _ _ => rfl) (fun b hb => by funext x; simp [sx_cpy, hb]) (by
      rw [hs1]
      simp only [sx_cell, ht, sx_arr]
      congr 4
      funext b
      unfold va_cpy sx_cpy
      by_cases hb : dp ≤ b ∧ b < dp + n
      · rw [if_pos hb, if_pos ⟨rfl, hb⟩]
      · rw [if_neg hb, if_neg (fun q => hb q.2)])
  rw [e] at hP1 hD1
  exact kk H1 locs1 ls ad hP1 hD1 hS1 hz ha hl
theorem sx_copyL (C : sx_C S Ts own cc E) {k0 k1 a n0 n1 : Nat} {sp dp n : Nat} {isp idp iN : Int} (hk0 : k0 < G.1) (hs0 : G.2.1 k0 = (a + 1, n0)) (hk1 : k1 < G.1) (hs1 : G.2.1 k1 = (a + 1, n1)) (ht : S.2.2[a]? = some .long) (hsp : isp = (sp : Int)) (hdp : idp = (dp : Int)) (hN : iN = (n : Int)) (h5 : sp + n ≤ n0) (h6 : dp + n ≤ n1) (h7 : n0 < 2147483648) (h8 : n1 < 2147483648)
    (h1 : Cond.methodLink own idx arraycopyName ∈ Ts) (h2 : Cond.native arraycopyName ∈ Ts) (h3 : Cond.static arraycopyName ∈ Ts) (h4 : Cond.initialized "java/lang/System" ∈ Ts) (hf : 1 ≤ (sx_R E).frames) (hlo : (st.map sx_wd).sum + (nativeFrameWords "java/lang/System" "arraycopy" 5 + 11) ≤ (sx_R E).locals) (hd : decode cc pc = .ok (.invokestatic idx, 3))
    (kk : sx_X S E cs G (sx_cpy M k0 k1 sp dp n) (pc + 3) lv st) : sx_X S E cs G M pc lv (sx_I iN :: sx_I idp :: sx_A k1 :: sx_I isp :: sx_A k0 :: st) := by
  subst hsp; subst hdp; subst hN
  intro H locs ls ad hP hD hS hz ha hl
  have c1 : (Int32.ofInt (sp : Int)).toNatClampNeg = sp := sx_clamp (by omega)
  have c2 : (Int32.ofInt (dp : Int)).toNatClampNeg = dp := sx_clamp (by omega)
  have c3 : (Int32.ofInt (n : Int)).toNatClampNeg = n := sx_clamp (by omega)
  refine va_copyl (D := sx_D E) C.1 C.2.1 (by rw [C.2.2.1]; exact hl.1.symm) C.2.2.2.1 (C.2.2.2.2.1 _ h1) (C.2.2.2.2.1 _ h2) (C.2.2.2.2.1 _ h3) (C.2.2.2.2.1 _ h4) C.2.2.2.2.2.2.1 hP hD hS k0 k1 a a (sx_arrL hk0 hs0 ht) (sx_arrL hk1 hs1 ht) (sx_ty_get ht) (sx_ty_get ht) rfl (by rw [sx_nI]; exact nI_pos (by omega)) (by rw [sx_nI]; exact nI_pos (by omega)) (by rw [sx_nI]; exact nI_pos (by omega)) (by rw [c1, c3]; exact h5) (by rw [c2, c3]; exact h6) (fun i _ => rfl) hf (by rw [sx_wds]; exact hlo) hd (fun H1 locs1 hP1 hD1 hS1 => ?_)
  rw [c1, c2, c3] at hP1 hD1
  have e : (sx_w S (sx_tc E) ad G M).set k1 (ad k1, .inl (sx_tc E a, n1, .inr (.inl (va_cpy (fun b => Int64.ofInt (M k0 b)) (fun b => Int64.ofInt (M k1 b)) sp dp n)))) = sx_w S (sx_tc E) ad G (sx_cpy M k0 k1 sp dp n) :=
    sx_w_set hk1 rfl rfl (fun _ _ => rfl) (fun b hb => by funext x; simp [sx_cpy, hb]) (by
      rw [hs1]
      simp only [sx_cell, ht, sx_arr]
      congr 5
      funext b
      unfold va_cpy sx_cpy
      by_cases hb : dp ≤ b ∧ b < dp + n
      · rw [if_pos hb, if_pos ⟨rfl, hb⟩]
      · rw [if_neg hb, if_neg (fun q => hb q.2)])
  rw [e] at hP1 hD1
  exact kk H1 locs1 ls ad hP1 hD1 hS1 hz ha hl
end SXN
