/-- a field reference: in a method of 'own', constant 'idx' is slot j, of type t, of class ci -/
def sx_F (S : sx_S) (Ts : List Cond) (own : String) (idx ci j t : Nat) : Prop :=
  ∃ (Cn : String) (T : u_T) (N : Nat), S.1[ci]? = some (Cn, T, N) ∧ (∀ w ∈ u_ws Cn T N, w ∈ Ts) ∧ j < N ∧ (S.2.1 ci)[j]? = some t ∧ Cond.fieldLink own idx (T j).1 (T j).2.1 (T j).2.2.1 ∈ Ts
def sx_Pf (S : sx_S) (Ts : List Cond) (own : String) (idx ci j t : Nat) (fin : Bool) (ty : FieldType) : Prop :=
  ∃ (Cn : String) (T : u_T) (N : Nat) (ty0 : Nat → FieldType), S.1[ci]? = some (Cn, T, N) ∧ (∀ w ∈ u_ws Cn T N, w ∈ Ts) ∧ (∀ k, k < N → parseFieldDescriptor (T k).2.2.1 = some (ty0 k)) ∧ (∀ a, a < N → ∀ b, b < N → a ≠ b → (T a).2.1 ≠ (T b).2.1) ∧ j < N ∧ (S.2.1 ci)[j]? = some t ∧ Cond.fieldLink own idx (T j).1 (T j).2.1 (T j).2.2.1 ∈ Ts ∧ (T j).2.2.2 = fin ∧ (fin = true → (T j).1 = own) ∧ parseFieldDescriptor (T j).2.2.1 = some ty
section SXM
variable {S : sx_S} {E : sx_E} {cs : Nat × Nat} {G : sx_G} {M : sx_M0} {pc : Nat} {lv : List (Nat × sx_V)} {st : List sx_V} {Ts : List Cond} {own : String} {cc : ByteArray} {idx ci j t : Nat} {k : Nat}
theorem sx_obj {tc : Nat → ClassId} {ad : Nat → Nat} (hk : k < G.1) (hs : G.2.1 k = (0, ci)) : (sx_w S tc ad G M)[k]? = some (ad k, .inr (ci, sx_fs (S.2.1 ci) ad (M k) (G.2.2 k))) := by
  rw [sx_w_get hk, hs]
  rfl
theorem sx_get (C : sx_C S Ts own cc E) (F : sx_F S Ts own idx ci j t) (hk : k < G.1) (hs : G.2.1 k = (0, ci)) (hd : decode cc pc = .ok (.getfield idx, 3)) (kk : sx_X S E cs G M (pc + 3) lv (sx_av t (M k j) (G.2.2 k j) :: st)) : sx_X S E cs G M pc lv (sx_A k :: st) := by
  obtain ⟨Cn, T, N, hc, hin, hj, hft, hlink⟩ := F
  intro H locs ls ad hP hD hS hz ha hl
  exact va_get (D := sx_D E) C.1 C.2.1 C.2.2.2.2.1 hin C.2.2.2.1 C.2.2.2.2.2.2.1 hP k (sx_obj hk hs) hc j hj (C.2.2.2.2.1 _ hlink) (fun _ h => h) (sx_fs_get hft) hd (kk H locs ls ad hP hD hS hz ha hl)
theorem sx_geti (C : sx_C S Ts own cc E) (F : sx_F S Ts own idx ci j 0) (hk : k < G.1) (hs : G.2.1 k = (0, ci)) (hd : decode cc pc = .ok (.getfield idx, 3)) (kk : sx_X S E cs G M (pc + 3) lv (sx_I (M k j) :: st)) : sx_X S E cs G M pc lv (sx_A k :: st) := sx_get C F hk hs hd kk
theorem sx_getz (C : sx_C S Ts own cc E) (F : sx_F S Ts own idx ci j 2) (hk : k < G.1) (hs : G.2.1 k = (0, ci)) (hd : decode cc pc = .ok (.getfield idx, 3)) (kk : sx_X S E cs G M (pc + 3) lv (sx_I (M k j) :: st)) : sx_X S E cs G M pc lv (sx_A k :: st) := sx_get C F hk hs hd kk
theorem sx_getl (C : sx_C S Ts own cc E) (F : sx_F S Ts own idx ci j 1) (hk : k < G.1) (hs : G.2.1 k = (0, ci)) (hd : decode cc pc = .ok (.getfield idx, 3)) (kk : sx_X S E cs G M (pc + 3) lv (sx_J (M k j) :: st)) : sx_X S E cs G M pc lv (sx_A k :: st) := sx_get C F hk hs hd kk
theorem sx_getr (C : sx_C S Ts own cc E) (F : sx_F S Ts own idx ci j 3) (r : Nat) (hk : k < G.1) (hs : G.2.1 k = (0, ci)) (hr : G.2.2 k j = some r) (hd : decode cc pc = .ok (.getfield idx, 3)) (kk : sx_X S E cs G M (pc + 3) lv (sx_A r :: st)) : sx_X S E cs G M pc lv (sx_A k :: st) := by
  refine sx_get C F hk hs hd ?_
  rw [hr]
  exact kk
theorem sx_put0 (C : sx_C S Ts own cc E) {ty : FieldType} (F : sx_Pf S Ts own idx ci j t false ty) (hk : k < G.1) (hs : G.2.1 k = (0, ci)) (hd : decode cc pc = .ok (.putfield idx, 3)) {v : sx_V} {G' : sx_G} {M' : sx_M0} (hG1 : G'.1 = G.1) (hG2 : G'.2.1 = G.2.1) (hM : ∀ a, a ≠ k → M' a = M a) (hR : ∀ a, a ≠ k → G'.2.2 a = G.2.2 a) (hm : ∀ i, i ≠ j → M' k i = M k i) (hr : ∀ i, i ≠ j → G'.2.2 k i = G.2.2 k i) (hv : v = sx_av t (M' k j) (G'.2.2 k j)) (hn : ∀ ad, narrow ty (sx_cv ad v) = sx_cv ad v) (hf : ∀ ad, fits ty (sx_cv ad v) = true)
    (kk : sx_X S E cs G' M' (pc + 3) lv st) : sx_X S E cs G M pc lv (v :: sx_A k :: st) := by
  obtain ⟨Cn, T, N, ty0, hc, hin, hty, hnm, hj, hft, hlink, hfin, -, hpd⟩ := F
  intro H locs ls ad hP hD hS hz ha hl
  have hlen : j < (sx_fs (S.2.1 ci) ad (M k) (G.2.2 k)).length := by
    have := (List.getElem?_eq_some_iff.mp hft).1
    simpa [sx_fs] using this
  refine va_put (D := sx_D E) C.1 C.2.1 C.2.2.2.2.1 hin ty0 hty hnm C.2.2.2.1 C.2.2.2.2.2.2.1 hP hD hS k (sx_obj hk hs) hc j hj (C.2.2.2.2.1 _ hlink) (fun _ h => h) hfin hpd (hn ad) (hf ad) hlen hd (fun H1 locs1 hP1 hD1 hS1 => ?_)
  have e : (sx_w S (sx_tc E) ad G M).set k (ad k, .inr (ci, (sx_fs (S.2.1 ci) ad (M k) (G.2.2 k)).set j (sx_cv ad v))) = sx_w S (sx_tc E) ad G' M' :=
    sx_w_set hk hG1 hG2 hR hM (by rw [hs, sx_fs_set (m' := M' k) (r' := G'.2.2 k) hft hm hr (by rw [hv])]; rfl)
  rw [e] at hP1 hD1
  exact kk H1 locs1 ls ad hP1 hD1 hS1 (by rw [hG1]; exact hz) ha hl
theorem sx_putF0 (C : sx_C S Ts own cc E) (hini : (sx_me E).name = "<init>") {ty : FieldType} (F : sx_Pf S Ts own idx ci j t true ty) (hk : k < G.1) (hs : G.2.1 k = (0, ci)) (hd : decode cc pc = .ok (.putfield idx, 3)) {v : sx_V} {G' : sx_G} {M' : sx_M0} (hG1 : G'.1 = G.1) (hG2 : G'.2.1 = G.2.1) (hM : ∀ a, a ≠ k → M' a = M a) (hR : ∀ a, a ≠ k → G'.2.2 a = G.2.2 a) (hm : ∀ i, i ≠ j → M' k i = M k i) (hr : ∀ i, i ≠ j → G'.2.2 k i = G.2.2 k i) (hv : v = sx_av t (M' k j) (G'.2.2 k j)) (hn : ∀ ad, narrow ty (sx_cv ad v) = sx_cv ad v) (hf : ∀ ad, fits ty (sx_cv ad v) = true)
    (kk : sx_X S E cs G' M' (pc + 3) lv st) : sx_X S E cs G M pc lv (v :: sx_A k :: st) := by
  obtain ⟨Cn, T, N, ty0, hc, hin, hty, hnm, hj, hft, hlink, hfin, hdecl, hpd⟩ := F
  intro H locs ls ad hP hD hS hz ha hl
  have hlen : j < (sx_fs (S.2.1 ci) ad (M k) (G.2.2 k)).length := by
    have := (List.getElem?_eq_some_iff.mp hft).1
    simpa [sx_fs] using this
  refine va_putF (D := sx_D E) C.1 C.2.1 C.2.2.2.2.1 hin ty0 hty hnm C.2.2.2.1 C.2.2.2.2.2.2.1 hP hD hS k (sx_obj hk hs) hc j hj (C.2.2.2.2.1 _ hlink) (fun _ h => h) hfin hini (hdecl rfl) hpd (hn ad) (hf ad) hlen hd (fun H1 locs1 hP1 hD1 hS1 => ?_)
  have e : (sx_w S (sx_tc E) ad G M).set k (ad k, .inr (ci, (sx_fs (S.2.1 ci) ad (M k) (G.2.2 k)).set j (sx_cv ad v))) = sx_w S (sx_tc E) ad G' M' :=
    sx_w_set hk hG1 hG2 hR hM (by rw [hs, sx_fs_set (m' := M' k) (r' := G'.2.2 k) hft hm hr (by rw [hv])]; rfl)
  rw [e] at hP1 hD1
  exact kk H1 locs1 ls ad hP1 hD1 hS1 (by rw [hG1]; exact hz) ha hl
theorem sx_puti (C : sx_C S Ts own cc E) (F : sx_Pf S Ts own idx ci j 0 false .int) {x : Int} (hk : k < G.1) (hs : G.2.1 k = (0, ci)) (hd : decode cc pc = .ok (.putfield idx, 3)) (kk : sx_X S E cs G (sx_up M k j x) (pc + 3) lv st) : sx_X S E cs G M pc lv (sx_I x :: sx_A k :: st) :=
  sx_put0 C F hk hs hd (M' := sx_up M k j x) rfl rfl (fun _ h => sx_up_ne h) (fun _ _ => rfl) (fun _ h => sx_up_slot h) (fun _ _ => rfl) (by rw [sx_up_at]; rfl) (fun _ => rfl) (fun _ => rfl) kk
theorem sx_putl (C : sx_C S Ts own cc E) (F : sx_Pf S Ts own idx ci j 1 false .long) {x : Int} (hk : k < G.1) (hs : G.2.1 k = (0, ci)) (hd : decode cc pc = .ok (.putfield idx, 3)) (kk : sx_X S E cs G (sx_up M k j x) (pc + 3) lv st) : sx_X S E cs G M pc lv (sx_J x :: sx_A k :: st) :=
  sx_put0 C F hk hs hd (M' := sx_up M k j x) rfl rfl (fun _ h => sx_up_ne h) (fun _ _ => rfl) (fun _ h => sx_up_slot h) (fun _ _ => rfl) (by rw [sx_up_at]; rfl) (fun _ => rfl) (fun _ => rfl) kk
theorem sx_bit {x : Int} (h : x = 0 ∨ x = 1) : narrow .boolean (.int (Int32.ofInt x)) = .int (Int32.ofInt x) ∧ fits .boolean (.int (Int32.ofInt x)) = true := by
  rcases h with rfl | rfl <;> decide
theorem sx_putz (C : sx_C S Ts own cc E) (F : sx_Pf S Ts own idx ci j 2 false .boolean) {x : Int} (hx : x = 0 ∨ x = 1) (hk : k < G.1) (hs : G.2.1 k = (0, ci)) (hd : decode cc pc = .ok (.putfield idx, 3)) (kk : sx_X S E cs G (sx_up M k j x) (pc + 3) lv st) : sx_X S E cs G M pc lv (sx_I x :: sx_A k :: st) :=
  sx_put0 C F hk hs hd (M' := sx_up M k j x) rfl rfl (fun _ h => sx_up_ne h) (fun _ _ => rfl) (fun _ h => sx_up_slot h) (fun _ _ => rfl) (by rw [sx_up_at]; rfl) (fun _ => (sx_bit hx).1) (fun _ => (sx_bit hx).2) kk
theorem sx_putFr (C : sx_C S Ts own cc E) (hini : (sx_me E).name = "<init>") {ty : FieldType} (F : sx_Pf S Ts own idx ci j 3 true ty) {x : Nat} (hty : (∃ n, ty = .object n) ∨ ∃ n, ty = .array n) (hk : k < G.1) (hs : G.2.1 k = (0, ci)) (hd : decode cc pc = .ok (.putfield idx, 3)) (kk : sx_X S E cs (G.1, G.2.1, sx_upR G.2.2 k j (some x)) M (pc + 3) lv st) : sx_X S E cs G M pc lv (sx_A x :: sx_A k :: st) :=
  sx_putF0 C hini F hk hs hd (G' := (G.1, G.2.1, sx_upR G.2.2 k j (some x))) (M' := M) rfl rfl (fun _ _ => rfl) (fun _ h => sx_upR_ne h) (fun _ _ => rfl) (fun _ h => sx_upR_slot h) (by show _ = sx_av 3 _ (sx_upR G.2.2 k j (some x) k j); rw [sx_upR_at]; rfl) (fun _ => by rcases hty with ⟨n, rfl⟩ | ⟨n, rfl⟩ <;> rfl) (fun _ => by rcases hty with ⟨n, rfl⟩ | ⟨n, rfl⟩ <;> rfl) kk
-- arrays
theorem sx_nI (j : Nat) : Int32.ofInt (j : Int) = nI j := Int32.ofInt_eq_ofNat
theorem sx_idx {j n : Nat} (hj : j < n) (hn : n < 2147483648) : vp_in (Int32.ofInt (j : Int)) n := by rw [sx_nI]; exact vp_in_nI hj (by omega)
theorem sx_clamp {j : Nat} (hn : j < 2147483648) : (Int32.ofInt (j : Int)).toNatClampNeg = j := by rw [sx_nI]; exact nI_clamp (by omega)
theorem sx_arrL {tc : Nat → ClassId} {ad : Nat → Nat} {a n : Nat} (hk : k < G.1) (hs : G.2.1 k = (a + 1, n)) (ht : S.2.2[a]? = some .long) : (sx_w S tc ad G M)[k]? = some (ad k, .inl (tc a, n, .inr (.inl (fun j => Int64.ofInt (M k j))))) := by
  rw [sx_w_get hk, hs]
  simp only [sx_cell, ht, sx_arr]
theorem sx_arrI {tc : Nat → ClassId} {ad : Nat → Nat} {a n : Nat} (hk : k < G.1) (hs : G.2.1 k = (a + 1, n)) (ht : S.2.2[a]? = some .int) : (sx_w S tc ad G M)[k]? = some (ad k, .inl (tc a, n, .inl (fun j => Int32.ofInt (M k j)))) := by
  rw [sx_w_get hk, hs]
  simp only [sx_cell, ht, sx_arr]
theorem sx_arrZ {tc : Nat → ClassId} {ad : Nat → Nat} {a n : Nat} (hk : k < G.1) (hs : G.2.1 k = (a + 1, n)) (ht : S.2.2[a]? = some .boolean) : (sx_w S tc ad G M)[k]? = some (ad k, .inl (tc a, n, .inl (fun j => Int32.ofInt (M k j)))) := by
  rw [sx_w_get hk, hs]
  simp only [sx_cell, ht, sx_arr]
theorem sx_arrR {tc : Nat → ClassId} {ad : Nat → Nat} {a n : Nat} {t : FieldType} (hk : k < G.1) (hs : G.2.1 k = (a + 1, n)) (ht : S.2.2[a]? = some (.array t)) : (sx_w S tc ad G M)[k]? = some (ad k, .inl (tc a, n, .inr (.inr (.inr (.inr (fun j => (G.2.2 k j).map ad)))))) := by
  rw [sx_w_get hk, hs]
  simp only [sx_cell, ht, sx_arr]
theorem sx_laload (C : sx_C S Ts own cc E) {a n : Nat} {i : Int} (j : Nat) (hk : k < G.1) (hs : G.2.1 k = (a + 1, n)) (ht : S.2.2[a]? = some .long) (hi : i = (j : Int)) (hj : j < n) (hn : n < 2147483648) (hd : decode cc pc = .ok (.laload, 1)) (kk : sx_X S E cs G M (pc + 1) lv (sx_J (M k j) :: st)) : sx_X S E cs G M pc lv (sx_I i :: sx_A k :: st) := by
  subst hi
  intro H locs ls ad hP hD hS hz ha hl
  refine va_lald (D := sx_D E) C.1 C.2.1 C.2.2.2.2.2.2.1 hP k a (sx_arrL hk hs ht) (sx_ty_get ht) (sx_idx hj hn) hd ?_
  rw [sx_clamp (by omega)]
  exact kk H locs ls ad hP hD hS hz ha hl
theorem sx_iaload (C : sx_C S Ts own cc E) {a n : Nat} {i : Int} (j : Nat) (hk : k < G.1) (hs : G.2.1 k = (a + 1, n)) (ht : S.2.2[a]? = some .int) (hi : i = (j : Int)) (hj : j < n) (hn : n < 2147483648) (hd : decode cc pc = .ok (.iaload, 1)) (kk : sx_X S E cs G M (pc + 1) lv (sx_I (M k j) :: st)) : sx_X S E cs G M pc lv (sx_I i :: sx_A k :: st) := by
  subst hi
  intro H locs ls ad hP hD hS hz ha hl
  refine va_iald (D := sx_D E) C.1 C.2.1 C.2.2.2.2.2.2.1 hP k a (sx_arrI hk hs ht) (sx_ty_get ht) (sx_idx hj hn) hd ?_
  rw [sx_clamp (by omega)]
  exact kk H locs ls ad hP hD hS hz ha hl
theorem sx_zaload (C : sx_C S Ts own cc E) {a n : Nat} {i : Int} (j : Nat) (hk : k < G.1) (hs : G.2.1 k = (a + 1, n)) (ht : S.2.2[a]? = some .boolean) (hi : i = (j : Int)) (hj : j < n) (hn : n < 2147483648) (hd : decode cc pc = .ok (.baload, 1)) (kk : sx_X S E cs G M (pc + 1) lv (sx_I (M k j) :: st)) : sx_X S E cs G M pc lv (sx_I i :: sx_A k :: st) := by
  subst hi
  intro H locs ls ad hP hD hS hz ha hl
  refine va_zald (D := sx_D E) C.1 C.2.1 C.2.2.2.2.2.2.1 hP k a (sx_arrZ hk hs ht) (sx_ty_get ht) (sx_idx hj hn) hd ?_
  rw [sx_clamp (by omega)]
  exact kk H locs ls ad hP hD hS hz ha hl
theorem sx_aaload (C : sx_C S Ts own cc E) {a n : Nat} {i : Int} {t : FieldType} (j r : Nat) (hk : k < G.1) (hs : G.2.1 k = (a + 1, n)) (ht : S.2.2[a]? = some (.array t)) (hi : i = (j : Int)) (hj : j < n) (hn : n < 2147483648) (hr : G.2.2 k j = some r) (hd : decode cc pc = .ok (.aaload, 1)) (kk : sx_X S E cs G M (pc + 1) lv (sx_A r :: st)) : sx_X S E cs G M pc lv (sx_I i :: sx_A k :: st) := by
  subst hi
  intro H locs ls ad hP hD hS hz ha hl
  have hin := sx_idx hj hn
  refine W.aald (v := va_rf ((G.2.2 k j).map ad)) (ty := .array t) C.1 C.2.1 (hP k _ (sx_arrR hk hs ht)) ((C.2.2.2.2.2.2.1.2 a _ (sx_ty_get ht)).1 n (fun j => va_rf ((G.2.2 k j).map ad))) rfl (fun q => by cases q) (by show ¬ (_ < 0 ∨ (arrV _ _ _).slots.size ≤ _); rw [arrV_size]; exact hin) (by show (arrV _ _ _).slots[_]? = _; rw [sx_clamp (by omega), arrV_read _ _ hj]) rfl rfl hd ?_
  rw [hr]
  exact kk H locs ls ad hP hD hS hz ha hl
theorem sx_alen {C0 : sx_C S Ts own cc E} {a n : Nat} {t : FieldType} (hk : k < G.1) (hs : G.2.1 k = (a + 1, n)) (ht : S.2.2[a]? = some t) (hd : decode cc pc = .ok (.arraylength, 1)) (kk : sx_X S E cs G M (pc + 1) lv (sx_I (n : Int) :: st)) : sx_X S E cs G M pc lv (sx_A k :: st) := by
  intro H locs ls ad hP hD hS hz ha hl
  have he : (sx_w S (sx_tc E) ad G M)[k]? = some (ad k, .inl (sx_tc E a, sx_arr (some t) n ad (M k) (G.2.2 k))) := by
    rw [sx_w_get hk, hs]
    simp only [sx_cell, ht]
  refine va_alen (D := sx_D E) C0.1 C0.2.1 C0.2.2.2.2.2.2.1 hP k a he (sx_ty_get ht) (v := Int32.ofInt (n : Int)) ?_ hd (kk H locs ls ad hP hD hS hz ha hl)
  rw [Int32.ofInt_eq_ofNat]
  unfold sx_arr
  split <;> rfl
theorem sx_lastore (C : sx_C S Ts own cc E) {a n : Nat} {i x : Int} (j : Nat) (hk : k < G.1) (hs : G.2.1 k = (a + 1, n)) (ht : S.2.2[a]? = some .long) (hi : i = (j : Int)) (hj : j < n) (hn : n < 2147483648) (hd : decode cc pc = .ok (.lastore, 1)) (kk : sx_X S E cs G (sx_up M k j x) (pc + 1) lv st) : sx_X S E cs G M pc lv (sx_J x :: sx_I i :: sx_A k :: st) := by
  subst hi
  intro H locs ls ad hP hD hS hz ha hl
  refine va_last (D := sx_D E) C.1 C.2.1 C.2.2.2.2.2.2.1 hP hD hS k a (sx_arrL hk hs ht) (sx_ty_get ht) (sx_idx hj hn) hd (fun H1 locs1 hP1 hD1 hS1 => ?_)
  rw [sx_clamp (by omega)] at hP1 hD1
  have e : (sx_w S (sx_tc E) ad G M).set k (ad k, .inl (sx_tc E a, n, .inr (.inl (vp_updL (fun b => Int64.ofInt (M k b)) j (Int64.ofInt x))))) = sx_w S (sx_tc E) ad G (sx_up M k j x) :=
    sx_w_set hk rfl rfl (fun _ _ => rfl) (fun _ h => sx_up_ne h) (by
      rw [hs]
      simp only [sx_cell, ht, sx_arr]
      congr 5
      funext b
      by_cases hb : b = j
      · subst hb; rw [sx_up_at]; simp [vp_updL]
      · rw [sx_up_slot hb]; simp [vp_updL, hb])
  rw [e] at hP1 hD1
  exact kk H1 locs1 ls ad hP1 hD1 hS1 hz ha hl
theorem sx_iastore (C : sx_C S Ts own cc E) {a n : Nat} {i x : Int} (j : Nat) (hk : k < G.1) (hs : G.2.1 k = (a + 1, n)) (ht : S.2.2[a]? = some .int) (hi : i = (j : Int)) (hj : j < n) (hn : n < 2147483648) (hd : decode cc pc = .ok (.iastore, 1)) (kk : sx_X S E cs G (sx_up M k j x) (pc + 1) lv st) : sx_X S E cs G M pc lv (sx_I x :: sx_I i :: sx_A k :: st) := by
  subst hi
  intro H locs ls ad hP hD hS hz ha hl
  refine va_iast (D := sx_D E) C.1 C.2.1 C.2.2.2.2.2.2.1 hP hD hS k a (sx_arrI hk hs ht) (sx_ty_get ht) (sx_idx hj hn) hd (fun H1 locs1 hP1 hD1 hS1 => ?_)
  rw [sx_clamp (by omega)] at hP1 hD1
  have e : (sx_w S (sx_tc E) ad G M).set k (ad k, .inl (sx_tc E a, n, .inl (upd (fun b => Int32.ofInt (M k b)) j (Int32.ofInt x)))) = sx_w S (sx_tc E) ad G (sx_up M k j x) :=
    sx_w_set hk rfl rfl (fun _ _ => rfl) (fun _ h => sx_up_ne h) (by
      rw [hs]
      simp only [sx_cell, ht, sx_arr]
      congr 4
      funext b
      by_cases hb : b = j
      · subst hb; rw [sx_up_at]; simp [upd]
      · rw [sx_up_slot hb]; simp [upd, hb])
  rw [e] at hP1 hD1
  exact kk H1 locs1 ls ad hP1 hD1 hS1 hz ha hl
theorem sx_narZ {x : Int} (h : x = 0 ∨ x = 1) : vp_nar .boolean (Int32.ofInt x) = Int32.ofInt x := by
  rcases h with rfl | rfl <;> decide
theorem sx_zastore (C : sx_C S Ts own cc E) {a n : Nat} {i x : Int} (j : Nat) (hx : x = 0 ∨ x = 1) (hk : k < G.1) (hs : G.2.1 k = (a + 1, n)) (ht : S.2.2[a]? = some .boolean) (hi : i = (j : Int)) (hj : j < n) (hn : n < 2147483648) (hd : decode cc pc = .ok (.bastore, 1)) (kk : sx_X S E cs G (sx_up M k j x) (pc + 1) lv st) : sx_X S E cs G M pc lv (sx_I x :: sx_I i :: sx_A k :: st) := by
  subst hi
  intro H locs ls ad hP hD hS hz ha hl
  refine va_zast (D := sx_D E) C.1 C.2.1 C.2.2.2.2.2.2.1 hP hD hS k a (sx_arrZ hk hs ht) (sx_ty_get ht) (sx_idx hj hn) hd (fun H1 locs1 hP1 hD1 hS1 => ?_)
  rw [sx_clamp (by omega), sx_narZ hx] at hP1 hD1
  have e : (sx_w S (sx_tc E) ad G M).set k (ad k, .inl (sx_tc E a, n, .inl (upd (fun b => Int32.ofInt (M k b)) j (Int32.ofInt x)))) = sx_w S (sx_tc E) ad G (sx_up M k j x) :=
    sx_w_set hk rfl rfl (fun _ _ => rfl) (fun _ h => sx_up_ne h) (by
      rw [hs]
      simp only [sx_cell, ht, sx_arr]
      congr 4
      funext b
      by_cases hb : b = j
      · subst hb; rw [sx_up_at]; simp [upd]
      · rw [sx_up_slot hb]; simp [upd, hb])
  rw [e] at hP1 hD1
  exact kk H1 locs1 ls ad hP1 hD1 hS1 hz ha hl
end SXM
