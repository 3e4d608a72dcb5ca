theorem sx_ldcw {S : sx_S} {E : sx_E} {cs : Nat × Nat} {G : sx_G} {M : sx_M0} {pc : Nat} {lv : List (Nat × sx_V)} {st : List sx_V} {Ts : List Cond} {own : String} {cc : ByteArray} (C : sx_C S Ts own cc E) {idx : Nat} {v : Int32} (x : Int) (hw : Cond.constant own idx v ∈ Ts) (hv : Int32.ofInt x = v) (hd : decode cc pc = .ok (.ldc_w idx, 3)) (k : sx_X S E cs G M (pc + 3) lv (sx_I x :: st)) : sx_X S E cs G M pc lv st := by
  subst hv
  exact fun H locs ls ad hP hD hS hz ha hl => lv_ldcw C.1 C.2.1 C.2.2.2.1 (C.2.2.2.2.1 _ hw) hd (k H locs ls ad hP hD hS hz ha hl)
def pcS (c : Nat) : Nat → Nat
  | 0 => 0
  | n + 1 => pcS c n + (if c.testBit n = true then 1 else 0)
def bcS (c : Nat) : Nat := pcS c 6
set_option maxRecDepth 100000 in
theorem bc_eq : ∀ c, c < 64 → (sx_and (((sx_and (((sx_and (((c : Nat) : Int) - (sx_and (sx_ushr ((c : Nat) : Int) 1) 1431655765)) 858993459) + (sx_and (sx_ushr (((c : Nat) : Int) - (sx_and (sx_ushr ((c : Nat) : Int) 1) 1431655765)) 2) 858993459)) + (sx_ushr ((sx_and (((c : Nat) : Int) - (sx_and (sx_ushr ((c : Nat) : Int) 1) 1431655765)) 858993459) + (sx_and (sx_ushr (((c : Nat) : Int) - (sx_and (sx_ushr ((c : Nat) : Int) 1) 1431655765)) 2) 858993459)) 4)) 252645135) + (sx_ushr (sx_and (((sx_and (((c : Nat) : Int) - (sx_and (sx_ushr ((c : Nat) : Int) 1) 1431655765)) 858993459) + (sx_and (sx_ushr (((c : Nat) : Int) - (sx_and (sx_ushr ((c : Nat) : Int) 1) 1431655765)) 2) 858993459)) + (sx_ushr ((sx_and (((c : Nat) : Int) - (sx_and (sx_ushr ((c : Nat) : Int) 1) 1431655765)) 858993459) + (sx_and (sx_ushr (((c : Nat) : Int) - (sx_and (sx_ushr ((c : Nat) : Int) 1) 1431655765)) 2) 858993459)) 4)) 252645135) 8)) + (sx_ushr ((sx_and (((sx_and (((c : Nat) : Int) - (sx_and (sx_ushr ((c : Nat) : Int) 1) 1431655765)) 858993459) + (sx_and (sx_ushr (((c : Nat) : Int) - (sx_and (sx_ushr ((c : Nat) : Int) 1) 1431655765)) 2) 858993459)) + (sx_ushr ((sx_and (((c : Nat) : Int) - (sx_and (sx_ushr ((c : Nat) : Int) 1) 1431655765)) 858993459) + (sx_and (sx_ushr (((c : Nat) : Int) - (sx_and (sx_ushr ((c : Nat) : Int) 1) 1431655765)) 2) 858993459)) 4)) 252645135) + (sx_ushr (sx_and (((sx_and (((c : Nat) : Int) - (sx_and (sx_ushr ((c : Nat) : Int) 1) 1431655765)) 858993459) + (sx_and (sx_ushr (((c : Nat) : Int) - (sx_and (sx_ushr ((c : Nat) : Int) 1) 1431655765)) 2) 858993459)) + (sx_ushr ((sx_and (((c : Nat) : Int) - (sx_and (sx_ushr ((c : Nat) : Int) 1) 1431655765)) 858993459) + (sx_and (sx_ushr (((c : Nat) : Int) - (sx_and (sx_ushr ((c : Nat) : Int) 1) 1431655765)) 2) 858993459)) 4)) 252645135) 8)) 16)) 63 : Int) = ((bcS c : Nat) : Int) := by decide +kernel
set_option maxRecDepth 100000 in
set_option maxHeartbeats 4000000 in
theorem ct_In_bitCount (l : Launch) (D : va_G) (tc : Nat → ClassId) (M : sx_M0) (c : Nat) (hc : c < 64) : sx_Met SC l D tc y_In_bitCount w_In_bitCount (rmk 0 0) [sx_I (((c : Nat) : Int))] GL M (fun r G' M' => G' = GL ∧ M' = M ∧ r = some (sx_I ((bcS c : Nat) : Int))) := by
  refine sx_enter (by decide) rfl (Nat.le_of_ble_eq_true rfl) (Ts := g_tbl) (fun _ h => List.mem_cons_of_mem _ h) (fun E C Rr hnm hnL => ?_)
  refine sx_iload_n C 0 d_In_bitCount_0 rfl rfl ?_
  refine sx_iload_n C 0 d_In_bitCount_1 rfl rfl ?_
  refine sx_iconst C d_In_bitCount_2 ?_
  refine sx_iushr C d_In_bitCount_3 ?_
  refine sx_ldcw (v := 1431655765) C 1431655765 (tb_ 381 (by decide +kernel) rfl) (by decide) d_In_bitCount_4 ?_
  refine sx_iand C d_In_bitCount_7 ?_
  refine sx_isub C d_In_bitCount_8 ?_
  refine sx_istore_n (lv' := [(0, sx_I (((c : Nat) : Int) - (sx_and (sx_ushr ((c : Nat) : Int) 1) 1431655765)))]) C d_In_bitCount_9 rfl (by rw [hnL]; decide) rfl ?_
  refine sx_iload_n C 0 d_In_bitCount_10 rfl rfl ?_
  refine sx_ldcw (v := 858993459) C 858993459 (tb_ 382 (by decide +kernel) rfl) (by decide) d_In_bitCount_11 ?_
  refine sx_iand C d_In_bitCount_14 ?_
  refine sx_iload_n C 0 d_In_bitCount_15 rfl rfl ?_
  refine sx_iconst C d_In_bitCount_16 ?_
  refine sx_iushr C d_In_bitCount_17 ?_
  refine sx_ldcw (v := 858993459) C 858993459 (tb_ 382 (by decide +kernel) rfl) (by decide) d_In_bitCount_18 ?_
  refine sx_iand C d_In_bitCount_21 ?_
  refine sx_iadd C d_In_bitCount_22 ?_
  refine sx_istore_n (lv' := [(0, sx_I ((sx_and (((c : Nat) : Int) - (sx_and (sx_ushr ((c : Nat) : Int) 1) 1431655765)) 858993459) + (sx_and (sx_ushr (((c : Nat) : Int) - (sx_and (sx_ushr ((c : Nat) : Int) 1) 1431655765)) 2) 858993459)))]) C d_In_bitCount_23 rfl (by rw [hnL]; decide) rfl ?_
  refine sx_iload_n C 0 d_In_bitCount_24 rfl rfl ?_
  refine sx_iload_n C 0 d_In_bitCount_25 rfl rfl ?_
  refine sx_iconst C d_In_bitCount_26 ?_
  refine sx_iushr C d_In_bitCount_27 ?_
  refine sx_iadd C d_In_bitCount_28 ?_
  refine sx_ldcw (v := 252645135) C 252645135 (tb_ 383 (by decide +kernel) rfl) (by decide) d_In_bitCount_29 ?_
  refine sx_iand C d_In_bitCount_32 ?_
  refine sx_istore_n (lv' := [(0, sx_I (sx_and (((sx_and (((c : Nat) : Int) - (sx_and (sx_ushr ((c : Nat) : Int) 1) 1431655765)) 858993459) + (sx_and (sx_ushr (((c : Nat) : Int) - (sx_and (sx_ushr ((c : Nat) : Int) 1) 1431655765)) 2) 858993459)) + (sx_ushr ((sx_and (((c : Nat) : Int) - (sx_and (sx_ushr ((c : Nat) : Int) 1) 1431655765)) 858993459) + (sx_and (sx_ushr (((c : Nat) : Int) - (sx_and (sx_ushr ((c : Nat) : Int) 1) 1431655765)) 2) 858993459)) 4)) 252645135))]) C d_In_bitCount_33 rfl (by rw [hnL]; decide) rfl ?_
  refine sx_iload_n C 0 d_In_bitCount_34 rfl rfl ?_
  refine sx_iload_n C 0 d_In_bitCount_35 rfl rfl ?_
  refine sx_bipush C d_In_bitCount_36 (by decide) ?_
  refine sx_iushr C d_In_bitCount_38 ?_
  refine sx_iadd C d_In_bitCount_39 ?_
  refine sx_istore_n (lv' := [(0, sx_I ((sx_and (((sx_and (((c : Nat) : Int) - (sx_and (sx_ushr ((c : Nat) : Int) 1) 1431655765)) 858993459) + (sx_and (sx_ushr (((c : Nat) : Int) - (sx_and (sx_ushr ((c : Nat) : Int) 1) 1431655765)) 2) 858993459)) + (sx_ushr ((sx_and (((c : Nat) : Int) - (sx_and (sx_ushr ((c : Nat) : Int) 1) 1431655765)) 858993459) + (sx_and (sx_ushr (((c : Nat) : Int) - (sx_and (sx_ushr ((c : Nat) : Int) 1) 1431655765)) 2) 858993459)) 4)) 252645135) + (sx_ushr (sx_and (((sx_and (((c : Nat) : Int) - (sx_and (sx_ushr ((c : Nat) : Int) 1) 1431655765)) 858993459) + (sx_and (sx_ushr (((c : Nat) : Int) - (sx_and (sx_ushr ((c : Nat) : Int) 1) 1431655765)) 2) 858993459)) + (sx_ushr ((sx_and (((c : Nat) : Int) - (sx_and (sx_ushr ((c : Nat) : Int) 1) 1431655765)) 858993459) + (sx_and (sx_ushr (((c : Nat) : Int) - (sx_and (sx_ushr ((c : Nat) : Int) 1) 1431655765)) 2) 858993459)) 4)) 252645135) 8)))]) C d_In_bitCount_40 rfl (by rw [hnL]; decide) rfl ?_
  refine sx_iload_n C 0 d_In_bitCount_41 rfl rfl ?_
  refine sx_iload_n C 0 d_In_bitCount_42 rfl rfl ?_
  refine sx_bipush C d_In_bitCount_43 (by decide) ?_
  refine sx_iushr C d_In_bitCount_45 ?_
  refine sx_iadd C d_In_bitCount_46 ?_
  refine sx_istore_n (lv' := [(0, sx_I (((sx_and (((sx_and (((c : Nat) : Int) - (sx_and (sx_ushr ((c : Nat) : Int) 1) 1431655765)) 858993459) + (sx_and (sx_ushr (((c : Nat) : Int) - (sx_and (sx_ushr ((c : Nat) : Int) 1) 1431655765)) 2) 858993459)) + (sx_ushr ((sx_and (((c : Nat) : Int) - (sx_and (sx_ushr ((c : Nat) : Int) 1) 1431655765)) 858993459) + (sx_and (sx_ushr (((c : Nat) : Int) - (sx_and (sx_ushr ((c : Nat) : Int) 1) 1431655765)) 2) 858993459)) 4)) 252645135) + (sx_ushr (sx_and (((sx_and (((c : Nat) : Int) - (sx_and (sx_ushr ((c : Nat) : Int) 1) 1431655765)) 858993459) + (sx_and (sx_ushr (((c : Nat) : Int) - (sx_and (sx_ushr ((c : Nat) : Int) 1) 1431655765)) 2) 858993459)) + (sx_ushr ((sx_and (((c : Nat) : Int) - (sx_and (sx_ushr ((c : Nat) : Int) 1) 1431655765)) 858993459) + (sx_and (sx_ushr (((c : Nat) : Int) - (sx_and (sx_ushr ((c : Nat) : Int) 1) 1431655765)) 2) 858993459)) 4)) 252645135) 8)) + (sx_ushr ((sx_and (((sx_and (((c : Nat) : Int) - (sx_and (sx_ushr ((c : Nat) : Int) 1) 1431655765)) 858993459) + (sx_and (sx_ushr (((c : Nat) : Int) - (sx_and (sx_ushr ((c : Nat) : Int) 1) 1431655765)) 2) 858993459)) + (sx_ushr ((sx_and (((c : Nat) : Int) - (sx_and (sx_ushr ((c : Nat) : Int) 1) 1431655765)) 858993459) + (sx_and (sx_ushr (((c : Nat) : Int) - (sx_and (sx_ushr ((c : Nat) : Int) 1) 1431655765)) 2) 858993459)) 4)) 252645135) + (sx_ushr (sx_and (((sx_and (((c : Nat) : Int) - (sx_and (sx_ushr ((c : Nat) : Int) 1) 1431655765)) 858993459) + (sx_and (sx_ushr (((c : Nat) : Int) - (sx_and (sx_ushr ((c : Nat) : Int) 1) 1431655765)) 2) 858993459)) + (sx_ushr ((sx_and (((c : Nat) : Int) - (sx_and (sx_ushr ((c : Nat) : Int) 1) 1431655765)) 858993459) + (sx_and (sx_ushr (((c : Nat) : Int) - (sx_and (sx_ushr ((c : Nat) : Int) 1) 1431655765)) 2) 858993459)) 4)) 252645135) 8)) 16)))]) C d_In_bitCount_47 rfl (by rw [hnL]; decide) rfl ?_
  refine sx_iload_n C 0 d_In_bitCount_48 rfl rfl ?_
  refine sx_bipush C d_In_bitCount_49 (by decide) ?_
  refine sx_iand C d_In_bitCount_51 ?_
  refine sx_ireturn C Rr rfl d_In_bitCount_52 ?_
  exact ⟨rfl, rfl, by rw [bc_eq c hc]⟩
/-- of the first d districts, how many are in the set -/
def ctS (c n : Nat) : Nat → Nat
  | 0 => 0
  | d + 1 => ctS c n d + (if c.testBit (n - 1 - d) = true then 1 else 0)
theorem ct_le (c n : Nat) : ∀ d, ctS c n d ≤ d
  | 0 => Nat.le_refl 0
  | d + 1 => by
    have := ct_le c n d
    unfold ctS
    split <;> omega
theorem ct_mono (c n : Nat) {d : Nat} : ∀ {e : Nat}, d ≤ e → ctS c n d ≤ ctS c n e
  | 0, h => by
    have : d = 0 := by omega
    subst this
    exact Nat.le_refl _
  | e + 1, h => by
    by_cases q : d = e + 1
    · rw [q]; exact Nat.le_refl _
    · have := ct_mono c n (d := d) (e := e) (by omega)
      show ctS c n d ≤ ctS c n e + _
      omega
theorem ct_lt {c n d e : Nat} (h : d < e) (hb : c.testBit (n - 1 - d) = true) : ctS c n d < ctS c n e := by
  have h1 := ct_mono c n (d := d + 1) (e := e) h
  have h2 : ctS c n (d + 1) = ctS c n d + 1 := by
    show ctS c n d + (if c.testBit (n - 1 - d) = true then 1 else 0) = _
    rw [if_pos hb]
  omega
/-- the list of the districts of a set: the first d of the n districts are looked at -/
def liI (M0 M : sx_M0) (c n d : Nat) : Prop := (∀ a, a ≠ 35 → a ≠ 36 → M a = M0 a) ∧ (∀ b, b ≠ 0 → M 35 b = M0 35 b) ∧ M 35 0 = (ctS c n d : Int) ∧ (∀ e, e < d → c.testBit (n - 1 - e) = true → M 36 (ctS c n e) = (e : Int)) ∧ (∀ b, b < 6 → 0 ≤ M 36 b ∧ M 36 b ≤ 5)
theorem li_no {M0 M : sx_M0} {c n d : Nat} (hb : ¬ c.testBit (n - 1 - d) = true) (h : liI M0 M c n d) : liI M0 M c n (d + 1) := by
  obtain ⟨f1, f2, f3, f4, f5⟩ := h
  have e1 : ctS c n (d + 1) = ctS c n d := by
    show ctS c n d + (if c.testBit (n - 1 - d) = true then 1 else 0) = _
    rw [if_neg hb]
    rfl
  refine ⟨f1, f2, by rw [e1]; exact f3, fun e he h2 => ?_, f5⟩
  rcases Nat.lt_or_ge e d with q | q
  · exact f4 e q h2
  · rw [show e = d by omega] at h2
    exact absurd h2 hb
theorem li_yes {M0 M : sx_M0} {c n d : Nat} (hd : d < 6) (hb : c.testBit (n - 1 - d) = true) (h : liI M0 M c n d) : liI M0 (sx_up (sx_up M 36 (M 35 0).toNat (d : Int)) 35 0 (M 35 0 + 1)) c n (d + 1) := by
  obtain ⟨f1, f2, f3, f4, f5⟩ := h
  have e1 : ctS c n (d + 1) = ctS c n d + 1 := by
    show ctS c n d + (if c.testBit (n - 1 - d) = true then 1 else 0) = _
    rw [if_pos hb]
  have e0 : (M 35 0).toNat = ctS c n d := by rw [f3]; omega
  rw [e0]
  refine ⟨fun a h1 h2 => by rw [sx_up_ne h1, sx_up_ne h2]; exact f1 a h1 h2, fun b hb => by rw [sx_up_slot hb, sx_up_ne (by decide)]; exact f2 b hb, ?_, fun e he h2 => ?_, fun b hb => ?_⟩
  · rw [sx_up_at, e1, f3]
    rfl
  · rw [sx_up_ne (by decide)]
    rcases Nat.lt_or_ge e d with q | q
    · rw [sx_up_slot (by have := ct_lt (n := n) q h2; omega)]
      exact f4 e q h2
    · rw [show e = d by omega, sx_up_at]
  · rw [sx_up_ne (by decide)]
    by_cases q : b = ctS c n d
    · rw [q, sx_up_at]
      omega
    · rw [sx_up_slot q]
      exact f5 b hb
set_option maxRecDepth 100000 in
set_option maxHeartbeats 4000000 in
theorem lp_Un_list  (M0 : sx_M0) (c n : Nat) (hc : c < 64) (hn7 : n < 7) {E : sx_E} (C : sx_C SC g_tbl "SiteChoice$Unserved" c_Un_list E) (Rr : sx_Ret SC none (rmk 1 40) (fun r G' M' => G' = GL ∧ r = none ∧ liI M0 M' c n n) E) (hnL : sx_nL E = 4) : ∀ (nF : Nat) (d : Nat) (M : sx_M0), n - d < nF → liI M0 M c n d → d ≤ n → sx_X SC E (0, 0) GL M 7 [(3, sx_I (((d : Nat) : Int))), (0, sx_A (35)), (1, sx_I (((c : Nat) : Int))), (2, sx_I (((n : Nat) : Int)))] [] := by
  intro nF
  induction nF with
  | zero => intro d M h; omega
  | succ nF ih =>
    intro d M hn h h2
    refine sx_iload_n C 0 d_Un_list_7 rfl rfl ?_
    refine sx_iload_n C 3 d_Un_list_8 rfl rfl ?_
    refine sx_icmp_ge C 47 ⟨by omega, by omega⟩ ⟨by omega, by omega⟩ d_Un_list_9 (by decide) (fun c9 => ?_) (fun c9 => ?_)
    · refine sx_return C Rr rfl d_Un_list_47 ?_
      exact ⟨rfl, rfl, by rw [show d = n by omega] at h; exact h⟩
    · have h3 := h.2.2.1
      have hle := ct_le c n d
      refine sx_iload_n C 2 d_Un_list_12 rfl rfl ?_
      refine sx_iload_n C 0 d_Un_list_13 rfl rfl ?_
      refine sx_iload_n C 3 d_Un_list_14 rfl rfl ?_
      refine sx_callS (n := 71) (As := [sx_I (((c : Nat) : Int)), sx_I (((d : Nat) : Int)), sx_I (((n : Nat) : Int))]) (st := []) C (ct_Un_isIn _ _ _ _ c n d hc (by omega) (by omega)) (cv_Un_44 E C _ (by rw [Rr.2.2]; decide)) (Nat.le_of_ble_eq_true rfl) d_Un_list_15 (by rw [Rr.2.2]; decide) (by decide) rfl rfl rfl (fun r15 G15 M15 hpo _ => ?_)
      obtain ⟨e1, e2, b15, rfl, hb15⟩ := hpo
      rw [e1, e2]
      show sx_X SC E (0, 0) GL M 18 [(3, sx_I (((d : Nat) : Int))), (0, sx_A (35)), (1, sx_I (((c : Nat) : Int))), (2, sx_I (((n : Nat) : Int)))] [sx_I (b15)]
      refine sx_if_eq C 41 ⟨by omega, by omega⟩ d_Un_list_18 (by decide) (fun c18 => ?_) (fun c18 => ?_)
      · refine sx_iinc (lv' := [(3, sx_I (((d + 1 : Nat) : Int))), (0, sx_A (35)), (1, sx_I (((c : Nat) : Int))), (2, sx_I (((n : Nat) : Int)))]) C 0 d_Un_list_41 rfl (by rw [hnL]; decide) rfl ?_
        refine sx_goto C 7 d_Un_list_44 (by decide) ?_
        refine sx_sub [0, 1, 2, 3] rfl ?_
        exact ih (d + 1) M (by omega) (li_no (by rcases hb15 with ⟨q1, q2⟩ | ⟨q1, q2⟩; omega; exact q2) h) (by omega)
      · refine sx_aload_n C 1 d_Un_list_21 rfl rfl ?_
        refine sx_getr C f_Un_15 36 (by decide) rfl rfl d_Un_list_22 ?_
        refine sx_aload_n C 1 d_Un_list_25 rfl rfl ?_
        refine sx_geti C f_Un_9 (by decide) rfl d_Un_list_26 ?_
        refine sx_iload_n C 0 d_Un_list_29 rfl rfl ?_
        refine sx_iastore C (M 35 0).toNat (by decide) rfl rfl (by omega) (by omega) (by decide) d_Un_list_30 ?_
        refine sx_aload_n C 1 d_Un_list_31 rfl rfl ?_
        refine sx_dup C d_Un_list_32 rfl ?_
        refine sx_geti C f_Un_9 (by decide) rfl d_Un_list_33 ?_
        rw [sx_up_ne (by decide)]
        refine sx_iconst C d_Un_list_36 ?_
        refine sx_iadd C d_Un_list_37 ?_
        refine sx_puti C p_Un_9 (by decide) rfl d_Un_list_38 ?_
        refine sx_iinc (lv' := [(3, sx_I (((d + 1 : Nat) : Int))), (0, sx_A (35)), (1, sx_I (((c : Nat) : Int))), (2, sx_I (((n : Nat) : Int)))]) C 0 d_Un_list_41 rfl (by rw [hnL]; decide) rfl ?_
        refine sx_goto C 7 d_Un_list_44 (by decide) ?_
        refine sx_sub [0, 1, 2, 3] rfl ?_
        exact ih (d + 1) _ (by omega) (li_yes (by omega) (by rcases hb15 with ⟨q1, q2⟩ | ⟨q1, q2⟩; exact q2; omega) h) (by omega)
set_option maxRecDepth 100000 in
set_option maxHeartbeats 4000000 in
theorem ct_Un_list (l : Launch) (D : va_G) (tc : Nat → ClassId) (M : sx_M0) (hH : hv M) (c n : Nat) (hc : c < 64) (hn7 : n < 7) : sx_Met SC l D tc y_Un_list w_Un_list (rmk 1 40) [sx_A (35), sx_I (((c : Nat) : Int)), sx_I (((n : Nat) : Int))] GL M (fun r G' M' => G' = GL ∧ r = none ∧ liI M M' c n n) := by
  refine sx_enter (by decide) rfl (Nat.le_of_ble_eq_true rfl) (Ts := g_tbl) (fun _ h => List.mem_cons_of_mem _ h) (fun E C Rr hnm hnL => ?_)
  refine sx_aload_n C 0 d_Un_list_0 rfl rfl ?_
  refine sx_iconst C d_Un_list_1 ?_
  refine sx_puti C p_Un_9 (by decide) rfl d_Un_list_2 ?_
  refine sx_iconst C d_Un_list_5 ?_
  refine sx_istore_n (lv' := [(3, sx_I (0)), (0, sx_A (35)), (1, sx_I (((c : Nat) : Int))), (2, sx_I (((n : Nat) : Int)))]) C d_Un_list_6 rfl (by rw [hnL]; decide) rfl ?_
  refine sx_sub [0, 1, 2, 3] rfl ?_
  exact lp_Un_list M c n hc hn7 C Rr hnL _ 0 _ (Nat.lt_succ_self _) ⟨fun a h1 h2 => sx_up_ne h1, fun b hb => sx_up_slot hb, sx_up_at, fun e he => by omega, fun b hb => by rw [sx_up_ne (by decide)]; exact hH.2.2.2.2.1 b hb⟩ (Nat.zero_le _)
