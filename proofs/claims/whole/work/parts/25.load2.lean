def rmS (M : sx_M0) (f : Int) (p : Nat) : Int := if (p : Int) = f then 600 else M 14 p
def ldS (M : sx_M0) (f : Int) (D p e q : Nat) : sx_M0 := fun a b => if a = 19 ∧ b < q then rmS M f b else if 21 ≤ a ∧ a < 21 + D ∧ (b < p ∨ (b = p ∧ a < 21 + e)) then rcS M (a - 21) b else M a b
theorem ld_0 (M : sx_M0) (f : Int) (D : Nat) : ldS M f D 0 0 0 = M := by
  funext a b
  unfold ldS
  rw [if_neg (by omega), if_neg (by omega)]
theorem ld_room (M : sx_M0) (f : Int) (D p : Nat) {x : Int} (hx : x = rmS M f p) : sx_up (ldS M f D p 0 p) 19 p x = ldS M f D p 0 (p + 1) := by
  subst hx
  funext a b
  unfold sx_up ldS
  by_cases h : a = 19
  · by_cases h2 : b = p
    · rw [if_pos ⟨h, h2⟩, if_pos ⟨h, by omega⟩, h2]
    · rw [if_neg (by omega)]
      by_cases h3 : b < p
      · rw [if_pos ⟨h, h3⟩, if_pos ⟨h, by omega⟩]
      · rw [if_neg (by omega), if_neg (by omega : ¬ (a = 19 ∧ b < p + 1))]
  · rw [if_neg (by omega), if_neg (by omega), if_neg (by omega : ¬ (a = 19 ∧ b < p + 1))]
theorem ld_rc (M : sx_M0) (f : Int) (D p e q : Nat) (he : e < D) {x : Int} (hx : x = rcS M e p) : sx_up (ldS M f D p e q) (20 + 1 + e) p x = ldS M f D p (e + 1) q := by
  subst hx
  funext a b
  unfold sx_up ldS
  by_cases h : a = 20 + 1 + e
  · by_cases h2 : b = p
    · rw [if_pos ⟨h, h2⟩, if_neg (by omega), if_pos (by omega), h2, show a - 21 = e by omega]
    · rw [if_neg (by omega)]
      by_cases h3 : b < p
      · rw [if_neg (by omega), if_pos (by omega), if_neg (by omega), if_pos (by omega)]
      · rw [if_neg (by omega), if_neg (by omega), if_neg (by omega), if_neg (by omega)]
  · rw [if_neg (by omega)]
    by_cases h1 : a = 19 ∧ b < q
    · rw [if_pos h1, if_pos h1]
    · rw [if_neg h1, if_neg h1]
      by_cases h3 : 21 ≤ a ∧ a < 21 + D ∧ (b < p ∨ (b = p ∧ a < 21 + e))
      · rw [if_pos h3, if_pos (by omega)]
      · rw [if_neg h3, if_neg (by omega)]
theorem ld_end (M : sx_M0) (f : Int) (D p q : Nat) : ldS M f D p D q = ldS M f D (p + 1) 0 q := by
  funext a b
  unfold ldS
  by_cases h1 : a = 19 ∧ b < q
  · rw [if_pos h1, if_pos h1]
  · rw [if_neg h1, if_neg h1]
    by_cases h3 : 21 ≤ a ∧ a < 21 + D ∧ (b < p ∨ (b = p ∧ a < 21 + D))
    · rw [if_pos h3, if_pos (by omega)]
    · rw [if_neg h3, if_neg (by omega)]
theorem ld_ne {M : sx_M0} {f : Int} {D p e q a : Nat} (hD : D ≤ 6) (h1 : a ≠ 19) (h2 : a < 21 ∨ 27 ≤ a) : ldS M f D p e q a = M a := by
  funext b
  unfold ldS
  rw [if_neg (by omega), if_neg (by omega)]
theorem rc_fr {M M' : sx_M0} (h : ∀ a, a ≤ 16 → M' a = M a) {d p : Nat} (hd : d < 6) : rcS M' d p = rcS M d p := by
  unfold rcS
  rw [h 1 (by decide), h 16 (by decide), h 3 (by decide), h (4 + 1 + d) (by omega)]
theorem cs_fr {M M' : sx_M0} (h : M' 13 = M 13) {f : Int} {s : Nat} : ∀ {n : Nat}, csS M' f s n = csS M f s n
  | 0 => rfl
  | n + 1 => by
    unfold csS coS
    rw [cs_fr h, h]
theorem mo_fr {M M' : sx_M0} (h : ∀ a, a ≤ 16 → M' a = M a) {f : Int} {s : Nat} : ∀ {n : Nat}, moS M' f s n ↔ moS M f s n
  | 0 => Iff.rfl
  | n + 1 => by
    unfold moS
    rw [mo_fr h, h 16 (by decide), h 1 (by decide), cs_fr (h 13 (by decide)), nb_fr h]
abbrev la (M : sx_M0) : sx_M0 := sx_up (sx_up M 17 0 (M 1 0)) 17 1 (M 1 1)
theorem la_ne {M : sx_M0} {a : Nat} (h : a ≠ 17) : la M a = M a := (sx_up_ne h).trans (sx_up_ne h)
theorem la_17 {M : sx_M0} {b : Nat} (h : b ≠ 0) (h1 : b ≠ 1) : la M 17 b = M 17 b := (sx_up_slot h1).trans (sx_up_slot h)
theorem la_0 {M : sx_M0} : la M 17 0 = M 1 0 := (sx_up_slot (by decide)).trans sx_up_at
theorem la_1 {M : sx_M0} : la M 17 1 = M 1 1 := sx_up_at
def lb (M : sx_M0) : sx_M0 := tfS (la M) 18 (la M 17 0).toNat (nyS (la M) 0)
theorem lb_ne {M : sx_M0} {a : Nat} (h : a ≠ 17) (h2 : a ≠ 18) : lb M a = M a := (tfS_ne h2).trans (la_ne h)
theorem lb_17 {M : sx_M0} : lb M 17 = la M 17 := tfS_ne (by decide)
def lc (M : sx_M0) (f : Int) : sx_M0 := ldS (lb M) f (M 1 0).toNat (M 1 1).toNat 0 (M 1 1).toNat
/-- the world behind load -/
noncomputable def ldM (M : sx_M0) (f : Int) : sx_M0 := stS (lc M f) f (2 ^ (M 1 1).toNat)
theorem lc_ne {M : sx_M0} (hT : tw M) {f : Int} {a : Nat} (h1 : a ≠ 17) (h2 : a ≠ 18) (h3 : a ≠ 19) (h4 : a < 21 ∨ 27 ≤ a) : lc M f a = M a := by
  have := hT.1
  unfold lc
  rw [ld_ne (by omega) h3 h4, lb_ne h1 h2]
theorem lc_17 {M : sx_M0} (hT : tw M) {f : Int} : lc M f 17 = la M 17 := by
  have := hT.1
  unfold lc
  rw [ld_ne (by omega) (by decide) (by decide), lb_17]
theorem ldM_ne {M : sx_M0} (hT : tw M) {f : Int} {a : Nat} (h : a < 17 ∨ 29 ≤ a ∨ a = 20) : ldM M f a = M a := by
  unfold ldM
  rw [stS_ne (by omega) (by omega), lc_ne hT (by omega) (by omega) (by omega) (by omega)]
theorem ldM_17 {M : sx_M0} (hT : tw M) {f : Int} : ldM M f 17 = la M 17 := by
  unfold ldM
  rw [stS_ne (by decide) (by decide), lc_17 hT]
theorem ldM_18 {M : sx_M0} (hT : tw M) {f : Int} {d : Nat} : ldM M f 18 d = if d < (M 1 0).toNat then M 2 d else M 18 d := by
  have := hT.1
  unfold ldM lc
  rw [stS_ne (by decide) (by decide), ld_ne (by omega) (by decide) (by decide)]
  unfold lb
  rw [la_0]
  by_cases h : d < (M 1 0).toNat
  · rw [tfS_lt h, if_pos h]
    unfold nyS
    rw [la_ne (by decide)]
    omega
  · rw [tfS_ge h, if_neg h, la_ne (by decide)]
theorem ldM_19 {M : sx_M0} {f : Int} {p : Nat} : ldM M f 19 p = if p < (M 1 1).toNat then rmS M f p else M 19 p := by
  unfold ldM
  rw [stS_ne (by decide) (by decide)]
  unfold lc ldS rmS
  by_cases h : p < (M 1 1).toNat
  · rw [if_pos ⟨rfl, h⟩, if_pos h, lb_ne (by decide) (by decide)]
  · rw [if_neg (fun q => h q.2), if_neg (by omega), if_neg h, lb_ne (by decide) (by decide)]
theorem ldM_21 {M : sx_M0} {f : Int} {d p : Nat} (hd : d < 6) : ldM M f (20 + 1 + d) p = if d < (M 1 0).toNat ∧ p < (M 1 1).toNat then rcS M d p else M (20 + 1 + d) p := by
  unfold ldM
  rw [stS_ne (by omega) (by omega)]
  unfold lc ldS
  rw [if_neg (by omega)]
  by_cases h : d < (M 1 0).toNat ∧ p < (M 1 1).toNat
  · rw [if_pos (by omega), if_pos h, show 20 + 1 + d - 21 = d by omega, rc_fr (fun a ha => lb_ne (by omega) (by omega)) hd]
  · rw [if_neg (by omega), if_neg h, lb_ne (by omega) (by omega)]
theorem ldM_27 {M : sx_M0} (hT : tw M) {f : Int} {s : Nat} : ldM M f 27 s = if s < 2 ^ (M 1 1).toNat then b01 (moS M f s 5) else M 27 s := by
  unfold ldM
  by_cases h : s < 2 ^ (M 1 1).toNat
  · rw [stS_27 h, if_pos h]
    exact b01_c (mo_fr (fun a ha => lc_ne hT (by omega) (by omega) (by omega) (by omega)))
  · rw [if_neg h]
    show (if 27 = 28 ∧ s < _ then _ else if 27 = 27 ∧ s < _ then _ else lc M f 27 s) = _
    rw [if_neg (by omega), if_neg (fun q => h q.2), lc_ne hT (by decide) (by decide) (by decide) (by decide)]
theorem ldM_28 {M : sx_M0} (hT : tw M) {f : Int} {s : Nat} (h : s < 2 ^ (M 1 1).toNat) : ldM M f 28 s = csS M f s 5 := by
  unfold ldM
  rw [stS_28 h]
  exact cs_fr (lc_ne hT (by decide) (by decide) (by decide) (by decide))
theorem rcS_bd2 {M : sx_M0} (hT : tw M) {d p : Nat} (hd : d < 6) (hp : p < 5) : -1 ≤ rcS M d p ∧ rcS M d p ≤ 10000 := rcS_bd hT hd hp
theorem ldM_sv {M : sx_M0} (hT : tw M) (hV : sv M) {f : Int} : sv (ldM M f) := by
  have g0 := hT.1
  have g1 := hT.2.1
  unfold sv
  rw [ldM_17 hT, la_0, la_1, la_17 (b := 11) (by decide) (by decide), la_17 (b := 12) (by decide) (by decide), la_17 (b := 13) (by decide) (by decide), ldM_ne (a := 29) hT (by decide)]
  refine ⟨by omega, by omega, fun d hd => ?_, fun d p hd hp => ?_, fun s hs => ?_, hV.2.2.2.2.2⟩
  · rw [ldM_18 hT]
    have q1 := hT.2.2.2.1 d hd
    have q2 := hV.2.2.1 d hd
    split <;> omega
  · rw [ldM_21 hd]
    have q1 := rcS_bd hT hd hp
    have q2 := hV.2.2.2.1 d p hd hp
    split <;> omega
  · rw [ldM_27 hT]
    split
    · exact b01_or _
    · exact hV.2.2.2.2.1 s hs

set_option maxRecDepth 100000 in
set_option maxHeartbeats 4000000 in
theorem lp2_Se_load  (M : sx_M0) (hT : tw M) (f : Int) (hf : -1 ≤ f ∧ f ≤ 4) (p : Nat) (hp : p < (M 1 1).toNat) {E : sx_E} (C : sx_C SC g_tbl "SiteChoice$Search" c_Se_load E) (Rr : sx_Ret SC none (rmk 4 160) (fun r G' M' => G' = GL ∧ M' = ldM M f ∧ r = none) E) (hnL : sx_nL E = 5) (hk : sx_X SC E (0, 0) GL (ldS (lb M) f (M 1 0).toNat (p + 1) 0 (p + 1)) 89 [(3, sx_I (((p : Nat) : Int))), (0, sx_A (17)), (1, sx_A (1)), (2, sx_I (f))] []) : ∀ (nF : Nat) (e : Nat), (M 1 0).toNat - e < nF → e ≤ (M 1 0).toNat → sx_X SC E (0, 0) GL (ldS (lb M) f (M 1 0).toNat p e (p + 1)) 58 [(4, sx_I (((e : Nat) : Int))), (3, sx_I (((p : Nat) : Int))), (0, sx_A (17)), (1, sx_A (1)), (2, sx_I (f))] [] := by
  intro nF
  induction nF with
  | zero => intro e h; omega
  | succ nF ih =>
    intro e hn h1
    have g0 := hT.1
    have g1 := hT.2.1
    have hlow : ∀ a, a ≤ 16 → (ldS (lb M) f (M 1 0).toNat p e (p + 1)) a = M a := fun a ha => by rw [ld_ne (by omega) (by omega) (by omega), lb_ne (by omega) (by omega)]
    refine sx_iload C 0 d_Se_load_58 rfl ?_
    refine sx_aload_n C 2 d_Se_load_60 rfl rfl ?_
    refine sx_geti C f_Se_9 (by decide) rfl d_Se_load_61 ?_
    rw [ld_ne (by omega) (by decide) (by decide), lb_17, la_0]
    refine sx_icmp_ge C 89 ⟨by omega, by omega⟩ ⟨by omega, by omega⟩ d_Se_load_64 (by decide) (fun c64 => ?_) (fun c64 => ?_)
    · refine sx_sub [1, 2, 3, 4] rfl ?_
      rw [show e = (M 1 0).toNat by omega, ld_end]
      exact hk
    · refine sx_aload_n C 2 d_Se_load_67 rfl rfl ?_
      refine sx_getr C f_Se_27 20 (by decide) rfl rfl d_Se_load_68 ?_
      refine sx_iload C 0 d_Se_load_71 rfl ?_
      refine sx_aaload C e (20 + 1 + e) (by decide) rfl rfl rfl (by omega) (by decide) (if_pos (by omega)) d_Se_load_73 ?_
      refine sx_iload_n C 1 d_Se_load_74 rfl rfl ?_
      refine sx_aload_n C 3 d_Se_load_75 rfl rfl ?_
      refine sx_iload C 0 d_Se_load_76 rfl ?_
      refine sx_iload_n C 1 d_Se_load_78 rfl rfl ?_
      refine sx_callV (n := 71) (As := [sx_I (((e : Nat) : Int)), sx_I (((p : Nat) : Int))]) (st := [sx_I (((p : Nat) : Int)), sx_A ((20 + 1 + e))]) C (ct_To_reach _ _ _ _ (tw_fr hlow hT) e p (by omega) (by omega)) rfl (by decide) rfl (cv_Se_74 E C _ (by rw [Rr.2.2]; decide)) (Nat.le_of_ble_eq_true rfl) d_Se_load_79 (by rw [Rr.2.2]; decide) (by decide) rfl (by simp [sx_ok]; omega) rfl (fun r79 G79 M79 hpo _ => ?_)
      obtain ⟨e1, e2, rfl⟩ := hpo
      rw [e1, e2]
      rw [rc_fr hlow (by omega)]
      show sx_X SC E (0, 0) GL (ldS (lb M) f (M 1 0).toNat p e (p + 1)) 82 [(4, sx_I (((e : Nat) : Int))), (3, sx_I (((p : Nat) : Int))), (0, sx_A (17)), (1, sx_A (1)), (2, sx_I (f))] [sx_J (rcS M e p), sx_I (((p : Nat) : Int)), sx_A ((20 + 1 + e))]
      refine sx_lastore C p (by show (20 + 1 + e) < 71; omega) (gl_20 _ (by omega)) rfl rfl (by omega) (by decide) d_Se_load_82 ?_
      refine sx_iinc (lv' := [(4, sx_I (((e + 1 : Nat) : Int))), (3, sx_I (((p : Nat) : Int))), (0, sx_A (17)), (1, sx_A (1)), (2, sx_I (f))]) C 0 d_Se_load_83 rfl (by rw [hnL]; decide) rfl ?_
      refine sx_goto C 58 d_Se_load_86 (by decide) ?_
      refine sx_sub [0, 1, 2, 3, 4] rfl ?_
      rw [ld_rc (lb M) f (M 1 0).toNat p e (p + 1) (by omega) (x := rcS M e p) (rc_fr (fun a ha => lb_ne (by omega) (by omega)) (by omega)).symm]
      exact ih (e + 1) (by omega) (by omega)
set_option maxRecDepth 100000 in
set_option maxHeartbeats 4000000 in
theorem lp_Se_load  (M : sx_M0) (hT : tw M) (f : Int) (hf : -1 ≤ f ∧ f ≤ 4) {E : sx_E} (C : sx_C SC g_tbl "SiteChoice$Search" c_Se_load E) (Rr : sx_Ret SC none (rmk 4 160) (fun r G' M' => G' = GL ∧ M' = ldM M f ∧ r = none) E) (hnL : sx_nL E = 5) : ∀ (nF : Nat) (p : Nat), (M 1 1).toNat - p < nF → p ≤ (M 1 1).toNat → sx_X SC E (0, 0) GL (ldS (lb M) f (M 1 0).toNat p 0 p) 24 [(3, sx_I (((p : Nat) : Int))), (0, sx_A (17)), (1, sx_A (1)), (2, sx_I (f))] [] := by
  intro nF
  induction nF with
  | zero => intro p h; omega
  | succ nF ih =>
    intro p hn h1
    have g0 := hT.1
    have g1 := hT.2.1
    have hlow : ∀ a, a ≤ 16 → (ldS (lb M) f (M 1 0).toNat p 0 p) a = M a := fun a ha => by rw [ld_ne (by omega) (by omega) (by omega), lb_ne (by omega) (by omega)]
    refine sx_iload_n C 0 d_Se_load_24 rfl rfl ?_
    refine sx_aload_n C 1 d_Se_load_25 rfl rfl ?_
    refine sx_geti C f_Se_15 (by decide) rfl d_Se_load_26 ?_
    rw [ld_ne (by omega) (by decide) (by decide), lb_17, la_1]
    refine sx_icmp_ge C 95 ⟨by omega, by omega⟩ ⟨by omega, by omega⟩ d_Se_load_29 (by decide) (fun c29 => ?_) (fun c29 => ?_)
    · refine sx_aload_n C 1 d_Se_load_95 rfl rfl ?_
      refine sx_aload_n C 2 d_Se_load_96 rfl rfl ?_
      refine sx_iload_n C 3 d_Se_load_97 rfl rfl ?_
      refine sx_callV (n := 71) (As := [sx_A (1), sx_I (f)]) (st := []) C (ct_Se_loadSets _ _ _ _ (tw_fr hlow hT) (by rw [ld_ne (by omega) (by decide) (by decide), lb_17, la_1]; omega) f hf) rfl (by decide) rfl (cv_Se_78 E C _ (by rw [Rr.2.2]; decide)) (Nat.le_of_ble_eq_true rfl) d_Se_load_98 (by rw [Rr.2.2]; decide) (by decide) rfl rfl rfl (fun r98 G98 M98 hpo _ => ?_)
      obtain ⟨e1, e2, rfl⟩ := hpo
      rw [e1, e2]
      show sx_X SC E (0, 0) GL (stS (ldS (lb M) f (M 1 0).toNat p 0 p) f (2 ^ ((ldS (lb M) f (M 1 0).toNat p 0 p) 17 1).toNat)) 101 [(3, sx_I (((p : Nat) : Int))), (0, sx_A (17)), (1, sx_A (1)), (2, sx_I (f))] []
      refine sx_return C Rr rfl d_Se_load_101 ?_
      refine ⟨rfl, ?_, rfl⟩
      rw [ld_ne (by omega) (by decide) (by decide), lb_17, la_1, show p = (M 1 1).toNat by omega]
      rfl
    · refine sx_aload_n C 1 d_Se_load_32 rfl rfl ?_
      refine sx_getr C f_Se_22 19 (by decide) rfl rfl d_Se_load_33 ?_
      refine sx_iload_n C 0 d_Se_load_36 rfl rfl ?_
      refine sx_iload_n C 0 d_Se_load_37 rfl rfl ?_
      refine sx_iload_n C 3 d_Se_load_38 rfl rfl ?_
      refine sx_icmp_ne C 48 ⟨by omega, by omega⟩ ⟨by omega, by omega⟩ d_Se_load_39 (by decide) (fun c39 => ?_) (fun c39 => ?_)
      · refine sx_aload_n C 2 d_Se_load_48 rfl rfl ?_
        refine sx_getr C f_Se_73 14 (by decide) rfl rfl d_Se_load_49 ?_
        refine sx_iload_n C 0 d_Se_load_52 rfl rfl ?_
        refine sx_laload C p (by decide) rfl rfl rfl (by omega) (by decide) d_Se_load_53 ?_
        rw [ld_ne (by omega) (by decide) (by decide), lb_ne (by decide) (by decide)]
        refine sx_lastore C p (by decide) rfl rfl rfl (by omega) (by decide) d_Se_load_54 ?_
        refine sx_iconst C d_Se_load_55 ?_
        refine sx_istore (lv' := [(4, sx_I (0)), (3, sx_I (((p : Nat) : Int))), (0, sx_A (17)), (1, sx_A (1)), (2, sx_I (f))]) C d_Se_load_56 (by rw [hnL]; decide) rfl ?_
        rw [ld_room (lb M) f (M 1 0).toNat p (by unfold rmS; rw [if_neg (by omega), lb_ne (by decide) (by decide)])]
        refine sx_sub [0, 1, 2, 3, 4] rfl ?_
        refine lp2_Se_load M hT f hf p (by omega) C Rr hnL ?_ _ 0 (Nat.lt_succ_self _) (Nat.zero_le _)
        refine sx_iinc (lv' := [(3, sx_I (((p + 1 : Nat) : Int))), (0, sx_A (17)), (1, sx_A (1)), (2, sx_I (f))]) C 0 d_Se_load_89 rfl (by rw [hnL]; decide) rfl ?_
        refine sx_goto C 24 d_Se_load_92 (by decide) ?_
        refine sx_sub [0, 1, 2, 3] rfl ?_
        exact ih (p + 1) (by omega) (by omega)
      · refine sx_ldc2 (v := (600)) C (600) (tb_ 311 (by decide +kernel) rfl) (by decide) d_Se_load_42 ?_
        refine sx_goto C 54 d_Se_load_45 (by decide) ?_
        refine sx_lastore C p (by decide) rfl rfl rfl (by omega) (by decide) d_Se_load_54 ?_
        refine sx_iconst C d_Se_load_55 ?_
        refine sx_istore (lv' := [(4, sx_I (0)), (3, sx_I (((p : Nat) : Int))), (0, sx_A (17)), (1, sx_A (1)), (2, sx_I (f))]) C d_Se_load_56 (by rw [hnL]; decide) rfl ?_
        rw [ld_room (lb M) f (M 1 0).toNat p (by unfold rmS; rw [if_pos (by omega)])]
        refine sx_sub [0, 1, 2, 3, 4] rfl ?_
        refine lp2_Se_load M hT f hf p (by omega) C Rr hnL ?_ _ 0 (Nat.lt_succ_self _) (Nat.zero_le _)
        refine sx_iinc (lv' := [(3, sx_I (((p + 1 : Nat) : Int))), (0, sx_A (17)), (1, sx_A (1)), (2, sx_I (f))]) C 0 d_Se_load_89 rfl (by rw [hnL]; decide) rfl ?_
        refine sx_goto C 24 d_Se_load_92 (by decide) ?_
        refine sx_sub [0, 1, 2, 3] rfl ?_
        exact ih (p + 1) (by omega) (by omega)
set_option maxRecDepth 100000 in
set_option maxHeartbeats 4000000 in
theorem ct_Se_load (l : Launch) (D : va_G) (tc : Nat → ClassId) (M : sx_M0) (hT : tw M) (f : Int) (hf : -1 ≤ f ∧ f ≤ 4) : sx_Met SC l D tc y_Se_load w_Se_load (rmk 4 160) [sx_A (17), sx_A (1), sx_I (f)] GL M (fun r G' M' => G' = GL ∧ M' = ldM M f ∧ r = none) := by
  refine sx_enter (by decide) rfl (Nat.le_of_ble_eq_true rfl) (Ts := g_tbl) (fun _ h => List.mem_cons_of_mem _ h) (fun E C Rr hnm hnL => ?_)
  have g0 := hT.1
  have g1 := hT.2.1
  refine sx_aload_n C 0 d_Se_load_0 rfl rfl ?_
  refine sx_aload_n C 1 d_Se_load_1 rfl rfl ?_
  refine sx_geti C f_Se_63 (by decide) rfl d_Se_load_2 ?_
  refine sx_puti C p_Se_9 (by decide) rfl d_Se_load_5 ?_
  refine sx_aload_n C 0 d_Se_load_8 rfl rfl ?_
  refine sx_aload_n C 1 d_Se_load_9 rfl rfl ?_
  refine sx_geti C f_Se_66 (by decide) rfl d_Se_load_10 ?_
  rw [sx_up_ne (by decide)]
  refine sx_puti C p_Se_15 (by decide) rfl d_Se_load_13 ?_
  refine sx_aload_n C 0 d_Se_load_16 rfl rfl ?_
  refine sx_aload_n C 1 d_Se_load_17 rfl rfl ?_
  refine sx_iconst C d_Se_load_18 ?_
  refine sx_callV (n := 71) (As := [sx_A (1), sx_I (0)]) (st := []) C (ct_Se_loadNeedsOfYear _ _ _ (la M) (tw_fr (fun a ha => la_ne (by omega)) hT) (by rw [la_0]; omega) 0 (by omega)) rfl (by decide) rfl (cv_Se_67 E C _ (by rw [Rr.2.2]; decide)) (Nat.le_of_ble_eq_true rfl) d_Se_load_19 (by rw [Rr.2.2]; decide) (by decide) rfl rfl rfl (fun r19 G19 M19 hpo _ => ?_)
  obtain ⟨e1, e2, rfl⟩ := hpo
  rw [e1, e2]
  show sx_X SC E (0, 0) GL (lb M) 22 [(0, sx_A (17)), (1, sx_A (1)), (2, sx_I (f))] []
  refine sx_iconst C d_Se_load_22 ?_
  refine sx_istore_n (lv' := [(3, sx_I (0)), (0, sx_A (17)), (1, sx_A (1)), (2, sx_I (f))]) C d_Se_load_23 rfl (by rw [hnL]; decide) rfl ?_
  refine sx_sub [0, 1, 2, 3] rfl ?_
  have h0 := lp_Se_load M hT f hf C Rr hnL _ 0 (Nat.lt_succ_self _) (Nat.zero_le _)
  rw [ld_0] at h0
  exact h0
