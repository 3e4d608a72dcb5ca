def sx_wd (v : sx_V) : Nat := if sx_wide v = true then 2 else 1
theorem sx_wd_cat (ad : Nat → Nat) (v : sx_V) : (sx_cv ad v).category = sx_wd v := by
  rcases v with x | x | r | a
  · rfl
  · rfl
  · cases r <;> rfl
  · rfl
theorem sx_wds (ad : Nat → Nat) (st : List sx_V) : ((st.map (sx_cv ad)).map fun v => v.category) = st.map sx_wd := by
  rw [List.map_map]
  exact List.map_congr_left (fun v _ => sx_wd_cat ad v)
def sx_args : Nat → List sx_V → List (Nat × sx_V)
  | _, [] => []
  | i, v :: vs => (i, v) :: sx_args (if sx_wide v = true then i + 2 else i + 1) vs
theorem sx_args_eq (ad : Nat → Nat) : ∀ (vs : List sx_V) (i : Nat), lv_args i (vs.map (sx_cv ad)) = sx_lv ad (sx_args i vs)
  | [], _ => rfl
  | v :: vs, i => by
    have h : (if (sx_cv ad v).category = 2 then i + 2 else i + 1) = (if sx_wide v = true then i + 2 else i + 1) := by
      rw [sx_wd_cat]
      unfold sx_wd
      cases sx_wide v <;> rfl
    show (i, sx_cv ad v) :: lv_args (if (sx_cv ad v).category = 2 then i + 2 else i + 1) (vs.map (sx_cv ad)) = _
    rw [h, sx_args_eq ad vs]
    rfl
theorem sx_slots (ad : Nat → Nat) : ∀ (vs : List sx_V), (lg_sl (vs.map (sx_cv ad))).length = (vs.map sx_wd).sum
  | [] => rfl
  | v :: vs => by
    have h := sx_slots ad vs
    have hc := sx_wd_cat ad v
    show (List.flatMap _ (sx_cv ad v :: vs.map (sx_cv ad))).length = _
    rw [List.flatMap_cons, List.length_append]
    have h2 : (List.flatMap (fun v => if v.category = 2 then [Slot.val v, Slot.second] else [Slot.val v]) (vs.map (sx_cv ad))).length = (vs.map sx_wd).sum := h
    rw [h2, List.map_cons, List.sum_cons]
    congr 1
    rw [hc]
    unfold sx_wd
    cases sx_wide v <;> rfl
/-- a contract's end, and its start -/
def sx_Qc (S : sx_S) (D : va_G) (tc : Nat → ClassId) (ad0 : Nat → Nat) (sz0 : Nat) (A : Nat → Prop) (Po : Option sx_V → sx_G → sx_M0 → Prop) : Array Value → State → Outcome → State → Prop := fun _ st oc t =>
  (∃ (r : Option sx_V) (G : sx_G) (M : sx_M0) (ad : Nat → Nat), oc = .returned (r.map (sx_cv ad)) ∧ Po r G M ∧ sz0 ≤ G.1 ∧ (∀ k, k < sz0 → ad k = ad0 k) ∧ va_P D S.1 (sx_w S tc ad G M) t.heap ∧ (va_K D S.1 (sx_ty S tc) t ∧ sx_O t) ∧ va_D A (sx_w S tc ad G M)) ∧ va_F A st t
def sx_Pc (S : sx_S) (D : va_G) (tc : Nat → ClassId) (ad : Nat → Nat) (hs : Nat) (args : List sx_V) (G : sx_G) (M : sx_M0) : Array Value → State → Prop :=
  va_Pc (args.map (sx_cv ad)) (fun U => U.heap.size = hs ∧ va_P D S.1 (sx_w S tc ad G M) U.heap ∧ (va_K D S.1 (sx_ty S tc) U ∧ sx_O U) ∧ va_D (fun _ => True) (sx_w S tc ad G M))
/-- THE CONTRACT: called with these arguments over this world, method y answers r and leaves the world G', M', with Po r G' M' -/
def sx_Met (S : sx_S) (l : Launch) (D : va_G) (tc : Nat → ClassId) (y : MethodName) (ws : List Cond) (rm : Room) (args : List sx_V) (G : sx_G) (M : sx_M0) (Po : Option sx_V → sx_G → sx_M0 → Prop) : Prop :=
  ∀ (ad : Nat → Nat) (hs : Nat), Met l y ws rm (sx_Pc S D tc ad hs args G M) (sx_Qc S D tc ad G.1 (va_A (sx_w S tc ad G M) hs) Po) rm.cells rm.slots (va_A (sx_w S tc ad G M) hs)
def sx_Ret (S : sx_S) (ret : Option FieldType) (rm : Room) (Po : Option sx_V → sx_G → sx_M0 → Prop) (E : sx_E) : Prop :=
  (sx_me E).sig.returnType = ret ∧ sx_Q E = MQ (sx_b E) (sx_Qc S (sx_D E) (sx_tc E) (sx_ad E) (sx_sz E) (sx_AA E) Po) (sx_a E) (sx_s E) rm.cells rm.slots (sx_AA E) ∧ sx_R E = rm
theorem sx_enter {S : sx_S} {l : Launch} {D : va_G} {tc : Nat → ClassId} {y : MethodName} {ws ws' : List Cond} {rm : Room} {cc : ByteArray} {maxL : Nat} {ret : Option FieldType} {args : List sx_V} {G : sx_G} {M : sx_M0} {Po : Option sx_V → sx_G → sx_M0 → Prop} (hy : plainName y.cls = true) (hw : ws = Cond.code y cc maxL ret :: ws') (hn : (args.map sx_wd).sum ≤ maxL) {Ts : List Cond} (hsb : ∀ w ∈ Ts, w ∈ ws)
    (body : ∀ E : sx_E, sx_C S Ts y.cls cc E → sx_Ret S ret rm Po E → (sx_me E).name = y.name → sx_nL E = maxL → sx_X S E (0, 0) G M 0 (sx_args 0 args) []) : sx_Met S l D tc y ws rm args G M Po := by
  intro ad hs
  refine Met.ofW (cc := cc) (maxL := maxL) (ret := ret) hy hw ?_
  intro p e s m args' below meth c s₁ B hml hv
  obtain ⟨rfl, hsz, hP, hK, hD0⟩ := hv
  have hl := lv_entry (args.map (sx_cv ad)) (n := maxL) (by rw [sx_slots]; exact hn)
  rw [sx_args_eq] at hl
  rw [lg_entry_eq]
  exact body ((p, l, e, rm, s, m, (args.map (sx_cv ad)).toArray, below, meth, c), (va_A (sx_w S tc ad G M) hs, D, tc, ad, G.1, maxL, MQ below (sx_Qc S D tc ad G.1 (va_A (sx_w S tc ad G M) hs) Po) (args.map (sx_cv ad)).toArray s rm.cells rm.slots (va_A (sx_w S tc ad G M) hs)))
    ⟨B.exec, B.bytes, hml, findClass_of_methodNamed B.named, (fun w hw => atoms_spec (ws := ws) B.pre w (hsb w hw)), ⟨B.notSynchronized, hK.2⟩, hK.1, fun q h => Or.inr (by rw [← hsz]; exact h)⟩ ⟨B.returns, rfl, rfl⟩ (name_of_methodNamed B.named B.method).1 rfl s.heap [] _ ad hP hD0.self va_S.rf (Nat.le_refl _) (fun _ _ => rfl) hl
def sx_ok (n : Nat) (v : sx_V) : Bool := match v with
  | .inr (.inr (.inl (some k))) => decide (k < n)
  | _ => true
theorem sx_ok_cv {n n' : Nat} {ad ad' : Nat → Nat} (h : ∀ k, k < n → ad' k = ad k) (hn : n' ≤ n) {v : sx_V} (hv : sx_ok n' v = true) : sx_cv ad' v = sx_cv ad v := by
  rcases v with x | x | r | a
  · rfl
  · rfl
  · cases r with
    | none => rfl
    | some k =>
      have hk : k < n' := of_decide_eq_true hv
      show va_rf (some (ad' k)) = va_rf (some (ad k))
      rw [h k (Nat.lt_of_lt_of_le hk hn)]
  · rfl
section SXC
variable {S : sx_S} {E : sx_E} {cs : Nat × Nat} {G : sx_G} {M : sx_M0} {pc : Nat} {lv : List (Nat × sx_V)} {st : List sx_V} {Ts : List Cond} {own : String} {cc : ByteArray} {rm rm0 : Room} {Po Po0 : Option sx_V → sx_G → sx_M0 → Prop}
theorem sx_widen {c2 : Nat × Nat} (h1 : cs.1 ≤ c2.1) (h2 : cs.2 ≤ c2.2) (k : sx_X S E c2 G M pc lv st) : sx_X S E cs G M pc lv st :=
  fun H locs ls ad hP hD hS hz ha hl => W.widen h1 h2 (k H locs ls ad hP hD hS hz ha hl)
-- returns
theorem sx_post (C : sx_C S Ts own cc E) {H : Heap} {locs : List Loc} {ad : Nat → Nat} (hP : va_P (sx_D E) S.1 (sx_w S (sx_tc E) ad G M) H) (hD : va_D (sx_AA E) (sx_w S (sx_tc E) ad G M)) (hS : va_S (sx_AA E) (sx_s E).heap H locs) (hz : sx_sz E ≤ G.1) (ha : ∀ k, k < sx_sz E → ad k = sx_ad E k) (r : Option sx_V) (hpo : Po r G M) : ∀ t : State, t.heap = H → (sx_s E).WarmedH t.vm → sx_Qc S (sx_D E) (sx_tc E) (sx_ad E) (sx_sz E) (sx_AA E) Po (sx_a E) (sx_s E) (.returned (r.map (sx_cv ad))) t :=
  fun t ht hW => ⟨⟨r, G, M, ad, rfl, hpo, hz, ha, by rw [ht]; exact hP, ⟨va_K.moved hW.alike C.2.2.2.2.2.2.1, sx_O.moved hW.alike C.2.2.2.2.2.1.2⟩, hD⟩, hS.F ht⟩
theorem sx_ireturn (C : sx_C S Ts own cc E) (Rr : sx_Ret S (some .int) rm Po E) {x : Int} (hcs : cs = (rm.cells, rm.slots)) (hd : decode cc pc = .ok (.ireturn, 1)) (hpo : Po (some (sx_I x)) G M) : sx_X S E cs G M pc lv [sx_I x] := by
  subst hcs
  intro H locs ls ad hP hD hS hz ha hl
  delta sx_W
  rw [Rr.2.1]
  exact W.iret (v := Int32.ofInt x) C.1 C.2.1 Rr.1 (sx_post C hP hD hS hz ha (some (sx_I x)) hpo) hS.2.2 hd C.2.2.2.2.2.1.1
theorem sx_zreturn (C : sx_C S Ts own cc E) (Rr : sx_Ret S (some .boolean) rm Po E) {x : Int} (hx : x = 0 ∨ x = 1) (hcs : cs = (rm.cells, rm.slots)) (hd : decode cc pc = .ok (.ireturn, 1)) (hpo : Po (some (sx_I x)) G M) : sx_X S E cs G M pc lv [sx_I x] := by
  subst hcs
  intro H locs ls ad hP hD hS hz ha hl
  delta sx_W
  rw [Rr.2.1]
  exact W.zret (v := Int32.ofInt x) (ty := .boolean) C.1 C.2.1 Rr.1 (sx_bit hx).1 (sx_post C hP hD hS hz ha (some (sx_I x)) hpo) hS.2.2 hd C.2.2.2.2.2.1.1
theorem sx_lreturn (C : sx_C S Ts own cc E) (Rr : sx_Ret S (some .long) rm Po E) {x : Int} (hcs : cs = (rm.cells, rm.slots)) (hd : decode cc pc = .ok (.lreturn, 1)) (hpo : Po (some (sx_J x)) G M) : sx_X S E cs G M pc lv [sx_J x] := by
  subst hcs
  intro H locs ls ad hP hD hS hz ha hl
  delta sx_W
  rw [Rr.2.1]
  exact W.lret (v := Int64.ofInt x) C.1 C.2.1 Rr.1 (sx_post C hP hD hS hz ha (some (sx_J x)) hpo) hS.2.2 hd C.2.2.2.2.2.1.1
theorem sx_return (C : sx_C S Ts own cc E) (Rr : sx_Ret S none rm Po E) (hcs : cs = (rm.cells, rm.slots)) (hd : decode cc pc = .ok (.return_, 1)) (hpo : Po none G M) : sx_X S E cs G M pc lv [] := by
  subst hcs
  intro H locs ls ad hP hD hS hz ha hl
  delta sx_W
  rw [Rr.2.1]
  exact W.vret C.1 C.2.1 Rr.1 (sx_post C hP hD hS hz ha none hpo) hS.2.2 hd C.2.2.2.2.2.1.1
-- calls
theorem sx_blind {D : va_G} {tc : Nat → ClassId} {ad : Nat → Nat} {hs : Nat} {args : List sx_V} : FrameBlind (sx_Pc S D tc ad hs args G M) := fun a U g mk q => by
  obtain ⟨q0, q1, qP, qK, qD⟩ := q
  exact ⟨q0, q1, qP, ⟨va_K.moved (u := U) (U := U.calling g mk a) (Vm.Alike.refl U.vm) qK.1, sx_O.moved (u := U) (U := U.calling g mk a) (Vm.Alike.refl U.vm) qK.2⟩, qD⟩
theorem sx_go (C : sx_C S Ts own cc E) {H : Heap} {locs : List Loc} {ls : Array Slot} {ad : Nat → Nat} {st0 : List Value} {a : Array Value} (hD : va_D (sx_AA E) (sx_w S (sx_tc E) ad G M)) (hS : va_S (sx_AA E) (sx_s E).heap H locs) (hz : sx_sz E ≤ G.1) (ha : ∀ k, k < sx_sz E → ad k = sx_ad E k) (hl : lv_has ls (sx_nL E) (sx_lv ad lv))
    (hrun : va_Run (sx_p E) (sx_l E) (sx_e E) (sx_R E) (sx_s E) (sx_m E) (sx_a E) (sx_b E) (sx_me E) (sx_c E) H locs cs.1 cs.2 rm.cells rm.slots (F0 (sx_m E) pc ls st0) (st.map (sx_cv ad)) (sx_Qc S (sx_D E) (sx_tc E) ad G.1 (va_A (sx_w S (sx_tc E) ad G M) H.size) Po a) (va_A (sx_w S (sx_tc E) ad G M) H.size))
    {n : Nat} (hn : n ≤ G.1) (hlo : lv.all (fun q => sx_ok n q.2) = true) (hso : st.all (sx_ok n) = true)
    (kk : ∀ (r : Option sx_V) (G' : sx_G) (M' : sx_M0), Po r G' M' → G.1 ≤ G'.1 → sx_X S E (cs.1 + rm.cells, cs.2 + rm.slots) G' M' (pc + 3) lv (r.toList ++ st)) : sx_W E H locs cs.1 cs.2 (F0 (sx_m E) pc ls st0) := by
  intro T hT X
  obtain ⟨v, st₀, t, T', L, h0, X', hL, e1, e2, ⟨⟨r, G', M', ad', hv, hpo, hsz, hext, hP1, hK1, hD1⟩, hz1, hk1⟩, stp⟩ := hrun T hT X
  have hfree : ∀ q, va_A (sx_w S (sx_tc E) ad G M) H.size q → sx_AA E q := fun q h => by
    rcases h with ⟨k, e, h⟩ | h
    · exact hD.2 k (q, e) h
    · exact C.2.2.2.2.2.2.2 q (Nat.le_trans hS.1 h)
  rw [h0] at hz1 hk1
  have hv' : v = r.map (sx_cv ad') := by injection hv
  subst hv'
  have hS' : va_S (sx_AA E) (sx_s E).heap T'.heap (locs ++ L) := ⟨Nat.le_trans hS.1 (by rw [e1]; exact hz1), fun q h1 h2 => by rw [e1, hk1 q (Nat.lt_of_lt_of_le h1 hS.1) (fun z => h2 (hfree q z))]; exact hS.2.1 q h1 h2, fun q hq => by
      rcases List.mem_append.mp hq with h | h
      · exact hS.2.2 q h
      · exact hfree _ (hL q h)⟩
  have hlv : sx_lv ad' lv = sx_lv ad lv := List.map_congr_left (fun q hq => by
    rw [sx_ok_cv hext hn (List.all_eq_true.mp hlo q hq)])
  have hst : st.map (sx_cv ad') = st.map (sx_cv ad) := List.map_congr_left (fun q hq => sx_ok_cv hext hn (List.all_eq_true.mp hso q hq))
  obtain ⟨t2, a1, b1⟩ := kk r G' M' hpo hsz T'.heap (locs ++ L) ls ad' (by rw [e1]; exact hP1) (hD1.weaken (fun _ q _ h => hfree q.1 h)) hS' (Nat.le_trans hz hsz) (fun k hk => (hext k (Nat.lt_of_lt_of_le hk hz)).trans (ha k hk)) (by rw [hlv]; exact hl) T' rfl X'
  refine ⟨t2, stp t2 ?_, b1⟩
  have e3 : (r.toList).map (sx_cv ad') = (r.map (sx_cv ad')).toList := by cases r <;> rfl
  rw [List.map_append, hst, e3] at a1
  exact a1
variable {y : MethodName} {ws : List Cond} {As : List sx_V} {idx maxL : Nat} {bytes : ByteArray} {ret : Option FieldType}
theorem sx_callV (C : sx_C S Ts own cc E) {b ci N : Nat} {Cn : String} {T : u_T} (hM : sx_Met S (sx_l E) (sx_D E) (sx_tc E) y ws rm (sx_A b :: As) G M Po) (hc : S.1[ci]? = some (Cn, T, N)) (hb : b < G.1) (hs : G.2.1 b = (0, ci))
    (cw : CallW (sx_R E) (sx_s E) (sx_a E) own Cn idx y bytes maxL ret ws rm rm.cells rm.slots As.length) (hw : (st.map sx_wd).sum ≤ 8) (hd : decode cc pc = .ok (.invokevirtual idx, 3)) (hf : cs.1 + rm.cells ≤ (sx_R E).cells ∧ cs.2 + rm.slots ≤ (sx_R E).slots)
    {n : Nat} (hn : n ≤ G.1) (hlo : lv.all (fun q => sx_ok n q.2) = true) (hso : st.all (sx_ok n) = true) {st0 : List sx_V} (h0 : st0 = As.reverse ++ sx_A b :: st)
    (kk : ∀ (r : Option sx_V) (G' : sx_G) (M' : sx_M0), Po r G' M' → G.1 ≤ G'.1 → sx_X S E (cs.1 + rm.cells, cs.2 + rm.slots) G' M' (pc + 3) lv (r.toList ++ st)) : sx_X S E cs G M pc lv st0 := by
  subst h0
  intro H locs ls ad hP hD hS hz ha hl
  refine sx_go C hD hS hz ha hl (va_runV (As := As.map (sx_cv ad)) (rest := st.map (sx_cv ad)) (b := ad b) (nL := sx_nL E) ⟨C.1, C.2.1, C.2.2.1, C.2.2.2.1, C.2.2.2.2.1⟩ (hM ad H.size) cw ⟨sx_blind, va_recv C.2.2.2.2.2.2.1 hP hc (sx_obj hb hs), fun U hU hW => ⟨rfl, by rw [hU], by rw [hU]; exact hP, ⟨va_K.moved hW.alike C.2.2.2.2.2.2.1, sx_O.moved hW.alike C.2.2.2.2.2.1.2⟩, hD.weaken (fun _ _ _ _ => trivial)⟩⟩ rfl (by simp) hl.1 ?_ ?_ hd hf) hn hlo hso kk
  · show List.map (sx_cv ad) (As.reverse ++ sx_A b :: st) = _
    rw [List.map_append, List.map_reverse]
    rfl
  · exact lv_room (by rw [sx_wds]; exact hw)
theorem sx_callS (C : sx_C S Ts own cc E) (hM : sx_Met S (sx_l E) (sx_D E) (sx_tc E) y ws rm As G M Po)
    (cw : CallB (sx_R E) (sx_s E) (sx_a E) own idx y bytes maxL ret ws rm rm.cells rm.slots As.length ∧ (Cond.static y).before (sx_a E) (sx_s E) = true) (hw : (st.map sx_wd).sum ≤ 8) (hd : decode cc pc = .ok (.invokestatic idx, 3)) (hf : cs.1 + rm.cells ≤ (sx_R E).cells ∧ cs.2 + rm.slots ≤ (sx_R E).slots)
    {n : Nat} (hn : n ≤ G.1) (hlo : lv.all (fun q => sx_ok n q.2) = true) (hso : st.all (sx_ok n) = true) {st0 : List sx_V} (h0 : st0 = As.reverse ++ st)
    (kk : ∀ (r : Option sx_V) (G' : sx_G) (M' : sx_M0), Po r G' M' → G.1 ≤ G'.1 → sx_X S E (cs.1 + rm.cells, cs.2 + rm.slots) G' M' (pc + 3) lv (r.toList ++ st)) : sx_X S E cs G M pc lv st0 := by
  subst h0
  intro H locs ls ad hP hD hS hz ha hl
  refine sx_go C hD hS hz ha hl (va_runS (As := As.map (sx_cv ad)) (rest := st.map (sx_cv ad)) (nL := sx_nL E) ⟨C.1, C.2.1, C.2.2.1, C.2.2.2.1, C.2.2.2.2.1⟩ (hM ad H.size) cw ⟨sx_blind, fun U hU hW => ⟨rfl, by rw [hU], by rw [hU]; exact hP, ⟨va_K.moved hW.alike C.2.2.2.2.2.2.1, sx_O.moved hW.alike C.2.2.2.2.2.1.2⟩, hD.weaken (fun _ _ _ _ => trivial)⟩⟩ rfl (by simp) hl.1 ?_ ?_ hd hf) hn hlo hso kk
  · show List.map (sx_cv ad) (As.reverse ++ st) = _
    rw [List.map_append, List.map_reverse]
  · exact lv_room (by rw [sx_wds]; exact hw)
theorem sx_callI (C : sx_C S Ts own cc E) {b : Nat} (hM : sx_Met S (sx_l E) (sx_D E) (sx_tc E) y ws rm (sx_A b :: As) G M Po)
    (cw : CallB (sx_R E) (sx_s E) (sx_a E) own idx y bytes maxL none ws rm rm.cells rm.slots As.length ∧ y.name = "<init>" ∧ (Cond.instanceMethod y).before (sx_a E) (sx_s E) = true) (hw : (st.map sx_wd).sum ≤ 8) (hd : decode cc pc = .ok (.invokespecial idx, 3)) (hf : cs.1 + rm.cells ≤ (sx_R E).cells ∧ cs.2 + rm.slots ≤ (sx_R E).slots)
    {n : Nat} (hn : n ≤ G.1) (hlo : lv.all (fun q => sx_ok n q.2) = true) (hso : st.all (sx_ok n) = true) {st0 : List sx_V} (h0 : st0 = As.reverse ++ sx_A b :: st)
    (kk : ∀ (r : Option sx_V) (G' : sx_G) (M' : sx_M0), Po r G' M' → G.1 ≤ G'.1 → sx_X S E (cs.1 + rm.cells, cs.2 + rm.slots) G' M' (pc + 3) lv (r.toList ++ st)) : sx_X S E cs G M pc lv st0 := by
  subst h0
  intro H locs ls ad hP hD hS hz ha hl
  refine sx_go C hD hS hz ha hl (va_runI (As := As.map (sx_cv ad)) (rest := st.map (sx_cv ad)) (b := ad b) (nL := sx_nL E) ⟨C.1, C.2.1, C.2.2.1, C.2.2.2.1, C.2.2.2.2.1⟩ (hM ad H.size) cw ⟨sx_blind, fun U hU hW => ⟨rfl, by rw [hU], by rw [hU]; exact hP, ⟨va_K.moved hW.alike C.2.2.2.2.2.2.1, sx_O.moved hW.alike C.2.2.2.2.2.1.2⟩, hD.weaken (fun _ _ _ _ => trivial)⟩⟩ rfl (by simp) hl.1 ?_ ?_ hd hf) hn hlo hso kk
  · show List.map (sx_cv ad) (As.reverse ++ sx_A b :: st) = _
    rw [List.map_append, List.map_reverse]
    rfl
  · exact lv_room (by rw [sx_wds]; exact hw)
theorem sx_objInit (C : sx_C S Ts own cc E) {b : Nat} (h1 : Cond.methodLink own idx Lib.objectInit ∈ Ts) (h2 : Cond.instanceMethod Lib.objectInit ∈ Ts) (h3 : Cond.code Lib.objectInit ⟨#[0xb1]⟩ 1 none ∈ Ts) (hd : decode cc pc = .ok (.invokespecial idx, 3)) (hf : 1 ≤ (sx_R E).frames) (hlo : (st.map sx_wd).sum + 12 ≤ (sx_R E).locals) (kk : sx_X S E cs G M (pc + 3) lv st) : sx_X S E cs G M pc lv (sx_A b :: st) := by
  intro H locs ls ad hP hD hS hz ha hl
  refine W.objInit C.1 C.2.1 C.2.2.2.1 (C.2.2.2.2.1 _ h1) (C.2.2.2.2.1 _ h2) (C.2.2.2.2.1 _ h3) (a := ad b) (rest := st.map (sx_cv ad)) rfl (by rw [C.2.2.1]; exact hl.1) rfl hd hf ?_ (kk H locs ls ad hP hD hS hz ha hl)
  show 2 * 0 + _ + 12 ≤ _
  rw [sx_wds]
  omega
end SXC
