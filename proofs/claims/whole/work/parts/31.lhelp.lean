theorem n10 : ¬ (1 : Int32) = 0 := by decide
theorem n20 : ¬ (2 : Int32) = 0 := by decide
theorem in_01 : vp_in 0 1 := in_lt (M := 1) (by decide) (by decide) (by decide)
abbrev loW (xh0 xh1 xh2 xh3 : Nat) (xc1 xc2 xc3 : ClassId) (oh : Nat) (oc : ClassId) (xk1 xk2 xk3 : Nat → Int32) (xf3 xf4 xf5 xf6 xf7 xf8 xf9 xf10 xf11 xf12 xf13 : Int32) (ov : Nat → Int64) : va_W := [(xh0, .inr (0, [.ref xh1, .ref xh2, .ref xh3, .int xf3, .int xf4, .int xf5, .int xf6, .int xf7, .int xf8, .int xf9, .int xf10, .int xf11, .int xf12, .int xf13])), (xh1, .inl (xc1, 60, .inl xk1)), (xh2, .inl (xc2, 60, .inl xk2)), (xh3, .inl (xc3, 60, .inl xk3)), (oh, .inl (oc, 1, .inr (.inl ov)))]
abbrev loWU (xh0 xh1 xh2 xh3 : Nat) (xc1 xc2 xc3 : ClassId) (oh : Nat) (oc : ClassId) (u : xWS × (Nat → Int64)) : va_W := loW xh0 xh1 xh2 xh3 xc1 xc2 xc3 oh oc u.1.1 u.1.2.1 u.1.2.2.1 u.1.2.2.2.1 u.1.2.2.2.2.1 u.1.2.2.2.2.2.1 u.1.2.2.2.2.2.2.1 u.1.2.2.2.2.2.2.2.1 u.1.2.2.2.2.2.2.2.2.1 u.1.2.2.2.2.2.2.2.2.2.1 u.1.2.2.2.2.2.2.2.2.2.2.1 u.1.2.2.2.2.2.2.2.2.2.2.2.1 u.1.2.2.2.2.2.2.2.2.2.2.2.2.1 u.1.2.2.2.2.2.2.2.2.2.2.2.2.2 u.2
abbrev loB (dC : Nat → ClassId) (dI : Nat → Nat → Nat) (A : Nat → Prop) (xh0 xh1 xh2 xh3 : Nat) (xc1 xc2 xc3 : ClassId) (oh : Nat) (oc : ClassId) (u : xWS × (Nat → Int64)) (t : State) : Prop := va_P (dC, dI) vwCl (loWU xh0 xh1 xh2 xh3 xc1 xc2 xc3 oh oc u) t.heap ∧ va_K (dC, dI) vwCl [(xc1, .int), (xc2, .int), (xc3, .int), (oc, .long)] t ∧ va_D A (loWU xh0 xh1 xh2 xh3 xc1 xc2 xc3 oh oc u)
/-- what a helper of the law makes of an answer of the class -/
def gX (f : Int32 × Int32 × xWS) (ov : Nat → Int64) : Int32 × xWS × (Nat → Int64) := (f.1, f.2.2, if f.1 = 0 then vp_updL ov (0 : Int32).toNatClampNeg f.2.1.toInt64 else ov)
def gY (f : Int32 × Int32 × xWS) : Int32 × xWS := (f.1, f.2.2)
abbrev wsL_begin : List Cond := .codeWith yL_begin cL_begin 6 (some .int) [(0, 9, 12, 13)] :: wG
set_option maxHeartbeats 4000000 in
set_option maxRecDepth 100000 in
theorem mL_begin (l : Launch) (hl9 : l.stackTraces = false) (dC : Nat → ClassId) (dI : Nat → Nat → Nat) (xh0 xh1 xh2 xh3 : Nat) (sz : Nat) (xc1 xc2 xc3 : ClassId) (xk1 xk2 xk3 : Nat → Int32) (xf3 xf4 xf5 xf6 xf7 xf8 xf9 xf10 xf11 xf12 xf13 : Int32) (p0 p1 p2 p3 : Int32) (ho : p3 = 0 ∨ p3 = 1) : Met l yL_begin wsL_begin ({ frames := 7, cells := 1, slots := 6, locals := 106 }) (va_Pc [.ref xh0, .int p0, .int p1, .int p2, .int p3] (fun U => U.heap.size = sz ∧ va_P (dC, dI) vwCl (xW xh0 xh1 xh2 xh3 xc1 xc2 xc3 xk1 xk2 xk3 xf3 xf4 xf5 xf6 xf7 xf8 xf9 xf10 xf11 xf12 xf13) U.heap ∧ va_K (dC, dI) vwCl [(xc1, .int), (xc2, .int), (xc3, .int)] U ∧ va_D (fun _ => True) (xW xh0 xh1 xh2 xh3 xc1 xc2 xc3 xk1 xk2 xk3 xf3 xf4 xf5 xf6 xf7 xf8 xf9 xf10 xf11 xf12 xf13) ∧ xZ (va_A (xW xh0 xh1 xh2 xh3 xc1 xc2 xc3 xk1 xk2 xk3 xf3 xf4 xf5 xf6 xf7 xf8 xf9 xf10 xf11 xf12 xf13) sz) U U.heap)) (va_Qi (fun r u => (r, u) = gY (fX0_begin xk1 xk2 xk3 xf3 xf4 xf5 xf6 xf7 xf8 xf9 xf10 xf11 xf12 xf13 p0 p1 p2 p3)) (xWB dC dI (va_A (xW xh0 xh1 xh2 xh3 xc1 xc2 xc3 xk1 xk2 xk3 xf3 xf4 xf5 xf6 xf7 xf8 xf9 xf10 xf11 xf12 xf13) sz) xh0 xh1 xh2 xh3 xc1 xc2 xc3) (va_A (xW xh0 xh1 xh2 xh3 xc1 xc2 xc3 xk1 xk2 xk3 xf3 xf4 xf5 xf6 xf7 xf8 xf9 xf10 xf11 xf12 xf13) sz)) 1 6 (va_A (xW xh0 xh1 xh2 xh3 xc1 xc2 xc3 xk1 xk2 xk3 xf3 xf4 xf5 xf6 xf7 xf8 xf9 xf10 xf11 xf12 xf13) sz) := by
  refine va_MetW (cc := cL_begin) (maxL := 6) (ret := (some .int)) (by decide) rfl ?_
  intro p e s m args below meth c s₁ B hml hv
  obtain ⟨rfl, hsz, hP, hK, hD0, hZ⟩ := hv
  have hx := B.exec
  have hb := B.bytes
  have hr := B.returns
  have hts := atoms_spec (ws := wsL_begin) B.pre
  have htG := fun (w : Cond) (h : w ∈ wG) => hts w (List.mem_cons_of_mem _ h)
  have hown : s.vm.findClass RL = some m.cls := findClass_of_methodNamed B.named
  have hlocks := B.notSynchronized
  have hTab : c.exceptionTable.toList = tableOf [(0, 9, 12, 13)] := vx_table (x := yL_begin) B (hts _ List.mem_cons_self)
  subst hsz
  have hD := hD0.self (sz := s.heap.size)
  generalize hAe : va_A (xW xh0 xh1 xh2 xh3 xc1 xc2 xc3 xk1 xk2 xk3 xf3 xf4 xf5 xf6 xf7 xf8 xf9 xf10 xf11 xf12 xf13) s.heap.size = A at hD hZ ⊢
  have hA : ∀ q : Nat, s.heap.size ≤ q → A q := fun q h => by rw [← hAe]; exact Or.inr h
  have hS : va_S A s.heap s.heap [] := va_S.rf
  have hP : va_P (dC, dI) vwCl (xW xh0 xh1 xh2 xh3 xc1 xc2 xc3 xk1 xk2 xk3 xf3 xf4 xf5 xf6 xf7 xf8 xf9 xf10 xf11 xf12 xf13) s.heap := hP
  have hl := lv_entry ([.ref xh0, .int p0, .int p1, .int p2, .int p3]) (n := 6) (Nat.le_of_ble_eq_true rfl)
  rw [lg_entry_eq]
  generalize (lg_sl ([.ref xh0, .int p0, .int p1, .int p2, .int p3]) ++ List.replicate (6 - (lg_sl ([.ref xh0, .int p0, .int p1, .int p2, .int p3])).length) Slot.unset).toArray = ls at hl ⊢
  have hl : lv_has ls 6 [(0, .ref xh0), (1, .int p0), (2, .int p1), (3, .int p2), (4, .int p3)] := hl
  refine lv_aload_n hx hb dL_begin_0 rfl (lv_at hl 0 rfl) ?_
  refine lv_iload_n hx hb dL_begin_1 rfl (lv_at hl 1 rfl) ?_
  refine lv_iload_n hx hb dL_begin_2 rfl (lv_at hl 2 rfl) ?_
  refine lv_iload_n hx hb dL_begin_3 rfl (lv_at hl 3 rfl) ?_
  refine lv_iload hx hb dL_begin_4 (lv_at hl 4 rfl) ?_
  have hPc := hP.sub (ws' := (xW xh0 xh1 xh2 xh3 xc1 xc2 xc3 xk1 xk2 xk3 xf3 xf4 xf5 xf6 xf7 xf8 xf9 xf10 xf11 xf12 xf13)) [0, 1, 2, 3] rfl
  have hDc := hD.sub (ws' := (xW xh0 xh1 xh2 xh3 xc1 xc2 xc3 xk1 xk2 xk3 xf3 xf4 xf5 xf6 xf7 xf8 xf9 xf10 xf11 xf12 xf13)) [0, 1, 2, 3] (by decide) rfl
  have hKc := hK.sub (tys' := [(xc1, .int), (xc2, .int), (xc3, .int)]) [0, 1, 2] rfl
  have hFc := va_free (wc := (xW xh0 xh1 xh2 xh3 xc1 xc2 xc3 xk1 xk2 xk3 xf3 xf4 xf5 xf6 xf7 xf8 xf9 xf10 xf11 xf12 xf13)) hD hS hA [0, 1, 2, 3] rfl
  refine vx_callv (vx_runV (As := [.int p0, .int p1, .int p2, .int p3]) (rest := []) ⟨hx, hb, hml, hown, htG⟩ (mX0_begin l hl9 dC dI xh0 xh1 xh2 xh3 s.heap.size xc1 xc2 xc3 xk1 xk2 xk3 xf3 xf4 xf5 xf6 xf7 xf8 xf9 xf10 xf11 xf12 xf13 p0 p1 p2 p3 ho) (cwV 4 htG (wG_V wd_106 wd_107 wd_108 wd_22 wd_109) rfl rfl rfl (by decide +kernel) ⟨Nat.le_of_ble_eq_true rfl, Nat.le_of_ble_eq_true rfl⟩) ⟨fun a U g mk q => by obtain ⟨q0, q1, qP, qK, qD, qZ⟩ := q; exact ⟨q0, q1, qP, va_K.moved (u := U) (U := U.calling g mk a) (Vm.Alike.refl U.vm) qK, qD, qZ.blind⟩, va_recv hKc hPc (ci := 0) (q0 := 0) rfl rfl, fun U hU hW => ⟨rfl, by rw [hU], by rw [hU]; exact hPc, va_K.moved hW.alike hKc, hDc.weaken (fun _ _ _ _ => trivial), xZ.pass hZ hS hW hU hFc⟩⟩ rfl rfl hl.1 rfl (lv_room (Nat.le_of_ble_eq_true rfl)) dL_begin_6 ⟨Nat.le_of_ble_eq_true rfl, Nat.le_of_ble_eq_true rfl⟩) hS (fun q _ h => hFc q h) hFc (fun q _ h => hFc q h) (fun E ce q9 u t H1 locs ht hvm hw hB hz1 hk1 hS hce hcv hcl => ?_) (fun u t H1 locs ht hvm hw hB hz1 hk1 hS => ?_)
  · obtain ⟨hE, hP1, hK1, hD1⟩ := hB
    rw [ht] at hP1
    obtain ⟨hP, hD⟩ := va_join (wr := []) (w1 := (xW xh0 xh1 xh2 xh3 xc1 xc2 xc3 xk1 xk2 xk3 xf3 xf4 xf5 xf6 xf7 xf8 xf9 xf10 xf11 xf12 xf13)) hP hD [0, 1, 2, 3] [] rfl rfl (by decide) (by decide) hk1 hFc hP1 hD1
    have hP : va_P (dC, dI) vwCl (xW xh0 xh1 xh2 xh3 xc1 xc2 xc3 xk1 xk2 xk3 xf3 xf4 xf5 xf6 xf7 xf8 xf9 xf10 xf11 xf12 xf13) H1 := hP
    have hD : va_D A (xW xh0 xh1 xh2 xh3 xc1 xc2 xc3 xk1 xk2 xk3 xf3 xf4 xf5 xf6 xf7 xf8 xf9 xf10 xf11 xf12 xf13) := hD
    obtain ⟨rfl, hf⟩ := hE
    refine vx_catch (own := RL) (name := "java/lang/IllegalArgumentException") (E := "java/lang/IllegalArgumentException") hown [] ⟨0, 9, 12, 13⟩ [] (by rw [hTab]; rfl) (fun z hz => nomatch hz) (by decide) (by decide) (htG _ wd_105) (va_Nw.use rfl hZ.2.2.1.1) hce hcv hcl ?_
    refine lv_astore (lv' := [(5, .ref q9), (0, .ref xh0), (1, .int p0), (2, .int p1), (3, .int p2), (4, .int p3)]) hx hb dL_begin_12 hl (by decide) rfl (fun ls hl => ?_)
    refine lv_iconst (v := 1) hx hb dL_begin_14 (by decide) ?_
    refine W.widen (k := 1) (n := 6) (Nat.le_of_ble_eq_true rfl) (Nat.le_of_ble_eq_true rfl) ?_
    exact W.iret (v := 1) hx hb hr (fun t ht hW => ⟨⟨1, (xk1, xk2, xk3, xf3, xf4, xf5, xf6, xf7, xf8, xf9, xf10, xf11, xf12, xf13), rfl, (by rw [hf, gY]), by rw [ht]; exact hP, va_K.moved hW.alike hK, hD⟩, hS.F ht⟩) hS.2.2 dL_begin_15
  · obtain ⟨hP1, hK1, hD1⟩ := hB
    rw [ht] at hP1
    obtain ⟨hP, hD⟩ := va_join (wr := []) (w1 := (xW xh0 xh1 xh2 xh3 xc1 xc2 xc3 u.1 u.2.1 u.2.2.1 u.2.2.2.1 u.2.2.2.2.1 u.2.2.2.2.2.1 u.2.2.2.2.2.2.1 u.2.2.2.2.2.2.2.1 u.2.2.2.2.2.2.2.2.1 u.2.2.2.2.2.2.2.2.2.1 u.2.2.2.2.2.2.2.2.2.2.1 u.2.2.2.2.2.2.2.2.2.2.2.1 u.2.2.2.2.2.2.2.2.2.2.2.2.1 u.2.2.2.2.2.2.2.2.2.2.2.2.2)) hP hD [0, 1, 2, 3] [] rfl rfl (by decide) (by decide) hk1 hFc hP1 hD1
    have hP : va_P (dC, dI) vwCl (xW xh0 xh1 xh2 xh3 xc1 xc2 xc3 u.1 u.2.1 u.2.2.1 u.2.2.2.1 u.2.2.2.2.1 u.2.2.2.2.2.1 u.2.2.2.2.2.2.1 u.2.2.2.2.2.2.2.1 u.2.2.2.2.2.2.2.2.1 u.2.2.2.2.2.2.2.2.2.1 u.2.2.2.2.2.2.2.2.2.2.1 u.2.2.2.2.2.2.2.2.2.2.2.1 u.2.2.2.2.2.2.2.2.2.2.2.2.1 u.2.2.2.2.2.2.2.2.2.2.2.2.2) H1 := hP
    have hD : va_D A (xW xh0 xh1 xh2 xh3 xc1 xc2 xc3 u.1 u.2.1 u.2.2.1 u.2.2.2.1 u.2.2.2.2.1 u.2.2.2.2.2.1 u.2.2.2.2.2.2.1 u.2.2.2.2.2.2.2.1 u.2.2.2.2.2.2.2.2.1 u.2.2.2.2.2.2.2.2.2.1 u.2.2.2.2.2.2.2.2.2.2.1 u.2.2.2.2.2.2.2.2.2.2.2.1 u.2.2.2.2.2.2.2.2.2.2.2.2.1 u.2.2.2.2.2.2.2.2.2.2.2.2.2) := hD
    generalize H1 = H at hP hS ⊢
    refine lv_goto (tgt := 16) hx hb dL_begin_9 (by decide) ?_
    refine lv_iconst (v := 0) hx hb dL_begin_16 (by decide) ?_
    refine W.widen (k := 1) (n := 6) (Nat.le_of_ble_eq_true rfl) (Nat.le_of_ble_eq_true rfl) ?_
    exact W.iret (v := 0) hx hb hr (fun t ht hW => ⟨⟨0, u, rfl, (by rw [← hw, gY]), by rw [ht]; exact hP, va_K.moved hW.alike hK, hD⟩, hS.F ht⟩) hS.2.2 dL_begin_17
abbrev wsL_add : List Cond := .codeWith yL_add cL_add 6 (some .int) [(0, 12, 15, 13), (0, 12, 19, 19)] :: wG
set_option maxHeartbeats 4000000 in
set_option maxRecDepth 100000 in
theorem mL_add (l : Launch) (hl9 : l.stackTraces = false) (dC : Nat → ClassId) (dI : Nat → Nat → Nat) (xh0 xh1 xh2 xh3 oh : Nat) (sz : Nat) (xc1 xc2 xc3 oc : ClassId) (xk1 xk2 xk3 : Nat → Int32) (xf3 xf4 xf5 xf6 xf7 xf8 xf9 xf10 xf11 xf12 xf13 : Int32) (ov : Nat → Int64) (p0 p1 p2 : Int32)  : Met l yL_add wsL_add ({ frames := 7, cells := 1, slots := 6, locals := 108 }) (va_Pc [.ref xh0, .int p0, .int p1, .int p2, .ref oh] (fun U => U.heap.size = sz ∧ va_P (dC, dI) vwCl (loW xh0 xh1 xh2 xh3 xc1 xc2 xc3 oh oc xk1 xk2 xk3 xf3 xf4 xf5 xf6 xf7 xf8 xf9 xf10 xf11 xf12 xf13 ov) U.heap ∧ va_K (dC, dI) vwCl [(xc1, .int), (xc2, .int), (xc3, .int), (oc, .long)] U ∧ va_D (fun _ => True) (loW xh0 xh1 xh2 xh3 xc1 xc2 xc3 oh oc xk1 xk2 xk3 xf3 xf4 xf5 xf6 xf7 xf8 xf9 xf10 xf11 xf12 xf13 ov) ∧ xZ (va_A (loW xh0 xh1 xh2 xh3 xc1 xc2 xc3 oh oc xk1 xk2 xk3 xf3 xf4 xf5 xf6 xf7 xf8 xf9 xf10 xf11 xf12 xf13 ov) sz) U U.heap ∧ va_Nc "java/lang/IllegalStateException" "java/lang/IllegalArgumentException" U)) (va_Qi (fun r u => (r, u) = gX (fX0_add xk1 xk2 xk3 xf3 xf4 xf5 xf6 xf7 xf8 xf9 xf10 xf11 xf12 xf13 p0 p1 p2) ov) (loB dC dI (va_A (loW xh0 xh1 xh2 xh3 xc1 xc2 xc3 oh oc xk1 xk2 xk3 xf3 xf4 xf5 xf6 xf7 xf8 xf9 xf10 xf11 xf12 xf13 ov) sz) xh0 xh1 xh2 xh3 xc1 xc2 xc3 oh oc) (va_A (loW xh0 xh1 xh2 xh3 xc1 xc2 xc3 oh oc xk1 xk2 xk3 xf3 xf4 xf5 xf6 xf7 xf8 xf9 xf10 xf11 xf12 xf13 ov) sz)) 1 6 (va_A (loW xh0 xh1 xh2 xh3 xc1 xc2 xc3 oh oc xk1 xk2 xk3 xf3 xf4 xf5 xf6 xf7 xf8 xf9 xf10 xf11 xf12 xf13 ov) sz) := by
  refine va_MetW (cc := cL_add) (maxL := 6) (ret := (some .int)) (by decide) rfl ?_
  intro p e s m args below meth c s₁ B hml hv
  obtain ⟨rfl, hsz, hP, hK, hD0, hZ, hNc⟩ := hv
  have hx := B.exec
  have hb := B.bytes
  have hr := B.returns
  have hts := atoms_spec (ws := wsL_add) B.pre
  have htG := fun (w : Cond) (h : w ∈ wG) => hts w (List.mem_cons_of_mem _ h)
  have hown : s.vm.findClass RL = some m.cls := findClass_of_methodNamed B.named
  have hlocks := B.notSynchronized
  have hTab : c.exceptionTable.toList = tableOf [(0, 12, 15, 13), (0, 12, 19, 19)] := vx_table (x := yL_add) B (hts _ List.mem_cons_self)
  subst hsz
  have hD := hD0.self (sz := s.heap.size)
  generalize hAe : va_A (loW xh0 xh1 xh2 xh3 xc1 xc2 xc3 oh oc xk1 xk2 xk3 xf3 xf4 xf5 xf6 xf7 xf8 xf9 xf10 xf11 xf12 xf13 ov) s.heap.size = A at hD hZ ⊢
  have hA : ∀ q : Nat, s.heap.size ≤ q → A q := fun q h => by rw [← hAe]; exact Or.inr h
  have hS : va_S A s.heap s.heap [] := va_S.rf
  have hP : va_P (dC, dI) vwCl (loW xh0 xh1 xh2 xh3 xc1 xc2 xc3 oh oc xk1 xk2 xk3 xf3 xf4 xf5 xf6 xf7 xf8 xf9 xf10 xf11 xf12 xf13 ov) s.heap := hP
  have hl := lv_entry ([.ref xh0, .int p0, .int p1, .int p2, .ref oh]) (n := 6) (Nat.le_of_ble_eq_true rfl)
  rw [lg_entry_eq]
  generalize (lg_sl ([.ref xh0, .int p0, .int p1, .int p2, .ref oh]) ++ List.replicate (6 - (lg_sl ([.ref xh0, .int p0, .int p1, .int p2, .ref oh])).length) Slot.unset).toArray = ls at hl ⊢
  have hl : lv_has ls 6 [(0, .ref xh0), (1, .int p0), (2, .int p1), (3, .int p2), (4, .ref oh)] := hl
  refine lv_aload hx hb dL_add_0 (lv_at hl 4 rfl) ?_
  refine lv_iconst (v := 0) hx hb dL_add_2 (by decide) ?_
  refine lv_aload_n hx hb dL_add_3 rfl (lv_at hl 0 rfl) ?_
  refine lv_iload_n hx hb dL_add_4 rfl (lv_at hl 1 rfl) ?_
  refine lv_iload_n hx hb dL_add_5 rfl (lv_at hl 2 rfl) ?_
  refine lv_iload_n hx hb dL_add_6 rfl (lv_at hl 3 rfl) ?_
  have hPc := hP.sub (ws' := (xW xh0 xh1 xh2 xh3 xc1 xc2 xc3 xk1 xk2 xk3 xf3 xf4 xf5 xf6 xf7 xf8 xf9 xf10 xf11 xf12 xf13)) [0, 1, 2, 3] rfl
  have hDc := hD.sub (ws' := (xW xh0 xh1 xh2 xh3 xc1 xc2 xc3 xk1 xk2 xk3 xf3 xf4 xf5 xf6 xf7 xf8 xf9 xf10 xf11 xf12 xf13)) [0, 1, 2, 3] (by decide) rfl
  have hKc := hK.sub (tys' := [(xc1, .int), (xc2, .int), (xc3, .int)]) [0, 1, 2] rfl
  have hFc := va_free (wc := (xW xh0 xh1 xh2 xh3 xc1 xc2 xc3 xk1 xk2 xk3 xf3 xf4 xf5 xf6 xf7 xf8 xf9 xf10 xf11 xf12 xf13)) hD hS hA [0, 1, 2, 3] rfl
  refine vx_calli (vx_runV (As := [.int p0, .int p1, .int p2]) (rest := [.int 0, .ref oh]) ⟨hx, hb, hml, hown, htG⟩ (mX0_add l hl9 dC dI xh0 xh1 xh2 xh3 s.heap.size xc1 xc2 xc3 xk1 xk2 xk3 xf3 xf4 xf5 xf6 xf7 xf8 xf9 xf10 xf11 xf12 xf13 p0 p1 p2) (cwV 3 htG (wG_V wd_187 wd_188 wd_189 wd_22 wd_190) rfl rfl rfl (by decide +kernel) ⟨Nat.le_of_ble_eq_true rfl, Nat.le_of_ble_eq_true rfl⟩) ⟨fun a U g mk q => by obtain ⟨q0, q1, qP, qK, qD, qZ⟩ := q; exact ⟨q0, q1, qP, va_K.moved (u := U) (U := U.calling g mk a) (Vm.Alike.refl U.vm) qK, qD, qZ.blind⟩, va_recv hKc hPc (ci := 0) (q0 := 0) rfl rfl, fun U hU hW => ⟨rfl, by rw [hU], by rw [hU]; exact hPc, va_K.moved hW.alike hKc, hDc.weaken (fun _ _ _ _ => trivial), xZ.pass hZ hS hW hU hFc⟩⟩ rfl rfl hl.1 rfl (lv_room (Nat.le_of_ble_eq_true rfl)) dL_add_7 ⟨Nat.le_of_ble_eq_true rfl, Nat.le_of_ble_eq_true rfl⟩) hS (fun q _ h => hFc q h) hFc (fun q _ h => hFc q h) (fun E ce q9 u t H1 locs ht hvm hw hB hz1 hk1 hS hce hcv hcl => ?_) (fun r_1 u t H1 locs ht hvm hw hB hz1 hk1 hS => ?_)
  · obtain ⟨hE, hP1, hK1, hD1⟩ := hB
    rw [ht] at hP1
    obtain ⟨hP, hD⟩ := va_join (wr := [(oh, .inl (oc, 1, .inr (.inl ov)))]) (w1 := (xW xh0 xh1 xh2 xh3 xc1 xc2 xc3 xk1 xk2 xk3 xf3 xf4 xf5 xf6 xf7 xf8 xf9 xf10 xf11 xf12 xf13)) hP hD [0, 1, 2, 3] [4] rfl rfl (by decide) (by decide) hk1 hFc hP1 hD1
    have hP := hP.sub (ws' := (loW xh0 xh1 xh2 xh3 xc1 xc2 xc3 oh oc xk1 xk2 xk3 xf3 xf4 xf5 xf6 xf7 xf8 xf9 xf10 xf11 xf12 xf13 ov)) [1, 2, 3, 4, 0] rfl
    have hD := hD.sub (ws' := (loW xh0 xh1 xh2 xh3 xc1 xc2 xc3 oh oc xk1 xk2 xk3 xf3 xf4 xf5 xf6 xf7 xf8 xf9 xf10 xf11 xf12 xf13 ov)) [1, 2, 3, 4, 0] (by decide) rfl
    rcases hE with ⟨rfl, hf⟩ | ⟨rfl, hf⟩
    · refine vx_catch (own := RL) (name := "java/lang/IllegalArgumentException") (E := "java/lang/IllegalArgumentException") hown [] ⟨0, 12, 15, 13⟩ [⟨0, 12, 19, 19⟩] (by rw [hTab]; rfl) (fun z hz => nomatch hz) (by decide) (by decide) (htG _ wd_105) (va_Nw.use rfl hZ.2.2.1.1) hce hcv hcl ?_
      refine lv_astore (lv' := [(5, .ref q9), (0, .ref xh0), (1, .int p0), (2, .int p1), (3, .int p2), (4, .ref oh)]) hx hb dL_add_15 hl (by decide) rfl (fun ls hl => ?_)
      refine lv_iconst (v := 1) hx hb dL_add_17 (by decide) ?_
      refine W.widen (k := 1) (n := 6) (Nat.le_of_ble_eq_true rfl) (Nat.le_of_ble_eq_true rfl) ?_
      exact W.iret (v := 1) hx hb hr (fun t ht hW => ⟨⟨1, ((xk1, xk2, xk3, xf3, xf4, xf5, xf6, xf7, xf8, xf9, xf10, xf11, xf12, xf13), ov), rfl, (by rw [hf, gX, if_neg n10]), by rw [ht]; exact hP, va_K.moved hW.alike hK, hD⟩, hS.F ht⟩) hS.2.2 dL_add_18
    · refine vx_catch (own := RL) (name := "java/lang/IllegalStateException") (E := "java/lang/IllegalStateException") hown [⟨0, 12, 15, 13⟩] ⟨0, 12, 19, 19⟩ [] (by rw [hTab]; rfl) (fun z hz => by
            rcases List.mem_cons.mp hz with rfl | hz
            · exact Or.inr ⟨by decide, "java/lang/IllegalArgumentException", htG _ wd_105, hNc⟩
            · cases hz) (by decide) (by decide) (htG _ wd_186) (va_Nw.use rfl hZ.2.2.1.2.2.2.2.1) hce hcv hcl ?_
      refine lv_astore (lv' := [(5, .ref q9), (0, .ref xh0), (1, .int p0), (2, .int p1), (3, .int p2), (4, .ref oh)]) hx hb dL_add_19 hl (by decide) rfl (fun ls hl => ?_)
      refine lv_iconst (v := 2) hx hb dL_add_21 (by decide) ?_
      refine W.widen (k := 1) (n := 6) (Nat.le_of_ble_eq_true rfl) (Nat.le_of_ble_eq_true rfl) ?_
      exact W.iret (v := 2) hx hb hr (fun t ht hW => ⟨⟨2, ((xk1, xk2, xk3, xf3, xf4, xf5, xf6, xf7, xf8, xf9, xf10, xf11, xf12, xf13), ov), rfl, (by rw [hf, gX, if_neg n20]), by rw [ht]; exact hP, va_K.moved hW.alike hK, hD⟩, hS.F ht⟩) hS.2.2 dL_add_22
  · obtain ⟨hP1, hK1, hD1⟩ := hB
    rw [ht] at hP1
    obtain ⟨hP, hD⟩ := va_join (wr := [(oh, .inl (oc, 1, .inr (.inl ov)))]) (w1 := (xW xh0 xh1 xh2 xh3 xc1 xc2 xc3 u.1 u.2.1 u.2.2.1 u.2.2.2.1 u.2.2.2.2.1 u.2.2.2.2.2.1 u.2.2.2.2.2.2.1 u.2.2.2.2.2.2.2.1 u.2.2.2.2.2.2.2.2.1 u.2.2.2.2.2.2.2.2.2.1 u.2.2.2.2.2.2.2.2.2.2.1 u.2.2.2.2.2.2.2.2.2.2.2.1 u.2.2.2.2.2.2.2.2.2.2.2.2.1 u.2.2.2.2.2.2.2.2.2.2.2.2.2)) hP hD [0, 1, 2, 3] [4] rfl rfl (by decide) (by decide) hk1 hFc hP1 hD1
    have hP := hP.sub (ws' := (loW xh0 xh1 xh2 xh3 xc1 xc2 xc3 oh oc u.1 u.2.1 u.2.2.1 u.2.2.2.1 u.2.2.2.2.1 u.2.2.2.2.2.1 u.2.2.2.2.2.2.1 u.2.2.2.2.2.2.2.1 u.2.2.2.2.2.2.2.2.1 u.2.2.2.2.2.2.2.2.2.1 u.2.2.2.2.2.2.2.2.2.2.1 u.2.2.2.2.2.2.2.2.2.2.2.1 u.2.2.2.2.2.2.2.2.2.2.2.2.1 u.2.2.2.2.2.2.2.2.2.2.2.2.2 ov)) [1, 2, 3, 4, 0] rfl
    have hD := hD.sub (ws' := (loW xh0 xh1 xh2 xh3 xc1 xc2 xc3 oh oc u.1 u.2.1 u.2.2.1 u.2.2.2.1 u.2.2.2.2.1 u.2.2.2.2.2.1 u.2.2.2.2.2.2.1 u.2.2.2.2.2.2.2.1 u.2.2.2.2.2.2.2.2.1 u.2.2.2.2.2.2.2.2.2.1 u.2.2.2.2.2.2.2.2.2.2.1 u.2.2.2.2.2.2.2.2.2.2.2.1 u.2.2.2.2.2.2.2.2.2.2.2.2.1 u.2.2.2.2.2.2.2.2.2.2.2.2.2 ov)) [1, 2, 3, 4, 0] (by decide) rfl
    generalize H1 = H at hP hS ⊢
    refine lv_i2l hx hb dL_add_10 rfl ?_
    refine va_last hx hb hK hP hD hS 4 3 rfl rfl in_01 dL_add_11 (fun H locs hP hD hS => ?_)
    have hP : va_P (dC, dI) vwCl (loW xh0 xh1 xh2 xh3 xc1 xc2 xc3 oh oc u.1 u.2.1 u.2.2.1 u.2.2.2.1 u.2.2.2.2.1 u.2.2.2.2.2.1 u.2.2.2.2.2.2.1 u.2.2.2.2.2.2.2.1 u.2.2.2.2.2.2.2.2.1 u.2.2.2.2.2.2.2.2.2.1 u.2.2.2.2.2.2.2.2.2.2.1 u.2.2.2.2.2.2.2.2.2.2.2.1 u.2.2.2.2.2.2.2.2.2.2.2.2.1 u.2.2.2.2.2.2.2.2.2.2.2.2.2 (vp_updL ov (0 : Int32).toNatClampNeg r_1.toInt64)) H := hP
    have hD : va_D A (loW xh0 xh1 xh2 xh3 xc1 xc2 xc3 oh oc u.1 u.2.1 u.2.2.1 u.2.2.2.1 u.2.2.2.2.1 u.2.2.2.2.2.1 u.2.2.2.2.2.2.1 u.2.2.2.2.2.2.2.1 u.2.2.2.2.2.2.2.2.1 u.2.2.2.2.2.2.2.2.2.1 u.2.2.2.2.2.2.2.2.2.2.1 u.2.2.2.2.2.2.2.2.2.2.2.1 u.2.2.2.2.2.2.2.2.2.2.2.2.1 u.2.2.2.2.2.2.2.2.2.2.2.2.2 (vp_updL ov (0 : Int32).toNatClampNeg r_1.toInt64)) := hD
    refine lv_goto (tgt := 23) hx hb dL_add_12 (by decide) ?_
    refine lv_iconst (v := 0) hx hb dL_add_23 (by decide) ?_
    refine W.widen (k := 1) (n := 6) (Nat.le_of_ble_eq_true rfl) (Nat.le_of_ble_eq_true rfl) ?_
    exact W.iret (v := 0) hx hb hr (fun t ht hW => ⟨⟨0, (u, (vp_updL ov (0 : Int32).toNatClampNeg r_1.toInt64)), rfl, (by rw [← hw, gX, if_pos rfl]), by rw [ht]; exact hP, va_K.moved hW.alike hK, hD⟩, hS.F ht⟩) hS.2.2 dL_add_24
abbrev wsL_where : List Cond := .codeWith yL_where cL_where 5 (some .int) [(0, 10, 13, 25)] :: wG
set_option maxHeartbeats 4000000 in
set_option maxRecDepth 100000 in
theorem mL_where (l : Launch) (hl9 : l.stackTraces = false) (dC : Nat → ClassId) (dI : Nat → Nat → Nat) (xh0 xh1 xh2 xh3 oh : Nat) (sz : Nat) (xc1 xc2 xc3 oc : ClassId) (xk1 xk2 xk3 : Nat → Int32) (xf3 xf4 xf5 xf6 xf7 xf8 xf9 xf10 xf11 xf12 xf13 : Int32) (ov : Nat → Int64) (p0 p1 : Int32)  : Met l yL_where wsL_where ({ frames := 7, cells := 1, slots := 6, locals := 108 }) (va_Pc [.ref xh0, .int p0, .int p1, .ref oh] (fun U => U.heap.size = sz ∧ va_P (dC, dI) vwCl (loW xh0 xh1 xh2 xh3 xc1 xc2 xc3 oh oc xk1 xk2 xk3 xf3 xf4 xf5 xf6 xf7 xf8 xf9 xf10 xf11 xf12 xf13 ov) U.heap ∧ va_K (dC, dI) vwCl [(xc1, .int), (xc2, .int), (xc3, .int), (oc, .long)] U ∧ va_D (fun _ => True) (loW xh0 xh1 xh2 xh3 xc1 xc2 xc3 oh oc xk1 xk2 xk3 xf3 xf4 xf5 xf6 xf7 xf8 xf9 xf10 xf11 xf12 xf13 ov) ∧ xZ (va_A (loW xh0 xh1 xh2 xh3 xc1 xc2 xc3 oh oc xk1 xk2 xk3 xf3 xf4 xf5 xf6 xf7 xf8 xf9 xf10 xf11 xf12 xf13 ov) sz) U U.heap)) (va_Qi (fun r u => (r, u) = gX (fX0_where xk1 xk2 xk3 xf3 xf4 xf5 xf6 xf7 xf8 xf9 xf10 xf11 xf12 xf13 p0 p1) ov) (loB dC dI (va_A (loW xh0 xh1 xh2 xh3 xc1 xc2 xc3 oh oc xk1 xk2 xk3 xf3 xf4 xf5 xf6 xf7 xf8 xf9 xf10 xf11 xf12 xf13 ov) sz) xh0 xh1 xh2 xh3 xc1 xc2 xc3 oh oc) (va_A (loW xh0 xh1 xh2 xh3 xc1 xc2 xc3 oh oc xk1 xk2 xk3 xf3 xf4 xf5 xf6 xf7 xf8 xf9 xf10 xf11 xf12 xf13 ov) sz)) 1 6 (va_A (loW xh0 xh1 xh2 xh3 xc1 xc2 xc3 oh oc xk1 xk2 xk3 xf3 xf4 xf5 xf6 xf7 xf8 xf9 xf10 xf11 xf12 xf13 ov) sz) := by
  refine va_MetW (cc := cL_where) (maxL := 5) (ret := (some .int)) (by decide) rfl ?_
  intro p e s m args below meth c s₁ B hml hv
  obtain ⟨rfl, hsz, hP, hK, hD0, hZ⟩ := hv
  have hx := B.exec
  have hb := B.bytes
  have hr := B.returns
  have hts := atoms_spec (ws := wsL_where) B.pre
  have htG := fun (w : Cond) (h : w ∈ wG) => hts w (List.mem_cons_of_mem _ h)
  have hown : s.vm.findClass RL = some m.cls := findClass_of_methodNamed B.named
  have hlocks := B.notSynchronized
  have hTab : c.exceptionTable.toList = tableOf [(0, 10, 13, 25)] := vx_table (x := yL_where) B (hts _ List.mem_cons_self)
  subst hsz
  have hD := hD0.self (sz := s.heap.size)
  generalize hAe : va_A (loW xh0 xh1 xh2 xh3 xc1 xc2 xc3 oh oc xk1 xk2 xk3 xf3 xf4 xf5 xf6 xf7 xf8 xf9 xf10 xf11 xf12 xf13 ov) s.heap.size = A at hD hZ ⊢
  have hA : ∀ q : Nat, s.heap.size ≤ q → A q := fun q h => by rw [← hAe]; exact Or.inr h
  have hS : va_S A s.heap s.heap [] := va_S.rf
  have hP : va_P (dC, dI) vwCl (loW xh0 xh1 xh2 xh3 xc1 xc2 xc3 oh oc xk1 xk2 xk3 xf3 xf4 xf5 xf6 xf7 xf8 xf9 xf10 xf11 xf12 xf13 ov) s.heap := hP
  have hl := lv_entry ([.ref xh0, .int p0, .int p1, .ref oh]) (n := 5) (Nat.le_of_ble_eq_true rfl)
  rw [lg_entry_eq]
  generalize (lg_sl ([.ref xh0, .int p0, .int p1, .ref oh]) ++ List.replicate (5 - (lg_sl ([.ref xh0, .int p0, .int p1, .ref oh])).length) Slot.unset).toArray = ls at hl ⊢
  have hl : lv_has ls 5 [(0, .ref xh0), (1, .int p0), (2, .int p1), (3, .ref oh)] := hl
  refine lv_aload_n hx hb dL_where_0 rfl (lv_at hl 3 rfl) ?_
  refine lv_iconst (v := 0) hx hb dL_where_1 (by decide) ?_
  refine lv_aload_n hx hb dL_where_2 rfl (lv_at hl 0 rfl) ?_
  refine lv_iload_n hx hb dL_where_3 rfl (lv_at hl 1 rfl) ?_
  refine lv_iload_n hx hb dL_where_4 rfl (lv_at hl 2 rfl) ?_
  have hPc := hP.sub (ws' := (xW xh0 xh1 xh2 xh3 xc1 xc2 xc3 xk1 xk2 xk3 xf3 xf4 xf5 xf6 xf7 xf8 xf9 xf10 xf11 xf12 xf13)) [0, 1, 2, 3] rfl
  have hDc := hD.sub (ws' := (xW xh0 xh1 xh2 xh3 xc1 xc2 xc3 xk1 xk2 xk3 xf3 xf4 xf5 xf6 xf7 xf8 xf9 xf10 xf11 xf12 xf13)) [0, 1, 2, 3] (by decide) rfl
  have hKc := hK.sub (tys' := [(xc1, .int), (xc2, .int), (xc3, .int)]) [0, 1, 2] rfl
  have hFc := va_free (wc := (xW xh0 xh1 xh2 xh3 xc1 xc2 xc3 xk1 xk2 xk3 xf3 xf4 xf5 xf6 xf7 xf8 xf9 xf10 xf11 xf12 xf13)) hD hS hA [0, 1, 2, 3] rfl
  refine vx_calli (vx_runV (As := [.int p0, .int p1]) (rest := [.int 0, .ref oh]) ⟨hx, hb, hml, hown, htG⟩ (mX0_where l hl9 dC dI xh0 xh1 xh2 xh3 s.heap.size xc1 xc2 xc3 xk1 xk2 xk3 xf3 xf4 xf5 xf6 xf7 xf8 xf9 xf10 xf11 xf12 xf13 p0 p1) (cwV 2 htG (wG_V wd_220 wd_221 wd_222 wd_22 wd_223) rfl rfl rfl (by decide +kernel) ⟨Nat.le_of_ble_eq_true rfl, Nat.le_of_ble_eq_true rfl⟩) ⟨fun a U g mk q => by obtain ⟨q0, q1, qP, qK, qD, qZ⟩ := q; exact ⟨q0, q1, qP, va_K.moved (u := U) (U := U.calling g mk a) (Vm.Alike.refl U.vm) qK, qD, qZ.blind⟩, va_recv hKc hPc (ci := 0) (q0 := 0) rfl rfl, fun U hU hW => ⟨rfl, by rw [hU], by rw [hU]; exact hPc, va_K.moved hW.alike hKc, hDc.weaken (fun _ _ _ _ => trivial), xZ.pass hZ hS hW hU hFc⟩⟩ rfl rfl hl.1 rfl (lv_room (Nat.le_of_ble_eq_true rfl)) dL_where_5 ⟨Nat.le_of_ble_eq_true rfl, Nat.le_of_ble_eq_true rfl⟩) hS (fun q _ h => hFc q h) hFc (fun q _ h => hFc q h) (fun E ce q9 u t H1 locs ht hvm hw hB hz1 hk1 hS hce hcv hcl => ?_) (fun r_1 u t H1 locs ht hvm hw hB hz1 hk1 hS => ?_)
  · obtain ⟨hE, hP1, hK1, hD1⟩ := hB
    rw [ht] at hP1
    obtain ⟨hP, hD⟩ := va_join (wr := [(oh, .inl (oc, 1, .inr (.inl ov)))]) (w1 := (xW xh0 xh1 xh2 xh3 xc1 xc2 xc3 xk1 xk2 xk3 xf3 xf4 xf5 xf6 xf7 xf8 xf9 xf10 xf11 xf12 xf13)) hP hD [0, 1, 2, 3] [4] rfl rfl (by decide) (by decide) hk1 hFc hP1 hD1
    have hP := hP.sub (ws' := (loW xh0 xh1 xh2 xh3 xc1 xc2 xc3 oh oc xk1 xk2 xk3 xf3 xf4 xf5 xf6 xf7 xf8 xf9 xf10 xf11 xf12 xf13 ov)) [1, 2, 3, 4, 0] rfl
    have hD := hD.sub (ws' := (loW xh0 xh1 xh2 xh3 xc1 xc2 xc3 oh oc xk1 xk2 xk3 xf3 xf4 xf5 xf6 xf7 xf8 xf9 xf10 xf11 xf12 xf13 ov)) [1, 2, 3, 4, 0] (by decide) rfl
    obtain ⟨rfl, hf⟩ := hE
    refine vx_catch (own := RL) (name := "java/lang/IndexOutOfBoundsException") (E := "java/lang/IndexOutOfBoundsException") hown [] ⟨0, 10, 13, 25⟩ [] (by rw [hTab]; rfl) (fun z hz => nomatch hz) (by decide) (by decide) (htG _ wd_219) (va_Nw.use rfl hZ.2.2.1.2.2.2.2.2) hce hcv hcl ?_
    refine lv_astore (lv' := [(4, .ref q9), (0, .ref xh0), (1, .int p0), (2, .int p1), (3, .ref oh)]) hx hb dL_where_13 hl (by decide) rfl (fun ls hl => ?_)
    refine lv_iconst (v := 1) hx hb dL_where_15 (by decide) ?_
    refine W.widen (k := 1) (n := 6) (Nat.le_of_ble_eq_true rfl) (Nat.le_of_ble_eq_true rfl) ?_
    exact W.iret (v := 1) hx hb hr (fun t ht hW => ⟨⟨1, ((xk1, xk2, xk3, xf3, xf4, xf5, xf6, xf7, xf8, xf9, xf10, xf11, xf12, xf13), ov), rfl, (by rw [hf, gX, if_neg n10]), by rw [ht]; exact hP, va_K.moved hW.alike hK, hD⟩, hS.F ht⟩) hS.2.2 dL_where_16
  · obtain ⟨hP1, hK1, hD1⟩ := hB
    rw [ht] at hP1
    obtain ⟨hP, hD⟩ := va_join (wr := [(oh, .inl (oc, 1, .inr (.inl ov)))]) (w1 := (xW xh0 xh1 xh2 xh3 xc1 xc2 xc3 u.1 u.2.1 u.2.2.1 u.2.2.2.1 u.2.2.2.2.1 u.2.2.2.2.2.1 u.2.2.2.2.2.2.1 u.2.2.2.2.2.2.2.1 u.2.2.2.2.2.2.2.2.1 u.2.2.2.2.2.2.2.2.2.1 u.2.2.2.2.2.2.2.2.2.2.1 u.2.2.2.2.2.2.2.2.2.2.2.1 u.2.2.2.2.2.2.2.2.2.2.2.2.1 u.2.2.2.2.2.2.2.2.2.2.2.2.2)) hP hD [0, 1, 2, 3] [4] rfl rfl (by decide) (by decide) hk1 hFc hP1 hD1
    have hP := hP.sub (ws' := (loW xh0 xh1 xh2 xh3 xc1 xc2 xc3 oh oc u.1 u.2.1 u.2.2.1 u.2.2.2.1 u.2.2.2.2.1 u.2.2.2.2.2.1 u.2.2.2.2.2.2.1 u.2.2.2.2.2.2.2.1 u.2.2.2.2.2.2.2.2.1 u.2.2.2.2.2.2.2.2.2.1 u.2.2.2.2.2.2.2.2.2.2.1 u.2.2.2.2.2.2.2.2.2.2.2.1 u.2.2.2.2.2.2.2.2.2.2.2.2.1 u.2.2.2.2.2.2.2.2.2.2.2.2.2 ov)) [1, 2, 3, 4, 0] rfl
    have hD := hD.sub (ws' := (loW xh0 xh1 xh2 xh3 xc1 xc2 xc3 oh oc u.1 u.2.1 u.2.2.1 u.2.2.2.1 u.2.2.2.2.1 u.2.2.2.2.2.1 u.2.2.2.2.2.2.1 u.2.2.2.2.2.2.2.1 u.2.2.2.2.2.2.2.2.1 u.2.2.2.2.2.2.2.2.2.1 u.2.2.2.2.2.2.2.2.2.2.1 u.2.2.2.2.2.2.2.2.2.2.2.1 u.2.2.2.2.2.2.2.2.2.2.2.2.1 u.2.2.2.2.2.2.2.2.2.2.2.2.2 ov)) [1, 2, 3, 4, 0] (by decide) rfl
    generalize H1 = H at hP hS ⊢
    refine lv_i2l hx hb dL_where_8 rfl ?_
    refine va_last hx hb hK hP hD hS 4 3 rfl rfl in_01 dL_where_9 (fun H locs hP hD hS => ?_)
    have hP : va_P (dC, dI) vwCl (loW xh0 xh1 xh2 xh3 xc1 xc2 xc3 oh oc u.1 u.2.1 u.2.2.1 u.2.2.2.1 u.2.2.2.2.1 u.2.2.2.2.2.1 u.2.2.2.2.2.2.1 u.2.2.2.2.2.2.2.1 u.2.2.2.2.2.2.2.2.1 u.2.2.2.2.2.2.2.2.2.1 u.2.2.2.2.2.2.2.2.2.2.1 u.2.2.2.2.2.2.2.2.2.2.2.1 u.2.2.2.2.2.2.2.2.2.2.2.2.1 u.2.2.2.2.2.2.2.2.2.2.2.2.2 (vp_updL ov (0 : Int32).toNatClampNeg r_1.toInt64)) H := hP
    have hD : va_D A (loW xh0 xh1 xh2 xh3 xc1 xc2 xc3 oh oc u.1 u.2.1 u.2.2.1 u.2.2.2.1 u.2.2.2.2.1 u.2.2.2.2.2.1 u.2.2.2.2.2.2.1 u.2.2.2.2.2.2.2.1 u.2.2.2.2.2.2.2.2.1 u.2.2.2.2.2.2.2.2.2.1 u.2.2.2.2.2.2.2.2.2.2.1 u.2.2.2.2.2.2.2.2.2.2.2.1 u.2.2.2.2.2.2.2.2.2.2.2.2.1 u.2.2.2.2.2.2.2.2.2.2.2.2.2 (vp_updL ov (0 : Int32).toNatClampNeg r_1.toInt64)) := hD
    refine lv_goto (tgt := 17) hx hb dL_where_10 (by decide) ?_
    refine lv_iconst (v := 0) hx hb dL_where_17 (by decide) ?_
    refine W.widen (k := 1) (n := 6) (Nat.le_of_ble_eq_true rfl) (Nat.le_of_ble_eq_true rfl) ?_
    exact W.iret (v := 0) hx hb hr (fun t ht hW => ⟨⟨0, (u, (vp_updL ov (0 : Int32).toNatClampNeg r_1.toInt64)), rfl, (by rw [← hw, gX, if_pos rfl]), by rw [ht]; exact hP, va_K.moved hW.alike hK, hD⟩, hS.F ht⟩) hS.2.2 dL_where_18
abbrev wsL_about : List Cond := .codeWith yL_about cL_about 5 (some .int) [(0, 10, 13, 25)] :: wG
set_option maxHeartbeats 4000000 in
set_option maxRecDepth 100000 in
theorem mL_about (l : Launch) (hl9 : l.stackTraces = false) (dC : Nat → ClassId) (dI : Nat → Nat → Nat) (xh0 xh1 xh2 xh3 oh : Nat) (sz : Nat) (xc1 xc2 xc3 oc : ClassId) (xk1 xk2 xk3 : Nat → Int32) (xf3 xf4 xf5 xf6 xf7 xf8 xf9 xf10 xf11 xf12 xf13 : Int32) (ov : Nat → Int64) (p0 p1 : Int32)  : Met l yL_about wsL_about ({ frames := 7, cells := 1, slots := 6, locals := 104 }) (va_Pc [.ref xh0, .int p0, .int p1, .ref oh] (fun U => U.heap.size = sz ∧ va_P (dC, dI) vwCl (loW xh0 xh1 xh2 xh3 xc1 xc2 xc3 oh oc xk1 xk2 xk3 xf3 xf4 xf5 xf6 xf7 xf8 xf9 xf10 xf11 xf12 xf13 ov) U.heap ∧ va_K (dC, dI) vwCl [(xc1, .int), (xc2, .int), (xc3, .int), (oc, .long)] U ∧ va_D (fun _ => True) (loW xh0 xh1 xh2 xh3 xc1 xc2 xc3 oh oc xk1 xk2 xk3 xf3 xf4 xf5 xf6 xf7 xf8 xf9 xf10 xf11 xf12 xf13 ov) ∧ xZ (va_A (loW xh0 xh1 xh2 xh3 xc1 xc2 xc3 oh oc xk1 xk2 xk3 xf3 xf4 xf5 xf6 xf7 xf8 xf9 xf10 xf11 xf12 xf13 ov) sz) U U.heap)) (va_Qi (fun r u => (r, u) = gX (fX0_about xk1 xk2 xk3 xf3 xf4 xf5 xf6 xf7 xf8 xf9 xf10 xf11 xf12 xf13 p0 p1) ov) (loB dC dI (va_A (loW xh0 xh1 xh2 xh3 xc1 xc2 xc3 oh oc xk1 xk2 xk3 xf3 xf4 xf5 xf6 xf7 xf8 xf9 xf10 xf11 xf12 xf13 ov) sz) xh0 xh1 xh2 xh3 xc1 xc2 xc3 oh oc) (va_A (loW xh0 xh1 xh2 xh3 xc1 xc2 xc3 oh oc xk1 xk2 xk3 xf3 xf4 xf5 xf6 xf7 xf8 xf9 xf10 xf11 xf12 xf13 ov) sz)) 1 6 (va_A (loW xh0 xh1 xh2 xh3 xc1 xc2 xc3 oh oc xk1 xk2 xk3 xf3 xf4 xf5 xf6 xf7 xf8 xf9 xf10 xf11 xf12 xf13 ov) sz) := by
  refine va_MetW (cc := cL_about) (maxL := 5) (ret := (some .int)) (by decide) rfl ?_
  intro p e s m args below meth c s₁ B hml hv
  obtain ⟨rfl, hsz, hP, hK, hD0, hZ⟩ := hv
  have hx := B.exec
  have hb := B.bytes
  have hr := B.returns
  have hts := atoms_spec (ws := wsL_about) B.pre
  have htG := fun (w : Cond) (h : w ∈ wG) => hts w (List.mem_cons_of_mem _ h)
  have hown : s.vm.findClass RL = some m.cls := findClass_of_methodNamed B.named
  have hlocks := B.notSynchronized
  have hTab : c.exceptionTable.toList = tableOf [(0, 10, 13, 25)] := vx_table (x := yL_about) B (hts _ List.mem_cons_self)
  subst hsz
  have hD := hD0.self (sz := s.heap.size)
  generalize hAe : va_A (loW xh0 xh1 xh2 xh3 xc1 xc2 xc3 oh oc xk1 xk2 xk3 xf3 xf4 xf5 xf6 xf7 xf8 xf9 xf10 xf11 xf12 xf13 ov) s.heap.size = A at hD hZ ⊢
  have hA : ∀ q : Nat, s.heap.size ≤ q → A q := fun q h => by rw [← hAe]; exact Or.inr h
  have hS : va_S A s.heap s.heap [] := va_S.rf
  have hP : va_P (dC, dI) vwCl (loW xh0 xh1 xh2 xh3 xc1 xc2 xc3 oh oc xk1 xk2 xk3 xf3 xf4 xf5 xf6 xf7 xf8 xf9 xf10 xf11 xf12 xf13 ov) s.heap := hP
  have hl := lv_entry ([.ref xh0, .int p0, .int p1, .ref oh]) (n := 5) (Nat.le_of_ble_eq_true rfl)
  rw [lg_entry_eq]
  generalize (lg_sl ([.ref xh0, .int p0, .int p1, .ref oh]) ++ List.replicate (5 - (lg_sl ([.ref xh0, .int p0, .int p1, .ref oh])).length) Slot.unset).toArray = ls at hl ⊢
  have hl : lv_has ls 5 [(0, .ref xh0), (1, .int p0), (2, .int p1), (3, .ref oh)] := hl
  refine lv_aload_n hx hb dL_about_0 rfl (lv_at hl 3 rfl) ?_
  refine lv_iconst (v := 0) hx hb dL_about_1 (by decide) ?_
  refine lv_aload_n hx hb dL_about_2 rfl (lv_at hl 0 rfl) ?_
  refine lv_iload_n hx hb dL_about_3 rfl (lv_at hl 1 rfl) ?_
  refine lv_iload_n hx hb dL_about_4 rfl (lv_at hl 2 rfl) ?_
  have hPc := hP.sub (ws' := (xW xh0 xh1 xh2 xh3 xc1 xc2 xc3 xk1 xk2 xk3 xf3 xf4 xf5 xf6 xf7 xf8 xf9 xf10 xf11 xf12 xf13)) [0, 1, 2, 3] rfl
  have hDc := hD.sub (ws' := (xW xh0 xh1 xh2 xh3 xc1 xc2 xc3 xk1 xk2 xk3 xf3 xf4 xf5 xf6 xf7 xf8 xf9 xf10 xf11 xf12 xf13)) [0, 1, 2, 3] (by decide) rfl
  have hKc := hK.sub (tys' := [(xc1, .int), (xc2, .int), (xc3, .int)]) [0, 1, 2] rfl
  have hFc := va_free (wc := (xW xh0 xh1 xh2 xh3 xc1 xc2 xc3 xk1 xk2 xk3 xf3 xf4 xf5 xf6 xf7 xf8 xf9 xf10 xf11 xf12 xf13)) hD hS hA [0, 1, 2, 3] rfl
  refine vx_calli (vx_runV (As := [.int p0, .int p1]) (rest := [.int 0, .ref oh]) ⟨hx, hb, hml, hown, htG⟩ (mX0_about l hl9 dC dI xh0 xh1 xh2 xh3 s.heap.size xc1 xc2 xc3 xk1 xk2 xk3 xf3 xf4 xf5 xf6 xf7 xf8 xf9 xf10 xf11 xf12 xf13 p0 p1) (cwV 2 htG (wG_V wd_279 wd_280 wd_281 wd_22 wd_282) rfl rfl rfl (by decide +kernel) ⟨Nat.le_of_ble_eq_true rfl, Nat.le_of_ble_eq_true rfl⟩) ⟨fun a U g mk q => by obtain ⟨q0, q1, qP, qK, qD, qZ⟩ := q; exact ⟨q0, q1, qP, va_K.moved (u := U) (U := U.calling g mk a) (Vm.Alike.refl U.vm) qK, qD, qZ.blind⟩, va_recv hKc hPc (ci := 0) (q0 := 0) rfl rfl, fun U hU hW => ⟨rfl, by rw [hU], by rw [hU]; exact hPc, va_K.moved hW.alike hKc, hDc.weaken (fun _ _ _ _ => trivial), xZ.pass hZ hS hW hU hFc⟩⟩ rfl rfl hl.1 rfl (lv_room (Nat.le_of_ble_eq_true rfl)) dL_about_5 ⟨Nat.le_of_ble_eq_true rfl, Nat.le_of_ble_eq_true rfl⟩) hS (fun q _ h => hFc q h) hFc (fun q _ h => hFc q h) (fun E ce q9 u t H1 locs ht hvm hw hB hz1 hk1 hS hce hcv hcl => ?_) (fun r_1 u t H1 locs ht hvm hw hB hz1 hk1 hS => ?_)
  · obtain ⟨hE, hP1, hK1, hD1⟩ := hB
    rw [ht] at hP1
    obtain ⟨hP, hD⟩ := va_join (wr := [(oh, .inl (oc, 1, .inr (.inl ov)))]) (w1 := (xW xh0 xh1 xh2 xh3 xc1 xc2 xc3 xk1 xk2 xk3 xf3 xf4 xf5 xf6 xf7 xf8 xf9 xf10 xf11 xf12 xf13)) hP hD [0, 1, 2, 3] [4] rfl rfl (by decide) (by decide) hk1 hFc hP1 hD1
    have hP := hP.sub (ws' := (loW xh0 xh1 xh2 xh3 xc1 xc2 xc3 oh oc xk1 xk2 xk3 xf3 xf4 xf5 xf6 xf7 xf8 xf9 xf10 xf11 xf12 xf13 ov)) [1, 2, 3, 4, 0] rfl
    have hD := hD.sub (ws' := (loW xh0 xh1 xh2 xh3 xc1 xc2 xc3 oh oc xk1 xk2 xk3 xf3 xf4 xf5 xf6 xf7 xf8 xf9 xf10 xf11 xf12 xf13 ov)) [1, 2, 3, 4, 0] (by decide) rfl
    obtain ⟨rfl, hf⟩ := hE
    refine vx_catch (own := RL) (name := "java/lang/IndexOutOfBoundsException") (E := "java/lang/IndexOutOfBoundsException") hown [] ⟨0, 10, 13, 25⟩ [] (by rw [hTab]; rfl) (fun z hz => nomatch hz) (by decide) (by decide) (htG _ wd_219) (va_Nw.use rfl hZ.2.2.1.2.2.2.2.2) hce hcv hcl ?_
    refine lv_astore (lv' := [(4, .ref q9), (0, .ref xh0), (1, .int p0), (2, .int p1), (3, .ref oh)]) hx hb dL_about_13 hl (by decide) rfl (fun ls hl => ?_)
    refine lv_iconst (v := 1) hx hb dL_about_15 (by decide) ?_
    refine W.widen (k := 1) (n := 6) (Nat.le_of_ble_eq_true rfl) (Nat.le_of_ble_eq_true rfl) ?_
    exact W.iret (v := 1) hx hb hr (fun t ht hW => ⟨⟨1, ((xk1, xk2, xk3, xf3, xf4, xf5, xf6, xf7, xf8, xf9, xf10, xf11, xf12, xf13), ov), rfl, (by rw [hf, gX, if_neg n10]), by rw [ht]; exact hP, va_K.moved hW.alike hK, hD⟩, hS.F ht⟩) hS.2.2 dL_about_16
  · obtain ⟨hP1, hK1, hD1⟩ := hB
    rw [ht] at hP1
    obtain ⟨hP, hD⟩ := va_join (wr := [(oh, .inl (oc, 1, .inr (.inl ov)))]) (w1 := (xW xh0 xh1 xh2 xh3 xc1 xc2 xc3 u.1 u.2.1 u.2.2.1 u.2.2.2.1 u.2.2.2.2.1 u.2.2.2.2.2.1 u.2.2.2.2.2.2.1 u.2.2.2.2.2.2.2.1 u.2.2.2.2.2.2.2.2.1 u.2.2.2.2.2.2.2.2.2.1 u.2.2.2.2.2.2.2.2.2.2.1 u.2.2.2.2.2.2.2.2.2.2.2.1 u.2.2.2.2.2.2.2.2.2.2.2.2.1 u.2.2.2.2.2.2.2.2.2.2.2.2.2)) hP hD [0, 1, 2, 3] [4] rfl rfl (by decide) (by decide) hk1 hFc hP1 hD1
    have hP := hP.sub (ws' := (loW xh0 xh1 xh2 xh3 xc1 xc2 xc3 oh oc u.1 u.2.1 u.2.2.1 u.2.2.2.1 u.2.2.2.2.1 u.2.2.2.2.2.1 u.2.2.2.2.2.2.1 u.2.2.2.2.2.2.2.1 u.2.2.2.2.2.2.2.2.1 u.2.2.2.2.2.2.2.2.2.1 u.2.2.2.2.2.2.2.2.2.2.1 u.2.2.2.2.2.2.2.2.2.2.2.1 u.2.2.2.2.2.2.2.2.2.2.2.2.1 u.2.2.2.2.2.2.2.2.2.2.2.2.2 ov)) [1, 2, 3, 4, 0] rfl
    have hD := hD.sub (ws' := (loW xh0 xh1 xh2 xh3 xc1 xc2 xc3 oh oc u.1 u.2.1 u.2.2.1 u.2.2.2.1 u.2.2.2.2.1 u.2.2.2.2.2.1 u.2.2.2.2.2.2.1 u.2.2.2.2.2.2.2.1 u.2.2.2.2.2.2.2.2.1 u.2.2.2.2.2.2.2.2.2.1 u.2.2.2.2.2.2.2.2.2.2.1 u.2.2.2.2.2.2.2.2.2.2.2.1 u.2.2.2.2.2.2.2.2.2.2.2.2.1 u.2.2.2.2.2.2.2.2.2.2.2.2.2 ov)) [1, 2, 3, 4, 0] (by decide) rfl
    generalize H1 = H at hP hS ⊢
    refine lv_i2l hx hb dL_about_8 rfl ?_
    refine va_last hx hb hK hP hD hS 4 3 rfl rfl in_01 dL_about_9 (fun H locs hP hD hS => ?_)
    have hP : va_P (dC, dI) vwCl (loW xh0 xh1 xh2 xh3 xc1 xc2 xc3 oh oc u.1 u.2.1 u.2.2.1 u.2.2.2.1 u.2.2.2.2.1 u.2.2.2.2.2.1 u.2.2.2.2.2.2.1 u.2.2.2.2.2.2.2.1 u.2.2.2.2.2.2.2.2.1 u.2.2.2.2.2.2.2.2.2.1 u.2.2.2.2.2.2.2.2.2.2.1 u.2.2.2.2.2.2.2.2.2.2.2.1 u.2.2.2.2.2.2.2.2.2.2.2.2.1 u.2.2.2.2.2.2.2.2.2.2.2.2.2 (vp_updL ov (0 : Int32).toNatClampNeg r_1.toInt64)) H := hP
    have hD : va_D A (loW xh0 xh1 xh2 xh3 xc1 xc2 xc3 oh oc u.1 u.2.1 u.2.2.1 u.2.2.2.1 u.2.2.2.2.1 u.2.2.2.2.2.1 u.2.2.2.2.2.2.1 u.2.2.2.2.2.2.2.1 u.2.2.2.2.2.2.2.2.1 u.2.2.2.2.2.2.2.2.2.1 u.2.2.2.2.2.2.2.2.2.2.1 u.2.2.2.2.2.2.2.2.2.2.2.1 u.2.2.2.2.2.2.2.2.2.2.2.2.1 u.2.2.2.2.2.2.2.2.2.2.2.2.2 (vp_updL ov (0 : Int32).toNatClampNeg r_1.toInt64)) := hD
    refine lv_goto (tgt := 17) hx hb dL_about_10 (by decide) ?_
    refine lv_iconst (v := 0) hx hb dL_about_17 (by decide) ?_
    refine W.widen (k := 1) (n := 6) (Nat.le_of_ble_eq_true rfl) (Nat.le_of_ble_eq_true rfl) ?_
    exact W.iret (v := 0) hx hb hr (fun t ht hW => ⟨⟨0, (u, (vp_updL ov (0 : Int32).toNatClampNeg r_1.toInt64)), rfl, (by rw [← hw, gX, if_pos rfl]), by rw [ht]; exact hP, va_K.moved hW.alike hK, hD⟩, hS.F ht⟩) hS.2.2 dL_about_18
abbrev wsL_signature : List Cond := .codeWith yL_signature cL_signature 4 (some .int) [(0, 9, 12, 25)] :: wG
set_option maxHeartbeats 4000000 in
set_option maxRecDepth 100000 in
theorem mL_signature (l : Launch) (hl9 : l.stackTraces = false) (dC : Nat → ClassId) (dI : Nat → Nat → Nat) (xh0 xh1 xh2 xh3 oh : Nat) (sz : Nat) (xc1 xc2 xc3 oc : ClassId) (xk1 xk2 xk3 : Nat → Int32) (xf3 xf4 xf5 xf6 xf7 xf8 xf9 xf10 xf11 xf12 xf13 : Int32) (ov : Nat → Int64) (p0 : Int32)  : Met l yL_signature wsL_signature ({ frames := 7, cells := 1, slots := 6, locals := 103 }) (va_Pc [.ref xh0, .int p0, .ref oh] (fun U => U.heap.size = sz ∧ va_P (dC, dI) vwCl (loW xh0 xh1 xh2 xh3 xc1 xc2 xc3 oh oc xk1 xk2 xk3 xf3 xf4 xf5 xf6 xf7 xf8 xf9 xf10 xf11 xf12 xf13 ov) U.heap ∧ va_K (dC, dI) vwCl [(xc1, .int), (xc2, .int), (xc3, .int), (oc, .long)] U ∧ va_D (fun _ => True) (loW xh0 xh1 xh2 xh3 xc1 xc2 xc3 oh oc xk1 xk2 xk3 xf3 xf4 xf5 xf6 xf7 xf8 xf9 xf10 xf11 xf12 xf13 ov) ∧ xZ (va_A (loW xh0 xh1 xh2 xh3 xc1 xc2 xc3 oh oc xk1 xk2 xk3 xf3 xf4 xf5 xf6 xf7 xf8 xf9 xf10 xf11 xf12 xf13 ov) sz) U U.heap)) (va_Qi (fun r u => (r, u) = gX (fX0_signature xk1 xk2 xk3 xf3 xf4 xf5 xf6 xf7 xf8 xf9 xf10 xf11 xf12 xf13 p0) ov) (loB dC dI (va_A (loW xh0 xh1 xh2 xh3 xc1 xc2 xc3 oh oc xk1 xk2 xk3 xf3 xf4 xf5 xf6 xf7 xf8 xf9 xf10 xf11 xf12 xf13 ov) sz) xh0 xh1 xh2 xh3 xc1 xc2 xc3 oh oc) (va_A (loW xh0 xh1 xh2 xh3 xc1 xc2 xc3 oh oc xk1 xk2 xk3 xf3 xf4 xf5 xf6 xf7 xf8 xf9 xf10 xf11 xf12 xf13 ov) sz)) 1 6 (va_A (loW xh0 xh1 xh2 xh3 xc1 xc2 xc3 oh oc xk1 xk2 xk3 xf3 xf4 xf5 xf6 xf7 xf8 xf9 xf10 xf11 xf12 xf13 ov) sz) := by
  refine va_MetW (cc := cL_signature) (maxL := 4) (ret := (some .int)) (by decide) rfl ?_
  intro p e s m args below meth c s₁ B hml hv
  obtain ⟨rfl, hsz, hP, hK, hD0, hZ⟩ := hv
  have hx := B.exec
  have hb := B.bytes
  have hr := B.returns
  have hts := atoms_spec (ws := wsL_signature) B.pre
  have htG := fun (w : Cond) (h : w ∈ wG) => hts w (List.mem_cons_of_mem _ h)
  have hown : s.vm.findClass RL = some m.cls := findClass_of_methodNamed B.named
  have hlocks := B.notSynchronized
  have hTab : c.exceptionTable.toList = tableOf [(0, 9, 12, 25)] := vx_table (x := yL_signature) B (hts _ List.mem_cons_self)
  subst hsz
  have hD := hD0.self (sz := s.heap.size)
  generalize hAe : va_A (loW xh0 xh1 xh2 xh3 xc1 xc2 xc3 oh oc xk1 xk2 xk3 xf3 xf4 xf5 xf6 xf7 xf8 xf9 xf10 xf11 xf12 xf13 ov) s.heap.size = A at hD hZ ⊢
  have hA : ∀ q : Nat, s.heap.size ≤ q → A q := fun q h => by rw [← hAe]; exact Or.inr h
  have hS : va_S A s.heap s.heap [] := va_S.rf
  have hP : va_P (dC, dI) vwCl (loW xh0 xh1 xh2 xh3 xc1 xc2 xc3 oh oc xk1 xk2 xk3 xf3 xf4 xf5 xf6 xf7 xf8 xf9 xf10 xf11 xf12 xf13 ov) s.heap := hP
  have hl := lv_entry ([.ref xh0, .int p0, .ref oh]) (n := 4) (Nat.le_of_ble_eq_true rfl)
  rw [lg_entry_eq]
  generalize (lg_sl ([.ref xh0, .int p0, .ref oh]) ++ List.replicate (4 - (lg_sl ([.ref xh0, .int p0, .ref oh])).length) Slot.unset).toArray = ls at hl ⊢
  have hl : lv_has ls 4 [(0, .ref xh0), (1, .int p0), (2, .ref oh)] := hl
  refine lv_aload_n hx hb dL_signature_0 rfl (lv_at hl 2 rfl) ?_
  refine lv_iconst (v := 0) hx hb dL_signature_1 (by decide) ?_
  refine lv_aload_n hx hb dL_signature_2 rfl (lv_at hl 0 rfl) ?_
  refine lv_iload_n hx hb dL_signature_3 rfl (lv_at hl 1 rfl) ?_
  have hPc := hP.sub (ws' := (xW xh0 xh1 xh2 xh3 xc1 xc2 xc3 xk1 xk2 xk3 xf3 xf4 xf5 xf6 xf7 xf8 xf9 xf10 xf11 xf12 xf13)) [0, 1, 2, 3] rfl
  have hDc := hD.sub (ws' := (xW xh0 xh1 xh2 xh3 xc1 xc2 xc3 xk1 xk2 xk3 xf3 xf4 xf5 xf6 xf7 xf8 xf9 xf10 xf11 xf12 xf13)) [0, 1, 2, 3] (by decide) rfl
  have hKc := hK.sub (tys' := [(xc1, .int), (xc2, .int), (xc3, .int)]) [0, 1, 2] rfl
  have hFc := va_free (wc := (xW xh0 xh1 xh2 xh3 xc1 xc2 xc3 xk1 xk2 xk3 xf3 xf4 xf5 xf6 xf7 xf8 xf9 xf10 xf11 xf12 xf13)) hD hS hA [0, 1, 2, 3] rfl
  refine vx_calli (vx_runV (As := [.int p0]) (rest := [.int 0, .ref oh]) ⟨hx, hb, hml, hown, htG⟩ (mX0_signature l hl9 dC dI xh0 xh1 xh2 xh3 s.heap.size xc1 xc2 xc3 xk1 xk2 xk3 xf3 xf4 xf5 xf6 xf7 xf8 xf9 xf10 xf11 xf12 xf13 p0) (cwV 1 htG (wG_V wd_287 wd_288 wd_289 wd_22 wd_290) rfl rfl rfl (by decide +kernel) ⟨Nat.le_of_ble_eq_true rfl, Nat.le_of_ble_eq_true rfl⟩) ⟨fun a U g mk q => by obtain ⟨q0, q1, qP, qK, qD, qZ⟩ := q; exact ⟨q0, q1, qP, va_K.moved (u := U) (U := U.calling g mk a) (Vm.Alike.refl U.vm) qK, qD, qZ.blind⟩, va_recv hKc hPc (ci := 0) (q0 := 0) rfl rfl, fun U hU hW => ⟨rfl, by rw [hU], by rw [hU]; exact hPc, va_K.moved hW.alike hKc, hDc.weaken (fun _ _ _ _ => trivial), xZ.pass hZ hS hW hU hFc⟩⟩ rfl rfl hl.1 rfl (lv_room (Nat.le_of_ble_eq_true rfl)) dL_signature_4 ⟨Nat.le_of_ble_eq_true rfl, Nat.le_of_ble_eq_true rfl⟩) hS (fun q _ h => hFc q h) hFc (fun q _ h => hFc q h) (fun E ce q9 u t H1 locs ht hvm hw hB hz1 hk1 hS hce hcv hcl => ?_) (fun r_1 u t H1 locs ht hvm hw hB hz1 hk1 hS => ?_)
  · obtain ⟨hE, hP1, hK1, hD1⟩ := hB
    rw [ht] at hP1
    obtain ⟨hP, hD⟩ := va_join (wr := [(oh, .inl (oc, 1, .inr (.inl ov)))]) (w1 := (xW xh0 xh1 xh2 xh3 xc1 xc2 xc3 xk1 xk2 xk3 xf3 xf4 xf5 xf6 xf7 xf8 xf9 xf10 xf11 xf12 xf13)) hP hD [0, 1, 2, 3] [4] rfl rfl (by decide) (by decide) hk1 hFc hP1 hD1
    have hP := hP.sub (ws' := (loW xh0 xh1 xh2 xh3 xc1 xc2 xc3 oh oc xk1 xk2 xk3 xf3 xf4 xf5 xf6 xf7 xf8 xf9 xf10 xf11 xf12 xf13 ov)) [1, 2, 3, 4, 0] rfl
    have hD := hD.sub (ws' := (loW xh0 xh1 xh2 xh3 xc1 xc2 xc3 oh oc xk1 xk2 xk3 xf3 xf4 xf5 xf6 xf7 xf8 xf9 xf10 xf11 xf12 xf13 ov)) [1, 2, 3, 4, 0] (by decide) rfl
    obtain ⟨rfl, hf⟩ := hE
    refine vx_catch (own := RL) (name := "java/lang/IndexOutOfBoundsException") (E := "java/lang/IndexOutOfBoundsException") hown [] ⟨0, 9, 12, 25⟩ [] (by rw [hTab]; rfl) (fun z hz => nomatch hz) (by decide) (by decide) (htG _ wd_219) (va_Nw.use rfl hZ.2.2.1.2.2.2.2.2) hce hcv hcl ?_
    refine lv_astore_n (lv' := [(3, .ref q9), (0, .ref xh0), (1, .int p0), (2, .ref oh)]) hx hb dL_signature_12 rfl hl (by decide) rfl (fun ls hl => ?_)
    refine lv_iconst (v := 1) hx hb dL_signature_13 (by decide) ?_
    refine W.widen (k := 1) (n := 6) (Nat.le_of_ble_eq_true rfl) (Nat.le_of_ble_eq_true rfl) ?_
    exact W.iret (v := 1) hx hb hr (fun t ht hW => ⟨⟨1, ((xk1, xk2, xk3, xf3, xf4, xf5, xf6, xf7, xf8, xf9, xf10, xf11, xf12, xf13), ov), rfl, (by rw [hf, gX, if_neg n10]), by rw [ht]; exact hP, va_K.moved hW.alike hK, hD⟩, hS.F ht⟩) hS.2.2 dL_signature_14
  · obtain ⟨hP1, hK1, hD1⟩ := hB
    rw [ht] at hP1
    obtain ⟨hP, hD⟩ := va_join (wr := [(oh, .inl (oc, 1, .inr (.inl ov)))]) (w1 := (xW xh0 xh1 xh2 xh3 xc1 xc2 xc3 u.1 u.2.1 u.2.2.1 u.2.2.2.1 u.2.2.2.2.1 u.2.2.2.2.2.1 u.2.2.2.2.2.2.1 u.2.2.2.2.2.2.2.1 u.2.2.2.2.2.2.2.2.1 u.2.2.2.2.2.2.2.2.2.1 u.2.2.2.2.2.2.2.2.2.2.1 u.2.2.2.2.2.2.2.2.2.2.2.1 u.2.2.2.2.2.2.2.2.2.2.2.2.1 u.2.2.2.2.2.2.2.2.2.2.2.2.2)) hP hD [0, 1, 2, 3] [4] rfl rfl (by decide) (by decide) hk1 hFc hP1 hD1
    have hP := hP.sub (ws' := (loW xh0 xh1 xh2 xh3 xc1 xc2 xc3 oh oc u.1 u.2.1 u.2.2.1 u.2.2.2.1 u.2.2.2.2.1 u.2.2.2.2.2.1 u.2.2.2.2.2.2.1 u.2.2.2.2.2.2.2.1 u.2.2.2.2.2.2.2.2.1 u.2.2.2.2.2.2.2.2.2.1 u.2.2.2.2.2.2.2.2.2.2.1 u.2.2.2.2.2.2.2.2.2.2.2.1 u.2.2.2.2.2.2.2.2.2.2.2.2.1 u.2.2.2.2.2.2.2.2.2.2.2.2.2 ov)) [1, 2, 3, 4, 0] rfl
    have hD := hD.sub (ws' := (loW xh0 xh1 xh2 xh3 xc1 xc2 xc3 oh oc u.1 u.2.1 u.2.2.1 u.2.2.2.1 u.2.2.2.2.1 u.2.2.2.2.2.1 u.2.2.2.2.2.2.1 u.2.2.2.2.2.2.2.1 u.2.2.2.2.2.2.2.2.1 u.2.2.2.2.2.2.2.2.2.1 u.2.2.2.2.2.2.2.2.2.2.1 u.2.2.2.2.2.2.2.2.2.2.2.1 u.2.2.2.2.2.2.2.2.2.2.2.2.1 u.2.2.2.2.2.2.2.2.2.2.2.2.2 ov)) [1, 2, 3, 4, 0] (by decide) rfl
    generalize H1 = H at hP hS ⊢
    refine lv_i2l hx hb dL_signature_7 rfl ?_
    refine va_last hx hb hK hP hD hS 4 3 rfl rfl in_01 dL_signature_8 (fun H locs hP hD hS => ?_)
    have hP : va_P (dC, dI) vwCl (loW xh0 xh1 xh2 xh3 xc1 xc2 xc3 oh oc u.1 u.2.1 u.2.2.1 u.2.2.2.1 u.2.2.2.2.1 u.2.2.2.2.2.1 u.2.2.2.2.2.2.1 u.2.2.2.2.2.2.2.1 u.2.2.2.2.2.2.2.2.1 u.2.2.2.2.2.2.2.2.2.1 u.2.2.2.2.2.2.2.2.2.2.1 u.2.2.2.2.2.2.2.2.2.2.2.1 u.2.2.2.2.2.2.2.2.2.2.2.2.1 u.2.2.2.2.2.2.2.2.2.2.2.2.2 (vp_updL ov (0 : Int32).toNatClampNeg r_1.toInt64)) H := hP
    have hD : va_D A (loW xh0 xh1 xh2 xh3 xc1 xc2 xc3 oh oc u.1 u.2.1 u.2.2.1 u.2.2.2.1 u.2.2.2.2.1 u.2.2.2.2.2.1 u.2.2.2.2.2.2.1 u.2.2.2.2.2.2.2.1 u.2.2.2.2.2.2.2.2.1 u.2.2.2.2.2.2.2.2.2.1 u.2.2.2.2.2.2.2.2.2.2.1 u.2.2.2.2.2.2.2.2.2.2.2.1 u.2.2.2.2.2.2.2.2.2.2.2.2.1 u.2.2.2.2.2.2.2.2.2.2.2.2.2 (vp_updL ov (0 : Int32).toNatClampNeg r_1.toInt64)) := hD
    refine lv_goto (tgt := 15) hx hb dL_signature_9 (by decide) ?_
    refine lv_iconst (v := 0) hx hb dL_signature_15 (by decide) ?_
    refine W.widen (k := 1) (n := 6) (Nat.le_of_ble_eq_true rfl) (Nat.le_of_ble_eq_true rfl) ?_
    exact W.iret (v := 0) hx hb hr (fun t ht hW => ⟨⟨0, (u, (vp_updL ov (0 : Int32).toNatClampNeg r_1.toInt64)), rfl, (by rw [← hw, gX, if_pos rfl]), by rw [ht]; exact hP, va_K.moved hW.alike hK, hD⟩, hS.F ht⟩) hS.2.2 dL_signature_16
abbrev wsL_frame : List Cond := .codeWith yL_frame cL_frame 6 (some .int) [(0, 12, 15, 13)] :: wG
set_option maxHeartbeats 4000000 in
set_option maxRecDepth 100000 in
theorem mL_frame (l : Launch) (hl9 : l.stackTraces = false) (dC : Nat → ClassId) (dI : Nat → Nat → Nat) (xh0 xh1 xh2 xh3 oh : Nat) (sz : Nat) (xc1 xc2 xc3 oc : ClassId) (xk1 xk2 xk3 : Nat → Int32) (xf3 xf4 xf5 xf6 xf7 xf8 xf9 xf10 xf11 xf12 xf13 : Int32) (ov : Nat → Int64) (p0 p1 p2 : Int32)  : Met l yL_frame wsL_frame ({ frames := 7, cells := 1, slots := 6, locals := 105 }) (va_Pc [.ref xh0, .int p0, .int p1, .int p2, .ref oh] (fun U => U.heap.size = sz ∧ va_P (dC, dI) vwCl (loW xh0 xh1 xh2 xh3 xc1 xc2 xc3 oh oc xk1 xk2 xk3 xf3 xf4 xf5 xf6 xf7 xf8 xf9 xf10 xf11 xf12 xf13 ov) U.heap ∧ va_K (dC, dI) vwCl [(xc1, .int), (xc2, .int), (xc3, .int), (oc, .long)] U ∧ va_D (fun _ => True) (loW xh0 xh1 xh2 xh3 xc1 xc2 xc3 oh oc xk1 xk2 xk3 xf3 xf4 xf5 xf6 xf7 xf8 xf9 xf10 xf11 xf12 xf13 ov) ∧ xZ (va_A (loW xh0 xh1 xh2 xh3 xc1 xc2 xc3 oh oc xk1 xk2 xk3 xf3 xf4 xf5 xf6 xf7 xf8 xf9 xf10 xf11 xf12 xf13 ov) sz) U U.heap)) (va_Qi (fun r u => (r, u) = gX (fX0_frame xk1 xk2 xk3 xf3 xf4 xf5 xf6 xf7 xf8 xf9 xf10 xf11 xf12 xf13 p0 p1 p2) ov) (loB dC dI (va_A (loW xh0 xh1 xh2 xh3 xc1 xc2 xc3 oh oc xk1 xk2 xk3 xf3 xf4 xf5 xf6 xf7 xf8 xf9 xf10 xf11 xf12 xf13 ov) sz) xh0 xh1 xh2 xh3 xc1 xc2 xc3 oh oc) (va_A (loW xh0 xh1 xh2 xh3 xc1 xc2 xc3 oh oc xk1 xk2 xk3 xf3 xf4 xf5 xf6 xf7 xf8 xf9 xf10 xf11 xf12 xf13 ov) sz)) 1 6 (va_A (loW xh0 xh1 xh2 xh3 xc1 xc2 xc3 oh oc xk1 xk2 xk3 xf3 xf4 xf5 xf6 xf7 xf8 xf9 xf10 xf11 xf12 xf13 ov) sz) := by
  refine va_MetW (cc := cL_frame) (maxL := 6) (ret := (some .int)) (by decide) rfl ?_
  intro p e s m args below meth c s₁ B hml hv
  obtain ⟨rfl, hsz, hP, hK, hD0, hZ⟩ := hv
  have hx := B.exec
  have hb := B.bytes
  have hr := B.returns
  have hts := atoms_spec (ws := wsL_frame) B.pre
  have htG := fun (w : Cond) (h : w ∈ wG) => hts w (List.mem_cons_of_mem _ h)
  have hown : s.vm.findClass RL = some m.cls := findClass_of_methodNamed B.named
  have hlocks := B.notSynchronized
  have hTab : c.exceptionTable.toList = tableOf [(0, 12, 15, 13)] := vx_table (x := yL_frame) B (hts _ List.mem_cons_self)
  subst hsz
  have hD := hD0.self (sz := s.heap.size)
  generalize hAe : va_A (loW xh0 xh1 xh2 xh3 xc1 xc2 xc3 oh oc xk1 xk2 xk3 xf3 xf4 xf5 xf6 xf7 xf8 xf9 xf10 xf11 xf12 xf13 ov) s.heap.size = A at hD hZ ⊢
  have hA : ∀ q : Nat, s.heap.size ≤ q → A q := fun q h => by rw [← hAe]; exact Or.inr h
  have hS : va_S A s.heap s.heap [] := va_S.rf
  have hP : va_P (dC, dI) vwCl (loW xh0 xh1 xh2 xh3 xc1 xc2 xc3 oh oc xk1 xk2 xk3 xf3 xf4 xf5 xf6 xf7 xf8 xf9 xf10 xf11 xf12 xf13 ov) s.heap := hP
  have hl := lv_entry ([.ref xh0, .int p0, .int p1, .int p2, .ref oh]) (n := 6) (Nat.le_of_ble_eq_true rfl)
  rw [lg_entry_eq]
  generalize (lg_sl ([.ref xh0, .int p0, .int p1, .int p2, .ref oh]) ++ List.replicate (6 - (lg_sl ([.ref xh0, .int p0, .int p1, .int p2, .ref oh])).length) Slot.unset).toArray = ls at hl ⊢
  have hl : lv_has ls 6 [(0, .ref xh0), (1, .int p0), (2, .int p1), (3, .int p2), (4, .ref oh)] := hl
  refine lv_aload hx hb dL_frame_0 (lv_at hl 4 rfl) ?_
  refine lv_iconst (v := 0) hx hb dL_frame_2 (by decide) ?_
  refine lv_aload_n hx hb dL_frame_3 rfl (lv_at hl 0 rfl) ?_
  refine lv_iload_n hx hb dL_frame_4 rfl (lv_at hl 1 rfl) ?_
  refine lv_iload_n hx hb dL_frame_5 rfl (lv_at hl 2 rfl) ?_
  refine lv_iload_n hx hb dL_frame_6 rfl (lv_at hl 3 rfl) ?_
  have hPc := hP.sub (ws' := (xW xh0 xh1 xh2 xh3 xc1 xc2 xc3 xk1 xk2 xk3 xf3 xf4 xf5 xf6 xf7 xf8 xf9 xf10 xf11 xf12 xf13)) [0, 1, 2, 3] rfl
  have hDc := hD.sub (ws' := (xW xh0 xh1 xh2 xh3 xc1 xc2 xc3 xk1 xk2 xk3 xf3 xf4 xf5 xf6 xf7 xf8 xf9 xf10 xf11 xf12 xf13)) [0, 1, 2, 3] (by decide) rfl
  have hKc := hK.sub (tys' := [(xc1, .int), (xc2, .int), (xc3, .int)]) [0, 1, 2] rfl
  have hFc := va_free (wc := (xW xh0 xh1 xh2 xh3 xc1 xc2 xc3 xk1 xk2 xk3 xf3 xf4 xf5 xf6 xf7 xf8 xf9 xf10 xf11 xf12 xf13)) hD hS hA [0, 1, 2, 3] rfl
  refine vx_calli (vx_runV (As := [.int p0, .int p1, .int p2]) (rest := [.int 0, .ref oh]) ⟨hx, hb, hml, hown, htG⟩ (mX0_frame l hl9 dC dI xh0 xh1 xh2 xh3 s.heap.size xc1 xc2 xc3 xk1 xk2 xk3 xf3 xf4 xf5 xf6 xf7 xf8 xf9 xf10 xf11 xf12 xf13 p0 p1 p2) (cwV 3 htG (wG_V wd_298 wd_299 wd_300 wd_22 wd_301) rfl rfl rfl (by decide +kernel) ⟨Nat.le_of_ble_eq_true rfl, Nat.le_of_ble_eq_true rfl⟩) ⟨fun a U g mk q => by obtain ⟨q0, q1, qP, qK, qD, qZ⟩ := q; exact ⟨q0, q1, qP, va_K.moved (u := U) (U := U.calling g mk a) (Vm.Alike.refl U.vm) qK, qD, qZ.blind⟩, va_recv hKc hPc (ci := 0) (q0 := 0) rfl rfl, fun U hU hW => ⟨rfl, by rw [hU], by rw [hU]; exact hPc, va_K.moved hW.alike hKc, hDc.weaken (fun _ _ _ _ => trivial), xZ.pass hZ hS hW hU hFc⟩⟩ rfl rfl hl.1 rfl (lv_room (Nat.le_of_ble_eq_true rfl)) dL_frame_7 ⟨Nat.le_of_ble_eq_true rfl, Nat.le_of_ble_eq_true rfl⟩) hS (fun q _ h => hFc q h) hFc (fun q _ h => hFc q h) (fun E ce q9 u t H1 locs ht hvm hw hB hz1 hk1 hS hce hcv hcl => ?_) (fun r_1 u t H1 locs ht hvm hw hB hz1 hk1 hS => ?_)
  · obtain ⟨hE, hP1, hK1, hD1⟩ := hB
    rw [ht] at hP1
    obtain ⟨hP, hD⟩ := va_join (wr := [(oh, .inl (oc, 1, .inr (.inl ov)))]) (w1 := (xW xh0 xh1 xh2 xh3 xc1 xc2 xc3 xk1 xk2 xk3 xf3 xf4 xf5 xf6 xf7 xf8 xf9 xf10 xf11 xf12 xf13)) hP hD [0, 1, 2, 3] [4] rfl rfl (by decide) (by decide) hk1 hFc hP1 hD1
    have hP := hP.sub (ws' := (loW xh0 xh1 xh2 xh3 xc1 xc2 xc3 oh oc xk1 xk2 xk3 xf3 xf4 xf5 xf6 xf7 xf8 xf9 xf10 xf11 xf12 xf13 ov)) [1, 2, 3, 4, 0] rfl
    have hD := hD.sub (ws' := (loW xh0 xh1 xh2 xh3 xc1 xc2 xc3 oh oc xk1 xk2 xk3 xf3 xf4 xf5 xf6 xf7 xf8 xf9 xf10 xf11 xf12 xf13 ov)) [1, 2, 3, 4, 0] (by decide) rfl
    obtain ⟨rfl, hf⟩ := hE
    refine vx_catch (own := RL) (name := "java/lang/IllegalArgumentException") (E := "java/lang/IllegalArgumentException") hown [] ⟨0, 12, 15, 13⟩ [] (by rw [hTab]; rfl) (fun z hz => nomatch hz) (by decide) (by decide) (htG _ wd_105) (va_Nw.use rfl hZ.2.2.1.1) hce hcv hcl ?_
    refine lv_astore (lv' := [(5, .ref q9), (0, .ref xh0), (1, .int p0), (2, .int p1), (3, .int p2), (4, .ref oh)]) hx hb dL_frame_15 hl (by decide) rfl (fun ls hl => ?_)
    refine lv_iconst (v := 1) hx hb dL_frame_17 (by decide) ?_
    refine W.widen (k := 1) (n := 6) (Nat.le_of_ble_eq_true rfl) (Nat.le_of_ble_eq_true rfl) ?_
    exact W.iret (v := 1) hx hb hr (fun t ht hW => ⟨⟨1, ((xk1, xk2, xk3, xf3, xf4, xf5, xf6, xf7, xf8, xf9, xf10, xf11, xf12, xf13), ov), rfl, (by rw [hf, gX, if_neg n10]), by rw [ht]; exact hP, va_K.moved hW.alike hK, hD⟩, hS.F ht⟩) hS.2.2 dL_frame_18
  · obtain ⟨hP1, hK1, hD1⟩ := hB
    rw [ht] at hP1
    obtain ⟨hP, hD⟩ := va_join (wr := [(oh, .inl (oc, 1, .inr (.inl ov)))]) (w1 := (xW xh0 xh1 xh2 xh3 xc1 xc2 xc3 u.1 u.2.1 u.2.2.1 u.2.2.2.1 u.2.2.2.2.1 u.2.2.2.2.2.1 u.2.2.2.2.2.2.1 u.2.2.2.2.2.2.2.1 u.2.2.2.2.2.2.2.2.1 u.2.2.2.2.2.2.2.2.2.1 u.2.2.2.2.2.2.2.2.2.2.1 u.2.2.2.2.2.2.2.2.2.2.2.1 u.2.2.2.2.2.2.2.2.2.2.2.2.1 u.2.2.2.2.2.2.2.2.2.2.2.2.2)) hP hD [0, 1, 2, 3] [4] rfl rfl (by decide) (by decide) hk1 hFc hP1 hD1
    have hP := hP.sub (ws' := (loW xh0 xh1 xh2 xh3 xc1 xc2 xc3 oh oc u.1 u.2.1 u.2.2.1 u.2.2.2.1 u.2.2.2.2.1 u.2.2.2.2.2.1 u.2.2.2.2.2.2.1 u.2.2.2.2.2.2.2.1 u.2.2.2.2.2.2.2.2.1 u.2.2.2.2.2.2.2.2.2.1 u.2.2.2.2.2.2.2.2.2.2.1 u.2.2.2.2.2.2.2.2.2.2.2.1 u.2.2.2.2.2.2.2.2.2.2.2.2.1 u.2.2.2.2.2.2.2.2.2.2.2.2.2 ov)) [1, 2, 3, 4, 0] rfl
    have hD := hD.sub (ws' := (loW xh0 xh1 xh2 xh3 xc1 xc2 xc3 oh oc u.1 u.2.1 u.2.2.1 u.2.2.2.1 u.2.2.2.2.1 u.2.2.2.2.2.1 u.2.2.2.2.2.2.1 u.2.2.2.2.2.2.2.1 u.2.2.2.2.2.2.2.2.1 u.2.2.2.2.2.2.2.2.2.1 u.2.2.2.2.2.2.2.2.2.2.1 u.2.2.2.2.2.2.2.2.2.2.2.1 u.2.2.2.2.2.2.2.2.2.2.2.2.1 u.2.2.2.2.2.2.2.2.2.2.2.2.2 ov)) [1, 2, 3, 4, 0] (by decide) rfl
    generalize H1 = H at hP hS ⊢
    refine lv_i2l hx hb dL_frame_10 rfl ?_
    refine va_last hx hb hK hP hD hS 4 3 rfl rfl in_01 dL_frame_11 (fun H locs hP hD hS => ?_)
    have hP : va_P (dC, dI) vwCl (loW xh0 xh1 xh2 xh3 xc1 xc2 xc3 oh oc u.1 u.2.1 u.2.2.1 u.2.2.2.1 u.2.2.2.2.1 u.2.2.2.2.2.1 u.2.2.2.2.2.2.1 u.2.2.2.2.2.2.2.1 u.2.2.2.2.2.2.2.2.1 u.2.2.2.2.2.2.2.2.2.1 u.2.2.2.2.2.2.2.2.2.2.1 u.2.2.2.2.2.2.2.2.2.2.2.1 u.2.2.2.2.2.2.2.2.2.2.2.2.1 u.2.2.2.2.2.2.2.2.2.2.2.2.2 (vp_updL ov (0 : Int32).toNatClampNeg r_1.toInt64)) H := hP
    have hD : va_D A (loW xh0 xh1 xh2 xh3 xc1 xc2 xc3 oh oc u.1 u.2.1 u.2.2.1 u.2.2.2.1 u.2.2.2.2.1 u.2.2.2.2.2.1 u.2.2.2.2.2.2.1 u.2.2.2.2.2.2.2.1 u.2.2.2.2.2.2.2.2.1 u.2.2.2.2.2.2.2.2.2.1 u.2.2.2.2.2.2.2.2.2.2.1 u.2.2.2.2.2.2.2.2.2.2.2.1 u.2.2.2.2.2.2.2.2.2.2.2.2.1 u.2.2.2.2.2.2.2.2.2.2.2.2.2 (vp_updL ov (0 : Int32).toNatClampNeg r_1.toInt64)) := hD
    refine lv_goto (tgt := 19) hx hb dL_frame_12 (by decide) ?_
    refine lv_iconst (v := 0) hx hb dL_frame_19 (by decide) ?_
    refine W.widen (k := 1) (n := 6) (Nat.le_of_ble_eq_true rfl) (Nat.le_of_ble_eq_true rfl) ?_
    exact W.iret (v := 0) hx hb hr (fun t ht hW => ⟨⟨0, (u, (vp_updL ov (0 : Int32).toNatClampNeg r_1.toInt64)), rfl, (by rw [← hw, gX, if_pos rfl]), by rw [ht]; exact hP, va_K.moved hW.alike hK, hD⟩, hS.F ht⟩) hS.2.2 dL_frame_20
abbrev wsL_place : List Cond := .codeWith yL_place cL_place 5 (some .int) [(0, 10, 13, 25)] :: wG
set_option maxHeartbeats 4000000 in
set_option maxRecDepth 100000 in
theorem mL_place (l : Launch) (hl9 : l.stackTraces = false) (dC : Nat → ClassId) (dI : Nat → Nat → Nat) (xh0 xh1 xh2 xh3 oh : Nat) (sz : Nat) (xc1 xc2 xc3 oc : ClassId) (xk1 xk2 xk3 : Nat → Int32) (xf3 xf4 xf5 xf6 xf7 xf8 xf9 xf10 xf11 xf12 xf13 : Int32) (ov : Nat → Int64) (p0 p1 : Int32)  : Met l yL_place wsL_place ({ frames := 7, cells := 1, slots := 6, locals := 104 }) (va_Pc [.ref xh0, .int p0, .int p1, .ref oh] (fun U => U.heap.size = sz ∧ va_P (dC, dI) vwCl (loW xh0 xh1 xh2 xh3 xc1 xc2 xc3 oh oc xk1 xk2 xk3 xf3 xf4 xf5 xf6 xf7 xf8 xf9 xf10 xf11 xf12 xf13 ov) U.heap ∧ va_K (dC, dI) vwCl [(xc1, .int), (xc2, .int), (xc3, .int), (oc, .long)] U ∧ va_D (fun _ => True) (loW xh0 xh1 xh2 xh3 xc1 xc2 xc3 oh oc xk1 xk2 xk3 xf3 xf4 xf5 xf6 xf7 xf8 xf9 xf10 xf11 xf12 xf13 ov) ∧ xZ (va_A (loW xh0 xh1 xh2 xh3 xc1 xc2 xc3 oh oc xk1 xk2 xk3 xf3 xf4 xf5 xf6 xf7 xf8 xf9 xf10 xf11 xf12 xf13 ov) sz) U U.heap)) (va_Qi (fun r u => (r, u) = gX (fX0_place xk1 xk2 xk3 xf3 xf4 xf5 xf6 xf7 xf8 xf9 xf10 xf11 xf12 xf13 p0 p1) ov) (loB dC dI (va_A (loW xh0 xh1 xh2 xh3 xc1 xc2 xc3 oh oc xk1 xk2 xk3 xf3 xf4 xf5 xf6 xf7 xf8 xf9 xf10 xf11 xf12 xf13 ov) sz) xh0 xh1 xh2 xh3 xc1 xc2 xc3 oh oc) (va_A (loW xh0 xh1 xh2 xh3 xc1 xc2 xc3 oh oc xk1 xk2 xk3 xf3 xf4 xf5 xf6 xf7 xf8 xf9 xf10 xf11 xf12 xf13 ov) sz)) 1 6 (va_A (loW xh0 xh1 xh2 xh3 xc1 xc2 xc3 oh oc xk1 xk2 xk3 xf3 xf4 xf5 xf6 xf7 xf8 xf9 xf10 xf11 xf12 xf13 ov) sz) := by
  refine va_MetW (cc := cL_place) (maxL := 5) (ret := (some .int)) (by decide) rfl ?_
  intro p e s m args below meth c s₁ B hml hv
  obtain ⟨rfl, hsz, hP, hK, hD0, hZ⟩ := hv
  have hx := B.exec
  have hb := B.bytes
  have hr := B.returns
  have hts := atoms_spec (ws := wsL_place) B.pre
  have htG := fun (w : Cond) (h : w ∈ wG) => hts w (List.mem_cons_of_mem _ h)
  have hown : s.vm.findClass RL = some m.cls := findClass_of_methodNamed B.named
  have hlocks := B.notSynchronized
  have hTab : c.exceptionTable.toList = tableOf [(0, 10, 13, 25)] := vx_table (x := yL_place) B (hts _ List.mem_cons_self)
  subst hsz
  have hD := hD0.self (sz := s.heap.size)
  generalize hAe : va_A (loW xh0 xh1 xh2 xh3 xc1 xc2 xc3 oh oc xk1 xk2 xk3 xf3 xf4 xf5 xf6 xf7 xf8 xf9 xf10 xf11 xf12 xf13 ov) s.heap.size = A at hD hZ ⊢
  have hA : ∀ q : Nat, s.heap.size ≤ q → A q := fun q h => by rw [← hAe]; exact Or.inr h
  have hS : va_S A s.heap s.heap [] := va_S.rf
  have hP : va_P (dC, dI) vwCl (loW xh0 xh1 xh2 xh3 xc1 xc2 xc3 oh oc xk1 xk2 xk3 xf3 xf4 xf5 xf6 xf7 xf8 xf9 xf10 xf11 xf12 xf13 ov) s.heap := hP
  have hl := lv_entry ([.ref xh0, .int p0, .int p1, .ref oh]) (n := 5) (Nat.le_of_ble_eq_true rfl)
  rw [lg_entry_eq]
  generalize (lg_sl ([.ref xh0, .int p0, .int p1, .ref oh]) ++ List.replicate (5 - (lg_sl ([.ref xh0, .int p0, .int p1, .ref oh])).length) Slot.unset).toArray = ls at hl ⊢
  have hl : lv_has ls 5 [(0, .ref xh0), (1, .int p0), (2, .int p1), (3, .ref oh)] := hl
  refine lv_aload_n hx hb dL_place_0 rfl (lv_at hl 3 rfl) ?_
  refine lv_iconst (v := 0) hx hb dL_place_1 (by decide) ?_
  refine lv_aload_n hx hb dL_place_2 rfl (lv_at hl 0 rfl) ?_
  refine lv_iload_n hx hb dL_place_3 rfl (lv_at hl 1 rfl) ?_
  refine lv_iload_n hx hb dL_place_4 rfl (lv_at hl 2 rfl) ?_
  have hPc := hP.sub (ws' := (xW xh0 xh1 xh2 xh3 xc1 xc2 xc3 xk1 xk2 xk3 xf3 xf4 xf5 xf6 xf7 xf8 xf9 xf10 xf11 xf12 xf13)) [0, 1, 2, 3] rfl
  have hDc := hD.sub (ws' := (xW xh0 xh1 xh2 xh3 xc1 xc2 xc3 xk1 xk2 xk3 xf3 xf4 xf5 xf6 xf7 xf8 xf9 xf10 xf11 xf12 xf13)) [0, 1, 2, 3] (by decide) rfl
  have hKc := hK.sub (tys' := [(xc1, .int), (xc2, .int), (xc3, .int)]) [0, 1, 2] rfl
  have hFc := va_free (wc := (xW xh0 xh1 xh2 xh3 xc1 xc2 xc3 xk1 xk2 xk3 xf3 xf4 xf5 xf6 xf7 xf8 xf9 xf10 xf11 xf12 xf13)) hD hS hA [0, 1, 2, 3] rfl
  refine vx_calli (vx_runV (As := [.int p0, .int p1]) (rest := [.int 0, .ref oh]) ⟨hx, hb, hml, hown, htG⟩ (mX0_place l hl9 dC dI xh0 xh1 xh2 xh3 s.heap.size xc1 xc2 xc3 xk1 xk2 xk3 xf3 xf4 xf5 xf6 xf7 xf8 xf9 xf10 xf11 xf12 xf13 p0 p1) (cwV 2 htG (wG_V wd_317 wd_318 wd_319 wd_22 wd_320) rfl rfl rfl (by decide +kernel) ⟨Nat.le_of_ble_eq_true rfl, Nat.le_of_ble_eq_true rfl⟩) ⟨fun a U g mk q => by obtain ⟨q0, q1, qP, qK, qD, qZ⟩ := q; exact ⟨q0, q1, qP, va_K.moved (u := U) (U := U.calling g mk a) (Vm.Alike.refl U.vm) qK, qD, qZ.blind⟩, va_recv hKc hPc (ci := 0) (q0 := 0) rfl rfl, fun U hU hW => ⟨rfl, by rw [hU], by rw [hU]; exact hPc, va_K.moved hW.alike hKc, hDc.weaken (fun _ _ _ _ => trivial), xZ.pass hZ hS hW hU hFc⟩⟩ rfl rfl hl.1 rfl (lv_room (Nat.le_of_ble_eq_true rfl)) dL_place_5 ⟨Nat.le_of_ble_eq_true rfl, Nat.le_of_ble_eq_true rfl⟩) hS (fun q _ h => hFc q h) hFc (fun q _ h => hFc q h) (fun E ce q9 u t H1 locs ht hvm hw hB hz1 hk1 hS hce hcv hcl => ?_) (fun r_1 u t H1 locs ht hvm hw hB hz1 hk1 hS => ?_)
  · obtain ⟨hE, hP1, hK1, hD1⟩ := hB
    rw [ht] at hP1
    obtain ⟨hP, hD⟩ := va_join (wr := [(oh, .inl (oc, 1, .inr (.inl ov)))]) (w1 := (xW xh0 xh1 xh2 xh3 xc1 xc2 xc3 xk1 xk2 xk3 xf3 xf4 xf5 xf6 xf7 xf8 xf9 xf10 xf11 xf12 xf13)) hP hD [0, 1, 2, 3] [4] rfl rfl (by decide) (by decide) hk1 hFc hP1 hD1
    have hP := hP.sub (ws' := (loW xh0 xh1 xh2 xh3 xc1 xc2 xc3 oh oc xk1 xk2 xk3 xf3 xf4 xf5 xf6 xf7 xf8 xf9 xf10 xf11 xf12 xf13 ov)) [1, 2, 3, 4, 0] rfl
    have hD := hD.sub (ws' := (loW xh0 xh1 xh2 xh3 xc1 xc2 xc3 oh oc xk1 xk2 xk3 xf3 xf4 xf5 xf6 xf7 xf8 xf9 xf10 xf11 xf12 xf13 ov)) [1, 2, 3, 4, 0] (by decide) rfl
    obtain ⟨rfl, hf⟩ := hE
    refine vx_catch (own := RL) (name := "java/lang/IndexOutOfBoundsException") (E := "java/lang/IndexOutOfBoundsException") hown [] ⟨0, 10, 13, 25⟩ [] (by rw [hTab]; rfl) (fun z hz => nomatch hz) (by decide) (by decide) (htG _ wd_219) (va_Nw.use rfl hZ.2.2.1.2.2.2.2.2) hce hcv hcl ?_
    refine lv_astore (lv' := [(4, .ref q9), (0, .ref xh0), (1, .int p0), (2, .int p1), (3, .ref oh)]) hx hb dL_place_13 hl (by decide) rfl (fun ls hl => ?_)
    refine lv_iconst (v := 1) hx hb dL_place_15 (by decide) ?_
    refine W.widen (k := 1) (n := 6) (Nat.le_of_ble_eq_true rfl) (Nat.le_of_ble_eq_true rfl) ?_
    exact W.iret (v := 1) hx hb hr (fun t ht hW => ⟨⟨1, ((xk1, xk2, xk3, xf3, xf4, xf5, xf6, xf7, xf8, xf9, xf10, xf11, xf12, xf13), ov), rfl, (by rw [hf, gX, if_neg n10]), by rw [ht]; exact hP, va_K.moved hW.alike hK, hD⟩, hS.F ht⟩) hS.2.2 dL_place_16
  · obtain ⟨hP1, hK1, hD1⟩ := hB
    rw [ht] at hP1
    obtain ⟨hP, hD⟩ := va_join (wr := [(oh, .inl (oc, 1, .inr (.inl ov)))]) (w1 := (xW xh0 xh1 xh2 xh3 xc1 xc2 xc3 u.1 u.2.1 u.2.2.1 u.2.2.2.1 u.2.2.2.2.1 u.2.2.2.2.2.1 u.2.2.2.2.2.2.1 u.2.2.2.2.2.2.2.1 u.2.2.2.2.2.2.2.2.1 u.2.2.2.2.2.2.2.2.2.1 u.2.2.2.2.2.2.2.2.2.2.1 u.2.2.2.2.2.2.2.2.2.2.2.1 u.2.2.2.2.2.2.2.2.2.2.2.2.1 u.2.2.2.2.2.2.2.2.2.2.2.2.2)) hP hD [0, 1, 2, 3] [4] rfl rfl (by decide) (by decide) hk1 hFc hP1 hD1
    have hP := hP.sub (ws' := (loW xh0 xh1 xh2 xh3 xc1 xc2 xc3 oh oc u.1 u.2.1 u.2.2.1 u.2.2.2.1 u.2.2.2.2.1 u.2.2.2.2.2.1 u.2.2.2.2.2.2.1 u.2.2.2.2.2.2.2.1 u.2.2.2.2.2.2.2.2.1 u.2.2.2.2.2.2.2.2.2.1 u.2.2.2.2.2.2.2.2.2.2.1 u.2.2.2.2.2.2.2.2.2.2.2.1 u.2.2.2.2.2.2.2.2.2.2.2.2.1 u.2.2.2.2.2.2.2.2.2.2.2.2.2 ov)) [1, 2, 3, 4, 0] rfl
    have hD := hD.sub (ws' := (loW xh0 xh1 xh2 xh3 xc1 xc2 xc3 oh oc u.1 u.2.1 u.2.2.1 u.2.2.2.1 u.2.2.2.2.1 u.2.2.2.2.2.1 u.2.2.2.2.2.2.1 u.2.2.2.2.2.2.2.1 u.2.2.2.2.2.2.2.2.1 u.2.2.2.2.2.2.2.2.2.1 u.2.2.2.2.2.2.2.2.2.2.1 u.2.2.2.2.2.2.2.2.2.2.2.1 u.2.2.2.2.2.2.2.2.2.2.2.2.1 u.2.2.2.2.2.2.2.2.2.2.2.2.2 ov)) [1, 2, 3, 4, 0] (by decide) rfl
    generalize H1 = H at hP hS ⊢
    refine lv_i2l hx hb dL_place_8 rfl ?_
    refine va_last hx hb hK hP hD hS 4 3 rfl rfl in_01 dL_place_9 (fun H locs hP hD hS => ?_)
    have hP : va_P (dC, dI) vwCl (loW xh0 xh1 xh2 xh3 xc1 xc2 xc3 oh oc u.1 u.2.1 u.2.2.1 u.2.2.2.1 u.2.2.2.2.1 u.2.2.2.2.2.1 u.2.2.2.2.2.2.1 u.2.2.2.2.2.2.2.1 u.2.2.2.2.2.2.2.2.1 u.2.2.2.2.2.2.2.2.2.1 u.2.2.2.2.2.2.2.2.2.2.1 u.2.2.2.2.2.2.2.2.2.2.2.1 u.2.2.2.2.2.2.2.2.2.2.2.2.1 u.2.2.2.2.2.2.2.2.2.2.2.2.2 (vp_updL ov (0 : Int32).toNatClampNeg r_1.toInt64)) H := hP
    have hD : va_D A (loW xh0 xh1 xh2 xh3 xc1 xc2 xc3 oh oc u.1 u.2.1 u.2.2.1 u.2.2.2.1 u.2.2.2.2.1 u.2.2.2.2.2.1 u.2.2.2.2.2.2.1 u.2.2.2.2.2.2.2.1 u.2.2.2.2.2.2.2.2.1 u.2.2.2.2.2.2.2.2.2.1 u.2.2.2.2.2.2.2.2.2.2.1 u.2.2.2.2.2.2.2.2.2.2.2.1 u.2.2.2.2.2.2.2.2.2.2.2.2.1 u.2.2.2.2.2.2.2.2.2.2.2.2.2 (vp_updL ov (0 : Int32).toNatClampNeg r_1.toInt64)) := hD
    refine lv_goto (tgt := 17) hx hb dL_place_10 (by decide) ?_
    refine lv_iconst (v := 0) hx hb dL_place_17 (by decide) ?_
    refine W.widen (k := 1) (n := 6) (Nat.le_of_ble_eq_true rfl) (Nat.le_of_ble_eq_true rfl) ?_
    exact W.iret (v := 0) hx hb hr (fun t ht hW => ⟨⟨0, (u, (vp_updL ov (0 : Int32).toNatClampNeg r_1.toInt64)), rfl, (by rw [← hw, gX, if_pos rfl]), by rw [ht]; exact hP, va_K.moved hW.alike hK, hD⟩, hS.F ht⟩) hS.2.2 dL_place_18
