def fX0_call (xk1 xk2 xk3 : Nat → Int32) (xf3 xf4 xf5 xf6 xf7 xf8 xf9 xf10 xf11 xf12 xf13 : Int32) : Int32 × Int32 × xWS :=
  (0, (if xf8 < (fX0_areaSize xf6) then (fX0_areaSize xf6) else xf8), (xk1, xk2, xk3, xf3, xf4, xf5, xf6, (xf7 + 1), (if xf8 < (fX0_areaSize xf6) then (fX0_areaSize xf6) else xf8), xf9, xf10, xf11, xf12, xf13))

abbrev wsX0_call : List Cond := .code yX0_call cX0_call 1 (some .int) :: wG
set_option maxHeartbeats 4000000 in
set_option maxRecDepth 100000 in
theorem mX0_call (l : Launch) (dC : Nat → ClassId) (dI : Nat → Nat → Nat) (xh0 xh1 xh2 xh3 : Nat) (sz : Nat) (xc1 xc2 xc3 : ClassId) (xk1 xk2 xk3 : Nat → Int32) (xf3 xf4 xf5 xf6 xf7 xf8 xf9 xf10 xf11 xf12 xf13 : Int32)   : Met l yX0_call wsX0_call ({ frames := 2, cells := 0, slots := 0, locals := 41 }) (va_Pc [.ref xh0] (fun U => U.heap.size = sz ∧ va_P (dC, dI) vwCl (xW xh0 xh1 xh2 xh3 xc1 xc2 xc3 xk1 xk2 xk3 xf3 xf4 xf5 xf6 xf7 xf8 xf9 xf10 xf11 xf12 xf13) U.heap ∧ va_K (dC, dI) vwCl [(xc1, .int), (xc2, .int), (xc3, .int)] U ∧ va_D (fun _ => True) (xW xh0 xh1 xh2 xh3 xc1 xc2 xc3 xk1 xk2 xk3 xf3 xf4 xf5 xf6 xf7 xf8 xf9 xf10 xf11 xf12 xf13))) (va_Qi (fun r u => (0, r, u) = fX0_call xk1 xk2 xk3 xf3 xf4 xf5 xf6 xf7 xf8 xf9 xf10 xf11 xf12 xf13) (xWB dC dI (va_A (xW xh0 xh1 xh2 xh3 xc1 xc2 xc3 xk1 xk2 xk3 xf3 xf4 xf5 xf6 xf7 xf8 xf9 xf10 xf11 xf12 xf13) sz) xh0 xh1 xh2 xh3 xc1 xc2 xc3) (va_A (xW xh0 xh1 xh2 xh3 xc1 xc2 xc3 xk1 xk2 xk3 xf3 xf4 xf5 xf6 xf7 xf8 xf9 xf10 xf11 xf12 xf13) sz)) 0 0 (va_A (xW xh0 xh1 xh2 xh3 xc1 xc2 xc3 xk1 xk2 xk3 xf3 xf4 xf5 xf6 xf7 xf8 xf9 xf10 xf11 xf12 xf13) sz) := by
  refine Met.ofW (cc := cX0_call) (maxL := 1) (ret := (some .int)) (by decide) rfl ?_
  intro p e s m args below meth c s₁ B hml hv
  obtain ⟨rfl, hsz, hP, hK, hD0⟩ := hv
  have hx := B.exec
  have hb := B.bytes
  have hr := B.returns
  have hts := atoms_spec (ws := wsX0_call) B.pre
  have htG := fun (w : Cond) (h : w ∈ wG) => hts w (List.mem_cons_of_mem _ h)
  have hown : s.vm.findClass RX0 = some m.cls := findClass_of_methodNamed B.named
  have hlocks := B.notSynchronized
  subst hsz
  have hD := hD0.self (sz := s.heap.size)
  generalize hAe : va_A (xW xh0 xh1 xh2 xh3 xc1 xc2 xc3 xk1 xk2 xk3 xf3 xf4 xf5 xf6 xf7 xf8 xf9 xf10 xf11 xf12 xf13) s.heap.size = A at hD ⊢
  have hA : ∀ q : Nat, s.heap.size ≤ q → A q := fun q h => by rw [← hAe]; exact Or.inr h
  have hS : va_S A s.heap s.heap [] := va_S.rf
  have hP : va_P (dC, dI) vwCl (xW xh0 xh1 xh2 xh3 xc1 xc2 xc3 xk1 xk2 xk3 xf3 xf4 xf5 xf6 xf7 xf8 xf9 xf10 xf11 xf12 xf13) s.heap := hP
  have hl := lv_entry ([.ref xh0]) (n := 1) (Nat.le_of_ble_eq_true rfl)
  rw [lg_entry_eq]
  generalize (lg_sl ([.ref xh0]) ++ List.replicate (1 - (lg_sl ([.ref xh0])).length) Slot.unset).toArray = ls at hl ⊢
  have hl : lv_has ls 1 [(0, .ref xh0)] := hl
  refine lv_aload_n hx hb dX0_call_0 rfl (lv_at hl 0 rfl) ?_
  refine lv_dup hx hb dX0_call_1 rfl ?_
  refine va_get (D := (dC, dI)) (ci := 0) (v := .int xf7) (C := RX0) (T := TX0) (N := 14) hx hb htG inX0 hown hK hP 0 rfl rfl 7 (by decide) (htG _ wd_47) (fun _ h9 => h9) rfl dX0_call_2 ?_
  refine lv_iconst (v := 1) hx hb dX0_call_5 (by decide) ?_
  refine lv_iadd hx hb dX0_call_6 ?_
  refine va_put (D := (dC, dI)) (ci := 0) (v := .int (xf7 + 1)) (ty := .int) (C := RX0) (T := TX0) (N := 14) hx hb htG inX0 tyX0 tyX0_ok nmX0 hown hK hP hD hS 0 rfl rfl 7 (by decide) (htG _ wd_47) (fun _ h9 => h9) rfl (by decide +kernel) rfl rfl (Nat.le_of_ble_eq_true rfl) dX0_call_7 (fun H locs hP hD hS => ?_)
  have hP : va_P (dC, dI) vwCl (xW xh0 xh1 xh2 xh3 xc1 xc2 xc3 xk1 xk2 xk3 xf3 xf4 xf5 xf6 (xf7 + 1) xf8 xf9 xf10 xf11 xf12 xf13) H := hP
  have hD : va_D A (xW xh0 xh1 xh2 xh3 xc1 xc2 xc3 xk1 xk2 xk3 xf3 xf4 xf5 xf6 (xf7 + 1) xf8 xf9 xf10 xf11 xf12 xf13) := hD
  refine lv_aload_n hx hb dX0_call_10 rfl (lv_at hl 0 rfl) ?_
  refine lv_aload_n hx hb dX0_call_11 rfl (lv_at hl 0 rfl) ?_
  refine va_get (D := (dC, dI)) (ci := 0) (v := .int xf8) (C := RX0) (T := TX0) (N := 14) hx hb htG inX0 hown hK hP 0 rfl rfl 8 (by decide) (htG _ wd_48) (fun _ h9 => h9) rfl dX0_call_12 ?_
  refine lv_aload_n hx hb dX0_call_15 rfl (lv_at hl 0 rfl) ?_
  refine vp_callSi (va_runV (As := []) (rest := [.int xf8, .ref xh0]) ⟨hx, hb, hml, hown, htG⟩ (mX0_areaSize l dC dI xh0 xh1 xh2 xh3 xc1 xc2 xc3 xk1 xk2 xk3 xf3 xf4 xf5 xf6 (xf7 + 1) xf8 xf9 xf10 xf11 xf12 xf13) (cwV 0 htG (wG_V wd_88 wd_90 wd_0 wd_22 wd_91) rfl rfl rfl (by decide +kernel) ⟨Nat.le_of_ble_eq_true rfl, Nat.le_of_ble_eq_true rfl⟩) ⟨fun a U g mk q => by obtain ⟨q0, qP, qK⟩ := q; exact ⟨q0, qP, va_K.moved (u := U) (U := U.calling g mk a) (Vm.Alike.refl U.vm) qK⟩, va_recv hK hP (ci := 0) (q0 := 0) rfl rfl, fun U hU hW => ⟨rfl, by rw [hU]; exact hP, va_K.moved hW.alike hK⟩⟩ rfl rfl hl.1 rfl (lv_room (Nat.le_of_ble_eq_true rfl)) dX0_call_16 ⟨Nat.le_of_ble_eq_true rfl, Nat.le_of_ble_eq_true rfl⟩).run (fun r_1 er_1 => ?_)
  subst er_1
  refine va_mmax hx hb (hml.trans hl.1.symm) hown (htG _ wd_95) (htG _ wd_96) (htG _ wd_30) (htG _ wd_97) (Nat.le_of_ble_eq_true rfl) (Nat.le_of_ble_eq_true rfl) (Nat.le_of_ble_eq_true rfl) (Nat.le_of_ble_eq_true rfl) dX0_call_19 ?_
  refine va_put (D := (dC, dI)) (ci := 0) (v := .int (if xf8 < (fX0_areaSize xf6) then (fX0_areaSize xf6) else xf8)) (ty := .int) (C := RX0) (T := TX0) (N := 14) hx hb htG inX0 tyX0 tyX0_ok nmX0 hown hK hP hD hS 0 rfl rfl 8 (by decide) (htG _ wd_48) (fun _ h9 => h9) rfl (by decide +kernel) rfl rfl (Nat.le_of_ble_eq_true rfl) dX0_call_22 (fun H locs hP hD hS => ?_)
  have hP : va_P (dC, dI) vwCl (xW xh0 xh1 xh2 xh3 xc1 xc2 xc3 xk1 xk2 xk3 xf3 xf4 xf5 xf6 (xf7 + 1) (if xf8 < (fX0_areaSize xf6) then (fX0_areaSize xf6) else xf8) xf9 xf10 xf11 xf12 xf13) H := hP
  have hD : va_D A (xW xh0 xh1 xh2 xh3 xc1 xc2 xc3 xk1 xk2 xk3 xf3 xf4 xf5 xf6 (xf7 + 1) (if xf8 < (fX0_areaSize xf6) then (fX0_areaSize xf6) else xf8) xf9 xf10 xf11 xf12 xf13) := hD
  refine lv_aload_n hx hb dX0_call_25 rfl (lv_at hl 0 rfl) ?_
  refine va_get (D := (dC, dI)) (ci := 0) (v := .int (if xf8 < (fX0_areaSize xf6) then (fX0_areaSize xf6) else xf8)) (C := RX0) (T := TX0) (N := 14) hx hb htG inX0 hown hK hP 0 rfl rfl 8 (by decide) (htG _ wd_48) (fun _ h9 => h9) rfl dX0_call_26 ?_
  exact W.iret (v := (if xf8 < (fX0_areaSize xf6) then (fX0_areaSize xf6) else xf8)) hx hb hr (fun t ht hW => ⟨⟨(if xf8 < (fX0_areaSize xf6) then (fX0_areaSize xf6) else xf8), (xk1, xk2, xk3, xf3, xf4, xf5, xf6, (xf7 + 1), (if xf8 < (fX0_areaSize xf6) then (fX0_areaSize xf6) else xf8), xf9, xf10, xf11, xf12, xf13), rfl, (by rw [fX0_call]), by rw [ht]; exact hP, va_K.moved hW.alike hK, hD⟩, hS.F ht⟩) hS.2.2 dX0_call_29

def fX0_clear (xk1 xk2 xk3 : Nat → Int32) (xf3 xf4 xf5 xf6 xf7 xf8 xf9 xf10 xf11 xf12 xf13 : Int32) : Int32 × Int32 × xWS :=
  (0, xf7, (xk1, xk2, xk3, xf3, xf4, xf5, xf6, 0, 0, 0, 0, 0, 0, 0))

abbrev wsX0_clear : List Cond := .code yX0_clear cX0_clear 2 (some .int) :: wG
set_option maxHeartbeats 4000000 in
set_option maxRecDepth 100000 in
theorem mX0_clear (l : Launch) (dC : Nat → ClassId) (dI : Nat → Nat → Nat) (xh0 xh1 xh2 xh3 : Nat) (sz : Nat) (xc1 xc2 xc3 : ClassId) (xk1 xk2 xk3 : Nat → Int32) (xf3 xf4 xf5 xf6 xf7 xf8 xf9 xf10 xf11 xf12 xf13 : Int32)   : Met l yX0_clear wsX0_clear ({ frames := 0, cells := 0, slots := 0, locals := 0 }) (va_Pc [.ref xh0] (fun U => U.heap.size = sz ∧ va_P (dC, dI) vwCl (xW xh0 xh1 xh2 xh3 xc1 xc2 xc3 xk1 xk2 xk3 xf3 xf4 xf5 xf6 xf7 xf8 xf9 xf10 xf11 xf12 xf13) U.heap ∧ va_K (dC, dI) vwCl [(xc1, .int), (xc2, .int), (xc3, .int)] U ∧ va_D (fun _ => True) (xW xh0 xh1 xh2 xh3 xc1 xc2 xc3 xk1 xk2 xk3 xf3 xf4 xf5 xf6 xf7 xf8 xf9 xf10 xf11 xf12 xf13))) (va_Qi (fun r u => (0, r, u) = fX0_clear xk1 xk2 xk3 xf3 xf4 xf5 xf6 xf7 xf8 xf9 xf10 xf11 xf12 xf13) (xWB dC dI (va_A (xW xh0 xh1 xh2 xh3 xc1 xc2 xc3 xk1 xk2 xk3 xf3 xf4 xf5 xf6 xf7 xf8 xf9 xf10 xf11 xf12 xf13) sz) xh0 xh1 xh2 xh3 xc1 xc2 xc3) (va_A (xW xh0 xh1 xh2 xh3 xc1 xc2 xc3 xk1 xk2 xk3 xf3 xf4 xf5 xf6 xf7 xf8 xf9 xf10 xf11 xf12 xf13) sz)) 0 0 (va_A (xW xh0 xh1 xh2 xh3 xc1 xc2 xc3 xk1 xk2 xk3 xf3 xf4 xf5 xf6 xf7 xf8 xf9 xf10 xf11 xf12 xf13) sz) := by
  refine Met.ofW (cc := cX0_clear) (maxL := 2) (ret := (some .int)) (by decide) rfl ?_
  intro p e s m args below meth c s₁ B hml hv
  obtain ⟨rfl, hsz, hP, hK, hD0⟩ := hv
  have hx := B.exec
  have hb := B.bytes
  have hr := B.returns
  have hts := atoms_spec (ws := wsX0_clear) B.pre
  have htG := fun (w : Cond) (h : w ∈ wG) => hts w (List.mem_cons_of_mem _ h)
  have hown : s.vm.findClass RX0 = some m.cls := findClass_of_methodNamed B.named
  have hlocks := B.notSynchronized
  subst hsz
  have hD := hD0.self (sz := s.heap.size)
  generalize hAe : va_A (xW xh0 xh1 xh2 xh3 xc1 xc2 xc3 xk1 xk2 xk3 xf3 xf4 xf5 xf6 xf7 xf8 xf9 xf10 xf11 xf12 xf13) s.heap.size = A at hD ⊢
  have hA : ∀ q : Nat, s.heap.size ≤ q → A q := fun q h => by rw [← hAe]; exact Or.inr h
  have hS : va_S A s.heap s.heap [] := va_S.rf
  have hP : va_P (dC, dI) vwCl (xW xh0 xh1 xh2 xh3 xc1 xc2 xc3 xk1 xk2 xk3 xf3 xf4 xf5 xf6 xf7 xf8 xf9 xf10 xf11 xf12 xf13) s.heap := hP
  have hl := lv_entry ([.ref xh0]) (n := 2) (Nat.le_of_ble_eq_true rfl)
  rw [lg_entry_eq]
  generalize (lg_sl ([.ref xh0]) ++ List.replicate (2 - (lg_sl ([.ref xh0])).length) Slot.unset).toArray = ls at hl ⊢
  have hl : lv_has ls 2 [(0, .ref xh0)] := hl
  refine lv_aload_n hx hb dX0_clear_0 rfl (lv_at hl 0 rfl) ?_
  refine va_get (D := (dC, dI)) (ci := 0) (v := .int xf7) (C := RX0) (T := TX0) (N := 14) hx hb htG inX0 hown hK hP 0 rfl rfl 7 (by decide) (htG _ wd_47) (fun _ h9 => h9) rfl dX0_clear_1 ?_
  refine lv_istore_n (lv' := [(1, .int xf7), (0, .ref xh0)]) hx hb dX0_clear_4 rfl hl (by decide) rfl (fun ls hl => ?_)
  refine lv_aload_n hx hb dX0_clear_5 rfl (lv_at hl 1 rfl) ?_
  refine lv_iconst (v := 0) hx hb dX0_clear_6 (by decide) ?_
  refine va_put (D := (dC, dI)) (ci := 0) (v := .int 0) (ty := .int) (C := RX0) (T := TX0) (N := 14) hx hb htG inX0 tyX0 tyX0_ok nmX0 hown hK hP hD hS 0 rfl rfl 7 (by decide) (htG _ wd_47) (fun _ h9 => h9) rfl (by decide +kernel) rfl rfl (Nat.le_of_ble_eq_true rfl) dX0_clear_7 (fun H locs hP hD hS => ?_)
  have hP : va_P (dC, dI) vwCl (xW xh0 xh1 xh2 xh3 xc1 xc2 xc3 xk1 xk2 xk3 xf3 xf4 xf5 xf6 0 xf8 xf9 xf10 xf11 xf12 xf13) H := hP
  have hD : va_D A (xW xh0 xh1 xh2 xh3 xc1 xc2 xc3 xk1 xk2 xk3 xf3 xf4 xf5 xf6 0 xf8 xf9 xf10 xf11 xf12 xf13) := hD
  refine lv_aload_n hx hb dX0_clear_10 rfl (lv_at hl 1 rfl) ?_
  refine lv_iconst (v := 0) hx hb dX0_clear_11 (by decide) ?_
  refine va_put (D := (dC, dI)) (ci := 0) (v := .int 0) (ty := .int) (C := RX0) (T := TX0) (N := 14) hx hb htG inX0 tyX0 tyX0_ok nmX0 hown hK hP hD hS 0 rfl rfl 8 (by decide) (htG _ wd_48) (fun _ h9 => h9) rfl (by decide +kernel) rfl rfl (Nat.le_of_ble_eq_true rfl) dX0_clear_12 (fun H locs hP hD hS => ?_)
  have hP : va_P (dC, dI) vwCl (xW xh0 xh1 xh2 xh3 xc1 xc2 xc3 xk1 xk2 xk3 xf3 xf4 xf5 xf6 0 0 xf9 xf10 xf11 xf12 xf13) H := hP
  have hD : va_D A (xW xh0 xh1 xh2 xh3 xc1 xc2 xc3 xk1 xk2 xk3 xf3 xf4 xf5 xf6 0 0 xf9 xf10 xf11 xf12 xf13) := hD
  refine lv_aload_n hx hb dX0_clear_15 rfl (lv_at hl 1 rfl) ?_
  refine lv_iconst (v := 0) hx hb dX0_clear_16 (by decide) ?_
  refine va_put (D := (dC, dI)) (ci := 0) (v := .int 0) (ty := .int) (C := RX0) (T := TX0) (N := 14) hx hb htG inX0 tyX0 tyX0_ok nmX0 hown hK hP hD hS 0 rfl rfl 9 (by decide) (htG _ wd_49) (fun _ h9 => h9) rfl (by decide +kernel) rfl rfl (Nat.le_of_ble_eq_true rfl) dX0_clear_17 (fun H locs hP hD hS => ?_)
  have hP : va_P (dC, dI) vwCl (xW xh0 xh1 xh2 xh3 xc1 xc2 xc3 xk1 xk2 xk3 xf3 xf4 xf5 xf6 0 0 0 xf10 xf11 xf12 xf13) H := hP
  have hD : va_D A (xW xh0 xh1 xh2 xh3 xc1 xc2 xc3 xk1 xk2 xk3 xf3 xf4 xf5 xf6 0 0 0 xf10 xf11 xf12 xf13) := hD
  refine lv_aload_n hx hb dX0_clear_20 rfl (lv_at hl 1 rfl) ?_
  refine lv_iconst (v := 0) hx hb dX0_clear_21 (by decide) ?_
  refine va_put (D := (dC, dI)) (ci := 0) (v := .int 0) (ty := .int) (C := RX0) (T := TX0) (N := 14) hx hb htG inX0 tyX0 tyX0_ok nmX0 hown hK hP hD hS 0 rfl rfl 10 (by decide) (htG _ wd_50) (fun _ h9 => h9) rfl (by decide +kernel) rfl rfl (Nat.le_of_ble_eq_true rfl) dX0_clear_22 (fun H locs hP hD hS => ?_)
  have hP : va_P (dC, dI) vwCl (xW xh0 xh1 xh2 xh3 xc1 xc2 xc3 xk1 xk2 xk3 xf3 xf4 xf5 xf6 0 0 0 0 xf11 xf12 xf13) H := hP
  have hD : va_D A (xW xh0 xh1 xh2 xh3 xc1 xc2 xc3 xk1 xk2 xk3 xf3 xf4 xf5 xf6 0 0 0 0 xf11 xf12 xf13) := hD
  refine lv_aload_n hx hb dX0_clear_25 rfl (lv_at hl 1 rfl) ?_
  refine lv_iconst (v := 0) hx hb dX0_clear_26 (by decide) ?_
  refine va_put (D := (dC, dI)) (ci := 0) (v := .int 0) (ty := .int) (C := RX0) (T := TX0) (N := 14) hx hb htG inX0 tyX0 tyX0_ok nmX0 hown hK hP hD hS 0 rfl rfl 11 (by decide) (htG _ wd_51) (fun _ h9 => h9) rfl (by decide +kernel) rfl rfl (Nat.le_of_ble_eq_true rfl) dX0_clear_27 (fun H locs hP hD hS => ?_)
  have hP : va_P (dC, dI) vwCl (xW xh0 xh1 xh2 xh3 xc1 xc2 xc3 xk1 xk2 xk3 xf3 xf4 xf5 xf6 0 0 0 0 0 xf12 xf13) H := hP
  have hD : va_D A (xW xh0 xh1 xh2 xh3 xc1 xc2 xc3 xk1 xk2 xk3 xf3 xf4 xf5 xf6 0 0 0 0 0 xf12 xf13) := hD
  refine lv_aload_n hx hb dX0_clear_30 rfl (lv_at hl 1 rfl) ?_
  refine lv_iconst (v := 0) hx hb dX0_clear_31 (by decide) ?_
  refine va_put (D := (dC, dI)) (ci := 0) (v := .int 0) (ty := .int) (C := RX0) (T := TX0) (N := 14) hx hb htG inX0 tyX0 tyX0_ok nmX0 hown hK hP hD hS 0 rfl rfl 12 (by decide) (htG _ wd_52) (fun _ h9 => h9) rfl (by decide +kernel) rfl rfl (Nat.le_of_ble_eq_true rfl) dX0_clear_32 (fun H locs hP hD hS => ?_)
  have hP : va_P (dC, dI) vwCl (xW xh0 xh1 xh2 xh3 xc1 xc2 xc3 xk1 xk2 xk3 xf3 xf4 xf5 xf6 0 0 0 0 0 0 xf13) H := hP
  have hD : va_D A (xW xh0 xh1 xh2 xh3 xc1 xc2 xc3 xk1 xk2 xk3 xf3 xf4 xf5 xf6 0 0 0 0 0 0 xf13) := hD
  refine lv_aload_n hx hb dX0_clear_35 rfl (lv_at hl 1 rfl) ?_
  refine lv_iconst (v := 0) hx hb dX0_clear_36 (by decide) ?_
  refine va_put (D := (dC, dI)) (ci := 0) (v := .int 0) (ty := .int) (C := RX0) (T := TX0) (N := 14) hx hb htG inX0 tyX0 tyX0_ok nmX0 hown hK hP hD hS 0 rfl rfl 13 (by decide) (htG _ wd_53) (fun _ h9 => h9) rfl (by decide +kernel) rfl rfl (Nat.le_of_ble_eq_true rfl) dX0_clear_37 (fun H locs hP hD hS => ?_)
  have hP : va_P (dC, dI) vwCl (xW xh0 xh1 xh2 xh3 xc1 xc2 xc3 xk1 xk2 xk3 xf3 xf4 xf5 xf6 0 0 0 0 0 0 0) H := hP
  have hD : va_D A (xW xh0 xh1 xh2 xh3 xc1 xc2 xc3 xk1 xk2 xk3 xf3 xf4 xf5 xf6 0 0 0 0 0 0 0) := hD
  refine lv_iload_n hx hb dX0_clear_40 rfl (lv_at hl 0 rfl) ?_
  exact W.iret (v := xf7) hx hb hr (fun t ht hW => ⟨⟨xf7, (xk1, xk2, xk3, xf3, xf4, xf5, xf6, 0, 0, 0, 0, 0, 0, 0), rfl, (by rw [fX0_clear]), by rw [ht]; exact hP, va_K.moved hW.alike hK, hD⟩, hS.F ht⟩) hS.2.2 dX0_clear_41
