abbrev wsX0_init : List Cond := .code yX0_init cX0_init 1 none :: wG
def xWI : xWS := ((fun _ => 0), (fun _ => 0), (fun _ => 0), 0, 4, 0, 0, 0, 0, 0, 0, 0, 0, 0)
set_option maxHeartbeats 4000000 in
set_option maxRecDepth 100000 in
theorem mX0_init (l : Launch) (dC : Nat → ClassId) (dI : Nat → Nat → Nat) (xh0 : Nat) (sz : Nat) : Met l yX0_init wsX0_init ({ frames := 1, cells := 3, slots := 180, locals := 12 }) (va_Pc [.ref xh0] (fun U => U.heap.size = sz ∧ va_P (dC, dI) vwCl [(xh0, .inr (0, [.null, .null, .null, .int 0, .int 0, .int 0, .int 0, .int 0, .int 0, .int 0, .int 0, .int 0, .int 0, .int 0]))] U.heap ∧ va_K (dC, dI) vwCl [] U ∧ va_D (fun _ => True) [(xh0, .inr (0, [.null, .null, .null, .int 0, .int 0, .int 0, .int 0, .int 0, .int 0, .int 0, .int 0, .int 0, .int 0, .int 0]))])) (va_Qv (fun u => u = xWI) (fun u t => ∃ (xh1 xh2 xh3 : Nat) (xc1 xc2 xc3 : ClassId), xWB dC dI (va_A [(xh0, .inr (0, [.null, .null, .null, .int 0, .int 0, .int 0, .int 0, .int 0, .int 0, .int 0, .int 0, .int 0, .int 0, .int 0]))] sz) xh0 xh1 xh2 xh3 xc1 xc2 xc3 u t) (va_A [(xh0, .inr (0, [.null, .null, .null, .int 0, .int 0, .int 0, .int 0, .int 0, .int 0, .int 0, .int 0, .int 0, .int 0, .int 0]))] sz)) 3 180 (va_A [(xh0, .inr (0, [.null, .null, .null, .int 0, .int 0, .int 0, .int 0, .int 0, .int 0, .int 0, .int 0, .int 0, .int 0, .int 0]))] sz) := by
  refine Met.ofW (cc := cX0_init) (maxL := 1) (ret := none) (by decide) rfl ?_
  intro p e s m args below meth c s₁ B hml hv
  obtain ⟨rfl, hsz, hP, hK, hD0⟩ := hv
  have hx := B.exec
  have hb := B.bytes
  have hr := B.returns
  have hts := atoms_spec (ws := wsX0_init) B.pre
  have htG := fun (w : Cond) (h : w ∈ wG) => hts w (List.mem_cons_of_mem _ h)
  have hown : s.vm.findClass RX0 = some m.cls := findClass_of_methodNamed B.named
  have hlocks := B.notSynchronized
  have hin : meth.name = "<init>" := (name_of_methodNamed B.named B.method).1
  subst hsz
  have hD := hD0.self (sz := s.heap.size)
  generalize hAe : va_A [(xh0, .inr (0, [.null, .null, .null, .int 0, .int 0, .int 0, .int 0, .int 0, .int 0, .int 0, .int 0, .int 0, .int 0, .int 0]))] s.heap.size = A at hD ⊢
  have hA : ∀ q : Nat, s.heap.size ≤ q → A q := fun q h => by rw [← hAe]; exact Or.inr h
  have hS : va_S A s.heap s.heap [] := va_S.rf
  have hP : va_P (dC, dI) vwCl [(xh0, .inr (0, [.null, .null, .null, .int 0, .int 0, .int 0, .int 0, .int 0, .int 0, .int 0, .int 0, .int 0, .int 0, .int 0]))] s.heap := hP
  have hl := lv_entry ([.ref xh0]) (n := 1) (Nat.le_of_ble_eq_true rfl)
  rw [lg_entry_eq]
  generalize (lg_sl ([.ref xh0]) ++ List.replicate (1 - (lg_sl ([.ref xh0])).length) Slot.unset).toArray = ls at hl ⊢
  have hl : lv_has ls 1 [(0, .ref xh0)] := hl
  refine lv_aload_n hx hb dX0_init_0 rfl (lv_at hl 0 rfl) ?_
  refine W.objInit hx hb hown (htG _ wd_37) (htG _ wd_38) (htG _ wd_39) rfl (by rw [hml]; exact hl.1) rfl dX0_init_1 (Nat.le_of_ble_eq_true rfl) (Nat.le_of_ble_eq_true rfl) ?_
  refine W.eq (g2 := F0 m 4 ls []) rfl ?_
  refine lv_aload_n hx hb dX0_init_4 rfl (lv_at hl 0 rfl) ?_
  refine lv_bipush (v := 60) hx hb dX0_init_5 (by decide) ?_
  refine va_newa (atype := .int) (N' := 60) (a0 := (60, .inl (fun _ => 0))) (ty := .int) (n := 60) hx hb (htG _ wd_83) rfl hK hP hD hS hA (fun _ => rfl) (by decide) (by decide) (by decide) (Nat.le_of_ble_eq_true rfl) (Nat.le_of_ble_eq_true rfl) dX0_init_7 (fun xh1 xc1 H hK hP hD hS => ?_)
  have hP : va_P (dC, dI) vwCl [(xh0, .inr (0, [.null, .null, .null, .int 0, .int 0, .int 0, .int 0, .int 0, .int 0, .int 0, .int 0, .int 0, .int 0, .int 0])), (xh1, .inl (xc1, 60, .inl (fun _ => 0)))] H := hP
  have hD : va_D A [(xh0, .inr (0, [.null, .null, .null, .int 0, .int 0, .int 0, .int 0, .int 0, .int 0, .int 0, .int 0, .int 0, .int 0, .int 0])), (xh1, .inl (xc1, 60, .inl (fun _ => 0)))] := hD
  have hK : va_K (dC, dI) vwCl [(xc1, .int)] s := hK
  refine W.widen (k := 1) (n := 60) (Nat.le_of_ble_eq_true rfl) (Nat.le_of_ble_eq_true rfl) ?_
  refine va_putF (D := (dC, dI)) (ci := 0) (v := .ref xh1) (ty := .array .int) (C := RX0) (T := TX0) (N := 14) hx hb htG inX0 tyX0 tyX0_ok nmX0 hown hK hP hD hS 0 rfl rfl 0 (by decide) (htG _ wd_40) (fun _ h9 => h9) rfl hin rfl (by decide +kernel) rfl rfl (Nat.le_of_ble_eq_true rfl) dX0_init_9 (fun H locs hP hD hS => ?_)
  have hP : va_P (dC, dI) vwCl [(xh0, .inr (0, [.ref xh1, .null, .null, .int 0, .int 0, .int 0, .int 0, .int 0, .int 0, .int 0, .int 0, .int 0, .int 0, .int 0])), (xh1, .inl (xc1, 60, .inl (fun _ => 0)))] H := hP
  have hD : va_D A [(xh0, .inr (0, [.ref xh1, .null, .null, .int 0, .int 0, .int 0, .int 0, .int 0, .int 0, .int 0, .int 0, .int 0, .int 0, .int 0])), (xh1, .inl (xc1, 60, .inl (fun _ => 0)))] := hD
  refine lv_aload_n hx hb dX0_init_12 rfl (lv_at hl 0 rfl) ?_
  refine lv_bipush (v := 60) hx hb dX0_init_13 (by decide) ?_
  refine va_newa (atype := .int) (N' := 60) (a0 := (60, .inl (fun _ => 0))) (ty := .int) (n := 60) hx hb (htG _ wd_83) rfl hK hP hD hS hA (fun _ => rfl) (by decide) (by decide) (by decide) (Nat.le_of_ble_eq_true rfl) (Nat.le_of_ble_eq_true rfl) dX0_init_15 (fun xh2 xc2 H hK hP hD hS => ?_)
  have hP : va_P (dC, dI) vwCl [(xh0, .inr (0, [.ref xh1, .null, .null, .int 0, .int 0, .int 0, .int 0, .int 0, .int 0, .int 0, .int 0, .int 0, .int 0, .int 0])), (xh1, .inl (xc1, 60, .inl (fun _ => 0))), (xh2, .inl (xc2, 60, .inl (fun _ => 0)))] H := hP
  have hD : va_D A [(xh0, .inr (0, [.ref xh1, .null, .null, .int 0, .int 0, .int 0, .int 0, .int 0, .int 0, .int 0, .int 0, .int 0, .int 0, .int 0])), (xh1, .inl (xc1, 60, .inl (fun _ => 0))), (xh2, .inl (xc2, 60, .inl (fun _ => 0)))] := hD
  have hK : va_K (dC, dI) vwCl [(xc1, .int), (xc2, .int)] s := hK
  refine W.widen (k := 2) (n := 120) (Nat.le_of_ble_eq_true rfl) (Nat.le_of_ble_eq_true rfl) ?_
  refine va_putF (D := (dC, dI)) (ci := 0) (v := .ref xh2) (ty := .array .int) (C := RX0) (T := TX0) (N := 14) hx hb htG inX0 tyX0 tyX0_ok nmX0 hown hK hP hD hS 0 rfl rfl 1 (by decide) (htG _ wd_41) (fun _ h9 => h9) rfl hin rfl (by decide +kernel) rfl rfl (Nat.le_of_ble_eq_true rfl) dX0_init_17 (fun H locs hP hD hS => ?_)
  have hP : va_P (dC, dI) vwCl [(xh0, .inr (0, [.ref xh1, .ref xh2, .null, .int 0, .int 0, .int 0, .int 0, .int 0, .int 0, .int 0, .int 0, .int 0, .int 0, .int 0])), (xh1, .inl (xc1, 60, .inl (fun _ => 0))), (xh2, .inl (xc2, 60, .inl (fun _ => 0)))] H := hP
  have hD : va_D A [(xh0, .inr (0, [.ref xh1, .ref xh2, .null, .int 0, .int 0, .int 0, .int 0, .int 0, .int 0, .int 0, .int 0, .int 0, .int 0, .int 0])), (xh1, .inl (xc1, 60, .inl (fun _ => 0))), (xh2, .inl (xc2, 60, .inl (fun _ => 0)))] := hD
  refine lv_aload_n hx hb dX0_init_20 rfl (lv_at hl 0 rfl) ?_
  refine lv_bipush (v := 60) hx hb dX0_init_21 (by decide) ?_
  refine va_newa (atype := .int) (N' := 60) (a0 := (60, .inl (fun _ => 0))) (ty := .int) (n := 60) hx hb (htG _ wd_83) rfl hK hP hD hS hA (fun _ => rfl) (by decide) (by decide) (by decide) (Nat.le_of_ble_eq_true rfl) (Nat.le_of_ble_eq_true rfl) dX0_init_23 (fun xh3 xc3 H hK hP hD hS => ?_)
  have hP : va_P (dC, dI) vwCl [(xh0, .inr (0, [.ref xh1, .ref xh2, .null, .int 0, .int 0, .int 0, .int 0, .int 0, .int 0, .int 0, .int 0, .int 0, .int 0, .int 0])), (xh1, .inl (xc1, 60, .inl (fun _ => 0))), (xh2, .inl (xc2, 60, .inl (fun _ => 0))), (xh3, .inl (xc3, 60, .inl (fun _ => 0)))] H := hP
  have hD : va_D A [(xh0, .inr (0, [.ref xh1, .ref xh2, .null, .int 0, .int 0, .int 0, .int 0, .int 0, .int 0, .int 0, .int 0, .int 0, .int 0, .int 0])), (xh1, .inl (xc1, 60, .inl (fun _ => 0))), (xh2, .inl (xc2, 60, .inl (fun _ => 0))), (xh3, .inl (xc3, 60, .inl (fun _ => 0)))] := hD
  have hK : va_K (dC, dI) vwCl [(xc1, .int), (xc2, .int), (xc3, .int)] s := hK
  refine W.widen (k := 3) (n := 180) (Nat.le_of_ble_eq_true rfl) (Nat.le_of_ble_eq_true rfl) ?_
  refine va_putF (D := (dC, dI)) (ci := 0) (v := .ref xh3) (ty := .array .int) (C := RX0) (T := TX0) (N := 14) hx hb htG inX0 tyX0 tyX0_ok nmX0 hown hK hP hD hS 0 rfl rfl 2 (by decide) (htG _ wd_42) (fun _ h9 => h9) rfl hin rfl (by decide +kernel) rfl rfl (Nat.le_of_ble_eq_true rfl) dX0_init_25 (fun H locs hP hD hS => ?_)
  have hP : va_P (dC, dI) vwCl [(xh0, .inr (0, [.ref xh1, .ref xh2, .ref xh3, .int 0, .int 0, .int 0, .int 0, .int 0, .int 0, .int 0, .int 0, .int 0, .int 0, .int 0])), (xh1, .inl (xc1, 60, .inl (fun _ => 0))), (xh2, .inl (xc2, 60, .inl (fun _ => 0))), (xh3, .inl (xc3, 60, .inl (fun _ => 0)))] H := hP
  have hD : va_D A [(xh0, .inr (0, [.ref xh1, .ref xh2, .ref xh3, .int 0, .int 0, .int 0, .int 0, .int 0, .int 0, .int 0, .int 0, .int 0, .int 0, .int 0])), (xh1, .inl (xc1, 60, .inl (fun _ => 0))), (xh2, .inl (xc2, 60, .inl (fun _ => 0))), (xh3, .inl (xc3, 60, .inl (fun _ => 0)))] := hD
  refine lv_aload_n hx hb dX0_init_28 rfl (lv_at hl 0 rfl) ?_
  refine lv_iconst (v := 0) hx hb dX0_init_29 (by decide) ?_
  refine va_put (D := (dC, dI)) (ci := 0) (v := .int 0) (ty := .int) (C := RX0) (T := TX0) (N := 14) hx hb htG inX0 tyX0 tyX0_ok nmX0 hown hK hP hD hS 0 rfl rfl 3 (by decide) (htG _ wd_43) (fun _ h9 => h9) rfl (by decide +kernel) rfl rfl (Nat.le_of_ble_eq_true rfl) dX0_init_30 (fun H locs hP hD hS => ?_)
  have hP : va_P (dC, dI) vwCl [(xh0, .inr (0, [.ref xh1, .ref xh2, .ref xh3, .int 0, .int 0, .int 0, .int 0, .int 0, .int 0, .int 0, .int 0, .int 0, .int 0, .int 0])), (xh1, .inl (xc1, 60, .inl (fun _ => 0))), (xh2, .inl (xc2, 60, .inl (fun _ => 0))), (xh3, .inl (xc3, 60, .inl (fun _ => 0)))] H := hP
  have hD : va_D A [(xh0, .inr (0, [.ref xh1, .ref xh2, .ref xh3, .int 0, .int 0, .int 0, .int 0, .int 0, .int 0, .int 0, .int 0, .int 0, .int 0, .int 0])), (xh1, .inl (xc1, 60, .inl (fun _ => 0))), (xh2, .inl (xc2, 60, .inl (fun _ => 0))), (xh3, .inl (xc3, 60, .inl (fun _ => 0)))] := hD
  refine lv_aload_n hx hb dX0_init_33 rfl (lv_at hl 0 rfl) ?_
  refine lv_iconst (v := 4) hx hb dX0_init_34 (by decide) ?_
  refine va_put (D := (dC, dI)) (ci := 0) (v := .int 4) (ty := .int) (C := RX0) (T := TX0) (N := 14) hx hb htG inX0 tyX0 tyX0_ok nmX0 hown hK hP hD hS 0 rfl rfl 4 (by decide) (htG _ wd_44) (fun _ h9 => h9) rfl (by decide +kernel) rfl rfl (Nat.le_of_ble_eq_true rfl) dX0_init_35 (fun H locs hP hD hS => ?_)
  have hP : va_P (dC, dI) vwCl [(xh0, .inr (0, [.ref xh1, .ref xh2, .ref xh3, .int 0, .int 4, .int 0, .int 0, .int 0, .int 0, .int 0, .int 0, .int 0, .int 0, .int 0])), (xh1, .inl (xc1, 60, .inl (fun _ => 0))), (xh2, .inl (xc2, 60, .inl (fun _ => 0))), (xh3, .inl (xc3, 60, .inl (fun _ => 0)))] H := hP
  have hD : va_D A [(xh0, .inr (0, [.ref xh1, .ref xh2, .ref xh3, .int 0, .int 4, .int 0, .int 0, .int 0, .int 0, .int 0, .int 0, .int 0, .int 0, .int 0])), (xh1, .inl (xc1, 60, .inl (fun _ => 0))), (xh2, .inl (xc2, 60, .inl (fun _ => 0))), (xh3, .inl (xc3, 60, .inl (fun _ => 0)))] := hD
  refine lv_aload_n hx hb dX0_init_38 rfl (lv_at hl 0 rfl) ?_
  refine lv_iconst (v := 0) hx hb dX0_init_39 (by decide) ?_
  refine va_put (D := (dC, dI)) (ci := 0) (v := .int 0) (ty := .boolean) (C := RX0) (T := TX0) (N := 14) hx hb htG inX0 tyX0 tyX0_ok nmX0 hown hK hP hD hS 0 rfl rfl 5 (by decide) (htG _ wd_45) (fun _ h9 => h9) rfl (by decide +kernel) rfl rfl (Nat.le_of_ble_eq_true rfl) dX0_init_40 (fun H locs hP hD hS => ?_)
  have hP : va_P (dC, dI) vwCl [(xh0, .inr (0, [.ref xh1, .ref xh2, .ref xh3, .int 0, .int 4, .int 0, .int 0, .int 0, .int 0, .int 0, .int 0, .int 0, .int 0, .int 0])), (xh1, .inl (xc1, 60, .inl (fun _ => 0))), (xh2, .inl (xc2, 60, .inl (fun _ => 0))), (xh3, .inl (xc3, 60, .inl (fun _ => 0)))] H := hP
  have hD : va_D A [(xh0, .inr (0, [.ref xh1, .ref xh2, .ref xh3, .int 0, .int 4, .int 0, .int 0, .int 0, .int 0, .int 0, .int 0, .int 0, .int 0, .int 0])), (xh1, .inl (xc1, 60, .inl (fun _ => 0))), (xh2, .inl (xc2, 60, .inl (fun _ => 0))), (xh3, .inl (xc3, 60, .inl (fun _ => 0)))] := hD
  refine lv_aload_n hx hb dX0_init_43 rfl (lv_at hl 0 rfl) ?_
  refine lv_iconst (v := 0) hx hb dX0_init_44 (by decide) ?_
  refine va_put (D := (dC, dI)) (ci := 0) (v := .int 0) (ty := .int) (C := RX0) (T := TX0) (N := 14) hx hb htG inX0 tyX0 tyX0_ok nmX0 hown hK hP hD hS 0 rfl rfl 6 (by decide) (htG _ wd_46) (fun _ h9 => h9) rfl (by decide +kernel) rfl rfl (Nat.le_of_ble_eq_true rfl) dX0_init_45 (fun H locs hP hD hS => ?_)
  have hP : va_P (dC, dI) vwCl [(xh0, .inr (0, [.ref xh1, .ref xh2, .ref xh3, .int 0, .int 4, .int 0, .int 0, .int 0, .int 0, .int 0, .int 0, .int 0, .int 0, .int 0])), (xh1, .inl (xc1, 60, .inl (fun _ => 0))), (xh2, .inl (xc2, 60, .inl (fun _ => 0))), (xh3, .inl (xc3, 60, .inl (fun _ => 0)))] H := hP
  have hD : va_D A [(xh0, .inr (0, [.ref xh1, .ref xh2, .ref xh3, .int 0, .int 4, .int 0, .int 0, .int 0, .int 0, .int 0, .int 0, .int 0, .int 0, .int 0])), (xh1, .inl (xc1, 60, .inl (fun _ => 0))), (xh2, .inl (xc2, 60, .inl (fun _ => 0))), (xh3, .inl (xc3, 60, .inl (fun _ => 0)))] := hD
  refine lv_aload_n hx hb dX0_init_48 rfl (lv_at hl 0 rfl) ?_
  refine lv_iconst (v := 0) hx hb dX0_init_49 (by decide) ?_
  refine va_put (D := (dC, dI)) (ci := 0) (v := .int 0) (ty := .int) (C := RX0) (T := TX0) (N := 14) hx hb htG inX0 tyX0 tyX0_ok nmX0 hown hK hP hD hS 0 rfl rfl 7 (by decide) (htG _ wd_47) (fun _ h9 => h9) rfl (by decide +kernel) rfl rfl (Nat.le_of_ble_eq_true rfl) dX0_init_50 (fun H locs hP hD hS => ?_)
  have hP : va_P (dC, dI) vwCl [(xh0, .inr (0, [.ref xh1, .ref xh2, .ref xh3, .int 0, .int 4, .int 0, .int 0, .int 0, .int 0, .int 0, .int 0, .int 0, .int 0, .int 0])), (xh1, .inl (xc1, 60, .inl (fun _ => 0))), (xh2, .inl (xc2, 60, .inl (fun _ => 0))), (xh3, .inl (xc3, 60, .inl (fun _ => 0)))] H := hP
  have hD : va_D A [(xh0, .inr (0, [.ref xh1, .ref xh2, .ref xh3, .int 0, .int 4, .int 0, .int 0, .int 0, .int 0, .int 0, .int 0, .int 0, .int 0, .int 0])), (xh1, .inl (xc1, 60, .inl (fun _ => 0))), (xh2, .inl (xc2, 60, .inl (fun _ => 0))), (xh3, .inl (xc3, 60, .inl (fun _ => 0)))] := hD
  refine lv_aload_n hx hb dX0_init_53 rfl (lv_at hl 0 rfl) ?_
  refine lv_iconst (v := 0) hx hb dX0_init_54 (by decide) ?_
  refine va_put (D := (dC, dI)) (ci := 0) (v := .int 0) (ty := .int) (C := RX0) (T := TX0) (N := 14) hx hb htG inX0 tyX0 tyX0_ok nmX0 hown hK hP hD hS 0 rfl rfl 8 (by decide) (htG _ wd_48) (fun _ h9 => h9) rfl (by decide +kernel) rfl rfl (Nat.le_of_ble_eq_true rfl) dX0_init_55 (fun H locs hP hD hS => ?_)
  have hP : va_P (dC, dI) vwCl [(xh0, .inr (0, [.ref xh1, .ref xh2, .ref xh3, .int 0, .int 4, .int 0, .int 0, .int 0, .int 0, .int 0, .int 0, .int 0, .int 0, .int 0])), (xh1, .inl (xc1, 60, .inl (fun _ => 0))), (xh2, .inl (xc2, 60, .inl (fun _ => 0))), (xh3, .inl (xc3, 60, .inl (fun _ => 0)))] H := hP
  have hD : va_D A [(xh0, .inr (0, [.ref xh1, .ref xh2, .ref xh3, .int 0, .int 4, .int 0, .int 0, .int 0, .int 0, .int 0, .int 0, .int 0, .int 0, .int 0])), (xh1, .inl (xc1, 60, .inl (fun _ => 0))), (xh2, .inl (xc2, 60, .inl (fun _ => 0))), (xh3, .inl (xc3, 60, .inl (fun _ => 0)))] := hD
  refine lv_aload_n hx hb dX0_init_58 rfl (lv_at hl 0 rfl) ?_
  refine lv_iconst (v := 0) hx hb dX0_init_59 (by decide) ?_
  refine va_put (D := (dC, dI)) (ci := 0) (v := .int 0) (ty := .int) (C := RX0) (T := TX0) (N := 14) hx hb htG inX0 tyX0 tyX0_ok nmX0 hown hK hP hD hS 0 rfl rfl 9 (by decide) (htG _ wd_49) (fun _ h9 => h9) rfl (by decide +kernel) rfl rfl (Nat.le_of_ble_eq_true rfl) dX0_init_60 (fun H locs hP hD hS => ?_)
  have hP : va_P (dC, dI) vwCl [(xh0, .inr (0, [.ref xh1, .ref xh2, .ref xh3, .int 0, .int 4, .int 0, .int 0, .int 0, .int 0, .int 0, .int 0, .int 0, .int 0, .int 0])), (xh1, .inl (xc1, 60, .inl (fun _ => 0))), (xh2, .inl (xc2, 60, .inl (fun _ => 0))), (xh3, .inl (xc3, 60, .inl (fun _ => 0)))] H := hP
  have hD : va_D A [(xh0, .inr (0, [.ref xh1, .ref xh2, .ref xh3, .int 0, .int 4, .int 0, .int 0, .int 0, .int 0, .int 0, .int 0, .int 0, .int 0, .int 0])), (xh1, .inl (xc1, 60, .inl (fun _ => 0))), (xh2, .inl (xc2, 60, .inl (fun _ => 0))), (xh3, .inl (xc3, 60, .inl (fun _ => 0)))] := hD
  refine lv_aload_n hx hb dX0_init_63 rfl (lv_at hl 0 rfl) ?_
  refine lv_iconst (v := 0) hx hb dX0_init_64 (by decide) ?_
  refine va_put (D := (dC, dI)) (ci := 0) (v := .int 0) (ty := .int) (C := RX0) (T := TX0) (N := 14) hx hb htG inX0 tyX0 tyX0_ok nmX0 hown hK hP hD hS 0 rfl rfl 10 (by decide) (htG _ wd_50) (fun _ h9 => h9) rfl (by decide +kernel) rfl rfl (Nat.le_of_ble_eq_true rfl) dX0_init_65 (fun H locs hP hD hS => ?_)
  have hP : va_P (dC, dI) vwCl [(xh0, .inr (0, [.ref xh1, .ref xh2, .ref xh3, .int 0, .int 4, .int 0, .int 0, .int 0, .int 0, .int 0, .int 0, .int 0, .int 0, .int 0])), (xh1, .inl (xc1, 60, .inl (fun _ => 0))), (xh2, .inl (xc2, 60, .inl (fun _ => 0))), (xh3, .inl (xc3, 60, .inl (fun _ => 0)))] H := hP
  have hD : va_D A [(xh0, .inr (0, [.ref xh1, .ref xh2, .ref xh3, .int 0, .int 4, .int 0, .int 0, .int 0, .int 0, .int 0, .int 0, .int 0, .int 0, .int 0])), (xh1, .inl (xc1, 60, .inl (fun _ => 0))), (xh2, .inl (xc2, 60, .inl (fun _ => 0))), (xh3, .inl (xc3, 60, .inl (fun _ => 0)))] := hD
  refine lv_aload_n hx hb dX0_init_68 rfl (lv_at hl 0 rfl) ?_
  refine lv_iconst (v := 0) hx hb dX0_init_69 (by decide) ?_
  refine va_put (D := (dC, dI)) (ci := 0) (v := .int 0) (ty := .int) (C := RX0) (T := TX0) (N := 14) hx hb htG inX0 tyX0 tyX0_ok nmX0 hown hK hP hD hS 0 rfl rfl 11 (by decide) (htG _ wd_51) (fun _ h9 => h9) rfl (by decide +kernel) rfl rfl (Nat.le_of_ble_eq_true rfl) dX0_init_70 (fun H locs hP hD hS => ?_)
  have hP : va_P (dC, dI) vwCl [(xh0, .inr (0, [.ref xh1, .ref xh2, .ref xh3, .int 0, .int 4, .int 0, .int 0, .int 0, .int 0, .int 0, .int 0, .int 0, .int 0, .int 0])), (xh1, .inl (xc1, 60, .inl (fun _ => 0))), (xh2, .inl (xc2, 60, .inl (fun _ => 0))), (xh3, .inl (xc3, 60, .inl (fun _ => 0)))] H := hP
  have hD : va_D A [(xh0, .inr (0, [.ref xh1, .ref xh2, .ref xh3, .int 0, .int 4, .int 0, .int 0, .int 0, .int 0, .int 0, .int 0, .int 0, .int 0, .int 0])), (xh1, .inl (xc1, 60, .inl (fun _ => 0))), (xh2, .inl (xc2, 60, .inl (fun _ => 0))), (xh3, .inl (xc3, 60, .inl (fun _ => 0)))] := hD
  refine lv_aload_n hx hb dX0_init_73 rfl (lv_at hl 0 rfl) ?_
  refine lv_iconst (v := 0) hx hb dX0_init_74 (by decide) ?_
  refine va_put (D := (dC, dI)) (ci := 0) (v := .int 0) (ty := .int) (C := RX0) (T := TX0) (N := 14) hx hb htG inX0 tyX0 tyX0_ok nmX0 hown hK hP hD hS 0 rfl rfl 12 (by decide) (htG _ wd_52) (fun _ h9 => h9) rfl (by decide +kernel) rfl rfl (Nat.le_of_ble_eq_true rfl) dX0_init_75 (fun H locs hP hD hS => ?_)
  have hP : va_P (dC, dI) vwCl [(xh0, .inr (0, [.ref xh1, .ref xh2, .ref xh3, .int 0, .int 4, .int 0, .int 0, .int 0, .int 0, .int 0, .int 0, .int 0, .int 0, .int 0])), (xh1, .inl (xc1, 60, .inl (fun _ => 0))), (xh2, .inl (xc2, 60, .inl (fun _ => 0))), (xh3, .inl (xc3, 60, .inl (fun _ => 0)))] H := hP
  have hD : va_D A [(xh0, .inr (0, [.ref xh1, .ref xh2, .ref xh3, .int 0, .int 4, .int 0, .int 0, .int 0, .int 0, .int 0, .int 0, .int 0, .int 0, .int 0])), (xh1, .inl (xc1, 60, .inl (fun _ => 0))), (xh2, .inl (xc2, 60, .inl (fun _ => 0))), (xh3, .inl (xc3, 60, .inl (fun _ => 0)))] := hD
  refine lv_aload_n hx hb dX0_init_78 rfl (lv_at hl 0 rfl) ?_
  refine lv_iconst (v := 0) hx hb dX0_init_79 (by decide) ?_
  refine va_put (D := (dC, dI)) (ci := 0) (v := .int 0) (ty := .int) (C := RX0) (T := TX0) (N := 14) hx hb htG inX0 tyX0 tyX0_ok nmX0 hown hK hP hD hS 0 rfl rfl 13 (by decide) (htG _ wd_53) (fun _ h9 => h9) rfl (by decide +kernel) rfl rfl (Nat.le_of_ble_eq_true rfl) dX0_init_80 (fun H locs hP hD hS => ?_)
  have hP : va_P (dC, dI) vwCl [(xh0, .inr (0, [.ref xh1, .ref xh2, .ref xh3, .int 0, .int 4, .int 0, .int 0, .int 0, .int 0, .int 0, .int 0, .int 0, .int 0, .int 0])), (xh1, .inl (xc1, 60, .inl (fun _ => 0))), (xh2, .inl (xc2, 60, .inl (fun _ => 0))), (xh3, .inl (xc3, 60, .inl (fun _ => 0)))] H := hP
  have hD : va_D A [(xh0, .inr (0, [.ref xh1, .ref xh2, .ref xh3, .int 0, .int 4, .int 0, .int 0, .int 0, .int 0, .int 0, .int 0, .int 0, .int 0, .int 0])), (xh1, .inl (xc1, 60, .inl (fun _ => 0))), (xh2, .inl (xc2, 60, .inl (fun _ => 0))), (xh3, .inl (xc3, 60, .inl (fun _ => 0)))] := hD
  exact W.vret hx hb hr (fun t ht hW => ⟨⟨((fun _ => 0), (fun _ => 0), (fun _ => 0), 0, 4, 0, 0, 0, 0, 0, 0, 0, 0, 0), rfl, rfl, xh1, xh2, xh3, xc1, xc2, xc3, by rw [ht]; exact hP, va_K.moved hW.alike hK, hD⟩, hS.F ht⟩) hS.2.2 dX0_init_83
abbrev wsX1_init : List Cond := .code yX1_init cX1_init 1 none :: wG
def mWI : mWS := ((fun _ => 0), (fun _ => 0), (fun _ => 0), 0, 4, 0, 0, 0, 0, 0, 0, 0, 0)
set_option maxHeartbeats 4000000 in
set_option maxRecDepth 100000 in
theorem mX1_init (l : Launch) (dC : Nat → ClassId) (dI : Nat → Nat → Nat) (mh0 : Nat) (sz : Nat) : Met l yX1_init wsX1_init ({ frames := 1, cells := 3, slots := 180, locals := 12 }) (va_Pc [.ref mh0] (fun U => U.heap.size = sz ∧ va_P (dC, dI) vwCl [(mh0, .inr (1, [.int 0, .int 0, .int 0, .int 0, .int 0, .int 0, .int 0, .int 0, .int 0, .int 0, .null, .null, .null]))] U.heap ∧ va_K (dC, dI) vwCl [] U ∧ va_D (fun _ => True) [(mh0, .inr (1, [.int 0, .int 0, .int 0, .int 0, .int 0, .int 0, .int 0, .int 0, .int 0, .int 0, .null, .null, .null]))])) (va_Qv (fun u => u = mWI) (fun u t => ∃ (mh1 mh2 mh3 : Nat) (mc1 mc2 mc3 : ClassId), mWB dC dI (va_A [(mh0, .inr (1, [.int 0, .int 0, .int 0, .int 0, .int 0, .int 0, .int 0, .int 0, .int 0, .int 0, .null, .null, .null]))] sz) mh0 mh1 mh2 mh3 mc1 mc2 mc3 u t) (va_A [(mh0, .inr (1, [.int 0, .int 0, .int 0, .int 0, .int 0, .int 0, .int 0, .int 0, .int 0, .int 0, .null, .null, .null]))] sz)) 3 180 (va_A [(mh0, .inr (1, [.int 0, .int 0, .int 0, .int 0, .int 0, .int 0, .int 0, .int 0, .int 0, .int 0, .null, .null, .null]))] sz) := by
  refine Met.ofW (cc := cX1_init) (maxL := 1) (ret := none) (by decide) rfl ?_
  intro p e s m args below meth c s₁ B hml hv
  obtain ⟨rfl, hsz, hP, hK, hD0⟩ := hv
  have hx := B.exec
  have hb := B.bytes
  have hr := B.returns
  have hts := atoms_spec (ws := wsX1_init) B.pre
  have htG := fun (w : Cond) (h : w ∈ wG) => hts w (List.mem_cons_of_mem _ h)
  have hown : s.vm.findClass RX1 = some m.cls := findClass_of_methodNamed B.named
  have hlocks := B.notSynchronized
  have hin : meth.name = "<init>" := (name_of_methodNamed B.named B.method).1
  subst hsz
  have hD := hD0.self (sz := s.heap.size)
  generalize hAe : va_A [(mh0, .inr (1, [.int 0, .int 0, .int 0, .int 0, .int 0, .int 0, .int 0, .int 0, .int 0, .int 0, .null, .null, .null]))] s.heap.size = A at hD ⊢
  have hA : ∀ q : Nat, s.heap.size ≤ q → A q := fun q h => by rw [← hAe]; exact Or.inr h
  have hS : va_S A s.heap s.heap [] := va_S.rf
  have hP : va_P (dC, dI) vwCl [(mh0, .inr (1, [.int 0, .int 0, .int 0, .int 0, .int 0, .int 0, .int 0, .int 0, .int 0, .int 0, .null, .null, .null]))] s.heap := hP
  have hl := lv_entry ([.ref mh0]) (n := 1) (Nat.le_of_ble_eq_true rfl)
  rw [lg_entry_eq]
  generalize (lg_sl ([.ref mh0]) ++ List.replicate (1 - (lg_sl ([.ref mh0])).length) Slot.unset).toArray = ls at hl ⊢
  have hl : lv_has ls 1 [(0, .ref mh0)] := hl
  refine lv_aload_n hx hb dX1_init_0 rfl (lv_at hl 0 rfl) ?_
  refine W.objInit hx hb hown (htG _ wd_330) (htG _ wd_38) (htG _ wd_39) rfl (by rw [hml]; exact hl.1) rfl dX1_init_1 (Nat.le_of_ble_eq_true rfl) (Nat.le_of_ble_eq_true rfl) ?_
  refine W.eq (g2 := F0 m 4 ls []) rfl ?_
  refine lv_aload_n hx hb dX1_init_4 rfl (lv_at hl 0 rfl) ?_
  refine lv_iconst (v := 4) hx hb dX1_init_5 (by decide) ?_
  refine va_put (D := (dC, dI)) (ci := 1) (v := .int 4) (ty := .int) (C := RX1) (T := TX1) (N := 13) hx hb htG inX1 tyX1 tyX1_ok nmX1 hown hK hP hD hS 0 rfl rfl 1 (by decide) (htG _ wd_332) (fun _ h9 => h9) rfl (by decide +kernel) rfl rfl (Nat.le_of_ble_eq_true rfl) dX1_init_6 (fun H locs hP hD hS => ?_)
  have hP : va_P (dC, dI) vwCl [(mh0, .inr (1, [.int 0, .int 4, .int 0, .int 0, .int 0, .int 0, .int 0, .int 0, .int 0, .int 0, .null, .null, .null]))] H := hP
  have hD : va_D A [(mh0, .inr (1, [.int 0, .int 4, .int 0, .int 0, .int 0, .int 0, .int 0, .int 0, .int 0, .int 0, .null, .null, .null]))] := hD
  refine lv_aload_n hx hb dX1_init_9 rfl (lv_at hl 0 rfl) ?_
  refine lv_bipush (v := 60) hx hb dX1_init_10 (by decide) ?_
  refine va_newa (atype := .int) (N' := 60) (a0 := (60, .inl (fun _ => 0))) (ty := .int) (n := 60) hx hb (htG _ wd_83) rfl hK hP hD hS hA (fun _ => rfl) (by decide) (by decide) (by decide) (Nat.le_of_ble_eq_true rfl) (Nat.le_of_ble_eq_true rfl) dX1_init_12 (fun mh1 mc1 H hK hP hD hS => ?_)
  have hP : va_P (dC, dI) vwCl [(mh0, .inr (1, [.int 0, .int 4, .int 0, .int 0, .int 0, .int 0, .int 0, .int 0, .int 0, .int 0, .null, .null, .null])), (mh1, .inl (mc1, 60, .inl (fun _ => 0)))] H := hP
  have hD : va_D A [(mh0, .inr (1, [.int 0, .int 4, .int 0, .int 0, .int 0, .int 0, .int 0, .int 0, .int 0, .int 0, .null, .null, .null])), (mh1, .inl (mc1, 60, .inl (fun _ => 0)))] := hD
  have hK : va_K (dC, dI) vwCl [(mc1, .int)] s := hK
  refine W.widen (k := 1) (n := 60) (Nat.le_of_ble_eq_true rfl) (Nat.le_of_ble_eq_true rfl) ?_
  refine va_putF (D := (dC, dI)) (ci := 1) (v := .ref mh1) (ty := .array .int) (C := RX1) (T := TX1) (N := 13) hx hb htG inX1 tyX1 tyX1_ok nmX1 hown hK hP hD hS 0 rfl rfl 10 (by decide) (htG _ wd_341) (fun _ h9 => h9) rfl hin rfl (by decide +kernel) rfl rfl (Nat.le_of_ble_eq_true rfl) dX1_init_14 (fun H locs hP hD hS => ?_)
  have hP : va_P (dC, dI) vwCl [(mh0, .inr (1, [.int 0, .int 4, .int 0, .int 0, .int 0, .int 0, .int 0, .int 0, .int 0, .int 0, .ref mh1, .null, .null])), (mh1, .inl (mc1, 60, .inl (fun _ => 0)))] H := hP
  have hD : va_D A [(mh0, .inr (1, [.int 0, .int 4, .int 0, .int 0, .int 0, .int 0, .int 0, .int 0, .int 0, .int 0, .ref mh1, .null, .null])), (mh1, .inl (mc1, 60, .inl (fun _ => 0)))] := hD
  refine lv_aload_n hx hb dX1_init_17 rfl (lv_at hl 0 rfl) ?_
  refine lv_bipush (v := 60) hx hb dX1_init_18 (by decide) ?_
  refine va_newa (atype := .int) (N' := 60) (a0 := (60, .inl (fun _ => 0))) (ty := .int) (n := 60) hx hb (htG _ wd_83) rfl hK hP hD hS hA (fun _ => rfl) (by decide) (by decide) (by decide) (Nat.le_of_ble_eq_true rfl) (Nat.le_of_ble_eq_true rfl) dX1_init_20 (fun mh2 mc2 H hK hP hD hS => ?_)
  have hP : va_P (dC, dI) vwCl [(mh0, .inr (1, [.int 0, .int 4, .int 0, .int 0, .int 0, .int 0, .int 0, .int 0, .int 0, .int 0, .ref mh1, .null, .null])), (mh1, .inl (mc1, 60, .inl (fun _ => 0))), (mh2, .inl (mc2, 60, .inl (fun _ => 0)))] H := hP
  have hD : va_D A [(mh0, .inr (1, [.int 0, .int 4, .int 0, .int 0, .int 0, .int 0, .int 0, .int 0, .int 0, .int 0, .ref mh1, .null, .null])), (mh1, .inl (mc1, 60, .inl (fun _ => 0))), (mh2, .inl (mc2, 60, .inl (fun _ => 0)))] := hD
  have hK : va_K (dC, dI) vwCl [(mc1, .int), (mc2, .int)] s := hK
  refine W.widen (k := 2) (n := 120) (Nat.le_of_ble_eq_true rfl) (Nat.le_of_ble_eq_true rfl) ?_
  refine va_putF (D := (dC, dI)) (ci := 1) (v := .ref mh2) (ty := .array .int) (C := RX1) (T := TX1) (N := 13) hx hb htG inX1 tyX1 tyX1_ok nmX1 hown hK hP hD hS 0 rfl rfl 11 (by decide) (htG _ wd_342) (fun _ h9 => h9) rfl hin rfl (by decide +kernel) rfl rfl (Nat.le_of_ble_eq_true rfl) dX1_init_22 (fun H locs hP hD hS => ?_)
  have hP : va_P (dC, dI) vwCl [(mh0, .inr (1, [.int 0, .int 4, .int 0, .int 0, .int 0, .int 0, .int 0, .int 0, .int 0, .int 0, .ref mh1, .ref mh2, .null])), (mh1, .inl (mc1, 60, .inl (fun _ => 0))), (mh2, .inl (mc2, 60, .inl (fun _ => 0)))] H := hP
  have hD : va_D A [(mh0, .inr (1, [.int 0, .int 4, .int 0, .int 0, .int 0, .int 0, .int 0, .int 0, .int 0, .int 0, .ref mh1, .ref mh2, .null])), (mh1, .inl (mc1, 60, .inl (fun _ => 0))), (mh2, .inl (mc2, 60, .inl (fun _ => 0)))] := hD
  refine lv_aload_n hx hb dX1_init_25 rfl (lv_at hl 0 rfl) ?_
  refine lv_bipush (v := 60) hx hb dX1_init_26 (by decide) ?_
  refine va_newa (atype := .int) (N' := 60) (a0 := (60, .inl (fun _ => 0))) (ty := .int) (n := 60) hx hb (htG _ wd_83) rfl hK hP hD hS hA (fun _ => rfl) (by decide) (by decide) (by decide) (Nat.le_of_ble_eq_true rfl) (Nat.le_of_ble_eq_true rfl) dX1_init_28 (fun mh3 mc3 H hK hP hD hS => ?_)
  have hP : va_P (dC, dI) vwCl [(mh0, .inr (1, [.int 0, .int 4, .int 0, .int 0, .int 0, .int 0, .int 0, .int 0, .int 0, .int 0, .ref mh1, .ref mh2, .null])), (mh1, .inl (mc1, 60, .inl (fun _ => 0))), (mh2, .inl (mc2, 60, .inl (fun _ => 0))), (mh3, .inl (mc3, 60, .inl (fun _ => 0)))] H := hP
  have hD : va_D A [(mh0, .inr (1, [.int 0, .int 4, .int 0, .int 0, .int 0, .int 0, .int 0, .int 0, .int 0, .int 0, .ref mh1, .ref mh2, .null])), (mh1, .inl (mc1, 60, .inl (fun _ => 0))), (mh2, .inl (mc2, 60, .inl (fun _ => 0))), (mh3, .inl (mc3, 60, .inl (fun _ => 0)))] := hD
  have hK : va_K (dC, dI) vwCl [(mc1, .int), (mc2, .int), (mc3, .int)] s := hK
  refine W.widen (k := 3) (n := 180) (Nat.le_of_ble_eq_true rfl) (Nat.le_of_ble_eq_true rfl) ?_
  refine va_putF (D := (dC, dI)) (ci := 1) (v := .ref mh3) (ty := .array .int) (C := RX1) (T := TX1) (N := 13) hx hb htG inX1 tyX1 tyX1_ok nmX1 hown hK hP hD hS 0 rfl rfl 12 (by decide) (htG _ wd_343) (fun _ h9 => h9) rfl hin rfl (by decide +kernel) rfl rfl (Nat.le_of_ble_eq_true rfl) dX1_init_30 (fun H locs hP hD hS => ?_)
  have hP : va_P (dC, dI) vwCl [(mh0, .inr (1, [.int 0, .int 4, .int 0, .int 0, .int 0, .int 0, .int 0, .int 0, .int 0, .int 0, .ref mh1, .ref mh2, .ref mh3])), (mh1, .inl (mc1, 60, .inl (fun _ => 0))), (mh2, .inl (mc2, 60, .inl (fun _ => 0))), (mh3, .inl (mc3, 60, .inl (fun _ => 0)))] H := hP
  have hD : va_D A [(mh0, .inr (1, [.int 0, .int 4, .int 0, .int 0, .int 0, .int 0, .int 0, .int 0, .int 0, .int 0, .ref mh1, .ref mh2, .ref mh3])), (mh1, .inl (mc1, 60, .inl (fun _ => 0))), (mh2, .inl (mc2, 60, .inl (fun _ => 0))), (mh3, .inl (mc3, 60, .inl (fun _ => 0)))] := hD
  exact W.vret hx hb hr (fun t ht hW => ⟨⟨((fun _ => 0), (fun _ => 0), (fun _ => 0), 0, 4, 0, 0, 0, 0, 0, 0, 0, 0), rfl, rfl, mh1, mh2, mh3, mc1, mc2, mc3, by rw [ht]; exact hP, va_K.moved hW.alike hK, hD⟩, hS.F ht⟩) hS.2.2 dX1_init_33
