def fX1_area (mk1 mk2 mk3 : Nat → Int32) (mf1 mf2 : Int32) : Int32 :=
  if 16 ≤ (fX1_filled (fX1_home mk1 mk2 mk3 mf1 mf2 mf2) 8) then (fX1_filled (fX1_home mk1 mk2 mk3 mf1 mf2 mf2) 8)
  else 16

abbrev wsX1_area : List Cond := .code yX1_area cX1_area 2 (some .int) :: wG
set_option maxHeartbeats 4000000 in
set_option maxRecDepth 100000 in
theorem mX1_area (l : Launch) (dC : Nat → ClassId) (dI : Nat → Nat → Nat) (mh0 mh1 mh2 mh3 : Nat) (mc1 mc2 mc3 : ClassId) (mk1 mk2 mk3 : Nat → Int32) (mf0 mf1 mf2 mf3 mf4 mf5 mf6 mf7 mf8 mf9 : Int32)  (hN : mf2.toNatClampNeg ≤ 60) : Met l yX1_area wsX1_area ({ frames := 2, cells := 0, slots := 0, locals := 44 }) (va_Pc [.ref mh0] (fun U => va_P (dC, dI) vwCl (mW mh0 mh1 mh2 mh3 mc1 mc2 mc3 mk1 mk2 mk3 mf0 mf1 mf2 mf3 mf4 mf5 mf6 mf7 mf8 mf9) U.heap ∧ va_K (dC, dI) vwCl [(mc1, .int), (mc2, .int), (mc3, .int)] U)) (vp_Si (fun r => r = fX1_area mk1 mk2 mk3 mf1 mf2)) 0 0 (fun _ => False) := by
  refine Met.ofW (cc := cX1_area) (maxL := 2) (ret := (some .int)) (by decide) rfl ?_
  intro p e s m args below meth c s₁ B hml hv
  obtain ⟨rfl, hP, hK⟩ := hv
  have hx := B.exec
  have hb := B.bytes
  have hr := B.returns
  have hts := atoms_spec (ws := wsX1_area) B.pre
  have htG := fun (w : Cond) (h : w ∈ wG) => hts w (List.mem_cons_of_mem _ h)
  have hown : s.vm.findClass RX1 = some m.cls := findClass_of_methodNamed B.named
  have hlocks := B.notSynchronized
  have hl := lv_entry ([.ref mh0]) (n := 2) (Nat.le_of_ble_eq_true rfl)
  rw [lg_entry_eq]
  generalize (lg_sl ([.ref mh0]) ++ List.replicate (2 - (lg_sl ([.ref mh0])).length) Slot.unset).toArray = ls at hl ⊢
  have hl : lv_has ls 2 [(0, .ref mh0)] := hl
  refine lv_aload_n hx hb dX1_area_0 rfl (lv_at hl 0 rfl) ?_
  refine lv_aload_n hx hb dX1_area_1 rfl (lv_at hl 0 rfl) ?_
  refine va_get (D := (dC, dI)) (ci := 1) (v := .int mf2) (C := RX1) (T := TX1) (N := 13) hx hb htG inX1 hown hK hP 0 rfl rfl 2 (by decide) (htG _ wd_333) (fun _ h9 => h9) rfl dX1_area_2 ?_
  refine vp_callSi (va_runV (As := [.int mf2]) (rest := []) ⟨hx, hb, hml, hown, htG⟩ (mX1_home l dC dI mh0 mh1 mh2 mh3 mc1 mc2 mc3 mk1 mk2 mk3 mf0 mf1 mf2 mf3 mf4 mf5 mf6 mf7 mf8 mf9 mf2 hN (fun h => absurd (ile_refl _) h)) (cwV 1 htG (wG_V wd_391 wd_393 wd_12 wd_23 wd_394) rfl rfl rfl (by decide +kernel) ⟨Nat.le_of_ble_eq_true rfl, Nat.le_of_ble_eq_true rfl⟩) ⟨fun a U g mk q => by obtain ⟨q0, qP, qK⟩ := q; exact ⟨q0, qP, va_K.moved (u := U) (U := U.calling g mk a) (Vm.Alike.refl U.vm) qK⟩, va_recv hK hP (ci := 1) (q0 := 0) rfl rfl, fun U hU hW => ⟨rfl, by rw [hU]; exact hP, va_K.moved hW.alike hK⟩⟩ rfl rfl hl.1 rfl (lv_room (Nat.le_of_ble_eq_true rfl)) dX1_area_5 ⟨Nat.le_of_ble_eq_true rfl, Nat.le_of_ble_eq_true rfl⟩).run (fun r_1 er_1 => ?_)
  subst er_1
  refine lv_bipush (v := 8) hx hb dX1_area_8 (by decide) ?_
  refine vp_callSi (va_runS (As := [.int (fX1_home mk1 mk2 mk3 mf1 mf2 mf2), .int 8]) (rest := []) ⟨hx, hb, hml, hown, htG⟩ (mX1_filled l (fX1_home mk1 mk2 mk3 mf1 mf2 mf2) 8 (by decide)) (va_cwS 2 htG (wG_S wd_399 wd_400 wd_23 wd_401) rfl rfl rfl (by decide +kernel) ⟨Nat.le_of_ble_eq_true rfl, Nat.le_of_ble_eq_true rfl⟩) ⟨fun _ _ _ _ q => q, fun U hU hW => ⟨rfl, trivial⟩⟩ rfl rfl hl.1 rfl (lv_room (Nat.le_of_ble_eq_true rfl)) dX1_area_10 ⟨Nat.le_of_ble_eq_true rfl, Nat.le_of_ble_eq_true rfl⟩).run (fun r_2 er_2 => ?_)
  subst er_2
  refine lv_istore_n (lv' := [(1, .int (fX1_filled (fX1_home mk1 mk2 mk3 mf1 mf2 mf2) 8)), (0, .ref mh0)]) hx hb dX1_area_13 rfl hl (by decide) rfl (fun ls hl => ?_)
  refine lv_iload_n hx hb dX1_area_14 rfl (lv_at hl 0 rfl) ?_
  refine lv_bipush (v := 16) hx hb dX1_area_15 (by decide) ?_
  refine lv_icmp_ge (tgt := 25) hx hb dX1_area_17 (by decide) (fun c_1 => ?_) (fun c_1 => ?_)
  · refine lv_iload_n hx hb dX1_area_25 rfl (lv_at hl 0 rfl) ?_
    exact W.iret (v := (fX1_filled (fX1_home mk1 mk2 mk3 mf1 mf2 mf2) 8)) hx hb hr (fun t ht hW => ⟨(fX1_filled (fX1_home mk1 mk2 mk3 mf1 mf2 mf2) 8), rfl, (by rw [fX1_area, if_pos c_1]), ht⟩) (fun q h => nomatch h) dX1_area_26
  · refine lv_bipush (v := 16) hx hb dX1_area_20 (by decide) ?_
    refine lv_goto (tgt := 26) hx hb dX1_area_22 (by decide) ?_
    exact W.iret (v := 16) hx hb hr (fun t ht hW => ⟨16, rfl, (by rw [fX1_area, if_neg c_1]), ht⟩) (fun q h => nomatch h) dX1_area_26

def fX1_generalAt (mf6 mf7 mf8 : Int32) : Int32 :=
  ((fX1_fractionsAt mf7 mf8) + (fX1_saved mf6 32 8))

abbrev wsX1_generalAt : List Cond := .code yX1_generalAt cX1_generalAt 1 (some .int) :: wG
set_option maxHeartbeats 4000000 in
set_option maxRecDepth 100000 in
theorem mX1_generalAt (l : Launch) (dC : Nat → ClassId) (dI : Nat → Nat → Nat) (mh0 mh1 mh2 mh3 : Nat) (mc1 mc2 mc3 : ClassId) (mk1 mk2 mk3 : Nat → Int32) (mf0 mf1 mf2 mf3 mf4 mf5 mf6 mf7 mf8 mf9 : Int32)   : Met l yX1_generalAt wsX1_generalAt ({ frames := 2, cells := 0, slots := 0, locals := 41 }) (va_Pc [.ref mh0] (fun U => va_P (dC, dI) vwCl (mW mh0 mh1 mh2 mh3 mc1 mc2 mc3 mk1 mk2 mk3 mf0 mf1 mf2 mf3 mf4 mf5 mf6 mf7 mf8 mf9) U.heap ∧ va_K (dC, dI) vwCl [(mc1, .int), (mc2, .int), (mc3, .int)] U)) (vp_Si (fun r => r = fX1_generalAt mf6 mf7 mf8)) 0 0 (fun _ => False) := by
  refine Met.ofW (cc := cX1_generalAt) (maxL := 1) (ret := (some .int)) (by decide) rfl ?_
  intro p e s m args below meth c s₁ B hml hv
  obtain ⟨rfl, hP, hK⟩ := hv
  have hx := B.exec
  have hb := B.bytes
  have hr := B.returns
  have hts := atoms_spec (ws := wsX1_generalAt) B.pre
  have htG := fun (w : Cond) (h : w ∈ wG) => hts w (List.mem_cons_of_mem _ h)
  have hown : s.vm.findClass RX1 = some m.cls := findClass_of_methodNamed B.named
  have hlocks := B.notSynchronized
  have hl := lv_entry ([.ref mh0]) (n := 1) (Nat.le_of_ble_eq_true rfl)
  rw [lg_entry_eq]
  generalize (lg_sl ([.ref mh0]) ++ List.replicate (1 - (lg_sl ([.ref mh0])).length) Slot.unset).toArray = ls at hl ⊢
  have hl : lv_has ls 1 [(0, .ref mh0)] := hl
  refine lv_aload_n hx hb dX1_generalAt_0 rfl (lv_at hl 0 rfl) ?_
  refine vp_callSi (va_runV (As := []) (rest := []) ⟨hx, hb, hml, hown, htG⟩ (mX1_fractionsAt l dC dI mh0 mh1 mh2 mh3 mc1 mc2 mc3 mk1 mk2 mk3 mf0 mf1 mf2 mf3 mf4 mf5 mf6 mf7 mf8 mf9) (cwV 0 htG (wG_V wd_450 wd_452 wd_20 wd_23 wd_453) rfl rfl rfl (by decide +kernel) ⟨Nat.le_of_ble_eq_true rfl, Nat.le_of_ble_eq_true rfl⟩) ⟨fun a U g mk q => by obtain ⟨q0, qP, qK⟩ := q; exact ⟨q0, qP, va_K.moved (u := U) (U := U.calling g mk a) (Vm.Alike.refl U.vm) qK⟩, va_recv hK hP (ci := 1) (q0 := 0) rfl rfl, fun U hU hW => ⟨rfl, by rw [hU]; exact hP, va_K.moved hW.alike hK⟩⟩ rfl rfl hl.1 rfl (lv_room (Nat.le_of_ble_eq_true rfl)) dX1_generalAt_1 ⟨Nat.le_of_ble_eq_true rfl, Nat.le_of_ble_eq_true rfl⟩).run (fun r_1 er_1 => ?_)
  subst er_1
  refine lv_aload_n hx hb dX1_generalAt_4 rfl (lv_at hl 0 rfl) ?_
  refine va_get (D := (dC, dI)) (ci := 1) (v := .int mf6) (C := RX1) (T := TX1) (N := 13) hx hb htG inX1 hown hK hP 0 rfl rfl 6 (by decide) (htG _ wd_337) (fun _ h9 => h9) rfl dX1_generalAt_5 ?_
  refine lv_bipush (v := 32) hx hb dX1_generalAt_8 (by decide) ?_
  refine lv_bipush (v := 8) hx hb dX1_generalAt_10 (by decide) ?_
  refine vp_callSi (va_runS (As := [.int mf6, .int 32, .int 8]) (rest := [.int (fX1_fractionsAt mf7 mf8)]) ⟨hx, hb, hml, hown, htG⟩ (mX1_saved l mf6 32 8) (va_cwS 3 htG (wG_S wd_454 wd_455 wd_23 wd_456) rfl rfl rfl (by decide +kernel) ⟨Nat.le_of_ble_eq_true rfl, Nat.le_of_ble_eq_true rfl⟩) ⟨fun _ _ _ _ q => q, fun U hU hW => ⟨rfl, trivial⟩⟩ rfl rfl hl.1 rfl (lv_room (Nat.le_of_ble_eq_true rfl)) dX1_generalAt_12 ⟨Nat.le_of_ble_eq_true rfl, Nat.le_of_ble_eq_true rfl⟩).run (fun r_2 er_2 => ?_)
  subst er_2
  refine lv_iadd hx hb dX1_generalAt_15 ?_
  exact W.iret (v := ((fX1_fractionsAt mf7 mf8) + (fX1_saved mf6 32 8))) hx hb hr (fun t ht hW => ⟨((fX1_fractionsAt mf7 mf8) + (fX1_saved mf6 32 8)), rfl, (by rw [fX1_generalAt]), ht⟩) (fun q h => nomatch h) dX1_generalAt_16
