def fX0_isAdded (xf3 : Int32) (p0 : Int32) : Int32 :=
  if p0 < 0 then 0
  else if xf3 ≤ p0 then 0
    else if 60 ≤ p0 then 0
      else 1
theorem bbX0_isAdded {xf3 p0 : Int32} : fX0_isAdded xf3 p0 = 0 ∨ fX0_isAdded xf3 p0 = 1 := by
  unfold fX0_isAdded
  repeat' split
  all_goals first | exact Or.inl rfl | exact Or.inr rfl | exact bbX0_isRecord
theorem nbX0_isAdded {xf3 p0 : Int32} : narrow .boolean (.int (fX0_isAdded xf3 p0)) = .int (fX0_isAdded xf3 p0) := nb_of bbX0_isAdded

theorem isAdded_in {c a : Int32} (h : ¬ fX0_isAdded c a = 0) : vp_in a 60 := by
  unfold fX0_isAdded at h
  by_cases h1 : a < 0
  · rw [if_pos h1] at h; exact absurd rfl h
  · rw [if_neg h1] at h
    by_cases h2 : c ≤ a
    · rw [if_pos h2] at h; exact absurd rfl h
    · rw [if_neg h2] at h
      by_cases h3 : 60 ≤ a
      · rw [if_pos h3] at h; exact absurd rfl h
      · exact in_of (M := 60) (by decide) h1 h3

abbrev wsX0_isAdded : List Cond := .code yX0_isAdded cX0_isAdded 2 (some .boolean) :: wG
set_option maxHeartbeats 4000000 in
set_option maxRecDepth 100000 in
theorem mX0_isAdded (l : Launch) (dC : Nat → ClassId) (dI : Nat → Nat → Nat) (xh0 xh1 xh2 xh3 : Nat) (xc1 xc2 xc3 : ClassId) (xk1 xk2 xk3 : Nat → Int32) (xf3 xf4 xf5 xf6 xf7 xf8 xf9 xf10 xf11 xf12 xf13 : Int32) (p0 : Int32)  : Met l yX0_isAdded wsX0_isAdded ({ frames := 0, cells := 0, slots := 0, locals := 0 }) (va_Pc [.ref xh0, .int p0] (fun U => va_P (dC, dI) vwCl (xW xh0 xh1 xh2 xh3 xc1 xc2 xc3 xk1 xk2 xk3 xf3 xf4 xf5 xf6 xf7 xf8 xf9 xf10 xf11 xf12 xf13) U.heap ∧ va_K (dC, dI) vwCl [(xc1, .int), (xc2, .int), (xc3, .int)] U)) (vp_Si (fun r => r = fX0_isAdded xf3 p0)) 0 0 (fun _ => False) := by
  refine Met.ofW (cc := cX0_isAdded) (maxL := 2) (ret := (some .boolean)) (by decide) rfl ?_
  intro p e s m args below meth c s₁ B hml hv
  obtain ⟨rfl, hP, hK⟩ := hv
  have hx := B.exec
  have hb := B.bytes
  have hr := B.returns
  have hts := atoms_spec (ws := wsX0_isAdded) B.pre
  have htG := fun (w : Cond) (h : w ∈ wG) => hts w (List.mem_cons_of_mem _ h)
  have hown : s.vm.findClass RX0 = some m.cls := findClass_of_methodNamed B.named
  have hlocks := B.notSynchronized
  have hl := lv_entry ([.ref xh0, .int p0]) (n := 2) (Nat.le_of_ble_eq_true rfl)
  rw [lg_entry_eq]
  generalize (lg_sl ([.ref xh0, .int p0]) ++ List.replicate (2 - (lg_sl ([.ref xh0, .int p0])).length) Slot.unset).toArray = ls at hl ⊢
  have hl : lv_has ls 2 [(0, .ref xh0), (1, .int p0)] := hl
  refine lv_iload_n hx hb dX0_isAdded_0 rfl (lv_at hl 1 rfl) ?_
  refine lv_if_lt (tgt := 22) hx hb dX0_isAdded_1 (by decide) (fun c_1 => ?_) (fun c_1 => ?_)
  · refine lv_iconst (v := 0) hx hb dX0_isAdded_22 (by decide) ?_
    exact W.zret (v := 0) hx hb hr rfl (fun t ht hW => ⟨0, rfl, (by rw [fX0_isAdded, if_pos c_1]), ht⟩) (fun q h => nomatch h) dX0_isAdded_23
  · refine lv_iload_n hx hb dX0_isAdded_4 rfl (lv_at hl 1 rfl) ?_
    refine lv_aload_n hx hb dX0_isAdded_5 rfl (lv_at hl 0 rfl) ?_
    refine va_get (D := (dC, dI)) (ci := 0) (v := .int xf3) (C := RX0) (T := TX0) (N := 14) hx hb htG inX0 hown hK hP 0 rfl rfl 3 (by decide) (htG _ wd_43) (fun _ h9 => h9) rfl dX0_isAdded_6 ?_
    refine lv_icmp_ge (tgt := 22) hx hb dX0_isAdded_9 (by decide) (fun c_2 => ?_) (fun c_2 => ?_)
    · refine lv_iconst (v := 0) hx hb dX0_isAdded_22 (by decide) ?_
      exact W.zret (v := 0) hx hb hr rfl (fun t ht hW => ⟨0, rfl, (by rw [fX0_isAdded, if_neg c_1, if_pos c_2]), ht⟩) (fun q h => nomatch h) dX0_isAdded_23
    · refine lv_iload_n hx hb dX0_isAdded_12 rfl (lv_at hl 1 rfl) ?_
      refine lv_bipush (v := 60) hx hb dX0_isAdded_13 (by decide) ?_
      refine lv_icmp_ge (tgt := 22) hx hb dX0_isAdded_15 (by decide) (fun c_3 => ?_) (fun c_3 => ?_)
      · refine lv_iconst (v := 0) hx hb dX0_isAdded_22 (by decide) ?_
        exact W.zret (v := 0) hx hb hr rfl (fun t ht hW => ⟨0, rfl, (by rw [fX0_isAdded, if_neg c_1, if_neg c_2, if_pos c_3]), ht⟩) (fun q h => nomatch h) dX0_isAdded_23
      · refine lv_iconst (v := 1) hx hb dX0_isAdded_18 (by decide) ?_
        refine lv_goto (tgt := 23) hx hb dX0_isAdded_19 (by decide) ?_
        exact W.zret (v := 1) hx hb hr rfl (fun t ht hW => ⟨1, rfl, (by rw [fX0_isAdded, if_neg c_1, if_neg c_2, if_neg c_3]), ht⟩) (fun q h => nomatch h) dX0_isAdded_23

def fX0_isArgument (xf3 xf4 : Int32) (p0 : Int32) : Int32 :=
  if p0 = (-1) then (if xf4 = 3 then 1
    else 0)
  else (fX0_isAdded xf3 p0)
theorem bbX0_isArgument {xf3 xf4 p0 : Int32} : fX0_isArgument xf3 xf4 p0 = 0 ∨ fX0_isArgument xf3 xf4 p0 = 1 := by
  unfold fX0_isArgument
  repeat' split
  all_goals first | exact Or.inl rfl | exact Or.inr rfl | exact bbX0_isRecord | exact bbX0_isAdded
theorem nbX0_isArgument {xf3 xf4 p0 : Int32} : narrow .boolean (.int (fX0_isArgument xf3 xf4 p0)) = .int (fX0_isArgument xf3 xf4 p0) := nb_of bbX0_isArgument

abbrev wsX0_isArgument : List Cond := .code yX0_isArgument cX0_isArgument 2 (some .boolean) :: wG
set_option maxHeartbeats 4000000 in
set_option maxRecDepth 100000 in
theorem mX0_isArgument (l : Launch) (dC : Nat → ClassId) (dI : Nat → Nat → Nat) (xh0 xh1 xh2 xh3 : Nat) (xc1 xc2 xc3 : ClassId) (xk1 xk2 xk3 : Nat → Int32) (xf3 xf4 xf5 xf6 xf7 xf8 xf9 xf10 xf11 xf12 xf13 : Int32) (p0 : Int32)  : Met l yX0_isArgument wsX0_isArgument ({ frames := 1, cells := 0, slots := 0, locals := 21 }) (va_Pc [.ref xh0, .int p0] (fun U => va_P (dC, dI) vwCl (xW xh0 xh1 xh2 xh3 xc1 xc2 xc3 xk1 xk2 xk3 xf3 xf4 xf5 xf6 xf7 xf8 xf9 xf10 xf11 xf12 xf13) U.heap ∧ va_K (dC, dI) vwCl [(xc1, .int), (xc2, .int), (xc3, .int)] U)) (vp_Si (fun r => r = fX0_isArgument xf3 xf4 p0)) 0 0 (fun _ => False) := by
  refine Met.ofW (cc := cX0_isArgument) (maxL := 2) (ret := (some .boolean)) (by decide) rfl ?_
  intro p e s m args below meth c s₁ B hml hv
  obtain ⟨rfl, hP, hK⟩ := hv
  have hx := B.exec
  have hb := B.bytes
  have hr := B.returns
  have hts := atoms_spec (ws := wsX0_isArgument) B.pre
  have htG := fun (w : Cond) (h : w ∈ wG) => hts w (List.mem_cons_of_mem _ h)
  have hown : s.vm.findClass RX0 = some m.cls := findClass_of_methodNamed B.named
  have hlocks := B.notSynchronized
  have hl := lv_entry ([.ref xh0, .int p0]) (n := 2) (Nat.le_of_ble_eq_true rfl)
  rw [lg_entry_eq]
  generalize (lg_sl ([.ref xh0, .int p0]) ++ List.replicate (2 - (lg_sl ([.ref xh0, .int p0])).length) Slot.unset).toArray = ls at hl ⊢
  have hl : lv_has ls 2 [(0, .ref xh0), (1, .int p0)] := hl
  refine lv_iload_n hx hb dX0_isArgument_0 rfl (lv_at hl 1 rfl) ?_
  refine lv_iconst (v := (-1)) hx hb dX0_isArgument_1 (by decide) ?_
  refine lv_icmp_ne (tgt := 19) hx hb dX0_isArgument_2 (by decide) (fun c_1 => ?_) (fun c_1 => ?_)
  · refine lv_aload_n hx hb dX0_isArgument_19 rfl (lv_at hl 0 rfl) ?_
    refine lv_iload_n hx hb dX0_isArgument_20 rfl (lv_at hl 1 rfl) ?_
    refine vp_callSi (va_runV (As := [.int p0]) (rest := []) ⟨hx, hb, hml, hown, htG⟩ (mX0_isAdded l dC dI xh0 xh1 xh2 xh3 xc1 xc2 xc3 xk1 xk2 xk3 xf3 xf4 xf5 xf6 xf7 xf8 xf9 xf10 xf11 xf12 xf13 p0) (cwV 1 htG (wG_V wd_228 wd_230 wd_3 wd_22 wd_231) rfl rfl rfl (by decide +kernel) ⟨Nat.le_of_ble_eq_true rfl, Nat.le_of_ble_eq_true rfl⟩) ⟨fun a U g mk q => by obtain ⟨q0, qP, qK⟩ := q; exact ⟨q0, qP, va_K.moved (u := U) (U := U.calling g mk a) (Vm.Alike.refl U.vm) qK⟩, va_recv hK hP (ci := 0) (q0 := 0) rfl rfl, fun U hU hW => ⟨rfl, by rw [hU]; exact hP, va_K.moved hW.alike hK⟩⟩ rfl rfl hl.1 rfl (lv_room (Nat.le_of_ble_eq_true rfl)) dX0_isArgument_21 ⟨Nat.le_of_ble_eq_true rfl, Nat.le_of_ble_eq_true rfl⟩).run (fun r_1 er_1 => ?_)
    subst er_1
    exact W.zret (v := (fX0_isAdded xf3 p0)) hx hb hr (nbX0_isAdded) (fun t ht hW => ⟨(fX0_isAdded xf3 p0), rfl, (by rw [fX0_isArgument, if_neg c_1]), ht⟩) (fun q h => nomatch h) dX0_isArgument_24
  · refine lv_aload_n hx hb dX0_isArgument_5 rfl (lv_at hl 0 rfl) ?_
    refine va_get (D := (dC, dI)) (ci := 0) (v := .int xf4) (C := RX0) (T := TX0) (N := 14) hx hb htG inX0 hown hK hP 0 rfl rfl 4 (by decide) (htG _ wd_44) (fun _ h9 => h9) rfl dX0_isArgument_6 ?_
    refine lv_iconst (v := 3) hx hb dX0_isArgument_9 (by decide) ?_
    refine lv_icmp_ne (tgt := 17) hx hb dX0_isArgument_10 (by decide) (fun c_2 => ?_) (fun c_2 => ?_)
    · refine lv_iconst (v := 0) hx hb dX0_isArgument_17 (by decide) ?_
      exact W.zret (v := 0) hx hb hr rfl (fun t ht hW => ⟨0, rfl, (by rw [fX0_isArgument, if_pos c_1, if_neg c_2]), ht⟩) (fun q h => nomatch h) dX0_isArgument_18
    · refine lv_iconst (v := 1) hx hb dX0_isArgument_13 (by decide) ?_
      refine lv_goto (tgt := 18) hx hb dX0_isArgument_14 (by decide) ?_
      exact W.zret (v := 1) hx hb hr rfl (fun t ht hW => ⟨1, rfl, (by rw [fX0_isArgument, if_pos c_1, if_pos c_2]), ht⟩) (fun q h => nomatch h) dX0_isArgument_18

def fX0_homeAt (xk2 : Nat → Int32) (xf3 : Int32) (p0 : Int32) : Int32 :=
  if (fX0_isAdded xf3 p0) = 0 then 0
  else (xk2 (p0 : Int32).toNatClampNeg)

abbrev wsX0_homeAt : List Cond := .code yX0_homeAt cX0_homeAt 2 (some .int) :: wG
set_option maxHeartbeats 4000000 in
set_option maxRecDepth 100000 in
theorem mX0_homeAt (l : Launch) (dC : Nat → ClassId) (dI : Nat → Nat → Nat) (xh0 xh1 xh2 xh3 : Nat) (xc1 xc2 xc3 : ClassId) (xk1 xk2 xk3 : Nat → Int32) (xf3 xf4 xf5 xf6 xf7 xf8 xf9 xf10 xf11 xf12 xf13 : Int32) (p0 : Int32)  : Met l yX0_homeAt wsX0_homeAt ({ frames := 1, cells := 0, slots := 0, locals := 21 }) (va_Pc [.ref xh0, .int p0] (fun U => va_P (dC, dI) vwCl (xW xh0 xh1 xh2 xh3 xc1 xc2 xc3 xk1 xk2 xk3 xf3 xf4 xf5 xf6 xf7 xf8 xf9 xf10 xf11 xf12 xf13) U.heap ∧ va_K (dC, dI) vwCl [(xc1, .int), (xc2, .int), (xc3, .int)] U)) (vp_Si (fun r => r = fX0_homeAt xk2 xf3 p0)) 0 0 (fun _ => False) := by
  refine Met.ofW (cc := cX0_homeAt) (maxL := 2) (ret := (some .int)) (by decide) rfl ?_
  intro p e s m args below meth c s₁ B hml hv
  obtain ⟨rfl, hP, hK⟩ := hv
  have hx := B.exec
  have hb := B.bytes
  have hr := B.returns
  have hts := atoms_spec (ws := wsX0_homeAt) B.pre
  have htG := fun (w : Cond) (h : w ∈ wG) => hts w (List.mem_cons_of_mem _ h)
  have hown : s.vm.findClass RX0 = some m.cls := findClass_of_methodNamed B.named
  have hlocks := B.notSynchronized
  have hl := lv_entry ([.ref xh0, .int p0]) (n := 2) (Nat.le_of_ble_eq_true rfl)
  rw [lg_entry_eq]
  generalize (lg_sl ([.ref xh0, .int p0]) ++ List.replicate (2 - (lg_sl ([.ref xh0, .int p0])).length) Slot.unset).toArray = ls at hl ⊢
  have hl : lv_has ls 2 [(0, .ref xh0), (1, .int p0)] := hl
  refine lv_aload_n hx hb dX0_homeAt_0 rfl (lv_at hl 0 rfl) ?_
  refine lv_iload_n hx hb dX0_homeAt_1 rfl (lv_at hl 1 rfl) ?_
  refine vp_callSi (va_runV (As := [.int p0]) (rest := []) ⟨hx, hb, hml, hown, htG⟩ (mX0_isAdded l dC dI xh0 xh1 xh2 xh3 xc1 xc2 xc3 xk1 xk2 xk3 xf3 xf4 xf5 xf6 xf7 xf8 xf9 xf10 xf11 xf12 xf13 p0) (cwV 1 htG (wG_V wd_228 wd_230 wd_3 wd_22 wd_231) rfl rfl rfl (by decide +kernel) ⟨Nat.le_of_ble_eq_true rfl, Nat.le_of_ble_eq_true rfl⟩) ⟨fun a U g mk q => by obtain ⟨q0, qP, qK⟩ := q; exact ⟨q0, qP, va_K.moved (u := U) (U := U.calling g mk a) (Vm.Alike.refl U.vm) qK⟩, va_recv hK hP (ci := 0) (q0 := 0) rfl rfl, fun U hU hW => ⟨rfl, by rw [hU]; exact hP, va_K.moved hW.alike hK⟩⟩ rfl rfl hl.1 rfl (lv_room (Nat.le_of_ble_eq_true rfl)) dX0_homeAt_2 ⟨Nat.le_of_ble_eq_true rfl, Nat.le_of_ble_eq_true rfl⟩).run (fun r_1 er_1 => ?_)
  subst er_1
  refine lv_if_eq (tgt := 17) hx hb dX0_homeAt_5 (by decide) (fun c_1 => ?_) (fun c_1 => ?_)
  · refine lv_iconst (v := 0) hx hb dX0_homeAt_17 (by decide) ?_
    exact W.iret (v := 0) hx hb hr (fun t ht hW => ⟨0, rfl, (by rw [fX0_homeAt, if_pos c_1]), ht⟩) (fun q h => nomatch h) dX0_homeAt_18
  · refine lv_aload_n hx hb dX0_homeAt_8 rfl (lv_at hl 0 rfl) ?_
    refine va_get (D := (dC, dI)) (ci := 0) (v := .ref xh2) (C := RX0) (T := TX0) (N := 14) hx hb htG inX0 hown hK hP 0 rfl rfl 1 (by decide) (htG _ wd_41) (fun _ h9 => h9) rfl dX0_homeAt_9 ?_
    refine lv_iload_n hx hb dX0_homeAt_12 rfl (lv_at hl 1 rfl) ?_
    refine va_iald hx hb hK hP 2 1 rfl rfl (isAdded_in c_1) dX0_homeAt_13 ?_
    refine lv_goto (tgt := 18) hx hb dX0_homeAt_14 (by decide) ?_
    exact W.iret (v := (xk2 (p0 : Int32).toNatClampNeg)) hx hb hr (fun t ht hW => ⟨(xk2 (p0 : Int32).toNatClampNeg), rfl, (by rw [fX0_homeAt, if_neg c_1]), ht⟩) (fun q h => nomatch h) dX0_homeAt_18

def fX0_bytesAt (xk3 : Nat → Int32) (xf3 : Int32) (p0 : Int32) : Int32 :=
  if (fX0_isAdded xf3 p0) = 0 then 4
  else (xk3 (p0 : Int32).toNatClampNeg)

abbrev wsX0_bytesAt : List Cond := .code yX0_bytesAt cX0_bytesAt 2 (some .int) :: wG
set_option maxHeartbeats 4000000 in
set_option maxRecDepth 100000 in
theorem mX0_bytesAt (l : Launch) (dC : Nat → ClassId) (dI : Nat → Nat → Nat) (xh0 xh1 xh2 xh3 : Nat) (xc1 xc2 xc3 : ClassId) (xk1 xk2 xk3 : Nat → Int32) (xf3 xf4 xf5 xf6 xf7 xf8 xf9 xf10 xf11 xf12 xf13 : Int32) (p0 : Int32)  : Met l yX0_bytesAt wsX0_bytesAt ({ frames := 1, cells := 0, slots := 0, locals := 21 }) (va_Pc [.ref xh0, .int p0] (fun U => va_P (dC, dI) vwCl (xW xh0 xh1 xh2 xh3 xc1 xc2 xc3 xk1 xk2 xk3 xf3 xf4 xf5 xf6 xf7 xf8 xf9 xf10 xf11 xf12 xf13) U.heap ∧ va_K (dC, dI) vwCl [(xc1, .int), (xc2, .int), (xc3, .int)] U)) (vp_Si (fun r => r = fX0_bytesAt xk3 xf3 p0)) 0 0 (fun _ => False) := by
  refine Met.ofW (cc := cX0_bytesAt) (maxL := 2) (ret := (some .int)) (by decide) rfl ?_
  intro p e s m args below meth c s₁ B hml hv
  obtain ⟨rfl, hP, hK⟩ := hv
  have hx := B.exec
  have hb := B.bytes
  have hr := B.returns
  have hts := atoms_spec (ws := wsX0_bytesAt) B.pre
  have htG := fun (w : Cond) (h : w ∈ wG) => hts w (List.mem_cons_of_mem _ h)
  have hown : s.vm.findClass RX0 = some m.cls := findClass_of_methodNamed B.named
  have hlocks := B.notSynchronized
  have hl := lv_entry ([.ref xh0, .int p0]) (n := 2) (Nat.le_of_ble_eq_true rfl)
  rw [lg_entry_eq]
  generalize (lg_sl ([.ref xh0, .int p0]) ++ List.replicate (2 - (lg_sl ([.ref xh0, .int p0])).length) Slot.unset).toArray = ls at hl ⊢
  have hl : lv_has ls 2 [(0, .ref xh0), (1, .int p0)] := hl
  refine lv_aload_n hx hb dX0_bytesAt_0 rfl (lv_at hl 0 rfl) ?_
  refine lv_iload_n hx hb dX0_bytesAt_1 rfl (lv_at hl 1 rfl) ?_
  refine vp_callSi (va_runV (As := [.int p0]) (rest := []) ⟨hx, hb, hml, hown, htG⟩ (mX0_isAdded l dC dI xh0 xh1 xh2 xh3 xc1 xc2 xc3 xk1 xk2 xk3 xf3 xf4 xf5 xf6 xf7 xf8 xf9 xf10 xf11 xf12 xf13 p0) (cwV 1 htG (wG_V wd_228 wd_230 wd_3 wd_22 wd_231) rfl rfl rfl (by decide +kernel) ⟨Nat.le_of_ble_eq_true rfl, Nat.le_of_ble_eq_true rfl⟩) ⟨fun a U g mk q => by obtain ⟨q0, qP, qK⟩ := q; exact ⟨q0, qP, va_K.moved (u := U) (U := U.calling g mk a) (Vm.Alike.refl U.vm) qK⟩, va_recv hK hP (ci := 0) (q0 := 0) rfl rfl, fun U hU hW => ⟨rfl, by rw [hU]; exact hP, va_K.moved hW.alike hK⟩⟩ rfl rfl hl.1 rfl (lv_room (Nat.le_of_ble_eq_true rfl)) dX0_bytesAt_2 ⟨Nat.le_of_ble_eq_true rfl, Nat.le_of_ble_eq_true rfl⟩).run (fun r_1 er_1 => ?_)
  subst er_1
  refine lv_if_eq (tgt := 17) hx hb dX0_bytesAt_5 (by decide) (fun c_1 => ?_) (fun c_1 => ?_)
  · refine lv_iconst (v := 4) hx hb dX0_bytesAt_17 (by decide) ?_
    exact W.iret (v := 4) hx hb hr (fun t ht hW => ⟨4, rfl, (by rw [fX0_bytesAt, if_pos c_1]), ht⟩) (fun q h => nomatch h) dX0_bytesAt_18
  · refine lv_aload_n hx hb dX0_bytesAt_8 rfl (lv_at hl 0 rfl) ?_
    refine va_get (D := (dC, dI)) (ci := 0) (v := .ref xh3) (C := RX0) (T := TX0) (N := 14) hx hb htG inX0 hown hK hP 0 rfl rfl 2 (by decide) (htG _ wd_42) (fun _ h9 => h9) rfl dX0_bytesAt_9 ?_
    refine lv_iload_n hx hb dX0_bytesAt_12 rfl (lv_at hl 1 rfl) ?_
    refine va_iald hx hb hK hP 3 2 rfl rfl (isAdded_in c_1) dX0_bytesAt_13 ?_
    refine lv_goto (tgt := 18) hx hb dX0_bytesAt_14 (by decide) ?_
    exact W.iret (v := (xk3 (p0 : Int32).toNatClampNeg)) hx hb hr (fun t ht hW => ⟨(xk3 (p0 : Int32).toNatClampNeg), rfl, (by rw [fX0_bytesAt, if_neg c_1]), ht⟩) (fun q h => nomatch h) dX0_bytesAt_18

def fX0_wordsAt (xk3 : Nat → Int32) (xf3 : Int32) (p0 : Int32) : Int32 :=
  ((fX0_fill (fX0_bytesAt xk3 xf3 p0) 4) / 4)

abbrev wsX0_wordsAt : List Cond := .code yX0_wordsAt cX0_wordsAt 2 (some .int) :: wG
set_option maxHeartbeats 4000000 in
set_option maxRecDepth 100000 in
theorem mX0_wordsAt (l : Launch) (dC : Nat → ClassId) (dI : Nat → Nat → Nat) (xh0 xh1 xh2 xh3 : Nat) (xc1 xc2 xc3 : ClassId) (xk1 xk2 xk3 : Nat → Int32) (xf3 xf4 xf5 xf6 xf7 xf8 xf9 xf10 xf11 xf12 xf13 : Int32) (p0 : Int32)  : Met l yX0_wordsAt wsX0_wordsAt ({ frames := 2, cells := 0, slots := 0, locals := 42 }) (va_Pc [.ref xh0, .int p0] (fun U => va_P (dC, dI) vwCl (xW xh0 xh1 xh2 xh3 xc1 xc2 xc3 xk1 xk2 xk3 xf3 xf4 xf5 xf6 xf7 xf8 xf9 xf10 xf11 xf12 xf13) U.heap ∧ va_K (dC, dI) vwCl [(xc1, .int), (xc2, .int), (xc3, .int)] U)) (vp_Si (fun r => r = fX0_wordsAt xk3 xf3 p0)) 0 0 (fun _ => False) := by
  refine Met.ofW (cc := cX0_wordsAt) (maxL := 2) (ret := (some .int)) (by decide) rfl ?_
  intro p e s m args below meth c s₁ B hml hv
  obtain ⟨rfl, hP, hK⟩ := hv
  have hx := B.exec
  have hb := B.bytes
  have hr := B.returns
  have hts := atoms_spec (ws := wsX0_wordsAt) B.pre
  have htG := fun (w : Cond) (h : w ∈ wG) => hts w (List.mem_cons_of_mem _ h)
  have hown : s.vm.findClass RX0 = some m.cls := findClass_of_methodNamed B.named
  have hlocks := B.notSynchronized
  have hl := lv_entry ([.ref xh0, .int p0]) (n := 2) (Nat.le_of_ble_eq_true rfl)
  rw [lg_entry_eq]
  generalize (lg_sl ([.ref xh0, .int p0]) ++ List.replicate (2 - (lg_sl ([.ref xh0, .int p0])).length) Slot.unset).toArray = ls at hl ⊢
  have hl : lv_has ls 2 [(0, .ref xh0), (1, .int p0)] := hl
  refine lv_aload_n hx hb dX0_wordsAt_0 rfl (lv_at hl 0 rfl) ?_
  refine lv_iload_n hx hb dX0_wordsAt_1 rfl (lv_at hl 1 rfl) ?_
  refine vp_callSi (va_runV (As := [.int p0]) (rest := []) ⟨hx, hb, hml, hown, htG⟩ (mX0_bytesAt l dC dI xh0 xh1 xh2 xh3 xc1 xc2 xc3 xk1 xk2 xk3 xf3 xf4 xf5 xf6 xf7 xf8 xf9 xf10 xf11 xf12 xf13 p0) (cwV 1 htG (wG_V wd_252 wd_254 wd_5 wd_22 wd_255) rfl rfl rfl (by decide +kernel) ⟨Nat.le_of_ble_eq_true rfl, Nat.le_of_ble_eq_true rfl⟩) ⟨fun a U g mk q => by obtain ⟨q0, qP, qK⟩ := q; exact ⟨q0, qP, va_K.moved (u := U) (U := U.calling g mk a) (Vm.Alike.refl U.vm) qK⟩, va_recv hK hP (ci := 0) (q0 := 0) rfl rfl, fun U hU hW => ⟨rfl, by rw [hU]; exact hP, va_K.moved hW.alike hK⟩⟩ rfl rfl hl.1 rfl (lv_room (Nat.le_of_ble_eq_true rfl)) dX0_wordsAt_2 ⟨Nat.le_of_ble_eq_true rfl, Nat.le_of_ble_eq_true rfl⟩).run (fun r_1 er_1 => ?_)
  subst er_1
  refine lv_iconst (v := 4) hx hb dX0_wordsAt_5 (by decide) ?_
  refine vp_callSi (va_runS (As := [.int (fX0_bytesAt xk3 xf3 p0), .int 4]) (rest := []) ⟨hx, hb, hml, hown, htG⟩ (mX0_fill l (fX0_bytesAt xk3 xf3 p0) 4) (va_cwS 2 htG (wG_S wd_92 wd_93 wd_22 wd_94) rfl rfl rfl (by decide +kernel) ⟨Nat.le_of_ble_eq_true rfl, Nat.le_of_ble_eq_true rfl⟩) ⟨fun _ _ _ _ q => q, fun U hU hW => ⟨rfl, trivial⟩⟩ rfl rfl hl.1 rfl (lv_room (Nat.le_of_ble_eq_true rfl)) dX0_wordsAt_6 ⟨Nat.le_of_ble_eq_true rfl, Nat.le_of_ble_eq_true rfl⟩).run (fun r_2 er_2 => ?_)
  subst er_2
  refine lv_iconst (v := 4) hx hb dX0_wordsAt_9 (by decide) ?_
  refine lv_idiv hx hb dX0_wordsAt_10 (by decide) ?_
  exact W.iret (v := ((fX0_fill (fX0_bytesAt xk3 xf3 p0) 4) / 4)) hx hb hr (fun t ht hW => ⟨((fX0_fill (fX0_bytesAt xk3 xf3 p0) 4) / 4), rfl, (by rw [fX0_wordsAt]), ht⟩) (fun q h => nomatch h) dX0_wordsAt_11

def fX0_isFractional (xk1 : Nat → Int32) (xf3 : Int32) (p0 : Int32) : Int32 :=
  if (fX0_isAdded xf3 p0) = 0 then 0
  else if (xk1 (p0 : Int32).toNatClampNeg) = 1 then 1
    else if (xk1 (p0 : Int32).toNatClampNeg) = 2 then 1
      else 0
theorem bbX0_isFractional {xk1 : Nat → Int32} {xf3 p0 : Int32} : fX0_isFractional xk1 xf3 p0 = 0 ∨ fX0_isFractional xk1 xf3 p0 = 1 := by
  unfold fX0_isFractional
  repeat' split
  all_goals first | exact Or.inl rfl | exact Or.inr rfl | exact bbX0_isRecord | exact bbX0_isAdded | exact bbX0_isArgument
theorem nbX0_isFractional {xk1 : Nat → Int32} {xf3 p0 : Int32} : narrow .boolean (.int (fX0_isFractional xk1 xf3 p0)) = .int (fX0_isFractional xk1 xf3 p0) := nb_of bbX0_isFractional

abbrev wsX0_isFractional : List Cond := .code yX0_isFractional cX0_isFractional 2 (some .boolean) :: wG
set_option maxHeartbeats 4000000 in
set_option maxRecDepth 100000 in
theorem mX0_isFractional (l : Launch) (dC : Nat → ClassId) (dI : Nat → Nat → Nat) (xh0 xh1 xh2 xh3 : Nat) (xc1 xc2 xc3 : ClassId) (xk1 xk2 xk3 : Nat → Int32) (xf3 xf4 xf5 xf6 xf7 xf8 xf9 xf10 xf11 xf12 xf13 : Int32) (p0 : Int32)  : Met l yX0_isFractional wsX0_isFractional ({ frames := 1, cells := 0, slots := 0, locals := 21 }) (va_Pc [.ref xh0, .int p0] (fun U => va_P (dC, dI) vwCl (xW xh0 xh1 xh2 xh3 xc1 xc2 xc3 xk1 xk2 xk3 xf3 xf4 xf5 xf6 xf7 xf8 xf9 xf10 xf11 xf12 xf13) U.heap ∧ va_K (dC, dI) vwCl [(xc1, .int), (xc2, .int), (xc3, .int)] U)) (vp_Si (fun r => r = fX0_isFractional xk1 xf3 p0)) 0 0 (fun _ => False) := by
  refine Met.ofW (cc := cX0_isFractional) (maxL := 2) (ret := (some .boolean)) (by decide) rfl ?_
  intro p e s m args below meth c s₁ B hml hv
  obtain ⟨rfl, hP, hK⟩ := hv
  have hx := B.exec
  have hb := B.bytes
  have hr := B.returns
  have hts := atoms_spec (ws := wsX0_isFractional) B.pre
  have htG := fun (w : Cond) (h : w ∈ wG) => hts w (List.mem_cons_of_mem _ h)
  have hown : s.vm.findClass RX0 = some m.cls := findClass_of_methodNamed B.named
  have hlocks := B.notSynchronized
  have hl := lv_entry ([.ref xh0, .int p0]) (n := 2) (Nat.le_of_ble_eq_true rfl)
  rw [lg_entry_eq]
  generalize (lg_sl ([.ref xh0, .int p0]) ++ List.replicate (2 - (lg_sl ([.ref xh0, .int p0])).length) Slot.unset).toArray = ls at hl ⊢
  have hl : lv_has ls 2 [(0, .ref xh0), (1, .int p0)] := hl
  refine lv_aload_n hx hb dX0_isFractional_0 rfl (lv_at hl 0 rfl) ?_
  refine lv_iload_n hx hb dX0_isFractional_1 rfl (lv_at hl 1 rfl) ?_
  refine vp_callSi (va_runV (As := [.int p0]) (rest := []) ⟨hx, hb, hml, hown, htG⟩ (mX0_isAdded l dC dI xh0 xh1 xh2 xh3 xc1 xc2 xc3 xk1 xk2 xk3 xf3 xf4 xf5 xf6 xf7 xf8 xf9 xf10 xf11 xf12 xf13 p0) (cwV 1 htG (wG_V wd_228 wd_230 wd_3 wd_22 wd_231) rfl rfl rfl (by decide +kernel) ⟨Nat.le_of_ble_eq_true rfl, Nat.le_of_ble_eq_true rfl⟩) ⟨fun a U g mk q => by obtain ⟨q0, qP, qK⟩ := q; exact ⟨q0, qP, va_K.moved (u := U) (U := U.calling g mk a) (Vm.Alike.refl U.vm) qK⟩, va_recv hK hP (ci := 0) (q0 := 0) rfl rfl, fun U hU hW => ⟨rfl, by rw [hU]; exact hP, va_K.moved hW.alike hK⟩⟩ rfl rfl hl.1 rfl (lv_room (Nat.le_of_ble_eq_true rfl)) dX0_isFractional_2 ⟨Nat.le_of_ble_eq_true rfl, Nat.le_of_ble_eq_true rfl⟩).run (fun r_1 er_1 => ?_)
  subst er_1
  refine lv_if_eq (tgt := 32) hx hb dX0_isFractional_5 (by decide) (fun c_1 => ?_) (fun c_1 => ?_)
  · refine lv_iconst (v := 0) hx hb dX0_isFractional_32 (by decide) ?_
    exact W.zret (v := 0) hx hb hr rfl (fun t ht hW => ⟨0, rfl, (by rw [fX0_isFractional, if_pos c_1]), ht⟩) (fun q h => nomatch h) dX0_isFractional_33
  · refine lv_aload_n hx hb dX0_isFractional_8 rfl (lv_at hl 0 rfl) ?_
    refine va_get (D := (dC, dI)) (ci := 0) (v := .ref xh1) (C := RX0) (T := TX0) (N := 14) hx hb htG inX0 hown hK hP 0 rfl rfl 0 (by decide) (htG _ wd_40) (fun _ h9 => h9) rfl dX0_isFractional_9 ?_
    refine lv_iload_n hx hb dX0_isFractional_12 rfl (lv_at hl 1 rfl) ?_
    refine va_iald hx hb hK hP 1 0 rfl rfl (isAdded_in c_1) dX0_isFractional_13 ?_
    refine lv_iconst (v := 1) hx hb dX0_isFractional_14 (by decide) ?_
    refine lv_icmp_eq (tgt := 28) hx hb dX0_isFractional_15 (by decide) (fun c_2 => ?_) (fun c_2 => ?_)
    · refine lv_iconst (v := 1) hx hb dX0_isFractional_28 (by decide) ?_
      refine lv_goto (tgt := 33) hx hb dX0_isFractional_29 (by decide) ?_
      exact W.zret (v := 1) hx hb hr rfl (fun t ht hW => ⟨1, rfl, (by rw [fX0_isFractional, if_neg c_1, if_pos c_2]), ht⟩) (fun q h => nomatch h) dX0_isFractional_33
    · refine lv_aload_n hx hb dX0_isFractional_18 rfl (lv_at hl 0 rfl) ?_
      refine va_get (D := (dC, dI)) (ci := 0) (v := .ref xh1) (C := RX0) (T := TX0) (N := 14) hx hb htG inX0 hown hK hP 0 rfl rfl 0 (by decide) (htG _ wd_40) (fun _ h9 => h9) rfl dX0_isFractional_19 ?_
      refine lv_iload_n hx hb dX0_isFractional_22 rfl (lv_at hl 1 rfl) ?_
      refine va_iald hx hb hK hP 1 0 rfl rfl (isAdded_in c_1) dX0_isFractional_23 ?_
      refine lv_iconst (v := 2) hx hb dX0_isFractional_24 (by decide) ?_
      refine lv_icmp_ne (tgt := 32) hx hb dX0_isFractional_25 (by decide) (fun c_3 => ?_) (fun c_3 => ?_)
      · refine lv_iconst (v := 0) hx hb dX0_isFractional_32 (by decide) ?_
        exact W.zret (v := 0) hx hb hr rfl (fun t ht hW => ⟨0, rfl, (by rw [fX0_isFractional, if_neg c_1, if_neg c_2, if_neg c_3]), ht⟩) (fun q h => nomatch h) dX0_isFractional_33
      · refine lv_iconst (v := 1) hx hb dX0_isFractional_28 (by decide) ?_
        refine lv_goto (tgt := 33) hx hb dX0_isFractional_29 (by decide) ?_
        exact W.zret (v := 1) hx hb hr rfl (fun t ht hW => ⟨1, rfl, (by rw [fX0_isFractional, if_neg c_1, if_neg c_2, if_pos c_3]), ht⟩) (fun q h => nomatch h) dX0_isFractional_33

def fX0_isInFraction (xk1 : Nat → Int32) (xf3 xf4 xf5 : Int32) (p0 : Int32) : Int32 :=
  if xf5 = 0 then (if xf4 = 3 then 0
    else if p0 = 0 then (fX0_isFractional xk1 xf3 0)
      else if p0 = 1 then (if (fX0_isFractional xk1 xf3 0) = 0 then 0
          else if (fX0_isFractional xk1 xf3 1) = 0 then 0
            else 1)
        else 0)
  else 0
theorem bbX0_isInFraction {xk1 : Nat → Int32} {xf3 xf4 xf5 p0 : Int32} : fX0_isInFraction xk1 xf3 xf4 xf5 p0 = 0 ∨ fX0_isInFraction xk1 xf3 xf4 xf5 p0 = 1 := by
  unfold fX0_isInFraction
  repeat' split
  all_goals first | exact Or.inl rfl | exact Or.inr rfl | exact bbX0_isRecord | exact bbX0_isAdded | exact bbX0_isArgument | exact bbX0_isFractional
theorem nbX0_isInFraction {xk1 : Nat → Int32} {xf3 xf4 xf5 p0 : Int32} : narrow .boolean (.int (fX0_isInFraction xk1 xf3 xf4 xf5 p0)) = .int (fX0_isInFraction xk1 xf3 xf4 xf5 p0) := nb_of bbX0_isInFraction

abbrev wsX0_isInFraction : List Cond := .code yX0_isInFraction cX0_isInFraction 2 (some .boolean) :: wG
set_option maxHeartbeats 4000000 in
set_option maxRecDepth 100000 in
theorem mX0_isInFraction (l : Launch) (dC : Nat → ClassId) (dI : Nat → Nat → Nat) (xh0 xh1 xh2 xh3 : Nat) (xc1 xc2 xc3 : ClassId) (xk1 xk2 xk3 : Nat → Int32) (xf3 xf4 xf5 xf6 xf7 xf8 xf9 xf10 xf11 xf12 xf13 : Int32) (p0 : Int32)  : Met l yX0_isInFraction wsX0_isInFraction ({ frames := 2, cells := 0, slots := 0, locals := 42 }) (va_Pc [.ref xh0, .int p0] (fun U => va_P (dC, dI) vwCl (xW xh0 xh1 xh2 xh3 xc1 xc2 xc3 xk1 xk2 xk3 xf3 xf4 xf5 xf6 xf7 xf8 xf9 xf10 xf11 xf12 xf13) U.heap ∧ va_K (dC, dI) vwCl [(xc1, .int), (xc2, .int), (xc3, .int)] U)) (vp_Si (fun r => r = fX0_isInFraction xk1 xf3 xf4 xf5 p0)) 0 0 (fun _ => False) := by
  refine Met.ofW (cc := cX0_isInFraction) (maxL := 2) (ret := (some .boolean)) (by decide) rfl ?_
  intro p e s m args below meth c s₁ B hml hv
  obtain ⟨rfl, hP, hK⟩ := hv
  have hx := B.exec
  have hb := B.bytes
  have hr := B.returns
  have hts := atoms_spec (ws := wsX0_isInFraction) B.pre
  have htG := fun (w : Cond) (h : w ∈ wG) => hts w (List.mem_cons_of_mem _ h)
  have hown : s.vm.findClass RX0 = some m.cls := findClass_of_methodNamed B.named
  have hlocks := B.notSynchronized
  have hl := lv_entry ([.ref xh0, .int p0]) (n := 2) (Nat.le_of_ble_eq_true rfl)
  rw [lg_entry_eq]
  generalize (lg_sl ([.ref xh0, .int p0]) ++ List.replicate (2 - (lg_sl ([.ref xh0, .int p0])).length) Slot.unset).toArray = ls at hl ⊢
  have hl : lv_has ls 2 [(0, .ref xh0), (1, .int p0)] := hl
  refine lv_aload_n hx hb dX0_isInFraction_0 rfl (lv_at hl 0 rfl) ?_
  refine va_get (D := (dC, dI)) (ci := 0) (v := .int xf5) (C := RX0) (T := TX0) (N := 14) hx hb htG inX0 hown hK hP 0 rfl rfl 5 (by decide) (htG _ wd_45) (fun _ h9 => h9) rfl dX0_isInFraction_1 ?_
  refine lv_if_ne (tgt := 15) hx hb dX0_isInFraction_4 (by decide) (fun c_1 => ?_) (fun c_1 => ?_)
  · refine lv_iconst (v := 0) hx hb dX0_isInFraction_15 (by decide) ?_
    exact W.zret (v := 0) hx hb hr rfl (fun t ht hW => ⟨0, rfl, (by rw [fX0_isInFraction, if_neg c_1]), ht⟩) (fun q h => nomatch h) dX0_isInFraction_16
  · refine lv_aload_n hx hb dX0_isInFraction_7 rfl (lv_at hl 0 rfl) ?_
    refine va_get (D := (dC, dI)) (ci := 0) (v := .int xf4) (C := RX0) (T := TX0) (N := 14) hx hb htG inX0 hown hK hP 0 rfl rfl 4 (by decide) (htG _ wd_44) (fun _ h9 => h9) rfl dX0_isInFraction_8 ?_
    refine lv_iconst (v := 3) hx hb dX0_isInFraction_11 (by decide) ?_
    refine lv_icmp_ne (tgt := 17) hx hb dX0_isInFraction_12 (by decide) (fun c_2 => ?_) (fun c_2 => ?_)
    · refine lv_iload_n hx hb dX0_isInFraction_17 rfl (lv_at hl 1 rfl) ?_
      refine lv_if_ne (tgt := 27) hx hb dX0_isInFraction_18 (by decide) (fun c_3 => ?_) (fun c_3 => ?_)
      · refine lv_iload_n hx hb dX0_isInFraction_27 rfl (lv_at hl 1 rfl) ?_
        refine lv_iconst (v := 1) hx hb dX0_isInFraction_28 (by decide) ?_
        refine lv_icmp_ne (tgt := 52) hx hb dX0_isInFraction_29 (by decide) (fun c_4 => ?_) (fun c_4 => ?_)
        · refine lv_iconst (v := 0) hx hb dX0_isInFraction_52 (by decide) ?_
          exact W.zret (v := 0) hx hb hr rfl (fun t ht hW => ⟨0, rfl, (by rw [fX0_isInFraction, if_pos c_1, if_neg c_2, if_neg c_3, if_neg c_4]), ht⟩) (fun q h => nomatch h) dX0_isInFraction_53
        · refine lv_aload_n hx hb dX0_isInFraction_32 rfl (lv_at hl 0 rfl) ?_
          refine lv_iconst (v := 0) hx hb dX0_isInFraction_33 (by decide) ?_
          refine vp_callSi (va_runV (As := [.int 0]) (rest := []) ⟨hx, hb, hml, hown, htG⟩ (mX0_isFractional l dC dI xh0 xh1 xh2 xh3 xc1 xc2 xc3 xk1 xk2 xk3 xf3 xf4 xf5 xf6 xf7 xf8 xf9 xf10 xf11 xf12 xf13 0) (cwV 1 htG (wG_V wd_261 wd_263 wd_7 wd_22 wd_264) rfl rfl rfl (by decide +kernel) ⟨Nat.le_of_ble_eq_true rfl, Nat.le_of_ble_eq_true rfl⟩) ⟨fun a U g mk q => by obtain ⟨q0, qP, qK⟩ := q; exact ⟨q0, qP, va_K.moved (u := U) (U := U.calling g mk a) (Vm.Alike.refl U.vm) qK⟩, va_recv hK hP (ci := 0) (q0 := 0) rfl rfl, fun U hU hW => ⟨rfl, by rw [hU]; exact hP, va_K.moved hW.alike hK⟩⟩ rfl rfl hl.1 rfl (lv_room (Nat.le_of_ble_eq_true rfl)) dX0_isInFraction_34 ⟨Nat.le_of_ble_eq_true rfl, Nat.le_of_ble_eq_true rfl⟩).run (fun r_1 er_1 => ?_)
          subst er_1
          refine lv_if_eq (tgt := 52) hx hb dX0_isInFraction_37 (by decide) (fun c_5 => ?_) (fun c_5 => ?_)
          · refine lv_iconst (v := 0) hx hb dX0_isInFraction_52 (by decide) ?_
            exact W.zret (v := 0) hx hb hr rfl (fun t ht hW => ⟨0, rfl, (by rw [fX0_isInFraction, if_pos c_1, if_neg c_2, if_neg c_3, if_pos c_4, if_pos c_5]), ht⟩) (fun q h => nomatch h) dX0_isInFraction_53
          · refine lv_aload_n hx hb dX0_isInFraction_40 rfl (lv_at hl 0 rfl) ?_
            refine lv_iconst (v := 1) hx hb dX0_isInFraction_41 (by decide) ?_
            refine vp_callSi (va_runV (As := [.int 1]) (rest := []) ⟨hx, hb, hml, hown, htG⟩ (mX0_isFractional l dC dI xh0 xh1 xh2 xh3 xc1 xc2 xc3 xk1 xk2 xk3 xf3 xf4 xf5 xf6 xf7 xf8 xf9 xf10 xf11 xf12 xf13 1) (cwV 1 htG (wG_V wd_261 wd_263 wd_7 wd_22 wd_264) rfl rfl rfl (by decide +kernel) ⟨Nat.le_of_ble_eq_true rfl, Nat.le_of_ble_eq_true rfl⟩) ⟨fun a U g mk q => by obtain ⟨q0, qP, qK⟩ := q; exact ⟨q0, qP, va_K.moved (u := U) (U := U.calling g mk a) (Vm.Alike.refl U.vm) qK⟩, va_recv hK hP (ci := 0) (q0 := 0) rfl rfl, fun U hU hW => ⟨rfl, by rw [hU]; exact hP, va_K.moved hW.alike hK⟩⟩ rfl rfl hl.1 rfl (lv_room (Nat.le_of_ble_eq_true rfl)) dX0_isInFraction_42 ⟨Nat.le_of_ble_eq_true rfl, Nat.le_of_ble_eq_true rfl⟩).run (fun r_2 er_2 => ?_)
            subst er_2
            refine lv_if_eq (tgt := 52) hx hb dX0_isInFraction_45 (by decide) (fun c_6 => ?_) (fun c_6 => ?_)
            · refine lv_iconst (v := 0) hx hb dX0_isInFraction_52 (by decide) ?_
              exact W.zret (v := 0) hx hb hr rfl (fun t ht hW => ⟨0, rfl, (by rw [fX0_isInFraction, if_pos c_1, if_neg c_2, if_neg c_3, if_pos c_4, if_neg c_5, if_pos c_6]), ht⟩) (fun q h => nomatch h) dX0_isInFraction_53
            · refine lv_iconst (v := 1) hx hb dX0_isInFraction_48 (by decide) ?_
              refine lv_goto (tgt := 53) hx hb dX0_isInFraction_49 (by decide) ?_
              exact W.zret (v := 1) hx hb hr rfl (fun t ht hW => ⟨1, rfl, (by rw [fX0_isInFraction, if_pos c_1, if_neg c_2, if_neg c_3, if_pos c_4, if_neg c_5, if_neg c_6]), ht⟩) (fun q h => nomatch h) dX0_isInFraction_53
      · refine lv_aload_n hx hb dX0_isInFraction_21 rfl (lv_at hl 0 rfl) ?_
        refine lv_iconst (v := 0) hx hb dX0_isInFraction_22 (by decide) ?_
        refine vp_callSi (va_runV (As := [.int 0]) (rest := []) ⟨hx, hb, hml, hown, htG⟩ (mX0_isFractional l dC dI xh0 xh1 xh2 xh3 xc1 xc2 xc3 xk1 xk2 xk3 xf3 xf4 xf5 xf6 xf7 xf8 xf9 xf10 xf11 xf12 xf13 0) (cwV 1 htG (wG_V wd_261 wd_263 wd_7 wd_22 wd_264) rfl rfl rfl (by decide +kernel) ⟨Nat.le_of_ble_eq_true rfl, Nat.le_of_ble_eq_true rfl⟩) ⟨fun a U g mk q => by obtain ⟨q0, qP, qK⟩ := q; exact ⟨q0, qP, va_K.moved (u := U) (U := U.calling g mk a) (Vm.Alike.refl U.vm) qK⟩, va_recv hK hP (ci := 0) (q0 := 0) rfl rfl, fun U hU hW => ⟨rfl, by rw [hU]; exact hP, va_K.moved hW.alike hK⟩⟩ rfl rfl hl.1 rfl (lv_room (Nat.le_of_ble_eq_true rfl)) dX0_isInFraction_23 ⟨Nat.le_of_ble_eq_true rfl, Nat.le_of_ble_eq_true rfl⟩).run (fun r_3 er_3 => ?_)
        subst er_3
        exact W.zret (v := (fX0_isFractional xk1 xf3 0)) hx hb hr (nbX0_isFractional) (fun t ht hW => ⟨(fX0_isFractional xk1 xf3 0), rfl, (by rw [fX0_isInFraction, if_pos c_1, if_neg c_2, if_pos c_3]), ht⟩) (fun q h => nomatch h) dX0_isInFraction_26
    · refine lv_iconst (v := 0) hx hb dX0_isInFraction_15 (by decide) ?_
      exact W.zret (v := 0) hx hb hr rfl (fun t ht hW => ⟨0, rfl, (by rw [fX0_isInFraction, if_pos c_1, if_pos c_2]), ht⟩) (fun q h => nomatch h) dX0_isInFraction_16

def fX0_fractionOf (xk3 : Nat → Int32) (xf3 : Int32) (p0 p1 : Int32) : Int32 :=
  if (fX0_wordsAt xk3 xf3 p0) = 2 then (((44 + (2 * p0)) + 1) - p1)
  else (44 + (2 * p0))

abbrev wsX0_fractionOf : List Cond := .code yX0_fractionOf cX0_fractionOf 4 (some .int) :: wG
set_option maxHeartbeats 4000000 in
set_option maxRecDepth 100000 in
theorem mX0_fractionOf (l : Launch) (dC : Nat → ClassId) (dI : Nat → Nat → Nat) (xh0 xh1 xh2 xh3 : Nat) (xc1 xc2 xc3 : ClassId) (xk1 xk2 xk3 : Nat → Int32) (xf3 xf4 xf5 xf6 xf7 xf8 xf9 xf10 xf11 xf12 xf13 : Int32) (p0 p1 : Int32)  : Met l yX0_fractionOf wsX0_fractionOf ({ frames := 3, cells := 0, slots := 0, locals := 63 }) (va_Pc [.ref xh0, .int p0, .int p1] (fun U => va_P (dC, dI) vwCl (xW xh0 xh1 xh2 xh3 xc1 xc2 xc3 xk1 xk2 xk3 xf3 xf4 xf5 xf6 xf7 xf8 xf9 xf10 xf11 xf12 xf13) U.heap ∧ va_K (dC, dI) vwCl [(xc1, .int), (xc2, .int), (xc3, .int)] U)) (vp_Si (fun r => r = fX0_fractionOf xk3 xf3 p0 p1)) 0 0 (fun _ => False) := by
  refine Met.ofW (cc := cX0_fractionOf) (maxL := 4) (ret := (some .int)) (by decide) rfl ?_
  intro p e s m args below meth c s₁ B hml hv
  obtain ⟨rfl, hP, hK⟩ := hv
  have hx := B.exec
  have hb := B.bytes
  have hr := B.returns
  have hts := atoms_spec (ws := wsX0_fractionOf) B.pre
  have htG := fun (w : Cond) (h : w ∈ wG) => hts w (List.mem_cons_of_mem _ h)
  have hown : s.vm.findClass RX0 = some m.cls := findClass_of_methodNamed B.named
  have hlocks := B.notSynchronized
  have hl := lv_entry ([.ref xh0, .int p0, .int p1]) (n := 4) (Nat.le_of_ble_eq_true rfl)
  rw [lg_entry_eq]
  generalize (lg_sl ([.ref xh0, .int p0, .int p1]) ++ List.replicate (4 - (lg_sl ([.ref xh0, .int p0, .int p1])).length) Slot.unset).toArray = ls at hl ⊢
  have hl : lv_has ls 4 [(0, .ref xh0), (1, .int p0), (2, .int p1)] := hl
  refine lv_bipush (v := 44) hx hb dX0_fractionOf_0 (by decide) ?_
  refine lv_iconst (v := 2) hx hb dX0_fractionOf_2 (by decide) ?_
  refine lv_iload_n hx hb dX0_fractionOf_3 rfl (lv_at hl 1 rfl) ?_
  refine lv_imul hx hb dX0_fractionOf_4 ?_
  refine lv_iadd hx hb dX0_fractionOf_5 ?_
  refine lv_istore_n (lv' := [(3, .int (44 + (2 * p0))), (0, .ref xh0), (1, .int p0), (2, .int p1)]) hx hb dX0_fractionOf_6 rfl hl (by decide) rfl (fun ls hl => ?_)
  refine lv_aload_n hx hb dX0_fractionOf_7 rfl (lv_at hl 1 rfl) ?_
  refine lv_iload_n hx hb dX0_fractionOf_8 rfl (lv_at hl 2 rfl) ?_
  refine vp_callSi (va_runV (As := [.int p0]) (rest := []) ⟨hx, hb, hml, hown, htG⟩ (mX0_wordsAt l dC dI xh0 xh1 xh2 xh3 xc1 xc2 xc3 xk1 xk2 xk3 xf3 xf4 xf5 xf6 xf7 xf8 xf9 xf10 xf11 xf12 xf13 p0) (cwV 1 htG (wG_V wd_248 wd_250 wd_4 wd_22 wd_251) rfl rfl rfl (by decide +kernel) ⟨Nat.le_of_ble_eq_true rfl, Nat.le_of_ble_eq_true rfl⟩) ⟨fun a U g mk q => by obtain ⟨q0, qP, qK⟩ := q; exact ⟨q0, qP, va_K.moved (u := U) (U := U.calling g mk a) (Vm.Alike.refl U.vm) qK⟩, va_recv hK hP (ci := 0) (q0 := 0) rfl rfl, fun U hU hW => ⟨rfl, by rw [hU]; exact hP, va_K.moved hW.alike hK⟩⟩ rfl rfl hl.1 rfl (lv_room (Nat.le_of_ble_eq_true rfl)) dX0_fractionOf_9 ⟨Nat.le_of_ble_eq_true rfl, Nat.le_of_ble_eq_true rfl⟩).run (fun r_1 er_1 => ?_)
  subst er_1
  refine lv_iconst (v := 2) hx hb dX0_fractionOf_12 (by decide) ?_
  refine lv_icmp_ne (tgt := 24) hx hb dX0_fractionOf_13 (by decide) (fun c_1 => ?_) (fun c_1 => ?_)
  · refine lv_iload_n hx hb dX0_fractionOf_24 rfl (lv_at hl 0 rfl) ?_
    exact W.iret (v := (44 + (2 * p0))) hx hb hr (fun t ht hW => ⟨(44 + (2 * p0)), rfl, (by rw [fX0_fractionOf, if_neg c_1]), ht⟩) (fun q h => nomatch h) dX0_fractionOf_25
  · refine lv_iload_n hx hb dX0_fractionOf_16 rfl (lv_at hl 0 rfl) ?_
    refine lv_iconst (v := 1) hx hb dX0_fractionOf_17 (by decide) ?_
    refine lv_iadd hx hb dX0_fractionOf_18 ?_
    refine lv_iload_n hx hb dX0_fractionOf_19 rfl (lv_at hl 3 rfl) ?_
    refine lv_isub hx hb dX0_fractionOf_20 ?_
    refine lv_goto (tgt := 25) hx hb dX0_fractionOf_21 (by decide) ?_
    exact W.iret (v := (((44 + (2 * p0)) + 1) - p1)) hx hb hr (fun t ht hW => ⟨(((44 + (2 * p0)) + 1) - p1), rfl, (by rw [fX0_fractionOf, if_pos c_1]), ht⟩) (fun q h => nomatch h) dX0_fractionOf_25

def fX0_areaSize (xf6 : Int32) : Int32 :=
  (if (fX0_fill xf6 8) < 16 then 16 else (fX0_fill xf6 8))

abbrev wsX0_areaSize : List Cond := .code yX0_areaSize cX0_areaSize 1 (some .int) :: wG
set_option maxHeartbeats 4000000 in
set_option maxRecDepth 100000 in
theorem mX0_areaSize (l : Launch) (dC : Nat → ClassId) (dI : Nat → Nat → Nat) (xh0 xh1 xh2 xh3 : Nat) (xc1 xc2 xc3 : ClassId) (xk1 xk2 xk3 : Nat → Int32) (xf3 xf4 xf5 xf6 xf7 xf8 xf9 xf10 xf11 xf12 xf13 : Int32)   : Met l yX0_areaSize wsX0_areaSize ({ frames := 1, cells := 0, slots := 0, locals := 21 }) (va_Pc [.ref xh0] (fun U => va_P (dC, dI) vwCl (xW xh0 xh1 xh2 xh3 xc1 xc2 xc3 xk1 xk2 xk3 xf3 xf4 xf5 xf6 xf7 xf8 xf9 xf10 xf11 xf12 xf13) U.heap ∧ va_K (dC, dI) vwCl [(xc1, .int), (xc2, .int), (xc3, .int)] U)) (vp_Si (fun r => r = fX0_areaSize xf6)) 0 0 (fun _ => False) := by
  refine Met.ofW (cc := cX0_areaSize) (maxL := 1) (ret := (some .int)) (by decide) rfl ?_
  intro p e s m args below meth c s₁ B hml hv
  obtain ⟨rfl, hP, hK⟩ := hv
  have hx := B.exec
  have hb := B.bytes
  have hr := B.returns
  have hts := atoms_spec (ws := wsX0_areaSize) B.pre
  have htG := fun (w : Cond) (h : w ∈ wG) => hts w (List.mem_cons_of_mem _ h)
  have hown : s.vm.findClass RX0 = some m.cls := findClass_of_methodNamed B.named
  have hlocks := B.notSynchronized
  have hl := lv_entry ([.ref xh0]) (n := 1) (Nat.le_of_ble_eq_true rfl)
  rw [lg_entry_eq]
  generalize (lg_sl ([.ref xh0]) ++ List.replicate (1 - (lg_sl ([.ref xh0])).length) Slot.unset).toArray = ls at hl ⊢
  have hl : lv_has ls 1 [(0, .ref xh0)] := hl
  refine lv_aload_n hx hb dX0_areaSize_0 rfl (lv_at hl 0 rfl) ?_
  refine va_get (D := (dC, dI)) (ci := 0) (v := .int xf6) (C := RX0) (T := TX0) (N := 14) hx hb htG inX0 hown hK hP 0 rfl rfl 6 (by decide) (htG _ wd_46) (fun _ h9 => h9) rfl dX0_areaSize_1 ?_
  refine lv_bipush (v := 8) hx hb dX0_areaSize_4 (by decide) ?_
  refine vp_callSi (va_runS (As := [.int xf6, .int 8]) (rest := []) ⟨hx, hb, hml, hown, htG⟩ (mX0_fill l xf6 8) (va_cwS 2 htG (wG_S wd_92 wd_93 wd_22 wd_94) rfl rfl rfl (by decide +kernel) ⟨Nat.le_of_ble_eq_true rfl, Nat.le_of_ble_eq_true rfl⟩) ⟨fun _ _ _ _ q => q, fun U hU hW => ⟨rfl, trivial⟩⟩ rfl rfl hl.1 rfl (lv_room (Nat.le_of_ble_eq_true rfl)) dX0_areaSize_6 ⟨Nat.le_of_ble_eq_true rfl, Nat.le_of_ble_eq_true rfl⟩).run (fun r_1 er_1 => ?_)
  subst er_1
  refine lv_bipush (v := 16) hx hb dX0_areaSize_9 (by decide) ?_
  refine va_mmax hx hb (hml.trans hl.1.symm) hown (htG _ wd_95) (htG _ wd_96) (htG _ wd_30) (htG _ wd_97) (Nat.le_of_ble_eq_true rfl) (Nat.le_of_ble_eq_true rfl) (Nat.le_of_ble_eq_true rfl) (Nat.le_of_ble_eq_true rfl) dX0_areaSize_11 ?_
  exact W.iret (v := (if (fX0_fill xf6 8) < 16 then 16 else (fX0_fill xf6 8))) hx hb hr (fun t ht hW => ⟨(if (fX0_fill xf6 8) < 16 then 16 else (fX0_fill xf6 8)), rfl, (by rw [fX0_areaSize]), ht⟩) (fun q h => nomatch h) dX0_areaSize_14

def fX0_resultPlace (xf4 : Int32) : Int32 :=
  if xf4 = 0 then 2
  else if xf4 = 1 then 32
    else if xf4 = 2 then 32
      else if xf4 = 3 then 2
        else (-1)

abbrev wsX0_resultPlace : List Cond := .code yX0_resultPlace cX0_resultPlace 1 (some .int) :: wG
set_option maxHeartbeats 4000000 in
set_option maxRecDepth 100000 in
theorem mX0_resultPlace (l : Launch) (dC : Nat → ClassId) (dI : Nat → Nat → Nat) (xh0 xh1 xh2 xh3 : Nat) (xc1 xc2 xc3 : ClassId) (xk1 xk2 xk3 : Nat → Int32) (xf3 xf4 xf5 xf6 xf7 xf8 xf9 xf10 xf11 xf12 xf13 : Int32)   : Met l yX0_resultPlace wsX0_resultPlace ({ frames := 0, cells := 0, slots := 0, locals := 0 }) (va_Pc [.ref xh0] (fun U => va_P (dC, dI) vwCl (xW xh0 xh1 xh2 xh3 xc1 xc2 xc3 xk1 xk2 xk3 xf3 xf4 xf5 xf6 xf7 xf8 xf9 xf10 xf11 xf12 xf13) U.heap ∧ va_K (dC, dI) vwCl [(xc1, .int), (xc2, .int), (xc3, .int)] U)) (vp_Si (fun r => r = fX0_resultPlace xf4)) 0 0 (fun _ => False) := by
  refine Met.ofW (cc := cX0_resultPlace) (maxL := 1) (ret := (some .int)) (by decide) rfl ?_
  intro p e s m args below meth c s₁ B hml hv
  obtain ⟨rfl, hP, hK⟩ := hv
  have hx := B.exec
  have hb := B.bytes
  have hr := B.returns
  have hts := atoms_spec (ws := wsX0_resultPlace) B.pre
  have htG := fun (w : Cond) (h : w ∈ wG) => hts w (List.mem_cons_of_mem _ h)
  have hown : s.vm.findClass RX0 = some m.cls := findClass_of_methodNamed B.named
  have hlocks := B.notSynchronized
  have hl := lv_entry ([.ref xh0]) (n := 1) (Nat.le_of_ble_eq_true rfl)
  rw [lg_entry_eq]
  generalize (lg_sl ([.ref xh0]) ++ List.replicate (1 - (lg_sl ([.ref xh0])).length) Slot.unset).toArray = ls at hl ⊢
  have hl : lv_has ls 1 [(0, .ref xh0)] := hl
  refine lv_aload_n hx hb dX0_resultPlace_0 rfl (lv_at hl 0 rfl) ?_
  refine va_get (D := (dC, dI)) (ci := 0) (v := .int xf4) (C := RX0) (T := TX0) (N := 14) hx hb htG inX0 hown hK hP 0 rfl rfl 4 (by decide) (htG _ wd_44) (fun _ h9 => h9) rfl dX0_resultPlace_1 ?_
  -- a switch of xf4
  rcases Classical.em (xf4 = 0) with c_1 | c_1
  · refine lv_tableIn (tgt := 36) (off := 32) hx hb dX0_resultPlace_4 (by rw [c_1]; decide) (by rw [c_1]; decide) (by rw [c_1]; rfl) (by decide) ?_
    refine lv_iconst (v := 2) hx hb dX0_resultPlace_36 (by decide) ?_
    exact W.iret (v := 2) hx hb hr (fun t ht hW => ⟨2, rfl, (by rw [fX0_resultPlace, if_pos c_1]), ht⟩) (fun q h => nomatch h) dX0_resultPlace_37
  · rcases Classical.em (xf4 = 1) with c_2 | c_2
    · refine lv_tableIn (tgt := 38) (off := 34) hx hb dX0_resultPlace_4 (by rw [c_2]; decide) (by rw [c_2]; decide) (by rw [c_2]; rfl) (by decide) ?_
      refine lv_bipush (v := 32) hx hb dX0_resultPlace_38 (by decide) ?_
      exact W.iret (v := 32) hx hb hr (fun t ht hW => ⟨32, rfl, (by rw [fX0_resultPlace, if_neg c_1, if_pos c_2]), ht⟩) (fun q h => nomatch h) dX0_resultPlace_40
    · rcases Classical.em (xf4 = 2) with c_3 | c_3
      · refine lv_tableIn (tgt := 38) (off := 34) hx hb dX0_resultPlace_4 (by rw [c_3]; decide) (by rw [c_3]; decide) (by rw [c_3]; rfl) (by decide) ?_
        refine lv_bipush (v := 32) hx hb dX0_resultPlace_38 (by decide) ?_
        exact W.iret (v := 32) hx hb hr (fun t ht hW => ⟨32, rfl, (by rw [fX0_resultPlace, if_neg c_1, if_neg c_2, if_pos c_3]), ht⟩) (fun q h => nomatch h) dX0_resultPlace_40
      · rcases Classical.em (xf4 = 3) with c_4 | c_4
        · refine lv_tableIn (tgt := 36) (off := 32) hx hb dX0_resultPlace_4 (by rw [c_4]; decide) (by rw [c_4]; decide) (by rw [c_4]; rfl) (by decide) ?_
          refine lv_iconst (v := 2) hx hb dX0_resultPlace_36 (by decide) ?_
          exact W.iret (v := 2) hx hb hr (fun t ht hW => ⟨2, rfl, (by rw [fX0_resultPlace, if_neg c_1, if_neg c_2, if_neg c_3, if_pos c_4]), ht⟩) (fun q h => nomatch h) dX0_resultPlace_37
        · refine lv_tableOut (tgt := 41) hx hb dX0_resultPlace_4 (tab_out0_3 c_1 c_2 c_3 c_4) (by decide) ?_
          refine lv_iconst (v := (-1)) hx hb dX0_resultPlace_41 (by decide) ?_
          exact W.iret (v := (-1)) hx hb hr (fun t ht hW => ⟨(-1), rfl, (by rw [fX0_resultPlace, if_neg c_1, if_neg c_2, if_neg c_3, if_neg c_4]), ht⟩) (fun q h => nomatch h) dX0_resultPlace_42
