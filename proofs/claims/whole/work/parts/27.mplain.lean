def fX1_begin (mk1 mk2 mk3 : Nat → Int32) (mf0 mf1 mf2 mf3 mf4 mf5 mf6 mf7 mf8 mf9 : Int32) (p0 p1 p2 p3 : Int32) : Int32 × Int32 × mWS :=
  if (fX1_isGood p0 4 p1 p2) = 0 then (0, 0, (mk1, mk2, mk3, 1, mf1, mf2, mf3, mf4, mf5, mf6, mf7, mf8, mf9))
  else (0, 0, (mk1, mk2, mk3, 0, p0, 0, mf3, mf4, mf5, mf6, mf7, mf8, p3))

abbrev wsX1_begin : List Cond := .code yX1_begin cX1_begin 5 none :: wG
set_option maxHeartbeats 4000000 in
set_option maxRecDepth 100000 in
theorem mX1_begin (l : Launch) (dC : Nat → ClassId) (dI : Nat → Nat → Nat) (mh0 mh1 mh2 mh3 : Nat) (sz : Nat) (mc1 mc2 mc3 : ClassId) (mk1 mk2 mk3 : Nat → Int32) (mf0 mf1 mf2 mf3 mf4 mf5 mf6 mf7 mf8 mf9 : Int32) (p0 p1 p2 p3 : Int32) (ho : p3 = 0 ∨ p3 = 1) : Met l yX1_begin wsX1_begin ({ frames := 1, cells := 0, slots := 0, locals := 24 }) (va_Pc [.ref mh0, .int p0, .int p1, .int p2, .int p3] (fun U => U.heap.size = sz ∧ va_P (dC, dI) vwCl (mW mh0 mh1 mh2 mh3 mc1 mc2 mc3 mk1 mk2 mk3 mf0 mf1 mf2 mf3 mf4 mf5 mf6 mf7 mf8 mf9) U.heap ∧ va_K (dC, dI) vwCl [(mc1, .int), (mc2, .int), (mc3, .int)] U ∧ va_D (fun _ => True) (mW mh0 mh1 mh2 mh3 mc1 mc2 mc3 mk1 mk2 mk3 mf0 mf1 mf2 mf3 mf4 mf5 mf6 mf7 mf8 mf9))) (va_Qv (fun u => (0, 0, u) = fX1_begin mk1 mk2 mk3 mf0 mf1 mf2 mf3 mf4 mf5 mf6 mf7 mf8 mf9 p0 p1 p2 p3) (mWB dC dI (va_A (mW mh0 mh1 mh2 mh3 mc1 mc2 mc3 mk1 mk2 mk3 mf0 mf1 mf2 mf3 mf4 mf5 mf6 mf7 mf8 mf9) sz) mh0 mh1 mh2 mh3 mc1 mc2 mc3) (va_A (mW mh0 mh1 mh2 mh3 mc1 mc2 mc3 mk1 mk2 mk3 mf0 mf1 mf2 mf3 mf4 mf5 mf6 mf7 mf8 mf9) sz)) 0 0 (va_A (mW mh0 mh1 mh2 mh3 mc1 mc2 mc3 mk1 mk2 mk3 mf0 mf1 mf2 mf3 mf4 mf5 mf6 mf7 mf8 mf9) sz) := by
  refine Met.ofW (cc := cX1_begin) (maxL := 5) (ret := none) (by decide) rfl ?_
  intro p e s m args below meth c s₁ B hml hv
  obtain ⟨rfl, hsz, hP, hK, hD0⟩ := hv
  have hx := B.exec
  have hb := B.bytes
  have hr := B.returns
  have hts := atoms_spec (ws := wsX1_begin) B.pre
  have htG := fun (w : Cond) (h : w ∈ wG) => hts w (List.mem_cons_of_mem _ h)
  have hown : s.vm.findClass RX1 = some m.cls := findClass_of_methodNamed B.named
  have hlocks := B.notSynchronized
  subst hsz
  have hD := hD0.self (sz := s.heap.size)
  generalize hAe : va_A (mW mh0 mh1 mh2 mh3 mc1 mc2 mc3 mk1 mk2 mk3 mf0 mf1 mf2 mf3 mf4 mf5 mf6 mf7 mf8 mf9) s.heap.size = A at hD ⊢
  have hA : ∀ q : Nat, s.heap.size ≤ q → A q := fun q h => by rw [← hAe]; exact Or.inr h
  have hS : va_S A s.heap s.heap [] := va_S.rf
  have hP : va_P (dC, dI) vwCl (mW mh0 mh1 mh2 mh3 mc1 mc2 mc3 mk1 mk2 mk3 mf0 mf1 mf2 mf3 mf4 mf5 mf6 mf7 mf8 mf9) s.heap := hP
  have hl := lv_entry ([.ref mh0, .int p0, .int p1, .int p2, .int p3]) (n := 5) (Nat.le_of_ble_eq_true rfl)
  rw [lg_entry_eq]
  generalize (lg_sl ([.ref mh0, .int p0, .int p1, .int p2, .int p3]) ++ List.replicate (5 - (lg_sl ([.ref mh0, .int p0, .int p1, .int p2, .int p3])).length) Slot.unset).toArray = ls at hl ⊢
  have hl : lv_has ls 5 [(0, .ref mh0), (1, .int p0), (2, .int p1), (3, .int p2), (4, .int p3)] := hl
  refine lv_aload_n hx hb dX1_begin_0 rfl (lv_at hl 0 rfl) ?_
  refine lv_iconst (v := 0) hx hb dX1_begin_1 (by decide) ?_
  refine va_put (D := (dC, dI)) (ci := 1) (v := .int 0) (ty := .int) (C := RX1) (T := TX1) (N := 13) hx hb htG inX1 tyX1 tyX1_ok nmX1 hown hK hP hD hS 0 rfl rfl 0 (by decide) (htG _ wd_331) (fun _ h9 => h9) rfl (by decide +kernel) rfl rfl (Nat.le_of_ble_eq_true rfl) dX1_begin_2 (fun H locs hP hD hS => ?_)
  have hP : va_P (dC, dI) vwCl (mW mh0 mh1 mh2 mh3 mc1 mc2 mc3 mk1 mk2 mk3 0 mf1 mf2 mf3 mf4 mf5 mf6 mf7 mf8 mf9) H := hP
  have hD : va_D A (mW mh0 mh1 mh2 mh3 mc1 mc2 mc3 mk1 mk2 mk3 0 mf1 mf2 mf3 mf4 mf5 mf6 mf7 mf8 mf9) := hD
  refine lv_iload_n hx hb dX1_begin_5 rfl (lv_at hl 1 rfl) ?_
  refine lv_iconst (v := 4) hx hb dX1_begin_6 (by decide) ?_
  refine lv_iload_n hx hb dX1_begin_7 rfl (lv_at hl 2 rfl) ?_
  refine lv_iload_n hx hb dX1_begin_8 rfl (lv_at hl 3 rfl) ?_
  refine vp_callSi (va_runS (As := [.int p0, .int 4, .int p1, .int p2]) (rest := []) ⟨hx, hb, hml, hown, htG⟩ (mX1_isGood l p0 4 p1 p2) (va_cwS 4 htG (wG_S wd_379 wd_380 wd_23 wd_381) rfl rfl rfl (by decide +kernel) ⟨Nat.le_of_ble_eq_true rfl, Nat.le_of_ble_eq_true rfl⟩) ⟨fun _ _ _ _ q => q, fun U hU hW => ⟨rfl, trivial⟩⟩ rfl rfl hl.1 rfl (lv_room (Nat.le_of_ble_eq_true rfl)) dX1_begin_9 ⟨Nat.le_of_ble_eq_true rfl, Nat.le_of_ble_eq_true rfl⟩).run (fun r_1 er_1 => ?_)
  subst er_1
  refine lv_if_ne (tgt := 21) hx hb dX1_begin_12 (by decide) (fun c_1 => ?_) (fun c_1 => ?_)
  · refine lv_aload_n hx hb dX1_begin_21 rfl (lv_at hl 0 rfl) ?_
    refine lv_iload_n hx hb dX1_begin_22 rfl (lv_at hl 1 rfl) ?_
    refine va_put (D := (dC, dI)) (ci := 1) (v := .int p0) (ty := .int) (C := RX1) (T := TX1) (N := 13) hx hb htG inX1 tyX1 tyX1_ok nmX1 hown hK hP hD hS 0 rfl rfl 1 (by decide) (htG _ wd_332) (fun _ h9 => h9) rfl (by decide +kernel) rfl rfl (Nat.le_of_ble_eq_true rfl) dX1_begin_23 (fun H locs hP hD hS => ?_)
    have hP : va_P (dC, dI) vwCl (mW mh0 mh1 mh2 mh3 mc1 mc2 mc3 mk1 mk2 mk3 0 p0 mf2 mf3 mf4 mf5 mf6 mf7 mf8 mf9) H := hP
    have hD : va_D A (mW mh0 mh1 mh2 mh3 mc1 mc2 mc3 mk1 mk2 mk3 0 p0 mf2 mf3 mf4 mf5 mf6 mf7 mf8 mf9) := hD
    refine lv_aload_n hx hb dX1_begin_26 rfl (lv_at hl 0 rfl) ?_
    refine lv_iload hx hb dX1_begin_27 (lv_at hl 4 rfl) ?_
    refine va_put (D := (dC, dI)) (ci := 1) (v := .int p3) (ty := .boolean) (C := RX1) (T := TX1) (N := 13) hx hb htG inX1 tyX1 tyX1_ok nmX1 hown hK hP hD hS 0 rfl rfl 9 (by decide) (htG _ wd_340) (fun _ h9 => h9) rfl (by decide +kernel) (nb_of ho) (fb_of ho) (Nat.le_of_ble_eq_true rfl) dX1_begin_29 (fun H locs hP hD hS => ?_)
    have hP : va_P (dC, dI) vwCl (mW mh0 mh1 mh2 mh3 mc1 mc2 mc3 mk1 mk2 mk3 0 p0 mf2 mf3 mf4 mf5 mf6 mf7 mf8 p3) H := hP
    have hD : va_D A (mW mh0 mh1 mh2 mh3 mc1 mc2 mc3 mk1 mk2 mk3 0 p0 mf2 mf3 mf4 mf5 mf6 mf7 mf8 p3) := hD
    refine lv_aload_n hx hb dX1_begin_32 rfl (lv_at hl 0 rfl) ?_
    refine lv_iconst (v := 0) hx hb dX1_begin_33 (by decide) ?_
    refine va_put (D := (dC, dI)) (ci := 1) (v := .int 0) (ty := .int) (C := RX1) (T := TX1) (N := 13) hx hb htG inX1 tyX1 tyX1_ok nmX1 hown hK hP hD hS 0 rfl rfl 2 (by decide) (htG _ wd_333) (fun _ h9 => h9) rfl (by decide +kernel) rfl rfl (Nat.le_of_ble_eq_true rfl) dX1_begin_34 (fun H locs hP hD hS => ?_)
    have hP : va_P (dC, dI) vwCl (mW mh0 mh1 mh2 mh3 mc1 mc2 mc3 mk1 mk2 mk3 0 p0 0 mf3 mf4 mf5 mf6 mf7 mf8 p3) H := hP
    have hD : va_D A (mW mh0 mh1 mh2 mh3 mc1 mc2 mc3 mk1 mk2 mk3 0 p0 0 mf3 mf4 mf5 mf6 mf7 mf8 p3) := hD
    exact W.vret hx hb hr (fun t ht hW => ⟨⟨(mk1, mk2, mk3, 0, p0, 0, mf3, mf4, mf5, mf6, mf7, mf8, p3), rfl, (by rw [fX1_begin, if_neg c_1]), by rw [ht]; exact hP, va_K.moved hW.alike hK, hD⟩, hS.F ht⟩) hS.2.2 dX1_begin_37
  · refine lv_aload_n hx hb dX1_begin_15 rfl (lv_at hl 0 rfl) ?_
    refine lv_iconst (v := 1) hx hb dX1_begin_16 (by decide) ?_
    refine va_put (D := (dC, dI)) (ci := 1) (v := .int 1) (ty := .int) (C := RX1) (T := TX1) (N := 13) hx hb htG inX1 tyX1 tyX1_ok nmX1 hown hK hP hD hS 0 rfl rfl 0 (by decide) (htG _ wd_331) (fun _ h9 => h9) rfl (by decide +kernel) rfl rfl (Nat.le_of_ble_eq_true rfl) dX1_begin_17 (fun H locs hP hD hS => ?_)
    have hP : va_P (dC, dI) vwCl (mW mh0 mh1 mh2 mh3 mc1 mc2 mc3 mk1 mk2 mk3 1 mf1 mf2 mf3 mf4 mf5 mf6 mf7 mf8 mf9) H := hP
    have hD : va_D A (mW mh0 mh1 mh2 mh3 mc1 mc2 mc3 mk1 mk2 mk3 1 mf1 mf2 mf3 mf4 mf5 mf6 mf7 mf8 mf9) := hD
    exact W.vret hx hb hr (fun t ht hW => ⟨⟨(mk1, mk2, mk3, 1, mf1, mf2, mf3, mf4, mf5, mf6, mf7, mf8, mf9), rfl, (by rw [fX1_begin, if_pos c_1]), by rw [ht]; exact hP, va_K.moved hW.alike hK, hD⟩, hS.F ht⟩) hS.2.2 dX1_begin_20

def fX1_clear (mk1 mk2 mk3 : Nat → Int32) (mf0 mf1 mf2 mf3 mf4 mf5 mf6 mf7 mf8 mf9 : Int32) : Int32 × Int32 × mWS :=
  (0, mf3, (mk1, mk2, mk3, 0, mf1, mf2, 0, 0, 0, 0, 0, 0, mf9))

abbrev wsX1_clear : List Cond := .code yX1_clear cX1_clear 2 (some .int) :: wG
set_option maxHeartbeats 4000000 in
set_option maxRecDepth 100000 in
theorem mX1_clear (l : Launch) (dC : Nat → ClassId) (dI : Nat → Nat → Nat) (mh0 mh1 mh2 mh3 : Nat) (sz : Nat) (mc1 mc2 mc3 : ClassId) (mk1 mk2 mk3 : Nat → Int32) (mf0 mf1 mf2 mf3 mf4 mf5 mf6 mf7 mf8 mf9 : Int32)   : Met l yX1_clear wsX1_clear ({ frames := 0, cells := 0, slots := 0, locals := 0 }) (va_Pc [.ref mh0] (fun U => U.heap.size = sz ∧ va_P (dC, dI) vwCl (mW mh0 mh1 mh2 mh3 mc1 mc2 mc3 mk1 mk2 mk3 mf0 mf1 mf2 mf3 mf4 mf5 mf6 mf7 mf8 mf9) U.heap ∧ va_K (dC, dI) vwCl [(mc1, .int), (mc2, .int), (mc3, .int)] U ∧ va_D (fun _ => True) (mW mh0 mh1 mh2 mh3 mc1 mc2 mc3 mk1 mk2 mk3 mf0 mf1 mf2 mf3 mf4 mf5 mf6 mf7 mf8 mf9))) (va_Qi (fun r u => (0, r, u) = fX1_clear mk1 mk2 mk3 mf0 mf1 mf2 mf3 mf4 mf5 mf6 mf7 mf8 mf9) (mWB dC dI (va_A (mW mh0 mh1 mh2 mh3 mc1 mc2 mc3 mk1 mk2 mk3 mf0 mf1 mf2 mf3 mf4 mf5 mf6 mf7 mf8 mf9) sz) mh0 mh1 mh2 mh3 mc1 mc2 mc3) (va_A (mW mh0 mh1 mh2 mh3 mc1 mc2 mc3 mk1 mk2 mk3 mf0 mf1 mf2 mf3 mf4 mf5 mf6 mf7 mf8 mf9) sz)) 0 0 (va_A (mW mh0 mh1 mh2 mh3 mc1 mc2 mc3 mk1 mk2 mk3 mf0 mf1 mf2 mf3 mf4 mf5 mf6 mf7 mf8 mf9) sz) := by
  refine Met.ofW (cc := cX1_clear) (maxL := 2) (ret := (some .int)) (by decide) rfl ?_
  intro p e s m args below meth c s₁ B hml hv
  obtain ⟨rfl, hsz, hP, hK, hD0⟩ := hv
  have hx := B.exec
  have hb := B.bytes
  have hr := B.returns
  have hts := atoms_spec (ws := wsX1_clear) B.pre
  have htG := fun (w : Cond) (h : w ∈ wG) => hts w (List.mem_cons_of_mem _ h)
  have hown : s.vm.findClass RX1 = some m.cls := findClass_of_methodNamed B.named
  have hlocks := B.notSynchronized
  subst hsz
  have hD := hD0.self (sz := s.heap.size)
  generalize hAe : va_A (mW mh0 mh1 mh2 mh3 mc1 mc2 mc3 mk1 mk2 mk3 mf0 mf1 mf2 mf3 mf4 mf5 mf6 mf7 mf8 mf9) s.heap.size = A at hD ⊢
  have hA : ∀ q : Nat, s.heap.size ≤ q → A q := fun q h => by rw [← hAe]; exact Or.inr h
  have hS : va_S A s.heap s.heap [] := va_S.rf
  have hP : va_P (dC, dI) vwCl (mW mh0 mh1 mh2 mh3 mc1 mc2 mc3 mk1 mk2 mk3 mf0 mf1 mf2 mf3 mf4 mf5 mf6 mf7 mf8 mf9) s.heap := hP
  have hl := lv_entry ([.ref mh0]) (n := 2) (Nat.le_of_ble_eq_true rfl)
  rw [lg_entry_eq]
  generalize (lg_sl ([.ref mh0]) ++ List.replicate (2 - (lg_sl ([.ref mh0])).length) Slot.unset).toArray = ls at hl ⊢
  have hl : lv_has ls 2 [(0, .ref mh0)] := hl
  refine lv_aload_n hx hb dX1_clear_0 rfl (lv_at hl 0 rfl) ?_
  refine lv_iconst (v := 0) hx hb dX1_clear_1 (by decide) ?_
  refine va_put (D := (dC, dI)) (ci := 1) (v := .int 0) (ty := .int) (C := RX1) (T := TX1) (N := 13) hx hb htG inX1 tyX1 tyX1_ok nmX1 hown hK hP hD hS 0 rfl rfl 0 (by decide) (htG _ wd_331) (fun _ h9 => h9) rfl (by decide +kernel) rfl rfl (Nat.le_of_ble_eq_true rfl) dX1_clear_2 (fun H locs hP hD hS => ?_)
  have hP : va_P (dC, dI) vwCl (mW mh0 mh1 mh2 mh3 mc1 mc2 mc3 mk1 mk2 mk3 0 mf1 mf2 mf3 mf4 mf5 mf6 mf7 mf8 mf9) H := hP
  have hD : va_D A (mW mh0 mh1 mh2 mh3 mc1 mc2 mc3 mk1 mk2 mk3 0 mf1 mf2 mf3 mf4 mf5 mf6 mf7 mf8 mf9) := hD
  refine lv_aload_n hx hb dX1_clear_5 rfl (lv_at hl 0 rfl) ?_
  refine va_get (D := (dC, dI)) (ci := 1) (v := .int mf3) (C := RX1) (T := TX1) (N := 13) hx hb htG inX1 hown hK hP 0 rfl rfl 3 (by decide) (htG _ wd_334) (fun _ h9 => h9) rfl dX1_clear_6 ?_
  refine lv_istore_n (lv' := [(1, .int mf3), (0, .ref mh0)]) hx hb dX1_clear_9 rfl hl (by decide) rfl (fun ls hl => ?_)
  refine lv_aload_n hx hb dX1_clear_10 rfl (lv_at hl 1 rfl) ?_
  refine lv_iconst (v := 0) hx hb dX1_clear_11 (by decide) ?_
  refine va_put (D := (dC, dI)) (ci := 1) (v := .int 0) (ty := .int) (C := RX1) (T := TX1) (N := 13) hx hb htG inX1 tyX1 tyX1_ok nmX1 hown hK hP hD hS 0 rfl rfl 3 (by decide) (htG _ wd_334) (fun _ h9 => h9) rfl (by decide +kernel) rfl rfl (Nat.le_of_ble_eq_true rfl) dX1_clear_12 (fun H locs hP hD hS => ?_)
  have hP : va_P (dC, dI) vwCl (mW mh0 mh1 mh2 mh3 mc1 mc2 mc3 mk1 mk2 mk3 0 mf1 mf2 0 mf4 mf5 mf6 mf7 mf8 mf9) H := hP
  have hD : va_D A (mW mh0 mh1 mh2 mh3 mc1 mc2 mc3 mk1 mk2 mk3 0 mf1 mf2 0 mf4 mf5 mf6 mf7 mf8 mf9) := hD
  refine lv_aload_n hx hb dX1_clear_15 rfl (lv_at hl 1 rfl) ?_
  refine lv_iconst (v := 0) hx hb dX1_clear_16 (by decide) ?_
  refine va_put (D := (dC, dI)) (ci := 1) (v := .int 0) (ty := .int) (C := RX1) (T := TX1) (N := 13) hx hb htG inX1 tyX1 tyX1_ok nmX1 hown hK hP hD hS 0 rfl rfl 4 (by decide) (htG _ wd_335) (fun _ h9 => h9) rfl (by decide +kernel) rfl rfl (Nat.le_of_ble_eq_true rfl) dX1_clear_17 (fun H locs hP hD hS => ?_)
  have hP : va_P (dC, dI) vwCl (mW mh0 mh1 mh2 mh3 mc1 mc2 mc3 mk1 mk2 mk3 0 mf1 mf2 0 0 mf5 mf6 mf7 mf8 mf9) H := hP
  have hD : va_D A (mW mh0 mh1 mh2 mh3 mc1 mc2 mc3 mk1 mk2 mk3 0 mf1 mf2 0 0 mf5 mf6 mf7 mf8 mf9) := hD
  refine lv_aload_n hx hb dX1_clear_20 rfl (lv_at hl 1 rfl) ?_
  refine lv_iconst (v := 0) hx hb dX1_clear_21 (by decide) ?_
  refine va_put (D := (dC, dI)) (ci := 1) (v := .int 0) (ty := .int) (C := RX1) (T := TX1) (N := 13) hx hb htG inX1 tyX1 tyX1_ok nmX1 hown hK hP hD hS 0 rfl rfl 8 (by decide) (htG _ wd_339) (fun _ h9 => h9) rfl (by decide +kernel) rfl rfl (Nat.le_of_ble_eq_true rfl) dX1_clear_22 (fun H locs hP hD hS => ?_)
  have hP : va_P (dC, dI) vwCl (mW mh0 mh1 mh2 mh3 mc1 mc2 mc3 mk1 mk2 mk3 0 mf1 mf2 0 0 mf5 mf6 mf7 0 mf9) H := hP
  have hD : va_D A (mW mh0 mh1 mh2 mh3 mc1 mc2 mc3 mk1 mk2 mk3 0 mf1 mf2 0 0 mf5 mf6 mf7 0 mf9) := hD
  refine lv_aload_n hx hb dX1_clear_25 rfl (lv_at hl 1 rfl) ?_
  refine lv_iconst (v := 0) hx hb dX1_clear_26 (by decide) ?_
  refine va_put (D := (dC, dI)) (ci := 1) (v := .int 0) (ty := .int) (C := RX1) (T := TX1) (N := 13) hx hb htG inX1 tyX1 tyX1_ok nmX1 hown hK hP hD hS 0 rfl rfl 7 (by decide) (htG _ wd_338) (fun _ h9 => h9) rfl (by decide +kernel) rfl rfl (Nat.le_of_ble_eq_true rfl) dX1_clear_27 (fun H locs hP hD hS => ?_)
  have hP : va_P (dC, dI) vwCl (mW mh0 mh1 mh2 mh3 mc1 mc2 mc3 mk1 mk2 mk3 0 mf1 mf2 0 0 mf5 mf6 0 0 mf9) H := hP
  have hD : va_D A (mW mh0 mh1 mh2 mh3 mc1 mc2 mc3 mk1 mk2 mk3 0 mf1 mf2 0 0 mf5 mf6 0 0 mf9) := hD
  refine lv_aload_n hx hb dX1_clear_30 rfl (lv_at hl 1 rfl) ?_
  refine lv_iconst (v := 0) hx hb dX1_clear_31 (by decide) ?_
  refine va_put (D := (dC, dI)) (ci := 1) (v := .int 0) (ty := .int) (C := RX1) (T := TX1) (N := 13) hx hb htG inX1 tyX1 tyX1_ok nmX1 hown hK hP hD hS 0 rfl rfl 5 (by decide) (htG _ wd_336) (fun _ h9 => h9) rfl (by decide +kernel) rfl rfl (Nat.le_of_ble_eq_true rfl) dX1_clear_32 (fun H locs hP hD hS => ?_)
  have hP : va_P (dC, dI) vwCl (mW mh0 mh1 mh2 mh3 mc1 mc2 mc3 mk1 mk2 mk3 0 mf1 mf2 0 0 0 mf6 0 0 mf9) H := hP
  have hD : va_D A (mW mh0 mh1 mh2 mh3 mc1 mc2 mc3 mk1 mk2 mk3 0 mf1 mf2 0 0 0 mf6 0 0 mf9) := hD
  refine lv_aload_n hx hb dX1_clear_35 rfl (lv_at hl 1 rfl) ?_
  refine lv_iconst (v := 0) hx hb dX1_clear_36 (by decide) ?_
  refine va_put (D := (dC, dI)) (ci := 1) (v := .int 0) (ty := .int) (C := RX1) (T := TX1) (N := 13) hx hb htG inX1 tyX1 tyX1_ok nmX1 hown hK hP hD hS 0 rfl rfl 6 (by decide) (htG _ wd_337) (fun _ h9 => h9) rfl (by decide +kernel) rfl rfl (Nat.le_of_ble_eq_true rfl) dX1_clear_37 (fun H locs hP hD hS => ?_)
  have hP : va_P (dC, dI) vwCl (mW mh0 mh1 mh2 mh3 mc1 mc2 mc3 mk1 mk2 mk3 0 mf1 mf2 0 0 0 0 0 0 mf9) H := hP
  have hD : va_D A (mW mh0 mh1 mh2 mh3 mc1 mc2 mc3 mk1 mk2 mk3 0 mf1 mf2 0 0 0 0 0 0 mf9) := hD
  refine lv_iload_n hx hb dX1_clear_40 rfl (lv_at hl 0 rfl) ?_
  exact W.iret (v := mf3) hx hb hr (fun t ht hW => ⟨⟨mf3, (mk1, mk2, mk3, 0, mf1, mf2, 0, 0, 0, 0, 0, 0, mf9), rfl, (by rw [fX1_clear]), by rw [ht]; exact hP, va_K.moved hW.alike hK, hD⟩, hS.F ht⟩) hS.2.2 dX1_clear_41

def fX1_call (mk1 mk2 mk3 : Nat → Int32) (mf0 mf1 mf2 mf3 mf4 mf5 mf6 mf7 mf8 mf9 : Int32) : Int32 × Int32 × mWS :=
  if (fX1_area mk1 mk2 mk3 mf1 mf2) ≤ mf4 then (0, mf4, (mk1, mk2, mk3, 0, mf1, mf2, (mf3 + 1), mf4, mf5, mf6, mf7, mf8, mf9))
  else (0, (fX1_area mk1 mk2 mk3 mf1 mf2), (mk1, mk2, mk3, 0, mf1, mf2, (mf3 + 1), (fX1_area mk1 mk2 mk3 mf1 mf2), mf5, mf6, mf7, mf8, mf9))

abbrev wsX1_call : List Cond := .code yX1_call cX1_call 1 (some .int) :: wG
set_option maxHeartbeats 4000000 in
set_option maxRecDepth 100000 in
theorem mX1_call (l : Launch) (dC : Nat → ClassId) (dI : Nat → Nat → Nat) (mh0 mh1 mh2 mh3 : Nat) (sz : Nat) (mc1 mc2 mc3 : ClassId) (mk1 mk2 mk3 : Nat → Int32) (mf0 mf1 mf2 mf3 mf4 mf5 mf6 mf7 mf8 mf9 : Int32)  (hN : mf2.toNatClampNeg ≤ 60) : Met l yX1_call wsX1_call ({ frames := 3, cells := 0, slots := 0, locals := 65 }) (va_Pc [.ref mh0] (fun U => U.heap.size = sz ∧ va_P (dC, dI) vwCl (mW mh0 mh1 mh2 mh3 mc1 mc2 mc3 mk1 mk2 mk3 mf0 mf1 mf2 mf3 mf4 mf5 mf6 mf7 mf8 mf9) U.heap ∧ va_K (dC, dI) vwCl [(mc1, .int), (mc2, .int), (mc3, .int)] U ∧ va_D (fun _ => True) (mW mh0 mh1 mh2 mh3 mc1 mc2 mc3 mk1 mk2 mk3 mf0 mf1 mf2 mf3 mf4 mf5 mf6 mf7 mf8 mf9))) (va_Qi (fun r u => (0, r, u) = fX1_call mk1 mk2 mk3 mf0 mf1 mf2 mf3 mf4 mf5 mf6 mf7 mf8 mf9) (mWB dC dI (va_A (mW mh0 mh1 mh2 mh3 mc1 mc2 mc3 mk1 mk2 mk3 mf0 mf1 mf2 mf3 mf4 mf5 mf6 mf7 mf8 mf9) sz) mh0 mh1 mh2 mh3 mc1 mc2 mc3) (va_A (mW mh0 mh1 mh2 mh3 mc1 mc2 mc3 mk1 mk2 mk3 mf0 mf1 mf2 mf3 mf4 mf5 mf6 mf7 mf8 mf9) sz)) 0 0 (va_A (mW mh0 mh1 mh2 mh3 mc1 mc2 mc3 mk1 mk2 mk3 mf0 mf1 mf2 mf3 mf4 mf5 mf6 mf7 mf8 mf9) sz) := by
  refine Met.ofW (cc := cX1_call) (maxL := 1) (ret := (some .int)) (by decide) rfl ?_
  intro p e s m args below meth c s₁ B hml hv
  obtain ⟨rfl, hsz, hP, hK, hD0⟩ := hv
  have hx := B.exec
  have hb := B.bytes
  have hr := B.returns
  have hts := atoms_spec (ws := wsX1_call) B.pre
  have htG := fun (w : Cond) (h : w ∈ wG) => hts w (List.mem_cons_of_mem _ h)
  have hown : s.vm.findClass RX1 = some m.cls := findClass_of_methodNamed B.named
  have hlocks := B.notSynchronized
  subst hsz
  have hD := hD0.self (sz := s.heap.size)
  generalize hAe : va_A (mW mh0 mh1 mh2 mh3 mc1 mc2 mc3 mk1 mk2 mk3 mf0 mf1 mf2 mf3 mf4 mf5 mf6 mf7 mf8 mf9) s.heap.size = A at hD ⊢
  have hA : ∀ q : Nat, s.heap.size ≤ q → A q := fun q h => by rw [← hAe]; exact Or.inr h
  have hS : va_S A s.heap s.heap [] := va_S.rf
  have hP : va_P (dC, dI) vwCl (mW mh0 mh1 mh2 mh3 mc1 mc2 mc3 mk1 mk2 mk3 mf0 mf1 mf2 mf3 mf4 mf5 mf6 mf7 mf8 mf9) s.heap := hP
  have hl := lv_entry ([.ref mh0]) (n := 1) (Nat.le_of_ble_eq_true rfl)
  rw [lg_entry_eq]
  generalize (lg_sl ([.ref mh0]) ++ List.replicate (1 - (lg_sl ([.ref mh0])).length) Slot.unset).toArray = ls at hl ⊢
  have hl : lv_has ls 1 [(0, .ref mh0)] := hl
  refine lv_aload_n hx hb dX1_call_0 rfl (lv_at hl 0 rfl) ?_
  refine lv_iconst (v := 0) hx hb dX1_call_1 (by decide) ?_
  refine va_put (D := (dC, dI)) (ci := 1) (v := .int 0) (ty := .int) (C := RX1) (T := TX1) (N := 13) hx hb htG inX1 tyX1 tyX1_ok nmX1 hown hK hP hD hS 0 rfl rfl 0 (by decide) (htG _ wd_331) (fun _ h9 => h9) rfl (by decide +kernel) rfl rfl (Nat.le_of_ble_eq_true rfl) dX1_call_2 (fun H locs hP hD hS => ?_)
  have hP : va_P (dC, dI) vwCl (mW mh0 mh1 mh2 mh3 mc1 mc2 mc3 mk1 mk2 mk3 0 mf1 mf2 mf3 mf4 mf5 mf6 mf7 mf8 mf9) H := hP
  have hD : va_D A (mW mh0 mh1 mh2 mh3 mc1 mc2 mc3 mk1 mk2 mk3 0 mf1 mf2 mf3 mf4 mf5 mf6 mf7 mf8 mf9) := hD
  refine lv_aload_n hx hb dX1_call_5 rfl (lv_at hl 0 rfl) ?_
  refine lv_dup hx hb dX1_call_6 rfl ?_
  refine va_get (D := (dC, dI)) (ci := 1) (v := .int mf3) (C := RX1) (T := TX1) (N := 13) hx hb htG inX1 hown hK hP 0 rfl rfl 3 (by decide) (htG _ wd_334) (fun _ h9 => h9) rfl dX1_call_7 ?_
  refine lv_iconst (v := 1) hx hb dX1_call_10 (by decide) ?_
  refine lv_iadd hx hb dX1_call_11 ?_
  refine va_put (D := (dC, dI)) (ci := 1) (v := .int (mf3 + 1)) (ty := .int) (C := RX1) (T := TX1) (N := 13) hx hb htG inX1 tyX1 tyX1_ok nmX1 hown hK hP hD hS 0 rfl rfl 3 (by decide) (htG _ wd_334) (fun _ h9 => h9) rfl (by decide +kernel) rfl rfl (Nat.le_of_ble_eq_true rfl) dX1_call_12 (fun H locs hP hD hS => ?_)
  have hP : va_P (dC, dI) vwCl (mW mh0 mh1 mh2 mh3 mc1 mc2 mc3 mk1 mk2 mk3 0 mf1 mf2 (mf3 + 1) mf4 mf5 mf6 mf7 mf8 mf9) H := hP
  have hD : va_D A (mW mh0 mh1 mh2 mh3 mc1 mc2 mc3 mk1 mk2 mk3 0 mf1 mf2 (mf3 + 1) mf4 mf5 mf6 mf7 mf8 mf9) := hD
  refine lv_aload_n hx hb dX1_call_15 rfl (lv_at hl 0 rfl) ?_
  refine vp_callSi (va_runV (As := []) (rest := []) ⟨hx, hb, hml, hown, htG⟩ (mX1_area l dC dI mh0 mh1 mh2 mh3 mc1 mc2 mc3 mk1 mk2 mk3 0 mf1 mf2 (mf3 + 1) mf4 mf5 mf6 mf7 mf8 mf9 hN) (cwV 0 htG (wG_V wd_431 wd_433 wd_18 wd_23 wd_434) rfl rfl rfl (by decide +kernel) ⟨Nat.le_of_ble_eq_true rfl, Nat.le_of_ble_eq_true rfl⟩) ⟨fun a U g mk q => by obtain ⟨q0, qP, qK⟩ := q; exact ⟨q0, qP, va_K.moved (u := U) (U := U.calling g mk a) (Vm.Alike.refl U.vm) qK⟩, va_recv hK hP (ci := 1) (q0 := 0) rfl rfl, fun U hU hW => ⟨rfl, by rw [hU]; exact hP, va_K.moved hW.alike hK⟩⟩ rfl rfl hl.1 rfl (lv_room (Nat.le_of_ble_eq_true rfl)) dX1_call_16 ⟨Nat.le_of_ble_eq_true rfl, Nat.le_of_ble_eq_true rfl⟩).run (fun r_1 er_1 => ?_)
  subst er_1
  refine lv_aload_n hx hb dX1_call_19 rfl (lv_at hl 0 rfl) ?_
  refine va_get (D := (dC, dI)) (ci := 1) (v := .int mf4) (C := RX1) (T := TX1) (N := 13) hx hb htG inX1 hown hK hP 0 rfl rfl 4 (by decide) (htG _ wd_335) (fun _ h9 => h9) rfl dX1_call_20 ?_
  refine lv_icmp_le (tgt := 34) hx hb dX1_call_23 (by decide) (fun c_1 => ?_) (fun c_1 => ?_)
  · refine lv_aload_n hx hb dX1_call_34 rfl (lv_at hl 0 rfl) ?_
    refine va_get (D := (dC, dI)) (ci := 1) (v := .int mf4) (C := RX1) (T := TX1) (N := 13) hx hb htG inX1 hown hK hP 0 rfl rfl 4 (by decide) (htG _ wd_335) (fun _ h9 => h9) rfl dX1_call_35 ?_
    exact W.iret (v := mf4) hx hb hr (fun t ht hW => ⟨⟨mf4, (mk1, mk2, mk3, 0, mf1, mf2, (mf3 + 1), mf4, mf5, mf6, mf7, mf8, mf9), rfl, (by rw [fX1_call, if_pos c_1]), by rw [ht]; exact hP, va_K.moved hW.alike hK, hD⟩, hS.F ht⟩) hS.2.2 dX1_call_38
  · refine lv_aload_n hx hb dX1_call_26 rfl (lv_at hl 0 rfl) ?_
    refine lv_aload_n hx hb dX1_call_27 rfl (lv_at hl 0 rfl) ?_
    refine vp_callSi (va_runV (As := []) (rest := [.ref mh0]) ⟨hx, hb, hml, hown, htG⟩ (mX1_area l dC dI mh0 mh1 mh2 mh3 mc1 mc2 mc3 mk1 mk2 mk3 0 mf1 mf2 (mf3 + 1) mf4 mf5 mf6 mf7 mf8 mf9 hN) (cwV 0 htG (wG_V wd_431 wd_433 wd_18 wd_23 wd_434) rfl rfl rfl (by decide +kernel) ⟨Nat.le_of_ble_eq_true rfl, Nat.le_of_ble_eq_true rfl⟩) ⟨fun a U g mk q => by obtain ⟨q0, qP, qK⟩ := q; exact ⟨q0, qP, va_K.moved (u := U) (U := U.calling g mk a) (Vm.Alike.refl U.vm) qK⟩, va_recv hK hP (ci := 1) (q0 := 0) rfl rfl, fun U hU hW => ⟨rfl, by rw [hU]; exact hP, va_K.moved hW.alike hK⟩⟩ rfl rfl hl.1 rfl (lv_room (Nat.le_of_ble_eq_true rfl)) dX1_call_28 ⟨Nat.le_of_ble_eq_true rfl, Nat.le_of_ble_eq_true rfl⟩).run (fun r_2 er_2 => ?_)
    subst er_2
    refine va_put (D := (dC, dI)) (ci := 1) (v := .int (fX1_area mk1 mk2 mk3 mf1 mf2)) (ty := .int) (C := RX1) (T := TX1) (N := 13) hx hb htG inX1 tyX1 tyX1_ok nmX1 hown hK hP hD hS 0 rfl rfl 4 (by decide) (htG _ wd_335) (fun _ h9 => h9) rfl (by decide +kernel) rfl rfl (Nat.le_of_ble_eq_true rfl) dX1_call_31 (fun H locs hP hD hS => ?_)
    have hP : va_P (dC, dI) vwCl (mW mh0 mh1 mh2 mh3 mc1 mc2 mc3 mk1 mk2 mk3 0 mf1 mf2 (mf3 + 1) (fX1_area mk1 mk2 mk3 mf1 mf2) mf5 mf6 mf7 mf8 mf9) H := hP
    have hD : va_D A (mW mh0 mh1 mh2 mh3 mc1 mc2 mc3 mk1 mk2 mk3 0 mf1 mf2 (mf3 + 1) (fX1_area mk1 mk2 mk3 mf1 mf2) mf5 mf6 mf7 mf8 mf9) := hD
    refine lv_aload_n hx hb dX1_call_34 rfl (lv_at hl 0 rfl) ?_
    refine va_get (D := (dC, dI)) (ci := 1) (v := .int (fX1_area mk1 mk2 mk3 mf1 mf2)) (C := RX1) (T := TX1) (N := 13) hx hb htG inX1 hown hK hP 0 rfl rfl 4 (by decide) (htG _ wd_335) (fun _ h9 => h9) rfl dX1_call_35 ?_
    exact W.iret (v := (fX1_area mk1 mk2 mk3 mf1 mf2)) hx hb hr (fun t ht hW => ⟨⟨(fX1_area mk1 mk2 mk3 mf1 mf2), (mk1, mk2, mk3, 0, mf1, mf2, (mf3 + 1), (fX1_area mk1 mk2 mk3 mf1 mf2), mf5, mf6, mf7, mf8, mf9), rfl, (by rw [fX1_call, if_neg c_1]), by rw [ht]; exact hP, va_K.moved hW.alike hK, hD⟩, hS.F ht⟩) hS.2.2 dX1_call_38

def fX1_signature (mk1 mk2 mk3 : Nat → Int32) (mf0 mf1 mf2 mf3 mf4 mf5 mf6 mf7 mf8 mf9 : Int32) (p0 : Int32) : Int32 × Int32 × mWS :=
  if p0 < 0 then (0, 0, (mk1, mk2, mk3, 1, mf1, mf2, mf3, mf4, mf5, mf6, mf7, mf8, mf9))
  else if p0 ≤ 3 then (if mf1 = 4 then (if p0 = 0 then (0, (fX1_area mk1 mk2 mk3 mf1 mf2), (mk1, mk2, mk3, 0, mf1, mf2, mf3, mf4, mf5, mf6, mf7, mf8, mf9))
        else if p0 = 1 then (0, mf2, (mk1, mk2, mk3, 0, mf1, mf2, mf3, mf4, mf5, mf6, mf7, mf8, mf9))
          else if p0 = 2 then (0, (-1), (mk1, mk2, mk3, 0, mf1, mf2, mf3, mf4, mf5, mf6, mf7, mf8, mf9))
            else (0, (fX1_home mk1 mk2 mk3 mf1 mf2 mf2), (mk1, mk2, mk3, 0, mf1, mf2, mf3, mf4, mf5, mf6, mf7, mf8, mf9)))
      else if mf1 = 0 then (if p0 = 0 then (0, (fX1_area mk1 mk2 mk3 mf1 mf2), (mk1, mk2, mk3, 0, mf1, mf2, mf3, mf4, mf5, mf6, mf7, mf8, mf9))
          else if p0 = 1 then (0, mf2, (mk1, mk2, mk3, 0, mf1, mf2, mf3, mf4, mf5, mf6, mf7, mf8, mf9))
            else if p0 = 2 then (0, 2, (mk1, mk2, mk3, 0, mf1, mf2, mf3, mf4, mf5, mf6, mf7, mf8, mf9))
              else (0, (fX1_home mk1 mk2 mk3 mf1 mf2 mf2), (mk1, mk2, mk3, 0, mf1, mf2, mf3, mf4, mf5, mf6, mf7, mf8, mf9)))
        else if mf1 = 3 then (if p0 = 0 then (0, (fX1_area mk1 mk2 mk3 mf1 mf2), (mk1, mk2, mk3, 0, mf1, mf2, mf3, mf4, mf5, mf6, mf7, mf8, mf9))
            else if p0 = 1 then (0, mf2, (mk1, mk2, mk3, 0, mf1, mf2, mf3, mf4, mf5, mf6, mf7, mf8, mf9))
              else if p0 = 2 then (0, 2, (mk1, mk2, mk3, 0, mf1, mf2, mf3, mf4, mf5, mf6, mf7, mf8, mf9))
                else (0, (fX1_home mk1 mk2 mk3 mf1 mf2 mf2), (mk1, mk2, mk3, 0, mf1, mf2, mf3, mf4, mf5, mf6, mf7, mf8, mf9)))
          else if p0 = 0 then (0, (fX1_area mk1 mk2 mk3 mf1 mf2), (mk1, mk2, mk3, 0, mf1, mf2, mf3, mf4, mf5, mf6, mf7, mf8, mf9))
            else if p0 = 1 then (0, mf2, (mk1, mk2, mk3, 0, mf1, mf2, mf3, mf4, mf5, mf6, mf7, mf8, mf9))
              else if p0 = 2 then (0, 32, (mk1, mk2, mk3, 0, mf1, mf2, mf3, mf4, mf5, mf6, mf7, mf8, mf9))
                else (0, (fX1_home mk1 mk2 mk3 mf1 mf2 mf2), (mk1, mk2, mk3, 0, mf1, mf2, mf3, mf4, mf5, mf6, mf7, mf8, mf9)))
    else (0, 0, (mk1, mk2, mk3, 1, mf1, mf2, mf3, mf4, mf5, mf6, mf7, mf8, mf9))

abbrev wsX1_signature : List Cond := .code yX1_signature cX1_signature 3 (some .int) :: wG
set_option maxHeartbeats 4000000 in
set_option maxRecDepth 100000 in
theorem mX1_signature (l : Launch) (dC : Nat → ClassId) (dI : Nat → Nat → Nat) (mh0 mh1 mh2 mh3 : Nat) (sz : Nat) (mc1 mc2 mc3 : ClassId) (mk1 mk2 mk3 : Nat → Int32) (mf0 mf1 mf2 mf3 mf4 mf5 mf6 mf7 mf8 mf9 : Int32) (p0 : Int32) (hN : mf2.toNatClampNeg ≤ 60) : Met l yX1_signature wsX1_signature ({ frames := 3, cells := 0, slots := 0, locals := 65 }) (va_Pc [.ref mh0, .int p0] (fun U => U.heap.size = sz ∧ va_P (dC, dI) vwCl (mW mh0 mh1 mh2 mh3 mc1 mc2 mc3 mk1 mk2 mk3 mf0 mf1 mf2 mf3 mf4 mf5 mf6 mf7 mf8 mf9) U.heap ∧ va_K (dC, dI) vwCl [(mc1, .int), (mc2, .int), (mc3, .int)] U ∧ va_D (fun _ => True) (mW mh0 mh1 mh2 mh3 mc1 mc2 mc3 mk1 mk2 mk3 mf0 mf1 mf2 mf3 mf4 mf5 mf6 mf7 mf8 mf9))) (va_Qi (fun r u => (0, r, u) = fX1_signature mk1 mk2 mk3 mf0 mf1 mf2 mf3 mf4 mf5 mf6 mf7 mf8 mf9 p0) (mWB dC dI (va_A (mW mh0 mh1 mh2 mh3 mc1 mc2 mc3 mk1 mk2 mk3 mf0 mf1 mf2 mf3 mf4 mf5 mf6 mf7 mf8 mf9) sz) mh0 mh1 mh2 mh3 mc1 mc2 mc3) (va_A (mW mh0 mh1 mh2 mh3 mc1 mc2 mc3 mk1 mk2 mk3 mf0 mf1 mf2 mf3 mf4 mf5 mf6 mf7 mf8 mf9) sz)) 0 0 (va_A (mW mh0 mh1 mh2 mh3 mc1 mc2 mc3 mk1 mk2 mk3 mf0 mf1 mf2 mf3 mf4 mf5 mf6 mf7 mf8 mf9) sz) := by
  refine Met.ofW (cc := cX1_signature) (maxL := 3) (ret := (some .int)) (by decide) rfl ?_
  intro p e s m args below meth c s₁ B hml hv
  obtain ⟨rfl, hsz, hP, hK, hD0⟩ := hv
  have hx := B.exec
  have hb := B.bytes
  have hr := B.returns
  have hts := atoms_spec (ws := wsX1_signature) B.pre
  have htG := fun (w : Cond) (h : w ∈ wG) => hts w (List.mem_cons_of_mem _ h)
  have hown : s.vm.findClass RX1 = some m.cls := findClass_of_methodNamed B.named
  have hlocks := B.notSynchronized
  subst hsz
  have hD := hD0.self (sz := s.heap.size)
  generalize hAe : va_A (mW mh0 mh1 mh2 mh3 mc1 mc2 mc3 mk1 mk2 mk3 mf0 mf1 mf2 mf3 mf4 mf5 mf6 mf7 mf8 mf9) s.heap.size = A at hD ⊢
  have hA : ∀ q : Nat, s.heap.size ≤ q → A q := fun q h => by rw [← hAe]; exact Or.inr h
  have hS : va_S A s.heap s.heap [] := va_S.rf
  have hP : va_P (dC, dI) vwCl (mW mh0 mh1 mh2 mh3 mc1 mc2 mc3 mk1 mk2 mk3 mf0 mf1 mf2 mf3 mf4 mf5 mf6 mf7 mf8 mf9) s.heap := hP
  have hl := lv_entry ([.ref mh0, .int p0]) (n := 3) (Nat.le_of_ble_eq_true rfl)
  rw [lg_entry_eq]
  generalize (lg_sl ([.ref mh0, .int p0]) ++ List.replicate (3 - (lg_sl ([.ref mh0, .int p0])).length) Slot.unset).toArray = ls at hl ⊢
  have hl : lv_has ls 3 [(0, .ref mh0), (1, .int p0)] := hl
  refine lv_aload_n hx hb dX1_signature_0 rfl (lv_at hl 0 rfl) ?_
  refine lv_iconst (v := 0) hx hb dX1_signature_1 (by decide) ?_
  refine va_put (D := (dC, dI)) (ci := 1) (v := .int 0) (ty := .int) (C := RX1) (T := TX1) (N := 13) hx hb htG inX1 tyX1 tyX1_ok nmX1 hown hK hP hD hS 0 rfl rfl 0 (by decide) (htG _ wd_331) (fun _ h9 => h9) rfl (by decide +kernel) rfl rfl (Nat.le_of_ble_eq_true rfl) dX1_signature_2 (fun H locs hP hD hS => ?_)
  have hP : va_P (dC, dI) vwCl (mW mh0 mh1 mh2 mh3 mc1 mc2 mc3 mk1 mk2 mk3 0 mf1 mf2 mf3 mf4 mf5 mf6 mf7 mf8 mf9) H := hP
  have hD : va_D A (mW mh0 mh1 mh2 mh3 mc1 mc2 mc3 mk1 mk2 mk3 0 mf1 mf2 mf3 mf4 mf5 mf6 mf7 mf8 mf9) := hD
  refine lv_iload_n hx hb dX1_signature_5 rfl (lv_at hl 1 rfl) ?_
  refine lv_if_lt (tgt := 14) hx hb dX1_signature_6 (by decide) (fun c_1 => ?_) (fun c_1 => ?_)
  · refine lv_aload_n hx hb dX1_signature_14 rfl (lv_at hl 0 rfl) ?_
    refine lv_iconst (v := 1) hx hb dX1_signature_15 (by decide) ?_
    have hFc := va_free (wc := (mW mh0 mh1 mh2 mh3 mc1 mc2 mc3 mk1 mk2 mk3 0 mf1 mf2 mf3 mf4 mf5 mf6 mf7 mf8 mf9)) hD hS hA [0, 1, 2, 3] rfl
    refine va_calli (va_runV (As := [.int 1]) (rest := []) ⟨hx, hb, hml, hown, htG⟩ (mX1_fail l dC dI mh0 mh1 mh2 mh3 H.size mc1 mc2 mc3 mk1 mk2 mk3 0 mf1 mf2 mf3 mf4 mf5 mf6 mf7 mf8 mf9 1) (cwV 1 htG (wG_V wd_387 wd_389 wd_11 wd_23 wd_390) rfl rfl rfl (by decide +kernel) ⟨Nat.le_of_ble_eq_true rfl, Nat.le_of_ble_eq_true rfl⟩) ⟨fun a U g mk q => by obtain ⟨q0, q1, qP, qK, qD⟩ := q; exact ⟨q0, q1, qP, va_K.moved (u := U) (U := U.calling g mk a) (Vm.Alike.refl U.vm) qK, qD⟩, va_recv hK hP (ci := 1) (q0 := 0) rfl rfl, fun U hU hW => ⟨rfl, by rw [hU], by rw [hU]; exact hP, va_K.moved hW.alike hK, hD.weaken (fun _ _ _ _ => trivial)⟩⟩ rfl rfl hl.1 rfl (lv_room (Nat.le_of_ble_eq_true rfl)) dX1_signature_16 ⟨Nat.le_of_ble_eq_true rfl, Nat.le_of_ble_eq_true rfl⟩) hS (fun q _ h => hFc q h) hFc (fun r_1 u t H1 locs ht hvm hw hB hz1 hk1 hS => ?_)
    rw [fX1_fail] at hw
    cases hw
    obtain ⟨hP1, hK1, hD1⟩ := hB
    rw [ht] at hP1
    obtain ⟨hP, hD⟩ := va_join (wr := []) (w1 := (mW mh0 mh1 mh2 mh3 mc1 mc2 mc3 mk1 mk2 mk3 1 mf1 mf2 mf3 mf4 mf5 mf6 mf7 mf8 mf9)) hP hD [0, 1, 2, 3] [] rfl rfl (by decide) (by decide) hk1 hFc hP1 hD1
    generalize H1 = H at hP hS ⊢
    have hP : va_P (dC, dI) vwCl (mW mh0 mh1 mh2 mh3 mc1 mc2 mc3 mk1 mk2 mk3 1 mf1 mf2 mf3 mf4 mf5 mf6 mf7 mf8 mf9) H := hP
    have hD : va_D A (mW mh0 mh1 mh2 mh3 mc1 mc2 mc3 mk1 mk2 mk3 1 mf1 mf2 mf3 mf4 mf5 mf6 mf7 mf8 mf9) := hD
    exact W.iret (v := 0) hx hb hr (fun t ht hW => ⟨⟨0, (mk1, mk2, mk3, 1, mf1, mf2, mf3, mf4, mf5, mf6, mf7, mf8, mf9), rfl, (by rw [fX1_signature, if_pos c_1]), by rw [ht]; exact hP, va_K.moved hW.alike hK, hD⟩, hS.F ht⟩) hS.2.2 dX1_signature_19
  · refine lv_iload_n hx hb dX1_signature_9 rfl (lv_at hl 1 rfl) ?_
    refine lv_iconst (v := 3) hx hb dX1_signature_10 (by decide) ?_
    refine lv_icmp_le (tgt := 20) hx hb dX1_signature_11 (by decide) (fun c_2 => ?_) (fun c_2 => ?_)
    · refine lv_aload_n hx hb dX1_signature_20 rfl (lv_at hl 0 rfl) ?_
      refine va_get (D := (dC, dI)) (ci := 1) (v := .int mf1) (C := RX1) (T := TX1) (N := 13) hx hb htG inX1 hown hK hP 0 rfl rfl 1 (by decide) (htG _ wd_332) (fun _ h9 => h9) rfl dX1_signature_21 ?_
      refine lv_iconst (v := 4) hx hb dX1_signature_24 (by decide) ?_
      refine lv_icmp_ne (tgt := 32) hx hb dX1_signature_25 (by decide) (fun c_3 => ?_) (fun c_3 => ?_)
      · refine lv_aload_n hx hb dX1_signature_32 rfl (lv_at hl 0 rfl) ?_
        refine va_get (D := (dC, dI)) (ci := 1) (v := .int mf1) (C := RX1) (T := TX1) (N := 13) hx hb htG inX1 hown hK hP 0 rfl rfl 1 (by decide) (htG _ wd_332) (fun _ h9 => h9) rfl dX1_signature_33 ?_
        refine lv_if_eq (tgt := 47) hx hb dX1_signature_36 (by decide) (fun c_4 => ?_) (fun c_4 => ?_)
        · refine lv_iconst (v := 2) hx hb dX1_signature_47 (by decide) ?_
          refine lv_goto (tgt := 53) hx hb dX1_signature_48 (by decide) ?_
          refine lv_istore_n (lv' := [(2, .int 2), (0, .ref mh0), (1, .int p0)]) hx hb dX1_signature_53 rfl hl (by decide) rfl (fun ls hl => ?_)
          refine lv_iload_n hx hb dX1_signature_54 rfl (lv_at hl 2 rfl) ?_
          refine lv_if_ne (tgt := 65) hx hb dX1_signature_55 (by decide) (fun c_5 => ?_) (fun c_5 => ?_)
          · refine lv_iload_n hx hb dX1_signature_65 rfl (lv_at hl 2 rfl) ?_
            refine lv_iconst (v := 1) hx hb dX1_signature_66 (by decide) ?_
            refine lv_icmp_ne (tgt := 77) hx hb dX1_signature_67 (by decide) (fun c_6 => ?_) (fun c_6 => ?_)
            · refine lv_iload_n hx hb dX1_signature_77 rfl (lv_at hl 2 rfl) ?_
              refine lv_iconst (v := 2) hx hb dX1_signature_78 (by decide) ?_
              refine lv_icmp_ne (tgt := 86) hx hb dX1_signature_79 (by decide) (fun c_7 => ?_) (fun c_7 => ?_)
              · refine lv_aload_n hx hb dX1_signature_86 rfl (lv_at hl 1 rfl) ?_
                refine lv_aload_n hx hb dX1_signature_87 rfl (lv_at hl 1 rfl) ?_
                refine va_get (D := (dC, dI)) (ci := 1) (v := .int mf2) (C := RX1) (T := TX1) (N := 13) hx hb htG inX1 hown hK hP 0 rfl rfl 2 (by decide) (htG _ wd_333) (fun _ h9 => h9) rfl dX1_signature_88 ?_
                refine vp_callSi (va_runV (As := [.int mf2]) (rest := []) ⟨hx, hb, hml, hown, htG⟩ (mX1_home l dC dI mh0 mh1 mh2 mh3 mc1 mc2 mc3 mk1 mk2 mk3 0 mf1 mf2 mf3 mf4 mf5 mf6 mf7 mf8 mf9 mf2 hN (fun h => absurd (ile_refl _) h)) (cwV 1 htG (wG_V wd_391 wd_393 wd_12 wd_23 wd_394) rfl rfl rfl (by decide +kernel) ⟨Nat.le_of_ble_eq_true rfl, Nat.le_of_ble_eq_true rfl⟩) ⟨fun a U g mk q => by obtain ⟨q0, qP, qK⟩ := q; exact ⟨q0, qP, va_K.moved (u := U) (U := U.calling g mk a) (Vm.Alike.refl U.vm) qK⟩, va_recv hK hP (ci := 1) (q0 := 0) rfl rfl, fun U hU hW => ⟨rfl, by rw [hU]; exact hP, va_K.moved hW.alike hK⟩⟩ rfl rfl hl.1 rfl (lv_room (Nat.le_of_ble_eq_true rfl)) dX1_signature_91 ⟨Nat.le_of_ble_eq_true rfl, Nat.le_of_ble_eq_true rfl⟩).run (fun r_2 er_2 => ?_)
                subst er_2
                exact W.iret (v := (fX1_home mk1 mk2 mk3 mf1 mf2 mf2)) hx hb hr (fun t ht hW => ⟨⟨(fX1_home mk1 mk2 mk3 mf1 mf2 mf2), (mk1, mk2, mk3, 0, mf1, mf2, mf3, mf4, mf5, mf6, mf7, mf8, mf9), rfl, (by rw [fX1_signature, if_neg c_1, if_pos c_2, if_neg c_3, if_pos c_4, if_neg c_5, if_neg c_6, if_neg c_7]), by rw [ht]; exact hP, va_K.moved hW.alike hK, hD⟩, hS.F ht⟩) hS.2.2 dX1_signature_94
              · refine lv_iload_n hx hb dX1_signature_82 rfl (lv_at hl 0 rfl) ?_
                refine lv_goto (tgt := 94) hx hb dX1_signature_83 (by decide) ?_
                exact W.iret (v := 2) hx hb hr (fun t ht hW => ⟨⟨2, (mk1, mk2, mk3, 0, mf1, mf2, mf3, mf4, mf5, mf6, mf7, mf8, mf9), rfl, (by rw [fX1_signature, if_neg c_1, if_pos c_2, if_neg c_3, if_pos c_4, if_neg c_5, if_neg c_6, if_pos c_7]), by rw [ht]; exact hP, va_K.moved hW.alike hK, hD⟩, hS.F ht⟩) hS.2.2 dX1_signature_94
            · refine lv_aload_n hx hb dX1_signature_70 rfl (lv_at hl 1 rfl) ?_
              refine va_get (D := (dC, dI)) (ci := 1) (v := .int mf2) (C := RX1) (T := TX1) (N := 13) hx hb htG inX1 hown hK hP 0 rfl rfl 2 (by decide) (htG _ wd_333) (fun _ h9 => h9) rfl dX1_signature_71 ?_
              refine lv_goto (tgt := 94) hx hb dX1_signature_74 (by decide) ?_
              exact W.iret (v := mf2) hx hb hr (fun t ht hW => ⟨⟨mf2, (mk1, mk2, mk3, 0, mf1, mf2, mf3, mf4, mf5, mf6, mf7, mf8, mf9), rfl, (by rw [fX1_signature, if_neg c_1, if_pos c_2, if_neg c_3, if_pos c_4, if_neg c_5, if_pos c_6]), by rw [ht]; exact hP, va_K.moved hW.alike hK, hD⟩, hS.F ht⟩) hS.2.2 dX1_signature_94
          · refine lv_aload_n hx hb dX1_signature_58 rfl (lv_at hl 1 rfl) ?_
            refine vp_callSi (va_runV (As := []) (rest := []) ⟨hx, hb, hml, hown, htG⟩ (mX1_area l dC dI mh0 mh1 mh2 mh3 mc1 mc2 mc3 mk1 mk2 mk3 0 mf1 mf2 mf3 mf4 mf5 mf6 mf7 mf8 mf9 hN) (cwV 0 htG (wG_V wd_431 wd_433 wd_18 wd_23 wd_434) rfl rfl rfl (by decide +kernel) ⟨Nat.le_of_ble_eq_true rfl, Nat.le_of_ble_eq_true rfl⟩) ⟨fun a U g mk q => by obtain ⟨q0, qP, qK⟩ := q; exact ⟨q0, qP, va_K.moved (u := U) (U := U.calling g mk a) (Vm.Alike.refl U.vm) qK⟩, va_recv hK hP (ci := 1) (q0 := 0) rfl rfl, fun U hU hW => ⟨rfl, by rw [hU]; exact hP, va_K.moved hW.alike hK⟩⟩ rfl rfl hl.1 rfl (lv_room (Nat.le_of_ble_eq_true rfl)) dX1_signature_59 ⟨Nat.le_of_ble_eq_true rfl, Nat.le_of_ble_eq_true rfl⟩).run (fun r_3 er_3 => ?_)
            subst er_3
            refine lv_goto (tgt := 94) hx hb dX1_signature_62 (by decide) ?_
            exact W.iret (v := (fX1_area mk1 mk2 mk3 mf1 mf2)) hx hb hr (fun t ht hW => ⟨⟨(fX1_area mk1 mk2 mk3 mf1 mf2), (mk1, mk2, mk3, 0, mf1, mf2, mf3, mf4, mf5, mf6, mf7, mf8, mf9), rfl, (by rw [fX1_signature, if_neg c_1, if_pos c_2, if_neg c_3, if_pos c_4, if_pos c_5]), by rw [ht]; exact hP, va_K.moved hW.alike hK, hD⟩, hS.F ht⟩) hS.2.2 dX1_signature_94
        · refine lv_aload_n hx hb dX1_signature_39 rfl (lv_at hl 0 rfl) ?_
          refine va_get (D := (dC, dI)) (ci := 1) (v := .int mf1) (C := RX1) (T := TX1) (N := 13) hx hb htG inX1 hown hK hP 0 rfl rfl 1 (by decide) (htG _ wd_332) (fun _ h9 => h9) rfl dX1_signature_40 ?_
          refine lv_iconst (v := 3) hx hb dX1_signature_43 (by decide) ?_
          refine lv_icmp_ne (tgt := 51) hx hb dX1_signature_44 (by decide) (fun c_8 => ?_) (fun c_8 => ?_)
          · refine lv_bipush (v := 32) hx hb dX1_signature_51 (by decide) ?_
            refine lv_istore_n (lv' := [(2, .int 32), (0, .ref mh0), (1, .int p0)]) hx hb dX1_signature_53 rfl hl (by decide) rfl (fun ls hl => ?_)
            refine lv_iload_n hx hb dX1_signature_54 rfl (lv_at hl 2 rfl) ?_
            refine lv_if_ne (tgt := 65) hx hb dX1_signature_55 (by decide) (fun c_9 => ?_) (fun c_9 => ?_)
            · refine lv_iload_n hx hb dX1_signature_65 rfl (lv_at hl 2 rfl) ?_
              refine lv_iconst (v := 1) hx hb dX1_signature_66 (by decide) ?_
              refine lv_icmp_ne (tgt := 77) hx hb dX1_signature_67 (by decide) (fun c_10 => ?_) (fun c_10 => ?_)
              · refine lv_iload_n hx hb dX1_signature_77 rfl (lv_at hl 2 rfl) ?_
                refine lv_iconst (v := 2) hx hb dX1_signature_78 (by decide) ?_
                refine lv_icmp_ne (tgt := 86) hx hb dX1_signature_79 (by decide) (fun c_11 => ?_) (fun c_11 => ?_)
                · refine lv_aload_n hx hb dX1_signature_86 rfl (lv_at hl 1 rfl) ?_
                  refine lv_aload_n hx hb dX1_signature_87 rfl (lv_at hl 1 rfl) ?_
                  refine va_get (D := (dC, dI)) (ci := 1) (v := .int mf2) (C := RX1) (T := TX1) (N := 13) hx hb htG inX1 hown hK hP 0 rfl rfl 2 (by decide) (htG _ wd_333) (fun _ h9 => h9) rfl dX1_signature_88 ?_
                  refine vp_callSi (va_runV (As := [.int mf2]) (rest := []) ⟨hx, hb, hml, hown, htG⟩ (mX1_home l dC dI mh0 mh1 mh2 mh3 mc1 mc2 mc3 mk1 mk2 mk3 0 mf1 mf2 mf3 mf4 mf5 mf6 mf7 mf8 mf9 mf2 hN (fun h => absurd (ile_refl _) h)) (cwV 1 htG (wG_V wd_391 wd_393 wd_12 wd_23 wd_394) rfl rfl rfl (by decide +kernel) ⟨Nat.le_of_ble_eq_true rfl, Nat.le_of_ble_eq_true rfl⟩) ⟨fun a U g mk q => by obtain ⟨q0, qP, qK⟩ := q; exact ⟨q0, qP, va_K.moved (u := U) (U := U.calling g mk a) (Vm.Alike.refl U.vm) qK⟩, va_recv hK hP (ci := 1) (q0 := 0) rfl rfl, fun U hU hW => ⟨rfl, by rw [hU]; exact hP, va_K.moved hW.alike hK⟩⟩ rfl rfl hl.1 rfl (lv_room (Nat.le_of_ble_eq_true rfl)) dX1_signature_91 ⟨Nat.le_of_ble_eq_true rfl, Nat.le_of_ble_eq_true rfl⟩).run (fun r_4 er_4 => ?_)
                  subst er_4
                  exact W.iret (v := (fX1_home mk1 mk2 mk3 mf1 mf2 mf2)) hx hb hr (fun t ht hW => ⟨⟨(fX1_home mk1 mk2 mk3 mf1 mf2 mf2), (mk1, mk2, mk3, 0, mf1, mf2, mf3, mf4, mf5, mf6, mf7, mf8, mf9), rfl, (by rw [fX1_signature, if_neg c_1, if_pos c_2, if_neg c_3, if_neg c_4, if_neg c_8, if_neg c_9, if_neg c_10, if_neg c_11]), by rw [ht]; exact hP, va_K.moved hW.alike hK, hD⟩, hS.F ht⟩) hS.2.2 dX1_signature_94
                · refine lv_iload_n hx hb dX1_signature_82 rfl (lv_at hl 0 rfl) ?_
                  refine lv_goto (tgt := 94) hx hb dX1_signature_83 (by decide) ?_
                  exact W.iret (v := 32) hx hb hr (fun t ht hW => ⟨⟨32, (mk1, mk2, mk3, 0, mf1, mf2, mf3, mf4, mf5, mf6, mf7, mf8, mf9), rfl, (by rw [fX1_signature, if_neg c_1, if_pos c_2, if_neg c_3, if_neg c_4, if_neg c_8, if_neg c_9, if_neg c_10, if_pos c_11]), by rw [ht]; exact hP, va_K.moved hW.alike hK, hD⟩, hS.F ht⟩) hS.2.2 dX1_signature_94
              · refine lv_aload_n hx hb dX1_signature_70 rfl (lv_at hl 1 rfl) ?_
                refine va_get (D := (dC, dI)) (ci := 1) (v := .int mf2) (C := RX1) (T := TX1) (N := 13) hx hb htG inX1 hown hK hP 0 rfl rfl 2 (by decide) (htG _ wd_333) (fun _ h9 => h9) rfl dX1_signature_71 ?_
                refine lv_goto (tgt := 94) hx hb dX1_signature_74 (by decide) ?_
                exact W.iret (v := mf2) hx hb hr (fun t ht hW => ⟨⟨mf2, (mk1, mk2, mk3, 0, mf1, mf2, mf3, mf4, mf5, mf6, mf7, mf8, mf9), rfl, (by rw [fX1_signature, if_neg c_1, if_pos c_2, if_neg c_3, if_neg c_4, if_neg c_8, if_neg c_9, if_pos c_10]), by rw [ht]; exact hP, va_K.moved hW.alike hK, hD⟩, hS.F ht⟩) hS.2.2 dX1_signature_94
            · refine lv_aload_n hx hb dX1_signature_58 rfl (lv_at hl 1 rfl) ?_
              refine vp_callSi (va_runV (As := []) (rest := []) ⟨hx, hb, hml, hown, htG⟩ (mX1_area l dC dI mh0 mh1 mh2 mh3 mc1 mc2 mc3 mk1 mk2 mk3 0 mf1 mf2 mf3 mf4 mf5 mf6 mf7 mf8 mf9 hN) (cwV 0 htG (wG_V wd_431 wd_433 wd_18 wd_23 wd_434) rfl rfl rfl (by decide +kernel) ⟨Nat.le_of_ble_eq_true rfl, Nat.le_of_ble_eq_true rfl⟩) ⟨fun a U g mk q => by obtain ⟨q0, qP, qK⟩ := q; exact ⟨q0, qP, va_K.moved (u := U) (U := U.calling g mk a) (Vm.Alike.refl U.vm) qK⟩, va_recv hK hP (ci := 1) (q0 := 0) rfl rfl, fun U hU hW => ⟨rfl, by rw [hU]; exact hP, va_K.moved hW.alike hK⟩⟩ rfl rfl hl.1 rfl (lv_room (Nat.le_of_ble_eq_true rfl)) dX1_signature_59 ⟨Nat.le_of_ble_eq_true rfl, Nat.le_of_ble_eq_true rfl⟩).run (fun r_5 er_5 => ?_)
              subst er_5
              refine lv_goto (tgt := 94) hx hb dX1_signature_62 (by decide) ?_
              exact W.iret (v := (fX1_area mk1 mk2 mk3 mf1 mf2)) hx hb hr (fun t ht hW => ⟨⟨(fX1_area mk1 mk2 mk3 mf1 mf2), (mk1, mk2, mk3, 0, mf1, mf2, mf3, mf4, mf5, mf6, mf7, mf8, mf9), rfl, (by rw [fX1_signature, if_neg c_1, if_pos c_2, if_neg c_3, if_neg c_4, if_neg c_8, if_pos c_9]), by rw [ht]; exact hP, va_K.moved hW.alike hK, hD⟩, hS.F ht⟩) hS.2.2 dX1_signature_94
          · refine lv_iconst (v := 2) hx hb dX1_signature_47 (by decide) ?_
            refine lv_goto (tgt := 53) hx hb dX1_signature_48 (by decide) ?_
            refine lv_istore_n (lv' := [(2, .int 2), (0, .ref mh0), (1, .int p0)]) hx hb dX1_signature_53 rfl hl (by decide) rfl (fun ls hl => ?_)
            refine lv_iload_n hx hb dX1_signature_54 rfl (lv_at hl 2 rfl) ?_
            refine lv_if_ne (tgt := 65) hx hb dX1_signature_55 (by decide) (fun c_12 => ?_) (fun c_12 => ?_)
            · refine lv_iload_n hx hb dX1_signature_65 rfl (lv_at hl 2 rfl) ?_
              refine lv_iconst (v := 1) hx hb dX1_signature_66 (by decide) ?_
              refine lv_icmp_ne (tgt := 77) hx hb dX1_signature_67 (by decide) (fun c_13 => ?_) (fun c_13 => ?_)
              · refine lv_iload_n hx hb dX1_signature_77 rfl (lv_at hl 2 rfl) ?_
                refine lv_iconst (v := 2) hx hb dX1_signature_78 (by decide) ?_
                refine lv_icmp_ne (tgt := 86) hx hb dX1_signature_79 (by decide) (fun c_14 => ?_) (fun c_14 => ?_)
                · refine lv_aload_n hx hb dX1_signature_86 rfl (lv_at hl 1 rfl) ?_
                  refine lv_aload_n hx hb dX1_signature_87 rfl (lv_at hl 1 rfl) ?_
                  refine va_get (D := (dC, dI)) (ci := 1) (v := .int mf2) (C := RX1) (T := TX1) (N := 13) hx hb htG inX1 hown hK hP 0 rfl rfl 2 (by decide) (htG _ wd_333) (fun _ h9 => h9) rfl dX1_signature_88 ?_
                  refine vp_callSi (va_runV (As := [.int mf2]) (rest := []) ⟨hx, hb, hml, hown, htG⟩ (mX1_home l dC dI mh0 mh1 mh2 mh3 mc1 mc2 mc3 mk1 mk2 mk3 0 mf1 mf2 mf3 mf4 mf5 mf6 mf7 mf8 mf9 mf2 hN (fun h => absurd (ile_refl _) h)) (cwV 1 htG (wG_V wd_391 wd_393 wd_12 wd_23 wd_394) rfl rfl rfl (by decide +kernel) ⟨Nat.le_of_ble_eq_true rfl, Nat.le_of_ble_eq_true rfl⟩) ⟨fun a U g mk q => by obtain ⟨q0, qP, qK⟩ := q; exact ⟨q0, qP, va_K.moved (u := U) (U := U.calling g mk a) (Vm.Alike.refl U.vm) qK⟩, va_recv hK hP (ci := 1) (q0 := 0) rfl rfl, fun U hU hW => ⟨rfl, by rw [hU]; exact hP, va_K.moved hW.alike hK⟩⟩ rfl rfl hl.1 rfl (lv_room (Nat.le_of_ble_eq_true rfl)) dX1_signature_91 ⟨Nat.le_of_ble_eq_true rfl, Nat.le_of_ble_eq_true rfl⟩).run (fun r_6 er_6 => ?_)
                  subst er_6
                  exact W.iret (v := (fX1_home mk1 mk2 mk3 mf1 mf2 mf2)) hx hb hr (fun t ht hW => ⟨⟨(fX1_home mk1 mk2 mk3 mf1 mf2 mf2), (mk1, mk2, mk3, 0, mf1, mf2, mf3, mf4, mf5, mf6, mf7, mf8, mf9), rfl, (by rw [fX1_signature, if_neg c_1, if_pos c_2, if_neg c_3, if_neg c_4, if_pos c_8, if_neg c_12, if_neg c_13, if_neg c_14]), by rw [ht]; exact hP, va_K.moved hW.alike hK, hD⟩, hS.F ht⟩) hS.2.2 dX1_signature_94
                · refine lv_iload_n hx hb dX1_signature_82 rfl (lv_at hl 0 rfl) ?_
                  refine lv_goto (tgt := 94) hx hb dX1_signature_83 (by decide) ?_
                  exact W.iret (v := 2) hx hb hr (fun t ht hW => ⟨⟨2, (mk1, mk2, mk3, 0, mf1, mf2, mf3, mf4, mf5, mf6, mf7, mf8, mf9), rfl, (by rw [fX1_signature, if_neg c_1, if_pos c_2, if_neg c_3, if_neg c_4, if_pos c_8, if_neg c_12, if_neg c_13, if_pos c_14]), by rw [ht]; exact hP, va_K.moved hW.alike hK, hD⟩, hS.F ht⟩) hS.2.2 dX1_signature_94
              · refine lv_aload_n hx hb dX1_signature_70 rfl (lv_at hl 1 rfl) ?_
                refine va_get (D := (dC, dI)) (ci := 1) (v := .int mf2) (C := RX1) (T := TX1) (N := 13) hx hb htG inX1 hown hK hP 0 rfl rfl 2 (by decide) (htG _ wd_333) (fun _ h9 => h9) rfl dX1_signature_71 ?_
                refine lv_goto (tgt := 94) hx hb dX1_signature_74 (by decide) ?_
                exact W.iret (v := mf2) hx hb hr (fun t ht hW => ⟨⟨mf2, (mk1, mk2, mk3, 0, mf1, mf2, mf3, mf4, mf5, mf6, mf7, mf8, mf9), rfl, (by rw [fX1_signature, if_neg c_1, if_pos c_2, if_neg c_3, if_neg c_4, if_pos c_8, if_neg c_12, if_pos c_13]), by rw [ht]; exact hP, va_K.moved hW.alike hK, hD⟩, hS.F ht⟩) hS.2.2 dX1_signature_94
            · refine lv_aload_n hx hb dX1_signature_58 rfl (lv_at hl 1 rfl) ?_
              refine vp_callSi (va_runV (As := []) (rest := []) ⟨hx, hb, hml, hown, htG⟩ (mX1_area l dC dI mh0 mh1 mh2 mh3 mc1 mc2 mc3 mk1 mk2 mk3 0 mf1 mf2 mf3 mf4 mf5 mf6 mf7 mf8 mf9 hN) (cwV 0 htG (wG_V wd_431 wd_433 wd_18 wd_23 wd_434) rfl rfl rfl (by decide +kernel) ⟨Nat.le_of_ble_eq_true rfl, Nat.le_of_ble_eq_true rfl⟩) ⟨fun a U g mk q => by obtain ⟨q0, qP, qK⟩ := q; exact ⟨q0, qP, va_K.moved (u := U) (U := U.calling g mk a) (Vm.Alike.refl U.vm) qK⟩, va_recv hK hP (ci := 1) (q0 := 0) rfl rfl, fun U hU hW => ⟨rfl, by rw [hU]; exact hP, va_K.moved hW.alike hK⟩⟩ rfl rfl hl.1 rfl (lv_room (Nat.le_of_ble_eq_true rfl)) dX1_signature_59 ⟨Nat.le_of_ble_eq_true rfl, Nat.le_of_ble_eq_true rfl⟩).run (fun r_7 er_7 => ?_)
              subst er_7
              refine lv_goto (tgt := 94) hx hb dX1_signature_62 (by decide) ?_
              exact W.iret (v := (fX1_area mk1 mk2 mk3 mf1 mf2)) hx hb hr (fun t ht hW => ⟨⟨(fX1_area mk1 mk2 mk3 mf1 mf2), (mk1, mk2, mk3, 0, mf1, mf2, mf3, mf4, mf5, mf6, mf7, mf8, mf9), rfl, (by rw [fX1_signature, if_neg c_1, if_pos c_2, if_neg c_3, if_neg c_4, if_pos c_8, if_pos c_12]), by rw [ht]; exact hP, va_K.moved hW.alike hK, hD⟩, hS.F ht⟩) hS.2.2 dX1_signature_94
      · refine lv_iconst (v := (-1)) hx hb dX1_signature_28 (by decide) ?_
        refine lv_goto (tgt := 53) hx hb dX1_signature_29 (by decide) ?_
        refine lv_istore_n (lv' := [(2, .int (-1)), (0, .ref mh0), (1, .int p0)]) hx hb dX1_signature_53 rfl hl (by decide) rfl (fun ls hl => ?_)
        refine lv_iload_n hx hb dX1_signature_54 rfl (lv_at hl 2 rfl) ?_
        refine lv_if_ne (tgt := 65) hx hb dX1_signature_55 (by decide) (fun c_15 => ?_) (fun c_15 => ?_)
        · refine lv_iload_n hx hb dX1_signature_65 rfl (lv_at hl 2 rfl) ?_
          refine lv_iconst (v := 1) hx hb dX1_signature_66 (by decide) ?_
          refine lv_icmp_ne (tgt := 77) hx hb dX1_signature_67 (by decide) (fun c_16 => ?_) (fun c_16 => ?_)
          · refine lv_iload_n hx hb dX1_signature_77 rfl (lv_at hl 2 rfl) ?_
            refine lv_iconst (v := 2) hx hb dX1_signature_78 (by decide) ?_
            refine lv_icmp_ne (tgt := 86) hx hb dX1_signature_79 (by decide) (fun c_17 => ?_) (fun c_17 => ?_)
            · refine lv_aload_n hx hb dX1_signature_86 rfl (lv_at hl 1 rfl) ?_
              refine lv_aload_n hx hb dX1_signature_87 rfl (lv_at hl 1 rfl) ?_
              refine va_get (D := (dC, dI)) (ci := 1) (v := .int mf2) (C := RX1) (T := TX1) (N := 13) hx hb htG inX1 hown hK hP 0 rfl rfl 2 (by decide) (htG _ wd_333) (fun _ h9 => h9) rfl dX1_signature_88 ?_
              refine vp_callSi (va_runV (As := [.int mf2]) (rest := []) ⟨hx, hb, hml, hown, htG⟩ (mX1_home l dC dI mh0 mh1 mh2 mh3 mc1 mc2 mc3 mk1 mk2 mk3 0 mf1 mf2 mf3 mf4 mf5 mf6 mf7 mf8 mf9 mf2 hN (fun h => absurd (ile_refl _) h)) (cwV 1 htG (wG_V wd_391 wd_393 wd_12 wd_23 wd_394) rfl rfl rfl (by decide +kernel) ⟨Nat.le_of_ble_eq_true rfl, Nat.le_of_ble_eq_true rfl⟩) ⟨fun a U g mk q => by obtain ⟨q0, qP, qK⟩ := q; exact ⟨q0, qP, va_K.moved (u := U) (U := U.calling g mk a) (Vm.Alike.refl U.vm) qK⟩, va_recv hK hP (ci := 1) (q0 := 0) rfl rfl, fun U hU hW => ⟨rfl, by rw [hU]; exact hP, va_K.moved hW.alike hK⟩⟩ rfl rfl hl.1 rfl (lv_room (Nat.le_of_ble_eq_true rfl)) dX1_signature_91 ⟨Nat.le_of_ble_eq_true rfl, Nat.le_of_ble_eq_true rfl⟩).run (fun r_8 er_8 => ?_)
              subst er_8
              exact W.iret (v := (fX1_home mk1 mk2 mk3 mf1 mf2 mf2)) hx hb hr (fun t ht hW => ⟨⟨(fX1_home mk1 mk2 mk3 mf1 mf2 mf2), (mk1, mk2, mk3, 0, mf1, mf2, mf3, mf4, mf5, mf6, mf7, mf8, mf9), rfl, (by rw [fX1_signature, if_neg c_1, if_pos c_2, if_pos c_3, if_neg c_15, if_neg c_16, if_neg c_17]), by rw [ht]; exact hP, va_K.moved hW.alike hK, hD⟩, hS.F ht⟩) hS.2.2 dX1_signature_94
            · refine lv_iload_n hx hb dX1_signature_82 rfl (lv_at hl 0 rfl) ?_
              refine lv_goto (tgt := 94) hx hb dX1_signature_83 (by decide) ?_
              exact W.iret (v := (-1)) hx hb hr (fun t ht hW => ⟨⟨(-1), (mk1, mk2, mk3, 0, mf1, mf2, mf3, mf4, mf5, mf6, mf7, mf8, mf9), rfl, (by rw [fX1_signature, if_neg c_1, if_pos c_2, if_pos c_3, if_neg c_15, if_neg c_16, if_pos c_17]), by rw [ht]; exact hP, va_K.moved hW.alike hK, hD⟩, hS.F ht⟩) hS.2.2 dX1_signature_94
          · refine lv_aload_n hx hb dX1_signature_70 rfl (lv_at hl 1 rfl) ?_
            refine va_get (D := (dC, dI)) (ci := 1) (v := .int mf2) (C := RX1) (T := TX1) (N := 13) hx hb htG inX1 hown hK hP 0 rfl rfl 2 (by decide) (htG _ wd_333) (fun _ h9 => h9) rfl dX1_signature_71 ?_
            refine lv_goto (tgt := 94) hx hb dX1_signature_74 (by decide) ?_
            exact W.iret (v := mf2) hx hb hr (fun t ht hW => ⟨⟨mf2, (mk1, mk2, mk3, 0, mf1, mf2, mf3, mf4, mf5, mf6, mf7, mf8, mf9), rfl, (by rw [fX1_signature, if_neg c_1, if_pos c_2, if_pos c_3, if_neg c_15, if_pos c_16]), by rw [ht]; exact hP, va_K.moved hW.alike hK, hD⟩, hS.F ht⟩) hS.2.2 dX1_signature_94
        · refine lv_aload_n hx hb dX1_signature_58 rfl (lv_at hl 1 rfl) ?_
          refine vp_callSi (va_runV (As := []) (rest := []) ⟨hx, hb, hml, hown, htG⟩ (mX1_area l dC dI mh0 mh1 mh2 mh3 mc1 mc2 mc3 mk1 mk2 mk3 0 mf1 mf2 mf3 mf4 mf5 mf6 mf7 mf8 mf9 hN) (cwV 0 htG (wG_V wd_431 wd_433 wd_18 wd_23 wd_434) rfl rfl rfl (by decide +kernel) ⟨Nat.le_of_ble_eq_true rfl, Nat.le_of_ble_eq_true rfl⟩) ⟨fun a U g mk q => by obtain ⟨q0, qP, qK⟩ := q; exact ⟨q0, qP, va_K.moved (u := U) (U := U.calling g mk a) (Vm.Alike.refl U.vm) qK⟩, va_recv hK hP (ci := 1) (q0 := 0) rfl rfl, fun U hU hW => ⟨rfl, by rw [hU]; exact hP, va_K.moved hW.alike hK⟩⟩ rfl rfl hl.1 rfl (lv_room (Nat.le_of_ble_eq_true rfl)) dX1_signature_59 ⟨Nat.le_of_ble_eq_true rfl, Nat.le_of_ble_eq_true rfl⟩).run (fun r_9 er_9 => ?_)
          subst er_9
          refine lv_goto (tgt := 94) hx hb dX1_signature_62 (by decide) ?_
          exact W.iret (v := (fX1_area mk1 mk2 mk3 mf1 mf2)) hx hb hr (fun t ht hW => ⟨⟨(fX1_area mk1 mk2 mk3 mf1 mf2), (mk1, mk2, mk3, 0, mf1, mf2, mf3, mf4, mf5, mf6, mf7, mf8, mf9), rfl, (by rw [fX1_signature, if_neg c_1, if_pos c_2, if_pos c_3, if_pos c_15]), by rw [ht]; exact hP, va_K.moved hW.alike hK, hD⟩, hS.F ht⟩) hS.2.2 dX1_signature_94
    · refine lv_aload_n hx hb dX1_signature_14 rfl (lv_at hl 0 rfl) ?_
      refine lv_iconst (v := 1) hx hb dX1_signature_15 (by decide) ?_
      have hFc := va_free (wc := (mW mh0 mh1 mh2 mh3 mc1 mc2 mc3 mk1 mk2 mk3 0 mf1 mf2 mf3 mf4 mf5 mf6 mf7 mf8 mf9)) hD hS hA [0, 1, 2, 3] rfl
      refine va_calli (va_runV (As := [.int 1]) (rest := []) ⟨hx, hb, hml, hown, htG⟩ (mX1_fail l dC dI mh0 mh1 mh2 mh3 H.size mc1 mc2 mc3 mk1 mk2 mk3 0 mf1 mf2 mf3 mf4 mf5 mf6 mf7 mf8 mf9 1) (cwV 1 htG (wG_V wd_387 wd_389 wd_11 wd_23 wd_390) rfl rfl rfl (by decide +kernel) ⟨Nat.le_of_ble_eq_true rfl, Nat.le_of_ble_eq_true rfl⟩) ⟨fun a U g mk q => by obtain ⟨q0, q1, qP, qK, qD⟩ := q; exact ⟨q0, q1, qP, va_K.moved (u := U) (U := U.calling g mk a) (Vm.Alike.refl U.vm) qK, qD⟩, va_recv hK hP (ci := 1) (q0 := 0) rfl rfl, fun U hU hW => ⟨rfl, by rw [hU], by rw [hU]; exact hP, va_K.moved hW.alike hK, hD.weaken (fun _ _ _ _ => trivial)⟩⟩ rfl rfl hl.1 rfl (lv_room (Nat.le_of_ble_eq_true rfl)) dX1_signature_16 ⟨Nat.le_of_ble_eq_true rfl, Nat.le_of_ble_eq_true rfl⟩) hS (fun q _ h => hFc q h) hFc (fun r_10 u t H1 locs ht hvm hw hB hz1 hk1 hS => ?_)
      rw [fX1_fail] at hw
      cases hw
      obtain ⟨hP1, hK1, hD1⟩ := hB
      rw [ht] at hP1
      obtain ⟨hP, hD⟩ := va_join (wr := []) (w1 := (mW mh0 mh1 mh2 mh3 mc1 mc2 mc3 mk1 mk2 mk3 1 mf1 mf2 mf3 mf4 mf5 mf6 mf7 mf8 mf9)) hP hD [0, 1, 2, 3] [] rfl rfl (by decide) (by decide) hk1 hFc hP1 hD1
      generalize H1 = H at hP hS ⊢
      have hP : va_P (dC, dI) vwCl (mW mh0 mh1 mh2 mh3 mc1 mc2 mc3 mk1 mk2 mk3 1 mf1 mf2 mf3 mf4 mf5 mf6 mf7 mf8 mf9) H := hP
      have hD : va_D A (mW mh0 mh1 mh2 mh3 mc1 mc2 mc3 mk1 mk2 mk3 1 mf1 mf2 mf3 mf4 mf5 mf6 mf7 mf8 mf9) := hD
      exact W.iret (v := 0) hx hb hr (fun t ht hW => ⟨⟨0, (mk1, mk2, mk3, 1, mf1, mf2, mf3, mf4, mf5, mf6, mf7, mf8, mf9), rfl, (by rw [fX1_signature, if_neg c_1, if_neg c_2]), by rw [ht]; exact hP, va_K.moved hW.alike hK, hD⟩, hS.F ht⟩) hS.2.2 dX1_signature_19

def fX1_about (mk1 mk2 mk3 : Nat → Int32) (mf0 mf1 mf2 mf3 mf4 mf5 mf6 mf7 mf8 mf9 : Int32) (p0 p1 : Int32) : Int32 × Int32 × mWS :=
  if (fX1_isThere mf1 mf2 p0) = 0 then (0, 0, (mk1, mk2, mk3, 1, mf1, mf2, mf3, mf4, mf5, mf6, mf7, mf8, mf9))
  else if p1 < 0 then (0, 0, (mk1, mk2, mk3, 1, mf1, mf2, mf3, mf4, mf5, mf6, mf7, mf8, mf9))
    else if p1 ≤ 2 then (if p0 = (-1) then (if p1 = 0 then (0, 0, (mk1, mk2, mk3, 0, mf1, mf2, mf3, mf4, mf5, mf6, mf7, mf8, mf9))
          else if p1 = 1 then (0, 4, (mk1, mk2, mk3, 0, mf1, mf2, mf3, mf4, mf5, mf6, mf7, mf8, mf9))
            else (0, 1, (mk1, mk2, mk3, 0, mf1, mf2, mf3, mf4, mf5, mf6, mf7, mf8, mf9)))
        else if p1 = 0 then (0, (fX1_home mk1 mk2 mk3 mf1 mf2 p0), (mk1, mk2, mk3, 0, mf1, mf2, mf3, mf4, mf5, mf6, mf7, mf8, mf9))
          else if p1 = 1 then (0, (fX1_bytes mk1 mk2 p0), (mk1, mk2, mk3, 0, mf1, mf2, mf3, mf4, mf5, mf6, mf7, mf8, mf9))
            else (0, (fX1_words mk1 mk2 p0), (mk1, mk2, mk3, 0, mf1, mf2, mf3, mf4, mf5, mf6, mf7, mf8, mf9)))
      else (0, 0, (mk1, mk2, mk3, 1, mf1, mf2, mf3, mf4, mf5, mf6, mf7, mf8, mf9))

abbrev wsX1_about : List Cond := .code yX1_about cX1_about 3 (some .int) :: wG
set_option maxHeartbeats 4000000 in
set_option maxRecDepth 100000 in
theorem mX1_about (l : Launch) (dC : Nat → ClassId) (dI : Nat → Nat → Nat) (mh0 mh1 mh2 mh3 : Nat) (sz : Nat) (mc1 mc2 mc3 : ClassId) (mk1 mk2 mk3 : Nat → Int32) (mf0 mf1 mf2 mf3 mf4 mf5 mf6 mf7 mf8 mf9 : Int32) (p0 p1 : Int32) (hN : mf2.toNatClampNeg ≤ 60) : Met l yX1_about wsX1_about ({ frames := 2, cells := 0, slots := 0, locals := 44 }) (va_Pc [.ref mh0, .int p0, .int p1] (fun U => U.heap.size = sz ∧ va_P (dC, dI) vwCl (mW mh0 mh1 mh2 mh3 mc1 mc2 mc3 mk1 mk2 mk3 mf0 mf1 mf2 mf3 mf4 mf5 mf6 mf7 mf8 mf9) U.heap ∧ va_K (dC, dI) vwCl [(mc1, .int), (mc2, .int), (mc3, .int)] U ∧ va_D (fun _ => True) (mW mh0 mh1 mh2 mh3 mc1 mc2 mc3 mk1 mk2 mk3 mf0 mf1 mf2 mf3 mf4 mf5 mf6 mf7 mf8 mf9))) (va_Qi (fun r u => (0, r, u) = fX1_about mk1 mk2 mk3 mf0 mf1 mf2 mf3 mf4 mf5 mf6 mf7 mf8 mf9 p0 p1) (mWB dC dI (va_A (mW mh0 mh1 mh2 mh3 mc1 mc2 mc3 mk1 mk2 mk3 mf0 mf1 mf2 mf3 mf4 mf5 mf6 mf7 mf8 mf9) sz) mh0 mh1 mh2 mh3 mc1 mc2 mc3) (va_A (mW mh0 mh1 mh2 mh3 mc1 mc2 mc3 mk1 mk2 mk3 mf0 mf1 mf2 mf3 mf4 mf5 mf6 mf7 mf8 mf9) sz)) 0 0 (va_A (mW mh0 mh1 mh2 mh3 mc1 mc2 mc3 mk1 mk2 mk3 mf0 mf1 mf2 mf3 mf4 mf5 mf6 mf7 mf8 mf9) sz) := by
  refine Met.ofW (cc := cX1_about) (maxL := 3) (ret := (some .int)) (by decide) rfl ?_
  intro p e s m args below meth c s₁ B hml hv
  obtain ⟨rfl, hsz, hP, hK, hD0⟩ := hv
  have hx := B.exec
  have hb := B.bytes
  have hr := B.returns
  have hts := atoms_spec (ws := wsX1_about) B.pre
  have htG := fun (w : Cond) (h : w ∈ wG) => hts w (List.mem_cons_of_mem _ h)
  have hown : s.vm.findClass RX1 = some m.cls := findClass_of_methodNamed B.named
  have hlocks := B.notSynchronized
  subst hsz
  have hD := hD0.self (sz := s.heap.size)
  generalize hAe : va_A (mW mh0 mh1 mh2 mh3 mc1 mc2 mc3 mk1 mk2 mk3 mf0 mf1 mf2 mf3 mf4 mf5 mf6 mf7 mf8 mf9) s.heap.size = A at hD ⊢
  have hA : ∀ q : Nat, s.heap.size ≤ q → A q := fun q h => by rw [← hAe]; exact Or.inr h
  have hS : va_S A s.heap s.heap [] := va_S.rf
  have hP : va_P (dC, dI) vwCl (mW mh0 mh1 mh2 mh3 mc1 mc2 mc3 mk1 mk2 mk3 mf0 mf1 mf2 mf3 mf4 mf5 mf6 mf7 mf8 mf9) s.heap := hP
  have hl := lv_entry ([.ref mh0, .int p0, .int p1]) (n := 3) (Nat.le_of_ble_eq_true rfl)
  rw [lg_entry_eq]
  generalize (lg_sl ([.ref mh0, .int p0, .int p1]) ++ List.replicate (3 - (lg_sl ([.ref mh0, .int p0, .int p1])).length) Slot.unset).toArray = ls at hl ⊢
  have hl : lv_has ls 3 [(0, .ref mh0), (1, .int p0), (2, .int p1)] := hl
  refine lv_aload_n hx hb dX1_about_0 rfl (lv_at hl 0 rfl) ?_
  refine lv_iconst (v := 0) hx hb dX1_about_1 (by decide) ?_
  refine va_put (D := (dC, dI)) (ci := 1) (v := .int 0) (ty := .int) (C := RX1) (T := TX1) (N := 13) hx hb htG inX1 tyX1 tyX1_ok nmX1 hown hK hP hD hS 0 rfl rfl 0 (by decide) (htG _ wd_331) (fun _ h9 => h9) rfl (by decide +kernel) rfl rfl (Nat.le_of_ble_eq_true rfl) dX1_about_2 (fun H locs hP hD hS => ?_)
  have hP : va_P (dC, dI) vwCl (mW mh0 mh1 mh2 mh3 mc1 mc2 mc3 mk1 mk2 mk3 0 mf1 mf2 mf3 mf4 mf5 mf6 mf7 mf8 mf9) H := hP
  have hD : va_D A (mW mh0 mh1 mh2 mh3 mc1 mc2 mc3 mk1 mk2 mk3 0 mf1 mf2 mf3 mf4 mf5 mf6 mf7 mf8 mf9) := hD
  refine lv_aload_n hx hb dX1_about_5 rfl (lv_at hl 0 rfl) ?_
  refine lv_iload_n hx hb dX1_about_6 rfl (lv_at hl 1 rfl) ?_
  refine vp_callSi (va_runV (As := [.int p0]) (rest := []) ⟨hx, hb, hml, hown, htG⟩ (mX1_isThere l dC dI mh0 mh1 mh2 mh3 mc1 mc2 mc3 mk1 mk2 mk3 0 mf1 mf2 mf3 mf4 mf5 mf6 mf7 mf8 mf9 p0) (cwV 1 htG (wG_V wd_411 wd_413 wd_15 wd_23 wd_414) rfl rfl rfl (by decide +kernel) ⟨Nat.le_of_ble_eq_true rfl, Nat.le_of_ble_eq_true rfl⟩) ⟨fun a U g mk q => by obtain ⟨q0, qP, qK⟩ := q; exact ⟨q0, qP, va_K.moved (u := U) (U := U.calling g mk a) (Vm.Alike.refl U.vm) qK⟩, va_recv hK hP (ci := 1) (q0 := 0) rfl rfl, fun U hU hW => ⟨rfl, by rw [hU]; exact hP, va_K.moved hW.alike hK⟩⟩ rfl rfl hl.1 rfl (lv_room (Nat.le_of_ble_eq_true rfl)) dX1_about_7 ⟨Nat.le_of_ble_eq_true rfl, Nat.le_of_ble_eq_true rfl⟩).run (fun r_1 er_1 => ?_)
  subst er_1
  refine lv_if_eq (tgt := 22) hx hb dX1_about_10 (by decide) (fun c_1 => ?_) (fun c_1 => ?_)
  · refine lv_aload_n hx hb dX1_about_22 rfl (lv_at hl 0 rfl) ?_
    refine lv_iconst (v := 1) hx hb dX1_about_23 (by decide) ?_
    have hFc := va_free (wc := (mW mh0 mh1 mh2 mh3 mc1 mc2 mc3 mk1 mk2 mk3 0 mf1 mf2 mf3 mf4 mf5 mf6 mf7 mf8 mf9)) hD hS hA [0, 1, 2, 3] rfl
    refine va_calli (va_runV (As := [.int 1]) (rest := []) ⟨hx, hb, hml, hown, htG⟩ (mX1_fail l dC dI mh0 mh1 mh2 mh3 H.size mc1 mc2 mc3 mk1 mk2 mk3 0 mf1 mf2 mf3 mf4 mf5 mf6 mf7 mf8 mf9 1) (cwV 1 htG (wG_V wd_387 wd_389 wd_11 wd_23 wd_390) rfl rfl rfl (by decide +kernel) ⟨Nat.le_of_ble_eq_true rfl, Nat.le_of_ble_eq_true rfl⟩) ⟨fun a U g mk q => by obtain ⟨q0, q1, qP, qK, qD⟩ := q; exact ⟨q0, q1, qP, va_K.moved (u := U) (U := U.calling g mk a) (Vm.Alike.refl U.vm) qK, qD⟩, va_recv hK hP (ci := 1) (q0 := 0) rfl rfl, fun U hU hW => ⟨rfl, by rw [hU], by rw [hU]; exact hP, va_K.moved hW.alike hK, hD.weaken (fun _ _ _ _ => trivial)⟩⟩ rfl rfl hl.1 rfl (lv_room (Nat.le_of_ble_eq_true rfl)) dX1_about_24 ⟨Nat.le_of_ble_eq_true rfl, Nat.le_of_ble_eq_true rfl⟩) hS (fun q _ h => hFc q h) hFc (fun r_2 u t H1 locs ht hvm hw hB hz1 hk1 hS => ?_)
    rw [fX1_fail] at hw
    cases hw
    obtain ⟨hP1, hK1, hD1⟩ := hB
    rw [ht] at hP1
    obtain ⟨hP, hD⟩ := va_join (wr := []) (w1 := (mW mh0 mh1 mh2 mh3 mc1 mc2 mc3 mk1 mk2 mk3 1 mf1 mf2 mf3 mf4 mf5 mf6 mf7 mf8 mf9)) hP hD [0, 1, 2, 3] [] rfl rfl (by decide) (by decide) hk1 hFc hP1 hD1
    generalize H1 = H at hP hS ⊢
    have hP : va_P (dC, dI) vwCl (mW mh0 mh1 mh2 mh3 mc1 mc2 mc3 mk1 mk2 mk3 1 mf1 mf2 mf3 mf4 mf5 mf6 mf7 mf8 mf9) H := hP
    have hD : va_D A (mW mh0 mh1 mh2 mh3 mc1 mc2 mc3 mk1 mk2 mk3 1 mf1 mf2 mf3 mf4 mf5 mf6 mf7 mf8 mf9) := hD
    exact W.iret (v := 0) hx hb hr (fun t ht hW => ⟨⟨0, (mk1, mk2, mk3, 1, mf1, mf2, mf3, mf4, mf5, mf6, mf7, mf8, mf9), rfl, (by rw [fX1_about, if_pos c_1]), by rw [ht]; exact hP, va_K.moved hW.alike hK, hD⟩, hS.F ht⟩) hS.2.2 dX1_about_27
  · refine lv_iload_n hx hb dX1_about_13 rfl (lv_at hl 2 rfl) ?_
    refine lv_if_lt (tgt := 22) hx hb dX1_about_14 (by decide) (fun c_2 => ?_) (fun c_2 => ?_)
    · refine lv_aload_n hx hb dX1_about_22 rfl (lv_at hl 0 rfl) ?_
      refine lv_iconst (v := 1) hx hb dX1_about_23 (by decide) ?_
      have hFc := va_free (wc := (mW mh0 mh1 mh2 mh3 mc1 mc2 mc3 mk1 mk2 mk3 0 mf1 mf2 mf3 mf4 mf5 mf6 mf7 mf8 mf9)) hD hS hA [0, 1, 2, 3] rfl
      refine va_calli (va_runV (As := [.int 1]) (rest := []) ⟨hx, hb, hml, hown, htG⟩ (mX1_fail l dC dI mh0 mh1 mh2 mh3 H.size mc1 mc2 mc3 mk1 mk2 mk3 0 mf1 mf2 mf3 mf4 mf5 mf6 mf7 mf8 mf9 1) (cwV 1 htG (wG_V wd_387 wd_389 wd_11 wd_23 wd_390) rfl rfl rfl (by decide +kernel) ⟨Nat.le_of_ble_eq_true rfl, Nat.le_of_ble_eq_true rfl⟩) ⟨fun a U g mk q => by obtain ⟨q0, q1, qP, qK, qD⟩ := q; exact ⟨q0, q1, qP, va_K.moved (u := U) (U := U.calling g mk a) (Vm.Alike.refl U.vm) qK, qD⟩, va_recv hK hP (ci := 1) (q0 := 0) rfl rfl, fun U hU hW => ⟨rfl, by rw [hU], by rw [hU]; exact hP, va_K.moved hW.alike hK, hD.weaken (fun _ _ _ _ => trivial)⟩⟩ rfl rfl hl.1 rfl (lv_room (Nat.le_of_ble_eq_true rfl)) dX1_about_24 ⟨Nat.le_of_ble_eq_true rfl, Nat.le_of_ble_eq_true rfl⟩) hS (fun q _ h => hFc q h) hFc (fun r_3 u t H1 locs ht hvm hw hB hz1 hk1 hS => ?_)
      rw [fX1_fail] at hw
      cases hw
      obtain ⟨hP1, hK1, hD1⟩ := hB
      rw [ht] at hP1
      obtain ⟨hP, hD⟩ := va_join (wr := []) (w1 := (mW mh0 mh1 mh2 mh3 mc1 mc2 mc3 mk1 mk2 mk3 1 mf1 mf2 mf3 mf4 mf5 mf6 mf7 mf8 mf9)) hP hD [0, 1, 2, 3] [] rfl rfl (by decide) (by decide) hk1 hFc hP1 hD1
      generalize H1 = H at hP hS ⊢
      have hP : va_P (dC, dI) vwCl (mW mh0 mh1 mh2 mh3 mc1 mc2 mc3 mk1 mk2 mk3 1 mf1 mf2 mf3 mf4 mf5 mf6 mf7 mf8 mf9) H := hP
      have hD : va_D A (mW mh0 mh1 mh2 mh3 mc1 mc2 mc3 mk1 mk2 mk3 1 mf1 mf2 mf3 mf4 mf5 mf6 mf7 mf8 mf9) := hD
      exact W.iret (v := 0) hx hb hr (fun t ht hW => ⟨⟨0, (mk1, mk2, mk3, 1, mf1, mf2, mf3, mf4, mf5, mf6, mf7, mf8, mf9), rfl, (by rw [fX1_about, if_neg c_1, if_pos c_2]), by rw [ht]; exact hP, va_K.moved hW.alike hK, hD⟩, hS.F ht⟩) hS.2.2 dX1_about_27
    · refine lv_iload_n hx hb dX1_about_17 rfl (lv_at hl 2 rfl) ?_
      refine lv_iconst (v := 2) hx hb dX1_about_18 (by decide) ?_
      refine lv_icmp_le (tgt := 28) hx hb dX1_about_19 (by decide) (fun c_3 => ?_) (fun c_3 => ?_)
      · refine lv_iload_n hx hb dX1_about_28 rfl (lv_at hl 1 rfl) ?_
        refine lv_iconst (v := (-1)) hx hb dX1_about_29 (by decide) ?_
        refine lv_icmp_ne (tgt := 52) hx hb dX1_about_30 (by decide) (fun c_4 => ?_) (fun c_4 => ?_)
        · refine lv_iload_n hx hb dX1_about_52 rfl (lv_at hl 2 rfl) ?_
          refine lv_if_ne (tgt := 64) hx hb dX1_about_53 (by decide) (fun c_5 => ?_) (fun c_5 => ?_)
          · refine lv_iload_n hx hb dX1_about_64 rfl (lv_at hl 2 rfl) ?_
            refine lv_iconst (v := 1) hx hb dX1_about_65 (by decide) ?_
            refine lv_icmp_ne (tgt := 77) hx hb dX1_about_66 (by decide) (fun c_6 => ?_) (fun c_6 => ?_)
            · refine lv_aload_n hx hb dX1_about_77 rfl (lv_at hl 0 rfl) ?_
              refine lv_iload_n hx hb dX1_about_78 rfl (lv_at hl 1 rfl) ?_
              refine vp_callSi (va_runV (As := [.int p0]) (rest := []) ⟨hx, hb, hml, hown, htG⟩ (mX1_words l dC dI mh0 mh1 mh2 mh3 mc1 mc2 mc3 mk1 mk2 mk3 0 mf1 mf2 mf3 mf4 mf5 mf6 mf7 mf8 mf9 p0 (isThere_in hN c_1)) (cwV 1 htG (wG_V wd_415 wd_417 wd_16 wd_23 wd_418) rfl rfl rfl (by decide +kernel) ⟨Nat.le_of_ble_eq_true rfl, Nat.le_of_ble_eq_true rfl⟩) ⟨fun a U g mk q => by obtain ⟨q0, qP, qK⟩ := q; exact ⟨q0, qP, va_K.moved (u := U) (U := U.calling g mk a) (Vm.Alike.refl U.vm) qK⟩, va_recv hK hP (ci := 1) (q0 := 0) rfl rfl, fun U hU hW => ⟨rfl, by rw [hU]; exact hP, va_K.moved hW.alike hK⟩⟩ rfl rfl hl.1 rfl (lv_room (Nat.le_of_ble_eq_true rfl)) dX1_about_79 ⟨Nat.le_of_ble_eq_true rfl, Nat.le_of_ble_eq_true rfl⟩).run (fun r_4 er_4 => ?_)
              subst er_4
              exact W.iret (v := (fX1_words mk1 mk2 p0)) hx hb hr (fun t ht hW => ⟨⟨(fX1_words mk1 mk2 p0), (mk1, mk2, mk3, 0, mf1, mf2, mf3, mf4, mf5, mf6, mf7, mf8, mf9), rfl, (by rw [fX1_about, if_neg c_1, if_neg c_2, if_pos c_3, if_neg c_4, if_neg c_5, if_neg c_6]), by rw [ht]; exact hP, va_K.moved hW.alike hK, hD⟩, hS.F ht⟩) hS.2.2 dX1_about_82
            · refine lv_aload_n hx hb dX1_about_69 rfl (lv_at hl 0 rfl) ?_
              refine lv_iload_n hx hb dX1_about_70 rfl (lv_at hl 1 rfl) ?_
              refine vp_callSi (va_runV (As := [.int p0]) (rest := []) ⟨hx, hb, hml, hown, htG⟩ (mX1_bytes l dC dI mh0 mh1 mh2 mh3 mc1 mc2 mc3 mk1 mk2 mk3 0 mf1 mf2 mf3 mf4 mf5 mf6 mf7 mf8 mf9 p0 (isThere_in hN c_1 c_4)) (cwV 1 htG (wG_V wd_402 wd_404 wd_14 wd_23 wd_405) rfl rfl rfl (by decide +kernel) ⟨Nat.le_of_ble_eq_true rfl, Nat.le_of_ble_eq_true rfl⟩) ⟨fun a U g mk q => by obtain ⟨q0, qP, qK⟩ := q; exact ⟨q0, qP, va_K.moved (u := U) (U := U.calling g mk a) (Vm.Alike.refl U.vm) qK⟩, va_recv hK hP (ci := 1) (q0 := 0) rfl rfl, fun U hU hW => ⟨rfl, by rw [hU]; exact hP, va_K.moved hW.alike hK⟩⟩ rfl rfl hl.1 rfl (lv_room (Nat.le_of_ble_eq_true rfl)) dX1_about_71 ⟨Nat.le_of_ble_eq_true rfl, Nat.le_of_ble_eq_true rfl⟩).run (fun r_5 er_5 => ?_)
              subst er_5
              refine lv_goto (tgt := 82) hx hb dX1_about_74 (by decide) ?_
              exact W.iret (v := (fX1_bytes mk1 mk2 p0)) hx hb hr (fun t ht hW => ⟨⟨(fX1_bytes mk1 mk2 p0), (mk1, mk2, mk3, 0, mf1, mf2, mf3, mf4, mf5, mf6, mf7, mf8, mf9), rfl, (by rw [fX1_about, if_neg c_1, if_neg c_2, if_pos c_3, if_neg c_4, if_neg c_5, if_pos c_6]), by rw [ht]; exact hP, va_K.moved hW.alike hK, hD⟩, hS.F ht⟩) hS.2.2 dX1_about_82
          · refine lv_aload_n hx hb dX1_about_56 rfl (lv_at hl 0 rfl) ?_
            refine lv_iload_n hx hb dX1_about_57 rfl (lv_at hl 1 rfl) ?_
            refine vp_callSi (va_runV (As := [.int p0]) (rest := []) ⟨hx, hb, hml, hown, htG⟩ (mX1_home l dC dI mh0 mh1 mh2 mh3 mc1 mc2 mc3 mk1 mk2 mk3 0 mf1 mf2 mf3 mf4 mf5 mf6 mf7 mf8 mf9 p0 (in_le (isThere_in hN c_1 c_4)) (fun _ => (isThere_in hN c_1 c_4))) (cwV 1 htG (wG_V wd_391 wd_393 wd_12 wd_23 wd_394) rfl rfl rfl (by decide +kernel) ⟨Nat.le_of_ble_eq_true rfl, Nat.le_of_ble_eq_true rfl⟩) ⟨fun a U g mk q => by obtain ⟨q0, qP, qK⟩ := q; exact ⟨q0, qP, va_K.moved (u := U) (U := U.calling g mk a) (Vm.Alike.refl U.vm) qK⟩, va_recv hK hP (ci := 1) (q0 := 0) rfl rfl, fun U hU hW => ⟨rfl, by rw [hU]; exact hP, va_K.moved hW.alike hK⟩⟩ rfl rfl hl.1 rfl (lv_room (Nat.le_of_ble_eq_true rfl)) dX1_about_58 ⟨Nat.le_of_ble_eq_true rfl, Nat.le_of_ble_eq_true rfl⟩).run (fun r_6 er_6 => ?_)
            subst er_6
            refine lv_goto (tgt := 82) hx hb dX1_about_61 (by decide) ?_
            exact W.iret (v := (fX1_home mk1 mk2 mk3 mf1 mf2 p0)) hx hb hr (fun t ht hW => ⟨⟨(fX1_home mk1 mk2 mk3 mf1 mf2 p0), (mk1, mk2, mk3, 0, mf1, mf2, mf3, mf4, mf5, mf6, mf7, mf8, mf9), rfl, (by rw [fX1_about, if_neg c_1, if_neg c_2, if_pos c_3, if_neg c_4, if_pos c_5]), by rw [ht]; exact hP, va_K.moved hW.alike hK, hD⟩, hS.F ht⟩) hS.2.2 dX1_about_82
        · refine lv_iload_n hx hb dX1_about_33 rfl (lv_at hl 2 rfl) ?_
          refine lv_if_ne (tgt := 41) hx hb dX1_about_34 (by decide) (fun c_7 => ?_) (fun c_7 => ?_)
          · refine lv_iload_n hx hb dX1_about_41 rfl (lv_at hl 2 rfl) ?_
            refine lv_iconst (v := 1) hx hb dX1_about_42 (by decide) ?_
            refine lv_icmp_ne (tgt := 50) hx hb dX1_about_43 (by decide) (fun c_8 => ?_) (fun c_8 => ?_)
            · refine lv_iconst (v := 1) hx hb dX1_about_50 (by decide) ?_
              exact W.iret (v := 1) hx hb hr (fun t ht hW => ⟨⟨1, (mk1, mk2, mk3, 0, mf1, mf2, mf3, mf4, mf5, mf6, mf7, mf8, mf9), rfl, (by rw [fX1_about, if_neg c_1, if_neg c_2, if_pos c_3, if_pos c_4, if_neg c_7, if_neg c_8]), by rw [ht]; exact hP, va_K.moved hW.alike hK, hD⟩, hS.F ht⟩) hS.2.2 dX1_about_51
            · refine lv_iconst (v := 4) hx hb dX1_about_46 (by decide) ?_
              refine lv_goto (tgt := 51) hx hb dX1_about_47 (by decide) ?_
              exact W.iret (v := 4) hx hb hr (fun t ht hW => ⟨⟨4, (mk1, mk2, mk3, 0, mf1, mf2, mf3, mf4, mf5, mf6, mf7, mf8, mf9), rfl, (by rw [fX1_about, if_neg c_1, if_neg c_2, if_pos c_3, if_pos c_4, if_neg c_7, if_pos c_8]), by rw [ht]; exact hP, va_K.moved hW.alike hK, hD⟩, hS.F ht⟩) hS.2.2 dX1_about_51
          · refine lv_iconst (v := 0) hx hb dX1_about_37 (by decide) ?_
            refine lv_goto (tgt := 51) hx hb dX1_about_38 (by decide) ?_
            exact W.iret (v := 0) hx hb hr (fun t ht hW => ⟨⟨0, (mk1, mk2, mk3, 0, mf1, mf2, mf3, mf4, mf5, mf6, mf7, mf8, mf9), rfl, (by rw [fX1_about, if_neg c_1, if_neg c_2, if_pos c_3, if_pos c_4, if_pos c_7]), by rw [ht]; exact hP, va_K.moved hW.alike hK, hD⟩, hS.F ht⟩) hS.2.2 dX1_about_51
      · refine lv_aload_n hx hb dX1_about_22 rfl (lv_at hl 0 rfl) ?_
        refine lv_iconst (v := 1) hx hb dX1_about_23 (by decide) ?_
        have hFc := va_free (wc := (mW mh0 mh1 mh2 mh3 mc1 mc2 mc3 mk1 mk2 mk3 0 mf1 mf2 mf3 mf4 mf5 mf6 mf7 mf8 mf9)) hD hS hA [0, 1, 2, 3] rfl
        refine va_calli (va_runV (As := [.int 1]) (rest := []) ⟨hx, hb, hml, hown, htG⟩ (mX1_fail l dC dI mh0 mh1 mh2 mh3 H.size mc1 mc2 mc3 mk1 mk2 mk3 0 mf1 mf2 mf3 mf4 mf5 mf6 mf7 mf8 mf9 1) (cwV 1 htG (wG_V wd_387 wd_389 wd_11 wd_23 wd_390) rfl rfl rfl (by decide +kernel) ⟨Nat.le_of_ble_eq_true rfl, Nat.le_of_ble_eq_true rfl⟩) ⟨fun a U g mk q => by obtain ⟨q0, q1, qP, qK, qD⟩ := q; exact ⟨q0, q1, qP, va_K.moved (u := U) (U := U.calling g mk a) (Vm.Alike.refl U.vm) qK, qD⟩, va_recv hK hP (ci := 1) (q0 := 0) rfl rfl, fun U hU hW => ⟨rfl, by rw [hU], by rw [hU]; exact hP, va_K.moved hW.alike hK, hD.weaken (fun _ _ _ _ => trivial)⟩⟩ rfl rfl hl.1 rfl (lv_room (Nat.le_of_ble_eq_true rfl)) dX1_about_24 ⟨Nat.le_of_ble_eq_true rfl, Nat.le_of_ble_eq_true rfl⟩) hS (fun q _ h => hFc q h) hFc (fun r_7 u t H1 locs ht hvm hw hB hz1 hk1 hS => ?_)
        rw [fX1_fail] at hw
        cases hw
        obtain ⟨hP1, hK1, hD1⟩ := hB
        rw [ht] at hP1
        obtain ⟨hP, hD⟩ := va_join (wr := []) (w1 := (mW mh0 mh1 mh2 mh3 mc1 mc2 mc3 mk1 mk2 mk3 1 mf1 mf2 mf3 mf4 mf5 mf6 mf7 mf8 mf9)) hP hD [0, 1, 2, 3] [] rfl rfl (by decide) (by decide) hk1 hFc hP1 hD1
        generalize H1 = H at hP hS ⊢
        have hP : va_P (dC, dI) vwCl (mW mh0 mh1 mh2 mh3 mc1 mc2 mc3 mk1 mk2 mk3 1 mf1 mf2 mf3 mf4 mf5 mf6 mf7 mf8 mf9) H := hP
        have hD : va_D A (mW mh0 mh1 mh2 mh3 mc1 mc2 mc3 mk1 mk2 mk3 1 mf1 mf2 mf3 mf4 mf5 mf6 mf7 mf8 mf9) := hD
        exact W.iret (v := 0) hx hb hr (fun t ht hW => ⟨⟨0, (mk1, mk2, mk3, 1, mf1, mf2, mf3, mf4, mf5, mf6, mf7, mf8, mf9), rfl, (by rw [fX1_about, if_neg c_1, if_neg c_2, if_neg c_3]), by rw [ht]; exact hP, va_K.moved hW.alike hK, hD⟩, hS.F ht⟩) hS.2.2 dX1_about_27
