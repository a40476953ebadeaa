def fX1_frame (mk1 mk2 mk3 : Nat → Int32) (mf0 mf1 mf2 mf3 mf4 mf5 mf6 mf7 mf8 mf9 : Int32) (p0 p1 p2 : Int32) : Int32 × Int32 × mWS :=
  if p0 < 0 then (0, 0, (mk1, mk2, mk3, 1, mf1, mf2, mf3, mf4, mf5, mf6, mf7, mf8, mf9))
  else if 1000000 < p0 then (0, 0, (mk1, mk2, mk3, 1, mf1, mf2, mf3, mf4, mf5, mf6, mf7, mf8, mf9))
    else if (p1 &&& ((-1057030144) ^^^ (-1))) = 0 then (if (p2 &&& (1431306240 ^^^ (-1))) = 0 then (if mf3 ≤ 0 then (0, (fX1_filled ((fX1_generalAt p2 p0 0) + (fX1_saved p1 32 4)) 8), (mk1, mk2, mk3, 0, mf1, mf2, mf3, mf4, p1, p2, p0, 0, mf9))
          else (0, (fX1_filled ((fX1_generalAt p2 p0 mf4) + (fX1_saved (p1 ||| (-2147483648)) 32 4)) 8), (mk1, mk2, mk3, 0, mf1, mf2, mf3, mf4, (p1 ||| (-2147483648)), p2, p0, mf4, mf9)))
        else (0, 0, (mk1, mk2, mk3, 1, mf1, mf2, mf3, mf4, mf5, mf6, mf7, mf8, mf9)))
      else (0, 0, (mk1, mk2, mk3, 1, mf1, mf2, mf3, mf4, mf5, mf6, mf7, mf8, mf9))

abbrev wsX1_frame : List Cond := .code yX1_frame cX1_frame 6 (some .int) :: wG
set_option maxHeartbeats 4000000 in
set_option maxRecDepth 100000 in
theorem mX1_frame (l : Launch) (dC : Nat → ClassId) (dI : Nat → Nat → Nat) (mh0 mh1 mh2 mh3 : Nat) (sz : Nat) (mc1 mc2 mc3 : ClassId) (mk1 mk2 mk3 : Nat → Int32) (mf0 mf1 mf2 mf3 mf4 mf5 mf6 mf7 mf8 mf9 : Int32) (p0 p1 p2 : Int32)  : Met l yX1_frame wsX1_frame ({ frames := 3, cells := 0, slots := 0, locals := 61 }) (va_Pc [.ref mh0, .int p0, .int p1, .int p2] (fun U => U.heap.size = sz ∧ va_P (dC, dI) vwCl (mW mh0 mh1 mh2 mh3 mc1 mc2 mc3 mk1 mk2 mk3 mf0 mf1 mf2 mf3 mf4 mf5 mf6 mf7 mf8 mf9) U.heap ∧ va_K (dC, dI) vwCl [(mc1, .int), (mc2, .int), (mc3, .int)] U ∧ va_D (fun _ => True) (mW mh0 mh1 mh2 mh3 mc1 mc2 mc3 mk1 mk2 mk3 mf0 mf1 mf2 mf3 mf4 mf5 mf6 mf7 mf8 mf9))) (va_Qi (fun r u => (0, r, u) = fX1_frame mk1 mk2 mk3 mf0 mf1 mf2 mf3 mf4 mf5 mf6 mf7 mf8 mf9 p0 p1 p2) (mWB dC dI (va_A (mW mh0 mh1 mh2 mh3 mc1 mc2 mc3 mk1 mk2 mk3 mf0 mf1 mf2 mf3 mf4 mf5 mf6 mf7 mf8 mf9) sz) mh0 mh1 mh2 mh3 mc1 mc2 mc3) (va_A (mW mh0 mh1 mh2 mh3 mc1 mc2 mc3 mk1 mk2 mk3 mf0 mf1 mf2 mf3 mf4 mf5 mf6 mf7 mf8 mf9) sz)) 0 0 (va_A (mW mh0 mh1 mh2 mh3 mc1 mc2 mc3 mk1 mk2 mk3 mf0 mf1 mf2 mf3 mf4 mf5 mf6 mf7 mf8 mf9) sz) := by
  refine Met.ofW (cc := cX1_frame) (maxL := 6) (ret := (some .int)) (by decide) rfl ?_
  intro p e s m args below meth c s₁ B hml hv
  obtain ⟨rfl, hsz, hP, hK, hD0⟩ := hv
  have hx := B.exec
  have hb := B.bytes
  have hr := B.returns
  have hts := atoms_spec (ws := wsX1_frame) B.pre
  have htG := fun (w : Cond) (h : w ∈ wG) => hts w (List.mem_cons_of_mem _ h)
  have hown : s.vm.findClass RX1 = some m.cls := findClass_of_methodNamed B.named
  have hlocks := B.notSynchronized
  subst hsz
  have hD := hD0.self (sz := s.heap.size)
  generalize hAe : va_A (mW mh0 mh1 mh2 mh3 mc1 mc2 mc3 mk1 mk2 mk3 mf0 mf1 mf2 mf3 mf4 mf5 mf6 mf7 mf8 mf9) s.heap.size = A at hD ⊢
  have hA : ∀ q : Nat, s.heap.size ≤ q → A q := fun q h => by rw [← hAe]; exact Or.inr h
  have hS : va_S A s.heap s.heap [] := va_S.rf
  have hP : va_P (dC, dI) vwCl (mW mh0 mh1 mh2 mh3 mc1 mc2 mc3 mk1 mk2 mk3 mf0 mf1 mf2 mf3 mf4 mf5 mf6 mf7 mf8 mf9) s.heap := hP
  have hl := lv_entry ([.ref mh0, .int p0, .int p1, .int p2]) (n := 6) (Nat.le_of_ble_eq_true rfl)
  rw [lg_entry_eq]
  generalize (lg_sl ([.ref mh0, .int p0, .int p1, .int p2]) ++ List.replicate (6 - (lg_sl ([.ref mh0, .int p0, .int p1, .int p2])).length) Slot.unset).toArray = ls at hl ⊢
  have hl : lv_has ls 6 [(0, .ref mh0), (1, .int p0), (2, .int p1), (3, .int p2)] := hl
  refine lv_aload_n hx hb dX1_frame_0 rfl (lv_at hl 0 rfl) ?_
  refine lv_iconst (v := 0) hx hb dX1_frame_1 (by decide) ?_
  refine va_put (D := (dC, dI)) (ci := 1) (v := .int 0) (ty := .int) (C := RX1) (T := TX1) (N := 13) hx hb htG inX1 tyX1 tyX1_ok nmX1 hown hK hP hD hS 0 rfl rfl 0 (by decide) (htG _ wd_331) (fun _ h9 => h9) rfl (by decide +kernel) rfl rfl (Nat.le_of_ble_eq_true rfl) dX1_frame_2 (fun H locs hP hD hS => ?_)
  have hP : va_P (dC, dI) vwCl (mW mh0 mh1 mh2 mh3 mc1 mc2 mc3 mk1 mk2 mk3 0 mf1 mf2 mf3 mf4 mf5 mf6 mf7 mf8 mf9) H := hP
  have hD : va_D A (mW mh0 mh1 mh2 mh3 mc1 mc2 mc3 mk1 mk2 mk3 0 mf1 mf2 mf3 mf4 mf5 mf6 mf7 mf8 mf9) := hD
  refine lv_ldc (v := (-1057030144)) hx hb hown (htG _ wd_443) dX1_frame_5 ?_
  refine lv_istore (lv' := [(4, .int (-1057030144)), (0, .ref mh0), (1, .int p0), (2, .int p1), (3, .int p2)]) hx hb dX1_frame_7 hl (by decide) rfl (fun ls hl => ?_)
  refine lv_ldc (v := 1431306240) hx hb hown (htG _ wd_444) dX1_frame_9 ?_
  refine lv_istore (lv' := [(5, .int 1431306240), (4, .int (-1057030144)), (0, .ref mh0), (1, .int p0), (2, .int p1), (3, .int p2)]) hx hb dX1_frame_11 hl (by decide) rfl (fun ls hl => ?_)
  refine lv_iload_n hx hb dX1_frame_13 rfl (lv_at hl 3 rfl) ?_
  refine lv_if_lt (tgt := 41) hx hb dX1_frame_14 (by decide) (fun c_1 => ?_) (fun c_1 => ?_)
  · refine lv_aload_n hx hb dX1_frame_41 rfl (lv_at hl 2 rfl) ?_
    refine lv_iconst (v := 1) hx hb dX1_frame_42 (by decide) ?_
    have hFc := va_free (wc := (mW mh0 mh1 mh2 mh3 mc1 mc2 mc3 mk1 mk2 mk3 0 mf1 mf2 mf3 mf4 mf5 mf6 mf7 mf8 mf9)) hD hS hA [0, 1, 2, 3] rfl
    refine va_calli (va_runV (As := [.int 1]) (rest := []) ⟨hx, hb, hml, hown, htG⟩ (mX1_fail l dC dI mh0 mh1 mh2 mh3 H.size mc1 mc2 mc3 mk1 mk2 mk3 0 mf1 mf2 mf3 mf4 mf5 mf6 mf7 mf8 mf9 1) (cwV 1 htG (wG_V wd_387 wd_389 wd_11 wd_23 wd_390) rfl rfl rfl (by decide +kernel) ⟨Nat.le_of_ble_eq_true rfl, Nat.le_of_ble_eq_true rfl⟩) ⟨fun a U g mk q => by obtain ⟨q0, q1, qP, qK, qD⟩ := q; exact ⟨q0, q1, qP, va_K.moved (u := U) (U := U.calling g mk a) (Vm.Alike.refl U.vm) qK, qD⟩, va_recv hK hP (ci := 1) (q0 := 0) rfl rfl, fun U hU hW => ⟨rfl, by rw [hU], by rw [hU]; exact hP, va_K.moved hW.alike hK, hD.weaken (fun _ _ _ _ => trivial)⟩⟩ rfl rfl hl.1 rfl (lv_room (Nat.le_of_ble_eq_true rfl)) dX1_frame_43 ⟨Nat.le_of_ble_eq_true rfl, Nat.le_of_ble_eq_true rfl⟩) hS (fun q _ h => hFc q h) hFc (fun r_1 u t H1 locs ht hvm hw hB hz1 hk1 hS => ?_)
    rw [fX1_fail] at hw
    cases hw
    obtain ⟨hP1, hK1, hD1⟩ := hB
    rw [ht] at hP1
    obtain ⟨hP, hD⟩ := va_join (wr := []) (w1 := (mW mh0 mh1 mh2 mh3 mc1 mc2 mc3 mk1 mk2 mk3 1 mf1 mf2 mf3 mf4 mf5 mf6 mf7 mf8 mf9)) hP hD [0, 1, 2, 3] [] rfl rfl (by decide) (by decide) hk1 hFc hP1 hD1
    generalize H1 = H at hP hS ⊢
    have hP : va_P (dC, dI) vwCl (mW mh0 mh1 mh2 mh3 mc1 mc2 mc3 mk1 mk2 mk3 1 mf1 mf2 mf3 mf4 mf5 mf6 mf7 mf8 mf9) H := hP
    have hD : va_D A (mW mh0 mh1 mh2 mh3 mc1 mc2 mc3 mk1 mk2 mk3 1 mf1 mf2 mf3 mf4 mf5 mf6 mf7 mf8 mf9) := hD
    exact W.iret (v := 0) hx hb hr (fun t ht hW => ⟨⟨0, (mk1, mk2, mk3, 1, mf1, mf2, mf3, mf4, mf5, mf6, mf7, mf8, mf9), rfl, (by rw [fX1_frame, if_pos c_1]), by rw [ht]; exact hP, va_K.moved hW.alike hK, hD⟩, hS.F ht⟩) hS.2.2 dX1_frame_46
  · refine lv_iload_n hx hb dX1_frame_17 rfl (lv_at hl 3 rfl) ?_
    refine lv_ldc (v := 1000000) hx hb hown (htG _ wd_406) dX1_frame_18 ?_
    refine lv_icmp_gt (tgt := 41) hx hb dX1_frame_20 (by decide) (fun c_2 => ?_) (fun c_2 => ?_)
    · refine lv_aload_n hx hb dX1_frame_41 rfl (lv_at hl 2 rfl) ?_
      refine lv_iconst (v := 1) hx hb dX1_frame_42 (by decide) ?_
      have hFc := va_free (wc := (mW mh0 mh1 mh2 mh3 mc1 mc2 mc3 mk1 mk2 mk3 0 mf1 mf2 mf3 mf4 mf5 mf6 mf7 mf8 mf9)) hD hS hA [0, 1, 2, 3] rfl
      refine va_calli (va_runV (As := [.int 1]) (rest := []) ⟨hx, hb, hml, hown, htG⟩ (mX1_fail l dC dI mh0 mh1 mh2 mh3 H.size mc1 mc2 mc3 mk1 mk2 mk3 0 mf1 mf2 mf3 mf4 mf5 mf6 mf7 mf8 mf9 1) (cwV 1 htG (wG_V wd_387 wd_389 wd_11 wd_23 wd_390) rfl rfl rfl (by decide +kernel) ⟨Nat.le_of_ble_eq_true rfl, Nat.le_of_ble_eq_true rfl⟩) ⟨fun a U g mk q => by obtain ⟨q0, q1, qP, qK, qD⟩ := q; exact ⟨q0, q1, qP, va_K.moved (u := U) (U := U.calling g mk a) (Vm.Alike.refl U.vm) qK, qD⟩, va_recv hK hP (ci := 1) (q0 := 0) rfl rfl, fun U hU hW => ⟨rfl, by rw [hU], by rw [hU]; exact hP, va_K.moved hW.alike hK, hD.weaken (fun _ _ _ _ => trivial)⟩⟩ rfl rfl hl.1 rfl (lv_room (Nat.le_of_ble_eq_true rfl)) dX1_frame_43 ⟨Nat.le_of_ble_eq_true rfl, Nat.le_of_ble_eq_true rfl⟩) hS (fun q _ h => hFc q h) hFc (fun r_2 u t H1 locs ht hvm hw hB hz1 hk1 hS => ?_)
      rw [fX1_fail] at hw
      cases hw
      obtain ⟨hP1, hK1, hD1⟩ := hB
      rw [ht] at hP1
      obtain ⟨hP, hD⟩ := va_join (wr := []) (w1 := (mW mh0 mh1 mh2 mh3 mc1 mc2 mc3 mk1 mk2 mk3 1 mf1 mf2 mf3 mf4 mf5 mf6 mf7 mf8 mf9)) hP hD [0, 1, 2, 3] [] rfl rfl (by decide) (by decide) hk1 hFc hP1 hD1
      generalize H1 = H at hP hS ⊢
      have hP : va_P (dC, dI) vwCl (mW mh0 mh1 mh2 mh3 mc1 mc2 mc3 mk1 mk2 mk3 1 mf1 mf2 mf3 mf4 mf5 mf6 mf7 mf8 mf9) H := hP
      have hD : va_D A (mW mh0 mh1 mh2 mh3 mc1 mc2 mc3 mk1 mk2 mk3 1 mf1 mf2 mf3 mf4 mf5 mf6 mf7 mf8 mf9) := hD
      exact W.iret (v := 0) hx hb hr (fun t ht hW => ⟨⟨0, (mk1, mk2, mk3, 1, mf1, mf2, mf3, mf4, mf5, mf6, mf7, mf8, mf9), rfl, (by rw [fX1_frame, if_neg c_1, if_pos c_2]), by rw [ht]; exact hP, va_K.moved hW.alike hK, hD⟩, hS.F ht⟩) hS.2.2 dX1_frame_46
    · refine lv_iload_n hx hb dX1_frame_23 rfl (lv_at hl 4 rfl) ?_
      refine lv_iload hx hb dX1_frame_24 (lv_at hl 1 rfl) ?_
      refine lv_iconst (v := (-1)) hx hb dX1_frame_26 (by decide) ?_
      refine lv_ixor hx hb dX1_frame_27 ?_
      refine lv_iand hx hb dX1_frame_28 ?_
      refine lv_if_ne (tgt := 41) hx hb dX1_frame_29 (by decide) (fun c_3 => ?_) (fun c_3 => ?_)
      · refine lv_aload_n hx hb dX1_frame_41 rfl (lv_at hl 2 rfl) ?_
        refine lv_iconst (v := 1) hx hb dX1_frame_42 (by decide) ?_
        have hFc := va_free (wc := (mW mh0 mh1 mh2 mh3 mc1 mc2 mc3 mk1 mk2 mk3 0 mf1 mf2 mf3 mf4 mf5 mf6 mf7 mf8 mf9)) hD hS hA [0, 1, 2, 3] rfl
        refine va_calli (va_runV (As := [.int 1]) (rest := []) ⟨hx, hb, hml, hown, htG⟩ (mX1_fail l dC dI mh0 mh1 mh2 mh3 H.size mc1 mc2 mc3 mk1 mk2 mk3 0 mf1 mf2 mf3 mf4 mf5 mf6 mf7 mf8 mf9 1) (cwV 1 htG (wG_V wd_387 wd_389 wd_11 wd_23 wd_390) rfl rfl rfl (by decide +kernel) ⟨Nat.le_of_ble_eq_true rfl, Nat.le_of_ble_eq_true rfl⟩) ⟨fun a U g mk q => by obtain ⟨q0, q1, qP, qK, qD⟩ := q; exact ⟨q0, q1, qP, va_K.moved (u := U) (U := U.calling g mk a) (Vm.Alike.refl U.vm) qK, qD⟩, va_recv hK hP (ci := 1) (q0 := 0) rfl rfl, fun U hU hW => ⟨rfl, by rw [hU], by rw [hU]; exact hP, va_K.moved hW.alike hK, hD.weaken (fun _ _ _ _ => trivial)⟩⟩ rfl rfl hl.1 rfl (lv_room (Nat.le_of_ble_eq_true rfl)) dX1_frame_43 ⟨Nat.le_of_ble_eq_true rfl, Nat.le_of_ble_eq_true rfl⟩) hS (fun q _ h => hFc q h) hFc (fun r_3 u t H1 locs ht hvm hw hB hz1 hk1 hS => ?_)
        rw [fX1_fail] at hw
        cases hw
        obtain ⟨hP1, hK1, hD1⟩ := hB
        rw [ht] at hP1
        obtain ⟨hP, hD⟩ := va_join (wr := []) (w1 := (mW mh0 mh1 mh2 mh3 mc1 mc2 mc3 mk1 mk2 mk3 1 mf1 mf2 mf3 mf4 mf5 mf6 mf7 mf8 mf9)) hP hD [0, 1, 2, 3] [] rfl rfl (by decide) (by decide) hk1 hFc hP1 hD1
        generalize H1 = H at hP hS ⊢
        have hP : va_P (dC, dI) vwCl (mW mh0 mh1 mh2 mh3 mc1 mc2 mc3 mk1 mk2 mk3 1 mf1 mf2 mf3 mf4 mf5 mf6 mf7 mf8 mf9) H := hP
        have hD : va_D A (mW mh0 mh1 mh2 mh3 mc1 mc2 mc3 mk1 mk2 mk3 1 mf1 mf2 mf3 mf4 mf5 mf6 mf7 mf8 mf9) := hD
        exact W.iret (v := 0) hx hb hr (fun t ht hW => ⟨⟨0, (mk1, mk2, mk3, 1, mf1, mf2, mf3, mf4, mf5, mf6, mf7, mf8, mf9), rfl, (by rw [fX1_frame, if_neg c_1, if_neg c_2, if_neg c_3]), by rw [ht]; exact hP, va_K.moved hW.alike hK, hD⟩, hS.F ht⟩) hS.2.2 dX1_frame_46
      · refine lv_iload_n hx hb dX1_frame_32 rfl (lv_at hl 5 rfl) ?_
        refine lv_iload hx hb dX1_frame_33 (lv_at hl 0 rfl) ?_
        refine lv_iconst (v := (-1)) hx hb dX1_frame_35 (by decide) ?_
        refine lv_ixor hx hb dX1_frame_36 ?_
        refine lv_iand hx hb dX1_frame_37 ?_
        refine lv_if_eq (tgt := 47) hx hb dX1_frame_38 (by decide) (fun c_4 => ?_) (fun c_4 => ?_)
        · refine lv_aload_n hx hb dX1_frame_47 rfl (lv_at hl 2 rfl) ?_
          refine lv_aload_n hx hb dX1_frame_48 rfl (lv_at hl 2 rfl) ?_
          refine va_get (D := (dC, dI)) (ci := 1) (v := .int mf3) (C := RX1) (T := TX1) (N := 13) hx hb htG inX1 hown hK hP 0 rfl rfl 3 (by decide) (htG _ wd_334) (fun _ h9 => h9) rfl dX1_frame_49 ?_
          refine lv_if_le (tgt := 62) hx hb dX1_frame_52 (by decide) (fun c_5 => ?_) (fun c_5 => ?_)
          · refine lv_iconst (v := 0) hx hb dX1_frame_62 (by decide) ?_
            refine va_put (D := (dC, dI)) (ci := 1) (v := .int 0) (ty := .int) (C := RX1) (T := TX1) (N := 13) hx hb htG inX1 tyX1 tyX1_ok nmX1 hown hK hP hD hS 0 rfl rfl 8 (by decide) (htG _ wd_339) (fun _ h9 => h9) rfl (by decide +kernel) rfl rfl (Nat.le_of_ble_eq_true rfl) dX1_frame_63 (fun H locs hP hD hS => ?_)
            have hP : va_P (dC, dI) vwCl (mW mh0 mh1 mh2 mh3 mc1 mc2 mc3 mk1 mk2 mk3 0 mf1 mf2 mf3 mf4 mf5 mf6 mf7 0 mf9) H := hP
            have hD : va_D A (mW mh0 mh1 mh2 mh3 mc1 mc2 mc3 mk1 mk2 mk3 0 mf1 mf2 mf3 mf4 mf5 mf6 mf7 0 mf9) := hD
            refine lv_aload_n hx hb dX1_frame_66 rfl (lv_at hl 2 rfl) ?_
            refine lv_iload_n hx hb dX1_frame_67 rfl (lv_at hl 3 rfl) ?_
            refine va_put (D := (dC, dI)) (ci := 1) (v := .int p0) (ty := .int) (C := RX1) (T := TX1) (N := 13) hx hb htG inX1 tyX1 tyX1_ok nmX1 hown hK hP hD hS 0 rfl rfl 7 (by decide) (htG _ wd_338) (fun _ h9 => h9) rfl (by decide +kernel) rfl rfl (Nat.le_of_ble_eq_true rfl) dX1_frame_68 (fun H locs hP hD hS => ?_)
            have hP : va_P (dC, dI) vwCl (mW mh0 mh1 mh2 mh3 mc1 mc2 mc3 mk1 mk2 mk3 0 mf1 mf2 mf3 mf4 mf5 mf6 p0 0 mf9) H := hP
            have hD : va_D A (mW mh0 mh1 mh2 mh3 mc1 mc2 mc3 mk1 mk2 mk3 0 mf1 mf2 mf3 mf4 mf5 mf6 p0 0 mf9) := hD
            refine lv_aload_n hx hb dX1_frame_71 rfl (lv_at hl 2 rfl) ?_
            refine lv_aload_n hx hb dX1_frame_72 rfl (lv_at hl 2 rfl) ?_
            refine va_get (D := (dC, dI)) (ci := 1) (v := .int mf3) (C := RX1) (T := TX1) (N := 13) hx hb htG inX1 hown hK hP 0 rfl rfl 3 (by decide) (htG _ wd_334) (fun _ h9 => h9) rfl dX1_frame_73 ?_
            refine lv_if_le (tgt := 86) hx hb dX1_frame_76 (by decide) (fun c_6 => ?_) (fun c_6 => ?_)
            · refine lv_iload_n hx hb dX1_frame_86 rfl (lv_at hl 4 rfl) ?_
              refine va_put (D := (dC, dI)) (ci := 1) (v := .int p1) (ty := .int) (C := RX1) (T := TX1) (N := 13) hx hb htG inX1 tyX1 tyX1_ok nmX1 hown hK hP hD hS 0 rfl rfl 5 (by decide) (htG _ wd_336) (fun _ h9 => h9) rfl (by decide +kernel) rfl rfl (Nat.le_of_ble_eq_true rfl) dX1_frame_87 (fun H locs hP hD hS => ?_)
              have hP : va_P (dC, dI) vwCl (mW mh0 mh1 mh2 mh3 mc1 mc2 mc3 mk1 mk2 mk3 0 mf1 mf2 mf3 mf4 p1 mf6 p0 0 mf9) H := hP
              have hD : va_D A (mW mh0 mh1 mh2 mh3 mc1 mc2 mc3 mk1 mk2 mk3 0 mf1 mf2 mf3 mf4 p1 mf6 p0 0 mf9) := hD
              refine lv_aload_n hx hb dX1_frame_90 rfl (lv_at hl 2 rfl) ?_
              refine lv_iload_n hx hb dX1_frame_91 rfl (lv_at hl 5 rfl) ?_
              refine va_put (D := (dC, dI)) (ci := 1) (v := .int p2) (ty := .int) (C := RX1) (T := TX1) (N := 13) hx hb htG inX1 tyX1 tyX1_ok nmX1 hown hK hP hD hS 0 rfl rfl 6 (by decide) (htG _ wd_337) (fun _ h9 => h9) rfl (by decide +kernel) rfl rfl (Nat.le_of_ble_eq_true rfl) dX1_frame_92 (fun H locs hP hD hS => ?_)
              have hP : va_P (dC, dI) vwCl (mW mh0 mh1 mh2 mh3 mc1 mc2 mc3 mk1 mk2 mk3 0 mf1 mf2 mf3 mf4 p1 p2 p0 0 mf9) H := hP
              have hD : va_D A (mW mh0 mh1 mh2 mh3 mc1 mc2 mc3 mk1 mk2 mk3 0 mf1 mf2 mf3 mf4 p1 p2 p0 0 mf9) := hD
              refine lv_aload_n hx hb dX1_frame_95 rfl (lv_at hl 2 rfl) ?_
              refine vp_callSi (va_runV (As := []) (rest := []) ⟨hx, hb, hml, hown, htG⟩ (mX1_generalAt l dC dI mh0 mh1 mh2 mh3 mc1 mc2 mc3 mk1 mk2 mk3 0 mf1 mf2 mf3 mf4 p1 p2 p0 0 mf9) (cwV 0 htG (wG_V wd_446 wd_448 wd_19 wd_23 wd_449) rfl rfl rfl (by decide +kernel) ⟨Nat.le_of_ble_eq_true rfl, Nat.le_of_ble_eq_true rfl⟩) ⟨fun a U g mk q => by obtain ⟨q0, qP, qK⟩ := q; exact ⟨q0, qP, va_K.moved (u := U) (U := U.calling g mk a) (Vm.Alike.refl U.vm) qK⟩, va_recv hK hP (ci := 1) (q0 := 0) rfl rfl, fun U hU hW => ⟨rfl, by rw [hU]; exact hP, va_K.moved hW.alike hK⟩⟩ rfl rfl hl.1 rfl (lv_room (Nat.le_of_ble_eq_true rfl)) dX1_frame_96 ⟨Nat.le_of_ble_eq_true rfl, Nat.le_of_ble_eq_true rfl⟩).run (fun r_4 er_4 => ?_)
              subst er_4
              refine lv_aload_n hx hb dX1_frame_99 rfl (lv_at hl 2 rfl) ?_
              refine va_get (D := (dC, dI)) (ci := 1) (v := .int p1) (C := RX1) (T := TX1) (N := 13) hx hb htG inX1 hown hK hP 0 rfl rfl 5 (by decide) (htG _ wd_336) (fun _ h9 => h9) rfl dX1_frame_100 ?_
              refine lv_bipush (v := 32) hx hb dX1_frame_103 (by decide) ?_
              refine lv_iconst (v := 4) hx hb dX1_frame_105 (by decide) ?_
              refine vp_callSi (va_runS (As := [.int p1, .int 32, .int 4]) (rest := [.int (fX1_generalAt p2 p0 0)]) ⟨hx, hb, hml, hown, htG⟩ (mX1_saved l p1 32 4) (va_cwS 3 htG (wG_S wd_454 wd_455 wd_23 wd_456) rfl rfl rfl (by decide +kernel) ⟨Nat.le_of_ble_eq_true rfl, Nat.le_of_ble_eq_true rfl⟩) ⟨fun _ _ _ _ q => q, fun U hU hW => ⟨rfl, trivial⟩⟩ rfl rfl hl.1 rfl (lv_room (Nat.le_of_ble_eq_true rfl)) dX1_frame_106 ⟨Nat.le_of_ble_eq_true rfl, Nat.le_of_ble_eq_true rfl⟩).run (fun r_5 er_5 => ?_)
              subst er_5
              refine lv_iadd hx hb dX1_frame_109 ?_
              refine lv_bipush (v := 8) hx hb dX1_frame_110 (by decide) ?_
              refine vp_callSi (va_runS (As := [.int ((fX1_generalAt p2 p0 0) + (fX1_saved p1 32 4)), .int 8]) (rest := []) ⟨hx, hb, hml, hown, htG⟩ (mX1_filled l ((fX1_generalAt p2 p0 0) + (fX1_saved p1 32 4)) 8 (by decide)) (va_cwS 2 htG (wG_S wd_399 wd_400 wd_23 wd_401) rfl rfl rfl (by decide +kernel) ⟨Nat.le_of_ble_eq_true rfl, Nat.le_of_ble_eq_true rfl⟩) ⟨fun _ _ _ _ q => q, fun U hU hW => ⟨rfl, trivial⟩⟩ rfl rfl hl.1 rfl (lv_room (Nat.le_of_ble_eq_true rfl)) dX1_frame_112 ⟨Nat.le_of_ble_eq_true rfl, Nat.le_of_ble_eq_true rfl⟩).run (fun r_6 er_6 => ?_)
              subst er_6
              exact W.iret (v := (fX1_filled ((fX1_generalAt p2 p0 0) + (fX1_saved p1 32 4)) 8)) hx hb hr (fun t ht hW => ⟨⟨(fX1_filled ((fX1_generalAt p2 p0 0) + (fX1_saved p1 32 4)) 8), (mk1, mk2, mk3, 0, mf1, mf2, mf3, mf4, p1, p2, p0, 0, mf9), rfl, (by rw [fX1_frame, if_neg c_1, if_neg c_2, if_pos c_3, if_pos c_4, if_pos c_5]), by rw [ht]; exact hP, va_K.moved hW.alike hK, hD⟩, hS.F ht⟩) hS.2.2 dX1_frame_115
            · exact absurd c_5 c_6
          · refine lv_aload_n hx hb dX1_frame_55 rfl (lv_at hl 2 rfl) ?_
            refine va_get (D := (dC, dI)) (ci := 1) (v := .int mf4) (C := RX1) (T := TX1) (N := 13) hx hb htG inX1 hown hK hP 0 rfl rfl 4 (by decide) (htG _ wd_335) (fun _ h9 => h9) rfl dX1_frame_56 ?_
            refine lv_goto (tgt := 63) hx hb dX1_frame_59 (by decide) ?_
            refine va_put (D := (dC, dI)) (ci := 1) (v := .int mf4) (ty := .int) (C := RX1) (T := TX1) (N := 13) hx hb htG inX1 tyX1 tyX1_ok nmX1 hown hK hP hD hS 0 rfl rfl 8 (by decide) (htG _ wd_339) (fun _ h9 => h9) rfl (by decide +kernel) rfl rfl (Nat.le_of_ble_eq_true rfl) dX1_frame_63 (fun H locs hP hD hS => ?_)
            have hP : va_P (dC, dI) vwCl (mW mh0 mh1 mh2 mh3 mc1 mc2 mc3 mk1 mk2 mk3 0 mf1 mf2 mf3 mf4 mf5 mf6 mf7 mf4 mf9) H := hP
            have hD : va_D A (mW mh0 mh1 mh2 mh3 mc1 mc2 mc3 mk1 mk2 mk3 0 mf1 mf2 mf3 mf4 mf5 mf6 mf7 mf4 mf9) := hD
            refine lv_aload_n hx hb dX1_frame_66 rfl (lv_at hl 2 rfl) ?_
            refine lv_iload_n hx hb dX1_frame_67 rfl (lv_at hl 3 rfl) ?_
            refine va_put (D := (dC, dI)) (ci := 1) (v := .int p0) (ty := .int) (C := RX1) (T := TX1) (N := 13) hx hb htG inX1 tyX1 tyX1_ok nmX1 hown hK hP hD hS 0 rfl rfl 7 (by decide) (htG _ wd_338) (fun _ h9 => h9) rfl (by decide +kernel) rfl rfl (Nat.le_of_ble_eq_true rfl) dX1_frame_68 (fun H locs hP hD hS => ?_)
            have hP : va_P (dC, dI) vwCl (mW mh0 mh1 mh2 mh3 mc1 mc2 mc3 mk1 mk2 mk3 0 mf1 mf2 mf3 mf4 mf5 mf6 p0 mf4 mf9) H := hP
            have hD : va_D A (mW mh0 mh1 mh2 mh3 mc1 mc2 mc3 mk1 mk2 mk3 0 mf1 mf2 mf3 mf4 mf5 mf6 p0 mf4 mf9) := hD
            refine lv_aload_n hx hb dX1_frame_71 rfl (lv_at hl 2 rfl) ?_
            refine lv_aload_n hx hb dX1_frame_72 rfl (lv_at hl 2 rfl) ?_
            refine va_get (D := (dC, dI)) (ci := 1) (v := .int mf3) (C := RX1) (T := TX1) (N := 13) hx hb htG inX1 hown hK hP 0 rfl rfl 3 (by decide) (htG _ wd_334) (fun _ h9 => h9) rfl dX1_frame_73 ?_
            refine lv_if_le (tgt := 86) hx hb dX1_frame_76 (by decide) (fun c_7 => ?_) (fun c_7 => ?_)
            · exact absurd c_7 c_5
            · refine lv_iload_n hx hb dX1_frame_79 rfl (lv_at hl 4 rfl) ?_
              refine lv_ldc (v := (-2147483648)) hx hb hown (htG _ wd_445) dX1_frame_80 ?_
              refine lv_ior hx hb dX1_frame_82 ?_
              refine lv_goto (tgt := 87) hx hb dX1_frame_83 (by decide) ?_
              refine va_put (D := (dC, dI)) (ci := 1) (v := .int (p1 ||| (-2147483648))) (ty := .int) (C := RX1) (T := TX1) (N := 13) hx hb htG inX1 tyX1 tyX1_ok nmX1 hown hK hP hD hS 0 rfl rfl 5 (by decide) (htG _ wd_336) (fun _ h9 => h9) rfl (by decide +kernel) rfl rfl (Nat.le_of_ble_eq_true rfl) dX1_frame_87 (fun H locs hP hD hS => ?_)
              have hP : va_P (dC, dI) vwCl (mW mh0 mh1 mh2 mh3 mc1 mc2 mc3 mk1 mk2 mk3 0 mf1 mf2 mf3 mf4 (p1 ||| (-2147483648)) mf6 p0 mf4 mf9) H := hP
              have hD : va_D A (mW mh0 mh1 mh2 mh3 mc1 mc2 mc3 mk1 mk2 mk3 0 mf1 mf2 mf3 mf4 (p1 ||| (-2147483648)) mf6 p0 mf4 mf9) := hD
              refine lv_aload_n hx hb dX1_frame_90 rfl (lv_at hl 2 rfl) ?_
              refine lv_iload_n hx hb dX1_frame_91 rfl (lv_at hl 5 rfl) ?_
              refine va_put (D := (dC, dI)) (ci := 1) (v := .int p2) (ty := .int) (C := RX1) (T := TX1) (N := 13) hx hb htG inX1 tyX1 tyX1_ok nmX1 hown hK hP hD hS 0 rfl rfl 6 (by decide) (htG _ wd_337) (fun _ h9 => h9) rfl (by decide +kernel) rfl rfl (Nat.le_of_ble_eq_true rfl) dX1_frame_92 (fun H locs hP hD hS => ?_)
              have hP : va_P (dC, dI) vwCl (mW mh0 mh1 mh2 mh3 mc1 mc2 mc3 mk1 mk2 mk3 0 mf1 mf2 mf3 mf4 (p1 ||| (-2147483648)) p2 p0 mf4 mf9) H := hP
              have hD : va_D A (mW mh0 mh1 mh2 mh3 mc1 mc2 mc3 mk1 mk2 mk3 0 mf1 mf2 mf3 mf4 (p1 ||| (-2147483648)) p2 p0 mf4 mf9) := hD
              refine lv_aload_n hx hb dX1_frame_95 rfl (lv_at hl 2 rfl) ?_
              refine vp_callSi (va_runV (As := []) (rest := []) ⟨hx, hb, hml, hown, htG⟩ (mX1_generalAt l dC dI mh0 mh1 mh2 mh3 mc1 mc2 mc3 mk1 mk2 mk3 0 mf1 mf2 mf3 mf4 (p1 ||| (-2147483648)) p2 p0 mf4 mf9) (cwV 0 htG (wG_V wd_446 wd_448 wd_19 wd_23 wd_449) rfl rfl rfl (by decide +kernel) ⟨Nat.le_of_ble_eq_true rfl, Nat.le_of_ble_eq_true rfl⟩) ⟨fun a U g mk q => by obtain ⟨q0, qP, qK⟩ := q; exact ⟨q0, qP, va_K.moved (u := U) (U := U.calling g mk a) (Vm.Alike.refl U.vm) qK⟩, va_recv hK hP (ci := 1) (q0 := 0) rfl rfl, fun U hU hW => ⟨rfl, by rw [hU]; exact hP, va_K.moved hW.alike hK⟩⟩ rfl rfl hl.1 rfl (lv_room (Nat.le_of_ble_eq_true rfl)) dX1_frame_96 ⟨Nat.le_of_ble_eq_true rfl, Nat.le_of_ble_eq_true rfl⟩).run (fun r_7 er_7 => ?_)
              subst er_7
              refine lv_aload_n hx hb dX1_frame_99 rfl (lv_at hl 2 rfl) ?_
              refine va_get (D := (dC, dI)) (ci := 1) (v := .int (p1 ||| (-2147483648))) (C := RX1) (T := TX1) (N := 13) hx hb htG inX1 hown hK hP 0 rfl rfl 5 (by decide) (htG _ wd_336) (fun _ h9 => h9) rfl dX1_frame_100 ?_
              refine lv_bipush (v := 32) hx hb dX1_frame_103 (by decide) ?_
              refine lv_iconst (v := 4) hx hb dX1_frame_105 (by decide) ?_
              refine vp_callSi (va_runS (As := [.int (p1 ||| (-2147483648)), .int 32, .int 4]) (rest := [.int (fX1_generalAt p2 p0 mf4)]) ⟨hx, hb, hml, hown, htG⟩ (mX1_saved l (p1 ||| (-2147483648)) 32 4) (va_cwS 3 htG (wG_S wd_454 wd_455 wd_23 wd_456) rfl rfl rfl (by decide +kernel) ⟨Nat.le_of_ble_eq_true rfl, Nat.le_of_ble_eq_true rfl⟩) ⟨fun _ _ _ _ q => q, fun U hU hW => ⟨rfl, trivial⟩⟩ rfl rfl hl.1 rfl (lv_room (Nat.le_of_ble_eq_true rfl)) dX1_frame_106 ⟨Nat.le_of_ble_eq_true rfl, Nat.le_of_ble_eq_true rfl⟩).run (fun r_8 er_8 => ?_)
              subst er_8
              refine lv_iadd hx hb dX1_frame_109 ?_
              refine lv_bipush (v := 8) hx hb dX1_frame_110 (by decide) ?_
              refine vp_callSi (va_runS (As := [.int ((fX1_generalAt p2 p0 mf4) + (fX1_saved (p1 ||| (-2147483648)) 32 4)), .int 8]) (rest := []) ⟨hx, hb, hml, hown, htG⟩ (mX1_filled l ((fX1_generalAt p2 p0 mf4) + (fX1_saved (p1 ||| (-2147483648)) 32 4)) 8 (by decide)) (va_cwS 2 htG (wG_S wd_399 wd_400 wd_23 wd_401) rfl rfl rfl (by decide +kernel) ⟨Nat.le_of_ble_eq_true rfl, Nat.le_of_ble_eq_true rfl⟩) ⟨fun _ _ _ _ q => q, fun U hU hW => ⟨rfl, trivial⟩⟩ rfl rfl hl.1 rfl (lv_room (Nat.le_of_ble_eq_true rfl)) dX1_frame_112 ⟨Nat.le_of_ble_eq_true rfl, Nat.le_of_ble_eq_true rfl⟩).run (fun r_9 er_9 => ?_)
              subst er_9
              exact W.iret (v := (fX1_filled ((fX1_generalAt p2 p0 mf4) + (fX1_saved (p1 ||| (-2147483648)) 32 4)) 8)) hx hb hr (fun t ht hW => ⟨⟨(fX1_filled ((fX1_generalAt p2 p0 mf4) + (fX1_saved (p1 ||| (-2147483648)) 32 4)) 8), (mk1, mk2, mk3, 0, mf1, mf2, mf3, mf4, (p1 ||| (-2147483648)), p2, p0, mf4, mf9), rfl, (by rw [fX1_frame, if_neg c_1, if_neg c_2, if_pos c_3, if_pos c_4, if_neg c_5]), by rw [ht]; exact hP, va_K.moved hW.alike hK, hD⟩, hS.F ht⟩) hS.2.2 dX1_frame_115
        · refine lv_aload_n hx hb dX1_frame_41 rfl (lv_at hl 2 rfl) ?_
          refine lv_iconst (v := 1) hx hb dX1_frame_42 (by decide) ?_
          have hFc := va_free (wc := (mW mh0 mh1 mh2 mh3 mc1 mc2 mc3 mk1 mk2 mk3 0 mf1 mf2 mf3 mf4 mf5 mf6 mf7 mf8 mf9)) hD hS hA [0, 1, 2, 3] rfl
          refine va_calli (va_runV (As := [.int 1]) (rest := []) ⟨hx, hb, hml, hown, htG⟩ (mX1_fail l dC dI mh0 mh1 mh2 mh3 H.size mc1 mc2 mc3 mk1 mk2 mk3 0 mf1 mf2 mf3 mf4 mf5 mf6 mf7 mf8 mf9 1) (cwV 1 htG (wG_V wd_387 wd_389 wd_11 wd_23 wd_390) rfl rfl rfl (by decide +kernel) ⟨Nat.le_of_ble_eq_true rfl, Nat.le_of_ble_eq_true rfl⟩) ⟨fun a U g mk q => by obtain ⟨q0, q1, qP, qK, qD⟩ := q; exact ⟨q0, q1, qP, va_K.moved (u := U) (U := U.calling g mk a) (Vm.Alike.refl U.vm) qK, qD⟩, va_recv hK hP (ci := 1) (q0 := 0) rfl rfl, fun U hU hW => ⟨rfl, by rw [hU], by rw [hU]; exact hP, va_K.moved hW.alike hK, hD.weaken (fun _ _ _ _ => trivial)⟩⟩ rfl rfl hl.1 rfl (lv_room (Nat.le_of_ble_eq_true rfl)) dX1_frame_43 ⟨Nat.le_of_ble_eq_true rfl, Nat.le_of_ble_eq_true rfl⟩) hS (fun q _ h => hFc q h) hFc (fun r_10 u t H1 locs ht hvm hw hB hz1 hk1 hS => ?_)
          rw [fX1_fail] at hw
          cases hw
          obtain ⟨hP1, hK1, hD1⟩ := hB
          rw [ht] at hP1
          obtain ⟨hP, hD⟩ := va_join (wr := []) (w1 := (mW mh0 mh1 mh2 mh3 mc1 mc2 mc3 mk1 mk2 mk3 1 mf1 mf2 mf3 mf4 mf5 mf6 mf7 mf8 mf9)) hP hD [0, 1, 2, 3] [] rfl rfl (by decide) (by decide) hk1 hFc hP1 hD1
          generalize H1 = H at hP hS ⊢
          have hP : va_P (dC, dI) vwCl (mW mh0 mh1 mh2 mh3 mc1 mc2 mc3 mk1 mk2 mk3 1 mf1 mf2 mf3 mf4 mf5 mf6 mf7 mf8 mf9) H := hP
          have hD : va_D A (mW mh0 mh1 mh2 mh3 mc1 mc2 mc3 mk1 mk2 mk3 1 mf1 mf2 mf3 mf4 mf5 mf6 mf7 mf8 mf9) := hD
          exact W.iret (v := 0) hx hb hr (fun t ht hW => ⟨⟨0, (mk1, mk2, mk3, 1, mf1, mf2, mf3, mf4, mf5, mf6, mf7, mf8, mf9), rfl, (by rw [fX1_frame, if_neg c_1, if_neg c_2, if_pos c_3, if_neg c_4]), by rw [ht]; exact hP, va_K.moved hW.alike hK, hD⟩, hS.F ht⟩) hS.2.2 dX1_frame_46

def fX1_add (mk1 mk2 mk3 : Nat → Int32) (mf0 mf1 mf2 mf3 mf4 mf5 mf6 mf7 mf8 mf9 : Int32) (p0 p1 p2 : Int32) : Int32 × Int32 × mWS :=
  if (fX1_isGood p0 3 p1 p2) = 0 then (0, 0, (mk1, mk2, mk3, 1, mf1, mf2, mf3, mf4, mf5, mf6, mf7, mf8, mf9))
  else if mf2 = 60 then (0, 0, (mk1, mk2, mk3, 2, mf1, mf2, mf3, mf4, mf5, mf6, mf7, mf8, mf9))
    else if ((fX1_home (upd mk1 (mf2 : Int32).toNatClampNeg p0) (upd mk2 (mf2 : Int32).toNatClampNeg p1) (upd mk3 (mf2 : Int32).toNatClampNeg p2) mf1 (mf2 + 1) ((mf2 + 1) - 1)) + (fX1_filled (fX1_bytes (upd mk1 (mf2 : Int32).toNatClampNeg p0) (upd mk2 (mf2 : Int32).toNatClampNeg p1) ((mf2 + 1) - 1)) 4)) ≤ 1000000 then (0, (fX1_home (upd mk1 (mf2 : Int32).toNatClampNeg p0) (upd mk2 (mf2 : Int32).toNatClampNeg p1) (upd mk3 (mf2 : Int32).toNatClampNeg p2) mf1 (mf2 + 1) ((mf2 + 1) - 1)), ((upd mk1 (mf2 : Int32).toNatClampNeg p0), (upd mk2 (mf2 : Int32).toNatClampNeg p1), (upd mk3 (mf2 : Int32).toNatClampNeg p2), 0, mf1, (mf2 + 1), mf3, mf4, mf5, mf6, mf7, mf8, mf9))
      else (0, 0, ((upd mk1 (mf2 : Int32).toNatClampNeg p0), (upd mk2 (mf2 : Int32).toNatClampNeg p1), (upd mk3 (mf2 : Int32).toNatClampNeg p2), 2, mf1, ((mf2 + 1) - 1), mf3, mf4, mf5, mf6, mf7, mf8, mf9))

abbrev wsX1_add : List Cond := .code yX1_add cX1_add 5 (some .int) :: wG
set_option maxHeartbeats 4000000 in
set_option maxRecDepth 100000 in
theorem mX1_add (l : Launch) (dC : Nat → ClassId) (dI : Nat → Nat → Nat) (mh0 mh1 mh2 mh3 : Nat) (sz : Nat) (mc1 mc2 mc3 : ClassId) (mk1 mk2 mk3 : Nat → Int32) (mf0 mf1 mf2 mf3 mf4 mf5 mf6 mf7 mf8 mf9 : Int32) (p0 p1 p2 : Int32) (hN : mf2.toNatClampNeg ≤ 60) (h0 : ¬ mf2 < 0) : Met l yX1_add wsX1_add ({ frames := 2, cells := 0, slots := 0, locals := 44 }) (va_Pc [.ref mh0, .int p0, .int p1, .int p2] (fun U => U.heap.size = sz ∧ va_P (dC, dI) vwCl (mW mh0 mh1 mh2 mh3 mc1 mc2 mc3 mk1 mk2 mk3 mf0 mf1 mf2 mf3 mf4 mf5 mf6 mf7 mf8 mf9) U.heap ∧ va_K (dC, dI) vwCl [(mc1, .int), (mc2, .int), (mc3, .int)] U ∧ va_D (fun _ => True) (mW mh0 mh1 mh2 mh3 mc1 mc2 mc3 mk1 mk2 mk3 mf0 mf1 mf2 mf3 mf4 mf5 mf6 mf7 mf8 mf9))) (va_Qi (fun r u => (0, r, u) = fX1_add mk1 mk2 mk3 mf0 mf1 mf2 mf3 mf4 mf5 mf6 mf7 mf8 mf9 p0 p1 p2) (mWB dC dI (va_A (mW mh0 mh1 mh2 mh3 mc1 mc2 mc3 mk1 mk2 mk3 mf0 mf1 mf2 mf3 mf4 mf5 mf6 mf7 mf8 mf9) sz) mh0 mh1 mh2 mh3 mc1 mc2 mc3) (va_A (mW mh0 mh1 mh2 mh3 mc1 mc2 mc3 mk1 mk2 mk3 mf0 mf1 mf2 mf3 mf4 mf5 mf6 mf7 mf8 mf9) sz)) 0 0 (va_A (mW mh0 mh1 mh2 mh3 mc1 mc2 mc3 mk1 mk2 mk3 mf0 mf1 mf2 mf3 mf4 mf5 mf6 mf7 mf8 mf9) sz) := by
  refine Met.ofW (cc := cX1_add) (maxL := 5) (ret := (some .int)) (by decide) rfl ?_
  intro p e s m args below meth c s₁ B hml hv
  obtain ⟨rfl, hsz, hP, hK, hD0⟩ := hv
  have hx := B.exec
  have hb := B.bytes
  have hr := B.returns
  have hts := atoms_spec (ws := wsX1_add) B.pre
  have htG := fun (w : Cond) (h : w ∈ wG) => hts w (List.mem_cons_of_mem _ h)
  have hown : s.vm.findClass RX1 = some m.cls := findClass_of_methodNamed B.named
  have hlocks := B.notSynchronized
  subst hsz
  have hD := hD0.self (sz := s.heap.size)
  generalize hAe : va_A (mW mh0 mh1 mh2 mh3 mc1 mc2 mc3 mk1 mk2 mk3 mf0 mf1 mf2 mf3 mf4 mf5 mf6 mf7 mf8 mf9) s.heap.size = A at hD ⊢
  have hA : ∀ q : Nat, s.heap.size ≤ q → A q := fun q h => by rw [← hAe]; exact Or.inr h
  have hS : va_S A s.heap s.heap [] := va_S.rf
  have hP : va_P (dC, dI) vwCl (mW mh0 mh1 mh2 mh3 mc1 mc2 mc3 mk1 mk2 mk3 mf0 mf1 mf2 mf3 mf4 mf5 mf6 mf7 mf8 mf9) s.heap := hP
  have hl := lv_entry ([.ref mh0, .int p0, .int p1, .int p2]) (n := 5) (Nat.le_of_ble_eq_true rfl)
  rw [lg_entry_eq]
  generalize (lg_sl ([.ref mh0, .int p0, .int p1, .int p2]) ++ List.replicate (5 - (lg_sl ([.ref mh0, .int p0, .int p1, .int p2])).length) Slot.unset).toArray = ls at hl ⊢
  have hl : lv_has ls 5 [(0, .ref mh0), (1, .int p0), (2, .int p1), (3, .int p2)] := hl
  refine lv_aload_n hx hb dX1_add_0 rfl (lv_at hl 0 rfl) ?_
  refine lv_iconst (v := 0) hx hb dX1_add_1 (by decide) ?_
  refine va_put (D := (dC, dI)) (ci := 1) (v := .int 0) (ty := .int) (C := RX1) (T := TX1) (N := 13) hx hb htG inX1 tyX1 tyX1_ok nmX1 hown hK hP hD hS 0 rfl rfl 0 (by decide) (htG _ wd_331) (fun _ h9 => h9) rfl (by decide +kernel) rfl rfl (Nat.le_of_ble_eq_true rfl) dX1_add_2 (fun H locs hP hD hS => ?_)
  have hP : va_P (dC, dI) vwCl (mW mh0 mh1 mh2 mh3 mc1 mc2 mc3 mk1 mk2 mk3 0 mf1 mf2 mf3 mf4 mf5 mf6 mf7 mf8 mf9) H := hP
  have hD : va_D A (mW mh0 mh1 mh2 mh3 mc1 mc2 mc3 mk1 mk2 mk3 0 mf1 mf2 mf3 mf4 mf5 mf6 mf7 mf8 mf9) := hD
  refine lv_iload_n hx hb dX1_add_5 rfl (lv_at hl 1 rfl) ?_
  refine lv_iconst (v := 3) hx hb dX1_add_6 (by decide) ?_
  refine lv_iload_n hx hb dX1_add_7 rfl (lv_at hl 2 rfl) ?_
  refine lv_iload_n hx hb dX1_add_8 rfl (lv_at hl 3 rfl) ?_
  refine vp_callSi (va_runS (As := [.int p0, .int 3, .int p1, .int p2]) (rest := []) ⟨hx, hb, hml, hown, htG⟩ (mX1_isGood l p0 3 p1 p2) (va_cwS 4 htG (wG_S wd_379 wd_380 wd_23 wd_381) rfl rfl rfl (by decide +kernel) ⟨Nat.le_of_ble_eq_true rfl, Nat.le_of_ble_eq_true rfl⟩) ⟨fun _ _ _ _ q => q, fun U hU hW => ⟨rfl, trivial⟩⟩ rfl rfl hl.1 rfl (lv_room (Nat.le_of_ble_eq_true rfl)) dX1_add_9 ⟨Nat.le_of_ble_eq_true rfl, Nat.le_of_ble_eq_true rfl⟩).run (fun r_1 er_1 => ?_)
  subst er_1
  refine lv_if_ne (tgt := 21) hx hb dX1_add_12 (by decide) (fun c_1 => ?_) (fun c_1 => ?_)
  · refine lv_aload_n hx hb dX1_add_21 rfl (lv_at hl 0 rfl) ?_
    refine va_get (D := (dC, dI)) (ci := 1) (v := .int mf2) (C := RX1) (T := TX1) (N := 13) hx hb htG inX1 hown hK hP 0 rfl rfl 2 (by decide) (htG _ wd_333) (fun _ h9 => h9) rfl dX1_add_22 ?_
    refine lv_bipush (v := 60) hx hb dX1_add_25 (by decide) ?_
    refine lv_icmp_ne (tgt := 36) hx hb dX1_add_27 (by decide) (fun c_2 => ?_) (fun c_2 => ?_)
    · refine lv_aload_n hx hb dX1_add_36 rfl (lv_at hl 0 rfl) ?_
      refine va_get (D := (dC, dI)) (ci := 1) (v := .ref mh1) (C := RX1) (T := TX1) (N := 13) hx hb htG inX1 hown hK hP 0 rfl rfl 10 (by decide) (htG _ wd_341) (fun _ h9 => h9) rfl dX1_add_37 ?_
      refine lv_aload_n hx hb dX1_add_40 rfl (lv_at hl 0 rfl) ?_
      refine va_get (D := (dC, dI)) (ci := 1) (v := .int mf2) (C := RX1) (T := TX1) (N := 13) hx hb htG inX1 hown hK hP 0 rfl rfl 2 (by decide) (htG _ wd_333) (fun _ h9 => h9) rfl dX1_add_41 ?_
      refine lv_iload_n hx hb dX1_add_44 rfl (lv_at hl 1 rfl) ?_
      refine va_iast hx hb hK hP hD hS 1 0 rfl rfl (add_in h0 hN c_2) dX1_add_45 (fun H locs hP hD hS => ?_)
      have hP : va_P (dC, dI) vwCl (mW mh0 mh1 mh2 mh3 mc1 mc2 mc3 (upd mk1 (mf2 : Int32).toNatClampNeg p0) mk2 mk3 0 mf1 mf2 mf3 mf4 mf5 mf6 mf7 mf8 mf9) H := hP
      have hD : va_D A (mW mh0 mh1 mh2 mh3 mc1 mc2 mc3 (upd mk1 (mf2 : Int32).toNatClampNeg p0) mk2 mk3 0 mf1 mf2 mf3 mf4 mf5 mf6 mf7 mf8 mf9) := hD
      refine lv_aload_n hx hb dX1_add_46 rfl (lv_at hl 0 rfl) ?_
      refine va_get (D := (dC, dI)) (ci := 1) (v := .ref mh2) (C := RX1) (T := TX1) (N := 13) hx hb htG inX1 hown hK hP 0 rfl rfl 11 (by decide) (htG _ wd_342) (fun _ h9 => h9) rfl dX1_add_47 ?_
      refine lv_aload_n hx hb dX1_add_50 rfl (lv_at hl 0 rfl) ?_
      refine va_get (D := (dC, dI)) (ci := 1) (v := .int mf2) (C := RX1) (T := TX1) (N := 13) hx hb htG inX1 hown hK hP 0 rfl rfl 2 (by decide) (htG _ wd_333) (fun _ h9 => h9) rfl dX1_add_51 ?_
      refine lv_iload_n hx hb dX1_add_54 rfl (lv_at hl 2 rfl) ?_
      refine va_iast hx hb hK hP hD hS 2 1 rfl rfl (add_in h0 hN c_2) dX1_add_55 (fun H locs hP hD hS => ?_)
      have hP : va_P (dC, dI) vwCl (mW mh0 mh1 mh2 mh3 mc1 mc2 mc3 (upd mk1 (mf2 : Int32).toNatClampNeg p0) (upd mk2 (mf2 : Int32).toNatClampNeg p1) mk3 0 mf1 mf2 mf3 mf4 mf5 mf6 mf7 mf8 mf9) H := hP
      have hD : va_D A (mW mh0 mh1 mh2 mh3 mc1 mc2 mc3 (upd mk1 (mf2 : Int32).toNatClampNeg p0) (upd mk2 (mf2 : Int32).toNatClampNeg p1) mk3 0 mf1 mf2 mf3 mf4 mf5 mf6 mf7 mf8 mf9) := hD
      refine lv_aload_n hx hb dX1_add_56 rfl (lv_at hl 0 rfl) ?_
      refine va_get (D := (dC, dI)) (ci := 1) (v := .ref mh3) (C := RX1) (T := TX1) (N := 13) hx hb htG inX1 hown hK hP 0 rfl rfl 12 (by decide) (htG _ wd_343) (fun _ h9 => h9) rfl dX1_add_57 ?_
      refine lv_aload_n hx hb dX1_add_60 rfl (lv_at hl 0 rfl) ?_
      refine va_get (D := (dC, dI)) (ci := 1) (v := .int mf2) (C := RX1) (T := TX1) (N := 13) hx hb htG inX1 hown hK hP 0 rfl rfl 2 (by decide) (htG _ wd_333) (fun _ h9 => h9) rfl dX1_add_61 ?_
      refine lv_iload_n hx hb dX1_add_64 rfl (lv_at hl 3 rfl) ?_
      refine va_iast hx hb hK hP hD hS 3 2 rfl rfl (add_in h0 hN c_2) dX1_add_65 (fun H locs hP hD hS => ?_)
      have hP : va_P (dC, dI) vwCl (mW mh0 mh1 mh2 mh3 mc1 mc2 mc3 (upd mk1 (mf2 : Int32).toNatClampNeg p0) (upd mk2 (mf2 : Int32).toNatClampNeg p1) (upd mk3 (mf2 : Int32).toNatClampNeg p2) 0 mf1 mf2 mf3 mf4 mf5 mf6 mf7 mf8 mf9) H := hP
      have hD : va_D A (mW mh0 mh1 mh2 mh3 mc1 mc2 mc3 (upd mk1 (mf2 : Int32).toNatClampNeg p0) (upd mk2 (mf2 : Int32).toNatClampNeg p1) (upd mk3 (mf2 : Int32).toNatClampNeg p2) 0 mf1 mf2 mf3 mf4 mf5 mf6 mf7 mf8 mf9) := hD
      refine lv_aload_n hx hb dX1_add_66 rfl (lv_at hl 0 rfl) ?_
      refine lv_dup hx hb dX1_add_67 rfl ?_
      refine va_get (D := (dC, dI)) (ci := 1) (v := .int mf2) (C := RX1) (T := TX1) (N := 13) hx hb htG inX1 hown hK hP 0 rfl rfl 2 (by decide) (htG _ wd_333) (fun _ h9 => h9) rfl dX1_add_68 ?_
      refine lv_iconst (v := 1) hx hb dX1_add_71 (by decide) ?_
      refine lv_iadd hx hb dX1_add_72 ?_
      refine va_put (D := (dC, dI)) (ci := 1) (v := .int (mf2 + 1)) (ty := .int) (C := RX1) (T := TX1) (N := 13) hx hb htG inX1 tyX1 tyX1_ok nmX1 hown hK hP hD hS 0 rfl rfl 2 (by decide) (htG _ wd_333) (fun _ h9 => h9) rfl (by decide +kernel) rfl rfl (Nat.le_of_ble_eq_true rfl) dX1_add_73 (fun H locs hP hD hS => ?_)
      have hP : va_P (dC, dI) vwCl (mW mh0 mh1 mh2 mh3 mc1 mc2 mc3 (upd mk1 (mf2 : Int32).toNatClampNeg p0) (upd mk2 (mf2 : Int32).toNatClampNeg p1) (upd mk3 (mf2 : Int32).toNatClampNeg p2) 0 mf1 (mf2 + 1) mf3 mf4 mf5 mf6 mf7 mf8 mf9) H := hP
      have hD : va_D A (mW mh0 mh1 mh2 mh3 mc1 mc2 mc3 (upd mk1 (mf2 : Int32).toNatClampNeg p0) (upd mk2 (mf2 : Int32).toNatClampNeg p1) (upd mk3 (mf2 : Int32).toNatClampNeg p2) 0 mf1 (mf2 + 1) mf3 mf4 mf5 mf6 mf7 mf8 mf9) := hD
      refine lv_aload_n hx hb dX1_add_76 rfl (lv_at hl 0 rfl) ?_
      refine lv_aload_n hx hb dX1_add_77 rfl (lv_at hl 0 rfl) ?_
      refine va_get (D := (dC, dI)) (ci := 1) (v := .int (mf2 + 1)) (C := RX1) (T := TX1) (N := 13) hx hb htG inX1 hown hK hP 0 rfl rfl 2 (by decide) (htG _ wd_333) (fun _ h9 => h9) rfl dX1_add_78 ?_
      refine lv_iconst (v := 1) hx hb dX1_add_81 (by decide) ?_
      refine lv_isub hx hb dX1_add_82 ?_
      refine vp_callSi (va_runV (As := [.int ((mf2 + 1) - 1)]) (rest := []) ⟨hx, hb, hml, hown, htG⟩ (mX1_home l dC dI mh0 mh1 mh2 mh3 mc1 mc2 mc3 (upd mk1 (mf2 : Int32).toNatClampNeg p0) (upd mk2 (mf2 : Int32).toNatClampNeg p1) (upd mk3 (mf2 : Int32).toNatClampNeg p2) 0 mf1 (mf2 + 1) mf3 mf4 mf5 mf6 mf7 mf8 mf9 ((mf2 + 1) - 1) (by rw [inc_dec]; exact hN) (fun _ => by rw [inc_dec]; exact (add_in h0 hN c_2))) (cwV 1 htG (wG_V wd_391 wd_393 wd_12 wd_23 wd_394) rfl rfl rfl (by decide +kernel) ⟨Nat.le_of_ble_eq_true rfl, Nat.le_of_ble_eq_true rfl⟩) ⟨fun a U g mk q => by obtain ⟨q0, qP, qK⟩ := q; exact ⟨q0, qP, va_K.moved (u := U) (U := U.calling g mk a) (Vm.Alike.refl U.vm) qK⟩, va_recv hK hP (ci := 1) (q0 := 0) rfl rfl, fun U hU hW => ⟨rfl, by rw [hU]; exact hP, va_K.moved hW.alike hK⟩⟩ rfl rfl hl.1 rfl (lv_room (Nat.le_of_ble_eq_true rfl)) dX1_add_83 ⟨Nat.le_of_ble_eq_true rfl, Nat.le_of_ble_eq_true rfl⟩).run (fun r_2 er_2 => ?_)
      subst er_2
      refine lv_istore (lv' := [(4, .int (fX1_home (upd mk1 (mf2 : Int32).toNatClampNeg p0) (upd mk2 (mf2 : Int32).toNatClampNeg p1) (upd mk3 (mf2 : Int32).toNatClampNeg p2) mf1 (mf2 + 1) ((mf2 + 1) - 1))), (0, .ref mh0), (1, .int p0), (2, .int p1), (3, .int p2)]) hx hb dX1_add_86 hl (by decide) rfl (fun ls hl => ?_)
      refine lv_iload hx hb dX1_add_88 (lv_at hl 0 rfl) ?_
      refine lv_aload_n hx hb dX1_add_90 rfl (lv_at hl 1 rfl) ?_
      refine lv_aload_n hx hb dX1_add_91 rfl (lv_at hl 1 rfl) ?_
      refine va_get (D := (dC, dI)) (ci := 1) (v := .int (mf2 + 1)) (C := RX1) (T := TX1) (N := 13) hx hb htG inX1 hown hK hP 0 rfl rfl 2 (by decide) (htG _ wd_333) (fun _ h9 => h9) rfl dX1_add_92 ?_
      refine lv_iconst (v := 1) hx hb dX1_add_95 (by decide) ?_
      refine lv_isub hx hb dX1_add_96 ?_
      refine vp_callSi (va_runV (As := [.int ((mf2 + 1) - 1)]) (rest := [.int (fX1_home (upd mk1 (mf2 : Int32).toNatClampNeg p0) (upd mk2 (mf2 : Int32).toNatClampNeg p1) (upd mk3 (mf2 : Int32).toNatClampNeg p2) mf1 (mf2 + 1) ((mf2 + 1) - 1))]) ⟨hx, hb, hml, hown, htG⟩ (mX1_bytes l dC dI mh0 mh1 mh2 mh3 mc1 mc2 mc3 (upd mk1 (mf2 : Int32).toNatClampNeg p0) (upd mk2 (mf2 : Int32).toNatClampNeg p1) (upd mk3 (mf2 : Int32).toNatClampNeg p2) 0 mf1 (mf2 + 1) mf3 mf4 mf5 mf6 mf7 mf8 mf9 ((mf2 + 1) - 1) (by rw [inc_dec]; exact add_in h0 hN c_2)) (cwV 1 htG (wG_V wd_402 wd_404 wd_14 wd_23 wd_405) rfl rfl rfl (by decide +kernel) ⟨Nat.le_of_ble_eq_true rfl, Nat.le_of_ble_eq_true rfl⟩) ⟨fun a U g mk q => by obtain ⟨q0, qP, qK⟩ := q; exact ⟨q0, qP, va_K.moved (u := U) (U := U.calling g mk a) (Vm.Alike.refl U.vm) qK⟩, va_recv hK hP (ci := 1) (q0 := 0) rfl rfl, fun U hU hW => ⟨rfl, by rw [hU]; exact hP, va_K.moved hW.alike hK⟩⟩ rfl rfl hl.1 rfl (lv_room (Nat.le_of_ble_eq_true rfl)) dX1_add_97 ⟨Nat.le_of_ble_eq_true rfl, Nat.le_of_ble_eq_true rfl⟩).run (fun r_3 er_3 => ?_)
      subst er_3
      refine lv_iconst (v := 4) hx hb dX1_add_100 (by decide) ?_
      refine vp_callSi (va_runS (As := [.int (fX1_bytes (upd mk1 (mf2 : Int32).toNatClampNeg p0) (upd mk2 (mf2 : Int32).toNatClampNeg p1) ((mf2 + 1) - 1)), .int 4]) (rest := [.int (fX1_home (upd mk1 (mf2 : Int32).toNatClampNeg p0) (upd mk2 (mf2 : Int32).toNatClampNeg p1) (upd mk3 (mf2 : Int32).toNatClampNeg p2) mf1 (mf2 + 1) ((mf2 + 1) - 1))]) ⟨hx, hb, hml, hown, htG⟩ (mX1_filled l (fX1_bytes (upd mk1 (mf2 : Int32).toNatClampNeg p0) (upd mk2 (mf2 : Int32).toNatClampNeg p1) ((mf2 + 1) - 1)) 4 (by decide)) (va_cwS 2 htG (wG_S wd_399 wd_400 wd_23 wd_401) rfl rfl rfl (by decide +kernel) ⟨Nat.le_of_ble_eq_true rfl, Nat.le_of_ble_eq_true rfl⟩) ⟨fun _ _ _ _ q => q, fun U hU hW => ⟨rfl, trivial⟩⟩ rfl rfl hl.1 rfl (lv_room (Nat.le_of_ble_eq_true rfl)) dX1_add_101 ⟨Nat.le_of_ble_eq_true rfl, Nat.le_of_ble_eq_true rfl⟩).run (fun r_4 er_4 => ?_)
      subst er_4
      refine lv_iadd hx hb dX1_add_104 ?_
      refine lv_ldc (v := 1000000) hx hb hown (htG _ wd_406) dX1_add_105 ?_
      refine lv_icmp_le (tgt := 126) hx hb dX1_add_107 (by decide) (fun c_3 => ?_) (fun c_3 => ?_)
      · refine lv_iload hx hb dX1_add_126 (lv_at hl 0 rfl) ?_
        exact W.iret (v := (fX1_home (upd mk1 (mf2 : Int32).toNatClampNeg p0) (upd mk2 (mf2 : Int32).toNatClampNeg p1) (upd mk3 (mf2 : Int32).toNatClampNeg p2) mf1 (mf2 + 1) ((mf2 + 1) - 1))) hx hb hr (fun t ht hW => ⟨⟨(fX1_home (upd mk1 (mf2 : Int32).toNatClampNeg p0) (upd mk2 (mf2 : Int32).toNatClampNeg p1) (upd mk3 (mf2 : Int32).toNatClampNeg p2) mf1 (mf2 + 1) ((mf2 + 1) - 1)), ((upd mk1 (mf2 : Int32).toNatClampNeg p0), (upd mk2 (mf2 : Int32).toNatClampNeg p1), (upd mk3 (mf2 : Int32).toNatClampNeg p2), 0, mf1, (mf2 + 1), mf3, mf4, mf5, mf6, mf7, mf8, mf9), rfl, (by rw [fX1_add, if_neg c_1, if_neg c_2, if_pos c_3]), by rw [ht]; exact hP, va_K.moved hW.alike hK, hD⟩, hS.F ht⟩) hS.2.2 dX1_add_128
      · refine lv_aload_n hx hb dX1_add_110 rfl (lv_at hl 1 rfl) ?_
        refine lv_dup hx hb dX1_add_111 rfl ?_
        refine va_get (D := (dC, dI)) (ci := 1) (v := .int (mf2 + 1)) (C := RX1) (T := TX1) (N := 13) hx hb htG inX1 hown hK hP 0 rfl rfl 2 (by decide) (htG _ wd_333) (fun _ h9 => h9) rfl dX1_add_112 ?_
        refine lv_iconst (v := 1) hx hb dX1_add_115 (by decide) ?_
        refine lv_isub hx hb dX1_add_116 ?_
        refine va_put (D := (dC, dI)) (ci := 1) (v := .int ((mf2 + 1) - 1)) (ty := .int) (C := RX1) (T := TX1) (N := 13) hx hb htG inX1 tyX1 tyX1_ok nmX1 hown hK hP hD hS 0 rfl rfl 2 (by decide) (htG _ wd_333) (fun _ h9 => h9) rfl (by decide +kernel) rfl rfl (Nat.le_of_ble_eq_true rfl) dX1_add_117 (fun H locs hP hD hS => ?_)
        have hP : va_P (dC, dI) vwCl (mW mh0 mh1 mh2 mh3 mc1 mc2 mc3 (upd mk1 (mf2 : Int32).toNatClampNeg p0) (upd mk2 (mf2 : Int32).toNatClampNeg p1) (upd mk3 (mf2 : Int32).toNatClampNeg p2) 0 mf1 ((mf2 + 1) - 1) mf3 mf4 mf5 mf6 mf7 mf8 mf9) H := hP
        have hD : va_D A (mW mh0 mh1 mh2 mh3 mc1 mc2 mc3 (upd mk1 (mf2 : Int32).toNatClampNeg p0) (upd mk2 (mf2 : Int32).toNatClampNeg p1) (upd mk3 (mf2 : Int32).toNatClampNeg p2) 0 mf1 ((mf2 + 1) - 1) mf3 mf4 mf5 mf6 mf7 mf8 mf9) := hD
        refine lv_aload_n hx hb dX1_add_120 rfl (lv_at hl 1 rfl) ?_
        refine lv_iconst (v := 2) hx hb dX1_add_121 (by decide) ?_
        have hFc := va_free (wc := (mW mh0 mh1 mh2 mh3 mc1 mc2 mc3 (upd mk1 (mf2 : Int32).toNatClampNeg p0) (upd mk2 (mf2 : Int32).toNatClampNeg p1) (upd mk3 (mf2 : Int32).toNatClampNeg p2) 0 mf1 ((mf2 + 1) - 1) mf3 mf4 mf5 mf6 mf7 mf8 mf9)) hD hS hA [0, 1, 2, 3] rfl
        refine va_calli (va_runV (As := [.int 2]) (rest := []) ⟨hx, hb, hml, hown, htG⟩ (mX1_fail l dC dI mh0 mh1 mh2 mh3 H.size mc1 mc2 mc3 (upd mk1 (mf2 : Int32).toNatClampNeg p0) (upd mk2 (mf2 : Int32).toNatClampNeg p1) (upd mk3 (mf2 : Int32).toNatClampNeg p2) 0 mf1 ((mf2 + 1) - 1) mf3 mf4 mf5 mf6 mf7 mf8 mf9 2) (cwV 1 htG (wG_V wd_387 wd_389 wd_11 wd_23 wd_390) rfl rfl rfl (by decide +kernel) ⟨Nat.le_of_ble_eq_true rfl, Nat.le_of_ble_eq_true rfl⟩) ⟨fun a U g mk q => by obtain ⟨q0, q1, qP, qK, qD⟩ := q; exact ⟨q0, q1, qP, va_K.moved (u := U) (U := U.calling g mk a) (Vm.Alike.refl U.vm) qK, qD⟩, va_recv hK hP (ci := 1) (q0 := 0) rfl rfl, fun U hU hW => ⟨rfl, by rw [hU], by rw [hU]; exact hP, va_K.moved hW.alike hK, hD.weaken (fun _ _ _ _ => trivial)⟩⟩ rfl rfl hl.1 rfl (lv_room (Nat.le_of_ble_eq_true rfl)) dX1_add_122 ⟨Nat.le_of_ble_eq_true rfl, Nat.le_of_ble_eq_true rfl⟩) hS (fun q _ h => hFc q h) hFc (fun r_5 u t H1 locs ht hvm hw hB hz1 hk1 hS => ?_)
        rw [fX1_fail] at hw
        cases hw
        obtain ⟨hP1, hK1, hD1⟩ := hB
        rw [ht] at hP1
        obtain ⟨hP, hD⟩ := va_join (wr := []) (w1 := (mW mh0 mh1 mh2 mh3 mc1 mc2 mc3 (upd mk1 (mf2 : Int32).toNatClampNeg p0) (upd mk2 (mf2 : Int32).toNatClampNeg p1) (upd mk3 (mf2 : Int32).toNatClampNeg p2) 2 mf1 ((mf2 + 1) - 1) mf3 mf4 mf5 mf6 mf7 mf8 mf9)) hP hD [0, 1, 2, 3] [] rfl rfl (by decide) (by decide) hk1 hFc hP1 hD1
        generalize H1 = H at hP hS ⊢
        have hP : va_P (dC, dI) vwCl (mW mh0 mh1 mh2 mh3 mc1 mc2 mc3 (upd mk1 (mf2 : Int32).toNatClampNeg p0) (upd mk2 (mf2 : Int32).toNatClampNeg p1) (upd mk3 (mf2 : Int32).toNatClampNeg p2) 2 mf1 ((mf2 + 1) - 1) mf3 mf4 mf5 mf6 mf7 mf8 mf9) H := hP
        have hD : va_D A (mW mh0 mh1 mh2 mh3 mc1 mc2 mc3 (upd mk1 (mf2 : Int32).toNatClampNeg p0) (upd mk2 (mf2 : Int32).toNatClampNeg p1) (upd mk3 (mf2 : Int32).toNatClampNeg p2) 2 mf1 ((mf2 + 1) - 1) mf3 mf4 mf5 mf6 mf7 mf8 mf9) := hD
        exact W.iret (v := 0) hx hb hr (fun t ht hW => ⟨⟨0, ((upd mk1 (mf2 : Int32).toNatClampNeg p0), (upd mk2 (mf2 : Int32).toNatClampNeg p1), (upd mk3 (mf2 : Int32).toNatClampNeg p2), 2, mf1, ((mf2 + 1) - 1), mf3, mf4, mf5, mf6, mf7, mf8, mf9), rfl, (by rw [fX1_add, if_neg c_1, if_neg c_2, if_neg c_3]), by rw [ht]; exact hP, va_K.moved hW.alike hK, hD⟩, hS.F ht⟩) hS.2.2 dX1_add_125
    · refine lv_aload_n hx hb dX1_add_30 rfl (lv_at hl 0 rfl) ?_
      refine lv_iconst (v := 2) hx hb dX1_add_31 (by decide) ?_
      have hFc := va_free (wc := (mW mh0 mh1 mh2 mh3 mc1 mc2 mc3 mk1 mk2 mk3 0 mf1 mf2 mf3 mf4 mf5 mf6 mf7 mf8 mf9)) hD hS hA [0, 1, 2, 3] rfl
      refine va_calli (va_runV (As := [.int 2]) (rest := []) ⟨hx, hb, hml, hown, htG⟩ (mX1_fail l dC dI mh0 mh1 mh2 mh3 H.size mc1 mc2 mc3 mk1 mk2 mk3 0 mf1 mf2 mf3 mf4 mf5 mf6 mf7 mf8 mf9 2) (cwV 1 htG (wG_V wd_387 wd_389 wd_11 wd_23 wd_390) rfl rfl rfl (by decide +kernel) ⟨Nat.le_of_ble_eq_true rfl, Nat.le_of_ble_eq_true rfl⟩) ⟨fun a U g mk q => by obtain ⟨q0, q1, qP, qK, qD⟩ := q; exact ⟨q0, q1, qP, va_K.moved (u := U) (U := U.calling g mk a) (Vm.Alike.refl U.vm) qK, qD⟩, va_recv hK hP (ci := 1) (q0 := 0) rfl rfl, fun U hU hW => ⟨rfl, by rw [hU], by rw [hU]; exact hP, va_K.moved hW.alike hK, hD.weaken (fun _ _ _ _ => trivial)⟩⟩ rfl rfl hl.1 rfl (lv_room (Nat.le_of_ble_eq_true rfl)) dX1_add_32 ⟨Nat.le_of_ble_eq_true rfl, Nat.le_of_ble_eq_true rfl⟩) hS (fun q _ h => hFc q h) hFc (fun r_6 u t H1 locs ht hvm hw hB hz1 hk1 hS => ?_)
      rw [fX1_fail] at hw
      cases hw
      obtain ⟨hP1, hK1, hD1⟩ := hB
      rw [ht] at hP1
      obtain ⟨hP, hD⟩ := va_join (wr := []) (w1 := (mW mh0 mh1 mh2 mh3 mc1 mc2 mc3 mk1 mk2 mk3 2 mf1 mf2 mf3 mf4 mf5 mf6 mf7 mf8 mf9)) hP hD [0, 1, 2, 3] [] rfl rfl (by decide) (by decide) hk1 hFc hP1 hD1
      generalize H1 = H at hP hS ⊢
      have hP : va_P (dC, dI) vwCl (mW mh0 mh1 mh2 mh3 mc1 mc2 mc3 mk1 mk2 mk3 2 mf1 mf2 mf3 mf4 mf5 mf6 mf7 mf8 mf9) H := hP
      have hD : va_D A (mW mh0 mh1 mh2 mh3 mc1 mc2 mc3 mk1 mk2 mk3 2 mf1 mf2 mf3 mf4 mf5 mf6 mf7 mf8 mf9) := hD
      exact W.iret (v := 0) hx hb hr (fun t ht hW => ⟨⟨0, (mk1, mk2, mk3, 2, mf1, mf2, mf3, mf4, mf5, mf6, mf7, mf8, mf9), rfl, (by rw [fX1_add, if_neg c_1, if_pos c_2]), by rw [ht]; exact hP, va_K.moved hW.alike hK, hD⟩, hS.F ht⟩) hS.2.2 dX1_add_35
  · refine lv_aload_n hx hb dX1_add_15 rfl (lv_at hl 0 rfl) ?_
    refine lv_iconst (v := 1) hx hb dX1_add_16 (by decide) ?_
    have hFc := va_free (wc := (mW mh0 mh1 mh2 mh3 mc1 mc2 mc3 mk1 mk2 mk3 0 mf1 mf2 mf3 mf4 mf5 mf6 mf7 mf8 mf9)) hD hS hA [0, 1, 2, 3] rfl
    refine va_calli (va_runV (As := [.int 1]) (rest := []) ⟨hx, hb, hml, hown, htG⟩ (mX1_fail l dC dI mh0 mh1 mh2 mh3 H.size mc1 mc2 mc3 mk1 mk2 mk3 0 mf1 mf2 mf3 mf4 mf5 mf6 mf7 mf8 mf9 1) (cwV 1 htG (wG_V wd_387 wd_389 wd_11 wd_23 wd_390) rfl rfl rfl (by decide +kernel) ⟨Nat.le_of_ble_eq_true rfl, Nat.le_of_ble_eq_true rfl⟩) ⟨fun a U g mk q => by obtain ⟨q0, q1, qP, qK, qD⟩ := q; exact ⟨q0, q1, qP, va_K.moved (u := U) (U := U.calling g mk a) (Vm.Alike.refl U.vm) qK, qD⟩, va_recv hK hP (ci := 1) (q0 := 0) rfl rfl, fun U hU hW => ⟨rfl, by rw [hU], by rw [hU]; exact hP, va_K.moved hW.alike hK, hD.weaken (fun _ _ _ _ => trivial)⟩⟩ rfl rfl hl.1 rfl (lv_room (Nat.le_of_ble_eq_true rfl)) dX1_add_17 ⟨Nat.le_of_ble_eq_true rfl, Nat.le_of_ble_eq_true rfl⟩) hS (fun q _ h => hFc q h) hFc (fun r_7 u t H1 locs ht hvm hw hB hz1 hk1 hS => ?_)
    rw [fX1_fail] at hw
    cases hw
    obtain ⟨hP1, hK1, hD1⟩ := hB
    rw [ht] at hP1
    obtain ⟨hP, hD⟩ := va_join (wr := []) (w1 := (mW mh0 mh1 mh2 mh3 mc1 mc2 mc3 mk1 mk2 mk3 1 mf1 mf2 mf3 mf4 mf5 mf6 mf7 mf8 mf9)) hP hD [0, 1, 2, 3] [] rfl rfl (by decide) (by decide) hk1 hFc hP1 hD1
    generalize H1 = H at hP hS ⊢
    have hP : va_P (dC, dI) vwCl (mW mh0 mh1 mh2 mh3 mc1 mc2 mc3 mk1 mk2 mk3 1 mf1 mf2 mf3 mf4 mf5 mf6 mf7 mf8 mf9) H := hP
    have hD : va_D A (mW mh0 mh1 mh2 mh3 mc1 mc2 mc3 mk1 mk2 mk3 1 mf1 mf2 mf3 mf4 mf5 mf6 mf7 mf8 mf9) := hD
    exact W.iret (v := 0) hx hb hr (fun t ht hW => ⟨⟨0, (mk1, mk2, mk3, 1, mf1, mf2, mf3, mf4, mf5, mf6, mf7, mf8, mf9), rfl, (by rw [fX1_add, if_pos c_1]), by rw [ht]; exact hP, va_K.moved hW.alike hK, hD⟩, hS.F ht⟩) hS.2.2 dX1_add_20
