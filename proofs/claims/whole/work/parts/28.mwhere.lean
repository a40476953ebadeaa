def fX1_where (mk1 mk2 mk3 : Nat → Int32) (mf0 mf1 mf2 mf3 mf4 mf5 mf6 mf7 mf8 mf9 : Int32) (p0 p1 : Int32) : Int32 × Int32 × mWS :=
  if (fX1_isThere mf1 mf2 p0) = 0 then (0, 0, (mk1, mk2, mk3, 1, mf1, mf2, mf3, mf4, mf5, mf6, mf7, mf8, mf9))
  else if p1 < 0 then (0, 0, (mk1, mk2, mk3, 1, mf1, mf2, mf3, mf4, mf5, mf6, mf7, mf8, mf9))
    else if p1 < (fX1_words mk1 mk2 p0) then (if p0 = (-1) then (0, 4, (mk1, mk2, mk3, 0, mf1, mf2, mf3, mf4, mf5, mf6, mf7, mf8, mf9))
        else if mf9 = 0 then (if mf1 = 3 then (if 4 ≤ (((fX1_home mk1 mk2 mk3 mf1 mf2 p0) / 4) + p1) then (0, (-1), (mk1, mk2, mk3, 0, mf1, mf2, mf3, mf4, mf5, mf6, mf7, mf8, mf9))
              else (0, (4 + (((fX1_home mk1 mk2 mk3 mf1 mf2 p0) / 4) + p1)), (mk1, mk2, mk3, 0, mf1, mf2, mf3, mf4, mf5, mf6, mf7, mf8, mf9)))
            else if 2 ≤ p0 then (if 4 ≤ (((fX1_home mk1 mk2 mk3 mf1 mf2 p0) / 4) + p1) then (0, (-1), (mk1, mk2, mk3, 0, mf1, mf2, mf3, mf4, mf5, mf6, mf7, mf8, mf9))
                else (0, (4 + (((fX1_home mk1 mk2 mk3 mf1 mf2 p0) / 4) + p1)), (mk1, mk2, mk3, 0, mf1, mf2, mf3, mf4, mf5, mf6, mf7, mf8, mf9)))
              else if (fX1_isFraction mk1 0) = 0 then (if 4 ≤ (((fX1_home mk1 mk2 mk3 mf1 mf2 p0) / 4) + p1) then (0, (-1), (mk1, mk2, mk3, 0, mf1, mf2, mf3, mf4, mf5, mf6, mf7, mf8, mf9))
                  else (0, (4 + (((fX1_home mk1 mk2 mk3 mf1 mf2 p0) / 4) + p1)), (mk1, mk2, mk3, 0, mf1, mf2, mf3, mf4, mf5, mf6, mf7, mf8, mf9)))
                else if (fX1_isFraction mk1 p0) = 0 then (if 4 ≤ (((fX1_home mk1 mk2 mk3 mf1 mf2 p0) / 4) + p1) then (0, (-1), (mk1, mk2, mk3, 0, mf1, mf2, mf3, mf4, mf5, mf6, mf7, mf8, mf9))
                    else (0, (4 + (((fX1_home mk1 mk2 mk3 mf1 mf2 p0) / 4) + p1)), (mk1, mk2, mk3, 0, mf1, mf2, mf3, mf4, mf5, mf6, mf7, mf8, mf9)))
                  else if (mk1 (p0 : Int32).toNatClampNeg) = 2 then (if p1 = 0 then (0, ((44 + (2 * p0)) + 1), (mk1, mk2, mk3, 0, mf1, mf2, mf3, mf4, mf5, mf6, mf7, mf8, mf9))
                      else (0, (44 + (2 * p0)), (mk1, mk2, mk3, 0, mf1, mf2, mf3, mf4, mf5, mf6, mf7, mf8, mf9)))
                    else (0, (44 + (2 * p0)), (mk1, mk2, mk3, 0, mf1, mf2, mf3, mf4, mf5, mf6, mf7, mf8, mf9)))
          else if 4 ≤ (((fX1_home mk1 mk2 mk3 mf1 mf2 p0) / 4) + p1) then (0, (-1), (mk1, mk2, mk3, 0, mf1, mf2, mf3, mf4, mf5, mf6, mf7, mf8, mf9))
            else (0, (4 + (((fX1_home mk1 mk2 mk3 mf1 mf2 p0) / 4) + p1)), (mk1, mk2, mk3, 0, mf1, mf2, mf3, mf4, mf5, mf6, mf7, mf8, mf9)))
      else (0, 0, (mk1, mk2, mk3, 1, mf1, mf2, mf3, mf4, mf5, mf6, mf7, mf8, mf9))

abbrev wsX1_where : List Cond := .code yX1_where cX1_where 5 (some .int) :: wG
set_option maxHeartbeats 4000000 in
set_option maxRecDepth 100000 in
theorem mX1_where (l : Launch) (dC : Nat → ClassId) (dI : Nat → Nat → Nat) (mh0 mh1 mh2 mh3 : Nat) (sz : Nat) (mc1 mc2 mc3 : ClassId) (mk1 mk2 mk3 : Nat → Int32) (mf0 mf1 mf2 mf3 mf4 mf5 mf6 mf7 mf8 mf9 : Int32) (p0 p1 : Int32) (hN : mf2.toNatClampNeg ≤ 60) : Met l yX1_where wsX1_where ({ frames := 2, cells := 0, slots := 0, locals := 44 }) (va_Pc [.ref mh0, .int p0, .int p1] (fun U => U.heap.size = sz ∧ va_P (dC, dI) vwCl (mW mh0 mh1 mh2 mh3 mc1 mc2 mc3 mk1 mk2 mk3 mf0 mf1 mf2 mf3 mf4 mf5 mf6 mf7 mf8 mf9) U.heap ∧ va_K (dC, dI) vwCl [(mc1, .int), (mc2, .int), (mc3, .int)] U ∧ va_D (fun _ => True) (mW mh0 mh1 mh2 mh3 mc1 mc2 mc3 mk1 mk2 mk3 mf0 mf1 mf2 mf3 mf4 mf5 mf6 mf7 mf8 mf9))) (va_Qi (fun r u => (0, r, u) = fX1_where mk1 mk2 mk3 mf0 mf1 mf2 mf3 mf4 mf5 mf6 mf7 mf8 mf9 p0 p1) (mWB dC dI (va_A (mW mh0 mh1 mh2 mh3 mc1 mc2 mc3 mk1 mk2 mk3 mf0 mf1 mf2 mf3 mf4 mf5 mf6 mf7 mf8 mf9) sz) mh0 mh1 mh2 mh3 mc1 mc2 mc3) (va_A (mW mh0 mh1 mh2 mh3 mc1 mc2 mc3 mk1 mk2 mk3 mf0 mf1 mf2 mf3 mf4 mf5 mf6 mf7 mf8 mf9) sz)) 0 0 (va_A (mW mh0 mh1 mh2 mh3 mc1 mc2 mc3 mk1 mk2 mk3 mf0 mf1 mf2 mf3 mf4 mf5 mf6 mf7 mf8 mf9) sz) := by
  refine Met.ofW (cc := cX1_where) (maxL := 5) (ret := (some .int)) (by decide) rfl ?_
  intro p e s m args below meth c s₁ B hml hv
  obtain ⟨rfl, hsz, hP, hK, hD0⟩ := hv
  have hx := B.exec
  have hb := B.bytes
  have hr := B.returns
  have hts := atoms_spec (ws := wsX1_where) B.pre
  have htG := fun (w : Cond) (h : w ∈ wG) => hts w (List.mem_cons_of_mem _ h)
  have hown : s.vm.findClass RX1 = some m.cls := findClass_of_methodNamed B.named
  have hlocks := B.notSynchronized
  subst hsz
  have hD := hD0.self (sz := s.heap.size)
  generalize hAe : va_A (mW mh0 mh1 mh2 mh3 mc1 mc2 mc3 mk1 mk2 mk3 mf0 mf1 mf2 mf3 mf4 mf5 mf6 mf7 mf8 mf9) s.heap.size = A at hD ⊢
  have hA : ∀ q : Nat, s.heap.size ≤ q → A q := fun q h => by rw [← hAe]; exact Or.inr h
  have hS : va_S A s.heap s.heap [] := va_S.rf
  have hP : va_P (dC, dI) vwCl (mW mh0 mh1 mh2 mh3 mc1 mc2 mc3 mk1 mk2 mk3 mf0 mf1 mf2 mf3 mf4 mf5 mf6 mf7 mf8 mf9) s.heap := hP
  have hl := lv_entry ([.ref mh0, .int p0, .int p1]) (n := 5) (Nat.le_of_ble_eq_true rfl)
  rw [lg_entry_eq]
  generalize (lg_sl ([.ref mh0, .int p0, .int p1]) ++ List.replicate (5 - (lg_sl ([.ref mh0, .int p0, .int p1])).length) Slot.unset).toArray = ls at hl ⊢
  have hl : lv_has ls 5 [(0, .ref mh0), (1, .int p0), (2, .int p1)] := hl
  refine lv_aload_n hx hb dX1_where_0 rfl (lv_at hl 0 rfl) ?_
  refine lv_iconst (v := 0) hx hb dX1_where_1 (by decide) ?_
  refine va_put (D := (dC, dI)) (ci := 1) (v := .int 0) (ty := .int) (C := RX1) (T := TX1) (N := 13) hx hb htG inX1 tyX1 tyX1_ok nmX1 hown hK hP hD hS 0 rfl rfl 0 (by decide) (htG _ wd_331) (fun _ h9 => h9) rfl (by decide +kernel) rfl rfl (Nat.le_of_ble_eq_true rfl) dX1_where_2 (fun H locs hP hD hS => ?_)
  have hP : va_P (dC, dI) vwCl (mW mh0 mh1 mh2 mh3 mc1 mc2 mc3 mk1 mk2 mk3 0 mf1 mf2 mf3 mf4 mf5 mf6 mf7 mf8 mf9) H := hP
  have hD : va_D A (mW mh0 mh1 mh2 mh3 mc1 mc2 mc3 mk1 mk2 mk3 0 mf1 mf2 mf3 mf4 mf5 mf6 mf7 mf8 mf9) := hD
  refine lv_aload_n hx hb dX1_where_5 rfl (lv_at hl 0 rfl) ?_
  refine lv_iload_n hx hb dX1_where_6 rfl (lv_at hl 1 rfl) ?_
  refine vp_callSi (va_runV (As := [.int p0]) (rest := []) ⟨hx, hb, hml, hown, htG⟩ (mX1_isThere l dC dI mh0 mh1 mh2 mh3 mc1 mc2 mc3 mk1 mk2 mk3 0 mf1 mf2 mf3 mf4 mf5 mf6 mf7 mf8 mf9 p0) (cwV 1 htG (wG_V wd_411 wd_413 wd_15 wd_23 wd_414) rfl rfl rfl (by decide +kernel) ⟨Nat.le_of_ble_eq_true rfl, Nat.le_of_ble_eq_true rfl⟩) ⟨fun a U g mk q => by obtain ⟨q0, qP, qK⟩ := q; exact ⟨q0, qP, va_K.moved (u := U) (U := U.calling g mk a) (Vm.Alike.refl U.vm) qK⟩, va_recv hK hP (ci := 1) (q0 := 0) rfl rfl, fun U hU hW => ⟨rfl, by rw [hU]; exact hP, va_K.moved hW.alike hK⟩⟩ rfl rfl hl.1 rfl (lv_room (Nat.le_of_ble_eq_true rfl)) dX1_where_7 ⟨Nat.le_of_ble_eq_true rfl, Nat.le_of_ble_eq_true rfl⟩).run (fun r_1 er_1 => ?_)
  subst er_1
  refine lv_if_eq (tgt := 26) hx hb dX1_where_10 (by decide) (fun c_1 => ?_) (fun c_1 => ?_)
  · refine lv_aload_n hx hb dX1_where_26 rfl (lv_at hl 0 rfl) ?_
    refine lv_iconst (v := 1) hx hb dX1_where_27 (by decide) ?_
    have hFc := va_free (wc := (mW mh0 mh1 mh2 mh3 mc1 mc2 mc3 mk1 mk2 mk3 0 mf1 mf2 mf3 mf4 mf5 mf6 mf7 mf8 mf9)) hD hS hA [0, 1, 2, 3] rfl
    refine va_calli (va_runV (As := [.int 1]) (rest := []) ⟨hx, hb, hml, hown, htG⟩ (mX1_fail l dC dI mh0 mh1 mh2 mh3 H.size mc1 mc2 mc3 mk1 mk2 mk3 0 mf1 mf2 mf3 mf4 mf5 mf6 mf7 mf8 mf9 1) (cwV 1 htG (wG_V wd_387 wd_389 wd_11 wd_23 wd_390) rfl rfl rfl (by decide +kernel) ⟨Nat.le_of_ble_eq_true rfl, Nat.le_of_ble_eq_true rfl⟩) ⟨fun a U g mk q => by obtain ⟨q0, q1, qP, qK, qD⟩ := q; exact ⟨q0, q1, qP, va_K.moved (u := U) (U := U.calling g mk a) (Vm.Alike.refl U.vm) qK, qD⟩, va_recv hK hP (ci := 1) (q0 := 0) rfl rfl, fun U hU hW => ⟨rfl, by rw [hU], by rw [hU]; exact hP, va_K.moved hW.alike hK, hD.weaken (fun _ _ _ _ => trivial)⟩⟩ rfl rfl hl.1 rfl (lv_room (Nat.le_of_ble_eq_true rfl)) dX1_where_28 ⟨Nat.le_of_ble_eq_true rfl, Nat.le_of_ble_eq_true rfl⟩) hS (fun q _ h => hFc q h) hFc (fun r_2 u t H1 locs ht hvm hw hB hz1 hk1 hS => ?_)
    rw [fX1_fail] at hw
    cases hw
    obtain ⟨hP1, hK1, hD1⟩ := hB
    rw [ht] at hP1
    obtain ⟨hP, hD⟩ := va_join (wr := []) (w1 := (mW mh0 mh1 mh2 mh3 mc1 mc2 mc3 mk1 mk2 mk3 1 mf1 mf2 mf3 mf4 mf5 mf6 mf7 mf8 mf9)) hP hD [0, 1, 2, 3] [] rfl rfl (by decide) (by decide) hk1 hFc hP1 hD1
    generalize H1 = H at hP hS ⊢
    have hP : va_P (dC, dI) vwCl (mW mh0 mh1 mh2 mh3 mc1 mc2 mc3 mk1 mk2 mk3 1 mf1 mf2 mf3 mf4 mf5 mf6 mf7 mf8 mf9) H := hP
    have hD : va_D A (mW mh0 mh1 mh2 mh3 mc1 mc2 mc3 mk1 mk2 mk3 1 mf1 mf2 mf3 mf4 mf5 mf6 mf7 mf8 mf9) := hD
    exact W.iret (v := 0) hx hb hr (fun t ht hW => ⟨⟨0, (mk1, mk2, mk3, 1, mf1, mf2, mf3, mf4, mf5, mf6, mf7, mf8, mf9), rfl, (by rw [fX1_where, if_pos c_1]), by rw [ht]; exact hP, va_K.moved hW.alike hK, hD⟩, hS.F ht⟩) hS.2.2 dX1_where_31
  · refine lv_iload_n hx hb dX1_where_13 rfl (lv_at hl 2 rfl) ?_
    refine lv_if_lt (tgt := 26) hx hb dX1_where_14 (by decide) (fun c_2 => ?_) (fun c_2 => ?_)
    · refine lv_aload_n hx hb dX1_where_26 rfl (lv_at hl 0 rfl) ?_
      refine lv_iconst (v := 1) hx hb dX1_where_27 (by decide) ?_
      have hFc := va_free (wc := (mW mh0 mh1 mh2 mh3 mc1 mc2 mc3 mk1 mk2 mk3 0 mf1 mf2 mf3 mf4 mf5 mf6 mf7 mf8 mf9)) hD hS hA [0, 1, 2, 3] rfl
      refine va_calli (va_runV (As := [.int 1]) (rest := []) ⟨hx, hb, hml, hown, htG⟩ (mX1_fail l dC dI mh0 mh1 mh2 mh3 H.size mc1 mc2 mc3 mk1 mk2 mk3 0 mf1 mf2 mf3 mf4 mf5 mf6 mf7 mf8 mf9 1) (cwV 1 htG (wG_V wd_387 wd_389 wd_11 wd_23 wd_390) rfl rfl rfl (by decide +kernel) ⟨Nat.le_of_ble_eq_true rfl, Nat.le_of_ble_eq_true rfl⟩) ⟨fun a U g mk q => by obtain ⟨q0, q1, qP, qK, qD⟩ := q; exact ⟨q0, q1, qP, va_K.moved (u := U) (U := U.calling g mk a) (Vm.Alike.refl U.vm) qK, qD⟩, va_recv hK hP (ci := 1) (q0 := 0) rfl rfl, fun U hU hW => ⟨rfl, by rw [hU], by rw [hU]; exact hP, va_K.moved hW.alike hK, hD.weaken (fun _ _ _ _ => trivial)⟩⟩ rfl rfl hl.1 rfl (lv_room (Nat.le_of_ble_eq_true rfl)) dX1_where_28 ⟨Nat.le_of_ble_eq_true rfl, Nat.le_of_ble_eq_true rfl⟩) hS (fun q _ h => hFc q h) hFc (fun r_3 u t H1 locs ht hvm hw hB hz1 hk1 hS => ?_)
      rw [fX1_fail] at hw
      cases hw
      obtain ⟨hP1, hK1, hD1⟩ := hB
      rw [ht] at hP1
      obtain ⟨hP, hD⟩ := va_join (wr := []) (w1 := (mW mh0 mh1 mh2 mh3 mc1 mc2 mc3 mk1 mk2 mk3 1 mf1 mf2 mf3 mf4 mf5 mf6 mf7 mf8 mf9)) hP hD [0, 1, 2, 3] [] rfl rfl (by decide) (by decide) hk1 hFc hP1 hD1
      generalize H1 = H at hP hS ⊢
      have hP : va_P (dC, dI) vwCl (mW mh0 mh1 mh2 mh3 mc1 mc2 mc3 mk1 mk2 mk3 1 mf1 mf2 mf3 mf4 mf5 mf6 mf7 mf8 mf9) H := hP
      have hD : va_D A (mW mh0 mh1 mh2 mh3 mc1 mc2 mc3 mk1 mk2 mk3 1 mf1 mf2 mf3 mf4 mf5 mf6 mf7 mf8 mf9) := hD
      exact W.iret (v := 0) hx hb hr (fun t ht hW => ⟨⟨0, (mk1, mk2, mk3, 1, mf1, mf2, mf3, mf4, mf5, mf6, mf7, mf8, mf9), rfl, (by rw [fX1_where, if_neg c_1, if_pos c_2]), by rw [ht]; exact hP, va_K.moved hW.alike hK, hD⟩, hS.F ht⟩) hS.2.2 dX1_where_31
    · refine lv_iload_n hx hb dX1_where_17 rfl (lv_at hl 2 rfl) ?_
      refine lv_aload_n hx hb dX1_where_18 rfl (lv_at hl 0 rfl) ?_
      refine lv_iload_n hx hb dX1_where_19 rfl (lv_at hl 1 rfl) ?_
      refine vp_callSi (va_runV (As := [.int p0]) (rest := [.int p1]) ⟨hx, hb, hml, hown, htG⟩ (mX1_words l dC dI mh0 mh1 mh2 mh3 mc1 mc2 mc3 mk1 mk2 mk3 0 mf1 mf2 mf3 mf4 mf5 mf6 mf7 mf8 mf9 p0 (isThere_in hN c_1)) (cwV 1 htG (wG_V wd_415 wd_417 wd_16 wd_23 wd_418) rfl rfl rfl (by decide +kernel) ⟨Nat.le_of_ble_eq_true rfl, Nat.le_of_ble_eq_true rfl⟩) ⟨fun a U g mk q => by obtain ⟨q0, qP, qK⟩ := q; exact ⟨q0, qP, va_K.moved (u := U) (U := U.calling g mk a) (Vm.Alike.refl U.vm) qK⟩, va_recv hK hP (ci := 1) (q0 := 0) rfl rfl, fun U hU hW => ⟨rfl, by rw [hU]; exact hP, va_K.moved hW.alike hK⟩⟩ rfl rfl hl.1 rfl (lv_room (Nat.le_of_ble_eq_true rfl)) dX1_where_20 ⟨Nat.le_of_ble_eq_true rfl, Nat.le_of_ble_eq_true rfl⟩).run (fun r_4 er_4 => ?_)
      subst er_4
      refine lv_icmp_lt (tgt := 32) hx hb dX1_where_23 (by decide) (fun c_3 => ?_) (fun c_3 => ?_)
      · refine lv_iload_n hx hb dX1_where_32 rfl (lv_at hl 1 rfl) ?_
        refine lv_iconst (v := (-1)) hx hb dX1_where_33 (by decide) ?_
        refine lv_icmp_ne (tgt := 39) hx hb dX1_where_34 (by decide) (fun c_4 => ?_) (fun c_4 => ?_)
        · refine lv_aload_n hx hb dX1_where_39 rfl (lv_at hl 0 rfl) ?_
          refine va_get (D := (dC, dI)) (ci := 1) (v := .int mf9) (C := RX1) (T := TX1) (N := 13) hx hb htG inX1 hown hK hP 0 rfl rfl 9 (by decide) (htG _ wd_340) (fun _ h9 => h9) rfl dX1_where_40 ?_
          refine lv_if_ne (tgt := 79) hx hb dX1_where_43 (by decide) (fun c_5 => ?_) (fun c_5 => ?_)
          · refine lv_iconst (v := 0) hx hb dX1_where_79 (by decide) ?_
            refine lv_istore_n (lv' := [(3, .int 0), (0, .ref mh0), (1, .int p0), (2, .int p1)]) hx hb dX1_where_80 rfl hl (by decide) rfl (fun ls hl => ?_)
            refine lv_iload_n hx hb dX1_where_81 rfl (lv_at hl 0 rfl) ?_
            refine lv_if_eq (tgt := 117) hx hb dX1_where_82 (by decide) (fun c_6 => ?_) (fun c_6 => ?_)
            · refine lv_aload_n hx hb dX1_where_117 rfl (lv_at hl 1 rfl) ?_
              refine lv_iload_n hx hb dX1_where_118 rfl (lv_at hl 2 rfl) ?_
              refine vp_callSi (va_runV (As := [.int p0]) (rest := []) ⟨hx, hb, hml, hown, htG⟩ (mX1_home l dC dI mh0 mh1 mh2 mh3 mc1 mc2 mc3 mk1 mk2 mk3 0 mf1 mf2 mf3 mf4 mf5 mf6 mf7 mf8 mf9 p0 (in_le (isThere_in hN c_1 c_4)) (fun _ => (isThere_in hN c_1 c_4))) (cwV 1 htG (wG_V wd_391 wd_393 wd_12 wd_23 wd_394) rfl rfl rfl (by decide +kernel) ⟨Nat.le_of_ble_eq_true rfl, Nat.le_of_ble_eq_true rfl⟩) ⟨fun a U g mk q => by obtain ⟨q0, qP, qK⟩ := q; exact ⟨q0, qP, va_K.moved (u := U) (U := U.calling g mk a) (Vm.Alike.refl U.vm) qK⟩, va_recv hK hP (ci := 1) (q0 := 0) rfl rfl, fun U hU hW => ⟨rfl, by rw [hU]; exact hP, va_K.moved hW.alike hK⟩⟩ rfl rfl hl.1 rfl (lv_room (Nat.le_of_ble_eq_true rfl)) dX1_where_119 ⟨Nat.le_of_ble_eq_true rfl, Nat.le_of_ble_eq_true rfl⟩).run (fun r_5 er_5 => ?_)
              subst er_5
              refine lv_iconst (v := 4) hx hb dX1_where_122 (by decide) ?_
              refine lv_idiv hx hb dX1_where_123 (by decide) ?_
              refine lv_iload_n hx hb dX1_where_124 rfl (lv_at hl 3 rfl) ?_
              refine lv_iadd hx hb dX1_where_125 ?_
              refine lv_istore (lv' := [(4, .int (((fX1_home mk1 mk2 mk3 mf1 mf2 p0) / 4) + p1)), (3, .int 0), (0, .ref mh0), (1, .int p0), (2, .int p1)]) hx hb dX1_where_126 hl (by decide) rfl (fun ls hl => ?_)
              refine lv_iload hx hb dX1_where_128 (lv_at hl 0 rfl) ?_
              refine lv_iconst (v := 4) hx hb dX1_where_130 (by decide) ?_
              refine lv_icmp_ge (tgt := 141) hx hb dX1_where_131 (by decide) (fun c_7 => ?_) (fun c_7 => ?_)
              · refine lv_iconst (v := (-1)) hx hb dX1_where_141 (by decide) ?_
                exact W.iret (v := (-1)) hx hb hr (fun t ht hW => ⟨⟨(-1), (mk1, mk2, mk3, 0, mf1, mf2, mf3, mf4, mf5, mf6, mf7, mf8, mf9), rfl, (by rw [fX1_where, if_neg c_1, if_neg c_2, if_pos c_3, if_neg c_4, if_neg c_5, if_pos c_7]), by rw [ht]; exact hP, va_K.moved hW.alike hK, hD⟩, hS.F ht⟩) hS.2.2 dX1_where_142
              · refine lv_iconst (v := 4) hx hb dX1_where_134 (by decide) ?_
                refine lv_iload hx hb dX1_where_135 (lv_at hl 0 rfl) ?_
                refine lv_iadd hx hb dX1_where_137 ?_
                refine lv_goto (tgt := 142) hx hb dX1_where_138 (by decide) ?_
                exact W.iret (v := (4 + (((fX1_home mk1 mk2 mk3 mf1 mf2 p0) / 4) + p1))) hx hb hr (fun t ht hW => ⟨⟨(4 + (((fX1_home mk1 mk2 mk3 mf1 mf2 p0) / 4) + p1)), (mk1, mk2, mk3, 0, mf1, mf2, mf3, mf4, mf5, mf6, mf7, mf8, mf9), rfl, (by rw [fX1_where, if_neg c_1, if_neg c_2, if_pos c_3, if_neg c_4, if_neg c_5, if_neg c_7]), by rw [ht]; exact hP, va_K.moved hW.alike hK, hD⟩, hS.F ht⟩) hS.2.2 dX1_where_142
            · exact absurd c_6 (by decide)
          · refine lv_aload_n hx hb dX1_where_46 rfl (lv_at hl 0 rfl) ?_
            refine va_get (D := (dC, dI)) (ci := 1) (v := .int mf1) (C := RX1) (T := TX1) (N := 13) hx hb htG inX1 hown hK hP 0 rfl rfl 1 (by decide) (htG _ wd_332) (fun _ h9 => h9) rfl dX1_where_47 ?_
            refine lv_iconst (v := 3) hx hb dX1_where_50 (by decide) ?_
            refine lv_icmp_eq (tgt := 79) hx hb dX1_where_51 (by decide) (fun c_8 => ?_) (fun c_8 => ?_)
            · refine lv_iconst (v := 0) hx hb dX1_where_79 (by decide) ?_
              refine lv_istore_n (lv' := [(3, .int 0), (0, .ref mh0), (1, .int p0), (2, .int p1)]) hx hb dX1_where_80 rfl hl (by decide) rfl (fun ls hl => ?_)
              refine lv_iload_n hx hb dX1_where_81 rfl (lv_at hl 0 rfl) ?_
              refine lv_if_eq (tgt := 117) hx hb dX1_where_82 (by decide) (fun c_9 => ?_) (fun c_9 => ?_)
              · refine lv_aload_n hx hb dX1_where_117 rfl (lv_at hl 1 rfl) ?_
                refine lv_iload_n hx hb dX1_where_118 rfl (lv_at hl 2 rfl) ?_
                refine vp_callSi (va_runV (As := [.int p0]) (rest := []) ⟨hx, hb, hml, hown, htG⟩ (mX1_home l dC dI mh0 mh1 mh2 mh3 mc1 mc2 mc3 mk1 mk2 mk3 0 mf1 mf2 mf3 mf4 mf5 mf6 mf7 mf8 mf9 p0 (in_le (isThere_in hN c_1 c_4)) (fun _ => (isThere_in hN c_1 c_4))) (cwV 1 htG (wG_V wd_391 wd_393 wd_12 wd_23 wd_394) rfl rfl rfl (by decide +kernel) ⟨Nat.le_of_ble_eq_true rfl, Nat.le_of_ble_eq_true rfl⟩) ⟨fun a U g mk q => by obtain ⟨q0, qP, qK⟩ := q; exact ⟨q0, qP, va_K.moved (u := U) (U := U.calling g mk a) (Vm.Alike.refl U.vm) qK⟩, va_recv hK hP (ci := 1) (q0 := 0) rfl rfl, fun U hU hW => ⟨rfl, by rw [hU]; exact hP, va_K.moved hW.alike hK⟩⟩ rfl rfl hl.1 rfl (lv_room (Nat.le_of_ble_eq_true rfl)) dX1_where_119 ⟨Nat.le_of_ble_eq_true rfl, Nat.le_of_ble_eq_true rfl⟩).run (fun r_6 er_6 => ?_)
                subst er_6
                refine lv_iconst (v := 4) hx hb dX1_where_122 (by decide) ?_
                refine lv_idiv hx hb dX1_where_123 (by decide) ?_
                refine lv_iload_n hx hb dX1_where_124 rfl (lv_at hl 3 rfl) ?_
                refine lv_iadd hx hb dX1_where_125 ?_
                refine lv_istore (lv' := [(4, .int (((fX1_home mk1 mk2 mk3 mf1 mf2 p0) / 4) + p1)), (3, .int 0), (0, .ref mh0), (1, .int p0), (2, .int p1)]) hx hb dX1_where_126 hl (by decide) rfl (fun ls hl => ?_)
                refine lv_iload hx hb dX1_where_128 (lv_at hl 0 rfl) ?_
                refine lv_iconst (v := 4) hx hb dX1_where_130 (by decide) ?_
                refine lv_icmp_ge (tgt := 141) hx hb dX1_where_131 (by decide) (fun c_10 => ?_) (fun c_10 => ?_)
                · refine lv_iconst (v := (-1)) hx hb dX1_where_141 (by decide) ?_
                  exact W.iret (v := (-1)) hx hb hr (fun t ht hW => ⟨⟨(-1), (mk1, mk2, mk3, 0, mf1, mf2, mf3, mf4, mf5, mf6, mf7, mf8, mf9), rfl, (by rw [fX1_where, if_neg c_1, if_neg c_2, if_pos c_3, if_neg c_4, if_pos c_5, if_pos c_8, if_pos c_10]), by rw [ht]; exact hP, va_K.moved hW.alike hK, hD⟩, hS.F ht⟩) hS.2.2 dX1_where_142
                · refine lv_iconst (v := 4) hx hb dX1_where_134 (by decide) ?_
                  refine lv_iload hx hb dX1_where_135 (lv_at hl 0 rfl) ?_
                  refine lv_iadd hx hb dX1_where_137 ?_
                  refine lv_goto (tgt := 142) hx hb dX1_where_138 (by decide) ?_
                  exact W.iret (v := (4 + (((fX1_home mk1 mk2 mk3 mf1 mf2 p0) / 4) + p1))) hx hb hr (fun t ht hW => ⟨⟨(4 + (((fX1_home mk1 mk2 mk3 mf1 mf2 p0) / 4) + p1)), (mk1, mk2, mk3, 0, mf1, mf2, mf3, mf4, mf5, mf6, mf7, mf8, mf9), rfl, (by rw [fX1_where, if_neg c_1, if_neg c_2, if_pos c_3, if_neg c_4, if_pos c_5, if_pos c_8, if_neg c_10]), by rw [ht]; exact hP, va_K.moved hW.alike hK, hD⟩, hS.F ht⟩) hS.2.2 dX1_where_142
              · exact absurd c_9 (by decide)
            · refine lv_iload_n hx hb dX1_where_54 rfl (lv_at hl 1 rfl) ?_
              refine lv_iconst (v := 2) hx hb dX1_where_55 (by decide) ?_
              refine lv_icmp_ge (tgt := 79) hx hb dX1_where_56 (by decide) (fun c_11 => ?_) (fun c_11 => ?_)
              · refine lv_iconst (v := 0) hx hb dX1_where_79 (by decide) ?_
                refine lv_istore_n (lv' := [(3, .int 0), (0, .ref mh0), (1, .int p0), (2, .int p1)]) hx hb dX1_where_80 rfl hl (by decide) rfl (fun ls hl => ?_)
                refine lv_iload_n hx hb dX1_where_81 rfl (lv_at hl 0 rfl) ?_
                refine lv_if_eq (tgt := 117) hx hb dX1_where_82 (by decide) (fun c_12 => ?_) (fun c_12 => ?_)
                · refine lv_aload_n hx hb dX1_where_117 rfl (lv_at hl 1 rfl) ?_
                  refine lv_iload_n hx hb dX1_where_118 rfl (lv_at hl 2 rfl) ?_
                  refine vp_callSi (va_runV (As := [.int p0]) (rest := []) ⟨hx, hb, hml, hown, htG⟩ (mX1_home l dC dI mh0 mh1 mh2 mh3 mc1 mc2 mc3 mk1 mk2 mk3 0 mf1 mf2 mf3 mf4 mf5 mf6 mf7 mf8 mf9 p0 (in_le (isThere_in hN c_1 c_4)) (fun _ => (isThere_in hN c_1 c_4))) (cwV 1 htG (wG_V wd_391 wd_393 wd_12 wd_23 wd_394) rfl rfl rfl (by decide +kernel) ⟨Nat.le_of_ble_eq_true rfl, Nat.le_of_ble_eq_true rfl⟩) ⟨fun a U g mk q => by obtain ⟨q0, qP, qK⟩ := q; exact ⟨q0, qP, va_K.moved (u := U) (U := U.calling g mk a) (Vm.Alike.refl U.vm) qK⟩, va_recv hK hP (ci := 1) (q0 := 0) rfl rfl, fun U hU hW => ⟨rfl, by rw [hU]; exact hP, va_K.moved hW.alike hK⟩⟩ rfl rfl hl.1 rfl (lv_room (Nat.le_of_ble_eq_true rfl)) dX1_where_119 ⟨Nat.le_of_ble_eq_true rfl, Nat.le_of_ble_eq_true rfl⟩).run (fun r_7 er_7 => ?_)
                  subst er_7
                  refine lv_iconst (v := 4) hx hb dX1_where_122 (by decide) ?_
                  refine lv_idiv hx hb dX1_where_123 (by decide) ?_
                  refine lv_iload_n hx hb dX1_where_124 rfl (lv_at hl 3 rfl) ?_
                  refine lv_iadd hx hb dX1_where_125 ?_
                  refine lv_istore (lv' := [(4, .int (((fX1_home mk1 mk2 mk3 mf1 mf2 p0) / 4) + p1)), (3, .int 0), (0, .ref mh0), (1, .int p0), (2, .int p1)]) hx hb dX1_where_126 hl (by decide) rfl (fun ls hl => ?_)
                  refine lv_iload hx hb dX1_where_128 (lv_at hl 0 rfl) ?_
                  refine lv_iconst (v := 4) hx hb dX1_where_130 (by decide) ?_
                  refine lv_icmp_ge (tgt := 141) hx hb dX1_where_131 (by decide) (fun c_13 => ?_) (fun c_13 => ?_)
                  · refine lv_iconst (v := (-1)) hx hb dX1_where_141 (by decide) ?_
                    exact W.iret (v := (-1)) hx hb hr (fun t ht hW => ⟨⟨(-1), (mk1, mk2, mk3, 0, mf1, mf2, mf3, mf4, mf5, mf6, mf7, mf8, mf9), rfl, (by rw [fX1_where, if_neg c_1, if_neg c_2, if_pos c_3, if_neg c_4, if_pos c_5, if_neg c_8, if_pos c_11, if_pos c_13]), by rw [ht]; exact hP, va_K.moved hW.alike hK, hD⟩, hS.F ht⟩) hS.2.2 dX1_where_142
                  · refine lv_iconst (v := 4) hx hb dX1_where_134 (by decide) ?_
                    refine lv_iload hx hb dX1_where_135 (lv_at hl 0 rfl) ?_
                    refine lv_iadd hx hb dX1_where_137 ?_
                    refine lv_goto (tgt := 142) hx hb dX1_where_138 (by decide) ?_
                    exact W.iret (v := (4 + (((fX1_home mk1 mk2 mk3 mf1 mf2 p0) / 4) + p1))) hx hb hr (fun t ht hW => ⟨⟨(4 + (((fX1_home mk1 mk2 mk3 mf1 mf2 p0) / 4) + p1)), (mk1, mk2, mk3, 0, mf1, mf2, mf3, mf4, mf5, mf6, mf7, mf8, mf9), rfl, (by rw [fX1_where, if_neg c_1, if_neg c_2, if_pos c_3, if_neg c_4, if_pos c_5, if_neg c_8, if_pos c_11, if_neg c_13]), by rw [ht]; exact hP, va_K.moved hW.alike hK, hD⟩, hS.F ht⟩) hS.2.2 dX1_where_142
                · exact absurd c_12 (by decide)
              · refine lv_aload_n hx hb dX1_where_59 rfl (lv_at hl 0 rfl) ?_
                refine lv_iconst (v := 0) hx hb dX1_where_60 (by decide) ?_
                refine vp_callSi (va_runV (As := [.int 0]) (rest := []) ⟨hx, hb, hml, hown, htG⟩ (mX1_isFraction l dC dI mh0 mh1 mh2 mh3 mc1 mc2 mc3 mk1 mk2 mk3 0 mf1 mf2 mf3 mf4 mf5 mf6 mf7 mf8 mf9 0 in_0) (cwV 1 htG (wG_V wd_419 wd_421 wd_17 wd_23 wd_422) rfl rfl rfl (by decide +kernel) ⟨Nat.le_of_ble_eq_true rfl, Nat.le_of_ble_eq_true rfl⟩) ⟨fun a U g mk q => by obtain ⟨q0, qP, qK⟩ := q; exact ⟨q0, qP, va_K.moved (u := U) (U := U.calling g mk a) (Vm.Alike.refl U.vm) qK⟩, va_recv hK hP (ci := 1) (q0 := 0) rfl rfl, fun U hU hW => ⟨rfl, by rw [hU]; exact hP, va_K.moved hW.alike hK⟩⟩ rfl rfl hl.1 rfl (lv_room (Nat.le_of_ble_eq_true rfl)) dX1_where_61 ⟨Nat.le_of_ble_eq_true rfl, Nat.le_of_ble_eq_true rfl⟩).run (fun r_8 er_8 => ?_)
                subst er_8
                refine lv_if_eq (tgt := 79) hx hb dX1_where_64 (by decide) (fun c_14 => ?_) (fun c_14 => ?_)
                · refine lv_iconst (v := 0) hx hb dX1_where_79 (by decide) ?_
                  refine lv_istore_n (lv' := [(3, .int 0), (0, .ref mh0), (1, .int p0), (2, .int p1)]) hx hb dX1_where_80 rfl hl (by decide) rfl (fun ls hl => ?_)
                  refine lv_iload_n hx hb dX1_where_81 rfl (lv_at hl 0 rfl) ?_
                  refine lv_if_eq (tgt := 117) hx hb dX1_where_82 (by decide) (fun c_15 => ?_) (fun c_15 => ?_)
                  · refine lv_aload_n hx hb dX1_where_117 rfl (lv_at hl 1 rfl) ?_
                    refine lv_iload_n hx hb dX1_where_118 rfl (lv_at hl 2 rfl) ?_
                    refine vp_callSi (va_runV (As := [.int p0]) (rest := []) ⟨hx, hb, hml, hown, htG⟩ (mX1_home l dC dI mh0 mh1 mh2 mh3 mc1 mc2 mc3 mk1 mk2 mk3 0 mf1 mf2 mf3 mf4 mf5 mf6 mf7 mf8 mf9 p0 (in_le (isThere_in hN c_1 c_4)) (fun _ => (isThere_in hN c_1 c_4))) (cwV 1 htG (wG_V wd_391 wd_393 wd_12 wd_23 wd_394) rfl rfl rfl (by decide +kernel) ⟨Nat.le_of_ble_eq_true rfl, Nat.le_of_ble_eq_true rfl⟩) ⟨fun a U g mk q => by obtain ⟨q0, qP, qK⟩ := q; exact ⟨q0, qP, va_K.moved (u := U) (U := U.calling g mk a) (Vm.Alike.refl U.vm) qK⟩, va_recv hK hP (ci := 1) (q0 := 0) rfl rfl, fun U hU hW => ⟨rfl, by rw [hU]; exact hP, va_K.moved hW.alike hK⟩⟩ rfl rfl hl.1 rfl (lv_room (Nat.le_of_ble_eq_true rfl)) dX1_where_119 ⟨Nat.le_of_ble_eq_true rfl, Nat.le_of_ble_eq_true rfl⟩).run (fun r_9 er_9 => ?_)
                    subst er_9
                    refine lv_iconst (v := 4) hx hb dX1_where_122 (by decide) ?_
                    refine lv_idiv hx hb dX1_where_123 (by decide) ?_
                    refine lv_iload_n hx hb dX1_where_124 rfl (lv_at hl 3 rfl) ?_
                    refine lv_iadd hx hb dX1_where_125 ?_
                    refine lv_istore (lv' := [(4, .int (((fX1_home mk1 mk2 mk3 mf1 mf2 p0) / 4) + p1)), (3, .int 0), (0, .ref mh0), (1, .int p0), (2, .int p1)]) hx hb dX1_where_126 hl (by decide) rfl (fun ls hl => ?_)
                    refine lv_iload hx hb dX1_where_128 (lv_at hl 0 rfl) ?_
                    refine lv_iconst (v := 4) hx hb dX1_where_130 (by decide) ?_
                    refine lv_icmp_ge (tgt := 141) hx hb dX1_where_131 (by decide) (fun c_16 => ?_) (fun c_16 => ?_)
                    · refine lv_iconst (v := (-1)) hx hb dX1_where_141 (by decide) ?_
                      exact W.iret (v := (-1)) hx hb hr (fun t ht hW => ⟨⟨(-1), (mk1, mk2, mk3, 0, mf1, mf2, mf3, mf4, mf5, mf6, mf7, mf8, mf9), rfl, (by rw [fX1_where, if_neg c_1, if_neg c_2, if_pos c_3, if_neg c_4, if_pos c_5, if_neg c_8, if_neg c_11, if_pos c_14, if_pos c_16]), by rw [ht]; exact hP, va_K.moved hW.alike hK, hD⟩, hS.F ht⟩) hS.2.2 dX1_where_142
                    · refine lv_iconst (v := 4) hx hb dX1_where_134 (by decide) ?_
                      refine lv_iload hx hb dX1_where_135 (lv_at hl 0 rfl) ?_
                      refine lv_iadd hx hb dX1_where_137 ?_
                      refine lv_goto (tgt := 142) hx hb dX1_where_138 (by decide) ?_
                      exact W.iret (v := (4 + (((fX1_home mk1 mk2 mk3 mf1 mf2 p0) / 4) + p1))) hx hb hr (fun t ht hW => ⟨⟨(4 + (((fX1_home mk1 mk2 mk3 mf1 mf2 p0) / 4) + p1)), (mk1, mk2, mk3, 0, mf1, mf2, mf3, mf4, mf5, mf6, mf7, mf8, mf9), rfl, (by rw [fX1_where, if_neg c_1, if_neg c_2, if_pos c_3, if_neg c_4, if_pos c_5, if_neg c_8, if_neg c_11, if_pos c_14, if_neg c_16]), by rw [ht]; exact hP, va_K.moved hW.alike hK, hD⟩, hS.F ht⟩) hS.2.2 dX1_where_142
                  · exact absurd c_15 (by decide)
                · refine lv_aload_n hx hb dX1_where_67 rfl (lv_at hl 0 rfl) ?_
                  refine lv_iload_n hx hb dX1_where_68 rfl (lv_at hl 1 rfl) ?_
                  refine vp_callSi (va_runV (As := [.int p0]) (rest := []) ⟨hx, hb, hml, hown, htG⟩ (mX1_isFraction l dC dI mh0 mh1 mh2 mh3 mc1 mc2 mc3 mk1 mk2 mk3 0 mf1 mf2 mf3 mf4 mf5 mf6 mf7 mf8 mf9 p0 (isThere_in hN c_1 c_4)) (cwV 1 htG (wG_V wd_419 wd_421 wd_17 wd_23 wd_422) rfl rfl rfl (by decide +kernel) ⟨Nat.le_of_ble_eq_true rfl, Nat.le_of_ble_eq_true rfl⟩) ⟨fun a U g mk q => by obtain ⟨q0, qP, qK⟩ := q; exact ⟨q0, qP, va_K.moved (u := U) (U := U.calling g mk a) (Vm.Alike.refl U.vm) qK⟩, va_recv hK hP (ci := 1) (q0 := 0) rfl rfl, fun U hU hW => ⟨rfl, by rw [hU]; exact hP, va_K.moved hW.alike hK⟩⟩ rfl rfl hl.1 rfl (lv_room (Nat.le_of_ble_eq_true rfl)) dX1_where_69 ⟨Nat.le_of_ble_eq_true rfl, Nat.le_of_ble_eq_true rfl⟩).run (fun r_10 er_10 => ?_)
                  subst er_10
                  refine lv_if_eq (tgt := 79) hx hb dX1_where_72 (by decide) (fun c_17 => ?_) (fun c_17 => ?_)
                  · refine lv_iconst (v := 0) hx hb dX1_where_79 (by decide) ?_
                    refine lv_istore_n (lv' := [(3, .int 0), (0, .ref mh0), (1, .int p0), (2, .int p1)]) hx hb dX1_where_80 rfl hl (by decide) rfl (fun ls hl => ?_)
                    refine lv_iload_n hx hb dX1_where_81 rfl (lv_at hl 0 rfl) ?_
                    refine lv_if_eq (tgt := 117) hx hb dX1_where_82 (by decide) (fun c_18 => ?_) (fun c_18 => ?_)
                    · refine lv_aload_n hx hb dX1_where_117 rfl (lv_at hl 1 rfl) ?_
                      refine lv_iload_n hx hb dX1_where_118 rfl (lv_at hl 2 rfl) ?_
                      refine vp_callSi (va_runV (As := [.int p0]) (rest := []) ⟨hx, hb, hml, hown, htG⟩ (mX1_home l dC dI mh0 mh1 mh2 mh3 mc1 mc2 mc3 mk1 mk2 mk3 0 mf1 mf2 mf3 mf4 mf5 mf6 mf7 mf8 mf9 p0 (in_le (isThere_in hN c_1 c_4)) (fun _ => (isThere_in hN c_1 c_4))) (cwV 1 htG (wG_V wd_391 wd_393 wd_12 wd_23 wd_394) rfl rfl rfl (by decide +kernel) ⟨Nat.le_of_ble_eq_true rfl, Nat.le_of_ble_eq_true rfl⟩) ⟨fun a U g mk q => by obtain ⟨q0, qP, qK⟩ := q; exact ⟨q0, qP, va_K.moved (u := U) (U := U.calling g mk a) (Vm.Alike.refl U.vm) qK⟩, va_recv hK hP (ci := 1) (q0 := 0) rfl rfl, fun U hU hW => ⟨rfl, by rw [hU]; exact hP, va_K.moved hW.alike hK⟩⟩ rfl rfl hl.1 rfl (lv_room (Nat.le_of_ble_eq_true rfl)) dX1_where_119 ⟨Nat.le_of_ble_eq_true rfl, Nat.le_of_ble_eq_true rfl⟩).run (fun r_11 er_11 => ?_)
                      subst er_11
                      refine lv_iconst (v := 4) hx hb dX1_where_122 (by decide) ?_
                      refine lv_idiv hx hb dX1_where_123 (by decide) ?_
                      refine lv_iload_n hx hb dX1_where_124 rfl (lv_at hl 3 rfl) ?_
                      refine lv_iadd hx hb dX1_where_125 ?_
                      refine lv_istore (lv' := [(4, .int (((fX1_home mk1 mk2 mk3 mf1 mf2 p0) / 4) + p1)), (3, .int 0), (0, .ref mh0), (1, .int p0), (2, .int p1)]) hx hb dX1_where_126 hl (by decide) rfl (fun ls hl => ?_)
                      refine lv_iload hx hb dX1_where_128 (lv_at hl 0 rfl) ?_
                      refine lv_iconst (v := 4) hx hb dX1_where_130 (by decide) ?_
                      refine lv_icmp_ge (tgt := 141) hx hb dX1_where_131 (by decide) (fun c_19 => ?_) (fun c_19 => ?_)
                      · refine lv_iconst (v := (-1)) hx hb dX1_where_141 (by decide) ?_
                        exact W.iret (v := (-1)) hx hb hr (fun t ht hW => ⟨⟨(-1), (mk1, mk2, mk3, 0, mf1, mf2, mf3, mf4, mf5, mf6, mf7, mf8, mf9), rfl, (by rw [fX1_where, if_neg c_1, if_neg c_2, if_pos c_3, if_neg c_4, if_pos c_5, if_neg c_8, if_neg c_11, if_neg c_14, if_pos c_17, if_pos c_19]), by rw [ht]; exact hP, va_K.moved hW.alike hK, hD⟩, hS.F ht⟩) hS.2.2 dX1_where_142
                      · refine lv_iconst (v := 4) hx hb dX1_where_134 (by decide) ?_
                        refine lv_iload hx hb dX1_where_135 (lv_at hl 0 rfl) ?_
                        refine lv_iadd hx hb dX1_where_137 ?_
                        refine lv_goto (tgt := 142) hx hb dX1_where_138 (by decide) ?_
                        exact W.iret (v := (4 + (((fX1_home mk1 mk2 mk3 mf1 mf2 p0) / 4) + p1))) hx hb hr (fun t ht hW => ⟨⟨(4 + (((fX1_home mk1 mk2 mk3 mf1 mf2 p0) / 4) + p1)), (mk1, mk2, mk3, 0, mf1, mf2, mf3, mf4, mf5, mf6, mf7, mf8, mf9), rfl, (by rw [fX1_where, if_neg c_1, if_neg c_2, if_pos c_3, if_neg c_4, if_pos c_5, if_neg c_8, if_neg c_11, if_neg c_14, if_pos c_17, if_neg c_19]), by rw [ht]; exact hP, va_K.moved hW.alike hK, hD⟩, hS.F ht⟩) hS.2.2 dX1_where_142
                    · exact absurd c_18 (by decide)
                  · refine lv_iconst (v := 1) hx hb dX1_where_75 (by decide) ?_
                    refine lv_goto (tgt := 80) hx hb dX1_where_76 (by decide) ?_
                    refine lv_istore_n (lv' := [(3, .int 1), (0, .ref mh0), (1, .int p0), (2, .int p1)]) hx hb dX1_where_80 rfl hl (by decide) rfl (fun ls hl => ?_)
                    refine lv_iload_n hx hb dX1_where_81 rfl (lv_at hl 0 rfl) ?_
                    refine lv_if_eq (tgt := 117) hx hb dX1_where_82 (by decide) (fun c_20 => ?_) (fun c_20 => ?_)
                    · exact absurd c_20 (by decide)
                    · refine lv_bipush (v := 44) hx hb dX1_where_85 (by decide) ?_
                      refine lv_iconst (v := 2) hx hb dX1_where_87 (by decide) ?_
                      refine lv_iload_n hx hb dX1_where_88 rfl (lv_at hl 2 rfl) ?_
                      refine lv_imul hx hb dX1_where_89 ?_
                      refine lv_iadd hx hb dX1_where_90 ?_
                      refine lv_istore (lv' := [(4, .int (44 + (2 * p0))), (3, .int 1), (0, .ref mh0), (1, .int p0), (2, .int p1)]) hx hb dX1_where_91 hl (by decide) rfl (fun ls hl => ?_)
                      refine lv_aload_n hx hb dX1_where_93 rfl (lv_at hl 2 rfl) ?_
                      refine va_get (D := (dC, dI)) (ci := 1) (v := .ref mh1) (C := RX1) (T := TX1) (N := 13) hx hb htG inX1 hown hK hP 0 rfl rfl 10 (by decide) (htG _ wd_341) (fun _ h9 => h9) rfl dX1_where_94 ?_
                      refine lv_iload_n hx hb dX1_where_97 rfl (lv_at hl 3 rfl) ?_
                      refine va_iald hx hb hK hP 1 0 rfl rfl (isThere_in hN c_1 c_4) dX1_where_98 ?_
                      refine lv_iconst (v := 2) hx hb dX1_where_99 (by decide) ?_
                      refine lv_icmp_ne (tgt := 114) hx hb dX1_where_100 (by decide) (fun c_21 => ?_) (fun c_21 => ?_)
                      · refine lv_iload hx hb dX1_where_114 (lv_at hl 0 rfl) ?_
                        exact W.iret (v := (44 + (2 * p0))) hx hb hr (fun t ht hW => ⟨⟨(44 + (2 * p0)), (mk1, mk2, mk3, 0, mf1, mf2, mf3, mf4, mf5, mf6, mf7, mf8, mf9), rfl, (by rw [fX1_where, if_neg c_1, if_neg c_2, if_pos c_3, if_neg c_4, if_pos c_5, if_neg c_8, if_neg c_11, if_neg c_14, if_neg c_17, if_neg c_21]), by rw [ht]; exact hP, va_K.moved hW.alike hK, hD⟩, hS.F ht⟩) hS.2.2 dX1_where_116
                      · refine lv_iload_n hx hb dX1_where_103 rfl (lv_at hl 4 rfl) ?_
                        refine lv_if_ne (tgt := 114) hx hb dX1_where_104 (by decide) (fun c_22 => ?_) (fun c_22 => ?_)
                        · refine lv_iload hx hb dX1_where_114 (lv_at hl 0 rfl) ?_
                          exact W.iret (v := (44 + (2 * p0))) hx hb hr (fun t ht hW => ⟨⟨(44 + (2 * p0)), (mk1, mk2, mk3, 0, mf1, mf2, mf3, mf4, mf5, mf6, mf7, mf8, mf9), rfl, (by rw [fX1_where, if_neg c_1, if_neg c_2, if_pos c_3, if_neg c_4, if_pos c_5, if_neg c_8, if_neg c_11, if_neg c_14, if_neg c_17, if_pos c_21, if_neg c_22]), by rw [ht]; exact hP, va_K.moved hW.alike hK, hD⟩, hS.F ht⟩) hS.2.2 dX1_where_116
                        · refine lv_iload hx hb dX1_where_107 (lv_at hl 0 rfl) ?_
                          refine lv_iconst (v := 1) hx hb dX1_where_109 (by decide) ?_
                          refine lv_iadd hx hb dX1_where_110 ?_
                          refine lv_goto (tgt := 116) hx hb dX1_where_111 (by decide) ?_
                          exact W.iret (v := ((44 + (2 * p0)) + 1)) hx hb hr (fun t ht hW => ⟨⟨((44 + (2 * p0)) + 1), (mk1, mk2, mk3, 0, mf1, mf2, mf3, mf4, mf5, mf6, mf7, mf8, mf9), rfl, (by rw [fX1_where, if_neg c_1, if_neg c_2, if_pos c_3, if_neg c_4, if_pos c_5, if_neg c_8, if_neg c_11, if_neg c_14, if_neg c_17, if_pos c_21, if_pos c_22]), by rw [ht]; exact hP, va_K.moved hW.alike hK, hD⟩, hS.F ht⟩) hS.2.2 dX1_where_116
        · refine lv_iconst (v := 4) hx hb dX1_where_37 (by decide) ?_
          exact W.iret (v := 4) hx hb hr (fun t ht hW => ⟨⟨4, (mk1, mk2, mk3, 0, mf1, mf2, mf3, mf4, mf5, mf6, mf7, mf8, mf9), rfl, (by rw [fX1_where, if_neg c_1, if_neg c_2, if_pos c_3, if_pos c_4]), by rw [ht]; exact hP, va_K.moved hW.alike hK, hD⟩, hS.F ht⟩) hS.2.2 dX1_where_38
      · refine lv_aload_n hx hb dX1_where_26 rfl (lv_at hl 0 rfl) ?_
        refine lv_iconst (v := 1) hx hb dX1_where_27 (by decide) ?_
        have hFc := va_free (wc := (mW mh0 mh1 mh2 mh3 mc1 mc2 mc3 mk1 mk2 mk3 0 mf1 mf2 mf3 mf4 mf5 mf6 mf7 mf8 mf9)) hD hS hA [0, 1, 2, 3] rfl
        refine va_calli (va_runV (As := [.int 1]) (rest := []) ⟨hx, hb, hml, hown, htG⟩ (mX1_fail l dC dI mh0 mh1 mh2 mh3 H.size mc1 mc2 mc3 mk1 mk2 mk3 0 mf1 mf2 mf3 mf4 mf5 mf6 mf7 mf8 mf9 1) (cwV 1 htG (wG_V wd_387 wd_389 wd_11 wd_23 wd_390) rfl rfl rfl (by decide +kernel) ⟨Nat.le_of_ble_eq_true rfl, Nat.le_of_ble_eq_true rfl⟩) ⟨fun a U g mk q => by obtain ⟨q0, q1, qP, qK, qD⟩ := q; exact ⟨q0, q1, qP, va_K.moved (u := U) (U := U.calling g mk a) (Vm.Alike.refl U.vm) qK, qD⟩, va_recv hK hP (ci := 1) (q0 := 0) rfl rfl, fun U hU hW => ⟨rfl, by rw [hU], by rw [hU]; exact hP, va_K.moved hW.alike hK, hD.weaken (fun _ _ _ _ => trivial)⟩⟩ rfl rfl hl.1 rfl (lv_room (Nat.le_of_ble_eq_true rfl)) dX1_where_28 ⟨Nat.le_of_ble_eq_true rfl, Nat.le_of_ble_eq_true rfl⟩) hS (fun q _ h => hFc q h) hFc (fun r_12 u t H1 locs ht hvm hw hB hz1 hk1 hS => ?_)
        rw [fX1_fail] at hw
        cases hw
        obtain ⟨hP1, hK1, hD1⟩ := hB
        rw [ht] at hP1
        obtain ⟨hP, hD⟩ := va_join (wr := []) (w1 := (mW mh0 mh1 mh2 mh3 mc1 mc2 mc3 mk1 mk2 mk3 1 mf1 mf2 mf3 mf4 mf5 mf6 mf7 mf8 mf9)) hP hD [0, 1, 2, 3] [] rfl rfl (by decide) (by decide) hk1 hFc hP1 hD1
        generalize H1 = H at hP hS ⊢
        have hP : va_P (dC, dI) vwCl (mW mh0 mh1 mh2 mh3 mc1 mc2 mc3 mk1 mk2 mk3 1 mf1 mf2 mf3 mf4 mf5 mf6 mf7 mf8 mf9) H := hP
        have hD : va_D A (mW mh0 mh1 mh2 mh3 mc1 mc2 mc3 mk1 mk2 mk3 1 mf1 mf2 mf3 mf4 mf5 mf6 mf7 mf8 mf9) := hD
        exact W.iret (v := 0) hx hb hr (fun t ht hW => ⟨⟨0, (mk1, mk2, mk3, 1, mf1, mf2, mf3, mf4, mf5, mf6, mf7, mf8, mf9), rfl, (by rw [fX1_where, if_neg c_1, if_neg c_2, if_neg c_3]), by rw [ht]; exact hP, va_K.moved hW.alike hK, hD⟩, hS.F ht⟩) hS.2.2 dX1_where_31

def fX1_place (mk1 mk2 mk3 : Nat → Int32) (mf0 mf1 mf2 mf3 mf4 mf5 mf6 mf7 mf8 mf9 : Int32) (p0 p1 : Int32) : Int32 × Int32 × mWS :=
  if p0 < 0 then (0, 0, (mk1, mk2, mk3, 1, mf1, mf2, mf3, mf4, mf5, mf6, mf7, mf8, mf9))
  else if 2 < p0 then (0, 0, (mk1, mk2, mk3, 1, mf1, mf2, mf3, mf4, mf5, mf6, mf7, mf8, mf9))
    else if p1 < 0 then (0, 0, (mk1, mk2, mk3, 1, mf1, mf2, mf3, mf4, mf5, mf6, mf7, mf8, mf9))
      else if p1 ≤ 31 then (if p0 = 0 then (0, mf8, (mk1, mk2, mk3, 0, mf1, mf2, mf3, mf4, mf5, mf6, mf7, mf8, mf9))
          else if p0 = 1 then (if ((mf5 >>> (p1 &&& 31)) &&& 1) = 0 then (0, (-1), (mk1, mk2, mk3, 0, mf1, mf2, mf3, mf4, mf5, mf6, mf7, mf8, mf9))
              else (0, ((fX1_generalAt mf6 mf7 mf8) + (fX1_saved mf5 p1 4)), (mk1, mk2, mk3, 0, mf1, mf2, mf3, mf4, mf5, mf6, mf7, mf8, mf9)))
            else if ((mf6 >>> (p1 &&& 31)) &&& 1) = 0 then (0, (-1), (mk1, mk2, mk3, 0, mf1, mf2, mf3, mf4, mf5, mf6, mf7, mf8, mf9))
              else (0, ((fX1_fractionsAt mf7 mf8) + (fX1_saved mf6 p1 8)), (mk1, mk2, mk3, 0, mf1, mf2, mf3, mf4, mf5, mf6, mf7, mf8, mf9)))
        else (0, 0, (mk1, mk2, mk3, 1, mf1, mf2, mf3, mf4, mf5, mf6, mf7, mf8, mf9))

abbrev wsX1_place : List Cond := .code yX1_place cX1_place 4 (some .int) :: wG
set_option maxHeartbeats 4000000 in
set_option maxRecDepth 100000 in
theorem mX1_place (l : Launch) (dC : Nat → ClassId) (dI : Nat → Nat → Nat) (mh0 mh1 mh2 mh3 : Nat) (sz : Nat) (mc1 mc2 mc3 : ClassId) (mk1 mk2 mk3 : Nat → Int32) (mf0 mf1 mf2 mf3 mf4 mf5 mf6 mf7 mf8 mf9 : Int32) (p0 p1 : Int32)  : Met l yX1_place wsX1_place ({ frames := 3, cells := 0, slots := 0, locals := 61 }) (va_Pc [.ref mh0, .int p0, .int p1] (fun U => U.heap.size = sz ∧ va_P (dC, dI) vwCl (mW mh0 mh1 mh2 mh3 mc1 mc2 mc3 mk1 mk2 mk3 mf0 mf1 mf2 mf3 mf4 mf5 mf6 mf7 mf8 mf9) U.heap ∧ va_K (dC, dI) vwCl [(mc1, .int), (mc2, .int), (mc3, .int)] U ∧ va_D (fun _ => True) (mW mh0 mh1 mh2 mh3 mc1 mc2 mc3 mk1 mk2 mk3 mf0 mf1 mf2 mf3 mf4 mf5 mf6 mf7 mf8 mf9))) (va_Qi (fun r u => (0, r, u) = fX1_place mk1 mk2 mk3 mf0 mf1 mf2 mf3 mf4 mf5 mf6 mf7 mf8 mf9 p0 p1) (mWB dC dI (va_A (mW mh0 mh1 mh2 mh3 mc1 mc2 mc3 mk1 mk2 mk3 mf0 mf1 mf2 mf3 mf4 mf5 mf6 mf7 mf8 mf9) sz) mh0 mh1 mh2 mh3 mc1 mc2 mc3) (va_A (mW mh0 mh1 mh2 mh3 mc1 mc2 mc3 mk1 mk2 mk3 mf0 mf1 mf2 mf3 mf4 mf5 mf6 mf7 mf8 mf9) sz)) 0 0 (va_A (mW mh0 mh1 mh2 mh3 mc1 mc2 mc3 mk1 mk2 mk3 mf0 mf1 mf2 mf3 mf4 mf5 mf6 mf7 mf8 mf9) sz) := by
  refine Met.ofW (cc := cX1_place) (maxL := 4) (ret := (some .int)) (by decide) rfl ?_
  intro p e s m args below meth c s₁ B hml hv
  obtain ⟨rfl, hsz, hP, hK, hD0⟩ := hv
  have hx := B.exec
  have hb := B.bytes
  have hr := B.returns
  have hts := atoms_spec (ws := wsX1_place) B.pre
  have htG := fun (w : Cond) (h : w ∈ wG) => hts w (List.mem_cons_of_mem _ h)
  have hown : s.vm.findClass RX1 = some m.cls := findClass_of_methodNamed B.named
  have hlocks := B.notSynchronized
  subst hsz
  have hD := hD0.self (sz := s.heap.size)
  generalize hAe : va_A (mW mh0 mh1 mh2 mh3 mc1 mc2 mc3 mk1 mk2 mk3 mf0 mf1 mf2 mf3 mf4 mf5 mf6 mf7 mf8 mf9) s.heap.size = A at hD ⊢
  have hA : ∀ q : Nat, s.heap.size ≤ q → A q := fun q h => by rw [← hAe]; exact Or.inr h
  have hS : va_S A s.heap s.heap [] := va_S.rf
  have hP : va_P (dC, dI) vwCl (mW mh0 mh1 mh2 mh3 mc1 mc2 mc3 mk1 mk2 mk3 mf0 mf1 mf2 mf3 mf4 mf5 mf6 mf7 mf8 mf9) s.heap := hP
  have hl := lv_entry ([.ref mh0, .int p0, .int p1]) (n := 4) (Nat.le_of_ble_eq_true rfl)
  rw [lg_entry_eq]
  generalize (lg_sl ([.ref mh0, .int p0, .int p1]) ++ List.replicate (4 - (lg_sl ([.ref mh0, .int p0, .int p1])).length) Slot.unset).toArray = ls at hl ⊢
  have hl : lv_has ls 4 [(0, .ref mh0), (1, .int p0), (2, .int p1)] := hl
  refine lv_aload_n hx hb dX1_place_0 rfl (lv_at hl 0 rfl) ?_
  refine lv_iconst (v := 0) hx hb dX1_place_1 (by decide) ?_
  refine va_put (D := (dC, dI)) (ci := 1) (v := .int 0) (ty := .int) (C := RX1) (T := TX1) (N := 13) hx hb htG inX1 tyX1 tyX1_ok nmX1 hown hK hP hD hS 0 rfl rfl 0 (by decide) (htG _ wd_331) (fun _ h9 => h9) rfl (by decide +kernel) rfl rfl (Nat.le_of_ble_eq_true rfl) dX1_place_2 (fun H locs hP hD hS => ?_)
  have hP : va_P (dC, dI) vwCl (mW mh0 mh1 mh2 mh3 mc1 mc2 mc3 mk1 mk2 mk3 0 mf1 mf2 mf3 mf4 mf5 mf6 mf7 mf8 mf9) H := hP
  have hD : va_D A (mW mh0 mh1 mh2 mh3 mc1 mc2 mc3 mk1 mk2 mk3 0 mf1 mf2 mf3 mf4 mf5 mf6 mf7 mf8 mf9) := hD
  refine lv_iload_n hx hb dX1_place_5 rfl (lv_at hl 1 rfl) ?_
  refine lv_if_lt (tgt := 24) hx hb dX1_place_6 (by decide) (fun c_1 => ?_) (fun c_1 => ?_)
  · refine lv_aload_n hx hb dX1_place_24 rfl (lv_at hl 0 rfl) ?_
    refine lv_iconst (v := 1) hx hb dX1_place_25 (by decide) ?_
    have hFc := va_free (wc := (mW mh0 mh1 mh2 mh3 mc1 mc2 mc3 mk1 mk2 mk3 0 mf1 mf2 mf3 mf4 mf5 mf6 mf7 mf8 mf9)) hD hS hA [0, 1, 2, 3] rfl
    refine va_calli (va_runV (As := [.int 1]) (rest := []) ⟨hx, hb, hml, hown, htG⟩ (mX1_fail l dC dI mh0 mh1 mh2 mh3 H.size mc1 mc2 mc3 mk1 mk2 mk3 0 mf1 mf2 mf3 mf4 mf5 mf6 mf7 mf8 mf9 1) (cwV 1 htG (wG_V wd_387 wd_389 wd_11 wd_23 wd_390) rfl rfl rfl (by decide +kernel) ⟨Nat.le_of_ble_eq_true rfl, Nat.le_of_ble_eq_true rfl⟩) ⟨fun a U g mk q => by obtain ⟨q0, q1, qP, qK, qD⟩ := q; exact ⟨q0, q1, qP, va_K.moved (u := U) (U := U.calling g mk a) (Vm.Alike.refl U.vm) qK, qD⟩, va_recv hK hP (ci := 1) (q0 := 0) rfl rfl, fun U hU hW => ⟨rfl, by rw [hU], by rw [hU]; exact hP, va_K.moved hW.alike hK, hD.weaken (fun _ _ _ _ => trivial)⟩⟩ rfl rfl hl.1 rfl (lv_room (Nat.le_of_ble_eq_true rfl)) dX1_place_26 ⟨Nat.le_of_ble_eq_true rfl, Nat.le_of_ble_eq_true rfl⟩) hS (fun q _ h => hFc q h) hFc (fun r_1 u t H1 locs ht hvm hw hB hz1 hk1 hS => ?_)
    rw [fX1_fail] at hw
    cases hw
    obtain ⟨hP1, hK1, hD1⟩ := hB
    rw [ht] at hP1
    obtain ⟨hP, hD⟩ := va_join (wr := []) (w1 := (mW mh0 mh1 mh2 mh3 mc1 mc2 mc3 mk1 mk2 mk3 1 mf1 mf2 mf3 mf4 mf5 mf6 mf7 mf8 mf9)) hP hD [0, 1, 2, 3] [] rfl rfl (by decide) (by decide) hk1 hFc hP1 hD1
    generalize H1 = H at hP hS ⊢
    have hP : va_P (dC, dI) vwCl (mW mh0 mh1 mh2 mh3 mc1 mc2 mc3 mk1 mk2 mk3 1 mf1 mf2 mf3 mf4 mf5 mf6 mf7 mf8 mf9) H := hP
    have hD : va_D A (mW mh0 mh1 mh2 mh3 mc1 mc2 mc3 mk1 mk2 mk3 1 mf1 mf2 mf3 mf4 mf5 mf6 mf7 mf8 mf9) := hD
    exact W.iret (v := 0) hx hb hr (fun t ht hW => ⟨⟨0, (mk1, mk2, mk3, 1, mf1, mf2, mf3, mf4, mf5, mf6, mf7, mf8, mf9), rfl, (by rw [fX1_place, if_pos c_1]), by rw [ht]; exact hP, va_K.moved hW.alike hK, hD⟩, hS.F ht⟩) hS.2.2 dX1_place_29
  · refine lv_iload_n hx hb dX1_place_9 rfl (lv_at hl 1 rfl) ?_
    refine lv_iconst (v := 2) hx hb dX1_place_10 (by decide) ?_
    refine lv_icmp_gt (tgt := 24) hx hb dX1_place_11 (by decide) (fun c_2 => ?_) (fun c_2 => ?_)
    · refine lv_aload_n hx hb dX1_place_24 rfl (lv_at hl 0 rfl) ?_
      refine lv_iconst (v := 1) hx hb dX1_place_25 (by decide) ?_
      have hFc := va_free (wc := (mW mh0 mh1 mh2 mh3 mc1 mc2 mc3 mk1 mk2 mk3 0 mf1 mf2 mf3 mf4 mf5 mf6 mf7 mf8 mf9)) hD hS hA [0, 1, 2, 3] rfl
      refine va_calli (va_runV (As := [.int 1]) (rest := []) ⟨hx, hb, hml, hown, htG⟩ (mX1_fail l dC dI mh0 mh1 mh2 mh3 H.size mc1 mc2 mc3 mk1 mk2 mk3 0 mf1 mf2 mf3 mf4 mf5 mf6 mf7 mf8 mf9 1) (cwV 1 htG (wG_V wd_387 wd_389 wd_11 wd_23 wd_390) rfl rfl rfl (by decide +kernel) ⟨Nat.le_of_ble_eq_true rfl, Nat.le_of_ble_eq_true rfl⟩) ⟨fun a U g mk q => by obtain ⟨q0, q1, qP, qK, qD⟩ := q; exact ⟨q0, q1, qP, va_K.moved (u := U) (U := U.calling g mk a) (Vm.Alike.refl U.vm) qK, qD⟩, va_recv hK hP (ci := 1) (q0 := 0) rfl rfl, fun U hU hW => ⟨rfl, by rw [hU], by rw [hU]; exact hP, va_K.moved hW.alike hK, hD.weaken (fun _ _ _ _ => trivial)⟩⟩ rfl rfl hl.1 rfl (lv_room (Nat.le_of_ble_eq_true rfl)) dX1_place_26 ⟨Nat.le_of_ble_eq_true rfl, Nat.le_of_ble_eq_true rfl⟩) hS (fun q _ h => hFc q h) hFc (fun r_2 u t H1 locs ht hvm hw hB hz1 hk1 hS => ?_)
      rw [fX1_fail] at hw
      cases hw
      obtain ⟨hP1, hK1, hD1⟩ := hB
      rw [ht] at hP1
      obtain ⟨hP, hD⟩ := va_join (wr := []) (w1 := (mW mh0 mh1 mh2 mh3 mc1 mc2 mc3 mk1 mk2 mk3 1 mf1 mf2 mf3 mf4 mf5 mf6 mf7 mf8 mf9)) hP hD [0, 1, 2, 3] [] rfl rfl (by decide) (by decide) hk1 hFc hP1 hD1
      generalize H1 = H at hP hS ⊢
      have hP : va_P (dC, dI) vwCl (mW mh0 mh1 mh2 mh3 mc1 mc2 mc3 mk1 mk2 mk3 1 mf1 mf2 mf3 mf4 mf5 mf6 mf7 mf8 mf9) H := hP
      have hD : va_D A (mW mh0 mh1 mh2 mh3 mc1 mc2 mc3 mk1 mk2 mk3 1 mf1 mf2 mf3 mf4 mf5 mf6 mf7 mf8 mf9) := hD
      exact W.iret (v := 0) hx hb hr (fun t ht hW => ⟨⟨0, (mk1, mk2, mk3, 1, mf1, mf2, mf3, mf4, mf5, mf6, mf7, mf8, mf9), rfl, (by rw [fX1_place, if_neg c_1, if_pos c_2]), by rw [ht]; exact hP, va_K.moved hW.alike hK, hD⟩, hS.F ht⟩) hS.2.2 dX1_place_29
    · refine lv_iload_n hx hb dX1_place_14 rfl (lv_at hl 2 rfl) ?_
      refine lv_if_lt (tgt := 24) hx hb dX1_place_15 (by decide) (fun c_3 => ?_) (fun c_3 => ?_)
      · refine lv_aload_n hx hb dX1_place_24 rfl (lv_at hl 0 rfl) ?_
        refine lv_iconst (v := 1) hx hb dX1_place_25 (by decide) ?_
        have hFc := va_free (wc := (mW mh0 mh1 mh2 mh3 mc1 mc2 mc3 mk1 mk2 mk3 0 mf1 mf2 mf3 mf4 mf5 mf6 mf7 mf8 mf9)) hD hS hA [0, 1, 2, 3] rfl
        refine va_calli (va_runV (As := [.int 1]) (rest := []) ⟨hx, hb, hml, hown, htG⟩ (mX1_fail l dC dI mh0 mh1 mh2 mh3 H.size mc1 mc2 mc3 mk1 mk2 mk3 0 mf1 mf2 mf3 mf4 mf5 mf6 mf7 mf8 mf9 1) (cwV 1 htG (wG_V wd_387 wd_389 wd_11 wd_23 wd_390) rfl rfl rfl (by decide +kernel) ⟨Nat.le_of_ble_eq_true rfl, Nat.le_of_ble_eq_true rfl⟩) ⟨fun a U g mk q => by obtain ⟨q0, q1, qP, qK, qD⟩ := q; exact ⟨q0, q1, qP, va_K.moved (u := U) (U := U.calling g mk a) (Vm.Alike.refl U.vm) qK, qD⟩, va_recv hK hP (ci := 1) (q0 := 0) rfl rfl, fun U hU hW => ⟨rfl, by rw [hU], by rw [hU]; exact hP, va_K.moved hW.alike hK, hD.weaken (fun _ _ _ _ => trivial)⟩⟩ rfl rfl hl.1 rfl (lv_room (Nat.le_of_ble_eq_true rfl)) dX1_place_26 ⟨Nat.le_of_ble_eq_true rfl, Nat.le_of_ble_eq_true rfl⟩) hS (fun q _ h => hFc q h) hFc (fun r_3 u t H1 locs ht hvm hw hB hz1 hk1 hS => ?_)
        rw [fX1_fail] at hw
        cases hw
        obtain ⟨hP1, hK1, hD1⟩ := hB
        rw [ht] at hP1
        obtain ⟨hP, hD⟩ := va_join (wr := []) (w1 := (mW mh0 mh1 mh2 mh3 mc1 mc2 mc3 mk1 mk2 mk3 1 mf1 mf2 mf3 mf4 mf5 mf6 mf7 mf8 mf9)) hP hD [0, 1, 2, 3] [] rfl rfl (by decide) (by decide) hk1 hFc hP1 hD1
        generalize H1 = H at hP hS ⊢
        have hP : va_P (dC, dI) vwCl (mW mh0 mh1 mh2 mh3 mc1 mc2 mc3 mk1 mk2 mk3 1 mf1 mf2 mf3 mf4 mf5 mf6 mf7 mf8 mf9) H := hP
        have hD : va_D A (mW mh0 mh1 mh2 mh3 mc1 mc2 mc3 mk1 mk2 mk3 1 mf1 mf2 mf3 mf4 mf5 mf6 mf7 mf8 mf9) := hD
        exact W.iret (v := 0) hx hb hr (fun t ht hW => ⟨⟨0, (mk1, mk2, mk3, 1, mf1, mf2, mf3, mf4, mf5, mf6, mf7, mf8, mf9), rfl, (by rw [fX1_place, if_neg c_1, if_neg c_2, if_pos c_3]), by rw [ht]; exact hP, va_K.moved hW.alike hK, hD⟩, hS.F ht⟩) hS.2.2 dX1_place_29
      · refine lv_iload_n hx hb dX1_place_18 rfl (lv_at hl 2 rfl) ?_
        refine lv_bipush (v := 31) hx hb dX1_place_19 (by decide) ?_
        refine lv_icmp_le (tgt := 30) hx hb dX1_place_21 (by decide) (fun c_4 => ?_) (fun c_4 => ?_)
        · refine lv_iload_n hx hb dX1_place_30 rfl (lv_at hl 1 rfl) ?_
          refine lv_if_ne (tgt := 39) hx hb dX1_place_31 (by decide) (fun c_5 => ?_) (fun c_5 => ?_)
          · refine lv_iload_n hx hb dX1_place_39 rfl (lv_at hl 1 rfl) ?_
            refine lv_iconst (v := 1) hx hb dX1_place_40 (by decide) ?_
            refine lv_icmp_ne (tgt := 51) hx hb dX1_place_41 (by decide) (fun c_6 => ?_) (fun c_6 => ?_)
            · refine lv_aload_n hx hb dX1_place_51 rfl (lv_at hl 0 rfl) ?_
              refine va_get (D := (dC, dI)) (ci := 1) (v := .int mf6) (C := RX1) (T := TX1) (N := 13) hx hb htG inX1 hown hK hP 0 rfl rfl 6 (by decide) (htG _ wd_337) (fun _ h9 => h9) rfl dX1_place_52 ?_
              refine lv_istore_n (lv' := [(3, .int mf6), (0, .ref mh0), (1, .int p0), (2, .int p1)]) hx hb dX1_place_55 rfl hl (by decide) rfl (fun ls hl => ?_)
              refine lv_iload_n hx hb dX1_place_56 rfl (lv_at hl 0 rfl) ?_
              refine lv_iload_n hx hb dX1_place_57 rfl (lv_at hl 3 rfl) ?_
              refine lv_ishr hx hb dX1_place_58 ?_
              refine lv_iconst (v := 1) hx hb dX1_place_59 (by decide) ?_
              refine lv_iand hx hb dX1_place_60 ?_
              refine lv_if_ne (tgt := 66) hx hb dX1_place_61 (by decide) (fun c_7 => ?_) (fun c_7 => ?_)
              · refine lv_iload_n hx hb dX1_place_66 rfl (lv_at hl 2 rfl) ?_
                refine lv_iconst (v := 1) hx hb dX1_place_67 (by decide) ?_
                refine lv_icmp_ne (tgt := 85) hx hb dX1_place_68 (by decide) (fun c_8 => ?_) (fun c_8 => ?_)
                · refine lv_aload_n hx hb dX1_place_85 rfl (lv_at hl 1 rfl) ?_
                  refine vp_callSi (va_runV (As := []) (rest := []) ⟨hx, hb, hml, hown, htG⟩ (mX1_fractionsAt l dC dI mh0 mh1 mh2 mh3 mc1 mc2 mc3 mk1 mk2 mk3 0 mf1 mf2 mf3 mf4 mf5 mf6 mf7 mf8 mf9) (cwV 0 htG (wG_V wd_450 wd_452 wd_20 wd_23 wd_453) rfl rfl rfl (by decide +kernel) ⟨Nat.le_of_ble_eq_true rfl, Nat.le_of_ble_eq_true rfl⟩) ⟨fun a U g mk q => by obtain ⟨q0, qP, qK⟩ := q; exact ⟨q0, qP, va_K.moved (u := U) (U := U.calling g mk a) (Vm.Alike.refl U.vm) qK⟩, va_recv hK hP (ci := 1) (q0 := 0) rfl rfl, fun U hU hW => ⟨rfl, by rw [hU]; exact hP, va_K.moved hW.alike hK⟩⟩ rfl rfl hl.1 rfl (lv_room (Nat.le_of_ble_eq_true rfl)) dX1_place_86 ⟨Nat.le_of_ble_eq_true rfl, Nat.le_of_ble_eq_true rfl⟩).run (fun r_4 er_4 => ?_)
                  subst er_4
                  refine lv_iload_n hx hb dX1_place_89 rfl (lv_at hl 0 rfl) ?_
                  refine lv_iload_n hx hb dX1_place_90 rfl (lv_at hl 3 rfl) ?_
                  refine lv_bipush (v := 8) hx hb dX1_place_91 (by decide) ?_
                  refine vp_callSi (va_runS (As := [.int mf6, .int p1, .int 8]) (rest := [.int (fX1_fractionsAt mf7 mf8)]) ⟨hx, hb, hml, hown, htG⟩ (mX1_saved l mf6 p1 8) (va_cwS 3 htG (wG_S wd_454 wd_455 wd_23 wd_456) rfl rfl rfl (by decide +kernel) ⟨Nat.le_of_ble_eq_true rfl, Nat.le_of_ble_eq_true rfl⟩) ⟨fun _ _ _ _ q => q, fun U hU hW => ⟨rfl, trivial⟩⟩ rfl rfl hl.1 rfl (lv_room (Nat.le_of_ble_eq_true rfl)) dX1_place_93 ⟨Nat.le_of_ble_eq_true rfl, Nat.le_of_ble_eq_true rfl⟩).run (fun r_5 er_5 => ?_)
                  subst er_5
                  refine lv_iadd hx hb dX1_place_96 ?_
                  exact W.iret (v := ((fX1_fractionsAt mf7 mf8) + (fX1_saved mf6 p1 8))) hx hb hr (fun t ht hW => ⟨⟨((fX1_fractionsAt mf7 mf8) + (fX1_saved mf6 p1 8)), (mk1, mk2, mk3, 0, mf1, mf2, mf3, mf4, mf5, mf6, mf7, mf8, mf9), rfl, (by rw [fX1_place, if_neg c_1, if_neg c_2, if_neg c_3, if_pos c_4, if_neg c_5, if_neg c_6, if_neg c_7]), by rw [ht]; exact hP, va_K.moved hW.alike hK, hD⟩, hS.F ht⟩) hS.2.2 dX1_place_97
                · exact absurd c_8 c_6
              · refine lv_iconst (v := (-1)) hx hb dX1_place_64 (by decide) ?_
                exact W.iret (v := (-1)) hx hb hr (fun t ht hW => ⟨⟨(-1), (mk1, mk2, mk3, 0, mf1, mf2, mf3, mf4, mf5, mf6, mf7, mf8, mf9), rfl, (by rw [fX1_place, if_neg c_1, if_neg c_2, if_neg c_3, if_pos c_4, if_neg c_5, if_neg c_6, if_pos c_7]), by rw [ht]; exact hP, va_K.moved hW.alike hK, hD⟩, hS.F ht⟩) hS.2.2 dX1_place_65
            · refine lv_aload_n hx hb dX1_place_44 rfl (lv_at hl 0 rfl) ?_
              refine va_get (D := (dC, dI)) (ci := 1) (v := .int mf5) (C := RX1) (T := TX1) (N := 13) hx hb htG inX1 hown hK hP 0 rfl rfl 5 (by decide) (htG _ wd_336) (fun _ h9 => h9) rfl dX1_place_45 ?_
              refine lv_goto (tgt := 55) hx hb dX1_place_48 (by decide) ?_
              refine lv_istore_n (lv' := [(3, .int mf5), (0, .ref mh0), (1, .int p0), (2, .int p1)]) hx hb dX1_place_55 rfl hl (by decide) rfl (fun ls hl => ?_)
              refine lv_iload_n hx hb dX1_place_56 rfl (lv_at hl 0 rfl) ?_
              refine lv_iload_n hx hb dX1_place_57 rfl (lv_at hl 3 rfl) ?_
              refine lv_ishr hx hb dX1_place_58 ?_
              refine lv_iconst (v := 1) hx hb dX1_place_59 (by decide) ?_
              refine lv_iand hx hb dX1_place_60 ?_
              refine lv_if_ne (tgt := 66) hx hb dX1_place_61 (by decide) (fun c_9 => ?_) (fun c_9 => ?_)
              · refine lv_iload_n hx hb dX1_place_66 rfl (lv_at hl 2 rfl) ?_
                refine lv_iconst (v := 1) hx hb dX1_place_67 (by decide) ?_
                refine lv_icmp_ne (tgt := 85) hx hb dX1_place_68 (by decide) (fun c_10 => ?_) (fun c_10 => ?_)
                · exact absurd c_6 c_10
                · refine lv_aload_n hx hb dX1_place_71 rfl (lv_at hl 1 rfl) ?_
                  refine vp_callSi (va_runV (As := []) (rest := []) ⟨hx, hb, hml, hown, htG⟩ (mX1_generalAt l dC dI mh0 mh1 mh2 mh3 mc1 mc2 mc3 mk1 mk2 mk3 0 mf1 mf2 mf3 mf4 mf5 mf6 mf7 mf8 mf9) (cwV 0 htG (wG_V wd_446 wd_448 wd_19 wd_23 wd_449) rfl rfl rfl (by decide +kernel) ⟨Nat.le_of_ble_eq_true rfl, Nat.le_of_ble_eq_true rfl⟩) ⟨fun a U g mk q => by obtain ⟨q0, qP, qK⟩ := q; exact ⟨q0, qP, va_K.moved (u := U) (U := U.calling g mk a) (Vm.Alike.refl U.vm) qK⟩, va_recv hK hP (ci := 1) (q0 := 0) rfl rfl, fun U hU hW => ⟨rfl, by rw [hU]; exact hP, va_K.moved hW.alike hK⟩⟩ rfl rfl hl.1 rfl (lv_room (Nat.le_of_ble_eq_true rfl)) dX1_place_72 ⟨Nat.le_of_ble_eq_true rfl, Nat.le_of_ble_eq_true rfl⟩).run (fun r_6 er_6 => ?_)
                  subst er_6
                  refine lv_iload_n hx hb dX1_place_75 rfl (lv_at hl 0 rfl) ?_
                  refine lv_iload_n hx hb dX1_place_76 rfl (lv_at hl 3 rfl) ?_
                  refine lv_iconst (v := 4) hx hb dX1_place_77 (by decide) ?_
                  refine vp_callSi (va_runS (As := [.int mf5, .int p1, .int 4]) (rest := [.int (fX1_generalAt mf6 mf7 mf8)]) ⟨hx, hb, hml, hown, htG⟩ (mX1_saved l mf5 p1 4) (va_cwS 3 htG (wG_S wd_454 wd_455 wd_23 wd_456) rfl rfl rfl (by decide +kernel) ⟨Nat.le_of_ble_eq_true rfl, Nat.le_of_ble_eq_true rfl⟩) ⟨fun _ _ _ _ q => q, fun U hU hW => ⟨rfl, trivial⟩⟩ rfl rfl hl.1 rfl (lv_room (Nat.le_of_ble_eq_true rfl)) dX1_place_78 ⟨Nat.le_of_ble_eq_true rfl, Nat.le_of_ble_eq_true rfl⟩).run (fun r_7 er_7 => ?_)
                  subst er_7
                  refine lv_iadd hx hb dX1_place_81 ?_
                  refine lv_goto (tgt := 97) hx hb dX1_place_82 (by decide) ?_
                  exact W.iret (v := ((fX1_generalAt mf6 mf7 mf8) + (fX1_saved mf5 p1 4))) hx hb hr (fun t ht hW => ⟨⟨((fX1_generalAt mf6 mf7 mf8) + (fX1_saved mf5 p1 4)), (mk1, mk2, mk3, 0, mf1, mf2, mf3, mf4, mf5, mf6, mf7, mf8, mf9), rfl, (by rw [fX1_place, if_neg c_1, if_neg c_2, if_neg c_3, if_pos c_4, if_neg c_5, if_pos c_6, if_neg c_9]), by rw [ht]; exact hP, va_K.moved hW.alike hK, hD⟩, hS.F ht⟩) hS.2.2 dX1_place_97
              · refine lv_iconst (v := (-1)) hx hb dX1_place_64 (by decide) ?_
                exact W.iret (v := (-1)) hx hb hr (fun t ht hW => ⟨⟨(-1), (mk1, mk2, mk3, 0, mf1, mf2, mf3, mf4, mf5, mf6, mf7, mf8, mf9), rfl, (by rw [fX1_place, if_neg c_1, if_neg c_2, if_neg c_3, if_pos c_4, if_neg c_5, if_pos c_6, if_pos c_9]), by rw [ht]; exact hP, va_K.moved hW.alike hK, hD⟩, hS.F ht⟩) hS.2.2 dX1_place_65
          · refine lv_aload_n hx hb dX1_place_34 rfl (lv_at hl 0 rfl) ?_
            refine va_get (D := (dC, dI)) (ci := 1) (v := .int mf8) (C := RX1) (T := TX1) (N := 13) hx hb htG inX1 hown hK hP 0 rfl rfl 8 (by decide) (htG _ wd_339) (fun _ h9 => h9) rfl dX1_place_35 ?_
            exact W.iret (v := mf8) hx hb hr (fun t ht hW => ⟨⟨mf8, (mk1, mk2, mk3, 0, mf1, mf2, mf3, mf4, mf5, mf6, mf7, mf8, mf9), rfl, (by rw [fX1_place, if_neg c_1, if_neg c_2, if_neg c_3, if_pos c_4, if_pos c_5]), by rw [ht]; exact hP, va_K.moved hW.alike hK, hD⟩, hS.F ht⟩) hS.2.2 dX1_place_38
        · refine lv_aload_n hx hb dX1_place_24 rfl (lv_at hl 0 rfl) ?_
          refine lv_iconst (v := 1) hx hb dX1_place_25 (by decide) ?_
          have hFc := va_free (wc := (mW mh0 mh1 mh2 mh3 mc1 mc2 mc3 mk1 mk2 mk3 0 mf1 mf2 mf3 mf4 mf5 mf6 mf7 mf8 mf9)) hD hS hA [0, 1, 2, 3] rfl
          refine va_calli (va_runV (As := [.int 1]) (rest := []) ⟨hx, hb, hml, hown, htG⟩ (mX1_fail l dC dI mh0 mh1 mh2 mh3 H.size mc1 mc2 mc3 mk1 mk2 mk3 0 mf1 mf2 mf3 mf4 mf5 mf6 mf7 mf8 mf9 1) (cwV 1 htG (wG_V wd_387 wd_389 wd_11 wd_23 wd_390) rfl rfl rfl (by decide +kernel) ⟨Nat.le_of_ble_eq_true rfl, Nat.le_of_ble_eq_true rfl⟩) ⟨fun a U g mk q => by obtain ⟨q0, q1, qP, qK, qD⟩ := q; exact ⟨q0, q1, qP, va_K.moved (u := U) (U := U.calling g mk a) (Vm.Alike.refl U.vm) qK, qD⟩, va_recv hK hP (ci := 1) (q0 := 0) rfl rfl, fun U hU hW => ⟨rfl, by rw [hU], by rw [hU]; exact hP, va_K.moved hW.alike hK, hD.weaken (fun _ _ _ _ => trivial)⟩⟩ rfl rfl hl.1 rfl (lv_room (Nat.le_of_ble_eq_true rfl)) dX1_place_26 ⟨Nat.le_of_ble_eq_true rfl, Nat.le_of_ble_eq_true rfl⟩) hS (fun q _ h => hFc q h) hFc (fun r_8 u t H1 locs ht hvm hw hB hz1 hk1 hS => ?_)
          rw [fX1_fail] at hw
          cases hw
          obtain ⟨hP1, hK1, hD1⟩ := hB
          rw [ht] at hP1
          obtain ⟨hP, hD⟩ := va_join (wr := []) (w1 := (mW mh0 mh1 mh2 mh3 mc1 mc2 mc3 mk1 mk2 mk3 1 mf1 mf2 mf3 mf4 mf5 mf6 mf7 mf8 mf9)) hP hD [0, 1, 2, 3] [] rfl rfl (by decide) (by decide) hk1 hFc hP1 hD1
          generalize H1 = H at hP hS ⊢
          have hP : va_P (dC, dI) vwCl (mW mh0 mh1 mh2 mh3 mc1 mc2 mc3 mk1 mk2 mk3 1 mf1 mf2 mf3 mf4 mf5 mf6 mf7 mf8 mf9) H := hP
          have hD : va_D A (mW mh0 mh1 mh2 mh3 mc1 mc2 mc3 mk1 mk2 mk3 1 mf1 mf2 mf3 mf4 mf5 mf6 mf7 mf8 mf9) := hD
          exact W.iret (v := 0) hx hb hr (fun t ht hW => ⟨⟨0, (mk1, mk2, mk3, 1, mf1, mf2, mf3, mf4, mf5, mf6, mf7, mf8, mf9), rfl, (by rw [fX1_place, if_neg c_1, if_neg c_2, if_neg c_3, if_neg c_4]), by rw [ht]; exact hP, va_K.moved hW.alike hK, hD⟩, hS.F ht⟩) hS.2.2 dX1_place_29
